/-! ===== the model: a cabinet told ===== -/
def RD_ (σ : aS) (r' : aRw) (ok : Bool) : Option aV → aS → Prop := fun v τ => v = some (aI (if ok = true then 1 else 0)) ∧ (ok = true → τ = aRow σ 0 r') ∧ (¬ ok = true → τ = σ)
set_option maxRecDepth 10000 in
theorem cM_isDone (l : Launch) (x a b e : Int) (σ : aS) (hw : WF (σ 22 0)) (hd : σ 22 0 1 ≤ 999) (hx : dgF x ≠ 0) (h1 : 1 ≤ dgF x → 0 ≤ a ∧ a ≤ 9) (h2 : 2 ≤ dgF x → 0 ≤ b ∧ b ≤ 9) (h3 : 3 ≤ dgF x → 0 ≤ e ∧ e ≤ 9) (hN : NUM σ x a b e) : AM l 5 mX7_isDone [aR 21 0, aI x] σ (RD_ σ (doS (σ 22 0) x a b e) (okB (σ 22 0) x a b e)) := by
  have bn := hw.1
  have b1 := hw.2.1
  have hx6 := dgF_x hx
  have hdg : (x = 112 ∨ x = 107 → dgF x = 3) ∧ (x = 111 ∨ x = 104 ∨ x = 100 → dgF x = 2) ∧ (x = 101 → dgF x = 1) := by unfold dgF; refine ⟨fun q => if_pos q, fun q => ?_, fun q => ?_⟩ <;> (repeat' split) <;> omega
  refine am_of (by decide) (Nat.le_of_ble_eq_true rfl) (L := [some (aR 21 0), some (aI x), none, none]) rfl ?_
  refine aw_b kX7_ok bX7_isDone_0_ok (Cs := [0 < 1, 0 < 1, 0 ≤ 0 ∧ 0 < 3, 0 < 1, 0 < 1, 0 ≤ 1 ∧ 1 < 3]) (pc' := 15) (L' := [some (aR 21 0), some (aI x), some (aI (σ 23 0 0)), some (aI (σ 23 0 1))]) (st' := [aI x]) (σ' := σ) rfl (show (0 < 1) ∧ (0 < 1) ∧ (0 ≤ 0 ∧ 0 < 3) ∧ (0 < 1) ∧ (0 < 1) ∧ (0 ≤ 1 ∧ 1 < 3) from ⟨by omega, by omega, by omega, by omega, by omega, by omega⟩) ?_
  rcases (show x = 101 ∨ x = 102 ∨ x = 103 ∨ x = 104 ∨ x = 105 ∨ x = 106 ∨ x = 107 ∨ x = 108 ∨ x = 109 ∨ x = 110 ∨ x = 111 ∨ x = 112 ∨ (x < 101 ∨ 112 < x) by omega) with wh1 | wh1 | wh1 | wh1 | wh1 | wh1 | wh1 | wh1 | wh1 | wh1 | wh1 | wh1 | wh1
  · refine aw_tsw dX7_isDone_15 (tgt := 169) ⟨by omega, by omega⟩ (by decide) (by rw [wh1]; decide) ?_
    have wx : x = 101 := by omega
    have n101 := hN.2.2.1 (by omega)
    refine aw_b kX7_ok bX7_isDone_169_ok (Cs := []) (pc' := 170) (L' := [some (aR 21 0), some (aI x), some (aI (σ 23 0 0)), some (aI (σ 23 0 1))]) (st' := [aI (σ 23 0 0)]) (σ' := σ) rfl trivial ?_
    refine aw_bS lX7_125 (as := [aI (σ 23 0 0)]) (rest := []) (by decide) rfl (Nat.le_of_ble_eq_true rfl) rfl dX7_isDone_170 (cM_isOffice l (σ 23 0 0) σ ⟨by omega, by omega⟩) (fun wh2 => ?_) (fun wh2 => ?_)
    · refine aw_ine dX7_isDone_173 (tgt := 178) (by decide) ⟨by omega, by omega⟩ (fun wh3 => ?_) (fun wh3 => absurd wh3 (by decide))
      refine aw_b kX7_ok bX7_isDone_178_ok (Cs := [0 < 1, 0 < 4, 0 ≤ 8 + (σ 23 0 0) ∧ 8 + (σ 23 0 0) < 45]) (pc' := 190) (L' := [some (aR 21 0), some (aI x), some (aI (σ 23 0 0)), some (aI (σ 23 0 1))]) (st' := [aI 1]) (σ' := aUp σ 22 0 (8 + (σ 23 0 0)) (-4)) rfl (show (0 < 1) ∧ (0 < 4) ∧ (0 ≤ 8 + (σ 23 0 0) ∧ 8 + (σ 23 0 0) < 45) from ⟨by omega, by omega, by omega⟩) ?_
      exact aw_zret dX7_isDone_190 rfl (by omega) ⟨aret (by rw [wx]; exact (dT (by omega)).symm), fun _ => by rw [wx]; show _ = aRow σ 0 (emR (σ 22 0) a); unfold emR; rw [if_pos (by omega), n101, aUp_row], fun z => absurd (by rw [wx]; exact decide_eq_true (by omega)) z⟩
    · refine aw_ine dX7_isDone_173 (tgt := 178) (by decide) ⟨by omega, by omega⟩ (fun wh4 => absurd wh4 (by decide)) (fun wh4 => ?_)
      refine aw_b kX7_ok bX7_isDone_176_ok (Cs := []) (pc' := 177) (L' := [some (aR 21 0), some (aI x), some (aI (σ 23 0 0)), some (aI (σ 23 0 1))]) (st' := [aI 0]) (σ' := σ) rfl trivial ?_
      exact aw_zret dX7_isDone_177 rfl (by omega) ⟨aret (by rw [wx]; exact (dF (by omega)).symm), fun z => by rw [wx] at z; exact absurd (of_decide_eq_true z) (by omega), fun _ => rfl⟩
  · exfalso; omega
  · exfalso; omega
  · refine aw_tsw dX7_isDone_15 (tgt := 141) ⟨by omega, by omega⟩ (by decide) (by rw [wh1]; decide) ?_
    have wx : x = 104 := by omega
    have n104 := hN.2.1 (by omega)
    refine aw_b kX7_ok bX7_isDone_141_ok (Cs := []) (pc' := 142) (L' := [some (aR 21 0), some (aI x), some (aI (σ 23 0 0)), some (aI (σ 23 0 1))]) (st' := [aI (σ 23 0 0)]) (σ' := σ) rfl trivial ?_
    refine aw_bS lX7_125 (as := [aI (σ 23 0 0)]) (rest := []) (by decide) rfl (Nat.le_of_ble_eq_true rfl) rfl dX7_isDone_142 (cM_isOffice l (σ 23 0 0) σ ⟨by omega, by omega⟩) (fun wh5 => ?_) (fun wh5 => ?_)
    · refine aw_ieq dX7_isDone_145 (tgt := 156) (by decide) ⟨by omega, by omega⟩ (fun wh6 => absurd wh6 (by decide)) (fun wh6 => ?_)
      refine aw_b kX7_ok bX7_isDone_148_ok (Cs := []) (pc' := 150) (L' := [some (aR 21 0), some (aI x), some (aI (σ 23 0 0)), some (aI (σ 23 0 1))]) (st' := [aI (σ 23 0 1), aR 21 0]) (σ' := σ) rfl trivial ?_
      refine aw_bV lX7_128 (as := [aI (σ 23 0 1)]) (rest := []) (t := 21) (c := 0) (by decide) (by decide) (by decide) rfl rfl (Nat.le_of_ble_eq_true rfl) rfl dX7_isDone_150 (cM_isOne l (σ 23 0 1) σ ⟨by omega, by omega⟩ (by omega)) (fun wh7 => ?_) (fun wh7 => ?_)
      · refine aw_ine dX7_isDone_153 (tgt := 158) (by decide) ⟨by omega, by omega⟩ (fun wh8 => ?_) (fun wh8 => absurd wh8 (by decide))
        refine aw_b kX7_ok bX7_isDone_158_ok (Cs := [0 < 1]) (pc' := 164) (L' := [some (aR 21 0), some (aI x), some (aI (σ 23 0 0)), some (aI (σ 23 0 1))]) (st' := [aI (σ 23 0 1), aI (σ 23 0 0), aR 22 0]) (σ' := σ) rfl (show 0 < 1 from by omega) ?_
        refine aw_fS lX7_131 (as := [aR 22 0, aI (σ 23 0 0), aI (σ 23 0 1)]) (rest := []) (by decide) rfl (Nat.le_of_ble_eq_true rfl) rfl dX7_isDone_164 (cM_holdsIn l 0 (by decide) (σ 23 0 0) (σ 23 0 1) σ hw (by omega) (by omega) ⟨by omega, by omega⟩) ?_
        refine aw_b kX7_ok bX7_isDone_167_ok (Cs := []) (pc' := 168) (L' := [some (aR 21 0), some (aI x), some (aI (σ 23 0 0)), some (aI (σ 23 0 1))]) (st' := [aI 1]) (σ' := aRow σ 0 (hoR (σ 22 0) (σ 23 0 0) (σ 23 0 1))) rfl trivial ?_
        exact aw_zret dX7_isDone_168 rfl (by omega) ⟨aret (by rw [wx]; exact (dT (by omega)).symm), fun _ => by rw [wx]; show _ = aRow σ 0 (hoR (σ 22 0) a b); rw [n104.1, n104.2], fun z => absurd (by rw [wx]; exact decide_eq_true (by omega)) z⟩
      · refine aw_ine dX7_isDone_153 (tgt := 158) (by decide) ⟨by omega, by omega⟩ (fun wh9 => absurd wh9 (by decide)) (fun wh9 => ?_)
        refine aw_b kX7_ok bX7_isDone_156_ok (Cs := []) (pc' := 157) (L' := [some (aR 21 0), some (aI x), some (aI (σ 23 0 0)), some (aI (σ 23 0 1))]) (st' := [aI 0]) (σ' := σ) rfl trivial ?_
        exact aw_zret dX7_isDone_157 rfl (by omega) ⟨aret (by rw [wx]; exact (dF (by omega)).symm), fun z => by rw [wx] at z; exact absurd (of_decide_eq_true z) (by omega), fun _ => rfl⟩
    · refine aw_ieq dX7_isDone_145 (tgt := 156) (by decide) ⟨by omega, by omega⟩ (fun wh10 => ?_) (fun wh10 => absurd wh10 (by decide))
      refine aw_b kX7_ok bX7_isDone_156_ok (Cs := []) (pc' := 157) (L' := [some (aR 21 0), some (aI x), some (aI (σ 23 0 0)), some (aI (σ 23 0 1))]) (st' := [aI 0]) (σ' := σ) rfl trivial ?_
      exact aw_zret dX7_isDone_157 rfl (by omega) ⟨aret (by rw [wx]; exact (dF (by omega)).symm), fun z => by rw [wx] at z; exact absurd (of_decide_eq_true z) (by omega), fun _ => rfl⟩
  · exfalso; omega
  · exfalso; omega
  · refine aw_tsw dX7_isDone_15 (tgt := 191) ⟨by omega, by omega⟩ (by decide) (by rw [wh1]; decide) ?_
    have wx : x = 107 := by omega
    have n107 := hN.2.2.2.1 (by omega)
    refine aw_b kX7_ok bX7_isDone_191_ok (Cs := []) (pc' := 193) (L' := [some (aR 21 0), some (aI x), some (aI (σ 23 0 0)), some (aI (σ 23 0 1))]) (st' := [aI (σ 23 0 0), aR 21 0]) (σ' := σ) rfl trivial ?_
    refine aw_bV lX7_128 (as := [aI (σ 23 0 0)]) (rest := []) (t := 21) (c := 0) (by decide) (by decide) (by decide) rfl rfl (Nat.le_of_ble_eq_true rfl) rfl dX7_isDone_193 (cM_isOne l (σ 23 0 0) σ ⟨by omega, by omega⟩ (by omega)) (fun wh11 => ?_) (fun wh11 => ?_)
    · refine aw_ine dX7_isDone_196 (tgt := 201) (by decide) ⟨by omega, by omega⟩ (fun wh12 => ?_) (fun wh12 => absurd wh12 (by decide))
      have ba := aOf_rng (p := (σ 23 0 0)) (w := 2) (by omega) (by omega) (by decide) (by decide)
      refine aw_b kX7_ok bX7_isDone_201_ok (Cs := [0 < 1]) (pc' := 207) (L' := [some (aR 21 0), some (aI x), some (aI (σ 23 0 0)), some (aI (σ 23 0 1))]) (st' := [aI 2, aI (σ 23 0 0), aR 22 0]) (σ' := σ) rfl (show 0 < 1 from by omega) ?_
      refine aw_fS lX7_57 (as := [aI (σ 23 0 0), aI 2]) (rest := [aR 22 0]) (by decide) rfl (Nat.le_of_ble_eq_true rfl) rfl dX7_isDone_207 (cM_of l (σ 23 0 0) 2 σ) ?_
      refine aw_b kX7_ok bX7_isDone_210_ok (Cs := [0 < 4, 0 ≤ aOf (σ 23 0 0) 2 ∧ aOf (σ 23 0 0) 2 < 45]) (pc' := 213) (L' := [some (aR 21 0), some (aI x), some (aI (σ 23 0 0)), some (aI (σ 23 0 1))]) (st' := [aI 1]) (σ' := aUp σ 22 0 (aOf (σ 23 0 0) 2) (σ 23 0 1)) rfl (show (0 < 4) ∧ (0 ≤ aOf (σ 23 0 0) 2 ∧ aOf (σ 23 0 0) 2 < 45) from ⟨by omega, by omega⟩) ?_
      exact aw_zret dX7_isDone_213 rfl (by omega) ⟨aret (by rw [wx]; exact (dT (by omega)).symm), fun _ => by rw [wx]; show _ = aRow σ 0 (rUp (σ 22 0) (aOf a 2) (10 * b + e)); rw [n107.1, n107.2, aUp_row], fun z => absurd (by rw [wx]; exact decide_eq_true (by omega)) z⟩
    · refine aw_ine dX7_isDone_196 (tgt := 201) (by decide) ⟨by omega, by omega⟩ (fun wh13 => absurd wh13 (by decide)) (fun wh13 => ?_)
      refine aw_b kX7_ok bX7_isDone_199_ok (Cs := []) (pc' := 200) (L' := [some (aR 21 0), some (aI x), some (aI (σ 23 0 0)), some (aI (σ 23 0 1))]) (st' := [aI 0]) (σ' := σ) rfl trivial ?_
      exact aw_zret dX7_isDone_200 rfl (by omega) ⟨aret (by rw [wx]; exact (dF (by omega)).symm), fun z => by rw [wx] at z; exact absurd (of_decide_eq_true z) (by omega), fun _ => rfl⟩
  · exfalso; omega
  · exfalso; omega
  · exfalso; omega
  · refine aw_tsw dX7_isDone_15 (tgt := 121) ⟨by omega, by omega⟩ (by decide) (by rw [wh1]; decide) ?_
    have wx : x = 111 := by omega
    have n111 := hN.2.1 (by omega)
    refine aw_b kX7_ok bX7_isDone_121_ok (Cs := []) (pc' := 122) (L' := [some (aR 21 0), some (aI x), some (aI (σ 23 0 0)), some (aI (σ 23 0 1))]) (st' := [aI (σ 23 0 0)]) (σ' := σ) rfl trivial ?_
    refine aw_bS lX7_125 (as := [aI (σ 23 0 0)]) (rest := []) (by decide) rfl (Nat.le_of_ble_eq_true rfl) rfl dX7_isDone_122 (cM_isOffice l (σ 23 0 0) σ ⟨by omega, by omega⟩) (fun wh14 => ?_) (fun wh14 => ?_)
    · refine aw_ine dX7_isDone_125 (tgt := 130) (by decide) ⟨by omega, by omega⟩ (fun wh15 => ?_) (fun wh15 => absurd wh15 (by decide))
      refine aw_b kX7_ok bX7_isDone_130_ok (Cs := [0 < 1, 0 < 4, 0 ≤ 3 + (σ 23 0 0) ∧ 3 + (σ 23 0 0) < 45]) (pc' := 140) (L' := [some (aR 21 0), some (aI x), some (aI (σ 23 0 0)), some (aI (σ 23 0 1))]) (st' := [aI 1]) (σ' := aUp σ 22 0 (3 + (σ 23 0 0)) (σ 23 0 1)) rfl (show (0 < 1) ∧ (0 < 4) ∧ (0 ≤ 3 + (σ 23 0 0) ∧ 3 + (σ 23 0 0) < 45) from ⟨by omega, by omega, by omega⟩) ?_
      exact aw_zret dX7_isDone_140 rfl (by omega) ⟨aret (by rw [wx]; exact (dT (by omega)).symm), fun _ => by rw [wx]; show _ = aRow σ 0 (rUp (σ 22 0) (3 + a) b); rw [n111.1, n111.2, aUp_row], fun z => absurd (by rw [wx]; exact decide_eq_true (by omega)) z⟩
    · refine aw_ine dX7_isDone_125 (tgt := 130) (by decide) ⟨by omega, by omega⟩ (fun wh16 => absurd wh16 (by decide)) (fun wh16 => ?_)
      refine aw_b kX7_ok bX7_isDone_128_ok (Cs := []) (pc' := 129) (L' := [some (aR 21 0), some (aI x), some (aI (σ 23 0 0)), some (aI (σ 23 0 1))]) (st' := [aI 0]) (σ' := σ) rfl trivial ?_
      exact aw_zret dX7_isDone_129 rfl (by omega) ⟨aret (by rw [wx]; exact (dF (by omega)).symm), fun z => by rw [wx] at z; exact absurd (of_decide_eq_true z) (by omega), fun _ => rfl⟩
  · refine aw_tsw dX7_isDone_15 (tgt := 76) ⟨by omega, by omega⟩ (by decide) (by rw [wh1]; decide) ?_
    have wx : x = 112 := by omega
    have n112 := hN.1 (by omega)
    refine aw_b kX7_ok bX7_isDone_76_ok (Cs := []) (pc' := 79) (L' := [some (aR 21 0), some (aI x), some (aI (σ 23 0 0)), some (aI (σ 23 0 1))]) (st' := [aI 8, aI (σ 23 0 0)]) (σ' := σ) rfl trivial ?_
    refine aw_cge dX7_isDone_79 (tgt := 105) (by decide) ⟨by omega, by omega⟩ ⟨by omega, by omega⟩ (fun wh17 => ?_) (fun wh17 => ?_)
    · refine aw_b kX7_ok bX7_isDone_105_ok (Cs := []) (pc' := 106) (L' := [some (aR 21 0), some (aI x), some (aI (σ 23 0 0)), some (aI (σ 23 0 1))]) (st' := [aI 0]) (σ' := σ) rfl trivial ?_
      exact aw_zret dX7_isDone_106 rfl (by omega) ⟨aret (by rw [wx]; exact (dF (by omega)).symm), fun z => by rw [wx] at z; exact absurd (of_decide_eq_true z) (by omega), fun _ => rfl⟩
    · refine aw_b kX7_ok bX7_isDone_82_ok (Cs := [0 < 1, 0 < 1, 0 ≤ 2 ∧ 2 < 3]) (pc' := 88) (L' := [some (aR 21 0), some (aI x), some (aI (σ 23 0 0)), some (aI (σ 23 0 1))]) (st' := [aI (σ 23 0 2)]) (σ' := σ) rfl (show (0 < 1) ∧ (0 < 1) ∧ (0 ≤ 2 ∧ 2 < 3) from ⟨by omega, by omega, by omega⟩) ?_
      refine aw_bS lX7_117 (as := [aI (σ 23 0 2)]) (rest := []) (by decide) rfl (Nat.le_of_ble_eq_true rfl) rfl dX7_isDone_88 (cM_isMate l (σ 23 0 2) σ ⟨by omega, by omega⟩) (fun wh18 => ?_) (fun wh18 => ?_)
      · refine aw_ieq dX7_isDone_91 (tgt := 105) (by decide) ⟨by omega, by omega⟩ (fun wh19 => absurd wh19 (by decide)) (fun wh19 => ?_)
        refine aw_b kX7_ok bX7_isDone_94_ok (Cs := [0 < 1, 0 < 4, 0 ≤ 0 ∧ 0 < 45]) (pc' := 102) (L' := [some (aR 21 0), some (aI x), some (aI (σ 23 0 0)), some (aI (σ 23 0 1))]) (st' := [aI 8, aI (σ 22 0 0)]) (σ' := σ) rfl (show (0 < 1) ∧ (0 < 4) ∧ (0 ≤ 0 ∧ 0 < 45) from ⟨by omega, by omega, by omega⟩) ?_
        refine aw_cne dX7_isDone_102 (tgt := 107) (by decide) ⟨by omega, by omega⟩ ⟨by omega, by omega⟩ (fun wh20 => ?_) (fun wh20 => ?_)
        · refine aw_b kX7_ok bX7_isDone_107_ok (Cs := [0 < 1, 0 < 1, 0 ≤ 2 ∧ 2 < 3]) (pc' := 116) (L' := [some (aR 21 0), some (aI x), some (aI (σ 23 0 0)), some (aI (σ 23 0 1))]) (st' := [aI (σ 23 0 2), aI (σ 23 0 1), aI (σ 23 0 0), aR 21 0]) (σ' := σ) rfl (show (0 < 1) ∧ (0 < 1) ∧ (0 ≤ 2 ∧ 2 < 3) from ⟨by omega, by omega, by omega⟩) ?_
          refine aw_fV lX7_121 (as := [aI (σ 23 0 0), aI (σ 23 0 1), aI (σ 23 0 2)]) (rest := []) (t := 21) (c := 0) (by decide) (by decide) (by decide) rfl rfl (Nat.le_of_ble_eq_true rfl) rfl dX7_isDone_116 (cM_adds l (σ 23 0 0) (σ 23 0 1) (σ 23 0 2) σ hw (by omega)) ?_
          refine aw_b kX7_ok bX7_isDone_119_ok (Cs := []) (pc' := 120) (L' := [some (aR 21 0), some (aI x), some (aI (σ 23 0 0)), some (aI (σ 23 0 1))]) (st' := [aI 1]) (σ' := aRow σ 0 (adR (σ 22 0) (σ 23 0 0) (σ 23 0 1) (σ 23 0 2))) rfl trivial ?_
          exact aw_zret dX7_isDone_120 rfl (by omega) ⟨aret (by rw [wx]; exact (dT (by omega)).symm), fun _ => by rw [wx]; show _ = aRow σ 0 (adR (σ 22 0) a b e); rw [n112.1, n112.2.1, n112.2.2], fun z => absurd (by rw [wx]; exact decide_eq_true (by omega)) z⟩
        · refine aw_b kX7_ok bX7_isDone_105_ok (Cs := []) (pc' := 106) (L' := [some (aR 21 0), some (aI x), some (aI (σ 23 0 0)), some (aI (σ 23 0 1))]) (st' := [aI 0]) (σ' := σ) rfl trivial ?_
          exact aw_zret dX7_isDone_106 rfl (by omega) ⟨aret (by rw [wx]; exact (dF (by omega)).symm), fun z => by rw [wx] at z; exact absurd (of_decide_eq_true z) (by omega), fun _ => rfl⟩
      · refine aw_ieq dX7_isDone_91 (tgt := 105) (by decide) ⟨by omega, by omega⟩ (fun wh21 => ?_) (fun wh21 => absurd wh21 (by decide))
        refine aw_b kX7_ok bX7_isDone_105_ok (Cs := []) (pc' := 106) (L' := [some (aR 21 0), some (aI x), some (aI (σ 23 0 0)), some (aI (σ 23 0 1))]) (st' := [aI 0]) (σ' := σ) rfl trivial ?_
        exact aw_zret dX7_isDone_106 rfl (by omega) ⟨aret (by rw [wx]; exact (dF (by omega)).symm), fun z => by rw [wx] at z; exact absurd (of_decide_eq_true z) (by omega), fun _ => rfl⟩
  · refine aw_tsw dX7_isDone_15 (tgt := 214) ⟨by omega, by omega⟩ (by decide) (by unfold aTgt; rw [if_pos (by omega)]; rfl) ?_
    have wx : x = 100 := by omega
    have n100 := hN.2.2.2.2 (by omega)
    refine aw_b kX7_ok bX7_isDone_214_ok (Cs := []) (pc' := 218) (L' := [some (aR 21 0), some (aI x), some (aI (σ 23 0 0)), some (aI (σ 23 0 1))]) (st' := [aI 60, aI 1, aI (σ 23 0 0)]) (σ' := σ) rfl trivial ?_
    refine aw_bS lX7_49 (as := [aI (σ 23 0 0), aI 1, aI 60]) (rest := []) (by decide) rfl (Nat.le_of_ble_eq_true rfl) rfl dX7_isDone_218 (cM_isIn l (σ 23 0 0) 1 60 σ ⟨by omega, by omega⟩ ⟨by omega, by omega⟩ ⟨by omega, by omega⟩) (fun wh22 => ?_) (fun wh22 => ?_)
    · refine aw_ieq dX7_isDone_221 (tgt := 238) (by decide) ⟨by omega, by omega⟩ (fun wh23 => absurd wh23 (by decide)) (fun wh23 => ?_)
      refine aw_b kX7_ok bX7_isDone_224_ok (Cs := [0 < 1, 0 < 4, 0 ≤ 1 ∧ 1 < 45]) (pc' := 235) (L' := [some (aR 21 0), some (aI x), some (aI (σ 23 0 0)), some (aI (σ 23 0 1))]) (st' := [aI 999, aI ((σ 22 0 1) + (σ 23 0 0))]) (σ' := σ) rfl (show (0 < 1) ∧ (0 < 4) ∧ (0 ≤ 1 ∧ 1 < 45) from ⟨by omega, by omega, by omega⟩) ?_
      refine aw_cle dX7_isDone_235 (tgt := 240) (by decide) ⟨by omega, by omega⟩ ⟨by omega, by omega⟩ (fun wh24 => ?_) (fun wh24 => ?_)
      · refine aw_b kX7_ok bX7_isDone_240_ok (Cs := [0 < 1]) (pc' := 245) (L' := [some (aR 21 0), some (aI x), some (aI (σ 23 0 0)), some (aI (σ 23 0 1))]) (st' := [aI (σ 23 0 0), aR 22 0]) (σ' := σ) rfl (show 0 < 1 from by omega) ?_
        refine aw_fS lX7_135 (as := [aR 22 0, aI (σ 23 0 0)]) (rest := []) (by decide) rfl (Nat.le_of_ble_eq_true rfl) rfl dX7_isDone_245 (cM_daysOn l 0 (by decide) (σ 23 0 0) σ hw (by omega) (by omega) (by omega)) ?_
        refine aw_b kX7_ok bX7_isDone_248_ok (Cs := []) (pc' := 249) (L' := [some (aR 21 0), some (aI x), some (aI (σ 23 0 0)), some (aI (σ 23 0 1))]) (st' := [aI 1]) (σ' := aRow σ 0 (dysR (σ 22 0) (σ 23 0 0).toNat)) rfl trivial ?_
        exact aw_zret dX7_isDone_249 rfl (by omega) ⟨aret (by rw [wx]; exact (dT (by omega)).symm), fun _ => by rw [wx]; show _ = aRow σ 0 (dysR (σ 22 0) (10 * a + b).toNat); rw [n100], fun z => absurd (by rw [wx]; exact decide_eq_true (by omega)) z⟩
      · refine aw_b kX7_ok bX7_isDone_238_ok (Cs := []) (pc' := 239) (L' := [some (aR 21 0), some (aI x), some (aI (σ 23 0 0)), some (aI (σ 23 0 1))]) (st' := [aI 0]) (σ' := σ) rfl trivial ?_
        exact aw_zret dX7_isDone_239 rfl (by omega) ⟨aret (by rw [wx]; exact (dF (by omega)).symm), fun z => by rw [wx] at z; exact absurd (of_decide_eq_true z) (by omega), fun _ => rfl⟩
    · refine aw_ieq dX7_isDone_221 (tgt := 238) (by decide) ⟨by omega, by omega⟩ (fun wh25 => ?_) (fun wh25 => absurd wh25 (by decide))
      refine aw_b kX7_ok bX7_isDone_238_ok (Cs := []) (pc' := 239) (L' := [some (aR 21 0), some (aI x), some (aI (σ 23 0 0)), some (aI (σ 23 0 1))]) (st' := [aI 0]) (σ' := σ) rfl trivial ?_
      exact aw_zret dX7_isDone_239 rfl (by omega) ⟨aret (by rw [wx]; exact (dF (by omega)).symm), fun z => by rw [wx] at z; exact absurd (of_decide_eq_true z) (by omega), fun _ => rfl⟩
/-- how many statements there are from a place on -/
def ctF (E : Int → Int) (n : Int) : Nat → Nat → Int
  | 0, _ => 0
  | k + 1, i => if (i : Int) < n then 1 + ctF E n k (i + (dgF (E i)).toNat + 2) else 0
theorem ctF_end {E : Int → Int} {n : Int} {i : Nat} (h : ¬ (i : Int) < n) : ∀ k : Nat, ctF E n k i = 0
  | 0 => rfl
  | k + 1 => by rw [ctF, if_neg h]
def mFr0 (σ σ' : aS) : Prop := ∀ (t c : Nat) (i : Int), ¬ ((t = 22 ∧ (c = 1 ∨ c = 3) ∧ 0 ≤ i ∧ i < 45) ∨ (t = 23 ∨ t = 24 ∨ t = 25) ∨ (t = 21 ∧ (i = 5 ∨ i = 6 ∨ i = 7 ∨ i = 11))) → ¬ (t = 22 ∧ c = 0) → σ' t c i = σ t c i
theorem mFr0_tr {σ τ ρ : aS} (h : mFr0 σ τ) (h' : mFr0 τ ρ) : mFr0 σ ρ := fun t c i a b => (h' t c i a b).trans (h t c i a b)
theorem mFr0_of {σ τ : aS} (h : mFr σ τ) : mFr0 σ τ := fun t c i a _ => h t c i a
theorem mFr0_rs {σ τ : aS} (h : rsFr σ τ) : mFr0 σ τ := fun t c i a _ => h t c i (fun q => a (Or.inr (Or.inr ⟨q.1, Or.inl q.2⟩))) (fun q => a (Or.inr (Or.inl (Or.inl q))))
theorem mFr0_row {σ : aS} {X : aRw} : mFr0 σ (aRow σ 0 X) := fun t c i _ b => by
  unfold aRow
  rw [if_neg b]
def QMC (a : Int) (R : aRw) (σ : aS) : Option aV → aS → Prop := fun v σ' => v = some (aI a) ∧ σ' 22 0 = R ∧ mFr0 σ σ'
theorem RDs.row {σ : aS} {b n : Int} {E : Int → Int} {c : Nat} {X : aRw} (h : RDs σ b n E) : RDs (aRow σ c X) b n E := by
  obtain ⟨a1, a2, a3, a4⟩ := h
  refine ⟨by rw [aRow_off (by decide)]; exact a1, by rw [aRow_off (by decide)]; exact a2, a3, fun j h0 h1 => ?_⟩
  rw [aRow_off (by decide)]
  exact a4 j h0 h1
set_option maxRecDepth 10000 in
theorem cM_cabinet (l : Launch) (d : Int) (σ : aS) (hw : WF (σ 22 0)) (hd : σ 22 0 1 ≤ 999) (hz : OZ (σ 22 3)) (hs : MSH σ) (hd2 : aIr d) (hby : σ 29 0 d = 0 → ∀ j : Int, 0 ≤ j → j < σ 30 0 d → -128 ≤ mE σ d j ∧ mE σ d j ≤ 127) : AM l 6 mX7_cabinet [aR 21 0, aI d] σ (QMC (A_cabinet (σ 22 0) (mE σ d) (σ 26 0 d) (σ 29 0 d) (σ 30 0 d) d) (R_cabinet (σ 22 0) (mE σ d) (σ 26 0 d) (σ 29 0 d) (σ 30 0 d) d) σ) := by
  have bn := hw.1
  have b1 := hw.2.1
  have b2 := hw.2.2.1
  have blk := lkF_rng (σ 26 0 d) d 2
  have bkb : bkI (mE σ d) (σ 30 0 d) 0 (-1) = bkF (mE σ d) (σ 30 0 d) (σ 30 0 d).toNat 0 (-1) := rfl
  refine am_of (by decide) (Nat.le_of_ble_eq_true rfl) (L := [some (aR 21 0), some (aI d), none, none, none, none, none, none]) rfl ?_
  refine aw_b kX7_ok bX7_cabinet_0_ok (Cs := []) (pc' := 3) (L' := [some (aR 21 0), some (aI d), none, none, none, none, none, none]) (st' := [aI 0, aI d, aR 21 0]) (σ' := σ) rfl trivial ?_
  refine aw_fV lX7_138 (as := [aI d, aI 0]) (rest := []) (t := 21) (c := 0) (by decide) (by decide) (by decide) rfl rfl (Nat.le_of_ble_eq_true rfl) rfl dX7_cabinet_3 (cM_wrongRow0 l d σ hs hd2) ?_
  refine aw_b kX7_ok bX7_cabinet_6_ok (Cs := []) (pc' := 8) (L' := [some (aR 21 0), some (aI d), some (aI (if lkF (σ 26 0 d) d 2 = 0 then (if σ 29 0 d = 0 then 0 else -12) else lkF (σ 26 0 d) d 2)), none, none, none, none, none]) (st' := [aI (if lkF (σ 26 0 d) d 2 = 0 then (if σ 29 0 d = 0 then 0 else -12) else lkF (σ 26 0 d) d 2)]) (σ' := σ) rfl trivial ?_
  refine aw_ieq dX7_cabinet_8 (tgt := 13) (by decide) ⟨by (first | omega | ((repeat' split) <;> omega)), by (first | omega | ((repeat' split) <;> omega))⟩ (fun wh1 => ?_) (fun wh1 => ?_)
  · have hl0 : lkF (σ 26 0 d) d 2 = 0 := by
      by_cases z : lkF (σ 26 0 d) d 2 = 0
      · exact z
      · rw [if_neg z] at wh1; omega
    have hso0 : σ 29 0 d = 0 := by
      by_cases z : σ 29 0 d = 0
      · exact z
      · rw [if_pos hl0, if_neg z] at wh1; omega
    have hl := lkF_d hl0
    have bs := hs.1 d hl.1.1 hl.1.2
    have bbr := bkF_rng (mE σ d) (n := (σ 30 0 d)) (by omega) (σ 30 0 d).toNat 0 (-1)
    refine aw_b kX7_ok bX7_cabinet_13_ok (Cs := [0 < 1, 0 < 1, 0 < 1, 0 ≤ d ∧ d < 8, 0 < 1, 0 < 1]) (pc' := 41) (L' := [some (aR 21 0), some (aI d), some (aI (if lkF (σ 26 0 d) d 2 = 0 then (if σ 29 0 d = 0 then 0 else -12) else lkF (σ 26 0 d) d 2)), some (aI 0), some (aI 0), none, none, none]) (st' := []) (σ' := aUp (aUp (aUp σ 21 0 6 (100 * d)) 21 0 7 ((aUp σ 21 0 6 (100 * d)) 30 0 d)) 21 0 5 0) rfl (show (0 < 1) ∧ (0 < 1) ∧ (0 < 1) ∧ (0 ≤ d ∧ d < 8) ∧ (0 < 1) ∧ (0 < 1) from ⟨by omega, by omega, by omega, by omega, by omega, by omega⟩) ?_
    obtain ⟨τ1, e1⟩ : ∃ τ1, τ1 = aUp (aUp (aUp σ 21 0 6 (100 * d)) 21 0 7 ((aUp σ 21 0 6 (100 * d)) 30 0 d)) 21 0 5 0 := ⟨_, rfl⟩
    refine aw_eq rfl rfl (σ' := τ1) e1.symm ?_
    have s1 : τ1 22 0 = σ 22 0 := by rw [e1, aUp_t (by decide), aUp_t (by decide), aUp_t (by decide)]
    have z31 : τ1 22 3 = σ 22 3 := by rw [e1, aUp_t (by decide), aUp_t (by decide), aUp_t (by decide)]
    have p1 : τ1 21 0 5 = ((0 : Nat) : Int) := by rw [e1, aUp_same]; rfl
    have g1 : mFr0 σ τ1 := mFr0_of (by rw [e1]; exact mFr_tr (mFr_21 (by decide)) (mFr_tr (mFr_21 (by decide)) (mFr_21 (by decide))))
    have hr1 : RDs τ1 (100 * d) (σ 30 0 d) (mE σ d) := ⟨by rw [e1, aUp_idx (by decide), aUp_idx (by decide), aUp_same], by rw [e1, aUp_idx (by decide), aUp_same, aUp_tag (by decide)], ⟨by omega, by omega, by omega, by omega⟩, fun j h0 h1 => ⟨by rw [e1, aUp_tag (by decide), aUp_tag (by decide), aUp_tag (by decide)]; rfl, hby hso0 j h0 h1⟩⟩
    refine aloop (P := fun m : Nat => ∀ (ρ : aS) (i : Nat) (c : Int) (hp : ρ 21 0 5 = (i : Int)) (hi : (i : Int) < (σ 30 0 d) ∨ ((i : Int) = 0 ∧ (σ 30 0 d) = 0)) (hfr : rsFr τ1 ρ) (hmi : m ≤ i) (hc : 0 ≤ c ∧ c ≤ m) (hB : bkI (mE σ d) (σ 30 0 d) 0 (-1) = bkI (mE σ d) (σ 30 0 d) i (-1)) (hT : ctF (mE σ d) (σ 30 0 d) (σ 30 0 d).toNat 0 = c + ctF (mE σ d) (σ 30 0 d) ((σ 30 0 d).toNat - m) i), AW l 6 mX7_cabinet _ 41 [some (aR 21 0), some (aI d), some (aI (if lkF (σ 26 0 d) d 2 = 0 then (if σ 29 0 d = 0 then 0 else -12) else lkF (σ 26 0 d) d 2)), some (aI c), some (aI 0), none, none, none] [] ρ) ((σ 30 0 d).toNat) (fun m hm ihm ρ i c hp hi hfr hmi hc hB hT => ?_) τ1 0 0 p1 (by omega) rsFr_rf (by omega) (by omega) rfl (by rw [Int.zero_add]; rfl)
    have hrρ := hr1.fr hfr
    have rEρ := hrρ.2.1
    refine aw_b kX7_ok bX7_cabinet_41_ok (Cs := []) (pc' := 42) (L' := [some (aR 21 0), some (aI d), some (aI (if lkF (σ 26 0 d) d 2 = 0 then (if σ 29 0 d = 0 then 0 else -12) else lkF (σ 26 0 d) d 2)), some (aI c), some (aI 0), none, none, none]) (st' := [aR 21 0]) (σ' := ρ) rfl trivial ?_
    refine aw_callV lX7_141 (as := []) (rest := []) (t := 21) (c := 0) (by decide) (by decide) (by decide) rfl rfl (Nat.le_of_ble_eq_true rfl) rfl dX7_cabinet_42 (cM_readsStatement l i ρ (100 * d) (σ 30 0 d) (mE σ d) hrρ hp hi) ?_
    rintro _ τ2 ⟨z2, rfl, hz2, hR0, hR1, hF2⟩
    have hr2 := hrρ.fr hF2
    have rE2 := hr2.2.1
    refine aw_ine dX7_cabinet_45 (tgt := 58) (by decide) ⟨by omega, by omega⟩ (fun wh2 => ?_) (fun wh2 => ?_)
    · refine aw_b kX7_ok bX7_cabinet_58_ok (Cs := []) (pc' := 63) (L' := [some (aR 21 0), some (aI d), some (aI (if lkF (σ 26 0 d) d 2 = 0 then (if σ 29 0 d = 0 then 0 else -12) else lkF (σ 26 0 d) d 2)), some (aI (c + 1)), some (aI 0), none, none, none]) (st' := [aI 0]) (σ' := τ2) rfl trivial ?_
      refine aw_ine dX7_cabinet_63 (tgt := 77) (by decide) ⟨by omega, by omega⟩ (fun wh3 => absurd wh3 (by decide)) (fun wh3 => ?_)
      refine aw_b kX7_ok bX7_cabinet_66_ok (Cs := [0 < 1, 0 < 1]) (pc' := 74) (L' := [some (aR 21 0), some (aI d), some (aI (if lkF (σ 26 0 d) d 2 = 0 then (if σ 29 0 d = 0 then 0 else -12) else lkF (σ 26 0 d) d 2)), some (aI (c + 1)), some (aI 0), none, none, none]) (st' := [aI (τ2 21 0 7), aI (τ2 21 0 5)]) (σ' := τ2) rfl (show (0 < 1) ∧ (0 < 1) from ⟨by omega, by omega⟩) ?_
      refine aw_clt dX7_cabinet_74 (tgt := 41) (by decide) ⟨by omega, by omega⟩ ⟨by omega, by omega⟩ (fun wh4 => ?_) (fun wh4 => ?_)
      · have hs1 := hR1 (by omega)
        exact ihm (by omega) τ2 (i + (dgF (mE σ d (i : Int))).toNat + 2) (c + 1) hs1.2.2.1 (by omega) (rsFr_tr hfr hF2) (by omega) (by omega) (hB.trans hs1.2.2.2.1) (by rw [hT, show (σ 30 0 d).toNat - m = ((σ 30 0 d).toNat - (m + 1)) + 1 by omega, ctF, if_pos (by omega)]; omega)
      · have f2 := rsFr_tr hfr hF2
        have s2 : τ2 22 0 = σ 22 0 := by rw [← s1]; funext j; exact f2 22 0 j (by omega) (by decide)
        have z32 : τ2 22 3 = σ 22 3 := by rw [← z31]; funext j; exact f2 22 3 j (by omega) (by decide)
        have hs1 := hR1 (by omega)
        have hin : ((i + (dgF (mE σ d (i : Int))).toNat + 2 : Nat) : Int) = (σ 30 0 d) := by have z := hr2.2.1; omega
        have hBe : bkI (mE σ d) (σ 30 0 d) 0 (-1) = -1 := by
          have z := hB.trans hs1.2.2.2.1
          rw [z]
          unfold bkI
          rw [show (σ 30 0 d).toNat - (i + (dgF (mE σ d (i : Int))).toNat + 2) = 0 by omega, bkF, if_pos (by omega)]
        have hmN : m < (σ 30 0 d).toNat := by omega
        have hTc : ctF (mE σ d) (σ 30 0 d) (σ 30 0 d).toNat 0 = c + 1 := by
          rw [hT, show (σ 30 0 d).toNat - m = ((σ 30 0 d).toNat - (m + 1)) + 1 by omega, ctF, if_pos (by omega), ctF_end (by omega)]; omega
        refine aw_b kX7_ok bX7_cabinet_77_ok (Cs := [0 < 1, 0 < 1]) (pc' := 85) (L' := [some (aR 21 0), some (aI d), some (aI (if lkF (σ 26 0 d) d 2 = 0 then (if σ 29 0 d = 0 then 0 else -12) else lkF (σ 26 0 d) d 2)), some (aI (c + 1)), some (aI 0), none, none, none]) (st' := [aR 22 3, aR 22 0]) (σ' := τ2) rfl (show (0 < 1) ∧ (0 < 1) from ⟨by omega, by omega⟩) ?_
        have hcp := cM_copies l 0 3 (by decide) (by decide) τ2 (fun j hj => by rw [s2, z32, hw.oz j hj, hz j hj])
        refine aw_callS lX7_145 (as := [aR 22 0, aR 22 3]) (rest := []) (by decide) rfl (Nat.le_of_ble_eq_true rfl) rfl dX7_cabinet_85 (hcp) ?_
        rintro _ τ3 ⟨rfl, hτ3⟩
        have s3 : τ3 22 0 = σ 22 0 := by rw [hτ3, aRow_ne (by decide)]; exact s2
        have w3 : τ3 22 3 = σ 22 0 := by rw [hτ3, aRow_self]; exact s2
        have g3 : mFr0 σ τ3 := mFr0_tr g1 (mFr0_tr (mFr0_rs f2) (mFr0_of (by rw [hτ3]; exact mFr_row (Or.inr rfl) (by rw [z32]; exact hz) (by rw [s2]; exact hw.oz))))
        have hr3 : RDs τ3 (100 * d) (σ 30 0 d) (mE σ d) := by rw [hτ3]; exact hr2.row
        refine aw_b kX7_ok bX7_cabinet_88_ok (Cs := [0 < 1]) (pc' := 93) (L' := [some (aR 21 0), some (aI d), some (aI (if lkF (σ 26 0 d) d 2 = 0 then (if σ 29 0 d = 0 then 0 else -12) else lkF (σ 26 0 d) d 2)), some (aI (c + 1)), some (aI 0), none, none, none]) (st' := []) (σ' := aUp τ3 21 0 5 0) rfl (show 0 < 1 from by omega) ?_
        obtain ⟨τ4, e4⟩ : ∃ τ4, τ4 = aUp τ3 21 0 5 0 := ⟨_, rfl⟩
        refine aw_eq rfl rfl (σ' := τ4) e4.symm ?_
        have s4 : τ4 22 0 = σ 22 0 := by rw [e4, aUp_t (by decide)]; exact s3
        have w4 : τ4 22 3 = σ 22 0 := by rw [e4, aUp_t (by decide)]; exact w3
        have p4 : τ4 21 0 5 = ((0 : Nat) : Int) := by rw [e4, aUp_same]; rfl
        have g4 : mFr0 σ τ4 := mFr0_tr g3 (by rw [e4]; exact mFr0_rs rs_up)
        have hr4 : RDs τ4 (100 * d) (σ 30 0 d) (mE σ d) := (by rw [e4]; exact hr3.fr rs_up)
        refine aloop (P := fun k : Nat => ∀ (ρ2 : aS) (i2 : Nat) (st : Int) (q : aRw) (hp2 : ρ2 21 0 5 = (i2 : Int)) (hq : ρ2 22 0 = q) (hwq : WF q) (hdq : q 1 ≤ 999) (hwas : ρ2 22 3 = σ 22 0) (hr5 : RDs ρ2 (100 * d) (σ 30 0 d) (mE σ d)) (g5 : mFr0 σ ρ2) (hki : k ≤ i2 ∧ (i2 : Int) ≤ (σ 30 0 d)) (hS : bkI (mE σ d) (σ 30 0 d) i2 (-1) = -1) (hst : 0 ≤ st ∧ st ≤ k) (hO : obF (mE σ d) (σ 30 0 d) (σ 30 0 d).toNat 0 0 (σ 22 0) = obF (mE σ d) (σ 30 0 d) ((σ 30 0 d).toNat - k) i2 st q) (hT2 : ctF (mE σ d) (σ 30 0 d) (σ 30 0 d).toNat 0 = st + ctF (mE σ d) (σ 30 0 d) ((σ 30 0 d).toNat - k) i2), AW l 6 mX7_cabinet _ 93 [some (aR 21 0), some (aI d), some (aI (if lkF (σ 26 0 d) d 2 = 0 then (if σ 29 0 d = 0 then 0 else -12) else lkF (σ 26 0 d) d 2)), some (aI (c + 1)), some (aI 0), none, none, none] [] ρ2) ((σ 30 0 d).toNat) (fun k hk ihk ρ2 i2 st q hp2 hq hwq hdq hwas hr5 g5 hki hS hst hO hT2 => ?_) τ4 0 0 (σ 22 0) p4 s4 hw hd w4 hr4 g4 (by omega) hBe (by omega) rfl (by rw [Int.zero_add]; rfl)
        have rE5 := hr5.2.1
        refine aw_b kX7_ok bX7_cabinet_93_ok (Cs := []) (pc' := 95) (L' := [some (aR 21 0), some (aI d), some (aI (if lkF (σ 26 0 d) d 2 = 0 then (if σ 29 0 d = 0 then 0 else -12) else lkF (σ 26 0 d) d 2)), some (aI (c + 1)), some (aI 0), none, none, none]) (st' := [aI 0]) (σ' := ρ2) rfl trivial ?_
        refine aw_ine dX7_cabinet_95 (tgt := 161) (by decide) ⟨by omega, by omega⟩ (fun wh5 => absurd wh5 (by decide)) (fun wh5 => ?_)
        refine aw_b kX7_ok bX7_cabinet_98_ok (Cs := [0 < 1, 0 < 1]) (pc' := 106) (L' := [some (aR 21 0), some (aI d), some (aI (if lkF (σ 26 0 d) d 2 = 0 then (if σ 29 0 d = 0 then 0 else -12) else lkF (σ 26 0 d) d 2)), some (aI (c + 1)), some (aI 0), none, none, none]) (st' := [aI (ρ2 21 0 7), aI (ρ2 21 0 5)]) (σ' := ρ2) rfl (show (0 < 1) ∧ (0 < 1) from ⟨by omega, by omega⟩) ?_
        refine aw_cge dX7_cabinet_106 (tgt := 161) (by decide) ⟨by omega, by omega⟩ ⟨by omega, by omega⟩ (fun wh6 => ?_) (fun wh6 => ?_)
        · have hin2 : ¬ (i2 : Int) < (σ 30 0 d) := by have z := hr5.2.1; omega
          have hOe : obF (mE σ d) (σ 30 0 d) (σ 30 0 d).toNat 0 0 (σ 22 0) = (st, q) := by rw [hO]; exact obF_end hin2
          have hTe := hT2.trans (by rw [ctF_end hin2])
          refine aw_b kX7_ok bX7_cabinet_161_ok (Cs := []) (pc' := 163) (L' := [some (aR 21 0), some (aI d), some (aI (if lkF (σ 26 0 d) d 2 = 0 then (if σ 29 0 d = 0 then 0 else -12) else lkF (σ 26 0 d) d 2)), some (aI (c + 1)), some (aI 0), none, none, none]) (st' := [aI 0]) (σ' := ρ2) rfl trivial ?_
          refine aw_ine dX7_cabinet_163 (tgt := 170) (by decide) ⟨by omega, by omega⟩ (fun wh7 => absurd wh7 (by decide)) (fun wh7 => ?_)
          refine aw_b kX7_ok bX7_cabinet_166_ok (Cs := []) (pc' := 172) (L' := [some (aR 21 0), some (aI d), some (aI (if lkF (σ 26 0 d) d 2 = 0 then (if σ 29 0 d = 0 then 0 else -12) else lkF (σ 26 0 d) d 2)), some (aI (c + 1)), some (aI 0), none, none, none]) (st' := [aI (c + 1)]) (σ' := ρ2) rfl trivial ?_
          exact aw_iret dX7_cabinet_172 rfl ⟨aret (by unfold A_cabinet; rw [if_pos (by omega), if_pos (by omega), if_pos (by omega)]; unfold oCb; rw [hOe]; show c + 1 = st; omega), by unfold R_cabinet oCb; rw [hOe, if_pos ⟨⟨by omega, by omega, by omega⟩, hst.1⟩]; exact hq, g5⟩
        · refine aw_b kX7_ok bX7_cabinet_109_ok (Cs := [0 < 1]) (pc' := 116) (L' := [some (aR 21 0), some (aI d), some (aI (if lkF (σ 26 0 d) d 2 = 0 then (if σ 29 0 d = 0 then 0 else -12) else lkF (σ 26 0 d) d 2)), some (aI (c + 1)), some (aI 0), some (aI (ρ2 21 0 5)), none, none]) (st' := [aR 21 0]) (σ' := ρ2) rfl (show 0 < 1 from by omega) ?_
          refine aw_fV lX7_109 (as := []) (rest := []) (t := 21) (c := 0) (by decide) (by decide) (by decide) rfl rfl (Nat.le_of_ble_eq_true rfl) rfl dX7_cabinet_116 (cM_here l (i2 : Int) ρ2 (100 * d) (σ 30 0 d) (mE σ d) hr5 hp2 (by omega) (by omega)) ?_
          refine aw_b kX7_ok bX7_cabinet_119_ok (Cs := []) (pc' := 122) (L' := [some (aR 21 0), some (aI d), some (aI (if lkF (σ 26 0 d) d 2 = 0 then (if σ 29 0 d = 0 then 0 else -12) else lkF (σ 26 0 d) d 2)), some (aI (c + 1)), some (aI 0), some (aI (ρ2 21 0 5)), some (aI (hF (mE σ d) (σ 30 0 d) (i2 : Int))), none]) (st' := [aR 21 0]) (σ' := ρ2) rfl trivial ?_
          have hi2 : (i2 : Int) < (σ 30 0 d) := by have z := hr5.2.1; omega
          have bst := bk_st (E := (mE σ d)) (n := (σ 30 0 d)) (by omega) (show 1 ≤ (σ 30 0 d).toNat - i2 by omega) hS
          have hC : obF (mE σ d) (σ 30 0 d) (σ 30 0 d).toNat 0 0 (σ 22 0) = (if okB q (mE σ d (i2 : Int)) (mE σ d ((i2 : Int) + 1) - 48) (mE σ d ((i2 : Int) + 2) - 48) (mE σ d ((i2 : Int) + 3) - 48) = true then obF (mE σ d) (σ 30 0 d) ((σ 30 0 d).toNat - (k + 1)) (i2 + (dgF (mE σ d (i2 : Int))).toNat + 2) (st + 1) (doS q (mE σ d (i2 : Int)) (mE σ d ((i2 : Int) + 1) - 48) (mE σ d ((i2 : Int) + 2) - 48) (mE σ d ((i2 : Int) + 3) - 48)) else (-2000 - (i2 : Int), q)) := by
            rw [hO, show (σ 30 0 d).toNat - k = ((σ 30 0 d).toNat - (k + 1)) + 1 by omega, obF, if_pos hi2]
          refine aw_callV lX7_141 (as := []) (rest := []) (t := 21) (c := 0) (by decide) (by decide) (by decide) rfl rfl (Nat.le_of_ble_eq_true rfl) rfl dX7_cabinet_122 (cM_readsStatement l i2 ρ2 (100 * d) (σ 30 0 d) (mE σ d) hr5 hp2 (Or.inl hi2)) ?_
          rintro _ τ7 ⟨z7, rfl, hz7, hN0, hN1, hF7⟩
          have hz71 : z7 = 1 := by rcases hz7 with q0 | q0; exact absurd (hN0 q0) (by omega); exact q0
          have hs7 := hN1 hz71
          have hq7 : τ7 22 0 = q := by rw [← hq]; funext j; exact hF7 22 0 j (by omega) (by decide)
          have was7 : τ7 22 3 = σ 22 0 := by rw [← hwas]; funext j; exact hF7 22 3 j (by omega) (by decide)
          have hr7 := hr5.fr hF7
          have g7 := mFr0_tr g5 (mFr0_rs hF7)
          refine aw_b kX7_ok bX7_cabinet_125_ok (Cs := []) (pc' := 130) (L' := [some (aR 21 0), some (aI d), some (aI (if lkF (σ 26 0 d) d 2 = 0 then (if σ 29 0 d = 0 then 0 else -12) else lkF (σ 26 0 d) d 2)), some (aI (c + 1)), some (aI 0), some (aI (ρ2 21 0 5)), some (aI (hF (mE σ d) (σ 30 0 d) (i2 : Int))), some (aI z7)]) (st' := [aI (hF (mE σ d) (σ 30 0 d) (i2 : Int)), aR 21 0]) (σ' := τ7) rfl trivial ?_
          have hx7 : hF (mE σ d) (σ 30 0 d) (i2 : Int) = mE σ d (i2 : Int) := by
            have d6 := dgF_x hs7.1
            unfold hF
            rw [if_pos hi2, if_neg (by omega)]
          have hdn := cM_isDone l (mE σ d (i2 : Int)) (mE σ d ((i2 : Int) + 1) - 48) (mE σ d ((i2 : Int) + 2) - 48) (mE σ d ((i2 : Int) + 3) - 48) τ7 (by rw [hq7]; exact hwq) (by rw [hq7]; exact hdq) bst.1 bst.2.2.2.1 bst.2.2.2.2.1 bst.2.2.2.2.2 hs7.2.2.2.2
          rw [hq7] at hdn
          have hdn2 : AM l 5 mX7_isDone [aR 21 0, aI (hF (mE σ d) (σ 30 0 d) (i2 : Int))] τ7 (RD_ τ7 (doS q (mE σ d (i2 : Int)) (mE σ d ((i2 : Int) + 1) - 48) (mE σ d ((i2 : Int) + 2) - 48) (mE σ d ((i2 : Int) + 3) - 48)) (okB q (mE σ d (i2 : Int)) (mE σ d ((i2 : Int) + 1) - 48) (mE σ d ((i2 : Int) + 2) - 48) (mE σ d ((i2 : Int) + 3) - 48))) := by rw [hx7]; exact hdn
          refine aw_callV lX7_149 (as := [aI (hF (mE σ d) (σ 30 0 d) (i2 : Int))]) (rest := []) (t := 21) (c := 0) (by decide) (by decide) (by decide) rfl rfl (Nat.le_of_ble_eq_true rfl) rfl dX7_cabinet_130 (hdn2) ?_
          rintro _ τ8 ⟨rfl, hD1, hD0⟩
          refine aw_ieq dX7_cabinet_133 (tgt := 139) (by decide) ⟨by (first | omega | (split <;> omega)), by (first | omega | (split <;> omega))⟩ (fun wh8 => ?_) (fun wh8 => ?_)
          · have hno : ¬ okB q (mE σ d (i2 : Int)) (mE σ d ((i2 : Int) + 1) - 48) (mE σ d ((i2 : Int) + 2) - 48) (mE σ d ((i2 : Int) + 3) - 48) = true := fun z => by rw [if_pos z] at wh8; exact absurd wh8 (by decide)
            have hτ8 := hD0 hno
            have hCn := hC.trans (if_neg hno)
            have was8 : τ8 22 3 = σ 22 0 := by rw [hτ8]; exact was7
            have q8 : τ8 22 0 = q := by rw [hτ8]; exact hq7
            refine aw_b kX7_ok bX7_cabinet_139_ok (Cs := [0 < 1, 0 < 1]) (pc' := 155) (L' := [some (aR 21 0), some (aI d), some (aI (if lkF (σ 26 0 d) d 2 = 0 then (if σ 29 0 d = 0 then 0 else -12) else lkF (σ 26 0 d) d 2)), some (aI (c + 1)), some (aI ((-2000) - (ρ2 21 0 5))), some (aI (ρ2 21 0 5)), some (aI (hF (mE σ d) (σ 30 0 d) (i2 : Int))), some (aI z7)]) (st' := [aR 22 0, aR 22 3]) (σ' := τ8) rfl (show (0 < 1) ∧ (0 < 1) from ⟨by omega, by omega⟩) ?_
            have hcb := cM_copies l 3 0 (by decide) (by decide) τ8 (fun j hj => by rw [was8, q8, hw.oz j hj, hwq.oz j hj])
            refine aw_callS lX7_145 (as := [aR 22 3, aR 22 0]) (rest := []) (by decide) rfl (Nat.le_of_ble_eq_true rfl) rfl dX7_cabinet_155 (hcb) ?_
            rintro _ τ9 ⟨rfl, hτ9⟩
            have g9 : mFr0 σ τ9 := by rw [hτ9]; exact mFr0_tr g7 (by rw [hτ8]; exact mFr0_row)
            refine aw_b kX7_ok bX7_cabinet_158_ok (Cs := []) (pc' := 93) (L' := [some (aR 21 0), some (aI d), some (aI (if lkF (σ 26 0 d) d 2 = 0 then (if σ 29 0 d = 0 then 0 else -12) else lkF (σ 26 0 d) d 2)), some (aI (c + 1)), some (aI ((-2000) - (ρ2 21 0 5))), some (aI (ρ2 21 0 5)), some (aI (hF (mE σ d) (σ 30 0 d) (i2 : Int))), some (aI z7)]) (st' := []) (σ' := τ9) rfl trivial ?_
            refine aw_b kX7_ok bX7_cabinet_93_ok (Cs := []) (pc' := 95) (L' := [some (aR 21 0), some (aI d), some (aI (if lkF (σ 26 0 d) d 2 = 0 then (if σ 29 0 d = 0 then 0 else -12) else lkF (σ 26 0 d) d 2)), some (aI (c + 1)), some (aI ((-2000) - (ρ2 21 0 5))), some (aI (ρ2 21 0 5)), some (aI (hF (mE σ d) (σ 30 0 d) (i2 : Int))), some (aI z7)]) (st' := [aI ((-2000) - (ρ2 21 0 5))]) (σ' := τ9) rfl trivial ?_
            refine aw_ine dX7_cabinet_95 (tgt := 161) (by decide) ⟨by omega, by omega⟩ (fun wh9 => ?_) (fun wh9 => False.elim (by omega))
            refine aw_b kX7_ok bX7_cabinet_161_ok (Cs := []) (pc' := 163) (L' := [some (aR 21 0), some (aI d), some (aI (if lkF (σ 26 0 d) d 2 = 0 then (if σ 29 0 d = 0 then 0 else -12) else lkF (σ 26 0 d) d 2)), some (aI (c + 1)), some (aI ((-2000) - (ρ2 21 0 5))), some (aI (ρ2 21 0 5)), some (aI (hF (mE σ d) (σ 30 0 d) (i2 : Int))), some (aI z7)]) (st' := [aI ((-2000) - (ρ2 21 0 5))]) (σ' := τ9) rfl trivial ?_
            refine aw_ine dX7_cabinet_163 (tgt := 170) (by decide) ⟨by omega, by omega⟩ (fun wh10 => ?_) (fun wh10 => False.elim (by omega))
            refine aw_b kX7_ok bX7_cabinet_170_ok (Cs := []) (pc' := 172) (L' := [some (aR 21 0), some (aI d), some (aI (if lkF (σ 26 0 d) d 2 = 0 then (if σ 29 0 d = 0 then 0 else -12) else lkF (σ 26 0 d) d 2)), some (aI (c + 1)), some (aI ((-2000) - (ρ2 21 0 5))), some (aI (ρ2 21 0 5)), some (aI (hF (mE σ d) (σ 30 0 d) (i2 : Int))), some (aI z7)]) (st' := [aI ((-2000) - (ρ2 21 0 5))]) (σ' := τ9) rfl trivial ?_
            exact aw_iret dX7_cabinet_172 rfl ⟨aret (by unfold A_cabinet; rw [if_pos (by omega), if_pos (by omega), if_pos (by omega)]; unfold oCb; rw [hCn]; show -2000 - ρ2 21 0 5 = -2000 - (i2 : Int); omega), by unfold R_cabinet; rw [if_neg (by unfold oCb; rw [hCn]; show ¬ (_ ∧ 0 ≤ -2000 - (i2 : Int)); omega)]; rw [hτ9, aRow_self, was8], g9⟩
          · have hyes : okB q (mE σ d (i2 : Int)) (mE σ d ((i2 : Int) + 1) - 48) (mE σ d ((i2 : Int) + 2) - 48) (mE σ d ((i2 : Int) + 3) - 48) = true := by
              by_cases z : okB q (mE σ d (i2 : Int)) (mE σ d ((i2 : Int) + 1) - 48) (mE σ d ((i2 : Int) + 2) - 48) (mE σ d ((i2 : Int) + 3) - 48) = true
              · exact z
              · rw [if_neg z] at wh8; exact absurd rfl wh8
            refine aw_b kX7_ok bX7_cabinet_136_ok (Cs := []) (pc' := 93) (L' := [some (aR 21 0), some (aI d), some (aI (if lkF (σ 26 0 d) d 2 = 0 then (if σ 29 0 d = 0 then 0 else -12) else lkF (σ 26 0 d) d 2)), some (aI (c + 1)), some (aI 0), some (aI (ρ2 21 0 5)), some (aI (hF (mE σ d) (σ 30 0 d) (i2 : Int))), some (aI z7)]) (st' := []) (σ' := τ8) rfl trivial ?_
            refine aw_drop [5, 6, 7] (L' := [some (aR 21 0), some (aI d), some (aI (if lkF (σ 26 0 d) d 2 = 0 then (if σ 29 0 d = 0 then 0 else -12) else lkF (σ 26 0 d) d 2)), some (aI (c + 1)), some (aI 0), none, none, none]) rfl ?_
            have hdo := doS_ok hwq hdq bst.1 bst.2.2.2.1 bst.2.2.2.2.1 bst.2.2.2.2.2 hyes
            have hτ8 := hD1 hyes
            exact ihk (by omega) τ8 (i2 + (dgF (mE σ d (i2 : Int))).toNat + 2) (st + 1) _ (by rw [hτ8, aRow_off (by decide)]; exact hs7.2.2.1) (by rw [hτ8, aRow_self]) hdo.1 hdo.2 (by rw [hτ8, aRow_ne (by decide)]; exact was7) (by rw [hτ8]; exact hr7.row) (mFr0_tr g7 (by rw [hτ8]; exact mFr0_row)) ⟨by omega, hs7.2.1⟩ (hs7.2.2.2.1.symm.trans hS) (by omega) (hC.trans (if_pos hyes)) (by rw [hT2, show (σ 30 0 d).toNat - k = ((σ 30 0 d).toNat - (k + 1)) + 1 by omega, ctF, if_pos (by omega)]; omega)
    · refine aw_b kX7_ok bX7_cabinet_48_ok (Cs := [0 < 1]) (pc' := 58) (L' := [some (aR 21 0), some (aI d), some (aI (if lkF (σ 26 0 d) d 2 = 0 then (if σ 29 0 d = 0 then 0 else -12) else lkF (σ 26 0 d) d 2)), some (aI c), some (aI ((-1000) - (τ2 21 0 5))), none, none, none]) (st' := []) (σ' := τ2) rfl (show 0 < 1 from by omega) ?_
      refine aw_b kX7_ok bX7_cabinet_58_ok (Cs := []) (pc' := 63) (L' := [some (aR 21 0), some (aI d), some (aI (if lkF (σ 26 0 d) d 2 = 0 then (if σ 29 0 d = 0 then 0 else -12) else lkF (σ 26 0 d) d 2)), some (aI (c + 1)), some (aI ((-1000) - (τ2 21 0 5))), none, none, none]) (st' := [aI ((-1000) - (τ2 21 0 5))]) (σ' := τ2) rfl trivial ?_
      refine aw_ine dX7_cabinet_63 (tgt := 77) (by decide) ⟨by omega, by omega⟩ (fun wh11 => ?_) (fun wh11 => False.elim (by omega))
      have f2 := rsFr_tr hfr hF2
      have s2 : τ2 22 0 = σ 22 0 := by rw [← s1]; funext j; exact f2 22 0 j (by omega) (by decide)
      have z32 : τ2 22 3 = σ 22 3 := by rw [← z31]; funext j; exact f2 22 3 j (by omega) (by decide)
      have hs0 := hR0 (by omega)
      have hBp : τ2 21 0 5 = bkI (mE σ d) (σ 30 0 d) 0 (-1) := by omega
      refine aw_b kX7_ok bX7_cabinet_77_ok (Cs := [0 < 1, 0 < 1]) (pc' := 85) (L' := [some (aR 21 0), some (aI d), some (aI (if lkF (σ 26 0 d) d 2 = 0 then (if σ 29 0 d = 0 then 0 else -12) else lkF (σ 26 0 d) d 2)), some (aI (c + 1)), some (aI ((-1000) - (τ2 21 0 5))), none, none, none]) (st' := [aR 22 3, aR 22 0]) (σ' := τ2) rfl (show (0 < 1) ∧ (0 < 1) from ⟨by omega, by omega⟩) ?_
      have hcp := cM_copies l 0 3 (by decide) (by decide) τ2 (fun j hj => by rw [s2, z32, hw.oz j hj, hz j hj])
      refine aw_callS lX7_145 (as := [aR 22 0, aR 22 3]) (rest := []) (by decide) rfl (Nat.le_of_ble_eq_true rfl) rfl dX7_cabinet_85 (hcp) ?_
      rintro _ τ3 ⟨rfl, hτ3⟩
      have s3 : τ3 22 0 = σ 22 0 := by rw [hτ3, aRow_ne (by decide)]; exact s2
      have w3 : τ3 22 3 = σ 22 0 := by rw [hτ3, aRow_self]; exact s2
      have g3 : mFr0 σ τ3 := mFr0_tr g1 (mFr0_tr (mFr0_rs f2) (mFr0_of (by rw [hτ3]; exact mFr_row (Or.inr rfl) (by rw [z32]; exact hz) (by rw [s2]; exact hw.oz))))
      have hr3 : RDs τ3 (100 * d) (σ 30 0 d) (mE σ d) := by rw [hτ3]; exact hr2.row
      refine aw_b kX7_ok bX7_cabinet_88_ok (Cs := [0 < 1]) (pc' := 93) (L' := [some (aR 21 0), some (aI d), some (aI (if lkF (σ 26 0 d) d 2 = 0 then (if σ 29 0 d = 0 then 0 else -12) else lkF (σ 26 0 d) d 2)), some (aI (c + 1)), some (aI ((-1000) - (τ2 21 0 5))), none, none, none]) (st' := []) (σ' := aUp τ3 21 0 5 0) rfl (show 0 < 1 from by omega) ?_
      refine aw_b kX7_ok bX7_cabinet_93_ok (Cs := []) (pc' := 95) (L' := [some (aR 21 0), some (aI d), some (aI (if lkF (σ 26 0 d) d 2 = 0 then (if σ 29 0 d = 0 then 0 else -12) else lkF (σ 26 0 d) d 2)), some (aI (c + 1)), some (aI ((-1000) - (τ2 21 0 5))), none, none, none]) (st' := [aI ((-1000) - (τ2 21 0 5))]) (σ' := aUp τ3 21 0 5 0) rfl trivial ?_
      refine aw_ine dX7_cabinet_95 (tgt := 161) (by decide) ⟨by omega, by omega⟩ (fun wh12 => ?_) (fun wh12 => False.elim (by omega))
      refine aw_b kX7_ok bX7_cabinet_161_ok (Cs := []) (pc' := 163) (L' := [some (aR 21 0), some (aI d), some (aI (if lkF (σ 26 0 d) d 2 = 0 then (if σ 29 0 d = 0 then 0 else -12) else lkF (σ 26 0 d) d 2)), some (aI (c + 1)), some (aI ((-1000) - (τ2 21 0 5))), none, none, none]) (st' := [aI ((-1000) - (τ2 21 0 5))]) (σ' := aUp τ3 21 0 5 0) rfl trivial ?_
      refine aw_ine dX7_cabinet_163 (tgt := 170) (by decide) ⟨by omega, by omega⟩ (fun wh13 => ?_) (fun wh13 => False.elim (by omega))
      refine aw_b kX7_ok bX7_cabinet_170_ok (Cs := []) (pc' := 172) (L' := [some (aR 21 0), some (aI d), some (aI (if lkF (σ 26 0 d) d 2 = 0 then (if σ 29 0 d = 0 then 0 else -12) else lkF (σ 26 0 d) d 2)), some (aI (c + 1)), some (aI ((-1000) - (τ2 21 0 5))), none, none, none]) (st' := [aI ((-1000) - (τ2 21 0 5))]) (σ' := aUp τ3 21 0 5 0) rfl trivial ?_
      exact aw_iret dX7_cabinet_172 rfl ⟨aret (by unfold A_cabinet; rw [if_pos (by omega), if_pos (by omega), if_neg (by omega)]; omega), by unfold R_cabinet; rw [if_neg (by omega)]; rw [aUp_t (by decide)]; exact s3, mFr0_tr g3 (mFr0_rs rs_up)⟩
  · have hne := wh1
    refine aw_b kX7_ok bX7_cabinet_11_ok (Cs := []) (pc' := 12) (L' := [some (aR 21 0), some (aI d), some (aI (if lkF (σ 26 0 d) d 2 = 0 then (if σ 29 0 d = 0 then 0 else -12) else lkF (σ 26 0 d) d 2)), none, none, none, none, none]) (st' := [aI (if lkF (σ 26 0 d) d 2 = 0 then (if σ 29 0 d = 0 then 0 else -12) else lkF (σ 26 0 d) d 2)]) (σ' := σ) rfl trivial ?_
    exact aw_iret dX7_cabinet_12 rfl ⟨aret (by unfold A_cabinet; (repeat' split) <;> first | omega | rfl), by unfold R_cabinet; rw [if_neg (by split at hne <;> (try split at hne) <;> omega)], mFr0_of mFr_rf⟩
