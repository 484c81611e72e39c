/-! ===== the class: what is asked (1) ===== -/
/-- what the class may change while it only answers -/
def CScr : Nat → Nat → Prop := fun t c => (1 ≤ t ∧ t ≤ 8 ∧ c = 1) ∨ (16 ≤ t ∧ t ≤ 20 ∧ t ≠ 18)
def QC (a : Int) (σ : aS) : Option aV → aS → Prop := fun v σ' => v = some (aI a) ∧ aFr CScr σ σ'
def QCL (a : Int) (σ : aS) : Option aV → aS → Prop := fun v σ' => v = some (aL a) ∧ aFr CScr σ σ'
theorem Cb1 : ∀ t c, Cb 1 t c → CScr t c := fun _ _ h => Or.inl h
theorem aFrC {σ σ' : aS} (h : aFr (Cb 1) σ σ') : aFr CScr σ σ' := aFr_mono h Cb1
/-- the cabinet now, and the one of the image, stay -/
theorem Rep.scr {σ σ' : aS} {c : Nat} {r : aRw} (hc : c ≠ 1) (h : Rep σ c r) (hf : aFr CScr σ σ') : Rep σ' c r :=
  h.fr (fun t i h1 h2 _ => hf t c i (fun q => by rcases q with q | q <;> omega))
theorem cC_passI (l : Launch) (n : Int) (c : Nat) (hc : c < 3) (σ : aS) (r : aRw) (hR : Rep σ c r) (hw : WF r) (h0 : 0 ≤ n) (hm : n ≤ 200) (hd : r 1 + n ≤ 999999) : AM l 4 mX0_pass [aR 1 c, aI n] σ (PR c σ (dysR r n.toNat)) := by
  have e : ((n.toNat : Nat) : Int) = n := Int.toNat_of_nonneg h0
  have z := cC_pass l n.toNat c hc σ r hR hw (by omega) (by omega)
  rw [e] at z
  exact z
set_option maxRecDepth 10000 in
theorem cC_foresee (l : Launch) (n : Int) (σ : aS) (r : aRw) (hR : Rep σ 0 r) (hw : WF r) (hd : r 1 ≤ 999) (h0 : 0 ≤ n) (h1 : n ≤ 60) : AM l 5 mX6_foresee [aR 0 0, aI n] σ (PR 1 σ (dysR r n.toNat)) := by
  have bn := hw.1
  have en := hR.n
  have b1 := hw.2.1
  have e1 := hR.1.2.1
  have b2 := hw.2.2.1
  have e2 := hR.1.2.2
  refine am_of (by decide) (Nat.le_of_ble_eq_true rfl) (L := [some (aR 0 0), some (aI n)]) rfl ?_
  refine aw_b kX6_ok bX6_foresee_0_ok (Cs := [0 < 1, 0 < 1]) (pc' := 8) (L' := [some (aR 0 0), some (aI n)]) (st' := [aR 1 0, aR 1 1]) (σ' := σ) rfl (show (0 < 1) ∧ (0 < 1) from ⟨by omega, by omega⟩) ?_
  refine aw_callV lX6_68 (as := [aR 1 0]) (rest := []) (t := 1) (c := 1) (by decide) (by decide) (by decide) rfl rfl (Nat.le_of_ble_eq_true rfl) rfl dX6_foresee_8 (cC_becomes l 0 1 (by decide) (by decide) (by decide) σ r hR hw) ?_
  rintro _ τ1 ⟨rfl, hT1, hF1⟩
  refine aw_b kX6_ok bX6_foresee_11_ok (Cs := [0 < 1]) (pc' := 16) (L' := [some (aR 0 0), some (aI n)]) (st' := [aI n, aR 1 1]) (σ' := τ1) rfl (show 0 < 1 from by omega) ?_
  refine aw_callV lX6_159 (as := [aI n]) (rest := []) (t := 1) (c := 1) (by decide) (by decide) (by decide) rfl rfl (Nat.le_of_ble_eq_true rfl) rfl dX6_foresee_16 (cC_passI l n 1 (by decide) τ1 r hT1 hw h0 (by omega) (by omega)) ?_
  rintro _ τ2 ⟨rfl, hT2, hF2⟩
  exact aw_vret dX6_foresee_19 rfl ⟨rfl, hT2, aFr_tr hF1 hF2⟩
def A_heldThen (r : aRw) (f n : Int) : Int := if (0 ≤ f ∧ f < 5) ∧ (0 ≤ n ∧ n ≤ 60) then dysR r n.toNat (8 + f) else -1
def A_knownThen (r : aRw) (p n : Int) : Int := if (0 ≤ p ∧ p < r 0) ∧ (0 ≤ n ∧ n ≤ 60) then dysR r n.toNat (aOf p 2) else -1
def A_then (r : aRw) (n w : Int) : Int := if (0 ≤ n ∧ n ≤ 60) ∧ (w = 0 ∨ w = 1) then (if w = 0 then hbN (dysR r n.toNat) 5 else dysR r n.toNat 2) else -1
set_option maxRecDepth 10000 in
theorem cC_heldThen (l : Launch) (f n : Int) (σ : aS) (r : aRw) (hR : Rep σ 0 r) (hw : WF r) (hd : r 1 ≤ 999) (hf : aIr f) (hn : aIr n) : AM l 6 mX6_heldThen [aR 0 0, aI f, aI n] σ (QC (A_heldThen r f n) σ) := by
  have bn := hw.1
  have en := hR.n
  have b1 := hw.2.1
  have e1 := hR.1.2.1
  have b2 := hw.2.2.1
  have e2 := hR.1.2.2
  refine am_of (by decide) (Nat.le_of_ble_eq_true rfl) (L := [some (aR 0 0), some (aI f), some (aI n)]) rfl ?_
  refine aw_b kX6_ok bX6_heldThen_0_ok (Cs := []) (pc' := 1) (L' := [some (aR 0 0), some (aI f), some (aI n)]) (st' := [aI f]) (σ' := σ) rfl trivial ?_
  refine aw_bS lX6_109 (as := [aI f]) (rest := []) (by decide) rfl (Nat.le_of_ble_eq_true rfl) rfl dX6_heldThen_1 (cC_isOffice l f σ ⟨by omega, by omega⟩) (fun wh1 => ?_) (fun wh1 => ?_)
  · refine aw_ieq dX6_heldThen_4 (tgt := 14) (by decide) ⟨by omega, by omega⟩ (fun wh2 => absurd wh2 (by decide)) (fun wh2 => ?_)
    refine aw_b kX6_ok bX6_heldThen_7_ok (Cs := []) (pc' := 8) (L' := [some (aR 0 0), some (aI f), some (aI n)]) (st' := [aI n]) (σ' := σ) rfl trivial ?_
    refine aw_bS lX6_165 (as := [aI n]) (rest := []) (by decide) rfl (Nat.le_of_ble_eq_true rfl) rfl dX6_heldThen_8 (cC_isAhead l n σ ⟨by omega, by omega⟩) (fun wh3 => ?_) (fun wh3 => ?_)
    · refine aw_ine dX6_heldThen_11 (tgt := 16) (by decide) ⟨by omega, by omega⟩ (fun wh4 => ?_) (fun wh4 => absurd wh4 (by decide))
      refine aw_b kX6_ok bX6_heldThen_16_ok (Cs := []) (pc' := 18) (L' := [some (aR 0 0), some (aI f), some (aI n)]) (st' := [aI n, aR 0 0]) (σ' := σ) rfl trivial ?_
      refine aw_callV lX6_168 (as := [aI n]) (rest := []) (t := 0) (c := 0) (by decide) (by decide) (by decide) rfl rfl (Nat.le_of_ble_eq_true rfl) rfl dX6_heldThen_18 (cC_foresee l n σ r hR hw hd (by omega) (by omega)) ?_
      rintro _ τ ⟨rfl, hT, hF⟩
      have hwT := dysR_wf hw n.toNat
      have eT := dysR_0 r n.toNat
      have enT := hT.n
      have ro := hT.of (f := f) (by omega) (by omega)
      have bh := hwT.ho (f := f) (by omega) (by omega)
      have nh := nb_cases (dysR r n.toNat (8 + f))
      refine aw_b kX6_ok bX6_heldThen_21_ok (Cs := [0 < 1, 1 < 3, 1 < 3, 0 ≤ f ∧ f < 5]) (pc' := 30) (L' := [some (aR 0 0), some (aI f), some (aI n)]) (st' := [aI (τ 8 1 f)]) (σ' := τ) rfl (show (0 < 1) ∧ (1 < 3) ∧ (1 < 3) ∧ (0 ≤ f ∧ f < 5) from ⟨by omega, by omega, by omega, by omega⟩) ?_
      refine aw_fS lX6_94 (as := [aI (τ 8 1 f)]) (rest := []) (by decide) rfl (Nat.le_of_ble_eq_true rfl) rfl dX6_heldThen_30 (cC_orNone l (τ 8 1 f) τ ⟨by omega, by omega⟩) ?_
      rw [show (if τ 8 1 f = -1 then (-4 : Int) else τ 8 1 f) = dysR r n.toNat (8 + f) by split <;> omega]
      exact aw_iret dX6_heldThen_33 rfl ⟨aret (by unfold A_heldThen; rw [if_pos (by omega)]), aFrC hF⟩
    · refine aw_ine dX6_heldThen_11 (tgt := 16) (by decide) ⟨by omega, by omega⟩ (fun wh5 => absurd wh5 (by decide)) (fun wh5 => ?_)
      refine aw_b kX6_ok bX6_heldThen_14_ok (Cs := []) (pc' := 15) (L' := [some (aR 0 0), some (aI f), some (aI n)]) (st' := [aI (-1)]) (σ' := σ) rfl trivial ?_
      exact aw_iret dX6_heldThen_15 rfl ⟨aret (by unfold A_heldThen; rw [if_neg (by omega)]), aFr_rf⟩
  · refine aw_ieq dX6_heldThen_4 (tgt := 14) (by decide) ⟨by omega, by omega⟩ (fun wh6 => ?_) (fun wh6 => absurd wh6 (by decide))
    refine aw_b kX6_ok bX6_heldThen_14_ok (Cs := []) (pc' := 15) (L' := [some (aR 0 0), some (aI f), some (aI n)]) (st' := [aI (-1)]) (σ' := σ) rfl trivial ?_
    exact aw_iret dX6_heldThen_15 rfl ⟨aret (by unfold A_heldThen; rw [if_neg (by omega)]), aFr_rf⟩
set_option maxRecDepth 10000 in
theorem cC_knownThen (l : Launch) (p n : Int) (σ : aS) (r : aRw) (hR : Rep σ 0 r) (hw : WF r) (hd : r 1 ≤ 999) (hp : aIr p) (hn : aIr n) : AM l 6 mX6_knownThen [aR 0 0, aI p, aI n] σ (QC (A_knownThen r p n) σ) := by
  have bn := hw.1
  have en := hR.n
  have b1 := hw.2.1
  have e1 := hR.1.2.1
  have b2 := hw.2.2.1
  have e2 := hR.1.2.2
  refine am_of (by decide) (Nat.le_of_ble_eq_true rfl) (L := [some (aR 0 0), some (aI p), some (aI n)]) rfl ?_
  refine aw_b kX6_ok bX6_knownThen_0_ok (Cs := [0 < 1]) (pc' := 5) (L' := [some (aR 0 0), some (aI p), some (aI n)]) (st' := [aI p, aR 1 0]) (σ' := σ) rfl (show 0 < 1 from by omega) ?_
  refine aw_bV lX6_76 (as := [aI p]) (rest := []) (t := 1) (c := 0) (by decide) (by decide) (by decide) rfl rfl (Nat.le_of_ble_eq_true rfl) rfl dX6_knownThen_5 (cC_isThere l p 0 (by omega) σ r hR hw ⟨by omega, by omega⟩) (fun wh1 => ?_) (fun wh1 => ?_)
  · refine aw_ieq dX6_knownThen_8 (tgt := 18) (by decide) ⟨by omega, by omega⟩ (fun wh2 => absurd wh2 (by decide)) (fun wh2 => ?_)
    refine aw_b kX6_ok bX6_knownThen_11_ok (Cs := []) (pc' := 12) (L' := [some (aR 0 0), some (aI p), some (aI n)]) (st' := [aI n]) (σ' := σ) rfl trivial ?_
    refine aw_bS lX6_165 (as := [aI n]) (rest := []) (by decide) rfl (Nat.le_of_ble_eq_true rfl) rfl dX6_knownThen_12 (cC_isAhead l n σ ⟨by omega, by omega⟩) (fun wh3 => ?_) (fun wh3 => ?_)
    · refine aw_ine dX6_knownThen_15 (tgt := 20) (by decide) ⟨by omega, by omega⟩ (fun wh4 => ?_) (fun wh4 => absurd wh4 (by decide))
      refine aw_b kX6_ok bX6_knownThen_20_ok (Cs := []) (pc' := 22) (L' := [some (aR 0 0), some (aI p), some (aI n)]) (st' := [aI n, aR 0 0]) (σ' := σ) rfl trivial ?_
      refine aw_callV lX6_168 (as := [aI n]) (rest := []) (t := 0) (c := 0) (by decide) (by decide) (by decide) rfl rfl (Nat.le_of_ble_eq_true rfl) rfl dX6_knownThen_22 (cC_foresee l n σ r hR hw hd (by omega) (by omega)) ?_
      rintro _ τ ⟨rfl, hT, hF⟩
      have hwT := dysR_wf hw n.toNat
      have eT := dysR_0 r n.toNat
      have enT := hT.n
      have rp := hT.pe (p := p) (by omega) (by omega)
      refine aw_b kX6_ok bX6_knownThen_25_ok (Cs := [0 < 1, 1 < 3, 1 < 3, 0 ≤ p ∧ p < 8]) (pc' := 34) (L' := [some (aR 0 0), some (aI p), some (aI n)]) (st' := [aI (τ 4 1 p)]) (σ' := τ) rfl (show (0 < 1) ∧ (1 < 3) ∧ (1 < 3) ∧ (0 ≤ p ∧ p < 8) from ⟨by omega, by omega, by omega, by omega⟩) ?_
      exact aw_iret dX6_knownThen_34 rfl ⟨aret (by unfold A_knownThen; rw [if_pos (by omega)]; omega), aFrC hF⟩
    · refine aw_ine dX6_knownThen_15 (tgt := 20) (by decide) ⟨by omega, by omega⟩ (fun wh5 => absurd wh5 (by decide)) (fun wh5 => ?_)
      refine aw_b kX6_ok bX6_knownThen_18_ok (Cs := []) (pc' := 19) (L' := [some (aR 0 0), some (aI p), some (aI n)]) (st' := [aI (-1)]) (σ' := σ) rfl trivial ?_
      exact aw_iret dX6_knownThen_19 rfl ⟨aret (by unfold A_knownThen; rw [if_neg (by omega)]), aFr_rf⟩
  · refine aw_ieq dX6_knownThen_8 (tgt := 18) (by decide) ⟨by omega, by omega⟩ (fun wh6 => ?_) (fun wh6 => absurd wh6 (by decide))
    refine aw_b kX6_ok bX6_knownThen_18_ok (Cs := []) (pc' := 19) (L' := [some (aR 0 0), some (aI p), some (aI n)]) (st' := [aI (-1)]) (σ' := σ) rfl trivial ?_
    exact aw_iret dX6_knownThen_19 rfl ⟨aret (by unfold A_knownThen; rw [if_neg (by omega)]), aFr_rf⟩
set_option maxRecDepth 10000 in
theorem cC_then (l : Launch) (n w : Int) (σ : aS) (r : aRw) (hR : Rep σ 0 r) (hw : WF r) (hd : r 1 ≤ 999) (hn : aIr n) (hv : aIr w) : AM l 6 mX6_then [aR 0 0, aI n, aI w] σ (QC (A_then r n w) σ) := by
  have bn := hw.1
  have en := hR.n
  have b1 := hw.2.1
  have e1 := hR.1.2.1
  have b2 := hw.2.2.1
  have e2 := hR.1.2.2
  refine am_of (by decide) (Nat.le_of_ble_eq_true rfl) (L := [some (aR 0 0), some (aI n), some (aI w)]) rfl ?_
  refine aw_b kX6_ok bX6_then_0_ok (Cs := []) (pc' := 1) (L' := [some (aR 0 0), some (aI n), some (aI w)]) (st' := [aI n]) (σ' := σ) rfl trivial ?_
  refine aw_bS lX6_165 (as := [aI n]) (rest := []) (by decide) rfl (Nat.le_of_ble_eq_true rfl) rfl dX6_then_1 (cC_isAhead l n σ ⟨by omega, by omega⟩) (fun wh1 => ?_) (fun wh1 => ?_)
  · refine aw_ieq dX6_then_4 (tgt := 14) (by decide) ⟨by omega, by omega⟩ (fun wh2 => absurd wh2 (by decide)) (fun wh2 => ?_)
    refine aw_b kX6_ok bX6_then_7_ok (Cs := []) (pc' := 8) (L' := [some (aR 0 0), some (aI n), some (aI w)]) (st' := [aI w]) (σ' := σ) rfl trivial ?_
    refine aw_bS lX6_171 (as := [aI w]) (rest := []) (by decide) rfl (Nat.le_of_ble_eq_true rfl) rfl dX6_then_8 (cC_isChoice l w σ ⟨by omega, by omega⟩) (fun wh3 => ?_) (fun wh3 => ?_)
    · refine aw_ine dX6_then_11 (tgt := 16) (by decide) ⟨by omega, by omega⟩ (fun wh4 => ?_) (fun wh4 => absurd wh4 (by decide))
      refine aw_b kX6_ok bX6_then_16_ok (Cs := []) (pc' := 18) (L' := [some (aR 0 0), some (aI n), some (aI w)]) (st' := [aI n, aR 0 0]) (σ' := σ) rfl trivial ?_
      refine aw_callV lX6_168 (as := [aI n]) (rest := []) (t := 0) (c := 0) (by decide) (by decide) (by decide) rfl rfl (Nat.le_of_ble_eq_true rfl) rfl dX6_then_18 (cC_foresee l n σ r hR hw hd (by omega) (by omega)) ?_
      rintro _ τ ⟨rfl, hT, hF⟩
      have hwT := dysR_wf hw n.toNat
      have eT := dysR_0 r n.toNat
      have enT := hT.n
      refine aw_b kX6_ok bX6_then_21_ok (Cs := []) (pc' := 22) (L' := [some (aR 0 0), some (aI n), some (aI w)]) (st' := [aI w]) (σ' := τ) rfl trivial ?_
      refine aw_ine dX6_then_22 (tgt := 35) (by decide) ⟨by omega, by omega⟩ (fun wh5 => ?_) (fun wh5 => ?_)
      · refine aw_b kX6_ok bX6_then_35_ok (Cs := [0 < 1, 1 < 3]) (pc' := 42) (L' := [some (aR 0 0), some (aI n), some (aI w)]) (st' := [aI (τ 1 1 2)]) (σ' := τ) rfl (show (0 < 1) ∧ (1 < 3) from ⟨by omega, by omega⟩) ?_
        exact aw_iret dX6_then_42 rfl ⟨aret (by unfold A_then; rw [if_pos (by omega), if_neg (by omega)]; exact hT.1.2.2), aFrC hF⟩
      · refine aw_b kX6_ok bX6_then_25_ok (Cs := [0 < 1]) (pc' := 29) (L' := [some (aR 0 0), some (aI n), some (aI w)]) (st' := [aR 1 1]) (σ' := τ) rfl (show 0 < 1 from by omega) ?_
        refine aw_fV lX6_174 (as := []) (rest := []) (t := 1) (c := 1) (by decide) (by decide) (by decide) rfl rfl (Nat.le_of_ble_eq_true rfl) rfl dX6_then_29 (cC_heldBits l 1 (by decide) τ _ hT hwT) ?_
        refine aw_b kX6_ok bX6_then_32_ok (Cs := []) (pc' := 42) (L' := [some (aR 0 0), some (aI n), some (aI w)]) (st' := [aI (hbN (dysR r n.toNat) 5)]) (σ' := τ) rfl trivial ?_
        exact aw_iret dX6_then_42 rfl ⟨aret (by unfold A_then; rw [if_pos (by omega), if_pos (by omega)]), aFrC hF⟩
    · refine aw_ine dX6_then_11 (tgt := 16) (by decide) ⟨by omega, by omega⟩ (fun wh6 => absurd wh6 (by decide)) (fun wh6 => ?_)
      refine aw_b kX6_ok bX6_then_14_ok (Cs := []) (pc' := 15) (L' := [some (aR 0 0), some (aI n), some (aI w)]) (st' := [aI (-1)]) (σ' := σ) rfl trivial ?_
      exact aw_iret dX6_then_15 rfl ⟨aret (by unfold A_then; rw [if_neg (by omega)]), aFr_rf⟩
  · refine aw_ieq dX6_then_4 (tgt := 14) (by decide) ⟨by omega, by omega⟩ (fun wh7 => ?_) (fun wh7 => absurd wh7 (by decide))
    refine aw_b kX6_ok bX6_then_14_ok (Cs := []) (pc' := 15) (L' := [some (aR 0 0), some (aI n), some (aI w)]) (st' := [aI (-1)]) (σ' := σ) rfl trivial ?_
    exact aw_iret dX6_then_15 rfl ⟨aret (by unfold A_then; rw [if_neg (by omega)]), aFr_rf⟩
def akN (r : aRw) : Nat → Int
  | 0 => 0
  | n + 1 => akN r n + r (aOf n 2)
theorem akN_rng {r : aRw} (hw : WF r) : ∀ n : Nat, (n : Int) ≤ r 0 → 0 ≤ akN r n ∧ akN r n ≤ 99 * n
  | 0, _ => ⟨Int.le_refl 0, Int.le_refl 0⟩
  | n + 1, h => by
    have z := akN_rng hw n (by omega)
    have b := hw.pe (p := (n : Int)) (by omega) (by omega)
    unfold akN
    omega
def A_count (r : aRw) (w : Int) : Int := if w = 0 then r 0 else if w = 1 then r 1 else if w = 2 then r 2 else if w = 3 then hbN r 5 else if w = 4 then akN r (r 0).toNat else -1
def A_shows (r : aRw) (p k : Int) : Int := if (0 ≤ p ∧ p < r 0) ∧ (0 ≤ k ∧ k < 10) then shF (r (aOf p 0)) (r (aOf p 1)) k (r 1 + 1) else -1
def A_office (r : aRw) (f w : Int) : Int := if 0 ≤ f ∧ f < 5 then (if w = 0 then r (3 + f) else if w = 1 then r (8 + f) else if w = 2 then (if 1 < cntC r (r (3 + f)) 5 then 1 else 0) else -1) else -1
set_option maxRecDepth 10000 in
theorem cC_knownOfAll (l : Launch) (c : Nat) (hc : c < 3) (σ : aS) (r : aRw) (hR : Rep σ c r) (hw : WF r) : AM l 0 mX0_knownOfAll [aR 1 c] σ (aF (some (aI (akN r (r 0).toNat))) σ) := by
  have bn := hw.1
  have en := hR.n
  refine am_of (by decide) (Nat.le_of_ble_eq_true rfl) (L := [some (aR 1 c), none, none]) rfl ?_
  refine aw_b kX0_ok bX0_knownOfAll_0_ok (Cs := []) (pc' := 4) (L' := [some (aR 1 c), some (aI 0), some (aI 0)]) (st' := []) (σ' := σ) rfl trivial ?_
  refine aloop (P := fun n : Nat => AW l 0 mX0_knownOfAll _ 4 [some (aR 1 c), some (aI (akN r n)), some (aI (n : Int))] [] σ) ((r 0).toNat) (fun n hn ihn => ?_)
  refine aw_b kX0_ok bX0_knownOfAll_4_ok (Cs := [c < 3]) (pc' := 9) (L' := [some (aR 1 c), some (aI (akN r n)), some (aI (n : Int))]) (st' := [aI (σ 1 c 0), aI (n : Int)]) (σ' := σ) rfl (show c < 3 from by omega) ?_
  refine aw_cge dX0_knownOfAll_9 (tgt := 27) (by decide) ⟨by omega, by omega⟩ ⟨by omega, by omega⟩ (fun wh1 => ?_) (fun wh1 => ?_)
  · refine aw_b kX0_ok bX0_knownOfAll_27_ok (Cs := []) (pc' := 28) (L' := [some (aR 1 c), some (aI (akN r n)), some (aI (n : Int))]) (st' := [aI (akN r n)]) (σ' := σ) rfl trivial ?_
    exact aw_iret dX0_knownOfAll_28 rfl ⟨aret (by rw [show n = (r 0).toNat by omega]), rfl⟩
  · have rp := hR.pe (p := (n : Int)) (by omega) (by omega)
    refine aw_b kX0_ok bX0_knownOfAll_12_ok (Cs := [c < 3, c < 3, 0 ≤ (n : Int) ∧ (n : Int) < 8]) (pc' := 4) (L' := [some (aR 1 c), some (aI ((akN r n) + (σ 4 c (n : Int)))), some (aI ((n : Int) + 1))]) (st' := []) (σ' := σ) rfl (show (c < 3) ∧ (c < 3) ∧ (0 ≤ (n : Int) ∧ (n : Int) < 8) from ⟨by omega, by omega, by omega⟩) ?_
    exact aw_eq (by simp only [akN, ← rp.2.2.1]; rfl) rfl rfl (ihn (by omega))
set_option maxRecDepth 10000 in
theorem cC_count (l : Launch) (w : Int) (σ : aS) (r : aRw) (hR : Rep σ 0 r) (hw : WF r) (hd : r 1 ≤ 999) (hv : aIr w) : AM l 1 mX6_count [aR 0 0, aI w] σ (QC (A_count r w) σ) := by
  have bn := hw.1
  have en := hR.n
  have b1 := hw.2.1
  have e1 := hR.1.2.1
  have b2 := hw.2.2.1
  have e2 := hR.1.2.2
  refine am_of (by decide) (Nat.le_of_ble_eq_true rfl) (L := [some (aR 0 0), some (aI w)]) rfl ?_
  refine aw_b kX6_ok bX6_count_0_ok (Cs := []) (pc' := 1) (L' := [some (aR 0 0), some (aI w)]) (st' := [aI w]) (σ' := σ) rfl trivial ?_
  rcases (show w = 0 ∨ w = 1 ∨ w = 2 ∨ w = 3 ∨ w = 4 ∨ (w < 0 ∨ 4 < w) by omega) with wh1 | wh1 | wh1 | wh1 | wh1 | wh1
  · refine aw_tsw dX6_count_1 (tgt := 36) ⟨by omega, by omega⟩ (by decide) (by rw [wh1]; decide) ?_
    refine aw_b kX6_ok bX6_count_36_ok (Cs := [0 < 1, 0 < 3]) (pc' := 43) (L' := [some (aR 0 0), some (aI w)]) (st' := [aI (σ 1 0 0)]) (σ' := σ) rfl (show (0 < 1) ∧ (0 < 3) from ⟨by omega, by omega⟩) ?_
    exact aw_iret dX6_count_43 rfl ⟨aret (by unfold A_count; (repeat' split) <;> omega), aFr_rf⟩
  · refine aw_tsw dX6_count_1 (tgt := 44) ⟨by omega, by omega⟩ (by decide) (by rw [wh1]; decide) ?_
    refine aw_b kX6_ok bX6_count_44_ok (Cs := [0 < 1, 0 < 3]) (pc' := 51) (L' := [some (aR 0 0), some (aI w)]) (st' := [aI (σ 1 0 1)]) (σ' := σ) rfl (show (0 < 1) ∧ (0 < 3) from ⟨by omega, by omega⟩) ?_
    exact aw_iret dX6_count_51 rfl ⟨aret (by unfold A_count; (repeat' split) <;> omega), aFr_rf⟩
  · refine aw_tsw dX6_count_1 (tgt := 52) ⟨by omega, by omega⟩ (by decide) (by rw [wh1]; decide) ?_
    refine aw_b kX6_ok bX6_count_52_ok (Cs := [0 < 1, 0 < 3]) (pc' := 59) (L' := [some (aR 0 0), some (aI w)]) (st' := [aI (σ 1 0 2)]) (σ' := σ) rfl (show (0 < 1) ∧ (0 < 3) from ⟨by omega, by omega⟩) ?_
    exact aw_iret dX6_count_59 rfl ⟨aret (by unfold A_count; (repeat' split) <;> omega), aFr_rf⟩
  · refine aw_tsw dX6_count_1 (tgt := 60) ⟨by omega, by omega⟩ (by decide) (by rw [wh1]; decide) ?_
    refine aw_b kX6_ok bX6_count_60_ok (Cs := [0 < 1]) (pc' := 64) (L' := [some (aR 0 0), some (aI w)]) (st' := [aR 1 0]) (σ' := σ) rfl (show 0 < 1 from by omega) ?_
    refine aw_fV lX6_174 (as := []) (rest := []) (t := 1) (c := 0) (by decide) (by decide) (by decide) rfl rfl (Nat.le_of_ble_eq_true rfl) rfl dX6_count_64 (cC_heldBits l 0 (by omega) σ r hR hw) ?_
    exact aw_iret dX6_count_67 rfl ⟨aret (by unfold A_count; (repeat' split) <;> omega), aFr_rf⟩
  · refine aw_tsw dX6_count_1 (tgt := 68) ⟨by omega, by omega⟩ (by decide) (by rw [wh1]; decide) ?_
    refine aw_b kX6_ok bX6_count_68_ok (Cs := [0 < 1]) (pc' := 72) (L' := [some (aR 0 0), some (aI w)]) (st' := [aR 1 0]) (σ' := σ) rfl (show 0 < 1 from by omega) ?_
    refine aw_fV lX6_242 (as := []) (rest := []) (t := 1) (c := 0) (by decide) (by decide) (by decide) rfl rfl (Nat.le_of_ble_eq_true rfl) rfl dX6_count_72 (cC_knownOfAll l 0 (by decide) σ r hR hw) ?_
    exact aw_iret dX6_count_75 rfl ⟨aret (by unfold A_count; (repeat' split) <;> omega), aFr_rf⟩
  · refine aw_tsw dX6_count_1 (tgt := 76) ⟨by omega, by omega⟩ (by decide) (by unfold aTgt; rw [if_pos (by omega)]; rfl) ?_
    refine aw_b kX6_ok bX6_count_76_ok (Cs := []) (pc' := 77) (L' := [some (aR 0 0), some (aI w)]) (st' := [aI (-1)]) (σ' := σ) rfl trivial ?_
    exact aw_iret dX6_count_77 rfl ⟨aret (by unfold A_count; (repeat' split) <;> omega), aFr_rf⟩
set_option maxRecDepth 10000 in
theorem cC_shows (l : Launch) (p k : Int) (σ : aS) (r : aRw) (hR : Rep σ 0 r) (hw : WF r) (hd : r 1 ≤ 999) (hp : aIr p) (hk : aIr k) : AM l 2 mX6_shows [aR 0 0, aI p, aI k] σ (QC (A_shows r p k) σ) := by
  have bn := hw.1
  have en := hR.n
  have b1 := hw.2.1
  have e1 := hR.1.2.1
  have b2 := hw.2.2.1
  have e2 := hR.1.2.2
  refine am_of (by decide) (Nat.le_of_ble_eq_true rfl) (L := [some (aR 0 0), some (aI p), some (aI k)]) rfl ?_
  refine aw_b kX6_ok bX6_shows_0_ok (Cs := [0 < 1]) (pc' := 5) (L' := [some (aR 0 0), some (aI p), some (aI k)]) (st' := [aI p, aR 1 0]) (σ' := σ) rfl (show 0 < 1 from by omega) ?_
  refine aw_bV lX6_76 (as := [aI p]) (rest := []) (t := 1) (c := 0) (by decide) (by decide) (by decide) rfl rfl (Nat.le_of_ble_eq_true rfl) rfl dX6_shows_5 (cC_isThere l p 0 (by omega) σ r hR hw ⟨by omega, by omega⟩) (fun wh1 => ?_) (fun wh1 => ?_)
  · refine aw_ieq dX6_shows_8 (tgt := 18) (by decide) ⟨by omega, by omega⟩ (fun wh2 => absurd wh2 (by decide)) (fun wh2 => ?_)
    refine aw_b kX6_ok bX6_shows_11_ok (Cs := []) (pc' := 12) (L' := [some (aR 0 0), some (aI p), some (aI k)]) (st' := [aI k]) (σ' := σ) rfl trivial ?_
    refine aw_bS lX6_121 (as := [aI k]) (rest := []) (by decide) rfl (Nat.le_of_ble_eq_true rfl) rfl dX6_shows_12 (cC_isCostume l k σ ⟨by omega, by omega⟩) (fun wh3 => ?_) (fun wh3 => ?_)
    · refine aw_ine dX6_shows_15 (tgt := 20) (by decide) ⟨by omega, by omega⟩ (fun wh4 => ?_) (fun wh4 => absurd wh4 (by decide))
      have bp := hw.pe (p := p) (by omega) (by omega)
      have rp := hR.pe (p := p) (by omega) (by omega)
      have bo := off_rng r p
      have no := nb_cases (off r p)
      refine aw_b kX6_ok bX6_shows_20_ok (Cs := [0 < 1, 0 < 3, 0 < 3, 0 ≤ p ∧ p < 8, 0 < 1, 0 < 3, 0 < 3, 0 ≤ p ∧ p < 8, 0 < 1, 0 < 3]) (pc' := 48) (L' := [some (aR 0 0), some (aI p), some (aI k)]) (st' := [aI ((σ 1 0 1) + 1), aI k, aI (σ 3 0 p), aI (σ 2 0 p)]) (σ' := σ) rfl (show (0 < 1) ∧ (0 < 3) ∧ (0 < 3) ∧ (0 ≤ p ∧ p < 8) ∧ (0 < 1) ∧ (0 < 3) ∧ (0 < 3) ∧ (0 ≤ p ∧ p < 8) ∧ (0 < 1) ∧ (0 < 3) from ⟨by omega, by omega, by omega, by omega, by omega, by omega, by omega, by omega, by omega, by omega⟩) ?_
      refine aw_fS lX6_128 (as := [aI (σ 2 0 p), aI (σ 3 0 p), aI k, aI ((σ 1 0 1) + 1)]) (rest := []) (by decide) rfl (Nat.le_of_ble_eq_true rfl) rfl dX6_shows_48 (cC_shown l (σ 2 0 p) (σ 3 0 p) k ((σ 1 0 1) + 1) σ ⟨by omega, by omega⟩ ⟨by omega, by omega⟩ ⟨by omega, by omega⟩ ⟨by omega, by omega⟩) ?_
      exact aw_iret dX6_shows_51 rfl ⟨aret (by unfold A_shows; rw [if_pos (by omega), rp.1, rp.2.1, e1]), aFr_rf⟩
    · refine aw_ine dX6_shows_15 (tgt := 20) (by decide) ⟨by omega, by omega⟩ (fun wh5 => absurd wh5 (by decide)) (fun wh5 => ?_)
      refine aw_b kX6_ok bX6_shows_18_ok (Cs := []) (pc' := 19) (L' := [some (aR 0 0), some (aI p), some (aI k)]) (st' := [aI (-1)]) (σ' := σ) rfl trivial ?_
      exact aw_iret dX6_shows_19 rfl ⟨aret (by unfold A_shows; rw [if_neg (by omega)]), aFr_rf⟩
  · refine aw_ieq dX6_shows_8 (tgt := 18) (by decide) ⟨by omega, by omega⟩ (fun wh6 => ?_) (fun wh6 => absurd wh6 (by decide))
    refine aw_b kX6_ok bX6_shows_18_ok (Cs := []) (pc' := 19) (L' := [some (aR 0 0), some (aI p), some (aI k)]) (st' := [aI (-1)]) (σ' := σ) rfl trivial ?_
    exact aw_iret dX6_shows_19 rfl ⟨aret (by unfold A_shows; rw [if_neg (by omega)]), aFr_rf⟩
set_option maxRecDepth 10000 in
theorem cC_office (l : Launch) (f w : Int) (σ : aS) (r : aRw) (hR : Rep σ 0 r) (hw : WF r) (hd : r 1 ≤ 999) (hf : aIr f) (hv : aIr w) : AM l 1 mX6_office [aR 0 0, aI f, aI w] σ (QC (A_office r f w) σ) := by
  have bn := hw.1
  have en := hR.n
  have b1 := hw.2.1
  have e1 := hR.1.2.1
  have b2 := hw.2.2.1
  have e2 := hR.1.2.2
  refine am_of (by decide) (Nat.le_of_ble_eq_true rfl) (L := [some (aR 0 0), some (aI f), some (aI w)]) rfl ?_
  refine aw_b kX6_ok bX6_office_0_ok (Cs := []) (pc' := 1) (L' := [some (aR 0 0), some (aI f), some (aI w)]) (st' := [aI f]) (σ' := σ) rfl trivial ?_
  refine aw_bS lX6_109 (as := [aI f]) (rest := []) (by decide) rfl (Nat.le_of_ble_eq_true rfl) rfl dX6_office_1 (cC_isOffice l f σ ⟨by omega, by omega⟩) (fun wh1 => ?_) (fun wh1 => ?_)
  · have bc := hw.co (f := f) (by omega) (by omega)
    have bh := hw.ho (f := f) (by omega) (by omega)
    have ro := hR.of (f := f) (by omega) (by omega)
    have nh := nb_cases (r (8 + f))
    refine aw_ine dX6_office_4 (tgt := 9) (by decide) ⟨by omega, by omega⟩ (fun wh2 => ?_) (fun wh2 => absurd wh2 (by decide))
    refine aw_b kX6_ok bX6_office_9_ok (Cs := []) (pc' := 10) (L' := [some (aR 0 0), some (aI f), some (aI w)]) (st' := [aI w]) (σ' := σ) rfl trivial ?_
    rcases (show w = 0 ∨ w = 1 ∨ w = 2 ∨ (w < 0 ∨ 2 < w) by omega) with wh3 | wh3 | wh3 | wh3
    · refine aw_tsw dX6_office_10 (tgt := 36) ⟨by omega, by omega⟩ (by decide) (by rw [wh3]; decide) ?_
      refine aw_b kX6_ok bX6_office_36_ok (Cs := [0 < 1, 0 < 3, 0 < 3, 0 ≤ f ∧ f < 5]) (pc' := 45) (L' := [some (aR 0 0), some (aI f), some (aI w)]) (st' := [aI (σ 7 0 f)]) (σ' := σ) rfl (show (0 < 1) ∧ (0 < 3) ∧ (0 < 3) ∧ (0 ≤ f ∧ f < 5) from ⟨by omega, by omega, by omega, by omega⟩) ?_
      exact aw_iret dX6_office_45 rfl ⟨aret (by unfold A_office; rw [if_pos (by omega)]; (try rw [← ro.1]); (repeat' split) <;> omega), aFr_rf⟩
    · refine aw_tsw dX6_office_10 (tgt := 46) ⟨by omega, by omega⟩ (by decide) (by rw [wh3]; decide) ?_
      refine aw_b kX6_ok bX6_office_46_ok (Cs := [0 < 1, 0 < 3, 0 < 3, 0 ≤ f ∧ f < 5]) (pc' := 55) (L' := [some (aR 0 0), some (aI f), some (aI w)]) (st' := [aI (σ 8 0 f)]) (σ' := σ) rfl (show (0 < 1) ∧ (0 < 3) ∧ (0 < 3) ∧ (0 ≤ f ∧ f < 5) from ⟨by omega, by omega, by omega, by omega⟩) ?_
      refine aw_fS lX6_94 (as := [aI (σ 8 0 f)]) (rest := []) (by decide) rfl (Nat.le_of_ble_eq_true rfl) rfl dX6_office_55 (cC_orNone l (σ 8 0 f) σ ⟨by omega, by omega⟩) ?_
      rw [show (if σ 8 0 f = -1 then (-4 : Int) else σ 8 0 f) = r (8 + f) by split <;> omega]
      exact aw_iret dX6_office_58 rfl ⟨aret (by unfold A_office; rw [if_pos (by omega)]; (try rw [← ro.1]); (repeat' split) <;> omega), aFr_rf⟩
    · refine aw_tsw dX6_office_10 (tgt := 59) ⟨by omega, by omega⟩ (by decide) (by rw [wh3]; decide) ?_
      refine aw_b kX6_ok bX6_office_59_ok (Cs := [0 < 1, 0 < 1, 0 < 3, 0 < 3, 0 ≤ f ∧ f < 5]) (pc' := 72) (L' := [some (aR 0 0), some (aI f), some (aI w)]) (st' := [aI (σ 7 0 f), aR 1 0]) (σ' := σ) rfl (show (0 < 1) ∧ (0 < 1) ∧ (0 < 3) ∧ (0 < 3) ∧ (0 ≤ f ∧ f < 5) from ⟨by omega, by omega, by omega, by omega, by omega⟩) ?_
      refine aw_fV lX6_118 (as := [aI (σ 7 0 f)]) (rest := []) (t := 1) (c := 0) (by decide) (by decide) (by decide) rfl rfl (Nat.le_of_ble_eq_true rfl) rfl dX6_office_72 (cC_heldIn l (σ 7 0 f) 0 (by omega) σ r hR hw ⟨by omega, by omega⟩) ?_
      have qc := cntC_le r (σ 7 0 f) 5
      refine aw_b kX6_ok bX6_office_75_ok (Cs := []) (pc' := 76) (L' := [some (aR 0 0), some (aI f), some (aI w)]) (st' := [aI 1, aI (cntC r (σ 7 0 f) 5)]) (σ' := σ) rfl trivial ?_
      refine aw_cle dX6_office_76 (tgt := 83) (by decide) ⟨by omega, by omega⟩ ⟨by omega, by omega⟩ (fun wh4 => ?_) (fun wh4 => ?_)
      · refine aw_b kX6_ok bX6_office_83_ok (Cs := []) (pc' := 84) (L' := [some (aR 0 0), some (aI f), some (aI w)]) (st' := [aI 0]) (σ' := σ) rfl trivial ?_
        exact aw_iret dX6_office_84 rfl ⟨aret (by unfold A_office; rw [if_pos (by omega)]; (try rw [← ro.1]); (repeat' split) <;> omega), aFr_rf⟩
      · refine aw_b kX6_ok bX6_office_79_ok (Cs := []) (pc' := 84) (L' := [some (aR 0 0), some (aI f), some (aI w)]) (st' := [aI 1]) (σ' := σ) rfl trivial ?_
        exact aw_iret dX6_office_84 rfl ⟨aret (by unfold A_office; rw [if_pos (by omega)]; (try rw [← ro.1]); (repeat' split) <;> omega), aFr_rf⟩
    · refine aw_tsw dX6_office_10 (tgt := 85) ⟨by omega, by omega⟩ (by decide) (by unfold aTgt; rw [if_pos (by omega)]; rfl) ?_
      refine aw_b kX6_ok bX6_office_85_ok (Cs := []) (pc' := 86) (L' := [some (aR 0 0), some (aI f), some (aI w)]) (st' := [aI (-1)]) (σ' := σ) rfl trivial ?_
      exact aw_iret dX6_office_86 rfl ⟨aret (by unfold A_office; rw [if_pos (by omega)]; (try rw [← ro.1]); (repeat' split) <;> omega), aFr_rf⟩
  · refine aw_ine dX6_office_4 (tgt := 9) (by decide) ⟨by omega, by omega⟩ (fun wh5 => absurd wh5 (by decide)) (fun wh5 => ?_)
    refine aw_b kX6_ok bX6_office_7_ok (Cs := []) (pc' := 8) (L' := [some (aR 0 0), some (aI f), some (aI w)]) (st' := [aI (-1)]) (σ' := σ) rfl trivial ?_
    exact aw_iret dX6_office_8 rfl ⟨aret (by unfold A_office; rw [if_neg (by omega)]), aFr_rf⟩
