/-! ===== the model: what is asked ===== -/
set_option maxRecDepth 10000 in
theorem cM_has (l : Launch) (s p : Int) (σ : aS) (s0 : 0 ≤ s) (s1 : s < 256) (p0 : 0 ≤ p) (p1 : p < 8) : AM l 0 mX7_has [aI s, aI p] σ (aF (some (aI (if bitF s p = 1 then 1 else 0))) σ) := by
  have bt := bit_all s0 s1 p0 p1
  have hv : aAnd (s / 2 ^ (Int.toNat p)) 1 = bitF s p := rfl
  refine am_of (by decide) (Nat.le_of_ble_eq_true rfl) (L := [some (aI s), some (aI p)]) rfl ?_
  refine aw_b kX7_ok bX7_has_0_ok (Cs := [0 ≤ p ∧ p < 32, -2147483648 ≤ s ∧ s < 2147483648]) (pc' := 6) (L' := [some (aI s), some (aI p)]) (st' := [aI 1, aI (aAnd (s / 2 ^ (Int.toNat p)) 1)]) (σ' := σ) rfl (show (0 ≤ p ∧ p < 32) ∧ (-2147483648 ≤ s ∧ s < 2147483648) from ⟨by omega, by omega⟩) ?_
  refine aw_cne dX7_has_6 (tgt := 13) (by decide) ⟨by omega, by omega⟩ ⟨by omega, by omega⟩ (fun wh1 => ?_) (fun wh1 => ?_)
  · refine aw_b kX7_ok bX7_has_13_ok (Cs := []) (pc' := 14) (L' := [some (aI s), some (aI p)]) (st' := [aI 0]) (σ' := σ) rfl trivial ?_
    exact aw_zret dX7_has_14 rfl (by omega) ⟨aret (by split <;> omega), rfl⟩
  · refine aw_b kX7_ok bX7_has_9_ok (Cs := []) (pc' := 14) (L' := [some (aI s), some (aI p)]) (st' := [aI 1]) (σ' := σ) rfl trivial ?_
    exact aw_zret dX7_has_14 rfl (by omega) ⟨aret (by split <;> omega), rfl⟩
set_option maxRecDepth 10000 in
theorem cM_bits (l : Launch) (x : Int) (σ : aS) (h0 : 0 ≤ x) (h1 : x < 256) : AM l 0 mX7_bits [aI x] σ (aF (some (aI (bcN x 8))) σ) := by
  refine am_of (by decide) (Nat.le_of_ble_eq_true rfl) (L := [some (aI x), none, none]) rfl ?_
  refine aw_b kX7_ok bX7_bits_0_ok (Cs := []) (pc' := 4) (L' := [some (aI x), some (aI 0), some (aI 0)]) (st' := []) (σ' := σ) rfl trivial ?_
  refine aloop (P := fun n : Nat => AW l 0 mX7_bits _ 4 [some (aI x), some (aI (bcN x n)), some (aI (n : Int))] [] σ) (8) (fun n hn ihn => ?_)
  refine aw_b kX7_ok bX7_bits_4_ok (Cs := []) (pc' := 7) (L' := [some (aI x), some (aI (bcN x n)), some (aI (n : Int))]) (st' := [aI 8, aI (n : Int)]) (σ' := σ) rfl trivial ?_
  refine aw_cge dX7_bits_7 (tgt := 24) (by decide) ⟨by omega, by omega⟩ ⟨by omega, by omega⟩ (fun wh1 => ?_) (fun wh1 => ?_)
  · refine aw_b kX7_ok bX7_bits_24_ok (Cs := []) (pc' := 25) (L' := [some (aI x), some (aI (bcN x n)), some (aI (n : Int))]) (st' := [aI (bcN x n)]) (σ' := σ) rfl trivial ?_
    exact aw_iret dX7_bits_25 rfl ⟨aret (by rw [show n = 8 by omega]), rfl⟩
  · refine aw_b kX7_ok bX7_bits_10_ok (Cs := [0 ≤ (n : Int) ∧ (n : Int) < 32, -2147483648 ≤ x ∧ x < 2147483648]) (pc' := 4) (L' := [some (aI x), some (aI ((bcN x n) + (aAnd (x / 2 ^ (Int.toNat (n : Int))) 1))), some (aI ((n : Int) + 1))]) (st' := []) (σ' := σ) rfl (show (0 ≤ (n : Int) ∧ (n : Int) < 32) ∧ (-2147483648 ≤ x ∧ x < 2147483648) from ⟨by omega, by omega⟩) ?_
    exact ihn (by omega)
theorem chF_end {r : aRw} {s p : Int} (h : ¬ ((0 ≤ p ∧ p < r 0) ∧ bitF s p = 0)) (k : Nat) : chF r k s p = s := by
  cases k with
  | zero => rfl
  | succ k => rw [chF, if_neg h]
theorem bc0 : bcN 0 8 = 0 := by decide +kernel
set_option maxRecDepth 10000 in
theorem cM_chainOf (l : Launch) (p : Int) (σ : aS) (hw : WF (σ 22 0)) (hd : σ 22 0 1 ≤ 999) (hz : OZ (σ 22 1)) (hp : aIr p) : AM l 2 mX7_chainOf [aR 21 0, aI p] σ (aF (some (aI (bcN (chF (σ 22 0) 8 0 p) 8))) σ) := by
  have bn := hw.1
  have b1 := hw.2.1
  have b2 := hw.2.2.1
  have h00 : σ = aRow σ 1 (σ 22 1) := aRow_id.symm
  refine am_of (by decide) (Nat.le_of_ble_eq_true rfl) (L := [some (aR 21 0), some (aI p), none, none]) rfl ?_
  refine aw_b kX7_ok bX7_chainOf_0_ok (Cs := []) (pc' := 4) (L' := [some (aR 21 0), some (aI p), some (aI 0), some (aI p)]) (st' := []) (σ' := σ) rfl trivial ?_
  refine aloop (P := fun n : Nat => ∀ (s : Int) (q : Int) (hb : 0 ≤ s ∧ s < 256) (hq : aIr q) (hn8 : bcN s 8 = (n : Int)) (hA : chF (σ 22 0) 8 0 p = chF (σ 22 0) (8 - n) s q), AW l 2 mX7_chainOf _ 4 [some (aR 21 0), some (aI p), some (aI s), some (aI q)] [] σ) (8) (fun n hn ihn s q hb hq hn8 hA => ?_) 0 p ⟨by decide, by decide⟩ hp bc0 rfl
  refine aw_b kX7_ok bX7_chainOf_4_ok (Cs := []) (pc' := 6) (L' := [some (aR 21 0), some (aI p), some (aI s), some (aI q)]) (st' := [aI q, aR 21 0]) (σ' := σ) rfl trivial ?_
  refine aw_bV lX7_128 (as := [aI q]) (rest := []) (t := 21) (c := 0) (by decide) (by decide) (by decide) rfl rfl (Nat.le_of_ble_eq_true rfl) rfl dX7_chainOf_6 (cM_isOne l q σ ⟨by omega, by omega⟩ (by omega)) (fun wh1 => ?_) (fun wh1 => ?_)
  · have bt := bit_all hb.1 hb.2 (p := q) (by omega) (by omega)
    have bp := hw.pe (p := q) (by omega) (by omega)
    have ba := aOf_rng (p := q) (w := 3) (by omega) (by omega) (by decide) (by decide)
    refine aw_ieq dX7_chainOf_9 (tgt := 40) (by decide) ⟨by omega, by omega⟩ (fun wh2 => absurd wh2 (by decide)) (fun wh2 => ?_)
    refine aw_b kX7_ok bX7_chainOf_12_ok (Cs := []) (pc' := 14) (L' := [some (aR 21 0), some (aI p), some (aI s), some (aI q)]) (st' := [aI q, aI s]) (σ' := σ) rfl trivial ?_
    refine aw_bS lX7_152 (as := [aI s, aI q]) (rest := []) (by decide) rfl (Nat.le_of_ble_eq_true rfl) rfl dX7_chainOf_14 (cM_has l s q σ (by omega) (by omega) (by omega) (by omega)) (fun wh3 => ?_) (fun wh3 => ?_)
    · have hE : chF (σ 22 0) 8 0 p = s := by rw [hA]; exact chF_end (by omega) _
      refine aw_ine dX7_chainOf_17 (tgt := 40) (by decide) ⟨by omega, by omega⟩ (fun wh4 => ?_) (fun wh4 => absurd wh4 (by decide))
      refine aw_b kX7_ok bX7_chainOf_40_ok (Cs := []) (pc' := 41) (L' := [some (aR 21 0), some (aI p), some (aI s), some (aI q)]) (st' := [aI s]) (σ' := σ) rfl trivial ?_
      refine aw_fS lX7_155 (as := [aI s]) (rest := []) (by decide) rfl (Nat.le_of_ble_eq_true rfl) rfl dX7_chainOf_41 (cM_bits l s σ hb.1 hb.2) ?_
      exact aw_iret dX7_chainOf_44 rfl ⟨aret (by rw [hE]), rfl⟩
    · refine aw_ine dX7_chainOf_17 (tgt := 40) (by decide) ⟨by omega, by omega⟩ (fun wh5 => absurd wh5 (by decide)) (fun wh5 => ?_)
      refine aw_b kX7_ok bX7_chainOf_20_ok (Cs := [0 ≤ q ∧ q < 32, 0 < 1]) (pc' := 32) (L' := [some (aR 21 0), some (aI p), some (aI (aOr s (1 * 2 ^ (Int.toNat q)))), some (aI q)]) (st' := [aI 3, aI q, aR 22 0]) (σ' := σ) rfl (show (0 ≤ q ∧ q < 32) ∧ (0 < 1) from ⟨by omega, by omega⟩) ?_
      refine aw_fS lX7_57 (as := [aI q, aI 3]) (rest := [aR 22 0]) (by decide) rfl (Nat.le_of_ble_eq_true rfl) rfl dX7_chainOf_32 (cM_of l q 3 σ) ?_
      refine aw_b kX7_ok bX7_chainOf_35_ok (Cs := [0 < 4, 0 ≤ aOf q 3 ∧ aOf q 3 < 45]) (pc' := 4) (L' := [some (aR 21 0), some (aI p), some (aI (aOr s (1 * 2 ^ (Int.toNat q)))), some (aI (σ 22 0 (aOf q 3)))]) (st' := []) (σ' := σ) rfl (show (0 < 4) ∧ (0 ≤ aOf q 3 ∧ aOf q 3 < 45) from ⟨by omega, by omega⟩) ?_
      have hl8 : n < 8 := by omega
      have hB : chF (σ 22 0) 8 0 p = chF (σ 22 0) (8 - (n + 1)) (addF s q) ((σ 22 0) (aOf q 3)) := by
        rw [hA, show 8 - n = (8 - (n + 1)) + 1 by omega, chF, if_pos ⟨by omega, by omega⟩]
      exact ihn hl8 _ _ bt.2.1 ⟨by omega, by omega⟩ (by have z := bt.2.2.1 (by omega); rw [hn8] at z; exact z) hB
  · have hE : chF (σ 22 0) 8 0 p = s := by rw [hA]; exact chF_end (by omega) _
    refine aw_ieq dX7_chainOf_9 (tgt := 40) (by decide) ⟨by omega, by omega⟩ (fun wh6 => ?_) (fun wh6 => absurd wh6 (by decide))
    refine aw_b kX7_ok bX7_chainOf_40_ok (Cs := []) (pc' := 41) (L' := [some (aR 21 0), some (aI p), some (aI s), some (aI q)]) (st' := [aI s]) (σ' := σ) rfl trivial ?_
    refine aw_fS lX7_155 (as := [aI s]) (rest := []) (by decide) rfl (Nat.le_of_ble_eq_true rfl) rfl dX7_chainOf_41 (cM_bits l s σ hb.1 hb.2) ?_
    exact aw_iret dX7_chainOf_44 rfl ⟨aret (by rw [hE]), rfl⟩
set_option maxRecDepth 10000 in
theorem cM_one (l : Launch) (p w : Int) (σ : aS) (hw : WF (σ 22 0)) (hd : σ 22 0 1 ≤ 999) (hz : OZ (σ 22 1)) (hp : aIr p) (hv : aIr w) : AM l 3 mX7_one [aR 21 0, aI p, aI w] σ (QR (A_one (σ 22 0) p w) σ) := by
  have bn := hw.1
  have b1 := hw.2.1
  have b2 := hw.2.2.1
  have h00 : σ = aRow σ 1 (σ 22 1) := aRow_id.symm
  refine am_of (by decide) (Nat.le_of_ble_eq_true rfl) (L := [some (aR 21 0), some (aI p), some (aI w)]) rfl ?_
  refine aw_b kX7_ok bX7_one_0_ok (Cs := []) (pc' := 2) (L' := [some (aR 21 0), some (aI p), some (aI w)]) (st' := [aI p, aR 21 0]) (σ' := σ) rfl trivial ?_
  refine aw_bV lX7_128 (as := [aI p]) (rest := []) (t := 21) (c := 0) (by decide) (by decide) (by decide) rfl rfl (Nat.le_of_ble_eq_true rfl) rfl dX7_one_2 (cM_isOne l p σ ⟨by omega, by omega⟩ (by omega)) (fun wh1 => ?_) (fun wh1 => ?_)
  · refine aw_ieq dX7_one_5 (tgt := 18) (by decide) ⟨by omega, by omega⟩ (fun wh2 => absurd wh2 (by decide)) (fun wh2 => ?_)
    refine aw_b kX7_ok bX7_one_8_ok (Cs := []) (pc' := 12) (L' := [some (aR 21 0), some (aI p), some (aI w)]) (st' := [aI 7, aI 0, aI w]) (σ' := σ) rfl trivial ?_
    refine aw_bS lX7_49 (as := [aI w, aI 0, aI 7]) (rest := []) (by decide) rfl (Nat.le_of_ble_eq_true rfl) rfl dX7_one_12 (cM_isIn l w 0 7 σ ⟨by omega, by omega⟩ ⟨by omega, by omega⟩ ⟨by omega, by omega⟩) (fun wh3 => ?_) (fun wh3 => ?_)
    · have bp := hw.pe (p := p) (by omega) (by omega)
      have ba := aOf_rng (p := p) (w := 0) (by omega) (by omega) (by decide) (by decide)
      have bb := aOf_rng (p := p) (w := 1) (by omega) (by omega) (by decide) (by decide)
      refine aw_ine dX7_one_15 (tgt := 20) (by decide) ⟨by omega, by omega⟩ (fun wh4 => ?_) (fun wh4 => absurd wh4 (by decide))
      refine aw_b kX7_ok bX7_one_20_ok (Cs := []) (pc' := 21) (L' := [some (aR 21 0), some (aI p), some (aI w)]) (st' := [aI w]) (σ' := σ) rfl trivial ?_
      rcases (show w = 4 ∨ w = 5 ∨ w = 6 ∨ w = 7 ∨ (w < 4 ∨ 7 < w) by omega) with wh5 | wh5 | wh5 | wh5 | wh5
      · refine aw_tsw dX7_one_21 (tgt := 52) ⟨by omega, by omega⟩ (by decide) (by rw [wh5]; decide) ?_
        refine aw_b kX7_ok bX7_one_52_ok (Cs := [0 < 1]) (pc' := 57) (L' := [some (aR 21 0), some (aI p), some (aI w)]) (st' := [aI p, aR 22 0]) (σ' := σ) rfl (show 0 < 1 from by omega) ?_
        refine aw_fS lX7_64 (as := [aR 22 0, aI p]) (rest := []) (by decide) rfl (Nat.le_of_ble_eq_true rfl) rfl dX7_one_57 (cM_officeOf l 0 (by omega) p σ ⟨by omega, by omega⟩ hw) ?_
        have bo := off_rng (σ 22 0) p
        exact aw_iret dX7_one_60 rfl ⟨aret (by unfold A_one; rw [if_pos (by omega)]; (repeat' split) <;> first | omega | rfl), ⟨_, hz, h00⟩⟩
      · refine aw_tsw dX7_one_21 (tgt := 61) ⟨by omega, by omega⟩ (by decide) (by rw [wh5]; decide) ?_
        refine aw_b kX7_ok bX7_one_61_ok (Cs := [0 < 1]) (pc' := 66) (L' := [some (aR 21 0), some (aI p), some (aI w)]) (st' := [aI p, aR 22 0]) (σ' := σ) rfl (show 0 < 1 from by omega) ?_
        refine aw_fS lX7_85 (as := [aR 22 0, aI p]) (rest := []) (by decide) rfl (Nat.le_of_ble_eq_true rfl) rfl dX7_one_66 (cM_bears l 0 (by omega) p σ hw (by omega) (by omega)) ?_
        exact aw_iret dX7_one_69 rfl ⟨aret (by unfold A_one; rw [if_pos (by omega)]; (repeat' split) <;> first | omega | rfl), ⟨_, hz, h00⟩⟩
      · refine aw_tsw dX7_one_21 (tgt := 70) ⟨by omega, by omega⟩ (by decide) (by rw [wh5]; decide) ?_
        refine aw_b kX7_ok bX7_one_70_ok (Cs := [0 < 1]) (pc' := 76) (L' := [some (aR 21 0), some (aI p), some (aI w)]) (st' := [aI 0, aI p, aR 22 0]) (σ' := σ) rfl (show 0 < 1 from by omega) ?_
        refine aw_fS lX7_57 (as := [aI p, aI 0]) (rest := [aR 22 0]) (by decide) rfl (Nat.le_of_ble_eq_true rfl) rfl dX7_one_76 (cM_of l p 0 σ) ?_
        refine aw_b kX7_ok bX7_one_79_ok (Cs := [0 < 4, 0 ≤ aOf p 0 ∧ aOf p 0 < 45, 0 < 1]) (pc' := 86) (L' := [some (aR 21 0), some (aI p), some (aI w)]) (st' := [aI 1, aI p, aR 22 0, aI (σ 22 0 (aOf p 0))]) (σ' := σ) rfl (show (0 < 4) ∧ (0 ≤ aOf p 0 ∧ aOf p 0 < 45) ∧ (0 < 1) from ⟨by omega, by omega, by omega⟩) ?_
        refine aw_fS lX7_57 (as := [aI p, aI 1]) (rest := [aR 22 0, aI (σ 22 0 (aOf p 0))]) (by decide) rfl (Nat.le_of_ble_eq_true rfl) rfl dX7_one_86 (cM_of l p 1 σ) ?_
        refine aw_b kX7_ok bX7_one_89_ok (Cs := [0 < 4, 0 ≤ aOf p 1 ∧ aOf p 1 < 45]) (pc' := 90) (L' := [some (aR 21 0), some (aI p), some (aI w)]) (st' := [aI (σ 22 0 (aOf p 1)), aI (σ 22 0 (aOf p 0))]) (σ' := σ) rfl (show (0 < 4) ∧ (0 ≤ aOf p 1 ∧ aOf p 1 < 45) from ⟨by omega, by omega⟩) ?_
        refine aw_fS lX7_68 (as := [aI (σ 22 0 (aOf p 0)), aI (σ 22 0 (aOf p 1))]) (rest := []) (by decide) rfl (Nat.le_of_ble_eq_true rfl) rfl dX7_one_90 (cM_forgetsBy l (σ 22 0 (aOf p 0)) (σ 22 0 (aOf p 1)) σ ⟨by omega, by omega⟩ ⟨by omega, by omega⟩) ?_
        exact aw_iret dX7_one_93 rfl ⟨aret (by unfold A_one; rw [if_pos (by omega)]; (repeat' split) <;> first | omega | rfl), ⟨_, hz, h00⟩⟩
      · refine aw_tsw dX7_one_21 (tgt := 94) ⟨by omega, by omega⟩ (by decide) (by rw [wh5]; decide) ?_
        refine aw_b kX7_ok bX7_one_94_ok (Cs := []) (pc' := 96) (L' := [some (aR 21 0), some (aI p), some (aI w)]) (st' := [aI p, aR 21 0]) (σ' := σ) rfl trivial ?_
        refine aw_fV lX7_158 (as := [aI p]) (rest := []) (t := 21) (c := 0) (by decide) (by decide) (by decide) rfl rfl (Nat.le_of_ble_eq_true rfl) rfl dX7_one_96 (cM_chainOf l p σ hw hd hz hp) ?_
        exact aw_iret dX7_one_99 rfl ⟨aret (by unfold A_one; rw [if_pos (by omega)]; (repeat' split) <;> first | omega | rfl), ⟨_, hz, h00⟩⟩
      · refine aw_tsw dX7_one_21 (tgt := 100) ⟨by omega, by omega⟩ (by decide) (by unfold aTgt; rw [if_pos (by omega)]; rfl) ?_
        have bw := aOf_rng (p := p) (w := w) (by omega) (by omega) (by omega) (by omega)
        refine aw_b kX7_ok bX7_one_100_ok (Cs := [0 < 1]) (pc' := 106) (L' := [some (aR 21 0), some (aI p), some (aI w)]) (st' := [aI w, aI p, aR 22 0]) (σ' := σ) rfl (show 0 < 1 from by omega) ?_
        refine aw_fS lX7_57 (as := [aI p, aI w]) (rest := [aR 22 0]) (by decide) rfl (Nat.le_of_ble_eq_true rfl) rfl dX7_one_106 (cM_of l p w σ) ?_
        refine aw_b kX7_ok bX7_one_109_ok (Cs := [0 < 4, 0 ≤ aOf p w ∧ aOf p w < 45]) (pc' := 110) (L' := [some (aR 21 0), some (aI p), some (aI w)]) (st' := [aI (σ 22 0 (aOf p w))]) (σ' := σ) rfl (show (0 < 4) ∧ (0 ≤ aOf p w ∧ aOf p w < 45) from ⟨by omega, by omega⟩) ?_
        exact aw_iret dX7_one_110 rfl ⟨aret (by unfold A_one; rw [if_pos (by omega)]; rcases (show w = 0 ∨ w = 1 ∨ w = 2 ∨ w = 3 by omega) with rfl | rfl | rfl | rfl <;> simp), ⟨_, hz, h00⟩⟩
    · refine aw_ine dX7_one_15 (tgt := 20) (by decide) ⟨by omega, by omega⟩ (fun wh6 => absurd wh6 (by decide)) (fun wh6 => ?_)
      refine aw_b kX7_ok bX7_one_18_ok (Cs := []) (pc' := 19) (L' := [some (aR 21 0), some (aI p), some (aI w)]) (st' := [aI (-1)]) (σ' := σ) rfl trivial ?_
      exact aw_iret dX7_one_19 rfl ⟨aret (by unfold A_one; (repeat' split) <;> omega), ⟨_, hz, h00⟩⟩
  · refine aw_ieq dX7_one_5 (tgt := 18) (by decide) ⟨by omega, by omega⟩ (fun wh7 => ?_) (fun wh7 => absurd wh7 (by decide))
    refine aw_b kX7_ok bX7_one_18_ok (Cs := []) (pc' := 19) (L' := [some (aR 21 0), some (aI p), some (aI w)]) (st' := [aI (-1)]) (σ' := σ) rfl trivial ?_
    exact aw_iret dX7_one_19 rfl ⟨aret (by unfold A_one; (repeat' split) <;> omega), ⟨_, hz, h00⟩⟩
set_option maxRecDepth 10000 in
theorem cM_office (l : Launch) (f w : Int) (σ : aS) (hw : WF (σ 22 0)) (hd : σ 22 0 1 ≤ 999) (hz : OZ (σ 22 1)) (hf : aIr f) (hv : aIr w) : AM l 2 mX7_office [aR 21 0, aI f, aI w] σ (QR (A_office (σ 22 0) f w) σ) := by
  have bn := hw.1
  have b1 := hw.2.1
  have b2 := hw.2.2.1
  have h00 : σ = aRow σ 1 (σ 22 1) := aRow_id.symm
  refine am_of (by decide) (Nat.le_of_ble_eq_true rfl) (L := [some (aR 21 0), some (aI f), some (aI w)]) rfl ?_
  refine aw_b kX7_ok bX7_office_0_ok (Cs := []) (pc' := 1) (L' := [some (aR 21 0), some (aI f), some (aI w)]) (st' := [aI f]) (σ' := σ) rfl trivial ?_
  refine aw_bS lX7_125 (as := [aI f]) (rest := []) (by decide) rfl (Nat.le_of_ble_eq_true rfl) rfl dX7_office_1 (cM_isOffice l f σ ⟨by omega, by omega⟩) (fun wh1 => ?_) (fun wh1 => ?_)
  · refine aw_ieq dX7_office_4 (tgt := 16) (by decide) ⟨by omega, by omega⟩ (fun wh2 => absurd wh2 (by decide)) (fun wh2 => ?_)
    refine aw_b kX7_ok bX7_office_7_ok (Cs := []) (pc' := 10) (L' := [some (aR 21 0), some (aI f), some (aI w)]) (st' := [aI 2, aI 0, aI w]) (σ' := σ) rfl trivial ?_
    refine aw_bS lX7_49 (as := [aI w, aI 0, aI 2]) (rest := []) (by decide) rfl (Nat.le_of_ble_eq_true rfl) rfl dX7_office_10 (cM_isIn l w 0 2 σ ⟨by omega, by omega⟩ ⟨by omega, by omega⟩ ⟨by omega, by omega⟩) (fun wh3 => ?_) (fun wh3 => ?_)
    · have bc := hw.co (f := f) (by omega) (by omega)
      have bh := hw.ho (f := f) (by omega) (by omega)
      refine aw_ine dX7_office_13 (tgt := 18) (by decide) ⟨by omega, by omega⟩ (fun wh4 => ?_) (fun wh4 => absurd wh4 (by decide))
      refine aw_b kX7_ok bX7_office_18_ok (Cs := []) (pc' := 19) (L' := [some (aR 21 0), some (aI f), some (aI w)]) (st' := [aI w]) (σ' := σ) rfl trivial ?_
      refine aw_ine dX7_office_19 (tgt := 33) (by decide) ⟨by omega, by omega⟩ (fun wh5 => ?_) (fun wh5 => ?_)
      · refine aw_b kX7_ok bX7_office_33_ok (Cs := []) (pc' := 35) (L' := [some (aR 21 0), some (aI f), some (aI w)]) (st' := [aI 1, aI w]) (σ' := σ) rfl trivial ?_
        refine aw_cne dX7_office_35 (tgt := 50) (by decide) ⟨by omega, by omega⟩ ⟨by omega, by omega⟩ (fun wh6 => ?_) (fun wh6 => ?_)
        · refine aw_b kX7_ok bX7_office_50_ok (Cs := [0 < 1, 0 < 1, 0 < 4, 0 ≤ 3 + f ∧ 3 + f < 45]) (pc' := 62) (L' := [some (aR 21 0), some (aI f), some (aI w)]) (st' := [aI (σ 22 0 (3 + f)), aR 22 0]) (σ' := σ) rfl (show (0 < 1) ∧ (0 < 1) ∧ (0 < 4) ∧ (0 ≤ 3 + f ∧ 3 + f < 45) from ⟨by omega, by omega, by omega, by omega⟩) ?_
          refine aw_bS lX7_78 (as := [aR 22 0, aI (σ 22 0 (3 + f))]) (rest := []) (by decide) rfl (Nat.le_of_ble_eq_true rfl) rfl dX7_office_62 (cM_isCommon l 0 (by omega) (σ 22 0 (3 + f)) σ ⟨by omega, by omega⟩ hw) (fun wh7 => ?_) (fun wh7 => ?_)
          · refine aw_ieq dX7_office_65 (tgt := 72) (by decide) ⟨by omega, by omega⟩ (fun wh8 => absurd wh8 (by decide)) (fun wh8 => ?_)
            refine aw_b kX7_ok bX7_office_68_ok (Cs := []) (pc' := 73) (L' := [some (aR 21 0), some (aI f), some (aI w)]) (st' := [aI 1]) (σ' := σ) rfl trivial ?_
            exact aw_iret dX7_office_73 rfl ⟨aret (by unfold A_office; (repeat' split) <;> first | rfl | omega), ⟨_, hz, h00⟩⟩
          · refine aw_ieq dX7_office_65 (tgt := 72) (by decide) ⟨by omega, by omega⟩ (fun wh9 => ?_) (fun wh9 => absurd wh9 (by decide))
            refine aw_b kX7_ok bX7_office_72_ok (Cs := []) (pc' := 73) (L' := [some (aR 21 0), some (aI f), some (aI w)]) (st' := [aI 0]) (σ' := σ) rfl trivial ?_
            exact aw_iret dX7_office_73 rfl ⟨aret (by unfold A_office; (repeat' split) <;> first | rfl | omega), ⟨_, hz, h00⟩⟩
        · refine aw_b kX7_ok bX7_office_38_ok (Cs := [0 < 1, 0 < 4, 0 ≤ 8 + f ∧ 8 + f < 45]) (pc' := 73) (L' := [some (aR 21 0), some (aI f), some (aI w)]) (st' := [aI (σ 22 0 (8 + f))]) (σ' := σ) rfl (show (0 < 1) ∧ (0 < 4) ∧ (0 ≤ 8 + f ∧ 8 + f < 45) from ⟨by omega, by omega, by omega⟩) ?_
          exact aw_iret dX7_office_73 rfl ⟨aret (by unfold A_office; (repeat' split) <;> first | rfl | omega), ⟨_, hz, h00⟩⟩
      · refine aw_b kX7_ok bX7_office_22_ok (Cs := [0 < 1, 0 < 4, 0 ≤ 3 + f ∧ 3 + f < 45]) (pc' := 73) (L' := [some (aR 21 0), some (aI f), some (aI w)]) (st' := [aI (σ 22 0 (3 + f))]) (σ' := σ) rfl (show (0 < 1) ∧ (0 < 4) ∧ (0 ≤ 3 + f ∧ 3 + f < 45) from ⟨by omega, by omega, by omega⟩) ?_
        exact aw_iret dX7_office_73 rfl ⟨aret (by unfold A_office; (repeat' split) <;> first | rfl | omega), ⟨_, hz, h00⟩⟩
    · refine aw_ine dX7_office_13 (tgt := 18) (by decide) ⟨by omega, by omega⟩ (fun wh10 => absurd wh10 (by decide)) (fun wh10 => ?_)
      refine aw_b kX7_ok bX7_office_16_ok (Cs := []) (pc' := 17) (L' := [some (aR 21 0), some (aI f), some (aI w)]) (st' := [aI (-1)]) (σ' := σ) rfl trivial ?_
      exact aw_iret dX7_office_17 rfl ⟨aret (by unfold A_office; (repeat' split) <;> first | rfl | omega), ⟨_, hz, h00⟩⟩
  · refine aw_ieq dX7_office_4 (tgt := 16) (by decide) ⟨by omega, by omega⟩ (fun wh11 => ?_) (fun wh11 => absurd wh11 (by decide))
    refine aw_b kX7_ok bX7_office_16_ok (Cs := []) (pc' := 17) (L' := [some (aR 21 0), some (aI f), some (aI w)]) (st' := [aI (-1)]) (σ' := σ) rfl trivial ?_
    exact aw_iret dX7_office_17 rfl ⟨aret (by unfold A_office; (repeat' split) <;> first | rfl | omega), ⟨_, hz, h00⟩⟩
set_option maxRecDepth 10000 in
theorem cM_showsNext (l : Launch) (p k : Int) (σ : aS) (hw : WF (σ 22 0)) (hd : σ 22 0 1 ≤ 999) (hz : OZ (σ 22 1)) (p0 : 0 ≤ p) (p1 : p < σ 22 0 0) (h0 : 0 ≤ k) (h9 : k ≤ 9) : AM l 2 mX7_showsNext [aR 21 0, aI p, aI k] σ (aF (some (aI (shF ((σ 22 0) (aOf p 0)) ((σ 22 0) (aOf p 1)) k ((σ 22 0) 1 + 1)))) σ) := by
  have bn := hw.1
  have b1 := hw.2.1
  have b2 := hw.2.2.1
  have h00 : σ = aRow σ 1 (σ 22 1) := aRow_id.symm
  have bp := hw.pe (p := p) (by omega) (by omega)
  have ba := aOf_rng (p := p) (w := 0) (by omega) (by omega) (by decide) (by decide)
  have bb := aOf_rng (p := p) (w := 1) (by omega) (by omega) (by decide) (by decide)
  refine am_of (by decide) (Nat.le_of_ble_eq_true rfl) (L := [some (aR 21 0), some (aI p), some (aI k)]) rfl ?_
  refine aw_b kX7_ok bX7_showsNext_0_ok (Cs := [0 < 1]) (pc' := 6) (L' := [some (aR 21 0), some (aI p), some (aI k)]) (st' := [aI 0, aI p, aR 22 0]) (σ' := σ) rfl (show 0 < 1 from by omega) ?_
  refine aw_fS lX7_57 (as := [aI p, aI 0]) (rest := [aR 22 0]) (by decide) rfl (Nat.le_of_ble_eq_true rfl) rfl dX7_showsNext_6 (cM_of l p 0 σ) ?_
  refine aw_b kX7_ok bX7_showsNext_9_ok (Cs := [0 < 4, 0 ≤ aOf p 0 ∧ aOf p 0 < 45, 0 < 1]) (pc' := 16) (L' := [some (aR 21 0), some (aI p), some (aI k)]) (st' := [aI 1, aI p, aR 22 0, aI (σ 22 0 (aOf p 0))]) (σ' := σ) rfl (show (0 < 4) ∧ (0 ≤ aOf p 0 ∧ aOf p 0 < 45) ∧ (0 < 1) from ⟨by omega, by omega, by omega⟩) ?_
  refine aw_fS lX7_57 (as := [aI p, aI 1]) (rest := [aR 22 0, aI (σ 22 0 (aOf p 0))]) (by decide) rfl (Nat.le_of_ble_eq_true rfl) rfl dX7_showsNext_16 (cM_of l p 1 σ) ?_
  refine aw_b kX7_ok bX7_showsNext_19_ok (Cs := [0 < 4, 0 ≤ aOf p 1 ∧ aOf p 1 < 45, 0 < 1, 0 < 4, 0 ≤ 1 ∧ 1 < 45]) (pc' := 29) (L' := [some (aR 21 0), some (aI p), some (aI k)]) (st' := [aI ((σ 22 0 1) + 1), aI k, aI (σ 22 0 (aOf p 1)), aI (σ 22 0 (aOf p 0))]) (σ' := σ) rfl (show (0 < 4) ∧ (0 ≤ aOf p 1 ∧ aOf p 1 < 45) ∧ (0 < 1) ∧ (0 < 4) ∧ (0 ≤ 1 ∧ 1 < 45) from ⟨by omega, by omega, by omega, by omega, by omega⟩) ?_
  refine aw_fS lX7_74 (as := [aI (σ 22 0 (aOf p 0)), aI (σ 22 0 (aOf p 1)), aI k, aI ((σ 22 0 1) + 1)]) (rest := []) (by decide) rfl (Nat.le_of_ble_eq_true rfl) rfl dX7_showsNext_29 (cM_showsBy l (σ 22 0 (aOf p 0)) (σ 22 0 (aOf p 1)) k ((σ 22 0 1) + 1) σ ⟨by omega, by omega⟩ ⟨by omega, by omega⟩ ⟨by omega, by omega⟩ ⟨by omega, by omega⟩) ?_
  exact aw_iret dX7_showsNext_32 rfl ⟨rfl, rfl⟩
set_option maxRecDepth 10000 in
theorem cM_shows (l : Launch) (p k : Int) (σ : aS) (hw : WF (σ 22 0)) (hd : σ 22 0 1 ≤ 999) (hz : OZ (σ 22 1)) (hp : aIr p) (hk : aIr k) : AM l 3 mX7_shows [aR 21 0, aI p, aI k] σ (QR (A_shows (σ 22 0) p k) σ) := by
  have bn := hw.1
  have b1 := hw.2.1
  have b2 := hw.2.2.1
  have h00 : σ = aRow σ 1 (σ 22 1) := aRow_id.symm
  refine am_of (by decide) (Nat.le_of_ble_eq_true rfl) (L := [some (aR 21 0), some (aI p), some (aI k)]) rfl ?_
  refine aw_b kX7_ok bX7_shows_0_ok (Cs := []) (pc' := 2) (L' := [some (aR 21 0), some (aI p), some (aI k)]) (st' := [aI p, aR 21 0]) (σ' := σ) rfl trivial ?_
  refine aw_bV lX7_128 (as := [aI p]) (rest := []) (t := 21) (c := 0) (by decide) (by decide) (by decide) rfl rfl (Nat.le_of_ble_eq_true rfl) rfl dX7_shows_2 (cM_isOne l p σ ⟨by omega, by omega⟩ (by omega)) (fun wh1 => ?_) (fun wh1 => ?_)
  · refine aw_ieq dX7_shows_5 (tgt := 27) (by decide) ⟨by omega, by omega⟩ (fun wh2 => absurd wh2 (by decide)) (fun wh2 => ?_)
    refine aw_b kX7_ok bX7_shows_8_ok (Cs := []) (pc' := 12) (L' := [some (aR 21 0), some (aI p), some (aI k)]) (st' := [aI 9, aI 0, aI k]) (σ' := σ) rfl trivial ?_
    refine aw_bS lX7_49 (as := [aI k, aI 0, aI 9]) (rest := []) (by decide) rfl (Nat.le_of_ble_eq_true rfl) rfl dX7_shows_12 (cM_isIn l k 0 9 σ ⟨by omega, by omega⟩ ⟨by omega, by omega⟩ ⟨by omega, by omega⟩) (fun wh3 => ?_) (fun wh3 => ?_)
    · refine aw_ieq dX7_shows_15 (tgt := 27) (by decide) ⟨by omega, by omega⟩ (fun wh4 => absurd wh4 (by decide)) (fun wh4 => ?_)
      refine aw_b kX7_ok bX7_shows_18_ok (Cs := []) (pc' := 21) (L' := [some (aR 21 0), some (aI p), some (aI k)]) (st' := [aI k, aI p, aR 21 0]) (σ' := σ) rfl trivial ?_
      refine aw_fV lX7_161 (as := [aI p, aI k]) (rest := []) (t := 21) (c := 0) (by decide) (by decide) (by decide) rfl rfl (Nat.le_of_ble_eq_true rfl) rfl dX7_shows_21 (cM_showsNext l p k σ hw hd hz (by omega) (by omega) (by omega) (by omega)) ?_
      refine aw_b kX7_ok bX7_shows_24_ok (Cs := []) (pc' := 28) (L' := [some (aR 21 0), some (aI p), some (aI k)]) (st' := [aI (shF ((σ 22 0) (aOf p 0)) ((σ 22 0) (aOf p 1)) k ((σ 22 0) 1 + 1))]) (σ' := σ) rfl trivial ?_
      exact aw_iret dX7_shows_28 rfl ⟨aret (by unfold A_shows; rw [if_pos (by omega)]), ⟨_, hz, h00⟩⟩
    · refine aw_ieq dX7_shows_15 (tgt := 27) (by decide) ⟨by omega, by omega⟩ (fun wh5 => ?_) (fun wh5 => absurd wh5 (by decide))
      refine aw_b kX7_ok bX7_shows_27_ok (Cs := []) (pc' := 28) (L' := [some (aR 21 0), some (aI p), some (aI k)]) (st' := [aI (-1)]) (σ' := σ) rfl trivial ?_
      exact aw_iret dX7_shows_28 rfl ⟨aret (by unfold A_shows; rw [if_neg (by omega)]), ⟨_, hz, h00⟩⟩
  · refine aw_ieq dX7_shows_5 (tgt := 27) (by decide) ⟨by omega, by omega⟩ (fun wh6 => ?_) (fun wh6 => absurd wh6 (by decide))
    refine aw_b kX7_ok bX7_shows_27_ok (Cs := []) (pc' := 28) (L' := [some (aR 21 0), some (aI p), some (aI k)]) (st' := [aI (-1)]) (σ' := σ) rfl trivial ?_
    exact aw_iret dX7_shows_28 rfl ⟨aret (by unfold A_shows; rw [if_neg (by omega)]), ⟨_, hz, h00⟩⟩
set_option maxRecDepth 10000 in
theorem cM_plainOnes (l : Launch) (σ : aS) (hw : WF (σ 22 0)) (hd : σ 22 0 1 ≤ 999) (hz : OZ (σ 22 1)) : AM l 3 mX7_plainOnes [aR 21 0] σ (aF (some (aI (btN (plB (σ 22 0)) ((σ 22 0) 0).toNat))) σ) := by
  have bn := hw.1
  have b1 := hw.2.1
  have b2 := hw.2.2.1
  have h00 : σ = aRow σ 1 (σ 22 1) := aRow_id.symm
  refine am_of (by decide) (Nat.le_of_ble_eq_true rfl) (L := [some (aR 21 0), none, none, none, none]) rfl ?_
  refine aw_b kX7_ok bX7_plainOnes_0_ok (Cs := []) (pc' := 4) (L' := [some (aR 21 0), some (aI 0), some (aI 0), none, none]) (st' := []) (σ' := σ) rfl trivial ?_
  refine aloop (P := fun p : Nat => AW l 3 mX7_plainOnes _ 4 [some (aR 21 0), some (aI (btN (plB (σ 22 0)) p)), some (aI (p : Int)), none, none] [] σ) (((σ 22 0) 0).toNat) (fun p hp ihp => ?_)
  refine aw_b kX7_ok bX7_plainOnes_4_ok (Cs := [0 < 1, 0 < 4, 0 ≤ 0 ∧ 0 < 45]) (pc' := 11) (L' := [some (aR 21 0), some (aI (btN (plB (σ 22 0)) p)), some (aI (p : Int)), none, none]) (st' := [aI (σ 22 0 0), aI (p : Int)]) (σ' := σ) rfl (show (0 < 1) ∧ (0 < 4) ∧ (0 ≤ 0 ∧ 0 < 45) from ⟨by omega, by omega, by omega⟩) ?_
  refine aw_cge dX7_plainOnes_11 (tgt := 62) (by decide) ⟨by omega, by omega⟩ ⟨by omega, by omega⟩ (fun wh1 => ?_) (fun wh1 => ?_)
  · refine aw_b kX7_ok bX7_plainOnes_62_ok (Cs := []) (pc' := 63) (L' := [some (aR 21 0), some (aI (btN (plB (σ 22 0)) p)), some (aI (p : Int)), none, none]) (st' := [aI (btN (plB (σ 22 0)) p)]) (σ' := σ) rfl trivial ?_
    exact aw_iret dX7_plainOnes_63 rfl ⟨aret (by rw [show p = ((σ 22 0) 0).toNat by omega]), rfl⟩
  · refine aw_b kX7_ok bX7_plainOnes_14_ok (Cs := []) (pc' := 19) (L' := [some (aR 21 0), some (aI (btN (plB (σ 22 0)) p)), some (aI (p : Int)), some (aI 0), some (aI 0)]) (st' := []) (σ' := σ) rfl trivial ?_
    refine aloop (P := fun i : Nat => ∀ (v : Int) (hvb : 0 ≤ v ∧ v ≤ 15 * (i : Int)) (hA : v = 0 ↔ ∀ k : Nat, k < i → shF ((σ 22 0) (aOf (p : Int) 0)) ((σ 22 0) (aOf (p : Int) 1)) (k : Int) ((σ 22 0) 1 + 1) = 0), AW l 3 mX7_plainOnes _ 19 [some (aR 21 0), some (aI (btN (plB (σ 22 0)) p)), some (aI (p : Int)), some (aI v), some (aI (i : Int))] [] σ) (10) (fun i hi ihi v hvb hA => ?_) 0 (by omega) ⟨fun _ k hk => by omega, fun _ => rfl⟩
    refine aw_b kX7_ok bX7_plainOnes_19_ok (Cs := []) (pc' := 23) (L' := [some (aR 21 0), some (aI (btN (plB (σ 22 0)) p)), some (aI (p : Int)), some (aI v), some (aI (i : Int))]) (st' := [aI 10, aI (i : Int)]) (σ' := σ) rfl trivial ?_
    refine aw_cge dX7_plainOnes_23 (tgt := 42) (by decide) ⟨by omega, by omega⟩ ⟨by omega, by omega⟩ (fun wh2 => ?_) (fun wh2 => ?_)
    · have ei : i = 10 := by omega
      rw [ei] at hA hvb
      refine aw_b kX7_ok bX7_plainOnes_42_ok (Cs := []) (pc' := 44) (L' := [some (aR 21 0), some (aI (btN (plB (σ 22 0)) p)), some (aI (p : Int)), some (aI v), some (aI (i : Int))]) (st' := [aI v, aI (btN (plB (σ 22 0)) p)]) (σ' := σ) rfl trivial ?_
      refine aw_ine dX7_plainOnes_44 (tgt := 53) (by decide) ⟨by omega, by omega⟩ (fun wh3 => ?_) (fun wh3 => ?_)
      · refine aw_b kX7_ok bX7_plainOnes_53_ok (Cs := []) (pc' := 54) (L' := [some (aR 21 0), some (aI (btN (plB (σ 22 0)) p)), some (aI (p : Int)), some (aI v), some (aI (i : Int))]) (st' := [aI 0, aI (btN (plB (σ 22 0)) p)]) (σ' := σ) rfl trivial ?_
        refine aw_b kX7_ok bX7_plainOnes_54_ok (Cs := []) (pc' := 4) (L' := [some (aR 21 0), some (aI (aOr (btN (plB (σ 22 0)) p) 0)), some (aI ((p : Int) + 1)), some (aI v), some (aI (i : Int))]) (st' := []) (σ' := σ) rfl trivial ?_
        refine aw_drop [3, 4] (L' := [some (aR 21 0), some (aI (aOr (btN (plB (σ 22 0)) p) 0)), some (aI ((p : Int) + 1)), none, none]) rfl ?_
        have e1 : aOr (btN (plB (σ 22 0)) p) 0 = btN (plB (σ 22 0)) (p + 1) := by rw [(btN_step _ (by omega)).2]; exact btN_f (fun z => by have z2 := of_decide_eq_true z; have := hA.mpr (fun k hk => z2 k (by omega)); omega)
        exact aw_eq (by rw [e1]; rfl) rfl rfl (ihp (by omega))
      · refine aw_b kX7_ok bX7_plainOnes_47_ok (Cs := [0 ≤ (p : Int) ∧ (p : Int) < 32]) (pc' := 54) (L' := [some (aR 21 0), some (aI (btN (plB (σ 22 0)) p)), some (aI (p : Int)), some (aI v), some (aI (i : Int))]) (st' := [aI (1 * 2 ^ (Int.toNat (p : Int))), aI (btN (plB (σ 22 0)) p)]) (σ' := σ) rfl (show 0 ≤ (p : Int) ∧ (p : Int) < 32 from by omega) ?_
        refine aw_b kX7_ok bX7_plainOnes_54_ok (Cs := []) (pc' := 4) (L' := [some (aR 21 0), some (aI (aOr (btN (plB (σ 22 0)) p) (1 * 2 ^ (Int.toNat (p : Int))))), some (aI ((p : Int) + 1)), some (aI v), some (aI (i : Int))]) (st' := []) (σ' := σ) rfl trivial ?_
        refine aw_drop [3, 4] (L' := [some (aR 21 0), some (aI (aOr (btN (plB (σ 22 0)) p) (1 * 2 ^ (Int.toNat (p : Int))))), some (aI ((p : Int) + 1)), none, none]) rfl ?_
        have e1 : aOr (btN (plB (σ 22 0)) p) (1 * 2 ^ (Int.toNat (p : Int))) = btN (plB (σ 22 0)) (p + 1) := btN_t (by omega) (decide_eq_true (fun k hk => hA.mp (by omega) k (by omega)))
        exact aw_eq (by rw [e1]; rfl) rfl rfl (ihp (by omega))
    · have bp := hw.pe (p := (p : Int)) (by omega) (by omega)
      have gs := shF_rng (kind := (σ 22 0) (aOf (p : Int) 0)) (f := (σ 22 0) (aOf (p : Int) 1)) (k := (i : Int)) (day := (σ 22 0) 1 + 1) (by omega) (by omega)
      refine aw_b kX7_ok bX7_plainOnes_26_ok (Cs := []) (pc' := 31) (L' := [some (aR 21 0), some (aI (btN (plB (σ 22 0)) p)), some (aI (p : Int)), some (aI v), some (aI (i : Int))]) (st' := [aI (i : Int), aI (p : Int), aR 21 0, aI v]) (σ' := σ) rfl trivial ?_
      refine aw_fV lX7_161 (as := [aI (p : Int), aI (i : Int)]) (rest := [aI v]) (t := 21) (c := 0) (by decide) (by decide) (by decide) rfl rfl (Nat.le_of_ble_eq_true rfl) rfl dX7_plainOnes_31 (cM_showsNext l (p : Int) (i : Int) σ hw hd hz (by omega) (by omega) (by omega) (by omega)) ?_
      refine aw_b kX7_ok bX7_plainOnes_34_ok (Cs := []) (pc' := 19) (L' := [some (aR 21 0), some (aI (btN (plB (σ 22 0)) p)), some (aI (p : Int)), some (aI (v + (shF ((σ 22 0) (aOf (p : Int) 0)) ((σ 22 0) (aOf (p : Int) 1)) (i : Int) ((σ 22 0) 1 + 1)))), some (aI ((i : Int) + 1))]) (st' := []) (σ' := σ) rfl trivial ?_
      exact ihi (by omega) _ (by omega) ⟨fun z k hk => (if hki : k = i then (by rw [hki]; omega) else hA.mp (by omega) k (by omega)), fun z => by have z1 := hA.mpr (fun k hk => z k (by omega)); have z2 := z i (by omega); omega⟩
set_option maxRecDepth 10000 in
theorem cM_likeOnes (l : Launch) (σ : aS) (hw : WF (σ 22 0)) (hd : σ 22 0 1 ≤ 999) (hz : OZ (σ 22 1)) : AM l 0 mX7_likeOnes [aR 21 0] σ (aF (some (aI (alO (σ 22 0) 5))) σ) := by
  have bn := hw.1
  have b1 := hw.2.1
  have b2 := hw.2.2.1
  have h00 : σ = aRow σ 1 (σ 22 1) := aRow_id.symm
  refine am_of (by decide) (Nat.le_of_ble_eq_true rfl) (L := [some (aR 21 0), none, none, none]) rfl ?_
  refine aw_b kX7_ok bX7_likeOnes_0_ok (Cs := []) (pc' := 4) (L' := [some (aR 21 0), some (aI 0), some (aI 0), none]) (st' := []) (σ' := σ) rfl trivial ?_
  refine aloop (P := fun a : Nat => AW l 0 mX7_likeOnes _ 4 [some (aR 21 0), some (aI (alO (σ 22 0) a)), some (aI (a : Int)), none] [] σ) (5) (fun a ha iha => ?_)
  refine aw_b kX7_ok bX7_likeOnes_4_ok (Cs := []) (pc' := 6) (L' := [some (aR 21 0), some (aI (alO (σ 22 0) a)), some (aI (a : Int)), none]) (st' := [aI 5, aI (a : Int)]) (σ' := σ) rfl trivial ?_
  refine aw_cge dX7_likeOnes_6 (tgt := 81) (by decide) ⟨by omega, by omega⟩ ⟨by omega, by omega⟩ (fun wh1 => ?_) (fun wh1 => ?_)
  · refine aw_b kX7_ok bX7_likeOnes_81_ok (Cs := []) (pc' := 82) (L' := [some (aR 21 0), some (aI (alO (σ 22 0) a)), some (aI (a : Int)), none]) (st' := [aI (alO (σ 22 0) a)]) (σ' := σ) rfl trivial ?_
    exact aw_iret dX7_likeOnes_82 rfl ⟨aret (by rw [show a = 5 by omega]), rfl⟩
  · refine aw_b kX7_ok bX7_likeOnes_9_ok (Cs := []) (pc' := 13) (L' := [some (aR 21 0), some (aI (alO (σ 22 0) a)), some (aI (a : Int)), some (aI ((a : Int) + 1))]) (st' := []) (σ' := σ) rfl trivial ?_
    refine aw_eq (L' := [some (aR 21 0), some (aI (alO (σ 22 0) a + alI (σ 22 0) a 0)), some (aI (a : Int)), some (aI ((a : Int) + 1 + ((0 : Nat) : Int)))]) (by rw [show (a : Int) + 1 + ((0 : Nat) : Int) = (a : Int) + 1 from Int.add_zero _, show alI (σ 22 0) a 0 = 0 from rfl, Int.add_zero]) rfl rfl ?_
    refine aloop (P := fun j : Nat => AW l 0 mX7_likeOnes _ 13 [some (aR 21 0), some (aI (alO (σ 22 0) a + alI (σ 22 0) a j)), some (aI (a : Int)), some (aI ((a : Int) + 1 + (j : Int)))] [] σ) (4 - a) (fun j hj ihj => ?_)
    refine aw_b kX7_ok bX7_likeOnes_13_ok (Cs := []) (pc' := 15) (L' := [some (aR 21 0), some (aI (alO (σ 22 0) a + alI (σ 22 0) a j)), some (aI (a : Int)), some (aI ((a : Int) + 1 + (j : Int)))]) (st' := [aI 5, aI ((a : Int) + 1 + (j : Int))]) (σ' := σ) rfl trivial ?_
    refine aw_cge dX7_likeOnes_15 (tgt := 75) (by decide) ⟨by omega, by omega⟩ ⟨by omega, by omega⟩ (fun wh2 => ?_) (fun wh2 => ?_)
    · refine aw_b kX7_ok bX7_likeOnes_75_ok (Cs := []) (pc' := 4) (L' := [some (aR 21 0), some (aI (alO (σ 22 0) a + alI (σ 22 0) a j)), some (aI ((a : Int) + 1)), some (aI ((a : Int) + 1 + (j : Int)))]) (st' := []) (σ' := σ) rfl trivial ?_
      refine aw_drop [3] (L' := [some (aR 21 0), some (aI (alO (σ 22 0) a + alI (σ 22 0) a j)), some (aI ((a : Int) + 1)), none]) rfl ?_
      exact aw_eq (by rw [show j = 4 - a by omega]; rfl) rfl rfl (iha (by omega))
    · have bc := hw.co (f := (a : Int)) (by omega) (by omega)
      have bh := hw.ho (f := (a : Int)) (by omega) (by omega)
      have bc2 := hw.co (f := (a : Int) + 1 + (j : Int)) (by omega) (by omega)
      have bh2 := hw.ho (f := (a : Int) + 1 + (j : Int)) (by omega) (by omega)
      refine aw_b kX7_ok bX7_likeOnes_18_ok (Cs := [0 < 1, 0 < 4, 0 ≤ 8 + (a : Int) ∧ 8 + (a : Int) < 45]) (pc' := 28) (L' := [some (aR 21 0), some (aI (alO (σ 22 0) a + alI (σ 22 0) a j)), some (aI (a : Int)), some (aI ((a : Int) + 1 + (j : Int)))]) (st' := [aI (σ 22 0 (8 + (a : Int))), aI (alO (σ 22 0) a + alI (σ 22 0) a j)]) (σ' := σ) rfl (show (0 < 1) ∧ (0 < 4) ∧ (0 ≤ 8 + (a : Int) ∧ 8 + (a : Int) < 45) from ⟨by omega, by omega, by omega⟩) ?_
      refine aw_ilt dX7_likeOnes_28 (tgt := 66) (by decide) ⟨by omega, by omega⟩ (fun wh3 => ?_) (fun wh3 => ?_)
      · refine aw_b kX7_ok bX7_likeOnes_66_ok (Cs := []) (pc' := 67) (L' := [some (aR 21 0), some (aI (alO (σ 22 0) a + alI (σ 22 0) a j)), some (aI (a : Int)), some (aI ((a : Int) + 1 + (j : Int)))]) (st' := [aI 0, aI (alO (σ 22 0) a + alI (σ 22 0) a j)]) (σ' := σ) rfl trivial ?_
        refine aw_b kX7_ok bX7_likeOnes_67_ok (Cs := []) (pc' := 13) (L' := [some (aR 21 0), some (aI ((alO (σ 22 0) a + alI (σ 22 0) a j) + 0)), some (aI (a : Int)), some (aI (((a : Int) + 1 + (j : Int)) + 1))]) (st' := []) (σ' := σ) rfl trivial ?_
        have e1 : alO (σ 22 0) a + alI (σ 22 0) a j + 0 = alO (σ 22 0) a + alI (σ 22 0) a (j + 1) := by rw [show alI (σ 22 0) a (j + 1) = alI (σ 22 0) a j + (if (0 ≤ (σ 22 0) (8 + a) ∧ 0 ≤ (σ 22 0) (8 + ((a : Int) + 1 + j))) ∧ (σ 22 0) (3 + a) = (σ 22 0) (3 + ((a : Int) + 1 + j)) then 1 else 0) from rfl, if_neg (by omega)]; omega
        have e2 : (a : Int) + 1 + (j : Int) + 1 = (a : Int) + 1 + ((j + 1 : Nat) : Int) := by omega
        exact aw_eq (by rw [e1, e2]) rfl rfl (ihj (by omega))
      · refine aw_b kX7_ok bX7_likeOnes_31_ok (Cs := [0 < 1, 0 < 4, 0 ≤ 8 + ((a : Int) + 1 + (j : Int)) ∧ 8 + ((a : Int) + 1 + (j : Int)) < 45]) (pc' := 40) (L' := [some (aR 21 0), some (aI (alO (σ 22 0) a + alI (σ 22 0) a j)), some (aI (a : Int)), some (aI ((a : Int) + 1 + (j : Int)))]) (st' := [aI (σ 22 0 (8 + ((a : Int) + 1 + (j : Int)))), aI (alO (σ 22 0) a + alI (σ 22 0) a j)]) (σ' := σ) rfl (show (0 < 1) ∧ (0 < 4) ∧ (0 ≤ 8 + ((a : Int) + 1 + (j : Int)) ∧ 8 + ((a : Int) + 1 + (j : Int)) < 45) from ⟨by omega, by omega, by omega⟩) ?_
        refine aw_ilt dX7_likeOnes_40 (tgt := 66) (by decide) ⟨by omega, by omega⟩ (fun wh4 => ?_) (fun wh4 => ?_)
        · refine aw_b kX7_ok bX7_likeOnes_66_ok (Cs := []) (pc' := 67) (L' := [some (aR 21 0), some (aI (alO (σ 22 0) a + alI (σ 22 0) a j)), some (aI (a : Int)), some (aI ((a : Int) + 1 + (j : Int)))]) (st' := [aI 0, aI (alO (σ 22 0) a + alI (σ 22 0) a j)]) (σ' := σ) rfl trivial ?_
          refine aw_b kX7_ok bX7_likeOnes_67_ok (Cs := []) (pc' := 13) (L' := [some (aR 21 0), some (aI ((alO (σ 22 0) a + alI (σ 22 0) a j) + 0)), some (aI (a : Int)), some (aI (((a : Int) + 1 + (j : Int)) + 1))]) (st' := []) (σ' := σ) rfl trivial ?_
          have e1 : alO (σ 22 0) a + alI (σ 22 0) a j + 0 = alO (σ 22 0) a + alI (σ 22 0) a (j + 1) := by rw [show alI (σ 22 0) a (j + 1) = alI (σ 22 0) a j + (if (0 ≤ (σ 22 0) (8 + a) ∧ 0 ≤ (σ 22 0) (8 + ((a : Int) + 1 + j))) ∧ (σ 22 0) (3 + a) = (σ 22 0) (3 + ((a : Int) + 1 + j)) then 1 else 0) from rfl, if_neg (by omega)]; omega
          have e2 : (a : Int) + 1 + (j : Int) + 1 = (a : Int) + 1 + ((j + 1 : Nat) : Int) := by omega
          exact aw_eq (by rw [e1, e2]) rfl rfl (ihj (by omega))
        · refine aw_b kX7_ok bX7_likeOnes_43_ok (Cs := [0 < 1, 0 < 4, 0 ≤ 3 + (a : Int) ∧ 3 + (a : Int) < 45, 0 < 1, 0 < 4, 0 ≤ 3 + ((a : Int) + 1 + (j : Int)) ∧ 3 + ((a : Int) + 1 + (j : Int)) < 45]) (pc' := 59) (L' := [some (aR 21 0), some (aI (alO (σ 22 0) a + alI (σ 22 0) a j)), some (aI (a : Int)), some (aI ((a : Int) + 1 + (j : Int)))]) (st' := [aI (σ 22 0 (3 + ((a : Int) + 1 + (j : Int)))), aI (σ 22 0 (3 + (a : Int))), aI (alO (σ 22 0) a + alI (σ 22 0) a j)]) (σ' := σ) rfl (show (0 < 1) ∧ (0 < 4) ∧ (0 ≤ 3 + (a : Int) ∧ 3 + (a : Int) < 45) ∧ (0 < 1) ∧ (0 < 4) ∧ (0 ≤ 3 + ((a : Int) + 1 + (j : Int)) ∧ 3 + ((a : Int) + 1 + (j : Int)) < 45) from ⟨by omega, by omega, by omega, by omega, by omega, by omega⟩) ?_
          refine aw_cne dX7_likeOnes_59 (tgt := 66) (by decide) ⟨by omega, by omega⟩ ⟨by omega, by omega⟩ (fun wh5 => ?_) (fun wh5 => ?_)
          · refine aw_b kX7_ok bX7_likeOnes_66_ok (Cs := []) (pc' := 67) (L' := [some (aR 21 0), some (aI (alO (σ 22 0) a + alI (σ 22 0) a j)), some (aI (a : Int)), some (aI ((a : Int) + 1 + (j : Int)))]) (st' := [aI 0, aI (alO (σ 22 0) a + alI (σ 22 0) a j)]) (σ' := σ) rfl trivial ?_
            refine aw_b kX7_ok bX7_likeOnes_67_ok (Cs := []) (pc' := 13) (L' := [some (aR 21 0), some (aI ((alO (σ 22 0) a + alI (σ 22 0) a j) + 0)), some (aI (a : Int)), some (aI (((a : Int) + 1 + (j : Int)) + 1))]) (st' := []) (σ' := σ) rfl trivial ?_
            have e1 : alO (σ 22 0) a + alI (σ 22 0) a j + 0 = alO (σ 22 0) a + alI (σ 22 0) a (j + 1) := by rw [show alI (σ 22 0) a (j + 1) = alI (σ 22 0) a j + (if (0 ≤ (σ 22 0) (8 + a) ∧ 0 ≤ (σ 22 0) (8 + ((a : Int) + 1 + j))) ∧ (σ 22 0) (3 + a) = (σ 22 0) (3 + ((a : Int) + 1 + j)) then 1 else 0) from rfl, if_neg (by omega)]; omega
            have e2 : (a : Int) + 1 + (j : Int) + 1 = (a : Int) + 1 + ((j + 1 : Nat) : Int) := by omega
            exact aw_eq (by rw [e1, e2]) rfl rfl (ihj (by omega))
          · refine aw_b kX7_ok bX7_likeOnes_62_ok (Cs := []) (pc' := 67) (L' := [some (aR 21 0), some (aI (alO (σ 22 0) a + alI (σ 22 0) a j)), some (aI (a : Int)), some (aI ((a : Int) + 1 + (j : Int)))]) (st' := [aI 1, aI (alO (σ 22 0) a + alI (σ 22 0) a j)]) (σ' := σ) rfl trivial ?_
            refine aw_b kX7_ok bX7_likeOnes_67_ok (Cs := []) (pc' := 13) (L' := [some (aR 21 0), some (aI ((alO (σ 22 0) a + alI (σ 22 0) a j) + 1)), some (aI (a : Int)), some (aI (((a : Int) + 1 + (j : Int)) + 1))]) (st' := []) (σ' := σ) rfl trivial ?_
            have e1 : alO (σ 22 0) a + alI (σ 22 0) a j + 1 = alO (σ 22 0) a + alI (σ 22 0) a (j + 1) := by rw [show alI (σ 22 0) a (j + 1) = alI (σ 22 0) a j + (if (0 ≤ (σ 22 0) (8 + a) ∧ 0 ≤ (σ 22 0) (8 + ((a : Int) + 1 + j))) ∧ (σ 22 0) (3 + a) = (σ 22 0) (3 + ((a : Int) + 1 + j)) then 1 else 0) from rfl, if_pos (by omega)]; omega
            have e2 : (a : Int) + 1 + (j : Int) + 1 = (a : Int) + 1 + ((j + 1 : Nat) : Int) := by omega
            exact aw_eq (by rw [e1, e2]) rfl rfl (ihj (by omega))
set_option maxRecDepth 10000 in
theorem cM_left (l : Launch) (p : Int) (σ : aS) (hw : WF (σ 22 0)) (hd : σ 22 0 1 ≤ 999) (hz : OZ (σ 22 1)) (p0 : 0 ≤ p) (p1 : p < σ 22 0 0) : AM l 2 mX7_left [aR 21 0, aI p] σ (aF (some (aI (leR (σ 22 0) p))) σ) := by
  have bn := hw.1
  have b1 := hw.2.1
  have b2 := hw.2.2.1
  have h00 : σ = aRow σ 1 (σ 22 1) := aRow_id.symm
  have bc := aOf_rng (p := p) (w := 2) (by omega) (by omega) (by decide) (by decide)
  refine am_of (by decide) (Nat.le_of_ble_eq_true rfl) (L := [some (aR 21 0), some (aI p)]) rfl ?_
  refine aw_b kX7_ok bX7_left_0_ok (Cs := [0 < 1]) (pc' := 5) (L' := [some (aR 21 0), some (aI p)]) (st' := [aI p, aR 22 0]) (σ' := σ) rfl (show 0 < 1 from by omega) ?_
  refine aw_fS lX7_85 (as := [aR 22 0, aI p]) (rest := []) (by decide) rfl (Nat.le_of_ble_eq_true rfl) rfl dX7_left_5 (cM_bears l 0 (by omega) p σ hw (by omega) (by omega)) ?_
  refine aw_b kX7_ok bX7_left_8_ok (Cs := [0 < 1]) (pc' := 14) (L' := [some (aR 21 0), some (aI p)]) (st' := [aI 2, aI p, aR 22 0, aI (beR (σ 22 0) p)]) (σ' := σ) rfl (show 0 < 1 from by omega) ?_
  refine aw_fS lX7_57 (as := [aI p, aI 2]) (rest := [aR 22 0, aI (beR (σ 22 0) p)]) (by decide) rfl (Nat.le_of_ble_eq_true rfl) rfl dX7_left_14 (cM_of l p 2 σ) ?_
  refine aw_b kX7_ok bX7_left_17_ok (Cs := [0 < 4, 0 ≤ aOf p 2 ∧ aOf p 2 < 45]) (pc' := 19) (L' := [some (aR 21 0), some (aI p)]) (st' := [aI ((beR (σ 22 0) p) - (σ 22 0 (aOf p 2)))]) (σ' := σ) rfl (show (0 < 4) ∧ (0 ≤ aOf p 2 ∧ aOf p 2 < 45) from ⟨by omega, by omega⟩) ?_
  exact aw_iret dX7_left_19 rfl ⟨rfl, rfl⟩
set_option maxRecDepth 10000 in
theorem cM_closest (l : Launch) (σ : aS) (hw : WF (σ 22 0)) (hd : σ 22 0 1 ≤ 999) (hz : OZ (σ 22 1)) : AM l 3 mX7_closest [aR 21 0] σ (aF (some (aI (clN (σ 22 0) ((σ 22 0) 0).toNat))) σ) := by
  have bn := hw.1
  have b1 := hw.2.1
  have b2 := hw.2.2.1
  have h00 : σ = aRow σ 1 (σ 22 1) := aRow_id.symm
  refine am_of (by decide) (Nat.le_of_ble_eq_true rfl) (L := [some (aR 21 0), none, none]) rfl ?_
  refine aw_b kX7_ok bX7_closest_0_ok (Cs := []) (pc' := 5) (L' := [some (aR 21 0), some (aI (-4)), some (aI 0)]) (st' := []) (σ' := σ) rfl trivial ?_
  refine aloop (P := fun n : Nat => AW l 3 mX7_closest _ 5 [some (aR 21 0), some (aI (clN (σ 22 0) n)), some (aI (n : Int))] [] σ) (((σ 22 0) 0).toNat) (fun n hn ihn => ?_)
  have gc := clN_rng (σ 22 0) n
  refine aw_b kX7_ok bX7_closest_5_ok (Cs := [0 < 1, 0 < 4, 0 ≤ 0 ∧ 0 < 45]) (pc' := 12) (L' := [some (aR 21 0), some (aI (clN (σ 22 0) n)), some (aI (n : Int))]) (st' := [aI (σ 22 0 0), aI (n : Int)]) (σ' := σ) rfl (show (0 < 1) ∧ (0 < 4) ∧ (0 ≤ 0 ∧ 0 < 45) from ⟨by omega, by omega, by omega⟩) ?_
  refine aw_cge dX7_closest_12 (tgt := 51) (by decide) ⟨by omega, by omega⟩ ⟨by omega, by omega⟩ (fun wh1 => ?_) (fun wh1 => ?_)
  · refine aw_b kX7_ok bX7_closest_51_ok (Cs := []) (pc' := 52) (L' := [some (aR 21 0), some (aI (clN (σ 22 0) n)), some (aI (n : Int))]) (st' := [aI (clN (σ 22 0) n)]) (σ' := σ) rfl trivial ?_
    exact aw_iret dX7_closest_52 rfl ⟨aret (by rw [show n = ((σ 22 0) 0).toNat by omega]), rfl⟩
  · refine aw_b kX7_ok bX7_closest_15_ok (Cs := [0 < 1]) (pc' := 20) (L' := [some (aR 21 0), some (aI (clN (σ 22 0) n)), some (aI (n : Int))]) (st' := [aI (n : Int), aR 22 0]) (σ' := σ) rfl (show 0 < 1 from by omega) ?_
    refine aw_fS lX7_64 (as := [aR 22 0, aI (n : Int)]) (rest := []) (by decide) rfl (Nat.le_of_ble_eq_true rfl) rfl dX7_closest_20 (cM_officeOf l 0 (by omega) (n : Int) σ ⟨by omega, by omega⟩ hw) ?_
    have bo := off_rng (σ 22 0) (n : Int)
    refine aw_ilt dX7_closest_23 (tgt := 45) (by decide) ⟨by omega, by omega⟩ (fun wh2 => ?_) (fun wh2 => ?_)
    · refine aw_b kX7_ok bX7_closest_45_ok (Cs := []) (pc' := 5) (L' := [some (aR 21 0), some (aI (clN (σ 22 0) n)), some (aI ((n : Int) + 1))]) (st' := []) (σ' := σ) rfl trivial ?_
      have hk : clN (σ 22 0) (n + 1) = clN (σ 22 0) n := by rw [clN]; exact if_neg (by omega)
      exact aw_eq (by rw [hk]; rfl) rfl rfl (ihn (by omega))
    · refine aw_b kX7_ok bX7_closest_26_ok (Cs := []) (pc' := 27) (L' := [some (aR 21 0), some (aI (clN (σ 22 0) n)), some (aI (n : Int))]) (st' := [aI (clN (σ 22 0) n)]) (σ' := σ) rfl trivial ?_
      refine aw_ilt dX7_closest_27 (tgt := 43) (by decide) ⟨by omega, by omega⟩ (fun wh3 => ?_) (fun wh3 => ?_)
      · refine aw_b kX7_ok bX7_closest_43_ok (Cs := []) (pc' := 45) (L' := [some (aR 21 0), some (aI (n : Int)), some (aI (n : Int))]) (st' := []) (σ' := σ) rfl trivial ?_
        refine aw_b kX7_ok bX7_closest_45_ok (Cs := []) (pc' := 5) (L' := [some (aR 21 0), some (aI (n : Int)), some (aI ((n : Int) + 1))]) (st' := []) (σ' := σ) rfl trivial ?_
        have hk : clN (σ 22 0) (n + 1) = (n : Int) := by rw [clN]; exact if_pos (by omega)
        exact aw_eq (by rw [hk]; rfl) rfl rfl (ihn (by omega))
      · refine aw_b kX7_ok bX7_closest_30_ok (Cs := []) (pc' := 32) (L' := [some (aR 21 0), some (aI (clN (σ 22 0) n)), some (aI (n : Int))]) (st' := [aI (n : Int), aR 21 0]) (σ' := σ) rfl trivial ?_
        have blr32 := leR_rng hw (p := (n : Int)) (by omega) (by omega)
        refine aw_fV lX7_197 (as := [aI (n : Int)]) (rest := []) (t := 21) (c := 0) (by decide) (by decide) (by decide) rfl rfl (Nat.le_of_ble_eq_true rfl) rfl dX7_closest_32 (cM_left l (n : Int) σ hw hd hz (by omega) (by omega)) ?_
        refine aw_b kX7_ok bX7_closest_35_ok (Cs := []) (pc' := 37) (L' := [some (aR 21 0), some (aI (clN (σ 22 0) n)), some (aI (n : Int))]) (st' := [aI (clN (σ 22 0) n), aR 21 0, aI (leR (σ 22 0) (n : Int))]) (σ' := σ) rfl trivial ?_
        have blr37 := leR_rng hw (p := clN (σ 22 0) n) (by omega) (by omega)
        refine aw_fV lX7_197 (as := [aI (clN (σ 22 0) n)]) (rest := [aI (leR (σ 22 0) (n : Int))]) (t := 21) (c := 0) (by decide) (by decide) (by decide) rfl rfl (Nat.le_of_ble_eq_true rfl) rfl dX7_closest_37 (cM_left l (clN (σ 22 0) n) σ hw hd hz (by omega) (by omega)) ?_
        refine aw_cge dX7_closest_40 (tgt := 45) (by decide) ⟨by omega, by omega⟩ ⟨by omega, by omega⟩ (fun wh4 => ?_) (fun wh4 => ?_)
        · refine aw_b kX7_ok bX7_closest_45_ok (Cs := []) (pc' := 5) (L' := [some (aR 21 0), some (aI (clN (σ 22 0) n)), some (aI ((n : Int) + 1))]) (st' := []) (σ' := σ) rfl trivial ?_
          have hk : clN (σ 22 0) (n + 1) = clN (σ 22 0) n := by rw [clN]; exact if_neg (by omega)
          exact aw_eq (by rw [hk]; rfl) rfl rfl (ihn (by omega))
        · refine aw_b kX7_ok bX7_closest_43_ok (Cs := []) (pc' := 45) (L' := [some (aR 21 0), some (aI (n : Int)), some (aI (n : Int))]) (st' := []) (σ' := σ) rfl trivial ?_
          refine aw_b kX7_ok bX7_closest_45_ok (Cs := []) (pc' := 5) (L' := [some (aR 21 0), some (aI (n : Int)), some (aI ((n : Int) + 1))]) (st' := []) (σ' := σ) rfl trivial ?_
          have hk : clN (σ 22 0) (n + 1) = (n : Int) := by rw [clN]; exact if_pos (by omega)
          exact aw_eq (by rw [hk]; rfl) rfl rfl (ihn (by omega))
/-- the same but for the falls so far -/
def eq2 (R R' : aRw) : Prop := ∀ j : Int, j ≠ 2 → R j = R' j
theorem q2_off {R R' : aRw} (h : eq2 R R') (p : Int) : off R p = off R' p := off_cong (fun g g0 g1 => h (8 + g) (by omega)) p
theorem q2_up {R R' : aRw} (h : eq2 R R') (i : Int) {x y : Int} (hxy : x = y) : eq2 (rUp R i x) (rUp R' i y) := fun j hj => by
  subst hxy
  unfold rUp
  split
  · rfl
  · exact h j hj
theorem q2_cnt {R R' : aRw} (h : eq2 R R') (k : Int) : ∀ n : Nat, cntC R k n = cntC R' k n
  | 0 => rfl
  | n + 1 => by
    unfold cntC
    rw [q2_cnt h k n, h (8 + n) (by omega), h (3 + n) (by omega)]
theorem q2_be {R R' : aRw} (h : eq2 R R') {p : Int} (hp : 0 ≤ p) : beR R p = beR R' p := by
  unfold beR
  rw [h (aOf p 0) (by unfold aOf; omega), h (aOf p 1) (by unfold aOf; omega)]
theorem q2_se {R R' : aRw} (h : eq2 R R') {p : Int} (hp : 0 ≤ p) : eq2 (seR R p) (seR R' p) := by
  have a0 := h (aOf p 0) (by unfold aOf; omega)
  have a1 := h (aOf p 1) (by unfold aOf; omega)
  have a2 := h (aOf p 2) (by unfold aOf; omega)
  have o := q2_off h p
  have r := off_rng R p
  have sw : swR R p = swR R' p := by
    unfold swR
    rw [← o]
    split
    · rfl
    · rw [a0, a1, h 1 (by decide), h (3 + off R p) (by omega), q2_cnt h]
  by_cases c : off R p < 0
  · rw [seR_home c, seR_home (by rw [← o]; exact c)]
    exact q2_up h _ (by rw [a0, a1, a2])
  · rw [seR_in c, seR_in (by rw [← o]; exact c)]
    exact q2_up h _ (by rw [a2, sw])
theorem q2_f1 {R R' : aRw} (h : eq2 R R') (f : Int) : eq2 (f1R R f) (f1R R' f) := fun j hj => by
  unfold f1R
  by_cases c : j = 8 + f
  · rw [c, rUp_eq, rUp_eq]
  · rw [rUp_ne c, rUp_ne c, rUp_ne hj, rUp_ne hj]
    exact h j hj
theorem q2_fa {R R' : aRw} (h : eq2 R R') (hw : WF R) {f : Int} (f0 : 0 ≤ f) (f1 : f < 5) : eq2 (faR R f) (faR R' f) ∧ ((R (8 + f) < 0 ∨ R (aOf (R (8 + f)) 2) < beR R (R (8 + f))) ↔ (R' (8 + f) < 0 ∨ R' (aOf (R' (8 + f)) 2) < beR R' (R' (8 + f)))) := by
  have e8 := h (8 + f) (by omega)
  have ho := hw.ho f0 f1
  by_cases c0 : R (8 + f) < 0
  · refine ⟨?_, ⟨fun _ => Or.inl (by omega), fun _ => Or.inl c0⟩⟩
    unfold faR
    rw [if_pos (Or.inl c0), if_pos (Or.inl (show R' (8 + f) < 0 by omega))]
    exact h
  · have e2 := h (aOf (R (8 + f)) 2) (by unfold aOf; omega)
    have eb := q2_be h (p := R (8 + f)) (by omega)
    have e3 := h (aOf (R (8 + f)) 3) (by unfold aOf; omega)
    have b := hw.pe (p := R (8 + f)) (by omega) (by omega)
    have em2 := h (aOf (R (aOf (R (8 + f)) 3)) 2) (by unfold aOf; omega)
    have emb := q2_be h (p := R (aOf (R (8 + f)) 3)) (by omega)
    have e1 := q2_f1 h f
    have eo := q2_off e1 (R (aOf (R (8 + f)) 3))
    have e0 := h 0 (by decide)
    refine ⟨?_, by rw [← e8, ← e2, ← eb]⟩
    unfold faR
    rw [← e8, ← e2, ← eb, ← e3, ← em2, ← emb, ← eo, ← e0]
    split
    · exact h
    · split
      · exact q2_up e1 _ rfl
      · exact e1
theorem q2_seN {R R' : aRw} (h : eq2 R R') : ∀ n : Nat, eq2 (seN R n) (seN R' n)
  | 0 => q2_up h 1 (by rw [h 1 (by decide)])
  | n + 1 => q2_se (q2_seN h n) (by omega)
theorem q2_faN {R R' : aRw} (h : eq2 R R') (hw : WF R) : ∀ n : Nat, n ≤ 5 → eq2 (faN R n) (faN R' n) ∧ feN R n = feN R' n
  | 0, _ => ⟨h, rfl⟩
  | n + 1, hn => by
    obtain ⟨i1, i2⟩ := q2_faN h hw n (by omega)
    have z := q2_fa i1 (faN_wf hw n (by omega)) (f := (n : Int)) (by omega) (by omega)
    refine ⟨z.1, ?_⟩
    unfold feN
    rw [i2]
    by_cases c : faN R n (8 + n) < 0 ∨ faN R n (aOf (faN R n (8 + n)) 2) < beR (faN R n) (faN R n (8 + n))
    · rw [if_pos c, if_pos (z.2.mp c)]
    · rw [if_neg c, if_neg (fun q => c (z.2.mpr q))]
theorem q2_day {R R' : aRw} (h : eq2 R R') (hw : WF R) : eq2 (dayR R) (dayR R') ∧ feD R = feD R' := by
  have e0 := h 0 (by decide)
  have bn := hw.1
  have z := q2_faN (q2_seN h (R 0).toNat) (seN_wf hw (R 0).toNat (by omega)) 5 (by decide)
  unfold dayR feD
  rw [← e0]
  exact z
theorem faN_2 {R : aRw} : ∀ n : Nat, R 2 + n ≤ 999 → faN R n 2 = R 2 + feN R n
  | 0, _ => (Int.add_zero _).symm
  | n + 1, h => by
    have i := faN_2 (R := R) n (by omega)
    have g := feN_rng R n
    unfold feN
    rw [faN_row]
    unfold faR
    split
    · rename_i c
      rw [i]; omega
    · rename_i c
      have e : f1R (faN R n) n 2 = faN R n 2 + 1 := by
        unfold f1R
        rw [rUp_ne (by omega), rUp_eq, if_neg (by omega)]
      split
      · rw [rUp_ne (by omega), e, i]; omega
      · rw [e, i]; omega
theorem dayR_2 {R : aRw} (h : R 2 ≤ 994) : dayR R 2 = R 2 + feD R := by
  have e := (seN_0 R (R 0).toNat).2.2
  unfold dayR feD
  rw [faN_2 5 (by rw [e]; omega), e]
theorem dys_eq2 {R R' : aRw} (h : eq2 R R') (hw : WF R) : ∀ n : Nat, eq2 (dysR R n) (dysR R' n)
  | 0 => h
  | n + 1 => (q2_day (dys_eq2 h hw n) (dysR_wf hw n)).1
theorem dys_2 {R : aRw} (h : R 2 = 0) : ∀ n : Nat, n ≤ 190 → 0 ≤ dysR R n 2 ∧ dysR R n 2 ≤ 5 * n
  | 0, _ => by show 0 ≤ R 2 ∧ R 2 ≤ 5 * ((0 : Nat) : Int); omega
  | n + 1, hn => by
    have i := dys_2 h n (by omega)
    have g := feD_rng (dysR R n)
    have e : dysR R (n + 1) 2 = dysR R n 2 + feD (dysR R n) := dayR_2 (by omega)
    omega
set_option maxRecDepth 10000 in
theorem cM_stable (l : Launch) (σ : aS) (hw : WF (σ 22 0)) (hd : σ 22 0 1 ≤ 999) (hz : OZ (σ 22 1)) : AM l 4 mX7_stable [aR 21 0] σ ((fun v σ' => v = some (aI (stF (σ 22 0) 60 0 0)) ∧ ∃ Y : aRw, WF Y ∧ σ' = aRow σ 1 Y)) := by
  have bn := hw.1
  have b1 := hw.2.1
  have b2 := hw.2.2.1
  have h00 : σ = aRow σ 1 (σ 22 1) := aRow_id.symm
  have hX0 : WF (rUp (σ 22 0) 2 0) := WF_falls hw (by decide)
  have hq2 : eq2 (σ 22 0) (rUp (σ 22 0) 2 0) := fun j hj => (rUp_ne hj).symm
  have e20 : (rUp (σ 22 0) 2 0) 2 = 0 := rUp_eq
  have e21 : (rUp (σ 22 0) 2 0) 1 = σ 22 0 1 := rUp_ne (by decide)
  refine am_of (by decide) (Nat.le_of_ble_eq_true rfl) (L := [some (aR 21 0), none, none, none]) rfl ?_
  refine aw_b kX7_ok bX7_stable_0_ok (Cs := [0 < 1, 0 < 1]) (pc' := 8) (L' := [some (aR 21 0), none, none, none]) (st' := [aR 22 1, aR 22 0]) (σ' := σ) rfl (show (0 < 1) ∧ (0 < 1) from ⟨by omega, by omega⟩) ?_
  refine aw_callS lX7_145 (as := [aR 22 0, aR 22 1]) (rest := []) (by decide) rfl (Nat.le_of_ble_eq_true rfl) rfl dX7_stable_8 (cM_cpS l σ σ _ h00 hw hz) ?_
  rintro _ τ1 ⟨rfl, hτ1⟩
  have m1 := (rS hτ1).1
  have s1 := (rS hτ1).2
  refine aw_b kX7_ok bX7_stable_11_ok (Cs := [0 < 1, 1 < 4, 0 ≤ 2 ∧ 2 < 45]) (pc' := 22) (L' := [some (aR 21 0), some (aI 0), some (aI 0), none]) (st' := []) (σ' := aUp τ1 22 1 2 0) rfl (show (0 < 1) ∧ (1 < 4) ∧ (0 ≤ 2 ∧ 2 < 45) from ⟨by omega, by omega, by omega⟩) ?_
  obtain ⟨τ2, e2⟩ : ∃ τ2, τ2 = aUp τ1 22 1 2 0 := ⟨_, rfl⟩
  refine aw_eq rfl rfl (σ' := τ2) e2.symm ?_
  have hτ2 := e2.trans (aUp1_row hτ1)
  have m2 := (rS hτ2).1
  have s2 := (rS hτ2).2
  refine aw_eq (L' := [some (aR 21 0), some (aI (((0 : Nat) : Int) - 0)), some (aI ((0 : Nat) : Int)), none]) rfl rfl rfl ?_
  refine aloop (P := fun n : Nat => ∀ (τ : aS) (b : Int) (hτ : τ = aRow σ 1 (dysR (rUp (σ 22 0) 2 0) n)) (hb : 0 ≤ b ∧ b ≤ n) (h10 : (n : Int) - b < 10) (hA : stF (σ 22 0) 60 0 0 = stF (σ 22 0) (60 - n) n b), AW l 4 mX7_stable _ 22 [some (aR 21 0), some (aI ((n : Int) - b)), some (aI (n : Int)), none] [] τ) (60) (fun n hn ihn τ b hτ hb h10 hA => ?_) τ2 0 hτ2 (by decide) (by decide) rfl
  have m := (rS hτ).1
  have wX := dysR_wf hX0 n
  have eX := dysR_0 (rUp (σ 22 0) 2 0) n
  have g2 := dys_2 e20 n (by omega)
  have em : τ 22 1 2 = dysR (rUp (σ 22 0) 2 0) n 2 := by rw [m]
  refine aw_b kX7_ok bX7_stable_22_ok (Cs := []) (pc' := 25) (L' := [some (aR 21 0), some (aI ((n : Int) - b)), some (aI (n : Int)), none]) (st' := [aI 60, aI (n : Int)]) (σ' := τ) rfl trivial ?_
  refine aw_cge dX7_stable_25 (tgt := 77) (by decide) ⟨by omega, by omega⟩ ⟨by omega, by omega⟩ (fun wh1 => ?_) (fun wh1 => ?_)
  · refine aw_b kX7_ok bX7_stable_77_ok (Cs := []) (pc' := 79) (L' := [some (aR 21 0), some (aI ((n : Int) - b)), some (aI (n : Int)), none]) (st' := [aI (-4)]) (σ' := τ) rfl trivial ?_
    exact aw_iret dX7_stable_79 rfl ⟨aret (by rw [hA, show 60 - n = 0 by omega]; rfl), ⟨_, wX, hτ⟩⟩
  · refine aw_b kX7_ok bX7_stable_28_ok (Cs := [0 < 1, 1 < 4, 0 ≤ 2 ∧ 2 < 45, 0 < 1]) (pc' := 39) (L' := [some (aR 21 0), some (aI ((n : Int) - b)), some (aI (n : Int)), some (aI (τ 22 1 2))]) (st' := [aR 22 1]) (σ' := τ) rfl (show (0 < 1) ∧ (1 < 4) ∧ (0 ≤ 2 ∧ 2 < 45) ∧ (0 < 1) from ⟨by omega, by omega, by omega, by omega⟩) ?_
    refine aw_callS lX7_95 (as := [aR 22 1]) (rest := []) (by decide) rfl (Nat.le_of_ble_eq_true rfl) rfl dX7_stable_39 (cM_dayS l σ τ _ hτ wX (by omega)) ?_
    rintro _ τ9 ⟨rfl, hτ9⟩
    have m9 := (rS hτ9).1
    have e9 : τ9 22 1 2 = dysR (rUp (σ 22 0) 2 0) n 2 + feD (dysR (σ 22 0) n) := by
      rw [m9, dayR_2 (by omega), (q2_day (dys_eq2 hq2 hw n) (dysR_wf hw n)).2]
    have gf := feD_rng (dysR (σ 22 0) n)
    have hB : stF (σ 22 0) 60 0 0 = (if 0 < feD (dysR (σ 22 0) n) then stF (σ 22 0) (60 - (n + 1)) (n + 1) ((n : Int) + 1) else if 10 ≤ (n : Int) + 1 - b then b else stF (σ 22 0) (60 - (n + 1)) (n + 1) b) := by
      rw [hA, show 60 - n = (60 - (n + 1)) + 1 by omega]; rfl
    refine aw_b kX7_ok bX7_stable_42_ok (Cs := [0 < 1, 1 < 4, 0 ≤ 2 ∧ 2 < 45]) (pc' := 49) (L' := [some (aR 21 0), some (aI ((n : Int) - b)), some (aI (n : Int)), some (aI (τ 22 1 2))]) (st' := [aI (τ 22 1 2), aI (τ9 22 1 2)]) (σ' := τ9) rfl (show (0 < 1) ∧ (1 < 4) ∧ (0 ≤ 2 ∧ 2 < 45) from ⟨by omega, by omega, by omega⟩) ?_
    refine aw_cne dX7_stable_49 (tgt := 58) (by decide) ⟨by omega, by omega⟩ ⟨by omega, by omega⟩ (fun wh2 => ?_) (fun wh2 => ?_)
    · refine aw_b kX7_ok bX7_stable_58_ok (Cs := []) (pc' := 59) (L' := [some (aR 21 0), some (aI ((n : Int) - b)), some (aI (n : Int)), some (aI (τ 22 1 2))]) (st' := [aI 0]) (σ' := τ9) rfl trivial ?_
      refine aw_b kX7_ok bX7_stable_59_ok (Cs := []) (pc' := 63) (L' := [some (aR 21 0), some (aI 0), some (aI (n : Int)), some (aI (τ 22 1 2))]) (st' := [aI 10, aI 0]) (σ' := τ9) rfl trivial ?_
      refine aw_cne dX7_stable_63 (tgt := 71) (by decide) ⟨by omega, by omega⟩ ⟨by omega, by omega⟩ (fun wh3 => ?_) (fun wh3 => absurd wh3 (by decide))
      refine aw_b kX7_ok bX7_stable_71_ok (Cs := []) (pc' := 22) (L' := [some (aR 21 0), some (aI 0), some (aI ((n : Int) + 1)), some (aI (τ 22 1 2))]) (st' := []) (σ' := τ9) rfl trivial ?_
      refine aw_drop [3] (L' := [some (aR 21 0), some (aI 0), some (aI ((n : Int) + 1)), none]) rfl ?_
      have hB2 := hB.trans (if_pos (by omega))
      exact aw_eq (by rw [show ((n + 1 : Nat) : Int) - ((n : Int) + 1) = 0 by omega]; rfl) rfl rfl (ihn (by omega) τ9 ((n : Int) + 1) hτ9 (by omega) (by omega) hB2)
    · refine aw_b kX7_ok bX7_stable_52_ok (Cs := []) (pc' := 59) (L' := [some (aR 21 0), some (aI ((n : Int) - b)), some (aI (n : Int)), some (aI (τ 22 1 2))]) (st' := [aI (((n : Int) - b) + 1)]) (σ' := τ9) rfl trivial ?_
      refine aw_b kX7_ok bX7_stable_59_ok (Cs := []) (pc' := 63) (L' := [some (aR 21 0), some (aI (((n : Int) - b) + 1)), some (aI (n : Int)), some (aI (τ 22 1 2))]) (st' := [aI 10, aI (((n : Int) - b) + 1)]) (σ' := τ9) rfl trivial ?_
      refine aw_cne dX7_stable_63 (tgt := 71) (by decide) ⟨by omega, by omega⟩ ⟨by omega, by omega⟩ (fun wh4 => ?_) (fun wh4 => ?_)
      · refine aw_b kX7_ok bX7_stable_71_ok (Cs := []) (pc' := 22) (L' := [some (aR 21 0), some (aI (((n : Int) - b) + 1)), some (aI ((n : Int) + 1)), some (aI (τ 22 1 2))]) (st' := []) (σ' := τ9) rfl trivial ?_
        refine aw_drop [3] (L' := [some (aR 21 0), some (aI (((n : Int) - b) + 1)), some (aI ((n : Int) + 1)), none]) rfl ?_
        have hB2 := hB.trans ((if_neg (by omega)).trans (if_neg (by omega)))
        exact aw_eq (by rw [show (n : Int) - b + 1 = ((n + 1 : Nat) : Int) - b by omega]; rfl) rfl rfl (ihn (by omega) τ9 b hτ9 (by omega) (by omega) hB2)
      · refine aw_b kX7_ok bX7_stable_66_ok (Cs := []) (pc' := 70) (L' := [some (aR 21 0), some (aI (((n : Int) - b) + 1)), some (aI (n : Int)), some (aI (τ 22 1 2))]) (st' := [aI ((n : Int) - 9)]) (σ' := τ9) rfl trivial ?_
        exact aw_iret dX7_stable_70 rfl ⟨aret ((hB.trans ((if_neg (by omega)).trans (if_pos (by omega)))).trans (by omega)).symm, ⟨_, dayR_wf wX, hτ9⟩⟩
set_option maxRecDepth 10000 in
theorem cM_over (l : Launch) (w : Int) (σ : aS) (hw : WF (σ 22 0)) (hd : σ 22 0 1 ≤ 999) (hz : OZ (σ 22 1)) (hv : aIr w) : AM l 5 mX7_over [aR 21 0, aI w] σ (QR (A_over (σ 22 0) w) σ) := by
  have bn := hw.1
  have b1 := hw.2.1
  have b2 := hw.2.2.1
  have h00 : σ = aRow σ 1 (σ 22 1) := aRow_id.symm
  refine am_of (by decide) (Nat.le_of_ble_eq_true rfl) (L := [some (aR 21 0), some (aI w)]) rfl ?_
  refine aw_b kX7_ok bX7_over_0_ok (Cs := []) (pc' := 1) (L' := [some (aR 21 0), some (aI w)]) (st' := [aI w]) (σ' := σ) rfl trivial ?_
  rcases (show w = 0 ∨ w = 1 ∨ w = 2 ∨ w = 3 ∨ w = 4 ∨ (w < 0 ∨ 4 < w) by omega) with wh1 | wh1 | wh1 | wh1 | wh1 | wh1
  · refine aw_tsw dX7_over_1 (tgt := 36) ⟨by omega, by omega⟩ (by decide) (by rw [wh1]; decide) ?_
    refine aw_b kX7_ok bX7_over_36_ok (Cs := [0 < 1, 0 < 4, 0 ≤ 0 ∧ 0 < 45, 0 < 1]) (pc' := 46) (L' := [some (aR 21 0), some (aI w)]) (st' := [aR 22 0, aI (σ 22 0 0)]) (σ' := σ) rfl (show (0 < 1) ∧ (0 < 4) ∧ (0 ≤ 0 ∧ 0 < 45) ∧ (0 < 1) from ⟨by omega, by omega, by omega, by omega⟩) ?_
    refine aw_fS lX7_177 (as := [aR 22 0]) (rest := [aI (σ 22 0 0)]) (by decide) rfl (Nat.le_of_ble_eq_true rfl) rfl dX7_over_46 (cM_heldIn l 0 (by omega) σ hw) ?_
    have gh := hbN_rng (σ 22 0) 5
    refine aw_fS lX7_155 (as := [aI (hbN (σ 22 0) 5)]) (rest := [aI (σ 22 0 0)]) (by decide) rfl (Nat.le_of_ble_eq_true rfl) rfl dX7_over_49 (cM_bits l (hbN (σ 22 0) 5) σ gh.1 (by have := gh.2; omega)) ?_
    refine aw_b kX7_ok bX7_over_52_ok (Cs := []) (pc' := 53) (L' := [some (aR 21 0), some (aI w)]) (st' := [aI ((σ 22 0 0) - (bcN (hbN (σ 22 0) 5) 8))]) (σ' := σ) rfl trivial ?_
    exact aw_iret dX7_over_53 rfl ⟨aret (by unfold A_over; (try unfold hcR); (repeat' split) <;> first | rfl | omega), (by first | exact ⟨_, hY.oz, hτ2⟩ | exact ⟨_, hz, h00⟩)⟩
  · refine aw_tsw dX7_over_1 (tgt := 54) ⟨by omega, by omega⟩ (by decide) (by rw [wh1]; decide) ?_
    refine aw_b kX7_ok bX7_over_54_ok (Cs := []) (pc' := 55) (L' := [some (aR 21 0), some (aI w)]) (st' := [aR 21 0]) (σ' := σ) rfl trivial ?_
    refine aw_fV lX7_200 (as := []) (rest := []) (t := 21) (c := 0) (by decide) (by decide) (by decide) rfl rfl (Nat.le_of_ble_eq_true rfl) rfl dX7_over_55 (cM_plainOnes l σ hw hd hz) ?_
    exact aw_iret dX7_over_58 rfl ⟨aret (by unfold A_over; (try unfold hcR); (repeat' split) <;> first | rfl | omega), (by first | exact ⟨_, hY.oz, hτ2⟩ | exact ⟨_, hz, h00⟩)⟩
  · refine aw_tsw dX7_over_1 (tgt := 59) ⟨by omega, by omega⟩ (by decide) (by rw [wh1]; decide) ?_
    refine aw_b kX7_ok bX7_over_59_ok (Cs := []) (pc' := 60) (L' := [some (aR 21 0), some (aI w)]) (st' := [aR 21 0]) (σ' := σ) rfl trivial ?_
    refine aw_fV lX7_203 (as := []) (rest := []) (t := 21) (c := 0) (by decide) (by decide) (by decide) rfl rfl (Nat.le_of_ble_eq_true rfl) rfl dX7_over_60 (cM_likeOnes l σ hw hd hz) ?_
    exact aw_iret dX7_over_63 rfl ⟨aret (by unfold A_over; (try unfold hcR); (repeat' split) <;> first | rfl | omega), (by first | exact ⟨_, hY.oz, hτ2⟩ | exact ⟨_, hz, h00⟩)⟩
  · refine aw_tsw dX7_over_1 (tgt := 64) ⟨by omega, by omega⟩ (by decide) (by rw [wh1]; decide) ?_
    refine aw_b kX7_ok bX7_over_64_ok (Cs := []) (pc' := 65) (L' := [some (aR 21 0), some (aI w)]) (st' := [aR 21 0]) (σ' := σ) rfl trivial ?_
    refine aw_fV lX7_206 (as := []) (rest := []) (t := 21) (c := 0) (by decide) (by decide) (by decide) rfl rfl (Nat.le_of_ble_eq_true rfl) rfl dX7_over_65 (cM_closest l σ hw hd hz) ?_
    exact aw_iret dX7_over_68 rfl ⟨aret (by unfold A_over; (try unfold hcR); (repeat' split) <;> first | rfl | omega), (by first | exact ⟨_, hY.oz, hτ2⟩ | exact ⟨_, hz, h00⟩)⟩
  · refine aw_tsw dX7_over_1 (tgt := 69) ⟨by omega, by omega⟩ (by decide) (by rw [wh1]; decide) ?_
    refine aw_b kX7_ok bX7_over_69_ok (Cs := []) (pc' := 70) (L' := [some (aR 21 0), some (aI w)]) (st' := [aR 21 0]) (σ' := σ) rfl trivial ?_
    refine aw_callV lX7_209 (as := []) (rest := []) (t := 21) (c := 0) (by decide) (by decide) (by decide) rfl rfl (Nat.le_of_ble_eq_true rfl) rfl dX7_over_70 (cM_stable l σ hw hd hz) ?_
    rintro _ τ2 ⟨rfl, Y, hY, hτ2⟩
    exact aw_iret dX7_over_73 rfl ⟨aret (by unfold A_over; (try unfold hcR); (repeat' split) <;> first | rfl | omega), (by first | exact ⟨_, hY.oz, hτ2⟩ | exact ⟨_, hz, h00⟩)⟩
  · refine aw_tsw dX7_over_1 (tgt := 74) ⟨by omega, by omega⟩ (by decide) (by unfold aTgt; rw [if_pos (by omega)]; rfl) ?_
    refine aw_b kX7_ok bX7_over_74_ok (Cs := []) (pc' := 76) (L' := [some (aR 21 0), some (aI w)]) (st' := [aI 1000000001]) (σ' := σ) rfl trivial ?_
    exact aw_iret dX7_over_76 rfl ⟨aret (by unfold A_over; (try unfold hcR); (repeat' split) <;> first | rfl | omega), (by first | exact ⟨_, hY.oz, hτ2⟩ | exact ⟨_, hz, h00⟩)⟩
set_option maxRecDepth 10000 in
theorem cM_allKnown (l : Launch) (σ : aS) (hw : WF (σ 22 0)) : AM l 1 mX7_allKnown [aR 22 0] σ (aF (some (aI (akN (σ 22 0) ((σ 22 0) 0).toNat))) σ) := by
  have bn := hw.1
  refine am_of (by decide) (Nat.le_of_ble_eq_true rfl) (L := [some (aR 22 0), none, none]) rfl ?_
  refine aw_b kX7_ok bX7_allKnown_0_ok (Cs := []) (pc' := 4) (L' := [some (aR 22 0), some (aI 0), some (aI 0)]) (st' := []) (σ' := σ) rfl trivial ?_
  refine aloop (P := fun n : Nat => AW l 1 mX7_allKnown _ 4 [some (aR 22 0), some (aI (akN (σ 22 0) n)), some (aI (n : Int))] [] σ) (((σ 22 0) 0).toNat) (fun n hn ihn => ?_)
  refine aw_b kX7_ok bX7_allKnown_4_ok (Cs := [0 < 4, 0 ≤ 0 ∧ 0 < 45]) (pc' := 8) (L' := [some (aR 22 0), some (aI (akN (σ 22 0) n)), some (aI (n : Int))]) (st' := [aI (σ 22 0 0), aI (n : Int)]) (σ' := σ) rfl (show (0 < 4) ∧ (0 ≤ 0 ∧ 0 < 45) from ⟨by omega, by omega⟩) ?_
  refine aw_cge dX7_allKnown_8 (tgt := 27) (by decide) ⟨by omega, by omega⟩ ⟨by omega, by omega⟩ (fun wh1 => ?_) (fun wh1 => ?_)
  · refine aw_b kX7_ok bX7_allKnown_27_ok (Cs := []) (pc' := 28) (L' := [some (aR 22 0), some (aI (akN (σ 22 0) n)), some (aI (n : Int))]) (st' := [aI (akN (σ 22 0) n)]) (σ' := σ) rfl trivial ?_
    exact aw_iret dX7_allKnown_28 rfl ⟨aret (by rw [show n = ((σ 22 0) 0).toNat by omega]), rfl⟩
  · have ba := aOf_rng (p := (n : Int)) (w := 2) (by omega) (by omega) (by decide) (by decide)
    refine aw_b kX7_ok bX7_allKnown_11_ok (Cs := []) (pc' := 15) (L' := [some (aR 22 0), some (aI (akN (σ 22 0) n)), some (aI (n : Int))]) (st' := [aI 2, aI (n : Int), aR 22 0, aI (akN (σ 22 0) n)]) (σ' := σ) rfl trivial ?_
    refine aw_fS lX7_57 (as := [aI (n : Int), aI 2]) (rest := [aR 22 0, aI (akN (σ 22 0) n)]) (by decide) rfl (Nat.le_of_ble_eq_true rfl) rfl dX7_allKnown_15 (cM_of l (n : Int) 2 σ) ?_
    refine aw_b kX7_ok bX7_allKnown_18_ok (Cs := [0 < 4, 0 ≤ aOf (n : Int) 2 ∧ aOf (n : Int) 2 < 45]) (pc' := 4) (L' := [some (aR 22 0), some (aI ((akN (σ 22 0) n) + (σ 22 0 (aOf (n : Int) 2)))), some (aI ((n : Int) + 1))]) (st' := []) (σ' := σ) rfl (show (0 < 4) ∧ (0 ≤ aOf (n : Int) 2 ∧ aOf (n : Int) 2 < 45) from ⟨by omega, by omega⟩) ?_
    exact ihn (by omega)
set_option maxRecDepth 10000 in
theorem cM_count (l : Launch) (w : Int) (σ : aS) (hw : WF (σ 22 0)) (hd : σ 22 0 1 ≤ 999) (hz : OZ (σ 22 1)) (hv : aIr w) : AM l 2 mX7_count [aR 21 0, aI w] σ (QR (A_count (σ 22 0) w) σ) := by
  have bn := hw.1
  have b1 := hw.2.1
  have b2 := hw.2.2.1
  have h00 : σ = aRow σ 1 (σ 22 1) := aRow_id.symm
  refine am_of (by decide) (Nat.le_of_ble_eq_true rfl) (L := [some (aR 21 0), some (aI w)]) rfl ?_
  refine aw_b kX7_ok bX7_count_0_ok (Cs := []) (pc' := 3) (L' := [some (aR 21 0), some (aI w)]) (st' := [aI 2, aI 0, aI w]) (σ' := σ) rfl trivial ?_
  refine aw_bS lX7_49 (as := [aI w, aI 0, aI 2]) (rest := []) (by decide) rfl (Nat.le_of_ble_eq_true rfl) rfl dX7_count_3 (cM_isIn l w 0 2 σ ⟨by omega, by omega⟩ ⟨by omega, by omega⟩ ⟨by omega, by omega⟩) (fun wh1 => ?_) (fun wh1 => ?_)
  · refine aw_ieq dX7_count_6 (tgt := 18) (by decide) ⟨by omega, by omega⟩ (fun wh2 => absurd wh2 (by decide)) (fun wh2 => ?_)
    refine aw_b kX7_ok bX7_count_9_ok (Cs := [0 < 1, 0 < 4, 0 ≤ w ∧ w < 45]) (pc' := 49) (L' := [some (aR 21 0), some (aI w)]) (st' := [aI (σ 22 0 w)]) (σ' := σ) rfl (show (0 < 1) ∧ (0 < 4) ∧ (0 ≤ w ∧ w < 45) from ⟨by omega, by omega, by omega⟩) ?_
    exact aw_iret dX7_count_49 rfl ⟨aret (by unfold A_count; rcases (show w = 0 ∨ w = 1 ∨ w = 2 by omega) with rfl | rfl | rfl <;> simp), ⟨_, hz, h00⟩⟩
  · refine aw_ieq dX7_count_6 (tgt := 18) (by decide) ⟨by omega, by omega⟩ (fun wh3 => ?_) (fun wh3 => absurd wh3 (by decide))
    refine aw_b kX7_ok bX7_count_18_ok (Cs := []) (pc' := 20) (L' := [some (aR 21 0), some (aI w)]) (st' := [aI 3, aI w]) (σ' := σ) rfl trivial ?_
    refine aw_cne dX7_count_20 (tgt := 33) (by decide) ⟨by omega, by omega⟩ ⟨by omega, by omega⟩ (fun wh4 => ?_) (fun wh4 => ?_)
    · refine aw_b kX7_ok bX7_count_33_ok (Cs := []) (pc' := 35) (L' := [some (aR 21 0), some (aI w)]) (st' := [aI 4, aI w]) (σ' := σ) rfl trivial ?_
      refine aw_cne dX7_count_35 (tgt := 48) (by decide) ⟨by omega, by omega⟩ ⟨by omega, by omega⟩ (fun wh5 => ?_) (fun wh5 => ?_)
      · refine aw_b kX7_ok bX7_count_48_ok (Cs := []) (pc' := 49) (L' := [some (aR 21 0), some (aI w)]) (st' := [aI (-1)]) (σ' := σ) rfl trivial ?_
        exact aw_iret dX7_count_49 rfl ⟨aret (by unfold A_count; (repeat' split) <;> first | rfl | omega), ⟨_, hz, h00⟩⟩
      · refine aw_b kX7_ok bX7_count_38_ok (Cs := [0 < 1]) (pc' := 42) (L' := [some (aR 21 0), some (aI w)]) (st' := [aR 22 0]) (σ' := σ) rfl (show 0 < 1 from by omega) ?_
        refine aw_fS lX7_237 (as := [aR 22 0]) (rest := []) (by decide) rfl (Nat.le_of_ble_eq_true rfl) rfl dX7_count_42 (cM_allKnown l σ hw) ?_
        refine aw_b kX7_ok bX7_count_45_ok (Cs := []) (pc' := 49) (L' := [some (aR 21 0), some (aI w)]) (st' := [aI (akN (σ 22 0) ((σ 22 0) 0).toNat)]) (σ' := σ) rfl trivial ?_
        exact aw_iret dX7_count_49 rfl ⟨aret (by unfold A_count; (repeat' split) <;> first | rfl | omega), ⟨_, hz, h00⟩⟩
    · refine aw_b kX7_ok bX7_count_23_ok (Cs := [0 < 1]) (pc' := 27) (L' := [some (aR 21 0), some (aI w)]) (st' := [aR 22 0]) (σ' := σ) rfl (show 0 < 1 from by omega) ?_
      refine aw_fS lX7_177 (as := [aR 22 0]) (rest := []) (by decide) rfl (Nat.le_of_ble_eq_true rfl) rfl dX7_count_27 (cM_heldIn l 0 (by omega) σ hw) ?_
      refine aw_b kX7_ok bX7_count_30_ok (Cs := []) (pc' := 49) (L' := [some (aR 21 0), some (aI w)]) (st' := [aI (hbN (σ 22 0) 5)]) (σ' := σ) rfl trivial ?_
      exact aw_iret dX7_count_49 rfl ⟨aret (by unfold A_count; (repeat' split) <;> first | rfl | omega), ⟨_, hz, h00⟩⟩
