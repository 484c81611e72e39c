/-! ===== the model: changes, shelves ===== -/
set_option maxRecDepth 10000 in
theorem cM_sets (l : Launch) (i x : Int) (σ : aS) (h0 : 0 ≤ i) (h1 : i < 45) : AM l 0 mX7_sets [aR 21 0, aI i, aI x] σ (aF (some (aI (σ 22 0 i))) (aRow σ 0 (rUp (σ 22 0) i x))) := by
  refine am_of (by decide) (Nat.le_of_ble_eq_true rfl) (L := [some (aR 21 0), some (aI i), some (aI x), none]) rfl ?_
  refine aw_b kX7_ok bX7_sets_0_ok (Cs := [0 < 1, 0 < 4, 0 ≤ i ∧ i < 45, 0 < 1, 0 < 4, 0 ≤ i ∧ i < 45]) (pc' := 15) (L' := [some (aR 21 0), some (aI i), some (aI x), some (aI (σ 22 0 i))]) (st' := [aI (σ 22 0 i)]) (σ' := aUp σ 22 0 i x) rfl (show (0 < 1) ∧ (0 < 4) ∧ (0 ≤ i ∧ i < 45) ∧ (0 < 1) ∧ (0 < 4) ∧ (0 ≤ i ∧ i < 45) from ⟨by omega, by omega, by omega, by omega, by omega, by omega⟩) ?_
  exact aw_iret dX7_sets_15 rfl ⟨rfl, by rw [aUp_row]⟩
set_option maxRecDepth 10000 in
theorem cM_days (l : Launch) (n : Int) (σ : aS) (hw : WF (σ 22 0)) (hd : σ 22 0 1 ≤ 999) (hn : aIr n) : AM l 5 mX7_days [aR 21 0, aI n] σ (aF (some (aI (A_days (σ 22 0) n))) (aRow σ 0 (R_days (σ 22 0) n))) := by
  have bn := hw.1
  have b1 := hw.2.1
  have b2 := hw.2.2.1
  refine am_of (by decide) (Nat.le_of_ble_eq_true rfl) (L := [some (aR 21 0), some (aI n)]) rfl ?_
  refine aw_b kX7_ok bX7_days_0_ok (Cs := []) (pc' := 4) (L' := [some (aR 21 0), some (aI n)]) (st' := [aI 60, aI 1, aI n]) (σ' := σ) rfl trivial ?_
  refine aw_bS lX7_49 (as := [aI n, aI 1, aI 60]) (rest := []) (by decide) rfl (Nat.le_of_ble_eq_true rfl) rfl dX7_days_4 (cM_isIn l n 1 60 σ ⟨by omega, by omega⟩ ⟨by omega, by omega⟩ ⟨by omega, by omega⟩) (fun wh1 => ?_) (fun wh1 => ?_)
  · refine aw_ine dX7_days_7 (tgt := 12) (by decide) ⟨by omega, by omega⟩ (fun wh2 => ?_) (fun wh2 => absurd wh2 (by decide))
    refine aw_b kX7_ok bX7_days_12_ok (Cs := [0 < 1, 0 < 4, 0 ≤ 1 ∧ 1 < 45]) (pc' := 23) (L' := [some (aR 21 0), some (aI n)]) (st' := [aI 999, aI ((σ 22 0 1) + n)]) (σ' := σ) rfl (show (0 < 1) ∧ (0 < 4) ∧ (0 ≤ 1 ∧ 1 < 45) from ⟨by omega, by omega, by omega⟩) ?_
    refine aw_cle dX7_days_23 (tgt := 29) (by decide) ⟨by omega, by omega⟩ ⟨by omega, by omega⟩ (fun wh3 => ?_) (fun wh3 => ?_)
    · refine aw_b kX7_ok bX7_days_29_ok (Cs := [0 < 1]) (pc' := 34) (L' := [some (aR 21 0), some (aI n)]) (st' := [aI n, aR 22 0]) (σ' := σ) rfl (show 0 < 1 from by omega) ?_
      refine aw_fS lX7_135 (as := [aR 22 0, aI n]) (rest := []) (by decide) rfl (Nat.le_of_ble_eq_true rfl) rfl dX7_days_34 (cM_daysOn l 0 (by decide) n σ hw (by omega) (by omega) (by omega)) ?_
      refine aw_b kX7_ok bX7_days_37_ok (Cs := [0 < 1, 0 < 4, 0 ≤ 2 ∧ 2 < 45]) (pc' := 43) (L' := [some (aR 21 0), some (aI n)]) (st' := [aI ((aRow σ 0 (dysR (σ 22 0) n.toNat)) 22 0 2)]) (σ' := aRow σ 0 (dysR (σ 22 0) n.toNat)) rfl (show (0 < 1) ∧ (0 < 4) ∧ (0 ≤ 2 ∧ 2 < 45) from ⟨by omega, by omega, by omega⟩) ?_
      exact aw_iret dX7_days_43 rfl ⟨aret (by rw [aRow_self]; unfold A_days; rw [if_pos (by omega), if_pos (by omega)]), by unfold R_days; rw [if_pos (by omega)]⟩
    · refine aw_b kX7_ok bX7_days_26_ok (Cs := []) (pc' := 28) (L' := [some (aR 21 0), some (aI n)]) (st' := [aI (-3)]) (σ' := σ) rfl trivial ?_
      exact aw_iret dX7_days_28 rfl ⟨aret (by unfold A_days; (first | rw [if_neg (by omega)] | rw [if_pos (by omega), if_neg (by omega)] | rw [if_pos (by omega), if_pos (by omega)])), by unfold R_days; rw [if_neg (by omega), aRow_id]⟩
  · refine aw_ine dX7_days_7 (tgt := 12) (by decide) ⟨by omega, by omega⟩ (fun wh4 => absurd wh4 (by decide)) (fun wh4 => ?_)
    refine aw_b kX7_ok bX7_days_10_ok (Cs := []) (pc' := 11) (L' := [some (aR 21 0), some (aI n)]) (st' := [aI (-1)]) (σ' := σ) rfl trivial ?_
    exact aw_iret dX7_days_11 rfl ⟨aret (by unfold A_days; (first | rw [if_neg (by omega)] | rw [if_pos (by omega), if_neg (by omega)] | rw [if_pos (by omega), if_pos (by omega)])), by unfold R_days; rw [if_neg (by omega), aRow_id]⟩
set_option maxRecDepth 10000 in
theorem cM_holds (l : Launch) (f p : Int) (σ : aS) (hw : WF (σ 22 0)) (hf : aIr f) (hp : aIr p) : AM l 2 mX7_holds [aR 21 0, aI f, aI p] σ (aF (some (aI (A_holds (σ 22 0) f p))) (aRow σ 0 (R_holds (σ 22 0) f p))) := by
  have bn := hw.1
  have b1 := hw.2.1
  have b2 := hw.2.2.1
  refine am_of (by decide) (Nat.le_of_ble_eq_true rfl) (L := [some (aR 21 0), some (aI f), some (aI p), none]) rfl ?_
  refine aw_b kX7_ok bX7_holds_0_ok (Cs := []) (pc' := 1) (L' := [some (aR 21 0), some (aI f), some (aI p), none]) (st' := [aI f]) (σ' := σ) rfl trivial ?_
  refine aw_bS lX7_125 (as := [aI f]) (rest := []) (by decide) rfl (Nat.le_of_ble_eq_true rfl) rfl dX7_holds_1 (cM_isOffice l f σ ⟨by omega, by omega⟩) (fun wh1 => ?_) (fun wh1 => ?_)
  · refine aw_ieq dX7_holds_4 (tgt := 15) (by decide) ⟨by omega, by omega⟩ (fun wh2 => absurd wh2 (by decide)) (fun wh2 => ?_)
    refine aw_b kX7_ok bX7_holds_7_ok (Cs := []) (pc' := 9) (L' := [some (aR 21 0), some (aI f), some (aI p), none]) (st' := [aI p, aR 21 0]) (σ' := σ) rfl trivial ?_
    refine aw_bV lX7_128 (as := [aI p]) (rest := []) (t := 21) (c := 0) (by decide) (by decide) (by decide) rfl rfl (Nat.le_of_ble_eq_true rfl) rfl dX7_holds_9 (cM_isOne l p σ ⟨by omega, by omega⟩ (by omega)) (fun wh3 => ?_) (fun wh3 => ?_)
    · have bh := hw.ho (f := f) (by omega) (by omega)
      refine aw_ine dX7_holds_12 (tgt := 17) (by decide) ⟨by omega, by omega⟩ (fun wh4 => ?_) (fun wh4 => absurd wh4 (by decide))
      refine aw_b kX7_ok bX7_holds_17_ok (Cs := [0 < 1, 0 < 4, 0 ≤ 8 + f ∧ 8 + f < 45, 0 < 1]) (pc' := 33) (L' := [some (aR 21 0), some (aI f), some (aI p), some (aI (σ 22 0 (8 + f)))]) (st' := [aI p, aI f, aR 22 0]) (σ' := σ) rfl (show (0 < 1) ∧ (0 < 4) ∧ (0 ≤ 8 + f ∧ 8 + f < 45) ∧ (0 < 1) from ⟨by omega, by omega, by omega, by omega⟩) ?_
      refine aw_fS lX7_131 (as := [aR 22 0, aI f, aI p]) (rest := []) (by decide) rfl (Nat.le_of_ble_eq_true rfl) rfl dX7_holds_33 (cM_holdsIn l 0 (by decide) f p σ hw (by omega) (by omega) hp) ?_
      refine aw_b kX7_ok bX7_holds_36_ok (Cs := []) (pc' := 37) (L' := [some (aR 21 0), some (aI f), some (aI p), some (aI (σ 22 0 (8 + f)))]) (st' := [aI (σ 22 0 (8 + f))]) (σ' := aRow σ 0 (hoR (σ 22 0) f p)) rfl trivial ?_
      exact aw_iret dX7_holds_37 rfl ⟨aret (by unfold A_holds; rw [if_pos (by omega)]), by unfold R_holds; rw [if_pos (by omega)]⟩
    · refine aw_ine dX7_holds_12 (tgt := 17) (by decide) ⟨by omega, by omega⟩ (fun wh5 => absurd wh5 (by decide)) (fun wh5 => ?_)
      refine aw_b kX7_ok bX7_holds_15_ok (Cs := []) (pc' := 16) (L' := [some (aR 21 0), some (aI f), some (aI p), none]) (st' := [aI (-1)]) (σ' := σ) rfl trivial ?_
      exact aw_iret dX7_holds_16 rfl ⟨aret (by unfold A_holds; (first | rw [if_neg (by omega)] | rw [if_pos (by omega), if_neg (by omega)] | rw [if_pos (by omega), if_pos (by omega)])), by unfold R_holds; rw [if_neg (by omega), aRow_id]⟩
  · refine aw_ieq dX7_holds_4 (tgt := 15) (by decide) ⟨by omega, by omega⟩ (fun wh6 => ?_) (fun wh6 => absurd wh6 (by decide))
    refine aw_b kX7_ok bX7_holds_15_ok (Cs := []) (pc' := 16) (L' := [some (aR 21 0), some (aI f), some (aI p), none]) (st' := [aI (-1)]) (σ' := σ) rfl trivial ?_
    exact aw_iret dX7_holds_16 rfl ⟨aret (by unfold A_holds; (first | rw [if_neg (by omega)] | rw [if_pos (by omega), if_neg (by omega)] | rw [if_pos (by omega), if_pos (by omega)])), by unfold R_holds; rw [if_neg (by omega), aRow_id]⟩
set_option maxRecDepth 10000 in
theorem cM_empties (l : Launch) (f : Int) (σ : aS) (hw : WF (σ 22 0)) (hf : aIr f) : AM l 2 mX7_empties [aR 21 0, aI f] σ (aF (some (aI (A_empties (σ 22 0) f))) (aRow σ 0 (R_empties (σ 22 0) f))) := by
  have bn := hw.1
  have b1 := hw.2.1
  have b2 := hw.2.2.1
  refine am_of (by decide) (Nat.le_of_ble_eq_true rfl) (L := [some (aR 21 0), some (aI f)]) rfl ?_
  refine aw_b kX7_ok bX7_empties_0_ok (Cs := []) (pc' := 1) (L' := [some (aR 21 0), some (aI f)]) (st' := [aI f]) (σ' := σ) rfl trivial ?_
  refine aw_bS lX7_125 (as := [aI f]) (rest := []) (by decide) rfl (Nat.le_of_ble_eq_true rfl) rfl dX7_empties_1 (cM_isOffice l f σ ⟨by omega, by omega⟩) (fun wh1 => ?_) (fun wh1 => ?_)
  · have bh := hw.ho (f := f) (by omega) (by omega)
    refine aw_ine dX7_empties_4 (tgt := 9) (by decide) ⟨by omega, by omega⟩ (fun wh2 => ?_) (fun wh2 => absurd wh2 (by decide))
    refine aw_b kX7_ok bX7_empties_9_ok (Cs := [0 < 1, 0 < 4, 0 ≤ 8 + f ∧ 8 + f < 45]) (pc' := 18) (L' := [some (aR 21 0), some (aI f)]) (st' := [aI (σ 22 0 (8 + f))]) (σ' := σ) rfl (show (0 < 1) ∧ (0 < 4) ∧ (0 ≤ 8 + f ∧ 8 + f < 45) from ⟨by omega, by omega, by omega⟩) ?_
    refine aw_ige dX7_empties_18 (tgt := 26) (by decide) ⟨by omega, by omega⟩ (fun wh3 => ?_) (fun wh3 => ?_)
    · refine aw_b kX7_ok bX7_empties_26_ok (Cs := []) (pc' := 33) (L' := [some (aR 21 0), some (aI f)]) (st' := [aI (-4), aI (8 + f), aR 21 0]) (σ' := σ) rfl trivial ?_
      refine aw_fV lX7_167 (as := [aI (8 + f), aI (-4)]) (rest := []) (t := 21) (c := 0) (by decide) (by decide) (by decide) rfl rfl (Nat.le_of_ble_eq_true rfl) rfl dX7_empties_33 (cM_sets l (8 + f) (-4) σ (by omega) (by omega)) ?_
      exact aw_iret dX7_empties_36 rfl ⟨aret (by unfold A_empties; rw [if_pos (by omega), if_neg (by omega)]), by unfold R_empties; rw [if_pos (by omega)]; unfold emR; rw [if_pos (by omega)]⟩
    · refine aw_b kX7_ok bX7_empties_21_ok (Cs := []) (pc' := 36) (L' := [some (aR 21 0), some (aI f)]) (st' := [aI (-3)]) (σ' := σ) rfl trivial ?_
      exact aw_iret dX7_empties_36 rfl ⟨aret (by unfold A_empties; (first | rw [if_neg (by omega)] | rw [if_pos (by omega), if_neg (by omega)] | rw [if_pos (by omega), if_pos (by omega)])), by unfold R_empties; rw [if_neg (by omega), aRow_id]⟩
  · refine aw_ine dX7_empties_4 (tgt := 9) (by decide) ⟨by omega, by omega⟩ (fun wh4 => absurd wh4 (by decide)) (fun wh4 => ?_)
    refine aw_b kX7_ok bX7_empties_7_ok (Cs := []) (pc' := 8) (L' := [some (aR 21 0), some (aI f)]) (st' := [aI (-1)]) (σ' := σ) rfl trivial ?_
    exact aw_iret dX7_empties_8 rfl ⟨aret (by unfold A_empties; (first | rw [if_neg (by omega)] | rw [if_pos (by omega), if_neg (by omega)] | rw [if_pos (by omega), if_pos (by omega)])), by unfold R_empties; rw [if_neg (by omega), aRow_id]⟩
set_option maxRecDepth 10000 in
theorem cM_wears (l : Launch) (f k : Int) (σ : aS) (hw : WF (σ 22 0)) (hf : aIr f) (hk : aIr k) : AM l 2 mX7_wears [aR 21 0, aI f, aI k] σ (aF (some (aI (A_wears (σ 22 0) f k))) (aRow σ 0 (R_wears (σ 22 0) f k))) := by
  have bn := hw.1
  have b1 := hw.2.1
  have b2 := hw.2.2.1
  refine am_of (by decide) (Nat.le_of_ble_eq_true rfl) (L := [some (aR 21 0), some (aI f), some (aI k)]) rfl ?_
  refine aw_b kX7_ok bX7_wears_0_ok (Cs := []) (pc' := 1) (L' := [some (aR 21 0), some (aI f), some (aI k)]) (st' := [aI f]) (σ' := σ) rfl trivial ?_
  refine aw_bS lX7_125 (as := [aI f]) (rest := []) (by decide) rfl (Nat.le_of_ble_eq_true rfl) rfl dX7_wears_1 (cM_isOffice l f σ ⟨by omega, by omega⟩) (fun wh1 => ?_) (fun wh1 => ?_)
  · refine aw_ieq dX7_wears_4 (tgt := 28) (by decide) ⟨by omega, by omega⟩ (fun wh2 => absurd wh2 (by decide)) (fun wh2 => ?_)
    refine aw_b kX7_ok bX7_wears_7_ok (Cs := []) (pc' := 11) (L' := [some (aR 21 0), some (aI f), some (aI k)]) (st' := [aI 9, aI 0, aI k]) (σ' := σ) rfl trivial ?_
    refine aw_bS lX7_49 (as := [aI k, aI 0, aI 9]) (rest := []) (by decide) rfl (Nat.le_of_ble_eq_true rfl) rfl dX7_wears_11 (cM_isIn l k 0 9 σ ⟨by omega, by omega⟩ ⟨by omega, by omega⟩ ⟨by omega, by omega⟩) (fun wh3 => ?_) (fun wh3 => ?_)
    · refine aw_ieq dX7_wears_14 (tgt := 28) (by decide) ⟨by omega, by omega⟩ (fun wh4 => absurd wh4 (by decide)) (fun wh4 => ?_)
      refine aw_b kX7_ok bX7_wears_17_ok (Cs := []) (pc' := 22) (L' := [some (aR 21 0), some (aI f), some (aI k)]) (st' := [aI k, aI (3 + f), aR 21 0]) (σ' := σ) rfl trivial ?_
      refine aw_fV lX7_167 (as := [aI (3 + f), aI k]) (rest := []) (t := 21) (c := 0) (by decide) (by decide) (by decide) rfl rfl (Nat.le_of_ble_eq_true rfl) rfl dX7_wears_22 (cM_sets l (3 + f) k σ (by omega) (by omega)) ?_
      refine aw_b kX7_ok bX7_wears_25_ok (Cs := []) (pc' := 29) (L' := [some (aR 21 0), some (aI f), some (aI k)]) (st' := [aI (σ 22 0 (3 + f))]) (σ' := aRow σ 0 (rUp (σ 22 0) (3 + f) k)) rfl trivial ?_
      exact aw_iret dX7_wears_29 rfl ⟨aret (by unfold A_wears; rw [if_pos (by omega)]), by unfold R_wears; rw [if_pos (by omega)]⟩
    · refine aw_ieq dX7_wears_14 (tgt := 28) (by decide) ⟨by omega, by omega⟩ (fun wh5 => ?_) (fun wh5 => absurd wh5 (by decide))
      refine aw_b kX7_ok bX7_wears_28_ok (Cs := []) (pc' := 29) (L' := [some (aR 21 0), some (aI f), some (aI k)]) (st' := [aI (-1)]) (σ' := σ) rfl trivial ?_
      exact aw_iret dX7_wears_29 rfl ⟨aret (by unfold A_wears; (first | rw [if_neg (by omega)] | rw [if_pos (by omega), if_neg (by omega)] | rw [if_pos (by omega), if_pos (by omega)])), by unfold R_wears; rw [if_neg (by omega), aRow_id]⟩
  · refine aw_ieq dX7_wears_4 (tgt := 28) (by decide) ⟨by omega, by omega⟩ (fun wh6 => ?_) (fun wh6 => absurd wh6 (by decide))
    refine aw_b kX7_ok bX7_wears_28_ok (Cs := []) (pc' := 29) (L' := [some (aR 21 0), some (aI f), some (aI k)]) (st' := [aI (-1)]) (σ' := σ) rfl trivial ?_
    exact aw_iret dX7_wears_29 rfl ⟨aret (by unfold A_wears; (first | rw [if_neg (by omega)] | rw [if_pos (by omega), if_neg (by omega)] | rw [if_pos (by omega), if_pos (by omega)])), by unfold R_wears; rw [if_neg (by omega), aRow_id]⟩
set_option maxRecDepth 10000 in
theorem cM_knows (l : Launch) (p k : Int) (σ : aS) (hw : WF (σ 22 0)) (hp : aIr p) (hk : aIr k) : AM l 2 mX7_knows [aR 21 0, aI p, aI k] σ (aF (some (aI (A_knows (σ 22 0) p k))) (aRow σ 0 (R_knows (σ 22 0) p k))) := by
  have bn := hw.1
  have b1 := hw.2.1
  have b2 := hw.2.2.1
  refine am_of (by decide) (Nat.le_of_ble_eq_true rfl) (L := [some (aR 21 0), some (aI p), some (aI k)]) rfl ?_
  refine aw_b kX7_ok bX7_knows_0_ok (Cs := []) (pc' := 2) (L' := [some (aR 21 0), some (aI p), some (aI k)]) (st' := [aI p, aR 21 0]) (σ' := σ) rfl trivial ?_
  refine aw_bV lX7_128 (as := [aI p]) (rest := []) (t := 21) (c := 0) (by decide) (by decide) (by decide) rfl rfl (Nat.le_of_ble_eq_true rfl) rfl dX7_knows_2 (cM_isOne l p σ ⟨by omega, by omega⟩ (by omega)) (fun wh1 => ?_) (fun wh1 => ?_)
  · refine aw_ieq dX7_knows_5 (tgt := 31) (by decide) ⟨by omega, by omega⟩ (fun wh2 => absurd wh2 (by decide)) (fun wh2 => ?_)
    refine aw_b kX7_ok bX7_knows_8_ok (Cs := []) (pc' := 12) (L' := [some (aR 21 0), some (aI p), some (aI k)]) (st' := [aI 99, aI 0, aI k]) (σ' := σ) rfl trivial ?_
    refine aw_bS lX7_49 (as := [aI k, aI 0, aI 99]) (rest := []) (by decide) rfl (Nat.le_of_ble_eq_true rfl) rfl dX7_knows_12 (cM_isIn l k 0 99 σ ⟨by omega, by omega⟩ ⟨by omega, by omega⟩ ⟨by omega, by omega⟩) (fun wh3 => ?_) (fun wh3 => ?_)
    · refine aw_ieq dX7_knows_15 (tgt := 31) (by decide) ⟨by omega, by omega⟩ (fun wh4 => absurd wh4 (by decide)) (fun wh4 => ?_)
      refine aw_b kX7_ok bX7_knows_18_ok (Cs := []) (pc' := 21) (L' := [some (aR 21 0), some (aI p), some (aI k)]) (st' := [aI 2, aI p, aR 21 0]) (σ' := σ) rfl trivial ?_
      refine aw_fS lX7_57 (as := [aI p, aI 2]) (rest := [aR 21 0]) (by decide) rfl (Nat.le_of_ble_eq_true rfl) rfl dX7_knows_21 (cM_of l p 2 σ) ?_
      have ba := aOf_rng (p := p) (w := 2) (by omega) (by omega) (by decide) (by decide)
      refine aw_b kX7_ok bX7_knows_24_ok (Cs := []) (pc' := 25) (L' := [some (aR 21 0), some (aI p), some (aI k)]) (st' := [aI k, aI (aOf p 2), aR 21 0]) (σ' := σ) rfl trivial ?_
      refine aw_fV lX7_167 (as := [aI (aOf p 2), aI k]) (rest := []) (t := 21) (c := 0) (by decide) (by decide) (by decide) rfl rfl (Nat.le_of_ble_eq_true rfl) rfl dX7_knows_25 (cM_sets l (aOf p 2) k σ (by omega) (by omega)) ?_
      refine aw_b kX7_ok bX7_knows_28_ok (Cs := []) (pc' := 32) (L' := [some (aR 21 0), some (aI p), some (aI k)]) (st' := [aI (σ 22 0 (aOf p 2))]) (σ' := aRow σ 0 (rUp (σ 22 0) (aOf p 2) k)) rfl trivial ?_
      exact aw_iret dX7_knows_32 rfl ⟨aret (by unfold A_knows; rw [if_pos (by omega)]), by unfold R_knows; rw [if_pos (by omega)]⟩
    · refine aw_ieq dX7_knows_15 (tgt := 31) (by decide) ⟨by omega, by omega⟩ (fun wh5 => ?_) (fun wh5 => absurd wh5 (by decide))
      refine aw_b kX7_ok bX7_knows_31_ok (Cs := []) (pc' := 32) (L' := [some (aR 21 0), some (aI p), some (aI k)]) (st' := [aI (-1)]) (σ' := σ) rfl trivial ?_
      exact aw_iret dX7_knows_32 rfl ⟨aret (by unfold A_knows; (first | rw [if_neg (by omega)] | rw [if_pos (by omega), if_neg (by omega)] | rw [if_pos (by omega), if_pos (by omega)])), by unfold R_knows; rw [if_neg (by omega), aRow_id]⟩
  · refine aw_ieq dX7_knows_5 (tgt := 31) (by decide) ⟨by omega, by omega⟩ (fun wh6 => ?_) (fun wh6 => absurd wh6 (by decide))
    refine aw_b kX7_ok bX7_knows_31_ok (Cs := []) (pc' := 32) (L' := [some (aR 21 0), some (aI p), some (aI k)]) (st' := [aI (-1)]) (σ' := σ) rfl trivial ?_
    exact aw_iret dX7_knows_32 rfl ⟨aret (by unfold A_knows; (first | rw [if_neg (by omega)] | rw [if_pos (by omega), if_neg (by omega)] | rw [if_pos (by omega), if_pos (by omega)])), by unfold R_knows; rw [if_neg (by omega), aRow_id]⟩
set_option maxRecDepth 10000 in
theorem cM_marries (l : Launch) (p k : Int) (σ : aS) (hw : WF (σ 22 0)) (hp : aIr p) (hk : aIr k) : AM l 2 mX7_marries [aR 21 0, aI p, aI k] σ (aF (some (aI (A_marries (σ 22 0) p k))) (aRow σ 0 (R_marries (σ 22 0) p k))) := by
  have bn := hw.1
  have b1 := hw.2.1
  have b2 := hw.2.2.1
  refine am_of (by decide) (Nat.le_of_ble_eq_true rfl) (L := [some (aR 21 0), some (aI p), some (aI k)]) rfl ?_
  refine aw_b kX7_ok bX7_marries_0_ok (Cs := []) (pc' := 2) (L' := [some (aR 21 0), some (aI p), some (aI k)]) (st' := [aI p, aR 21 0]) (σ' := σ) rfl trivial ?_
  refine aw_bV lX7_128 (as := [aI p]) (rest := []) (t := 21) (c := 0) (by decide) (by decide) (by decide) rfl rfl (Nat.le_of_ble_eq_true rfl) rfl dX7_marries_2 (cM_isOne l p σ ⟨by omega, by omega⟩ (by omega)) (fun wh1 => ?_) (fun wh1 => ?_)
  · refine aw_ieq dX7_marries_5 (tgt := 28) (by decide) ⟨by omega, by omega⟩ (fun wh2 => absurd wh2 (by decide)) (fun wh2 => ?_)
    refine aw_b kX7_ok bX7_marries_8_ok (Cs := []) (pc' := 9) (L' := [some (aR 21 0), some (aI p), some (aI k)]) (st' := [aI k]) (σ' := σ) rfl trivial ?_
    refine aw_bS lX7_117 (as := [aI k]) (rest := []) (by decide) rfl (Nat.le_of_ble_eq_true rfl) rfl dX7_marries_9 (cM_isMate l k σ ⟨by omega, by omega⟩) (fun wh3 => ?_) (fun wh3 => ?_)
    · refine aw_ieq dX7_marries_12 (tgt := 28) (by decide) ⟨by omega, by omega⟩ (fun wh4 => absurd wh4 (by decide)) (fun wh4 => ?_)
      refine aw_b kX7_ok bX7_marries_15_ok (Cs := []) (pc' := 18) (L' := [some (aR 21 0), some (aI p), some (aI k)]) (st' := [aI 3, aI p, aR 21 0]) (σ' := σ) rfl trivial ?_
      refine aw_fS lX7_57 (as := [aI p, aI 3]) (rest := [aR 21 0]) (by decide) rfl (Nat.le_of_ble_eq_true rfl) rfl dX7_marries_18 (cM_of l p 3 σ) ?_
      have ba := aOf_rng (p := p) (w := 3) (by omega) (by omega) (by decide) (by decide)
      refine aw_b kX7_ok bX7_marries_21_ok (Cs := []) (pc' := 22) (L' := [some (aR 21 0), some (aI p), some (aI k)]) (st' := [aI k, aI (aOf p 3), aR 21 0]) (σ' := σ) rfl trivial ?_
      refine aw_fV lX7_167 (as := [aI (aOf p 3), aI k]) (rest := []) (t := 21) (c := 0) (by decide) (by decide) (by decide) rfl rfl (Nat.le_of_ble_eq_true rfl) rfl dX7_marries_22 (cM_sets l (aOf p 3) k σ (by omega) (by omega)) ?_
      refine aw_b kX7_ok bX7_marries_25_ok (Cs := []) (pc' := 29) (L' := [some (aR 21 0), some (aI p), some (aI k)]) (st' := [aI (σ 22 0 (aOf p 3))]) (σ' := aRow σ 0 (rUp (σ 22 0) (aOf p 3) k)) rfl trivial ?_
      exact aw_iret dX7_marries_29 rfl ⟨aret (by unfold A_marries; rw [if_pos (by omega)]), by unfold R_marries; rw [if_pos (by omega)]⟩
    · refine aw_ieq dX7_marries_12 (tgt := 28) (by decide) ⟨by omega, by omega⟩ (fun wh5 => ?_) (fun wh5 => absurd wh5 (by decide))
      refine aw_b kX7_ok bX7_marries_28_ok (Cs := []) (pc' := 29) (L' := [some (aR 21 0), some (aI p), some (aI k)]) (st' := [aI (-1)]) (σ' := σ) rfl trivial ?_
      exact aw_iret dX7_marries_29 rfl ⟨aret (by unfold A_marries; (first | rw [if_neg (by omega)] | rw [if_pos (by omega), if_neg (by omega)] | rw [if_pos (by omega), if_pos (by omega)])), by unfold R_marries; rw [if_neg (by omega), aRow_id]⟩
  · refine aw_ieq dX7_marries_5 (tgt := 28) (by decide) ⟨by omega, by omega⟩ (fun wh6 => ?_) (fun wh6 => absurd wh6 (by decide))
    refine aw_b kX7_ok bX7_marries_28_ok (Cs := []) (pc' := 29) (L' := [some (aR 21 0), some (aI p), some (aI k)]) (st' := [aI (-1)]) (σ' := σ) rfl trivial ?_
    exact aw_iret dX7_marries_29 rfl ⟨aret (by unfold A_marries; (first | rw [if_neg (by omega)] | rw [if_pos (by omega), if_neg (by omega)] | rw [if_pos (by omega), if_pos (by omega)])), by unfold R_marries; rw [if_neg (by omega), aRow_id]⟩
set_option maxRecDepth 10000 in
theorem cM_image (l : Launch) (σ : aS) (hw : WF (σ 22 0)) (hz : OZ (σ 22 2)) : AM l 1 mX7_image [aR 21 0] σ (aF (some (aI ((σ 22 0) 1))) (aUp (aRow σ 2 (σ 22 0)) 21 0 4 1)) := by
  refine am_of (by decide) (Nat.le_of_ble_eq_true rfl) (L := [some (aR 21 0)]) rfl ?_
  refine aw_b kX7_ok bX7_image_0_ok (Cs := [0 < 1, 0 < 1]) (pc' := 8) (L' := [some (aR 21 0)]) (st' := [aR 22 2, aR 22 0]) (σ' := σ) rfl (show (0 < 1) ∧ (0 < 1) from ⟨by omega, by omega⟩) ?_
  refine aw_fS lX7_145 (as := [aR 22 0, aR 22 2]) (rest := []) (by decide) rfl (Nat.le_of_ble_eq_true rfl) rfl dX7_image_8 (cM_copies l 0 2 (by decide) (by decide) σ (fun i hi => by rw [hz i hi, hw.oz i hi])) ?_
  refine aw_b kX7_ok bX7_image_11_ok (Cs := [0 < 1, 1 = 0 ∨ 1 = 1, 0 < 1, 0 < 4, 0 ≤ 1 ∧ 1 < 45]) (pc' := 22) (L' := [some (aR 21 0)]) (st' := [aI ((aUp (aRow σ 2 (σ 22 0)) 21 0 4 1) 22 0 1)]) (σ' := aUp (aRow σ 2 (σ 22 0)) 21 0 4 1) rfl (show (0 < 1) ∧ (1 = 0 ∨ 1 = 1) ∧ (0 < 1) ∧ (0 < 4) ∧ (0 ≤ 1 ∧ 1 < 45) from ⟨by omega, by omega, by omega, by omega, by omega⟩) ?_
  exact aw_iret dX7_image_22 rfl ⟨aret (by rw [aUp_tag (by decide), aRow_ne (by decide)]), rfl⟩
set_option maxRecDepth 10000 in
theorem cM_restore (l : Launch) (σ : aS) (hw : WF (σ 22 0)) (hz : OZ (σ 22 2)) (hp : σ 21 0 4 = 0 ∨ σ 21 0 4 = 1) : AM l 1 mX7_restore [aR 21 0] σ (aF (some (aI (if σ 21 0 4 = 0 then -3 else σ 22 2 1))) (aRow σ 0 (if σ 21 0 4 = 0 then (σ 22 0) else σ 22 2))) := by
  refine am_of (by decide) (Nat.le_of_ble_eq_true rfl) (L := [some (aR 21 0)]) rfl ?_
  refine aw_b kX7_ok bX7_restore_0_ok (Cs := [0 < 1]) (pc' := 4) (L' := [some (aR 21 0)]) (st' := [aI (σ 21 0 4)]) (σ' := σ) rfl (show 0 < 1 from by omega) ?_
  refine aw_ine dX7_restore_4 (tgt := 10) (by decide) ⟨by omega, by omega⟩ (fun wh1 => ?_) (fun wh1 => ?_)
  · refine aw_b kX7_ok bX7_restore_10_ok (Cs := [0 < 1, 0 < 1]) (pc' := 18) (L' := [some (aR 21 0)]) (st' := [aR 22 0, aR 22 2]) (σ' := σ) rfl (show (0 < 1) ∧ (0 < 1) from ⟨by omega, by omega⟩) ?_
    refine aw_fS lX7_145 (as := [aR 22 2, aR 22 0]) (rest := []) (by decide) rfl (Nat.le_of_ble_eq_true rfl) rfl dX7_restore_18 (cM_copies l 2 0 (by decide) (by decide) σ (fun i hi => by rw [hz i hi, hw.oz i hi])) ?_
    refine aw_b kX7_ok bX7_restore_21_ok (Cs := [0 < 1, 0 < 4, 0 ≤ 1 ∧ 1 < 45]) (pc' := 27) (L' := [some (aR 21 0)]) (st' := [aI ((aRow σ 0 (σ 22 2)) 22 0 1)]) (σ' := aRow σ 0 (σ 22 2)) rfl (show (0 < 1) ∧ (0 < 4) ∧ (0 ≤ 1 ∧ 1 < 45) from ⟨by omega, by omega, by omega⟩) ?_
    exact aw_iret dX7_restore_27 rfl ⟨aret (by rw [aRow_self, if_neg (by omega)]), by rw [if_neg (by omega)]⟩
  · refine aw_b kX7_ok bX7_restore_7_ok (Cs := []) (pc' := 9) (L' := [some (aR 21 0)]) (st' := [aI (-3)]) (σ' := σ) rfl trivial ?_
    exact aw_iret dX7_restore_9 rfl ⟨aret (by rw [if_pos (by omega)]), by rw [if_pos (by omega), aRow_id]⟩
set_option maxRecDepth 10000 in
theorem cM_adds (l : Launch) (k f m : Int) (σ : aS) (hw : WF (σ 22 0)) (h8 : σ 22 0 0 < 8) : AM l 1 mX7_adds [aR 21 0, aI k, aI f, aI m] σ (aF none (aRow σ 0 (adR (σ 22 0) k f m))) := by
  have bn := hw.1
  have ba0 := aOf_rng (p := σ 22 0 0) (w := 0) (by omega) (by omega) (by decide) (by decide)
  have ba1 := aOf_rng (p := σ 22 0 0) (w := 1) (by omega) (by omega) (by decide) (by decide)
  have ba2 := aOf_rng (p := σ 22 0 0) (w := 2) (by omega) (by omega) (by decide) (by decide)
  have ba3 := aOf_rng (p := σ 22 0 0) (w := 3) (by omega) (by omega) (by decide) (by decide)
  refine am_of (by decide) (Nat.le_of_ble_eq_true rfl) (L := [some (aR 21 0), some (aI k), some (aI f), some (aI m), none]) rfl ?_
  refine aw_b kX7_ok bX7_adds_0_ok (Cs := [0 < 1, 0 < 4, 0 ≤ 0 ∧ 0 < 45, 0 < 1]) (pc' := 15) (L' := [some (aR 21 0), some (aI k), some (aI f), some (aI m), some (aI (σ 22 0 0))]) (st' := [aI 0, aI (σ 22 0 0), aR 22 0]) (σ' := σ) rfl (show (0 < 1) ∧ (0 < 4) ∧ (0 ≤ 0 ∧ 0 < 45) ∧ (0 < 1) from ⟨by omega, by omega, by omega, by omega⟩) ?_
  refine aw_fS lX7_57 (as := [aI (σ 22 0 0), aI 0]) (rest := [aR 22 0]) (by decide) rfl (Nat.le_of_ble_eq_true rfl) rfl dX7_adds_15 (cM_of l (σ 22 0 0) 0 σ) ?_
  refine aw_b kX7_ok bX7_adds_18_ok (Cs := [0 < 4, 0 ≤ aOf (σ 22 0 0) 0 ∧ aOf (σ 22 0 0) 0 < 45, 0 < 1]) (pc' := 27) (L' := [some (aR 21 0), some (aI k), some (aI f), some (aI m), some (aI (σ 22 0 0))]) (st' := [aI 1, aI (σ 22 0 0), aR 22 0]) (σ' := aUp σ 22 0 (aOf (σ 22 0 0) 0) k) rfl (show (0 < 4) ∧ (0 ≤ aOf (σ 22 0 0) 0 ∧ aOf (σ 22 0 0) 0 < 45) ∧ (0 < 1) from ⟨by omega, by omega, by omega⟩) ?_
  refine aw_fS lX7_57 (as := [aI (σ 22 0 0), aI 1]) (rest := [aR 22 0]) (by decide) rfl (Nat.le_of_ble_eq_true rfl) rfl dX7_adds_27 (cM_of l (σ 22 0 0) 1 (aUp σ 22 0 (aOf (σ 22 0 0) 0) k)) ?_
  refine aw_b kX7_ok bX7_adds_30_ok (Cs := [0 < 4, 0 ≤ aOf (σ 22 0 0) 1 ∧ aOf (σ 22 0 0) 1 < 45, 0 < 1]) (pc' := 39) (L' := [some (aR 21 0), some (aI k), some (aI f), some (aI m), some (aI (σ 22 0 0))]) (st' := [aI 2, aI (σ 22 0 0), aR 22 0]) (σ' := aUp (aUp σ 22 0 (aOf (σ 22 0 0) 0) k) 22 0 (aOf (σ 22 0 0) 1) f) rfl (show (0 < 4) ∧ (0 ≤ aOf (σ 22 0 0) 1 ∧ aOf (σ 22 0 0) 1 < 45) ∧ (0 < 1) from ⟨by omega, by omega, by omega⟩) ?_
  refine aw_fS lX7_57 (as := [aI (σ 22 0 0), aI 2]) (rest := [aR 22 0]) (by decide) rfl (Nat.le_of_ble_eq_true rfl) rfl dX7_adds_39 (cM_of l (σ 22 0 0) 2 (aUp (aUp σ 22 0 (aOf (σ 22 0 0) 0) k) 22 0 (aOf (σ 22 0 0) 1) f)) ?_
  refine aw_b kX7_ok bX7_adds_42_ok (Cs := [0 < 4, 0 ≤ aOf (σ 22 0 0) 2 ∧ aOf (σ 22 0 0) 2 < 45, 0 < 1]) (pc' := 51) (L' := [some (aR 21 0), some (aI k), some (aI f), some (aI m), some (aI (σ 22 0 0))]) (st' := [aI 3, aI (σ 22 0 0), aR 22 0]) (σ' := aUp (aUp (aUp σ 22 0 (aOf (σ 22 0 0) 0) k) 22 0 (aOf (σ 22 0 0) 1) f) 22 0 (aOf (σ 22 0 0) 2) 0) rfl (show (0 < 4) ∧ (0 ≤ aOf (σ 22 0 0) 2 ∧ aOf (σ 22 0 0) 2 < 45) ∧ (0 < 1) from ⟨by omega, by omega, by omega⟩) ?_
  refine aw_fS lX7_57 (as := [aI (σ 22 0 0), aI 3]) (rest := [aR 22 0]) (by decide) rfl (Nat.le_of_ble_eq_true rfl) rfl dX7_adds_51 (cM_of l (σ 22 0 0) 3 (aUp (aUp (aUp σ 22 0 (aOf (σ 22 0 0) 0) k) 22 0 (aOf (σ 22 0 0) 1) f) 22 0 (aOf (σ 22 0 0) 2) 0)) ?_
  refine aw_b kX7_ok bX7_adds_54_ok (Cs := [0 < 4, 0 ≤ aOf (σ 22 0 0) 3 ∧ aOf (σ 22 0 0) 3 < 45, 0 < 1, 0 < 4, 0 ≤ 0 ∧ 0 < 45, 0 < 4, 0 ≤ 0 ∧ 0 < 45]) (pc' := 66) (L' := [some (aR 21 0), some (aI k), some (aI f), some (aI m), some (aI (σ 22 0 0))]) (st' := []) (σ' := aUp (aUp (aUp (aUp (aUp σ 22 0 (aOf (σ 22 0 0) 0) k) 22 0 (aOf (σ 22 0 0) 1) f) 22 0 (aOf (σ 22 0 0) 2) 0) 22 0 (aOf (σ 22 0 0) 3) m) 22 0 0 (((aUp (aUp (aUp (aUp σ 22 0 (aOf (σ 22 0 0) 0) k) 22 0 (aOf (σ 22 0 0) 1) f) 22 0 (aOf (σ 22 0 0) 2) 0) 22 0 (aOf (σ 22 0 0) 3) m) 22 0 0) + 1)) rfl (show (0 < 4) ∧ (0 ≤ aOf (σ 22 0 0) 3 ∧ aOf (σ 22 0 0) 3 < 45) ∧ (0 < 1) ∧ (0 < 4) ∧ (0 ≤ 0 ∧ 0 < 45) ∧ (0 < 4) ∧ (0 ≤ 0 ∧ 0 < 45) from ⟨by omega, by omega, by omega, by omega, by omega, by omega, by omega⟩) ?_
  exact aw_vret dX7_adds_66 rfl ⟨rfl, by unfold adR; rw [show aUp (aUp (aUp (aUp σ 22 0 (aOf (σ 22 0 0) 0) k) 22 0 (aOf (σ 22 0 0) 1) f) 22 0 (aOf (σ 22 0 0) 2) 0) 22 0 (aOf (σ 22 0 0) 3) m 22 0 0 = σ 22 0 0 by rw [aUp_idx (by omega), aUp_idx (by omega), aUp_idx (by omega), aUp_idx (by omega)]]; rw [aUp_row (σ := σ), aUp_row2, aUp_row2, aUp_row2, aUp_row2]⟩
set_option maxRecDepth 10000 in
theorem cM_comes (l : Launch) (d m : Int) (σ : aS) (hw : WF (σ 22 0)) (hs : MSH σ) (hd2 : aIr d) (hm : aIr m) : AM l 3 mX7_comes [aR 21 0, aI d, aI m] σ (aF (some (aI (A_comes (σ 22 0) (σ 26 0 d) d m))) (aRow σ 0 (R_comes (σ 22 0) (σ 26 0 d) (σ 27 0 d) (σ 28 0 d) d m))) := by
  have bn := hw.1
  have b1 := hw.2.1
  have b2 := hw.2.2.1
  have blk := lkF_rng (σ 26 0 d) d 1
  refine am_of (by decide) (Nat.le_of_ble_eq_true rfl) (L := [some (aR 21 0), some (aI d), some (aI m), none]) rfl ?_
  refine aw_b kX7_ok bX7_comes_0_ok (Cs := []) (pc' := 1) (L' := [some (aR 21 0), some (aI d), some (aI m), none]) (st' := [aI m]) (σ' := σ) rfl trivial ?_
  refine aw_bS lX7_117 (as := [aI m]) (rest := []) (by decide) rfl (Nat.le_of_ble_eq_true rfl) rfl dX7_comes_1 (cM_isMate l m σ ⟨by omega, by omega⟩) (fun wh1 => ?_) (fun wh1 => ?_)
  · refine aw_ine dX7_comes_4 (tgt := 9) (by decide) ⟨by omega, by omega⟩ (fun wh2 => ?_) (fun wh2 => absurd wh2 (by decide))
    refine aw_b kX7_ok bX7_comes_9_ok (Cs := []) (pc' := 11) (L' := [some (aR 21 0), some (aI d), some (aI m), none]) (st' := [aI d, aR 21 0]) (σ' := σ) rfl trivial ?_
    refine aw_fV lX7_164 (as := [aI d]) (rest := []) (t := 21) (c := 0) (by decide) (by decide) (by decide) rfl rfl (Nat.le_of_ble_eq_true rfl) rfl dX7_comes_11 (cM_wrongKept l d σ hs ⟨by omega, by omega⟩) ?_
    have blk := lkF_rng (σ 26 0 d) d 1
    refine aw_b kX7_ok bX7_comes_14_ok (Cs := []) (pc' := 16) (L' := [some (aR 21 0), some (aI d), some (aI m), some (aI (lkF (σ 26 0 d) d 1))]) (st' := [aI (lkF (σ 26 0 d) d 1)]) (σ' := σ) rfl trivial ?_
    refine aw_ieq dX7_comes_16 (tgt := 21) (by decide) ⟨by omega, by omega⟩ (fun wh3 => ?_) (fun wh3 => ?_)
    · have hl := lkF_d (show lkF (σ 26 0 d) d 1 = 0 by omega)
      have bs := hs.1 d hl.1.1 hl.1.2
      have bk := bs.2.1 hl.2
      refine aw_b kX7_ok bX7_comes_21_ok (Cs := [0 < 1, 0 < 4, 0 ≤ 0 ∧ 0 < 45]) (pc' := 29) (L' := [some (aR 21 0), some (aI d), some (aI m), some (aI (lkF (σ 26 0 d) d 1))]) (st' := [aI 8, aI (σ 22 0 0)]) (σ' := σ) rfl (show (0 < 1) ∧ (0 < 4) ∧ (0 ≤ 0 ∧ 0 < 45) from ⟨by omega, by omega, by omega⟩) ?_
      refine aw_cne dX7_comes_29 (tgt := 35) (by decide) ⟨by omega, by omega⟩ ⟨by omega, by omega⟩ (fun wh4 => ?_) (fun wh4 => ?_)
      · refine aw_b kX7_ok bX7_comes_35_ok (Cs := [0 < 1, 0 < 1, 0 ≤ d ∧ d < 8, 0 < 1, 0 < 1, 0 ≤ d ∧ d < 8]) (pc' := 49) (L' := [some (aR 21 0), some (aI d), some (aI m), some (aI (lkF (σ 26 0 d) d 1))]) (st' := [aI m, aI (σ 28 0 d), aI (σ 27 0 d), aR 21 0]) (σ' := σ) rfl (show (0 < 1) ∧ (0 < 1) ∧ (0 ≤ d ∧ d < 8) ∧ (0 < 1) ∧ (0 < 1) ∧ (0 ≤ d ∧ d < 8) from ⟨by omega, by omega, by omega, by omega, by omega, by omega⟩) ?_
        have e9 := adR_new hw (σ 27 0 d) (σ 28 0 d) m
        refine aw_fV lX7_121 (as := [aI (σ 27 0 d), aI (σ 28 0 d), aI m]) (rest := []) (t := 21) (c := 0) (by decide) (by decide) (by decide) rfl rfl (Nat.le_of_ble_eq_true rfl) rfl dX7_comes_49 (cM_adds l (σ 27 0 d) (σ 28 0 d) m σ hw (by omega)) ?_
        refine aw_b kX7_ok bX7_comes_52_ok (Cs := [0 < 1, 0 < 4, 0 ≤ 0 ∧ 0 < 45]) (pc' := 60) (L' := [some (aR 21 0), some (aI d), some (aI m), some (aI (lkF (σ 26 0 d) d 1))]) (st' := [aI (((aRow σ 0 (adR (σ 22 0) (σ 27 0 d) (σ 28 0 d) m)) 22 0 0) - 1)]) (σ' := aRow σ 0 (adR (σ 22 0) (σ 27 0 d) (σ 28 0 d) m)) rfl (show (0 < 1) ∧ (0 < 4) ∧ (0 ≤ 0 ∧ 0 < 45) from ⟨by omega, by omega, by omega⟩) ?_
        exact aw_iret dX7_comes_60 rfl ⟨aret (by rw [aRow_self, e9.1]; unfold A_comes; rw [if_pos (by omega), if_pos (by omega), if_pos (by omega)]; omega), by unfold R_comes; rw [if_pos (by omega)]⟩
      · refine aw_b kX7_ok bX7_comes_32_ok (Cs := []) (pc' := 34) (L' := [some (aR 21 0), some (aI d), some (aI m), some (aI (lkF (σ 26 0 d) d 1))]) (st' := [aI (-2)]) (σ' := σ) rfl trivial ?_
        exact aw_iret dX7_comes_34 rfl ⟨aret (by unfold A_comes; rw [if_pos (by omega), if_pos (by omega), if_neg (by omega)]), by unfold R_comes; rw [if_neg (by omega), aRow_id]⟩
    · refine aw_b kX7_ok bX7_comes_19_ok (Cs := []) (pc' := 20) (L' := [some (aR 21 0), some (aI d), some (aI m), some (aI (lkF (σ 26 0 d) d 1))]) (st' := [aI (lkF (σ 26 0 d) d 1)]) (σ' := σ) rfl trivial ?_
      exact aw_iret dX7_comes_20 rfl ⟨aret (if hsh : 0 ≤ d ∧ d < 8 then (by unfold A_comes; rw [if_pos (by omega), if_neg (by omega)]) else (by unfold A_comes; rw [if_neg (by omega)]; unfold lkF; rw [if_neg hsh])), by unfold R_comes; rw [if_neg (by omega), aRow_id]⟩
  · refine aw_ine dX7_comes_4 (tgt := 9) (by decide) ⟨by omega, by omega⟩ (fun wh5 => absurd wh5 (by decide)) (fun wh5 => ?_)
    refine aw_b kX7_ok bX7_comes_7_ok (Cs := []) (pc' := 8) (L' := [some (aR 21 0), some (aI d), some (aI m), none]) (st' := [aI (-1)]) (σ' := σ) rfl trivial ?_
    exact aw_iret dX7_comes_8 rfl ⟨aret (by unfold A_comes; rw [if_neg (by omega)]), by unfold R_comes; rw [if_neg (by omega), aRow_id]⟩
def MS_keep (σ : aS) (d w k f : Int) : aS := if (0 ≤ d ∧ d < 8) ∧ (w = 0 ∨ (w = 1 ∧ (0 ≤ k ∧ k < 8) ∧ (0 ≤ f ∧ f < 10))) then aUp (aUp (aUp σ 26 0 d w) 27 0 d k) 28 0 d f else σ
def mplR (σ : aS) (d s n : Int) (k : Nat) : aS := fun t c i => if t = 31 ∧ c = 0 ∧ 100 * d ≤ i ∧ i < 100 * d + (k : Int) then 0 else aUp (aUp (aUp σ 26 0 d 2) 29 0 d s) 30 0 d n t c i
theorem mplR_0 (σ : aS) (d s n : Int) : mplR σ d s n 0 = aUp (aUp (aUp σ 26 0 d 2) 29 0 d s) 30 0 d n := by
  funext t c i; unfold mplR; rw [if_neg (by omega)]
theorem mplR_s (σ : aS) (d s n : Int) (k : Nat) : aUp (mplR σ d s n k) 31 0 (100 * d + (k : Int)) 0 = mplR σ d s n (k + 1) := by
  funext t c i
  by_cases h : t = 31 ∧ c = 0 ∧ i = 100 * d + (k : Int)
  · obtain ⟨rfl, rfl, rfl⟩ := h
    rw [aUp_same]
    unfold mplR
    rw [if_pos (by omega)]
  · have e : aUp (mplR σ d s n k) 31 0 (100 * d + (k : Int)) 0 t c i = mplR σ d s n k t c i := if_neg h
    rw [e]
    unfold mplR
    by_cases h2 : t = 31 ∧ c = 0 ∧ 100 * d ≤ i ∧ i < 100 * d + (k : Int)
    · rw [if_pos h2, if_pos (by omega)]
    · rw [if_neg h2, if_neg (by omega)]
def MS_row (σ : aS) (d s n : Int) : aS := if (0 ≤ d ∧ d < 8) ∧ (0 ≤ s ∧ s ≤ 2) ∧ n ≤ 100 ∧ 0 ≤ n then mplR σ d s n 100 else σ
def MA_put (ct ln d i : Int) : Int := if lkF ct d 2 = 0 then (if 0 ≤ i ∧ i < ln then 0 else -13) else lkF ct d 2
def MS_put (σ : aS) (d i v : Int) : aS := if lkF (σ 26 0 d) d 2 = 0 ∧ 0 ≤ i ∧ i < σ 30 0 d then aUp σ 31 0 (100 * d + i) (cuF (σ 29 0 d) v) else σ
def MS_copy (σ : aS) (d i e j n : Int) : aS := if ((0 ≤ d ∧ d < 8) ∧ (0 ≤ e ∧ e < 8)) ∧ (σ 26 0 d = 2 ∧ σ 26 0 e = 2 ∧ σ 29 0 d = σ 29 0 e) ∧ (0 ≤ n ∧ 0 ≤ i ∧ 0 ≤ j ∧ i ≤ σ 30 0 d - n ∧ j ≤ σ 30 0 e - n) then aCp σ 31 0 (100 * d + i) (100 * e + j) n else σ
def A_toss (ct kd fg d : Int) : Int := if lkF ct d 1 = 0 then (if kd = 1 ∨ kd = 3 ∨ kd = 6 ∨ fg = 0 then -15 else if kd = 7 then 299 else if kd = 2 ∨ kd = 4 then 100 + fg else fg) else lkF ct d 1
def thF (ct ln d i : Int) : Int := if 0 ≤ d ∧ d < 8 then (if ct = 2 ∧ 0 ≤ i ∧ i < ln then 0 else 2) else 1
theorem aCp_0 (σ : aS) (t c : Nat) (s d : Int) : aCp σ t c s d 0 = σ := by
  funext t' c' i
  exact if_neg (by omega)
theorem aCp_f (σ : aS) (t c : Nat) (s d : Int) (k : Nat) : aUp (aCp σ t c s d k) t c (d + k) (σ t c (s + k)) = aCp σ t c s d ((k : Int) + 1) := by
  funext t' c' i
  unfold aUp aCp
  by_cases h : t' = t ∧ c' = c ∧ i = d + k
  · obtain ⟨rfl, rfl, rfl⟩ := h
    rw [if_pos ⟨rfl, rfl, rfl⟩, if_pos ⟨rfl, rfl, by omega, by omega⟩, show s + (d + k - d) = s + k by omega]
  · rw [if_neg h]
    by_cases h2 : t' = t ∧ c' = c ∧ d ≤ i ∧ i < d + k
    · rw [if_pos h2, if_pos ⟨h2.1, h2.2.1, h2.2.2.1, by omega⟩]
    · rw [if_neg h2, if_neg (fun q => h2 ⟨q.1, q.2.1, q.2.2.1, by have : i ≠ d + k := fun z => h ⟨q.1, q.2.1, z⟩; omega⟩)]
theorem aCp_b (σ : aS) (t c : Nat) (s d : Int) (k : Nat) : aUp (aCp σ t c (s + 1) (d + 1) k) t c d (σ t c s) = aCp σ t c s d ((k : Int) + 1) := by
  funext t' c' i
  unfold aUp aCp
  by_cases h : t' = t ∧ c' = c ∧ i = d
  · obtain ⟨rfl, rfl, rfl⟩ := h
    rw [if_pos ⟨rfl, rfl, rfl⟩, if_pos ⟨rfl, rfl, by omega, by omega⟩, show s + (i - i) = s by omega]
  · rw [if_neg h]
    by_cases h2 : t' = t ∧ c' = c ∧ d + 1 ≤ i ∧ i < d + 1 + k
    · rw [if_pos h2, if_pos ⟨h2.1, h2.2.1, by omega, by omega⟩, show s + 1 + (i - (d + 1)) = s + (i - d) by omega]
    · rw [if_neg h2, if_neg (fun q => h2 ⟨q.1, q.2.1, by have : i ≠ d := fun z => h ⟨q.1, q.2.1, z⟩; omega, by omega⟩)]
theorem aCp_rd {σ : aS} {t c : Nat} {s d n i : Int} (h : i < d ∨ d + n ≤ i) : aCp σ t c s d n t c i = σ t c i := if_neg (by omega)
set_option maxRecDepth 10000 in
theorem cM_keep (l : Launch) (d w k f : Int) (σ : aS) (hd : aIr d) (hv : aIr w) (hk : aIr k) (hf : aIr f) : AM l 2 mX7_keep [aR 21 0, aI d, aI w, aI k, aI f] σ (aF (some (aI (A_keep d w k f))) (MS_keep σ d w k f)) := by
  refine am_of (by decide) (Nat.le_of_ble_eq_true rfl) (L := [some (aR 21 0), some (aI d), some (aI w), some (aI k), some (aI f)]) rfl ?_
  refine aw_b kX7_ok bX7_keep_0_ok (Cs := []) (pc' := 1) (L' := [some (aR 21 0), some (aI d), some (aI w), some (aI k), some (aI f)]) (st' := [aI d]) (σ' := σ) rfl trivial ?_
  refine aw_bS lX7_256 (as := [aI d]) (rest := []) (by decide) rfl (Nat.le_of_ble_eq_true rfl) rfl dX7_keep_1 (cM_isShelf l d σ ⟨by omega, by omega⟩) (fun wh1 => ?_) (fun wh1 => ?_)
  · refine aw_ieq dX7_keep_4 (tgt := 42) (by decide) ⟨by omega, by omega⟩ (fun wh2 => absurd wh2 (by decide)) (fun wh2 => ?_)
    refine aw_b kX7_ok bX7_keep_7_ok (Cs := []) (pc' := 10) (L' := [some (aR 21 0), some (aI d), some (aI w), some (aI k), some (aI f)]) (st' := [aI 1, aI 0, aI w]) (σ' := σ) rfl trivial ?_
    refine aw_bS lX7_49 (as := [aI w, aI 0, aI 1]) (rest := []) (by decide) rfl (Nat.le_of_ble_eq_true rfl) rfl dX7_keep_10 (cM_isIn l w 0 1 σ ⟨by omega, by omega⟩ ⟨by omega, by omega⟩ ⟨by omega, by omega⟩) (fun wh3 => ?_) (fun wh3 => ?_)
    · refine aw_ieq dX7_keep_13 (tgt := 42) (by decide) ⟨by omega, by omega⟩ (fun wh4 => absurd wh4 (by decide)) (fun wh4 => ?_)
      refine aw_b kX7_ok bX7_keep_16_ok (Cs := []) (pc' := 18) (L' := [some (aR 21 0), some (aI d), some (aI w), some (aI k), some (aI f)]) (st' := [aI 1, aI w]) (σ' := σ) rfl trivial ?_
      refine aw_cne dX7_keep_18 (tgt := 44) (by decide) ⟨by omega, by omega⟩ ⟨by omega, by omega⟩ (fun wh5 => ?_) (fun wh5 => ?_)
      · refine aw_b kX7_ok bX7_keep_44_ok (Cs := [0 < 1, 0 < 1, 0 ≤ d ∧ d < 8, 0 < 1, 0 < 1, 0 ≤ d ∧ d < 8, 0 < 1, 0 < 1, 0 ≤ d ∧ d < 8]) (pc' := 67) (L' := [some (aR 21 0), some (aI d), some (aI w), some (aI k), some (aI f)]) (st' := [aI 0]) (σ' := aUp (aUp (aUp σ 26 0 d w) 27 0 d k) 28 0 d f) rfl (show (0 < 1) ∧ (0 < 1) ∧ (0 ≤ d ∧ d < 8) ∧ (0 < 1) ∧ (0 < 1) ∧ (0 ≤ d ∧ d < 8) ∧ (0 < 1) ∧ (0 < 1) ∧ (0 ≤ d ∧ d < 8) from ⟨by omega, by omega, by omega, by omega, by omega, by omega, by omega, by omega, by omega⟩) ?_
        exact aw_iret dX7_keep_67 rfl ⟨aret (by unfold A_keep; rw [if_pos (by omega)]), by unfold MS_keep; rw [if_pos (by omega)]⟩
      · refine aw_b kX7_ok bX7_keep_21_ok (Cs := []) (pc' := 25) (L' := [some (aR 21 0), some (aI d), some (aI w), some (aI k), some (aI f)]) (st' := [aI 7, aI 0, aI k]) (σ' := σ) rfl trivial ?_
        refine aw_bS lX7_49 (as := [aI k, aI 0, aI 7]) (rest := []) (by decide) rfl (Nat.le_of_ble_eq_true rfl) rfl dX7_keep_25 (cM_isIn l k 0 7 σ ⟨by omega, by omega⟩ ⟨by omega, by omega⟩ ⟨by omega, by omega⟩) (fun wh6 => ?_) (fun wh6 => ?_)
        · refine aw_ieq dX7_keep_28 (tgt := 42) (by decide) ⟨by omega, by omega⟩ (fun wh7 => absurd wh7 (by decide)) (fun wh7 => ?_)
          refine aw_b kX7_ok bX7_keep_31_ok (Cs := []) (pc' := 36) (L' := [some (aR 21 0), some (aI d), some (aI w), some (aI k), some (aI f)]) (st' := [aI 9, aI 0, aI f]) (σ' := σ) rfl trivial ?_
          refine aw_bS lX7_49 (as := [aI f, aI 0, aI 9]) (rest := []) (by decide) rfl (Nat.le_of_ble_eq_true rfl) rfl dX7_keep_36 (cM_isIn l f 0 9 σ ⟨by omega, by omega⟩ ⟨by omega, by omega⟩ ⟨by omega, by omega⟩) (fun wh8 => ?_) (fun wh8 => ?_)
          · refine aw_ine dX7_keep_39 (tgt := 44) (by decide) ⟨by omega, by omega⟩ (fun wh9 => ?_) (fun wh9 => absurd wh9 (by decide))
            refine aw_b kX7_ok bX7_keep_44_ok (Cs := [0 < 1, 0 < 1, 0 ≤ d ∧ d < 8, 0 < 1, 0 < 1, 0 ≤ d ∧ d < 8, 0 < 1, 0 < 1, 0 ≤ d ∧ d < 8]) (pc' := 67) (L' := [some (aR 21 0), some (aI d), some (aI w), some (aI k), some (aI f)]) (st' := [aI 0]) (σ' := aUp (aUp (aUp σ 26 0 d w) 27 0 d k) 28 0 d f) rfl (show (0 < 1) ∧ (0 < 1) ∧ (0 ≤ d ∧ d < 8) ∧ (0 < 1) ∧ (0 < 1) ∧ (0 ≤ d ∧ d < 8) ∧ (0 < 1) ∧ (0 < 1) ∧ (0 ≤ d ∧ d < 8) from ⟨by omega, by omega, by omega, by omega, by omega, by omega, by omega, by omega, by omega⟩) ?_
            exact aw_iret dX7_keep_67 rfl ⟨aret (by unfold A_keep; rw [if_pos (by omega)]), by unfold MS_keep; rw [if_pos (by omega)]⟩
          · refine aw_ine dX7_keep_39 (tgt := 44) (by decide) ⟨by omega, by omega⟩ (fun wh10 => absurd wh10 (by decide)) (fun wh10 => ?_)
            refine aw_b kX7_ok bX7_keep_42_ok (Cs := []) (pc' := 43) (L' := [some (aR 21 0), some (aI d), some (aI w), some (aI k), some (aI f)]) (st' := [aI (-1)]) (σ' := σ) rfl trivial ?_
            exact aw_iret dX7_keep_43 rfl ⟨aret (by unfold A_keep; rw [if_neg (by omega)]), by unfold MS_keep; rw [if_neg (by omega)]⟩
        · refine aw_ieq dX7_keep_28 (tgt := 42) (by decide) ⟨by omega, by omega⟩ (fun wh11 => ?_) (fun wh11 => absurd wh11 (by decide))
          refine aw_b kX7_ok bX7_keep_42_ok (Cs := []) (pc' := 43) (L' := [some (aR 21 0), some (aI d), some (aI w), some (aI k), some (aI f)]) (st' := [aI (-1)]) (σ' := σ) rfl trivial ?_
          exact aw_iret dX7_keep_43 rfl ⟨aret (by unfold A_keep; rw [if_neg (by omega)]), by unfold MS_keep; rw [if_neg (by omega)]⟩
    · refine aw_ieq dX7_keep_13 (tgt := 42) (by decide) ⟨by omega, by omega⟩ (fun wh12 => ?_) (fun wh12 => absurd wh12 (by decide))
      refine aw_b kX7_ok bX7_keep_42_ok (Cs := []) (pc' := 43) (L' := [some (aR 21 0), some (aI d), some (aI w), some (aI k), some (aI f)]) (st' := [aI (-1)]) (σ' := σ) rfl trivial ?_
      exact aw_iret dX7_keep_43 rfl ⟨aret (by unfold A_keep; rw [if_neg (by omega)]), by unfold MS_keep; rw [if_neg (by omega)]⟩
  · refine aw_ieq dX7_keep_4 (tgt := 42) (by decide) ⟨by omega, by omega⟩ (fun wh13 => ?_) (fun wh13 => absurd wh13 (by decide))
    refine aw_b kX7_ok bX7_keep_42_ok (Cs := []) (pc' := 43) (L' := [some (aR 21 0), some (aI d), some (aI w), some (aI k), some (aI f)]) (st' := [aI (-1)]) (σ' := σ) rfl trivial ?_
    exact aw_iret dX7_keep_43 rfl ⟨aret (by unfold A_keep; rw [if_neg (by omega)]), by unfold MS_keep; rw [if_neg (by omega)]⟩
set_option maxRecDepth 10000 in
theorem cM_row (l : Launch) (d s n : Int) (σ : aS) (hd : aIr d) (hv : aIr s) (hn : aIr n) : AM l 2 mX7_row [aR 21 0, aI d, aI s, aI n] σ (aF (some (aI (A_row d s n))) (MS_row σ d s n)) := by
  refine am_of (by decide) (Nat.le_of_ble_eq_true rfl) (L := [some (aR 21 0), some (aI d), some (aI s), some (aI n), none]) rfl ?_
  refine aw_b kX7_ok bX7_row_0_ok (Cs := []) (pc' := 1) (L' := [some (aR 21 0), some (aI d), some (aI s), some (aI n), none]) (st' := [aI d]) (σ' := σ) rfl trivial ?_
  refine aw_bS lX7_256 (as := [aI d]) (rest := []) (by decide) rfl (Nat.le_of_ble_eq_true rfl) rfl dX7_row_1 (cM_isShelf l d σ ⟨by omega, by omega⟩) (fun wh1 => ?_) (fun wh1 => ?_)
  · refine aw_ieq dX7_row_4 (tgt := 22) (by decide) ⟨by omega, by omega⟩ (fun wh2 => absurd wh2 (by decide)) (fun wh2 => ?_)
    refine aw_b kX7_ok bX7_row_7_ok (Cs := []) (pc' := 10) (L' := [some (aR 21 0), some (aI d), some (aI s), some (aI n), none]) (st' := [aI 2, aI 0, aI s]) (σ' := σ) rfl trivial ?_
    refine aw_bS lX7_49 (as := [aI s, aI 0, aI 2]) (rest := []) (by decide) rfl (Nat.le_of_ble_eq_true rfl) rfl dX7_row_10 (cM_isIn l s 0 2 σ ⟨by omega, by omega⟩ ⟨by omega, by omega⟩ ⟨by omega, by omega⟩) (fun wh3 => ?_) (fun wh3 => ?_)
    · refine aw_ieq dX7_row_13 (tgt := 22) (by decide) ⟨by omega, by omega⟩ (fun wh4 => absurd wh4 (by decide)) (fun wh4 => ?_)
      refine aw_b kX7_ok bX7_row_16_ok (Cs := []) (pc' := 19) (L' := [some (aR 21 0), some (aI d), some (aI s), some (aI n), none]) (st' := [aI 100, aI n]) (σ' := σ) rfl trivial ?_
      refine aw_cle dX7_row_19 (tgt := 24) (by decide) ⟨by omega, by omega⟩ ⟨by omega, by omega⟩ (fun wh5 => ?_) (fun wh5 => ?_)
      · refine aw_b kX7_ok bX7_row_24_ok (Cs := []) (pc' := 25) (L' := [some (aR 21 0), some (aI d), some (aI s), some (aI n), none]) (st' := [aI n]) (σ' := σ) rfl trivial ?_
        refine aw_ige dX7_row_25 (tgt := 31) (by decide) ⟨by omega, by omega⟩ (fun wh6 => ?_) (fun wh6 => ?_)
        · refine aw_b kX7_ok bX7_row_31_ok (Cs := [0 < 1, 0 < 1, 0 ≤ d ∧ d < 8, 0 < 1, 0 < 1, 0 ≤ d ∧ d < 8, 0 < 1, 0 < 1, 0 ≤ d ∧ d < 8]) (pc' := 55) (L' := [some (aR 21 0), some (aI d), some (aI s), some (aI n), some (aI 0)]) (st' := []) (σ' := aUp (aUp (aUp σ 26 0 d 2) 29 0 d s) 30 0 d n) rfl (show (0 < 1) ∧ (0 < 1) ∧ (0 ≤ d ∧ d < 8) ∧ (0 < 1) ∧ (0 < 1) ∧ (0 ≤ d ∧ d < 8) ∧ (0 < 1) ∧ (0 < 1) ∧ (0 ≤ d ∧ d < 8) from ⟨by omega, by omega, by omega, by omega, by omega, by omega, by omega, by omega, by omega⟩) ?_
          refine aw_eq rfl rfl (mplR_0 σ d s n).symm ?_
          refine aloop (P := fun k : Nat => AW l 2 mX7_row _ 55 [some (aR 21 0), some (aI d), some (aI s), some (aI n), some (aI (k : Int))] [] (mplR σ d s n k)) (100) (fun k hk ihk => ?_)
          refine aw_b kX7_ok bX7_row_55_ok (Cs := []) (pc' := 59) (L' := [some (aR 21 0), some (aI d), some (aI s), some (aI n), some (aI (k : Int))]) (st' := [aI 100, aI (k : Int)]) (σ' := mplR σ d s n k) rfl trivial ?_
          refine aw_cge dX7_row_59 (tgt := 81) (by decide) ⟨by omega, by omega⟩ ⟨by omega, by omega⟩ (fun wh7 => ?_) (fun wh7 => ?_)
          · refine aw_b kX7_ok bX7_row_81_ok (Cs := []) (pc' := 82) (L' := [some (aR 21 0), some (aI d), some (aI s), some (aI n), some (aI (k : Int))]) (st' := [aI 0]) (σ' := mplR σ d s n k) rfl trivial ?_
            exact aw_iret dX7_row_82 rfl ⟨aret (by unfold A_row; rw [if_pos (by omega), if_neg (by omega)]), by unfold MS_row; rw [if_pos (by omega), show k = 100 by omega]⟩
          · refine aw_b kX7_ok bX7_row_62_ok (Cs := [0 < 1, 0 < 1, 0 ≤ (100 * d) + (k : Int) ∧ (100 * d) + (k : Int) < 800]) (pc' := 55) (L' := [some (aR 21 0), some (aI d), some (aI s), some (aI n), some (aI ((k : Int) + 1))]) (st' := []) (σ' := aUp (mplR σ d s n k) 31 0 ((100 * d) + (k : Int)) 0) rfl (show (0 < 1) ∧ (0 < 1) ∧ (0 ≤ (100 * d) + (k : Int) ∧ (100 * d) + (k : Int) < 800) from ⟨by omega, by omega, by omega⟩) ?_
            exact aw_eq rfl rfl (mplR_s σ d s n k) (ihk (by omega))
        · refine aw_b kX7_ok bX7_row_28_ok (Cs := []) (pc' := 30) (L' := [some (aR 21 0), some (aI d), some (aI s), some (aI n), none]) (st' := [aI (-14)]) (σ' := σ) rfl trivial ?_
          exact aw_iret dX7_row_30 rfl ⟨aret (by unfold A_row; rw [if_pos (by omega), if_pos (by omega)]), by unfold MS_row; rw [if_neg (by omega)]⟩
      · refine aw_b kX7_ok bX7_row_22_ok (Cs := []) (pc' := 23) (L' := [some (aR 21 0), some (aI d), some (aI s), some (aI n), none]) (st' := [aI (-1)]) (σ' := σ) rfl trivial ?_
        exact aw_iret dX7_row_23 rfl ⟨aret (by unfold A_row; rw [if_neg (by omega)]), by unfold MS_row; rw [if_neg (by omega)]⟩
    · refine aw_ieq dX7_row_13 (tgt := 22) (by decide) ⟨by omega, by omega⟩ (fun wh8 => ?_) (fun wh8 => absurd wh8 (by decide))
      refine aw_b kX7_ok bX7_row_22_ok (Cs := []) (pc' := 23) (L' := [some (aR 21 0), some (aI d), some (aI s), some (aI n), none]) (st' := [aI (-1)]) (σ' := σ) rfl trivial ?_
      exact aw_iret dX7_row_23 rfl ⟨aret (by unfold A_row; rw [if_neg (by omega)]), by unfold MS_row; rw [if_neg (by omega)]⟩
  · refine aw_ieq dX7_row_4 (tgt := 22) (by decide) ⟨by omega, by omega⟩ (fun wh9 => ?_) (fun wh9 => absurd wh9 (by decide))
    refine aw_b kX7_ok bX7_row_22_ok (Cs := []) (pc' := 23) (L' := [some (aR 21 0), some (aI d), some (aI s), some (aI n), none]) (st' := [aI (-1)]) (σ' := σ) rfl trivial ?_
    exact aw_iret dX7_row_23 rfl ⟨aret (by unfold A_row; rw [if_neg (by omega)]), by unfold MS_row; rw [if_neg (by omega)]⟩
set_option maxRecDepth 10000 in
theorem cM_put (l : Launch) (d i v : Int) (σ : aS) (hs : MSH σ) (hd : aIr d) (hi : aIr i) (hv : aIr v) : AM l 3 mX7_put [aR 21 0, aI d, aI i, aI v] σ (aF (some (aI (MA_put (σ 26 0 d) (σ 30 0 d) d i))) (MS_put σ d i v)) := by
  refine am_of (by decide) (Nat.le_of_ble_eq_true rfl) (L := [some (aR 21 0), some (aI d), some (aI i), some (aI v), none]) rfl ?_
  refine aw_b kX7_ok bX7_put_0_ok (Cs := []) (pc' := 3) (L' := [some (aR 21 0), some (aI d), some (aI i), some (aI v), none]) (st' := [aI (-1), aI d, aR 21 0]) (σ' := σ) rfl trivial ?_
  refine aw_fV lX7_138 (as := [aI d, aI (-1)]) (rest := []) (t := 21) (c := 0) (by decide) (by decide) (by decide) rfl rfl (Nat.le_of_ble_eq_true rfl) rfl dX7_put_3 (cM_wrongRow1 l d σ hs ⟨by omega, by omega⟩) ?_
  have blk := lkF_rng (σ 26 0 d) d 2
  refine aw_b kX7_ok bX7_put_6_ok (Cs := []) (pc' := 10) (L' := [some (aR 21 0), some (aI d), some (aI i), some (aI v), some (aI (lkF (σ 26 0 d) d 2))]) (st' := [aI (lkF (σ 26 0 d) d 2)]) (σ' := σ) rfl trivial ?_
  refine aw_ieq dX7_put_10 (tgt := 16) (by decide) ⟨by omega, by omega⟩ (fun wh1 => ?_) (fun wh1 => ?_)
  · have hl := lkF_d (show lkF (σ 26 0 d) d 2 = 0 by omega)
    have bs := hs.1 d hl.1.1 hl.1.2
    refine aw_b kX7_ok bX7_put_16_ok (Cs := [0 < 1, 0 < 1, 0 ≤ d ∧ d < 8]) (pc' := 26) (L' := [some (aR 21 0), some (aI d), some (aI i), some (aI v), some (aI (lkF (σ 26 0 d) d 2))]) (st' := [aI ((σ 30 0 d) - 1), aI 0, aI i]) (σ' := σ) rfl (show (0 < 1) ∧ (0 < 1) ∧ (0 ≤ d ∧ d < 8) from ⟨by omega, by omega, by omega⟩) ?_
    refine aw_bS lX7_49 (as := [aI i, aI 0, aI ((σ 30 0 d) - 1)]) (rest := []) (by decide) rfl (Nat.le_of_ble_eq_true rfl) rfl dX7_put_26 (cM_isIn l i 0 ((σ 30 0 d) - 1) σ ⟨by omega, by omega⟩ ⟨by omega, by omega⟩ ⟨by omega, by omega⟩) (fun wh2 => ?_) (fun wh2 => ?_)
    · refine aw_ine dX7_put_29 (tgt := 35) (by decide) ⟨by omega, by omega⟩ (fun wh3 => ?_) (fun wh3 => absurd wh3 (by decide))
      refine aw_b kX7_ok bX7_put_35_ok (Cs := [0 < 1, 0 < 1, 0 < 1, 0 ≤ d ∧ d < 8]) (pc' := 51) (L' := [some (aR 21 0), some (aI d), some (aI i), some (aI v), some (aI (lkF (σ 26 0 d) d 2))]) (st' := [aI (σ 29 0 d), aI ((100 * d) + i), aR 31 0]) (σ' := σ) rfl (show (0 < 1) ∧ (0 < 1) ∧ (0 < 1) ∧ (0 ≤ d ∧ d < 8) from ⟨by omega, by omega, by omega, by omega⟩) ?_
      refine aw_ine dX7_put_51 (tgt := 59) (by decide) ⟨by omega, by omega⟩ (fun wh4 => ?_) (fun wh4 => ?_)
      · refine aw_b kX7_ok bX7_put_59_ok (Cs := [0 < 1, 0 < 1, 0 ≤ d ∧ d < 8]) (pc' := 66) (L' := [some (aR 21 0), some (aI d), some (aI i), some (aI v), some (aI (lkF (σ 26 0 d) d 2))]) (st' := [aI 1, aI (σ 29 0 d), aI ((100 * d) + i), aR 31 0]) (σ' := σ) rfl (show (0 < 1) ∧ (0 < 1) ∧ (0 ≤ d ∧ d < 8) from ⟨by omega, by omega, by omega⟩) ?_
        refine aw_cne dX7_put_66 (tgt := 74) (by decide) ⟨by omega, by omega⟩ ⟨by omega, by omega⟩ (fun wh5 => ?_) (fun wh5 => ?_)
        · refine aw_b kX7_ok bX7_put_74_ok (Cs := []) (pc' := 75) (L' := [some (aR 21 0), some (aI d), some (aI i), some (aI v), some (aI (lkF (σ 26 0 d) d 2))]) (st' := [aI v, aI ((100 * d) + i), aR 31 0]) (σ' := σ) rfl trivial ?_
          refine aw_b kX7_ok bX7_put_75_ok (Cs := [0 < 1, 0 ≤ (100 * d) + i ∧ (100 * d) + i < 800]) (pc' := 77) (L' := [some (aR 21 0), some (aI d), some (aI i), some (aI v), some (aI (lkF (σ 26 0 d) d 2))]) (st' := [aI 0]) (σ' := aUp σ 31 0 ((100 * d) + i) v) rfl (show (0 < 1) ∧ (0 ≤ (100 * d) + i ∧ (100 * d) + i < 800) from ⟨by omega, by omega⟩) ?_
          exact aw_iret dX7_put_77 rfl ⟨aret (by unfold MA_put; rw [if_pos (by omega), if_pos (by omega)]), by unfold MS_put; rw [if_pos (by omega)]; unfold cuF; rw [if_neg (by omega), if_neg (by omega)]⟩
        · refine aw_b kX7_ok bX7_put_69_ok (Cs := []) (pc' := 75) (L' := [some (aR 21 0), some (aI d), some (aI i), some (aI v), some (aI (lkF (σ 26 0 d) d 2))]) (st' := [aI (Int.bmod v 65536), aI ((100 * d) + i), aR 31 0]) (σ' := σ) rfl trivial ?_
          refine aw_b kX7_ok bX7_put_75_ok (Cs := [0 < 1, 0 ≤ (100 * d) + i ∧ (100 * d) + i < 800]) (pc' := 77) (L' := [some (aR 21 0), some (aI d), some (aI i), some (aI v), some (aI (lkF (σ 26 0 d) d 2))]) (st' := [aI 0]) (σ' := aUp σ 31 0 ((100 * d) + i) (Int.bmod v 65536)) rfl (show (0 < 1) ∧ (0 ≤ (100 * d) + i ∧ (100 * d) + i < 800) from ⟨by omega, by omega⟩) ?_
          exact aw_iret dX7_put_77 rfl ⟨aret (by unfold MA_put; rw [if_pos (by omega), if_pos (by omega)]), by unfold MS_put; rw [if_pos (by omega)]; unfold cuF; rw [if_neg (by omega), if_pos (by omega)]⟩
      · refine aw_b kX7_ok bX7_put_54_ok (Cs := []) (pc' := 75) (L' := [some (aR 21 0), some (aI d), some (aI i), some (aI v), some (aI (lkF (σ 26 0 d) d 2))]) (st' := [aI (Int.bmod v 256), aI ((100 * d) + i), aR 31 0]) (σ' := σ) rfl trivial ?_
        refine aw_b kX7_ok bX7_put_75_ok (Cs := [0 < 1, 0 ≤ (100 * d) + i ∧ (100 * d) + i < 800]) (pc' := 77) (L' := [some (aR 21 0), some (aI d), some (aI i), some (aI v), some (aI (lkF (σ 26 0 d) d 2))]) (st' := [aI 0]) (σ' := aUp σ 31 0 ((100 * d) + i) (Int.bmod v 256)) rfl (show (0 < 1) ∧ (0 ≤ (100 * d) + i ∧ (100 * d) + i < 800) from ⟨by omega, by omega⟩) ?_
        exact aw_iret dX7_put_77 rfl ⟨aret (by unfold MA_put; rw [if_pos (by omega), if_pos (by omega)]), by unfold MS_put; rw [if_pos (by omega)]; unfold cuF; rw [if_pos (by omega)]⟩
    · refine aw_ine dX7_put_29 (tgt := 35) (by decide) ⟨by omega, by omega⟩ (fun wh6 => absurd wh6 (by decide)) (fun wh6 => ?_)
      refine aw_b kX7_ok bX7_put_32_ok (Cs := []) (pc' := 34) (L' := [some (aR 21 0), some (aI d), some (aI i), some (aI v), some (aI (lkF (σ 26 0 d) d 2))]) (st' := [aI (-13)]) (σ' := σ) rfl trivial ?_
      exact aw_iret dX7_put_34 rfl ⟨aret (by unfold MA_put; rw [if_pos (by omega), if_neg (by omega)]), by unfold MS_put; rw [if_neg (by omega)]⟩
  · refine aw_b kX7_ok bX7_put_13_ok (Cs := []) (pc' := 15) (L' := [some (aR 21 0), some (aI d), some (aI i), some (aI v), some (aI (lkF (σ 26 0 d) d 2))]) (st' := [aI (lkF (σ 26 0 d) d 2)]) (σ' := σ) rfl trivial ?_
    exact aw_iret dX7_put_15 rfl ⟨aret (by unfold MA_put; rw [if_neg (by omega)]), by unfold MS_put; rw [if_neg (by omega)]⟩
set_option maxRecDepth 10000 in
theorem cM_copy (l : Launch) (d i e j n : Int) (σ : aS) (hs : MSH σ) (hd : aIr d) (hi : aIr i) (he : aIr e) (hj : aIr j) (hn : aIr n) : AM l 2 mX7_copy [aR 21 0, aI d, aI i, aI e, aI j, aI n] σ (aF (some (aI (A_copy (σ 26 0 d) (σ 26 0 e) (σ 29 0 d) (σ 29 0 e) (σ 30 0 d) (σ 30 0 e) d i e j n))) (MS_copy σ d i e j n)) := by
  refine am_of (by decide) (Nat.le_of_ble_eq_true rfl) (L := [some (aR 21 0), some (aI d), some (aI i), some (aI e), some (aI j), some (aI n), none, none]) rfl ?_
  refine aw_b kX7_ok bX7_copy_0_ok (Cs := []) (pc' := 1) (L' := [some (aR 21 0), some (aI d), some (aI i), some (aI e), some (aI j), some (aI n), none, none]) (st' := [aI d]) (σ' := σ) rfl trivial ?_
  refine aw_bS lX7_256 (as := [aI d]) (rest := []) (by decide) rfl (Nat.le_of_ble_eq_true rfl) rfl dX7_copy_1 (cM_isShelf l d σ ⟨by omega, by omega⟩) (fun wh1 => ?_) (fun wh1 => ?_)
  · refine aw_ieq dX7_copy_4 (tgt := 14) (by decide) ⟨by omega, by omega⟩ (fun wh2 => absurd wh2 (by decide)) (fun wh2 => ?_)
    refine aw_b kX7_ok bX7_copy_7_ok (Cs := []) (pc' := 8) (L' := [some (aR 21 0), some (aI d), some (aI i), some (aI e), some (aI j), some (aI n), none, none]) (st' := [aI e]) (σ' := σ) rfl trivial ?_
    refine aw_bS lX7_256 (as := [aI e]) (rest := []) (by decide) rfl (Nat.le_of_ble_eq_true rfl) rfl dX7_copy_8 (cM_isShelf l e σ ⟨by omega, by omega⟩) (fun wh3 => ?_) (fun wh3 => ?_)
    · have bs := hs.1 d (by omega) (by omega)
      have be := hs.1 e (by omega) (by omega)
      refine aw_ine dX7_copy_11 (tgt := 16) (by decide) ⟨by omega, by omega⟩ (fun wh4 => ?_) (fun wh4 => absurd wh4 (by decide))
      refine aw_b kX7_ok bX7_copy_16_ok (Cs := [0 < 1, 0 < 1, 0 ≤ d ∧ d < 8]) (pc' := 22) (L' := [some (aR 21 0), some (aI d), some (aI i), some (aI e), some (aI j), some (aI n), none, none]) (st' := [aI (σ 26 0 d)]) (σ' := σ) rfl (show (0 < 1) ∧ (0 < 1) ∧ (0 ≤ d ∧ d < 8) from ⟨by omega, by omega, by omega⟩) ?_
      refine aw_ieq dX7_copy_22 (tgt := 34) (by decide) ⟨by omega, by omega⟩ (fun wh5 => ?_) (fun wh5 => ?_)
      · refine aw_b kX7_ok bX7_copy_34_ok (Cs := []) (pc' := 36) (L' := [some (aR 21 0), some (aI d), some (aI i), some (aI e), some (aI j), some (aI n), none, none]) (st' := [aI (-11)]) (σ' := σ) rfl trivial ?_
        exact aw_iret dX7_copy_36 rfl ⟨aret (by unfold A_copy; rw [if_pos (by omega), if_pos (by omega)]), by unfold MS_copy; rw [if_neg (by omega)]⟩
      · refine aw_b kX7_ok bX7_copy_25_ok (Cs := [0 < 1, 0 < 1, 0 ≤ e ∧ e < 8]) (pc' := 31) (L' := [some (aR 21 0), some (aI d), some (aI i), some (aI e), some (aI j), some (aI n), none, none]) (st' := [aI (σ 26 0 e)]) (σ' := σ) rfl (show (0 < 1) ∧ (0 < 1) ∧ (0 ≤ e ∧ e < 8) from ⟨by omega, by omega, by omega⟩) ?_
        refine aw_ine dX7_copy_31 (tgt := 37) (by decide) ⟨by omega, by omega⟩ (fun wh6 => ?_) (fun wh6 => ?_)
        · refine aw_b kX7_ok bX7_copy_37_ok (Cs := [0 < 1, 0 < 1, 0 ≤ d ∧ d < 8]) (pc' := 44) (L' := [some (aR 21 0), some (aI d), some (aI i), some (aI e), some (aI j), some (aI n), none, none]) (st' := [aI 2, aI (σ 26 0 d)]) (σ' := σ) rfl (show (0 < 1) ∧ (0 < 1) ∧ (0 ≤ d ∧ d < 8) from ⟨by omega, by omega, by omega⟩) ?_
          refine aw_cne dX7_copy_44 (tgt := 72) (by decide) ⟨by omega, by omega⟩ ⟨by omega, by omega⟩ (fun wh7 => ?_) (fun wh7 => ?_)
          · refine aw_b kX7_ok bX7_copy_72_ok (Cs := []) (pc' := 74) (L' := [some (aR 21 0), some (aI d), some (aI i), some (aI e), some (aI j), some (aI n), none, none]) (st' := [aI (-12)]) (σ' := σ) rfl trivial ?_
            exact aw_iret dX7_copy_74 rfl ⟨aret (by unfold A_copy; rw [if_pos (by omega), if_neg (by omega), if_pos (by omega)]), by unfold MS_copy; rw [if_neg (by omega)]⟩
          · refine aw_b kX7_ok bX7_copy_47_ok (Cs := [0 < 1, 0 < 1, 0 ≤ e ∧ e < 8]) (pc' := 54) (L' := [some (aR 21 0), some (aI d), some (aI i), some (aI e), some (aI j), some (aI n), none, none]) (st' := [aI 2, aI (σ 26 0 e)]) (σ' := σ) rfl (show (0 < 1) ∧ (0 < 1) ∧ (0 ≤ e ∧ e < 8) from ⟨by omega, by omega, by omega⟩) ?_
            refine aw_cne dX7_copy_54 (tgt := 72) (by decide) ⟨by omega, by omega⟩ ⟨by omega, by omega⟩ (fun wh8 => ?_) (fun wh8 => ?_)
            · refine aw_b kX7_ok bX7_copy_72_ok (Cs := []) (pc' := 74) (L' := [some (aR 21 0), some (aI d), some (aI i), some (aI e), some (aI j), some (aI n), none, none]) (st' := [aI (-12)]) (σ' := σ) rfl trivial ?_
              exact aw_iret dX7_copy_74 rfl ⟨aret (by unfold A_copy; rw [if_pos (by omega), if_neg (by omega), if_pos (by omega)]), by unfold MS_copy; rw [if_neg (by omega)]⟩
            · refine aw_b kX7_ok bX7_copy_57_ok (Cs := [0 < 1, 0 < 1, 0 ≤ d ∧ d < 8, 0 < 1, 0 < 1, 0 ≤ e ∧ e < 8]) (pc' := 69) (L' := [some (aR 21 0), some (aI d), some (aI i), some (aI e), some (aI j), some (aI n), none, none]) (st' := [aI (σ 29 0 e), aI (σ 29 0 d)]) (σ' := σ) rfl (show (0 < 1) ∧ (0 < 1) ∧ (0 ≤ d ∧ d < 8) ∧ (0 < 1) ∧ (0 < 1) ∧ (0 ≤ e ∧ e < 8) from ⟨by omega, by omega, by omega, by omega, by omega, by omega⟩) ?_
              refine aw_ceq dX7_copy_69 (tgt := 75) (by decide) ⟨by omega, by omega⟩ ⟨by omega, by omega⟩ (fun wh9 => ?_) (fun wh9 => ?_)
              · refine aw_b kX7_ok bX7_copy_75_ok (Cs := []) (pc' := 77) (L' := [some (aR 21 0), some (aI d), some (aI i), some (aI e), some (aI j), some (aI n), none, none]) (st' := [aI n]) (σ' := σ) rfl trivial ?_
                refine aw_ilt dX7_copy_77 (tgt := 116) (by decide) ⟨by omega, by omega⟩ (fun wh10 => ?_) (fun wh10 => ?_)
                · refine aw_b kX7_ok bX7_copy_116_ok (Cs := []) (pc' := 118) (L' := [some (aR 21 0), some (aI d), some (aI i), some (aI e), some (aI j), some (aI n), none, none]) (st' := [aI (-13)]) (σ' := σ) rfl trivial ?_
                  exact aw_iret dX7_copy_118 rfl ⟨aret (by unfold A_copy; rw [if_pos (by omega), if_neg (by omega), if_neg (by omega), if_neg (by omega)]), by unfold MS_copy; rw [if_neg (by omega)]⟩
                · refine aw_b kX7_ok bX7_copy_80_ok (Cs := []) (pc' := 81) (L' := [some (aR 21 0), some (aI d), some (aI i), some (aI e), some (aI j), some (aI n), none, none]) (st' := [aI i]) (σ' := σ) rfl trivial ?_
                  refine aw_ilt dX7_copy_81 (tgt := 116) (by decide) ⟨by omega, by omega⟩ (fun wh11 => ?_) (fun wh11 => ?_)
                  · refine aw_b kX7_ok bX7_copy_116_ok (Cs := []) (pc' := 118) (L' := [some (aR 21 0), some (aI d), some (aI i), some (aI e), some (aI j), some (aI n), none, none]) (st' := [aI (-13)]) (σ' := σ) rfl trivial ?_
                    exact aw_iret dX7_copy_118 rfl ⟨aret (by unfold A_copy; rw [if_pos (by omega), if_neg (by omega), if_neg (by omega), if_neg (by omega)]), by unfold MS_copy; rw [if_neg (by omega)]⟩
                  · refine aw_b kX7_ok bX7_copy_84_ok (Cs := []) (pc' := 86) (L' := [some (aR 21 0), some (aI d), some (aI i), some (aI e), some (aI j), some (aI n), none, none]) (st' := [aI j]) (σ' := σ) rfl trivial ?_
                    refine aw_ilt dX7_copy_86 (tgt := 116) (by decide) ⟨by omega, by omega⟩ (fun wh12 => ?_) (fun wh12 => ?_)
                    · refine aw_b kX7_ok bX7_copy_116_ok (Cs := []) (pc' := 118) (L' := [some (aR 21 0), some (aI d), some (aI i), some (aI e), some (aI j), some (aI n), none, none]) (st' := [aI (-13)]) (σ' := σ) rfl trivial ?_
                      exact aw_iret dX7_copy_118 rfl ⟨aret (by unfold A_copy; rw [if_pos (by omega), if_neg (by omega), if_neg (by omega), if_neg (by omega)]), by unfold MS_copy; rw [if_neg (by omega)]⟩
                    · refine aw_b kX7_ok bX7_copy_89_ok (Cs := [0 < 1, 0 < 1, 0 ≤ d ∧ d < 8]) (pc' := 99) (L' := [some (aR 21 0), some (aI d), some (aI i), some (aI e), some (aI j), some (aI n), none, none]) (st' := [aI ((σ 30 0 d) - i), aI n]) (σ' := σ) rfl (show (0 < 1) ∧ (0 < 1) ∧ (0 ≤ d ∧ d < 8) from ⟨by omega, by omega, by omega⟩) ?_
                      refine aw_cgt dX7_copy_99 (tgt := 116) (by decide) ⟨by omega, by omega⟩ ⟨by omega, by omega⟩ (fun wh13 => ?_) (fun wh13 => ?_)
                      · refine aw_b kX7_ok bX7_copy_116_ok (Cs := []) (pc' := 118) (L' := [some (aR 21 0), some (aI d), some (aI i), some (aI e), some (aI j), some (aI n), none, none]) (st' := [aI (-13)]) (σ' := σ) rfl trivial ?_
                        exact aw_iret dX7_copy_118 rfl ⟨aret (by unfold A_copy; rw [if_pos (by omega), if_neg (by omega), if_neg (by omega), if_neg (by omega)]), by unfold MS_copy; rw [if_neg (by omega)]⟩
                      · refine aw_b kX7_ok bX7_copy_102_ok (Cs := [0 < 1, 0 < 1, 0 ≤ e ∧ e < 8]) (pc' := 113) (L' := [some (aR 21 0), some (aI d), some (aI i), some (aI e), some (aI j), some (aI n), none, none]) (st' := [aI ((σ 30 0 e) - j), aI n]) (σ' := σ) rfl (show (0 < 1) ∧ (0 < 1) ∧ (0 ≤ e ∧ e < 8) from ⟨by omega, by omega, by omega⟩) ?_
                        refine aw_cle dX7_copy_113 (tgt := 119) (by decide) ⟨by omega, by omega⟩ ⟨by omega, by omega⟩ (fun wh14 => ?_) (fun wh14 => ?_)
                        · refine aw_b kX7_ok bX7_copy_119_ok (Cs := []) (pc' := 122) (L' := [some (aR 21 0), some (aI d), some (aI i), some (aI e), some (aI j), some (aI n), some (aI 0), none]) (st' := []) (σ' := σ) rfl trivial ?_
                          refine aloop (P := fun k : Nat => ∀ (ρ : aS) (hρ : ρ = if j < i then aCp σ 31 0 (100 * d + i) (100 * e + j) (k : Int) else aCp σ 31 0 ((100 * d + i) + (n - (k : Int))) ((100 * e + j) + (n - (k : Int))) (k : Int)), AW l 2 mX7_copy _ 122 [some (aR 21 0), some (aI d), some (aI i), some (aI e), some (aI j), some (aI n), some (aI (k : Int)), none] [] ρ) n.toNat (fun k hk ihk ρ hρ => ?_) σ (by rw [show ((0 : Nat) : Int) = 0 from rfl, aCp_0, aCp_0]; split <;> rfl)
                          refine aw_b kX7_ok bX7_copy_122_ok (Cs := []) (pc' := 126) (L' := [some (aR 21 0), some (aI d), some (aI i), some (aI e), some (aI j), some (aI n), some (aI (k : Int)), none]) (st' := [aI n, aI (k : Int)]) (σ' := ρ) rfl trivial ?_
                          refine aw_cge dX7_copy_126 (tgt := 184) (by decide) ⟨by omega, by omega⟩ ⟨by omega, by omega⟩ (fun wh15 => ?_) (fun wh15 => ?_)
                          · refine aw_b kX7_ok bX7_copy_184_ok (Cs := []) (pc' := 186) (L' := [some (aR 21 0), some (aI d), some (aI i), some (aI e), some (aI j), some (aI n), some (aI (k : Int)), none]) (st' := [aI n]) (σ' := ρ) rfl trivial ?_
                            exact aw_iret dX7_copy_186 rfl ⟨aret (by unfold A_copy; rw [if_pos (by omega), if_neg (by omega), if_neg (by omega), if_pos (by omega)]), by unfold MS_copy; rw [if_pos (by omega), hρ, show (k : Int) = n by omega, show (100 * d + i) + (n - n) = (100 * d + i) by omega, show (100 * e + j) + (n - n) = (100 * e + j) by omega]; split <;> rfl⟩
                          · refine aw_b kX7_ok bX7_copy_129_ok (Cs := []) (pc' := 132) (L' := [some (aR 21 0), some (aI d), some (aI i), some (aI e), some (aI j), some (aI n), some (aI (k : Int)), none]) (st' := [aI j, aI i]) (σ' := ρ) rfl trivial ?_
                            refine aw_cle dX7_copy_132 (tgt := 140) (by decide) ⟨by omega, by omega⟩ ⟨by omega, by omega⟩ (fun wh16 => ?_) (fun wh16 => ?_)
                            · refine aw_b kX7_ok bX7_copy_140_ok (Cs := []) (pc' := 147) (L' := [some (aR 21 0), some (aI d), some (aI i), some (aI e), some (aI j), some (aI n), some (aI (k : Int)), none]) (st' := [aI ((n - 1) - (k : Int))]) (σ' := ρ) rfl trivial ?_
                              refine aw_b kX7_ok bX7_copy_147_ok (Cs := [0 < 1, 0 < 1, 0 < 1, 0 ≤ ((100 * d) + i) + ((n - 1) - (k : Int)) ∧ ((100 * d) + i) + ((n - 1) - (k : Int)) < 800, 0 < 1, 0 ≤ ((100 * e) + j) + ((n - 1) - (k : Int)) ∧ ((100 * e) + j) + ((n - 1) - (k : Int)) < 800]) (pc' := 122) (L' := [some (aR 21 0), some (aI d), some (aI i), some (aI e), some (aI j), some (aI n), some (aI ((k : Int) + 1)), some (aI ((n - 1) - (k : Int)))]) (st' := []) (σ' := aUp ρ 31 0 (((100 * e) + j) + ((n - 1) - (k : Int))) (ρ 31 0 (((100 * d) + i) + ((n - 1) - (k : Int))))) rfl (show (0 < 1) ∧ (0 < 1) ∧ (0 < 1) ∧ (0 ≤ ((100 * d) + i) + ((n - 1) - (k : Int)) ∧ ((100 * d) + i) + ((n - 1) - (k : Int)) < 800) ∧ (0 < 1) ∧ (0 ≤ ((100 * e) + j) + ((n - 1) - (k : Int)) ∧ ((100 * e) + j) + ((n - 1) - (k : Int)) < 800) from ⟨by omega, by omega, by omega, by omega, by omega, by omega⟩) ?_
                              refine aw_drop [7] (L' := [some (aR 21 0), some (aI d), some (aI i), some (aI e), some (aI j), some (aI n), some (aI ((k : Int) + 1)), none]) rfl ?_
                              have er : ρ 31 0 (100 * d + i + (n - 1 - (k : Int))) = σ 31 0 ((100 * d + i) + (n - 1 - (k : Int))) := by rw [hρ, if_neg (by omega), aCp_rd (by omega)]
                              exact ihk (by omega) _ (by rw [if_neg (by omega), er, hρ, if_neg (by omega), show n - ((k + 1 : Nat) : Int) = (n - 1 - (k : Int)) by omega, show (100 * d + i) + (n - (k : Int)) = (100 * d + i) + (n - 1 - (k : Int)) + 1 by omega, show (100 * e + j) + (n - (k : Int)) = (100 * e + j) + (n - 1 - (k : Int)) + 1 by omega]; exact aCp_b σ 31 0 ((100 * d + i) + (n - 1 - (k : Int))) ((100 * e + j) + (n - 1 - (k : Int))) k)
                            · refine aw_b kX7_ok bX7_copy_135_ok (Cs := []) (pc' := 147) (L' := [some (aR 21 0), some (aI d), some (aI i), some (aI e), some (aI j), some (aI n), some (aI (k : Int)), none]) (st' := [aI (k : Int)]) (σ' := ρ) rfl trivial ?_
                              refine aw_b kX7_ok bX7_copy_147_ok (Cs := [0 < 1, 0 < 1, 0 < 1, 0 ≤ ((100 * d) + i) + (k : Int) ∧ ((100 * d) + i) + (k : Int) < 800, 0 < 1, 0 ≤ ((100 * e) + j) + (k : Int) ∧ ((100 * e) + j) + (k : Int) < 800]) (pc' := 122) (L' := [some (aR 21 0), some (aI d), some (aI i), some (aI e), some (aI j), some (aI n), some (aI ((k : Int) + 1)), some (aI (k : Int))]) (st' := []) (σ' := aUp ρ 31 0 (((100 * e) + j) + (k : Int)) (ρ 31 0 (((100 * d) + i) + (k : Int)))) rfl (show (0 < 1) ∧ (0 < 1) ∧ (0 < 1) ∧ (0 ≤ ((100 * d) + i) + (k : Int) ∧ ((100 * d) + i) + (k : Int) < 800) ∧ (0 < 1) ∧ (0 ≤ ((100 * e) + j) + (k : Int) ∧ ((100 * e) + j) + (k : Int) < 800) from ⟨by omega, by omega, by omega, by omega, by omega, by omega⟩) ?_
                              refine aw_drop [7] (L' := [some (aR 21 0), some (aI d), some (aI i), some (aI e), some (aI j), some (aI n), some (aI ((k : Int) + 1)), none]) rfl ?_
                              have er : ρ 31 0 (100 * d + i + (k : Int)) = σ 31 0 ((100 * d + i) + (k : Int)) := by rw [hρ, if_pos (by omega), aCp_rd (by omega)]
                              exact ihk (by omega) _ (by rw [if_pos (by omega), er, hρ, if_pos (by omega)]; exact aCp_f σ 31 0 (100 * d + i) (100 * e + j) k)
                        · refine aw_b kX7_ok bX7_copy_116_ok (Cs := []) (pc' := 118) (L' := [some (aR 21 0), some (aI d), some (aI i), some (aI e), some (aI j), some (aI n), none, none]) (st' := [aI (-13)]) (σ' := σ) rfl trivial ?_
                          exact aw_iret dX7_copy_118 rfl ⟨aret (by unfold A_copy; rw [if_pos (by omega), if_neg (by omega), if_neg (by omega), if_neg (by omega)]), by unfold MS_copy; rw [if_neg (by omega)]⟩
              · refine aw_b kX7_ok bX7_copy_72_ok (Cs := []) (pc' := 74) (L' := [some (aR 21 0), some (aI d), some (aI i), some (aI e), some (aI j), some (aI n), none, none]) (st' := [aI (-12)]) (σ' := σ) rfl trivial ?_
                exact aw_iret dX7_copy_74 rfl ⟨aret (by unfold A_copy; rw [if_pos (by omega), if_neg (by omega), if_pos (by omega)]), by unfold MS_copy; rw [if_neg (by omega)]⟩
        · refine aw_b kX7_ok bX7_copy_34_ok (Cs := []) (pc' := 36) (L' := [some (aR 21 0), some (aI d), some (aI i), some (aI e), some (aI j), some (aI n), none, none]) (st' := [aI (-11)]) (σ' := σ) rfl trivial ?_
          exact aw_iret dX7_copy_36 rfl ⟨aret (by unfold A_copy; rw [if_pos (by omega), if_pos (by omega)]), by unfold MS_copy; rw [if_neg (by omega)]⟩
    · refine aw_ine dX7_copy_11 (tgt := 16) (by decide) ⟨by omega, by omega⟩ (fun wh17 => absurd wh17 (by decide)) (fun wh17 => ?_)
      refine aw_b kX7_ok bX7_copy_14_ok (Cs := []) (pc' := 15) (L' := [some (aR 21 0), some (aI d), some (aI i), some (aI e), some (aI j), some (aI n), none, none]) (st' := [aI (-1)]) (σ' := σ) rfl trivial ?_
      exact aw_iret dX7_copy_15 rfl ⟨aret (by unfold A_copy; rw [if_neg (by omega)]), by unfold MS_copy; rw [if_neg (by omega)]⟩
  · refine aw_ieq dX7_copy_4 (tgt := 14) (by decide) ⟨by omega, by omega⟩ (fun wh18 => ?_) (fun wh18 => absurd wh18 (by decide))
    refine aw_b kX7_ok bX7_copy_14_ok (Cs := []) (pc' := 15) (L' := [some (aR 21 0), some (aI d), some (aI i), some (aI e), some (aI j), some (aI n), none, none]) (st' := [aI (-1)]) (σ' := σ) rfl trivial ?_
    exact aw_iret dX7_copy_15 rfl ⟨aret (by unfold A_copy; rw [if_neg (by omega)]), by unfold MS_copy; rw [if_neg (by omega)]⟩
set_option maxRecDepth 10000 in
theorem cM_costBy (l : Launch) (k f : Int) (σ : aS) (h1 : 0 ≤ k ∧ k ≤ 7) (h2 : 0 ≤ f ∧ f ≤ 9) : AM l 0 mX7_costBy [aI k, aI f] σ (aF (some (aI (prF k f))) σ) := by
  refine am_of (by decide) (Nat.le_of_ble_eq_true rfl) (L := [some (aI k), some (aI f)]) rfl ?_
  refine aw_b kX7_ok bX7_costBy_0_ok (Cs := []) (pc' := 1) (L' := [some (aI k), some (aI f)]) (st' := [aI k]) (σ' := σ) rfl trivial ?_
  rcases (show k = 1 ∨ k = 2 ∨ k = 3 ∨ k = 4 ∨ k = 5 ∨ k = 6 ∨ k = 7 ∨ (k < 1 ∨ 7 < k) by omega) with wh1 | wh1 | wh1 | wh1 | wh1 | wh1 | wh1 | wh1
  · refine aw_tsw dX7_costBy_1 (tgt := 44) ⟨by omega, by omega⟩ (by decide) (by rw [wh1]; decide) ?_
    refine aw_b kX7_ok bX7_costBy_44_ok (Cs := []) (pc' := 45) (L' := [some (aI k), some (aI f)]) (st' := [aI 1]) (σ' := σ) rfl trivial ?_
    exact aw_iret dX7_costBy_45 rfl ⟨aret (by unfold prF; (repeat' split) <;> omega), rfl⟩
  · refine aw_tsw dX7_costBy_1 (tgt := 46) ⟨by omega, by omega⟩ (by decide) (by rw [wh1]; decide) ?_
    refine aw_b kX7_ok bX7_costBy_46_ok (Cs := []) (pc' := 48) (L' := [some (aI k), some (aI f)]) (st' := [aI 6]) (σ' := σ) rfl trivial ?_
    exact aw_iret dX7_costBy_48 rfl ⟨aret (by unfold prF; (repeat' split) <;> omega), rfl⟩
  · refine aw_tsw dX7_costBy_1 (tgt := 49) ⟨by omega, by omega⟩ (by decide) (by rw [wh1]; decide) ?_
    refine aw_b kX7_ok bX7_costBy_49_ok (Cs := []) (pc' := 52) (L' := [some (aI k), some (aI f)]) (st' := [aI (1 + f)]) (σ' := σ) rfl trivial ?_
    exact aw_iret dX7_costBy_52 rfl ⟨aret (by unfold prF; (repeat' split) <;> omega), rfl⟩
  · refine aw_tsw dX7_costBy_1 (tgt := 53) ⟨by omega, by omega⟩ (by decide) (by rw [wh1]; decide) ?_
    refine aw_b kX7_ok bX7_costBy_53_ok (Cs := []) (pc' := 54) (L' := [some (aI k), some (aI f)]) (st' := [aI 0]) (σ' := σ) rfl trivial ?_
    exact aw_iret dX7_costBy_54 rfl ⟨aret (by unfold prF; (repeat' split) <;> omega), rfl⟩
  · refine aw_tsw dX7_costBy_1 (tgt := 55) ⟨by omega, by omega⟩ (by decide) (by rw [wh1]; decide) ?_
    refine aw_b kX7_ok bX7_costBy_55_ok (Cs := []) (pc' := 57) (L' := [some (aI k), some (aI f)]) (st' := [aI 8]) (σ' := σ) rfl trivial ?_
    exact aw_iret dX7_costBy_57 rfl ⟨aret (by unfold prF; (repeat' split) <;> omega), rfl⟩
  · refine aw_tsw dX7_costBy_1 (tgt := 44) ⟨by omega, by omega⟩ (by decide) (by rw [wh1]; decide) ?_
    refine aw_b kX7_ok bX7_costBy_44_ok (Cs := []) (pc' := 45) (L' := [some (aI k), some (aI f)]) (st' := [aI 1]) (σ' := σ) rfl trivial ?_
    exact aw_iret dX7_costBy_45 rfl ⟨aret (by unfold prF; (repeat' split) <;> omega), rfl⟩
  · refine aw_tsw dX7_costBy_1 (tgt := 44) ⟨by omega, by omega⟩ (by decide) (by rw [wh1]; decide) ?_
    refine aw_b kX7_ok bX7_costBy_44_ok (Cs := []) (pc' := 45) (L' := [some (aI k), some (aI f)]) (st' := [aI 1]) (σ' := σ) rfl trivial ?_
    exact aw_iret dX7_costBy_45 rfl ⟨aret (by unfold prF; (repeat' split) <;> omega), rfl⟩
  · refine aw_tsw dX7_costBy_1 (tgt := 58) ⟨by omega, by omega⟩ (by decide) (by unfold aTgt; rw [if_pos (by omega)]; rfl) ?_
    refine aw_b kX7_ok bX7_costBy_58_ok (Cs := []) (pc' := 59) (L' := [some (aI k), some (aI f)]) (st' := [aI 4]) (σ' := σ) rfl trivial ?_
    exact aw_iret dX7_costBy_59 rfl ⟨aret (by unfold prF; (repeat' split) <;> omega), rfl⟩
set_option maxRecDepth 10000 in
theorem cM_cost (l : Launch) (d : Int) (σ : aS) (hs : MSH σ) (hd : aIr d) : AM l 3 mX7_cost [aR 21 0, aI d] σ (aF (some (aI (A_cost (σ 26 0 d) (σ 27 0 d) (σ 28 0 d) d))) σ) := by
  refine am_of (by decide) (Nat.le_of_ble_eq_true rfl) (L := [some (aR 21 0), some (aI d), none]) rfl ?_
  refine aw_b kX7_ok bX7_cost_0_ok (Cs := []) (pc' := 2) (L' := [some (aR 21 0), some (aI d), none]) (st' := [aI d, aR 21 0]) (σ' := σ) rfl trivial ?_
  refine aw_fV lX7_164 (as := [aI d]) (rest := []) (t := 21) (c := 0) (by decide) (by decide) (by decide) rfl rfl (Nat.le_of_ble_eq_true rfl) rfl dX7_cost_2 (cM_wrongKept l d σ hs ⟨by omega, by omega⟩) ?_
  have blk := lkF_rng (σ 26 0 d) d 1
  refine aw_b kX7_ok bX7_cost_5_ok (Cs := []) (pc' := 7) (L' := [some (aR 21 0), some (aI d), some (aI (lkF (σ 26 0 d) d 1))]) (st' := [aI (lkF (σ 26 0 d) d 1)]) (σ' := σ) rfl trivial ?_
  refine aw_ieq dX7_cost_7 (tgt := 14) (by decide) ⟨by omega, by omega⟩ (fun wh1 => ?_) (fun wh1 => ?_)
  · have hl := lkF_d (show lkF (σ 26 0 d) d 1 = 0 by omega)
    have bs := hs.1 d hl.1.1 hl.1.2
    have bk := bs.2.1 hl.2
    refine aw_b kX7_ok bX7_cost_14_ok (Cs := [0 < 1, 0 < 1, 0 ≤ d ∧ d < 8, 0 < 1, 0 < 1, 0 ≤ d ∧ d < 8]) (pc' := 26) (L' := [some (aR 21 0), some (aI d), some (aI (lkF (σ 26 0 d) d 1))]) (st' := [aI (σ 28 0 d), aI (σ 27 0 d)]) (σ' := σ) rfl (show (0 < 1) ∧ (0 < 1) ∧ (0 ≤ d ∧ d < 8) ∧ (0 < 1) ∧ (0 < 1) ∧ (0 ≤ d ∧ d < 8) from ⟨by omega, by omega, by omega, by omega, by omega, by omega⟩) ?_
    refine aw_fS lX7_259 (as := [aI (σ 27 0 d), aI (σ 28 0 d)]) (rest := []) (by decide) rfl (Nat.le_of_ble_eq_true rfl) rfl dX7_cost_26 (cM_costBy l (σ 27 0 d) (σ 28 0 d) σ ⟨by omega, by omega⟩ ⟨by omega, by omega⟩) ?_
    exact aw_iret dX7_cost_29 rfl ⟨aret (by unfold A_cost; rw [if_pos (by omega)]), rfl⟩
  · refine aw_b kX7_ok bX7_cost_10_ok (Cs := []) (pc' := 29) (L' := [some (aR 21 0), some (aI d), some (aI (lkF (σ 26 0 d) d 1))]) (st' := [aI (lkF (σ 26 0 d) d 1)]) (σ' := σ) rfl trivial ?_
    exact aw_iret dX7_cost_29 rfl ⟨aret (by unfold A_cost; rw [if_neg (by omega)]), rfl⟩
set_option maxRecDepth 10000 in
theorem cM_toss (l : Launch) (d : Int) (σ : aS) (hs : MSH σ) (hd : aIr d) : AM l 3 mX7_toss [aR 21 0, aI d] σ (aF (some (aI (A_toss (σ 26 0 d) (σ 27 0 d) (σ 28 0 d) d))) σ) := by
  refine am_of (by decide) (Nat.le_of_ble_eq_true rfl) (L := [some (aR 21 0), some (aI d), none, none, none]) rfl ?_
  refine aw_b kX7_ok bX7_toss_0_ok (Cs := []) (pc' := 2) (L' := [some (aR 21 0), some (aI d), none, none, none]) (st' := [aI d, aR 21 0]) (σ' := σ) rfl trivial ?_
  refine aw_fV lX7_164 (as := [aI d]) (rest := []) (t := 21) (c := 0) (by decide) (by decide) (by decide) rfl rfl (Nat.le_of_ble_eq_true rfl) rfl dX7_toss_2 (cM_wrongKept l d σ hs ⟨by omega, by omega⟩) ?_
  have blk := lkF_rng (σ 26 0 d) d 1
  refine aw_b kX7_ok bX7_toss_5_ok (Cs := []) (pc' := 7) (L' := [some (aR 21 0), some (aI d), some (aI (lkF (σ 26 0 d) d 1)), none, none]) (st' := [aI (lkF (σ 26 0 d) d 1)]) (σ' := σ) rfl trivial ?_
  refine aw_ieq dX7_toss_7 (tgt := 12) (by decide) ⟨by omega, by omega⟩ (fun wh1 => ?_) (fun wh1 => ?_)
  · have hl := lkF_d (show lkF (σ 26 0 d) d 1 = 0 by omega)
    have bs := hs.1 d hl.1.1 hl.1.2
    have bk := bs.2.1 hl.2
    refine aw_b kX7_ok bX7_toss_12_ok (Cs := [0 < 1, 0 < 1, 0 ≤ d ∧ d < 8, 0 < 1, 0 < 1, 0 ≤ d ∧ d < 8]) (pc' := 29) (L' := [some (aR 21 0), some (aI d), some (aI (lkF (σ 26 0 d) d 1)), some (aI (σ 27 0 d)), some (aI (σ 28 0 d))]) (st' := [aI 1, aI (σ 27 0 d)]) (σ' := σ) rfl (show (0 < 1) ∧ (0 < 1) ∧ (0 ≤ d ∧ d < 8) ∧ (0 < 1) ∧ (0 < 1) ∧ (0 ≤ d ∧ d < 8) from ⟨by omega, by omega, by omega, by omega, by omega, by omega⟩) ?_
    refine aw_ceq dX7_toss_29 (tgt := 48) (by decide) ⟨by omega, by omega⟩ ⟨by omega, by omega⟩ (fun wh2 => ?_) (fun wh2 => ?_)
    · refine aw_b kX7_ok bX7_toss_48_ok (Cs := []) (pc' := 50) (L' := [some (aR 21 0), some (aI d), some (aI (lkF (σ 26 0 d) d 1)), some (aI (σ 27 0 d)), some (aI (σ 28 0 d))]) (st' := [aI (-15)]) (σ' := σ) rfl trivial ?_
      exact aw_iret dX7_toss_50 rfl ⟨aret (by unfold A_toss; rw [if_pos (by omega)]; (repeat' split) <;> omega), rfl⟩
    · refine aw_b kX7_ok bX7_toss_32_ok (Cs := []) (pc' := 34) (L' := [some (aR 21 0), some (aI d), some (aI (lkF (σ 26 0 d) d 1)), some (aI (σ 27 0 d)), some (aI (σ 28 0 d))]) (st' := [aI 3, aI (σ 27 0 d)]) (σ' := σ) rfl trivial ?_
      refine aw_ceq dX7_toss_34 (tgt := 48) (by decide) ⟨by omega, by omega⟩ ⟨by omega, by omega⟩ (fun wh3 => ?_) (fun wh3 => ?_)
      · refine aw_b kX7_ok bX7_toss_48_ok (Cs := []) (pc' := 50) (L' := [some (aR 21 0), some (aI d), some (aI (lkF (σ 26 0 d) d 1)), some (aI (σ 27 0 d)), some (aI (σ 28 0 d))]) (st' := [aI (-15)]) (σ' := σ) rfl trivial ?_
        exact aw_iret dX7_toss_50 rfl ⟨aret (by unfold A_toss; rw [if_pos (by omega)]; (repeat' split) <;> omega), rfl⟩
      · refine aw_b kX7_ok bX7_toss_37_ok (Cs := []) (pc' := 40) (L' := [some (aR 21 0), some (aI d), some (aI (lkF (σ 26 0 d) d 1)), some (aI (σ 27 0 d)), some (aI (σ 28 0 d))]) (st' := [aI 6, aI (σ 27 0 d)]) (σ' := σ) rfl trivial ?_
        refine aw_ceq dX7_toss_40 (tgt := 48) (by decide) ⟨by omega, by omega⟩ ⟨by omega, by omega⟩ (fun wh4 => ?_) (fun wh4 => ?_)
        · refine aw_b kX7_ok bX7_toss_48_ok (Cs := []) (pc' := 50) (L' := [some (aR 21 0), some (aI d), some (aI (lkF (σ 26 0 d) d 1)), some (aI (σ 27 0 d)), some (aI (σ 28 0 d))]) (st' := [aI (-15)]) (σ' := σ) rfl trivial ?_
          exact aw_iret dX7_toss_50 rfl ⟨aret (by unfold A_toss; rw [if_pos (by omega)]; (repeat' split) <;> omega), rfl⟩
        · refine aw_b kX7_ok bX7_toss_43_ok (Cs := []) (pc' := 45) (L' := [some (aR 21 0), some (aI d), some (aI (lkF (σ 26 0 d) d 1)), some (aI (σ 27 0 d)), some (aI (σ 28 0 d))]) (st' := [aI (σ 28 0 d)]) (σ' := σ) rfl trivial ?_
          refine aw_ine dX7_toss_45 (tgt := 51) (by decide) ⟨by omega, by omega⟩ (fun wh5 => ?_) (fun wh5 => ?_)
          · refine aw_b kX7_ok bX7_toss_51_ok (Cs := []) (pc' := 54) (L' := [some (aR 21 0), some (aI d), some (aI (lkF (σ 26 0 d) d 1)), some (aI (σ 27 0 d)), some (aI (σ 28 0 d))]) (st' := [aI 7, aI (σ 27 0 d)]) (σ' := σ) rfl trivial ?_
            refine aw_cne dX7_toss_54 (tgt := 70) (by decide) ⟨by omega, by omega⟩ ⟨by omega, by omega⟩ (fun wh6 => ?_) (fun wh6 => ?_)
            · refine aw_b kX7_ok bX7_toss_70_ok (Cs := []) (pc' := 72) (L' := [some (aR 21 0), some (aI d), some (aI (lkF (σ 26 0 d) d 1)), some (aI (σ 27 0 d)), some (aI (σ 28 0 d))]) (st' := [aI 2, aI (σ 27 0 d)]) (σ' := σ) rfl trivial ?_
              refine aw_ceq dX7_toss_72 (tgt := 80) (by decide) ⟨by omega, by omega⟩ ⟨by omega, by omega⟩ (fun wh7 => ?_) (fun wh7 => ?_)
              · refine aw_b kX7_ok bX7_toss_80_ok (Cs := []) (pc' := 90) (L' := [some (aR 21 0), some (aI d), some (aI (lkF (σ 26 0 d) d 1)), some (aI (σ 27 0 d)), some (aI (σ 28 0 d))]) (st' := [aI (100 + (σ 28 0 d))]) (σ' := σ) rfl trivial ?_
                exact aw_iret dX7_toss_90 rfl ⟨aret (by unfold A_toss; rw [if_pos (by omega)]; (repeat' split) <;> omega), rfl⟩
              · refine aw_b kX7_ok bX7_toss_75_ok (Cs := []) (pc' := 77) (L' := [some (aR 21 0), some (aI d), some (aI (lkF (σ 26 0 d) d 1)), some (aI (σ 27 0 d)), some (aI (σ 28 0 d))]) (st' := [aI 4, aI (σ 27 0 d)]) (σ' := σ) rfl trivial ?_
                refine aw_cne dX7_toss_77 (tgt := 88) (by decide) ⟨by omega, by omega⟩ ⟨by omega, by omega⟩ (fun wh8 => ?_) (fun wh8 => ?_)
                · refine aw_b kX7_ok bX7_toss_88_ok (Cs := []) (pc' := 90) (L' := [some (aR 21 0), some (aI d), some (aI (lkF (σ 26 0 d) d 1)), some (aI (σ 27 0 d)), some (aI (σ 28 0 d))]) (st' := [aI (σ 28 0 d)]) (σ' := σ) rfl trivial ?_
                  exact aw_iret dX7_toss_90 rfl ⟨aret (by unfold A_toss; rw [if_pos (by omega)]; (repeat' split) <;> omega), rfl⟩
                · refine aw_b kX7_ok bX7_toss_80_ok (Cs := []) (pc' := 90) (L' := [some (aR 21 0), some (aI d), some (aI (lkF (σ 26 0 d) d 1)), some (aI (σ 27 0 d)), some (aI (σ 28 0 d))]) (st' := [aI (100 + (σ 28 0 d))]) (σ' := σ) rfl trivial ?_
                  exact aw_iret dX7_toss_90 rfl ⟨aret (by unfold A_toss; rw [if_pos (by omega)]; (repeat' split) <;> omega), rfl⟩
            · refine aw_b kX7_ok bX7_toss_57_ok (Cs := []) (pc' := 63) (L' := [some (aR 21 0), some (aI d), some (aI (lkF (σ 26 0 d) d 1)), some (aI (σ 27 0 d)), some (aI (σ 28 0 d))]) (st' := [aI (σ 28 0 d), aI (σ 27 0 d), aI 200]) (σ' := σ) rfl trivial ?_
              have e99 : beF (σ 27 0 d) (σ 28 0 d) = 99 := by unfold beF; (repeat' split) <;> omega
              refine aw_fS lX7_61 (as := [aI (σ 27 0 d), aI (σ 28 0 d)]) (rest := [aI 200]) (by decide) rfl (Nat.le_of_ble_eq_true rfl) rfl dX7_toss_63 (cM_bearsBy l (σ 27 0 d) (σ 28 0 d) σ ⟨by omega, by omega⟩ ⟨by omega, by omega⟩) ?_
              refine aw_b kX7_ok bX7_toss_66_ok (Cs := []) (pc' := 90) (L' := [some (aR 21 0), some (aI d), some (aI (lkF (σ 26 0 d) d 1)), some (aI (σ 27 0 d)), some (aI (σ 28 0 d))]) (st' := [aI (200 + (beF (σ 27 0 d) (σ 28 0 d)))]) (σ' := σ) rfl trivial ?_
              exact aw_iret dX7_toss_90 rfl ⟨aret (by unfold A_toss; rw [if_pos (by omega)]; (repeat' split) <;> omega), rfl⟩
          · refine aw_b kX7_ok bX7_toss_48_ok (Cs := []) (pc' := 50) (L' := [some (aR 21 0), some (aI d), some (aI (lkF (σ 26 0 d) d 1)), some (aI (σ 27 0 d)), some (aI (σ 28 0 d))]) (st' := [aI (-15)]) (σ' := σ) rfl trivial ?_
            exact aw_iret dX7_toss_50 rfl ⟨aret (by unfold A_toss; rw [if_pos (by omega)]; (repeat' split) <;> omega), rfl⟩
  · refine aw_b kX7_ok bX7_toss_10_ok (Cs := []) (pc' := 11) (L' := [some (aR 21 0), some (aI d), some (aI (lkF (σ 26 0 d) d 1)), none, none]) (st' := [aI (lkF (σ 26 0 d) d 1)]) (σ' := σ) rfl trivial ?_
    exact aw_iret dX7_toss_11 rfl ⟨aret (by unfold A_toss; rw [if_neg (by omega)]), rfl⟩
set_option maxRecDepth 10000 in
theorem cM_element (l : Launch) (d i : Int) (σ : aS) (hs : MSH σ) (hd : aIr d) (hi : aIr i) : AM l 2 mX7_element [aR 21 0, aI d, aI i] σ (aF (some (aL (if (thF (σ 26 0 d) (σ 30 0 d) d i) = 0 then mE σ d i else 0))) (aUp σ 21 0 18 (thF (σ 26 0 d) (σ 30 0 d) d i))) := by
  refine am_of (by decide) (Nat.le_of_ble_eq_true rfl) (L := [some (aR 21 0), some (aI d), some (aI i)]) rfl ?_
  refine aw_b kX7_ok bX7_element_0_ok (Cs := []) (pc' := 2) (L' := [some (aR 21 0), some (aI d), some (aI i)]) (st' := [aI d, aR 21 0]) (σ' := σ) rfl trivial ?_
  refine aw_bS lX7_256 (as := [aI d]) (rest := [aR 21 0]) (by decide) rfl (Nat.le_of_ble_eq_true rfl) rfl dX7_element_2 (cM_isShelf l d σ ⟨by omega, by omega⟩) (fun wh1 => ?_) (fun wh1 => ?_)
  · have bs := hs.1 d (by omega) (by omega)
    refine aw_ine dX7_element_5 (tgt := 12) (by decide) ⟨by omega, by omega⟩ (fun wh2 => ?_) (fun wh2 => absurd wh2 (by decide))
    refine aw_b kX7_ok bX7_element_12_ok (Cs := [0 < 1, 0 < 1, 0 ≤ d ∧ d < 8]) (pc' := 19) (L' := [some (aR 21 0), some (aI d), some (aI i)]) (st' := [aI 2, aI (σ 26 0 d), aR 21 0]) (σ' := σ) rfl (show (0 < 1) ∧ (0 < 1) ∧ (0 ≤ d ∧ d < 8) from ⟨by omega, by omega, by omega⟩) ?_
    refine aw_cne dX7_element_19 (tgt := 38) (by decide) ⟨by omega, by omega⟩ ⟨by omega, by omega⟩ (fun wh3 => ?_) (fun wh3 => ?_)
    · refine aw_b kX7_ok bX7_element_38_ok (Cs := []) (pc' := 43) (L' := [some (aR 21 0), some (aI d), some (aI i)]) (st' := [aI 2, aR 21 0]) (σ' := σ) rfl trivial ?_
      have eth : (thF (σ 26 0 d) (σ 30 0 d) d i) = 2 := by unfold thF; (repeat' split) <;> omega
      have esm : aUp σ 21 0 18 2 21 0 18 = 2 := aUp_same
      refine aw_b kX7_ok bX7_element_43_ok (Cs := [0 < 1, 0 < 1]) (pc' := 50) (L' := [some (aR 21 0), some (aI d), some (aI i)]) (st' := [aI ((aUp σ 21 0 18 2) 21 0 18)]) (σ' := aUp σ 21 0 18 2) rfl (show (0 < 1) ∧ (0 < 1) from ⟨by omega, by omega⟩) ?_
      refine aw_ine dX7_element_50 (tgt := 68) (by decide) ⟨by omega, by omega⟩ (fun wh4 => ?_) (fun wh4 => False.elim (by omega))
      refine aw_b kX7_ok bX7_element_68_ok (Cs := []) (pc' := 69) (L' := [some (aR 21 0), some (aI d), some (aI i)]) (st' := [aL 0]) (σ' := aUp σ 21 0 18 2) rfl trivial ?_
      exact aw_lret dX7_element_69 rfl ⟨alret (by rw [if_neg (by omega)]), by rw [eth]⟩
    · refine aw_b kX7_ok bX7_element_22_ok (Cs := [0 < 1, 0 < 1, 0 ≤ d ∧ d < 8]) (pc' := 32) (L' := [some (aR 21 0), some (aI d), some (aI i)]) (st' := [aI ((σ 30 0 d) - 1), aI 0, aI i, aR 21 0]) (σ' := σ) rfl (show (0 < 1) ∧ (0 < 1) ∧ (0 ≤ d ∧ d < 8) from ⟨by omega, by omega, by omega⟩) ?_
      refine aw_bS lX7_49 (as := [aI i, aI 0, aI ((σ 30 0 d) - 1)]) (rest := [aR 21 0]) (by decide) rfl (Nat.le_of_ble_eq_true rfl) rfl dX7_element_32 (cM_isIn l i 0 ((σ 30 0 d) - 1) σ ⟨by omega, by omega⟩ ⟨by omega, by omega⟩ ⟨by omega, by omega⟩) (fun wh5 => ?_) (fun wh5 => ?_)
      · refine aw_ine dX7_element_35 (tgt := 42) (by decide) ⟨by omega, by omega⟩ (fun wh6 => ?_) (fun wh6 => absurd wh6 (by decide))
        refine aw_b kX7_ok bX7_element_42_ok (Cs := []) (pc' := 43) (L' := [some (aR 21 0), some (aI d), some (aI i)]) (st' := [aI 0, aR 21 0]) (σ' := σ) rfl trivial ?_
        have eth : (thF (σ 26 0 d) (σ 30 0 d) d i) = 0 := by unfold thF; (repeat' split) <;> omega
        have esm : aUp σ 21 0 18 0 21 0 18 = 0 := aUp_same
        have bel := hs.2 (100 * d + i) (by omega) (by omega)
        have ese : aUp σ 21 0 18 0 31 0 (100 * d + i) = σ 31 0 (100 * d + i) := aUp_tag (by decide)
        refine aw_b kX7_ok bX7_element_43_ok (Cs := [0 < 1, 0 < 1]) (pc' := 50) (L' := [some (aR 21 0), some (aI d), some (aI i)]) (st' := [aI ((aUp σ 21 0 18 0) 21 0 18)]) (σ' := aUp σ 21 0 18 0) rfl (show (0 < 1) ∧ (0 < 1) from ⟨by omega, by omega⟩) ?_
        refine aw_ine dX7_element_50 (tgt := 68) (by decide) ⟨by omega, by omega⟩ (fun wh7 => False.elim (by omega)) (fun wh7 => ?_)
        refine aw_b kX7_ok bX7_element_53_ok (Cs := [0 < 1, 0 < 1, 0 ≤ (100 * d) + i ∧ (100 * d) + i < 800, -2147483648 ≤ (aUp σ 21 0 18 0) 31 0 ((100 * d) + i) ∧ (aUp σ 21 0 18 0) 31 0 ((100 * d) + i) < 2147483648]) (pc' := 69) (L' := [some (aR 21 0), some (aI d), some (aI i)]) (st' := [aL ((aUp σ 21 0 18 0) 31 0 ((100 * d) + i))]) (σ' := aUp σ 21 0 18 0) rfl (show (0 < 1) ∧ (0 < 1) ∧ (0 ≤ (100 * d) + i ∧ (100 * d) + i < 800) ∧ (-2147483648 ≤ (aUp σ 21 0 18 0) 31 0 ((100 * d) + i) ∧ (aUp σ 21 0 18 0) 31 0 ((100 * d) + i) < 2147483648) from ⟨by omega, by omega, by omega, by omega⟩) ?_
        exact aw_lret dX7_element_69 rfl ⟨alret (by rw [if_pos (by omega), ese]; rfl), by rw [eth]⟩
      · refine aw_ine dX7_element_35 (tgt := 42) (by decide) ⟨by omega, by omega⟩ (fun wh8 => absurd wh8 (by decide)) (fun wh8 => ?_)
        refine aw_b kX7_ok bX7_element_38_ok (Cs := []) (pc' := 43) (L' := [some (aR 21 0), some (aI d), some (aI i)]) (st' := [aI 2, aR 21 0]) (σ' := σ) rfl trivial ?_
        have eth : (thF (σ 26 0 d) (σ 30 0 d) d i) = 2 := by unfold thF; (repeat' split) <;> omega
        have esm : aUp σ 21 0 18 2 21 0 18 = 2 := aUp_same
        refine aw_b kX7_ok bX7_element_43_ok (Cs := [0 < 1, 0 < 1]) (pc' := 50) (L' := [some (aR 21 0), some (aI d), some (aI i)]) (st' := [aI ((aUp σ 21 0 18 2) 21 0 18)]) (σ' := aUp σ 21 0 18 2) rfl (show (0 < 1) ∧ (0 < 1) from ⟨by omega, by omega⟩) ?_
        refine aw_ine dX7_element_50 (tgt := 68) (by decide) ⟨by omega, by omega⟩ (fun wh9 => ?_) (fun wh9 => False.elim (by omega))
        refine aw_b kX7_ok bX7_element_68_ok (Cs := []) (pc' := 69) (L' := [some (aR 21 0), some (aI d), some (aI i)]) (st' := [aL 0]) (σ' := aUp σ 21 0 18 2) rfl trivial ?_
        exact aw_lret dX7_element_69 rfl ⟨alret (by rw [if_neg (by omega)]), by rw [eth]⟩
  · refine aw_ine dX7_element_5 (tgt := 12) (by decide) ⟨by omega, by omega⟩ (fun wh10 => absurd wh10 (by decide)) (fun wh10 => ?_)
    refine aw_b kX7_ok bX7_element_8_ok (Cs := []) (pc' := 43) (L' := [some (aR 21 0), some (aI d), some (aI i)]) (st' := [aI 1, aR 21 0]) (σ' := σ) rfl trivial ?_
    have eth : (thF (σ 26 0 d) (σ 30 0 d) d i) = 1 := by unfold thF; (repeat' split) <;> omega
    have esm : aUp σ 21 0 18 1 21 0 18 = 1 := aUp_same
    refine aw_b kX7_ok bX7_element_43_ok (Cs := [0 < 1, 0 < 1]) (pc' := 50) (L' := [some (aR 21 0), some (aI d), some (aI i)]) (st' := [aI ((aUp σ 21 0 18 1) 21 0 18)]) (σ' := aUp σ 21 0 18 1) rfl (show (0 < 1) ∧ (0 < 1) from ⟨by omega, by omega⟩) ?_
    refine aw_ine dX7_element_50 (tgt := 68) (by decide) ⟨by omega, by omega⟩ (fun wh11 => ?_) (fun wh11 => False.elim (by omega))
    refine aw_b kX7_ok bX7_element_68_ok (Cs := []) (pc' := 69) (L' := [some (aR 21 0), some (aI d), some (aI i)]) (st' := [aL 0]) (σ' := aUp σ 21 0 18 1) rfl trivial ?_
    exact aw_lret dX7_element_69 rfl ⟨alret (by rw [if_neg (by omega)]), by rw [eth]⟩
set_option maxRecDepth 10000 in
theorem cM_thrown (l : Launch) (σ : aS) : AM l 0 mX7_thrown [aR 21 0] σ (aF (some (aI (σ 21 0 18))) σ) := by
  refine am_of (by decide) (Nat.le_of_ble_eq_true rfl) (L := [some (aR 21 0)]) rfl ?_
  refine aw_b kX7_ok bX7_thrown_0_ok (Cs := [0 < 1]) (pc' := 4) (L' := [some (aR 21 0)]) (st' := [aI (σ 21 0 18)]) (σ' := σ) rfl (show 0 < 1 from by omega) ?_
  exact aw_iret dX7_thrown_4 rfl ⟨rfl, rfl⟩
