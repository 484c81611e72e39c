/-! ===== the model: small methods ===== -/
set_option maxRecDepth 10000 in
theorem cM_isIn (l : Launch) (v a b : Int) (σ : aS) (h1 : aIr v) (h2 : aIr a) (h3 : aIr b) : AM l 0 mX7_isIn [aI v, aI a, aI b] σ (aF (some (aI (if a ≤ v ∧ v ≤ b then 1 else 0))) σ) := by
  refine am_of (by decide) (Nat.le_of_ble_eq_true rfl) (L := [some (aI v), some (aI a), some (aI b)]) rfl ?_
  refine aw_b kX7_ok bX7_isIn_0_ok (Cs := []) (pc' := 2) (L' := [some (aI v), some (aI a), some (aI b)]) (st' := [aI a, aI v]) (σ' := σ) rfl trivial ?_
  refine aw_clt dX7_isIn_2 (tgt := 14) (by decide) ⟨by omega, by omega⟩ ⟨by omega, by omega⟩ (fun wh1 => ?_) (fun wh1 => ?_)
  · refine aw_b kX7_ok bX7_isIn_14_ok (Cs := []) (pc' := 15) (L' := [some (aI v), some (aI a), some (aI b)]) (st' := [aI 0]) (σ' := σ) rfl trivial ?_
    exact aw_zret dX7_isIn_15 rfl (by omega) ⟨aret (by split <;> omega), rfl⟩
  · refine aw_b kX7_ok bX7_isIn_5_ok (Cs := []) (pc' := 7) (L' := [some (aI v), some (aI a), some (aI b)]) (st' := [aI b, aI v]) (σ' := σ) rfl trivial ?_
    refine aw_cgt dX7_isIn_7 (tgt := 14) (by decide) ⟨by omega, by omega⟩ ⟨by omega, by omega⟩ (fun wh2 => ?_) (fun wh2 => ?_)
    · refine aw_b kX7_ok bX7_isIn_14_ok (Cs := []) (pc' := 15) (L' := [some (aI v), some (aI a), some (aI b)]) (st' := [aI 0]) (σ' := σ) rfl trivial ?_
      exact aw_zret dX7_isIn_15 rfl (by omega) ⟨aret (by split <;> omega), rfl⟩
    · refine aw_b kX7_ok bX7_isIn_10_ok (Cs := []) (pc' := 15) (L' := [some (aI v), some (aI a), some (aI b)]) (st' := [aI 1]) (σ' := σ) rfl trivial ?_
      exact aw_zret dX7_isIn_15 rfl (by omega) ⟨aret (by split <;> omega), rfl⟩
set_option maxRecDepth 10000 in
theorem cM_sized (l : Launch) (v : Int) (σ : aS) (h1 : aIr v) : AM l 0 mX7_sized [aI v] σ (aF (some (aI (if v < 0 then -v else v))) σ) := by
  refine am_of (by decide) (Nat.le_of_ble_eq_true rfl) (L := [some (aI v)]) rfl ?_
  refine aw_b kX7_ok bX7_sized_0_ok (Cs := []) (pc' := 1) (L' := [some (aI v)]) (st' := [aI v]) (σ' := σ) rfl trivial ?_
  refine aw_ige dX7_sized_1 (tgt := 9) (by decide) ⟨by omega, by omega⟩ (fun wh1 => ?_) (fun wh1 => ?_)
  · refine aw_b kX7_ok bX7_sized_9_ok (Cs := []) (pc' := 10) (L' := [some (aI v)]) (st' := [aI v]) (σ' := σ) rfl trivial ?_
    exact aw_iret dX7_sized_10 rfl ⟨aret (by split <;> omega), rfl⟩
  · refine aw_b kX7_ok bX7_sized_4_ok (Cs := []) (pc' := 10) (L' := [some (aI v)]) (st' := [aI (-v)]) (σ' := σ) rfl trivial ?_
    exact aw_iret dX7_sized_10 rfl ⟨aret (by split <;> omega), rfl⟩
set_option maxRecDepth 10000 in
theorem cM_least (l : Launch) (a b : Int) (σ : aS) (h1 : aIr a) (h2 : aIr b) : AM l 0 mX7_least [aI a, aI b] σ (aF (some (aI (if a < b then a else b))) σ) := by
  refine am_of (by decide) (Nat.le_of_ble_eq_true rfl) (L := [some (aI a), some (aI b)]) rfl ?_
  refine aw_b kX7_ok bX7_least_0_ok (Cs := []) (pc' := 2) (L' := [some (aI a), some (aI b)]) (st' := [aI b, aI a]) (σ' := σ) rfl trivial ?_
  refine aw_cge dX7_least_2 (tgt := 9) (by decide) ⟨by omega, by omega⟩ ⟨by omega, by omega⟩ (fun wh1 => ?_) (fun wh1 => ?_)
  · refine aw_b kX7_ok bX7_least_9_ok (Cs := []) (pc' := 10) (L' := [some (aI a), some (aI b)]) (st' := [aI b]) (σ' := σ) rfl trivial ?_
    exact aw_iret dX7_least_10 rfl ⟨aret (by split <;> omega), rfl⟩
  · refine aw_b kX7_ok bX7_least_5_ok (Cs := []) (pc' := 10) (L' := [some (aI a), some (aI b)]) (st' := [aI a]) (σ' := σ) rfl trivial ?_
    exact aw_iret dX7_least_10 rfl ⟨aret (by split <;> omega), rfl⟩
set_option maxRecDepth 10000 in
theorem cM_lessBy (l : Launch) (a b : Int) (σ : aS) (h1 : aIr a) (h2 : aIr b) : AM l 0 mX7_lessBy [aI a, aI b] σ (aF (some (aI (if a < b then 0 else a - b))) σ) := by
  refine am_of (by decide) (Nat.le_of_ble_eq_true rfl) (L := [some (aI a), some (aI b)]) rfl ?_
  refine aw_b kX7_ok bX7_lessBy_0_ok (Cs := []) (pc' := 2) (L' := [some (aI a), some (aI b)]) (st' := [aI b, aI a]) (σ' := σ) rfl trivial ?_
  refine aw_cge dX7_lessBy_2 (tgt := 9) (by decide) ⟨by omega, by omega⟩ ⟨by omega, by omega⟩ (fun wh1 => ?_) (fun wh1 => ?_)
  · refine aw_b kX7_ok bX7_lessBy_9_ok (Cs := []) (pc' := 12) (L' := [some (aI a), some (aI b)]) (st' := [aI (a - b)]) (σ' := σ) rfl trivial ?_
    exact aw_iret dX7_lessBy_12 rfl ⟨aret (by split <;> omega), rfl⟩
  · refine aw_b kX7_ok bX7_lessBy_5_ok (Cs := []) (pc' := 12) (L' := [some (aI a), some (aI b)]) (st' := [aI 0]) (σ' := σ) rfl trivial ?_
    exact aw_iret dX7_lessBy_12 rfl ⟨aret (by split <;> omega), rfl⟩
set_option maxRecDepth 10000 in
theorem cM_of (l : Launch) (p w : Int) (σ : aS) : AM l 0 mX7_of [aI p, aI w] σ (aF (some (aI (aOf p w))) σ) := by
  refine am_of (by decide) (Nat.le_of_ble_eq_true rfl) (L := [some (aI p), some (aI w)]) rfl ?_
  refine aw_b kX7_ok bX7_of_0_ok (Cs := []) (pc' := 8) (L' := [some (aI p), some (aI w)]) (st' := [aI ((13 + (4 * p)) + w)]) (σ' := σ) rfl trivial ?_
  exact aw_iret dX7_of_8 rfl ⟨rfl, rfl⟩
set_option maxRecDepth 10000 in
theorem cM_isOffice (l : Launch) (v : Int) (σ : aS) (h1 : aIr v) : AM l 1 mX7_isOffice [aI v] σ (aF (some (aI (if 0 ≤ v ∧ v ≤ 4 then 1 else 0))) σ) := by
  refine am_of (by decide) (Nat.le_of_ble_eq_true rfl) (L := [some (aI v)]) rfl ?_
  refine aw_b kX7_ok bX7_isOffice_0_ok (Cs := []) (pc' := 3) (L' := [some (aI v)]) (st' := [aI 4, aI 0, aI v]) (σ' := σ) rfl trivial ?_
  refine aw_bS lX7_49 (as := [aI v, aI 0, aI 4]) (rest := []) (by decide) rfl (Nat.le_of_ble_eq_true rfl) rfl dX7_isOffice_3 (cM_isIn l v 0 4 σ ⟨by omega, by omega⟩ ⟨by omega, by omega⟩ ⟨by omega, by omega⟩) (fun wh1 => ?_) (fun wh1 => ?_)
  · exact aw_zret dX7_isOffice_6 rfl (by omega) ⟨aret (by split <;> omega), rfl⟩
  · exact aw_zret dX7_isOffice_6 rfl (by omega) ⟨aret (by split <;> omega), rfl⟩
set_option maxRecDepth 10000 in
theorem cM_isShelf (l : Launch) (v : Int) (σ : aS) (h1 : aIr v) : AM l 1 mX7_isShelf [aI v] σ (aF (some (aI (if 0 ≤ v ∧ v ≤ 7 then 1 else 0))) σ) := by
  refine am_of (by decide) (Nat.le_of_ble_eq_true rfl) (L := [some (aI v)]) rfl ?_
  refine aw_b kX7_ok bX7_isShelf_0_ok (Cs := []) (pc' := 4) (L' := [some (aI v)]) (st' := [aI 7, aI 0, aI v]) (σ' := σ) rfl trivial ?_
  refine aw_bS lX7_49 (as := [aI v, aI 0, aI 7]) (rest := []) (by decide) rfl (Nat.le_of_ble_eq_true rfl) rfl dX7_isShelf_4 (cM_isIn l v 0 7 σ ⟨by omega, by omega⟩ ⟨by omega, by omega⟩ ⟨by omega, by omega⟩) (fun wh1 => ?_) (fun wh1 => ?_)
  · exact aw_zret dX7_isShelf_7 rfl (by omega) ⟨aret (by split <;> omega), rfl⟩
  · exact aw_zret dX7_isShelf_7 rfl (by omega) ⟨aret (by split <;> omega), rfl⟩
set_option maxRecDepth 10000 in
theorem cM_isLate (l : Launch) (v : Int) (σ : aS) (h1 : aIr v) : AM l 1 mX7_isLate [aI v] σ (aF (some (aI (if 0 ≤ v ∧ v ≤ 60 then 1 else 0))) σ) := by
  refine am_of (by decide) (Nat.le_of_ble_eq_true rfl) (L := [some (aI v)]) rfl ?_
  refine aw_b kX7_ok bX7_isLate_0_ok (Cs := []) (pc' := 4) (L' := [some (aI v)]) (st' := [aI 60, aI 0, aI v]) (σ' := σ) rfl trivial ?_
  refine aw_bS lX7_49 (as := [aI v, aI 0, aI 60]) (rest := []) (by decide) rfl (Nat.le_of_ble_eq_true rfl) rfl dX7_isLate_4 (cM_isIn l v 0 60 σ ⟨by omega, by omega⟩ ⟨by omega, by omega⟩ ⟨by omega, by omega⟩) (fun wh1 => ?_) (fun wh1 => ?_)
  · exact aw_zret dX7_isLate_7 rfl (by omega) ⟨aret (by split <;> omega), rfl⟩
  · exact aw_zret dX7_isLate_7 rfl (by omega) ⟨aret (by split <;> omega), rfl⟩
set_option maxRecDepth 10000 in
theorem cM_isMate (l : Launch) (v : Int) (σ : aS) (h1 : aIr v) : AM l 1 mX7_isMate [aI v] σ (aF (some (aI (if (0 ≤ v ∧ v ≤ 7) ∨ v = 9 then 1 else 0))) σ) := by
  refine am_of (by decide) (Nat.le_of_ble_eq_true rfl) (L := [some (aI v)]) rfl ?_
  refine aw_b kX7_ok bX7_isMate_0_ok (Cs := []) (pc' := 4) (L' := [some (aI v)]) (st' := [aI 7, aI 0, aI v]) (σ' := σ) rfl trivial ?_
  refine aw_bS lX7_49 (as := [aI v, aI 0, aI 7]) (rest := []) (by decide) rfl (Nat.le_of_ble_eq_true rfl) rfl dX7_isMate_4 (cM_isIn l v 0 7 σ ⟨by omega, by omega⟩ ⟨by omega, by omega⟩ ⟨by omega, by omega⟩) (fun wh1 => ?_) (fun wh1 => ?_)
  · refine aw_ine dX7_isMate_7 (tgt := 16) (by decide) ⟨by omega, by omega⟩ (fun wh2 => ?_) (fun wh2 => absurd wh2 (by decide))
    refine aw_b kX7_ok bX7_isMate_16_ok (Cs := []) (pc' := 21) (L' := [some (aI v)]) (st' := [aI 1]) (σ' := σ) rfl trivial ?_
    exact aw_zret dX7_isMate_21 rfl (by omega) ⟨aret (by split <;> omega), rfl⟩
  · refine aw_ine dX7_isMate_7 (tgt := 16) (by decide) ⟨by omega, by omega⟩ (fun wh3 => absurd wh3 (by decide)) (fun wh3 => ?_)
    refine aw_b kX7_ok bX7_isMate_10_ok (Cs := []) (pc' := 13) (L' := [some (aI v)]) (st' := [aI 9, aI v]) (σ' := σ) rfl trivial ?_
    refine aw_cne dX7_isMate_13 (tgt := 20) (by decide) ⟨by omega, by omega⟩ ⟨by omega, by omega⟩ (fun wh4 => ?_) (fun wh4 => ?_)
    · refine aw_b kX7_ok bX7_isMate_20_ok (Cs := []) (pc' := 21) (L' := [some (aI v)]) (st' := [aI 0]) (σ' := σ) rfl trivial ?_
      exact aw_zret dX7_isMate_21 rfl (by omega) ⟨aret (by split <;> omega), rfl⟩
    · refine aw_b kX7_ok bX7_isMate_16_ok (Cs := []) (pc' := 21) (L' := [some (aI v)]) (st' := [aI 1]) (σ' := σ) rfl trivial ?_
      exact aw_zret dX7_isMate_21 rfl (by omega) ⟨aret (by split <;> omega), rfl⟩
set_option maxRecDepth 10000 in
theorem cM_isOne (l : Launch) (p : Int) (σ : aS) (h1 : aIr p) (h2 : 0 ≤ σ 22 0 0 ∧ σ 22 0 0 ≤ 8) : AM l 1 mX7_isOne [aR 21 0, aI p] σ (aF (some (aI (if 0 ≤ p ∧ p < σ 22 0 0 then 1 else 0))) σ) := by
  refine am_of (by decide) (Nat.le_of_ble_eq_true rfl) (L := [some (aR 21 0), some (aI p)]) rfl ?_
  refine aw_b kX7_ok bX7_isOne_0_ok (Cs := [0 < 1, 0 < 4, 0 ≤ 0 ∧ 0 < 45]) (pc' := 10) (L' := [some (aR 21 0), some (aI p)]) (st' := [aI ((σ 22 0 0) - 1), aI 0, aI p]) (σ' := σ) rfl (show (0 < 1) ∧ (0 < 4) ∧ (0 ≤ 0 ∧ 0 < 45) from ⟨by omega, by omega, by omega⟩) ?_
  refine aw_bS lX7_49 (as := [aI p, aI 0, aI ((σ 22 0 0) - 1)]) (rest := []) (by decide) rfl (Nat.le_of_ble_eq_true rfl) rfl dX7_isOne_10 (cM_isIn l p 0 ((σ 22 0 0) - 1) σ ⟨by omega, by omega⟩ ⟨by omega, by omega⟩ ⟨by omega, by omega⟩) (fun wh1 => ?_) (fun wh1 => ?_)
  · exact aw_zret dX7_isOne_13 rfl (by omega) ⟨aret (by split <;> omega), rfl⟩
  · exact aw_zret dX7_isOne_13 rfl (by omega) ⟨aret (by split <;> omega), rfl⟩
set_option maxRecDepth 10000 in
theorem cM_showsBy (l : Launch) (k f c d : Int) (σ : aS) (h1 : 0 ≤ k ∧ k ≤ 7) (h2 : 0 ≤ f ∧ f ≤ 9) (h3 : 0 ≤ c ∧ c ≤ 9) (h4 : 0 ≤ d ∧ d ≤ 1000000) : AM l 1 mX7_showsBy [aI k, aI f, aI c, aI d] σ (aF (some (aI (shF k f c d))) σ) := by
  have em : d.tmod 2 = d % 2 := Int.tmod_eq_emod_of_nonneg h4.1
  refine am_of (by decide) (Nat.le_of_ble_eq_true rfl) (L := [some (aI k), some (aI f), some (aI c), some (aI d), none]) rfl ?_
  refine aw_b kX7_ok bX7_showsBy_0_ok (Cs := []) (pc' := 4) (L' := [some (aI k), some (aI f), some (aI c), some (aI d), none]) (st' := [aI (c - f), aI 1]) (σ' := σ) rfl trivial ?_
  have ez : 0 ≤ (if c - f < 0 then -(c - f) else c - f) ∧ (if c - f < 0 then -(c - f) else c - f) ≤ 9 := by split <;> omega
  refine aw_fS lX7_53 (as := [aI (c - f)]) (rest := [aI 1]) (by decide) rfl (Nat.le_of_ble_eq_true rfl) rfl dX7_showsBy_4 (cM_sized l (c - f) σ ⟨by omega, by omega⟩) ?_
  generalize hz : (if c - f < 0 then -(c - f) else c - f) = z at ez ⊢
  refine aw_b kX7_ok bX7_showsBy_7_ok (Cs := [-2147483648 ≤ z ∧ z < 2147483648, 0 < 3 ∧ 3 < 2147483648]) (pc' := 13) (L' := [some (aI k), some (aI f), some (aI c), some (aI d), some (aI (1 + (Int.tdiv z 3)))]) (st' := [aI k]) (σ' := σ) rfl (show (-2147483648 ≤ z ∧ z < 2147483648) ∧ (0 < 3 ∧ 3 < 2147483648) from ⟨by omega, by omega⟩) ?_
  rcases (show k = 1 ∨ k = 2 ∨ k = 3 ∨ k = 4 ∨ k = 5 ∨ k = 6 ∨ k = 7 ∨ (k < 1 ∨ 7 < k) by omega) with wh1 | wh1 | wh1 | wh1 | wh1 | wh1 | wh1 | wh1
  · refine aw_tsw dX7_showsBy_13 (tgt := 56) ⟨by omega, by omega⟩ (by decide) (by rw [wh1]; decide) ?_
    refine aw_b kX7_ok bX7_showsBy_56_ok (Cs := []) (pc' := 58) (L' := [some (aI k), some (aI f), some (aI c), some (aI d), some (aI (1 + (Int.tdiv z 3)))]) (st' := [aI 6]) (σ' := σ) rfl trivial ?_
    exact aw_iret dX7_showsBy_58 rfl ⟨aret (by unfold shF; simp [*] <;> omega), rfl⟩
  · refine aw_tsw dX7_showsBy_13 (tgt := 59) ⟨by omega, by omega⟩ (by decide) (by rw [wh1]; decide) ?_
    refine aw_b kX7_ok bX7_showsBy_59_ok (Cs := []) (pc' := 61) (L' := [some (aI k), some (aI f), some (aI c), some (aI d), some (aI (1 + (Int.tdiv z 3)))]) (st' := [aI (1 + (Int.tdiv z 3))]) (σ' := σ) rfl trivial ?_
    exact aw_iret dX7_showsBy_61 rfl ⟨aret (by unfold shF; simp [*] <;> omega), rfl⟩
  · refine aw_tsw dX7_showsBy_13 (tgt := 62) ⟨by omega, by omega⟩ (by decide) (by rw [wh1]; decide) ?_
    refine aw_b kX7_ok bX7_showsBy_62_ok (Cs := [-2147483648 ≤ d ∧ d < 2147483648, 0 < 2 ∧ 2 < 2147483648]) (pc' := 66) (L' := [some (aI k), some (aI f), some (aI c), some (aI d), some (aI (1 + (Int.tdiv z 3)))]) (st' := [aI 1, aI (Int.tmod d 2)]) (σ' := σ) rfl (show (-2147483648 ≤ d ∧ d < 2147483648) ∧ (0 < 2 ∧ 2 < 2147483648) from ⟨by omega, by omega⟩) ?_
    refine aw_cne dX7_showsBy_66 (tgt := 76) (by decide) ⟨by omega, by omega⟩ ⟨by omega, by omega⟩ (fun wh2 => ?_) (fun wh2 => ?_)
    · refine aw_b kX7_ok bX7_showsBy_76_ok (Cs := []) (pc' := 78) (L' := [some (aI k), some (aI f), some (aI c), some (aI d), some (aI (1 + (Int.tdiv z 3)))]) (st' := [aI 6]) (σ' := σ) rfl trivial ?_
      exact aw_iret dX7_showsBy_78 rfl ⟨aret (by unfold shF; simp [*] <;> omega), rfl⟩
    · refine aw_b kX7_ok bX7_showsBy_69_ok (Cs := []) (pc' := 78) (L' := [some (aI k), some (aI f), some (aI c), some (aI d), some (aI (1 + (Int.tdiv z 3)))]) (st' := [aI (6 + f)]) (σ' := σ) rfl trivial ?_
      exact aw_iret dX7_showsBy_78 rfl ⟨aret (by unfold shF; simp [*] <;> omega), rfl⟩
  · refine aw_tsw dX7_showsBy_13 (tgt := 79) ⟨by omega, by omega⟩ (by decide) (by rw [wh1]; decide) ?_
    refine aw_b kX7_ok bX7_showsBy_79_ok (Cs := []) (pc' := 81) (L' := [some (aI k), some (aI f), some (aI c), some (aI d), some (aI (1 + (Int.tdiv z 3)))]) (st' := [aI f, aI c]) (σ' := σ) rfl trivial ?_
    refine aw_cne dX7_showsBy_81 (tgt := 88) (by decide) ⟨by omega, by omega⟩ ⟨by omega, by omega⟩ (fun wh3 => ?_) (fun wh3 => ?_)
    · refine aw_b kX7_ok bX7_showsBy_88_ok (Cs := []) (pc' := 90) (L' := [some (aI k), some (aI f), some (aI c), some (aI d), some (aI (1 + (Int.tdiv z 3)))]) (st' := [aI (1 + (Int.tdiv z 3))]) (σ' := σ) rfl trivial ?_
      exact aw_iret dX7_showsBy_90 rfl ⟨aret (by unfold shF; simp [*] <;> omega), rfl⟩
    · refine aw_b kX7_ok bX7_showsBy_84_ok (Cs := []) (pc' := 90) (L' := [some (aI k), some (aI f), some (aI c), some (aI d), some (aI (1 + (Int.tdiv z 3)))]) (st' := [aI 0]) (σ' := σ) rfl trivial ?_
      exact aw_iret dX7_showsBy_90 rfl ⟨aret (by unfold shF; simp [*] <;> omega), rfl⟩
  · refine aw_tsw dX7_showsBy_13 (tgt := 91) ⟨by omega, by omega⟩ (by decide) (by rw [wh1]; decide) ?_
    refine aw_b kX7_ok bX7_showsBy_91_ok (Cs := []) (pc' := 93) (L' := [some (aI k), some (aI f), some (aI c), some (aI d), some (aI (1 + (Int.tdiv z 3)))]) (st' := [aI 2, aI c]) (σ' := σ) rfl trivial ?_
    refine aw_cge dX7_showsBy_93 (tgt := 102) (by decide) ⟨by omega, by omega⟩ ⟨by omega, by omega⟩ (fun wh4 => ?_) (fun wh4 => ?_)
    · refine aw_b kX7_ok bX7_showsBy_102_ok (Cs := []) (pc' := 103) (L' := [some (aI k), some (aI f), some (aI c), some (aI d), some (aI (1 + (Int.tdiv z 3)))]) (st' := [aI 1]) (σ' := σ) rfl trivial ?_
      exact aw_iret dX7_showsBy_103 rfl ⟨aret (by unfold shF; simp [*] <;> omega), rfl⟩
    · refine aw_b kX7_ok bX7_showsBy_96_ok (Cs := []) (pc' := 103) (L' := [some (aI k), some (aI f), some (aI c), some (aI d), some (aI (1 + (Int.tdiv z 3)))]) (st' := [aI (3 - c)]) (σ' := σ) rfl trivial ?_
      exact aw_iret dX7_showsBy_103 rfl ⟨aret (by unfold shF; simp [*] <;> omega), rfl⟩
  · refine aw_tsw dX7_showsBy_13 (tgt := 104) ⟨by omega, by omega⟩ (by decide) (by rw [wh1]; decide) ?_
    refine aw_b kX7_ok bX7_showsBy_104_ok (Cs := []) (pc' := 106) (L' := [some (aI k), some (aI f), some (aI c), some (aI d), some (aI (1 + (Int.tdiv z 3)))]) (st' := [aI f, aI c]) (σ' := σ) rfl trivial ?_
    refine aw_cge dX7_showsBy_106 (tgt := 114) (by decide) ⟨by omega, by omega⟩ ⟨by omega, by omega⟩ (fun wh5 => ?_) (fun wh5 => ?_)
    · refine aw_b kX7_ok bX7_showsBy_114_ok (Cs := []) (pc' := 116) (L' := [some (aI k), some (aI f), some (aI c), some (aI d), some (aI (1 + (Int.tdiv z 3)))]) (st' := [aI 6]) (σ' := σ) rfl trivial ?_
      exact aw_iret dX7_showsBy_116 rfl ⟨aret (by unfold shF; simp [*] <;> omega), rfl⟩
    · refine aw_b kX7_ok bX7_showsBy_109_ok (Cs := []) (pc' := 116) (L' := [some (aI k), some (aI f), some (aI c), some (aI d), some (aI (1 + (Int.tdiv z 3)))]) (st' := [aI 9]) (σ' := σ) rfl trivial ?_
      exact aw_iret dX7_showsBy_116 rfl ⟨aret (by unfold shF; simp [*] <;> omega), rfl⟩
  · refine aw_tsw dX7_showsBy_13 (tgt := 117) ⟨by omega, by omega⟩ (by decide) (by rw [wh1]; decide) ?_
    refine aw_b kX7_ok bX7_showsBy_117_ok (Cs := []) (pc' := 118) (L' := [some (aI k), some (aI f), some (aI c), some (aI d), some (aI (1 + (Int.tdiv z 3)))]) (st' := [aI 0]) (σ' := σ) rfl trivial ?_
    exact aw_iret dX7_showsBy_118 rfl ⟨aret (by unfold shF; simp [*] <;> omega), rfl⟩
  · refine aw_tsw dX7_showsBy_13 (tgt := 119) ⟨by omega, by omega⟩ (by decide) (by unfold aTgt; rw [if_pos (by omega)]; rfl) ?_
    refine aw_b kX7_ok bX7_showsBy_119_ok (Cs := []) (pc' := 120) (L' := [some (aI k), some (aI f), some (aI c), some (aI d), some (aI (1 + (Int.tdiv z 3)))]) (st' := [aI 3]) (σ' := σ) rfl trivial ?_
    exact aw_iret dX7_showsBy_120 rfl ⟨aret (by unfold shF; simp [*] <;> omega), rfl⟩
set_option maxRecDepth 10000 in
theorem cM_bearsBy (l : Launch) (k f : Int) (σ : aS) (h1 : 0 ≤ k ∧ k ≤ 7) (h2 : 0 ≤ f ∧ f ≤ 9) : AM l 0 mX7_bearsBy [aI k, aI f] σ (aF (some (aI (beF k f))) σ) := by
  refine am_of (by decide) (Nat.le_of_ble_eq_true rfl) (L := [some (aI k), some (aI f)]) rfl ?_
  refine aw_b kX7_ok bX7_bearsBy_0_ok (Cs := []) (pc' := 1) (L' := [some (aI k), some (aI f)]) (st' := [aI k]) (σ' := σ) rfl trivial ?_
  rcases (show k = 1 ∨ k = 2 ∨ k = 3 ∨ k = 4 ∨ k = 5 ∨ k = 6 ∨ k = 7 ∨ (k < 1 ∨ 7 < k) by omega) with wh1 | wh1 | wh1 | wh1 | wh1 | wh1 | wh1 | wh1
  · refine aw_tsw dX7_bearsBy_1 (tgt := 44) ⟨by omega, by omega⟩ (by decide) (by rw [wh1]; decide) ?_
    refine aw_b kX7_ok bX7_bearsBy_44_ok (Cs := []) (pc' := 46) (L' := [some (aI k), some (aI f)]) (st' := [aI 15]) (σ' := σ) rfl trivial ?_
    exact aw_iret dX7_bearsBy_46 rfl ⟨aret (by unfold beF; (repeat' split) <;> omega), rfl⟩
  · refine aw_tsw dX7_bearsBy_1 (tgt := 47) ⟨by omega, by omega⟩ (by decide) (by rw [wh1]; decide) ?_
    refine aw_b kX7_ok bX7_bearsBy_47_ok (Cs := []) (pc' := 51) (L' := [some (aI k), some (aI f)]) (st' := [aI (20 + f)]) (σ' := σ) rfl trivial ?_
    exact aw_iret dX7_bearsBy_51 rfl ⟨aret (by unfold beF; (repeat' split) <;> omega), rfl⟩
  · refine aw_tsw dX7_bearsBy_1 (tgt := 44) ⟨by omega, by omega⟩ (by decide) (by rw [wh1]; decide) ?_
    refine aw_b kX7_ok bX7_bearsBy_44_ok (Cs := []) (pc' := 46) (L' := [some (aI k), some (aI f)]) (st' := [aI 15]) (σ' := σ) rfl trivial ?_
    exact aw_iret dX7_bearsBy_46 rfl ⟨aret (by unfold beF; (repeat' split) <;> omega), rfl⟩
  · refine aw_tsw dX7_bearsBy_1 (tgt := 52) ⟨by omega, by omega⟩ (by decide) (by rw [wh1]; decide) ?_
    refine aw_b kX7_ok bX7_bearsBy_52_ok (Cs := []) (pc' := 58) (L' := [some (aI k), some (aI f)]) (st' := [aI (2 * (20 + f))]) (σ' := σ) rfl trivial ?_
    exact aw_iret dX7_bearsBy_58 rfl ⟨aret (by unfold beF; (repeat' split) <;> omega), rfl⟩
  · refine aw_tsw dX7_bearsBy_1 (tgt := 59) ⟨by omega, by omega⟩ (by decide) (by rw [wh1]; decide) ?_
    refine aw_b kX7_ok bX7_bearsBy_59_ok (Cs := []) (pc' := 65) (L' := [some (aI k), some (aI f)]) (st' := [aI (20 + (2 * f))]) (σ' := σ) rfl trivial ?_
    exact aw_iret dX7_bearsBy_65 rfl ⟨aret (by unfold beF; (repeat' split) <;> omega), rfl⟩
  · refine aw_tsw dX7_bearsBy_1 (tgt := 66) ⟨by omega, by omega⟩ (by decide) (by rw [wh1]; decide) ?_
    refine aw_b kX7_ok bX7_bearsBy_66_ok (Cs := []) (pc' := 68) (L' := [some (aI k), some (aI f)]) (st' := [aI 7]) (σ' := σ) rfl trivial ?_
    exact aw_iret dX7_bearsBy_68 rfl ⟨aret (by unfold beF; (repeat' split) <;> omega), rfl⟩
  · refine aw_tsw dX7_bearsBy_1 (tgt := 69) ⟨by omega, by omega⟩ (by decide) (by rw [wh1]; decide) ?_
    refine aw_b kX7_ok bX7_bearsBy_69_ok (Cs := []) (pc' := 71) (L' := [some (aI k), some (aI f)]) (st' := [aI 99]) (σ' := σ) rfl trivial ?_
    exact aw_iret dX7_bearsBy_71 rfl ⟨aret (by unfold beF; (repeat' split) <;> omega), rfl⟩
  · refine aw_tsw dX7_bearsBy_1 (tgt := 72) ⟨by omega, by omega⟩ (by decide) (by unfold aTgt; rw [if_pos (by omega)]; rfl) ?_
    refine aw_b kX7_ok bX7_bearsBy_72_ok (Cs := []) (pc' := 74) (L' := [some (aI k), some (aI f)]) (st' := [aI 20]) (σ' := σ) rfl trivial ?_
    exact aw_iret dX7_bearsBy_74 rfl ⟨aret (by unfold beF; (repeat' split) <;> omega), rfl⟩
set_option maxRecDepth 10000 in
theorem cM_forgetsBy (l : Launch) (k f : Int) (σ : aS) (h1 : 0 ≤ k ∧ k ≤ 7) (h2 : 0 ≤ f ∧ f ≤ 9) : AM l 0 mX7_forgetsBy [aI k, aI f] σ (aF (some (aI (foF k f))) σ) := by
  refine am_of (by decide) (Nat.le_of_ble_eq_true rfl) (L := [some (aI k), some (aI f)]) rfl ?_
  refine aw_b kX7_ok bX7_forgetsBy_0_ok (Cs := []) (pc' := 1) (L' := [some (aI k), some (aI f)]) (st' := [aI k]) (σ' := σ) rfl trivial ?_
  rcases (show k = 1 ∨ k = 2 ∨ k = 3 ∨ k = 4 ∨ k = 5 ∨ k = 6 ∨ k = 7 ∨ (k < 1 ∨ 7 < k) by omega) with wh1 | wh1 | wh1 | wh1 | wh1 | wh1 | wh1 | wh1
  · refine aw_tsw dX7_forgetsBy_1 (tgt := 44) ⟨by omega, by omega⟩ (by decide) (by rw [wh1]; decide) ?_
    refine aw_b kX7_ok bX7_forgetsBy_44_ok (Cs := []) (pc' := 45) (L' := [some (aI k), some (aI f)]) (st' := [aI 1]) (σ' := σ) rfl trivial ?_
    exact aw_iret dX7_forgetsBy_45 rfl ⟨aret (by unfold foF; (repeat' split) <;> omega), rfl⟩
  · refine aw_tsw dX7_forgetsBy_1 (tgt := 46) ⟨by omega, by omega⟩ (by decide) (by rw [wh1]; decide) ?_
    refine aw_b kX7_ok bX7_forgetsBy_46_ok (Cs := []) (pc' := 47) (L' := [some (aI k), some (aI f)]) (st' := [aI 3]) (σ' := σ) rfl trivial ?_
    exact aw_iret dX7_forgetsBy_47 rfl ⟨aret (by unfold foF; (repeat' split) <;> omega), rfl⟩
  · refine aw_tsw dX7_forgetsBy_1 (tgt := 48) ⟨by omega, by omega⟩ (by decide) (by rw [wh1]; decide) ?_
    refine aw_b kX7_ok bX7_forgetsBy_48_ok (Cs := []) (pc' := 49) (L' := [some (aI k), some (aI f)]) (st' := [aI 0]) (σ' := σ) rfl trivial ?_
    exact aw_iret dX7_forgetsBy_49 rfl ⟨aret (by unfold foF; (repeat' split) <;> omega), rfl⟩
  · refine aw_tsw dX7_forgetsBy_1 (tgt := 46) ⟨by omega, by omega⟩ (by decide) (by rw [wh1]; decide) ?_
    refine aw_b kX7_ok bX7_forgetsBy_46_ok (Cs := []) (pc' := 47) (L' := [some (aI k), some (aI f)]) (st' := [aI 3]) (σ' := σ) rfl trivial ?_
    exact aw_iret dX7_forgetsBy_47 rfl ⟨aret (by unfold foF; (repeat' split) <;> omega), rfl⟩
  · refine aw_tsw dX7_forgetsBy_1 (tgt := 50) ⟨by omega, by omega⟩ (by decide) (by rw [wh1]; decide) ?_
    refine aw_b kX7_ok bX7_forgetsBy_50_ok (Cs := []) (pc' := 51) (L' := [some (aI k), some (aI f)]) (st' := [aI f]) (σ' := σ) rfl trivial ?_
    exact aw_iret dX7_forgetsBy_51 rfl ⟨aret (by unfold foF; (repeat' split) <;> omega), rfl⟩
  · refine aw_tsw dX7_forgetsBy_1 (tgt := 44) ⟨by omega, by omega⟩ (by decide) (by rw [wh1]; decide) ?_
    refine aw_b kX7_ok bX7_forgetsBy_44_ok (Cs := []) (pc' := 45) (L' := [some (aI k), some (aI f)]) (st' := [aI 1]) (σ' := σ) rfl trivial ?_
    exact aw_iret dX7_forgetsBy_45 rfl ⟨aret (by unfold foF; (repeat' split) <;> omega), rfl⟩
  · refine aw_tsw dX7_forgetsBy_1 (tgt := 52) ⟨by omega, by omega⟩ (by decide) (by rw [wh1]; decide) ?_
    refine aw_b kX7_ok bX7_forgetsBy_52_ok (Cs := []) (pc' := 54) (L' := [some (aI k), some (aI f)]) (st' := [aI 9]) (σ' := σ) rfl trivial ?_
    exact aw_iret dX7_forgetsBy_54 rfl ⟨aret (by unfold foF; (repeat' split) <;> omega), rfl⟩
  · refine aw_tsw dX7_forgetsBy_1 (tgt := 55) ⟨by omega, by omega⟩ (by decide) (by unfold aTgt; rw [if_pos (by omega)]; rfl) ?_
    refine aw_b kX7_ok bX7_forgetsBy_55_ok (Cs := []) (pc' := 56) (L' := [some (aI k), some (aI f)]) (st' := [aI 2]) (σ' := σ) rfl trivial ?_
    exact aw_iret dX7_forgetsBy_56 rfl ⟨aret (by unfold foF; (repeat' split) <;> omega), rfl⟩
set_option maxRecDepth 10000 in
theorem cM_bears (l : Launch) (c : Nat) (hc : c < 4) (p : Int) (σ : aS) (hw : WF (σ 22 c)) (h0 : 0 ≤ p) (h1 : p < σ 22 c 0) : AM l 1 mX7_bears [aR 22 c, aI p] σ (aF (some (aI (beR (σ 22 c) p))) σ) := by
  have bp := hw.pe h0 h1
  have bn := hw.1
  have ba := aOf_rng (p := p) (w := 0) h0 (by omega) (by decide) (by decide)
  have bb := aOf_rng (p := p) (w := 1) h0 (by omega) (by decide) (by decide)
  have bc := aOf_rng (p := p) (w := 2) h0 (by omega) (by decide) (by decide)
  have bd := aOf_rng (p := p) (w := 3) h0 (by omega) (by decide) (by decide)
  refine am_of (by decide) (Nat.le_of_ble_eq_true rfl) (L := [some (aR 22 c), some (aI p)]) rfl ?_
  refine aw_b kX7_ok bX7_bears_0_ok (Cs := []) (pc' := 3) (L' := [some (aR 22 c), some (aI p)]) (st' := [aI 0, aI p, aR 22 c]) (σ' := σ) rfl trivial ?_
  refine aw_fS lX7_57 (as := [aI p, aI 0]) (rest := [aR 22 c]) (by decide) rfl (Nat.le_of_ble_eq_true rfl) rfl dX7_bears_3 (cM_of l p 0 σ) ?_
  refine aw_b kX7_ok bX7_bears_6_ok (Cs := [c < 4, 0 ≤ aOf p 0 ∧ aOf p 0 < 45]) (pc' := 10) (L' := [some (aR 22 c), some (aI p)]) (st' := [aI 1, aI p, aR 22 c, aI (σ 22 c (aOf p 0))]) (σ' := σ) rfl (show (c < 4) ∧ (0 ≤ aOf p 0 ∧ aOf p 0 < 45) from ⟨by omega, by omega⟩) ?_
  refine aw_fS lX7_57 (as := [aI p, aI 1]) (rest := [aR 22 c, aI (σ 22 c (aOf p 0))]) (by decide) rfl (Nat.le_of_ble_eq_true rfl) rfl dX7_bears_10 (cM_of l p 1 σ) ?_
  refine aw_b kX7_ok bX7_bears_13_ok (Cs := [c < 4, 0 ≤ aOf p 1 ∧ aOf p 1 < 45]) (pc' := 14) (L' := [some (aR 22 c), some (aI p)]) (st' := [aI (σ 22 c (aOf p 1)), aI (σ 22 c (aOf p 0))]) (σ' := σ) rfl (show (c < 4) ∧ (0 ≤ aOf p 1 ∧ aOf p 1 < 45) from ⟨by omega, by omega⟩) ?_
  refine aw_fS lX7_61 (as := [aI (σ 22 c (aOf p 0)), aI (σ 22 c (aOf p 1))]) (rest := []) (by decide) rfl (Nat.le_of_ble_eq_true rfl) rfl dX7_bears_14 (cM_bearsBy l (σ 22 c (aOf p 0)) (σ 22 c (aOf p 1)) σ ⟨by omega, by omega⟩ ⟨by omega, by omega⟩) ?_
  exact aw_iret dX7_bears_17 rfl ⟨rfl, rfl⟩
set_option maxRecDepth 10000 in
theorem cM_officeOf (l : Launch) (c : Nat) (hc : c < 4) (p : Int) (σ : aS) (hp : aIr p) (hw : WF (σ 22 c)) : AM l 0 mX7_officeOf [aR 22 c, aI p] σ (aF (some (aI (off (σ 22 c) p))) σ) := by
  have b8 := hw.r8
  have bn := hw.1
  refine am_of (by decide) (Nat.le_of_ble_eq_true rfl) (L := [some (aR 22 c), some (aI p), none]) rfl ?_
  refine aw_b kX7_ok bX7_officeOf_0_ok (Cs := []) (pc' := 2) (L' := [some (aR 22 c), some (aI p), some (aI 0)]) (st' := []) (σ' := σ) rfl trivial ?_
  refine aw_b kX7_ok bX7_officeOf_2_ok (Cs := []) (pc' := 4) (L' := [some (aR 22 c), some (aI p), some (aI 0)]) (st' := [aI 5, aI 0]) (σ' := σ) rfl trivial ?_
  refine aw_cge dX7_officeOf_4 (tgt := 25) (by decide) ⟨by omega, by omega⟩ ⟨by omega, by omega⟩ (fun wh1 => absurd wh1 (by decide)) (fun wh1 => ?_)
  refine aw_b kX7_ok bX7_officeOf_7_ok (Cs := [c < 4, 0 ≤ 8 ∧ 8 < 45]) (pc' := 14) (L' := [some (aR 22 c), some (aI p), some (aI 0)]) (st' := [aI p, aI (σ 22 c 8)]) (σ' := σ) rfl (show (c < 4) ∧ (0 ≤ 8 ∧ 8 < 45) from ⟨by omega, by omega⟩) ?_
  refine aw_cne dX7_officeOf_14 (tgt := 19) (by decide) ⟨by omega, by omega⟩ ⟨by omega, by omega⟩ (fun wh2 => ?_) (fun wh2 => ?_)
  · refine aw_b kX7_ok bX7_officeOf_19_ok (Cs := []) (pc' := 2) (L' := [some (aR 22 c), some (aI p), some (aI 1)]) (st' := []) (σ' := σ) rfl trivial ?_
    refine aw_b kX7_ok bX7_officeOf_2_ok (Cs := []) (pc' := 4) (L' := [some (aR 22 c), some (aI p), some (aI 1)]) (st' := [aI 5, aI 1]) (σ' := σ) rfl trivial ?_
    refine aw_cge dX7_officeOf_4 (tgt := 25) (by decide) ⟨by omega, by omega⟩ ⟨by omega, by omega⟩ (fun wh3 => absurd wh3 (by decide)) (fun wh3 => ?_)
    refine aw_b kX7_ok bX7_officeOf_7_ok (Cs := [c < 4, 0 ≤ 9 ∧ 9 < 45]) (pc' := 14) (L' := [some (aR 22 c), some (aI p), some (aI 1)]) (st' := [aI p, aI (σ 22 c 9)]) (σ' := σ) rfl (show (c < 4) ∧ (0 ≤ 9 ∧ 9 < 45) from ⟨by omega, by omega⟩) ?_
    refine aw_cne dX7_officeOf_14 (tgt := 19) (by decide) ⟨by omega, by omega⟩ ⟨by omega, by omega⟩ (fun wh4 => ?_) (fun wh4 => ?_)
    · refine aw_b kX7_ok bX7_officeOf_19_ok (Cs := []) (pc' := 2) (L' := [some (aR 22 c), some (aI p), some (aI 2)]) (st' := []) (σ' := σ) rfl trivial ?_
      refine aw_b kX7_ok bX7_officeOf_2_ok (Cs := []) (pc' := 4) (L' := [some (aR 22 c), some (aI p), some (aI 2)]) (st' := [aI 5, aI 2]) (σ' := σ) rfl trivial ?_
      refine aw_cge dX7_officeOf_4 (tgt := 25) (by decide) ⟨by omega, by omega⟩ ⟨by omega, by omega⟩ (fun wh5 => absurd wh5 (by decide)) (fun wh5 => ?_)
      refine aw_b kX7_ok bX7_officeOf_7_ok (Cs := [c < 4, 0 ≤ 10 ∧ 10 < 45]) (pc' := 14) (L' := [some (aR 22 c), some (aI p), some (aI 2)]) (st' := [aI p, aI (σ 22 c 10)]) (σ' := σ) rfl (show (c < 4) ∧ (0 ≤ 10 ∧ 10 < 45) from ⟨by omega, by omega⟩) ?_
      refine aw_cne dX7_officeOf_14 (tgt := 19) (by decide) ⟨by omega, by omega⟩ ⟨by omega, by omega⟩ (fun wh6 => ?_) (fun wh6 => ?_)
      · refine aw_b kX7_ok bX7_officeOf_19_ok (Cs := []) (pc' := 2) (L' := [some (aR 22 c), some (aI p), some (aI 3)]) (st' := []) (σ' := σ) rfl trivial ?_
        refine aw_b kX7_ok bX7_officeOf_2_ok (Cs := []) (pc' := 4) (L' := [some (aR 22 c), some (aI p), some (aI 3)]) (st' := [aI 5, aI 3]) (σ' := σ) rfl trivial ?_
        refine aw_cge dX7_officeOf_4 (tgt := 25) (by decide) ⟨by omega, by omega⟩ ⟨by omega, by omega⟩ (fun wh7 => absurd wh7 (by decide)) (fun wh7 => ?_)
        refine aw_b kX7_ok bX7_officeOf_7_ok (Cs := [c < 4, 0 ≤ 11 ∧ 11 < 45]) (pc' := 14) (L' := [some (aR 22 c), some (aI p), some (aI 3)]) (st' := [aI p, aI (σ 22 c 11)]) (σ' := σ) rfl (show (c < 4) ∧ (0 ≤ 11 ∧ 11 < 45) from ⟨by omega, by omega⟩) ?_
        refine aw_cne dX7_officeOf_14 (tgt := 19) (by decide) ⟨by omega, by omega⟩ ⟨by omega, by omega⟩ (fun wh8 => ?_) (fun wh8 => ?_)
        · refine aw_b kX7_ok bX7_officeOf_19_ok (Cs := []) (pc' := 2) (L' := [some (aR 22 c), some (aI p), some (aI 4)]) (st' := []) (σ' := σ) rfl trivial ?_
          refine aw_b kX7_ok bX7_officeOf_2_ok (Cs := []) (pc' := 4) (L' := [some (aR 22 c), some (aI p), some (aI 4)]) (st' := [aI 5, aI 4]) (σ' := σ) rfl trivial ?_
          refine aw_cge dX7_officeOf_4 (tgt := 25) (by decide) ⟨by omega, by omega⟩ ⟨by omega, by omega⟩ (fun wh9 => absurd wh9 (by decide)) (fun wh9 => ?_)
          refine aw_b kX7_ok bX7_officeOf_7_ok (Cs := [c < 4, 0 ≤ 12 ∧ 12 < 45]) (pc' := 14) (L' := [some (aR 22 c), some (aI p), some (aI 4)]) (st' := [aI p, aI (σ 22 c 12)]) (σ' := σ) rfl (show (c < 4) ∧ (0 ≤ 12 ∧ 12 < 45) from ⟨by omega, by omega⟩) ?_
          refine aw_cne dX7_officeOf_14 (tgt := 19) (by decide) ⟨by omega, by omega⟩ ⟨by omega, by omega⟩ (fun wh10 => ?_) (fun wh10 => ?_)
          · refine aw_b kX7_ok bX7_officeOf_19_ok (Cs := []) (pc' := 2) (L' := [some (aR 22 c), some (aI p), some (aI 5)]) (st' := []) (σ' := σ) rfl trivial ?_
            refine aw_b kX7_ok bX7_officeOf_2_ok (Cs := []) (pc' := 4) (L' := [some (aR 22 c), some (aI p), some (aI 5)]) (st' := [aI 5, aI 5]) (σ' := σ) rfl trivial ?_
            refine aw_cge dX7_officeOf_4 (tgt := 25) (by decide) ⟨by omega, by omega⟩ ⟨by omega, by omega⟩ (fun wh11 => ?_) (fun wh11 => absurd wh11 (by decide))
            refine aw_b kX7_ok bX7_officeOf_25_ok (Cs := []) (pc' := 27) (L' := [some (aR 22 c), some (aI p), some (aI 5)]) (st' := [aI (-4)]) (σ' := σ) rfl trivial ?_
            exact aw_iret dX7_officeOf_27 rfl ⟨aret (by unfold off; simp [*]), rfl⟩
          · refine aw_b kX7_ok bX7_officeOf_17_ok (Cs := []) (pc' := 18) (L' := [some (aR 22 c), some (aI p), some (aI 4)]) (st' := [aI 4]) (σ' := σ) rfl trivial ?_
            exact aw_iret dX7_officeOf_18 rfl ⟨aret (by unfold off; simp [*]), rfl⟩
        · refine aw_b kX7_ok bX7_officeOf_17_ok (Cs := []) (pc' := 18) (L' := [some (aR 22 c), some (aI p), some (aI 3)]) (st' := [aI 3]) (σ' := σ) rfl trivial ?_
          exact aw_iret dX7_officeOf_18 rfl ⟨aret (by unfold off; simp [*]), rfl⟩
      · refine aw_b kX7_ok bX7_officeOf_17_ok (Cs := []) (pc' := 18) (L' := [some (aR 22 c), some (aI p), some (aI 2)]) (st' := [aI 2]) (σ' := σ) rfl trivial ?_
        exact aw_iret dX7_officeOf_18 rfl ⟨aret (by unfold off; simp [*]), rfl⟩
    · refine aw_b kX7_ok bX7_officeOf_17_ok (Cs := []) (pc' := 18) (L' := [some (aR 22 c), some (aI p), some (aI 1)]) (st' := [aI 1]) (σ' := σ) rfl trivial ?_
      exact aw_iret dX7_officeOf_18 rfl ⟨aret (by unfold off; simp [*]), rfl⟩
  · refine aw_b kX7_ok bX7_officeOf_17_ok (Cs := []) (pc' := 18) (L' := [some (aR 22 c), some (aI p), some (aI 0)]) (st' := [aI 0]) (σ' := σ) rfl trivial ?_
    exact aw_iret dX7_officeOf_18 rfl ⟨aret (by unfold off; simp [*]), rfl⟩
set_option maxRecDepth 10000 in
theorem cM_isCommon (l : Launch) (c : Nat) (hc : c < 4) (k : Int) (σ : aS) (hk : aIr k) (hw : WF (σ 22 c)) : AM l 0 mX7_isCommon [aR 22 c, aI k] σ (aF (some (aI (if 1 < cntC (σ 22 c) k 5 then 1 else 0))) σ) := by
  have bn := hw.1
  refine am_of (by decide) (Nat.le_of_ble_eq_true rfl) (L := [some (aR 22 c), some (aI k), none, none]) rfl ?_
  refine aw_b kX7_ok bX7_isCommon_0_ok (Cs := []) (pc' := 4) (L' := [some (aR 22 c), some (aI k), some (aI 0), some (aI 0)]) (st' := []) (σ' := σ) rfl trivial ?_
  refine aloop (P := fun n : Nat => AW l 0 mX7_isCommon _ 4 [some (aR 22 c), some (aI k), some (aI (cntC (σ 22 c) k n)), some (aI (n : Int))] [] σ) (5) (fun n hn ihn => ?_)
  have q0 := cntC_le (σ 22 c) k n
  refine aw_b kX7_ok bX7_isCommon_4_ok (Cs := []) (pc' := 6) (L' := [some (aR 22 c), some (aI k), some (aI (cntC (σ 22 c) k n)), some (aI (n : Int))]) (st' := [aI 5, aI (n : Int)]) (σ' := σ) rfl trivial ?_
  refine aw_cge dX7_isCommon_6 (tgt := 41) (by decide) ⟨by omega, by omega⟩ ⟨by omega, by omega⟩ (fun wh1 => ?_) (fun wh1 => ?_)
  · have e5 : n = 5 := by omega
    refine aw_b kX7_ok bX7_isCommon_41_ok (Cs := []) (pc' := 43) (L' := [some (aR 22 c), some (aI k), some (aI (cntC (σ 22 c) k n)), some (aI (n : Int))]) (st' := [aI 1, aI (cntC (σ 22 c) k n)]) (σ' := σ) rfl trivial ?_
    refine aw_cle dX7_isCommon_43 (tgt := 50) (by decide) ⟨by omega, by omega⟩ ⟨by omega, by omega⟩ (fun wh2 => ?_) (fun wh2 => ?_)
    · refine aw_b kX7_ok bX7_isCommon_50_ok (Cs := []) (pc' := 51) (L' := [some (aR 22 c), some (aI k), some (aI (cntC (σ 22 c) k n)), some (aI (n : Int))]) (st' := [aI 0]) (σ' := σ) rfl trivial ?_
      exact aw_zret dX7_isCommon_51 rfl (by omega) ⟨aret (by subst e5; split <;> omega), rfl⟩
    · refine aw_b kX7_ok bX7_isCommon_46_ok (Cs := []) (pc' := 51) (L' := [some (aR 22 c), some (aI k), some (aI (cntC (σ 22 c) k n)), some (aI (n : Int))]) (st' := [aI 1]) (σ' := σ) rfl trivial ?_
      exact aw_zret dX7_isCommon_51 rfl (by omega) ⟨aret (by subst e5; split <;> omega), rfl⟩
  · have g1 := hw.ho (f := (n : Int)) (by omega) (by omega)
    have g2 := hw.co (f := (n : Int)) (by omega) (by omega)
    refine aw_b kX7_ok bX7_isCommon_9_ok (Cs := [c < 4, 0 ≤ 8 + (n : Int) ∧ 8 + (n : Int) < 45]) (pc' := 16) (L' := [some (aR 22 c), some (aI k), some (aI (cntC (σ 22 c) k n)), some (aI (n : Int))]) (st' := [aI (σ 22 c (8 + (n : Int))), aI (cntC (σ 22 c) k n)]) (σ' := σ) rfl (show (c < 4) ∧ (0 ≤ 8 + (n : Int) ∧ 8 + (n : Int) < 45) from ⟨by omega, by omega⟩) ?_
    refine aw_ilt dX7_isCommon_16 (tgt := 32) (by decide) ⟨by omega, by omega⟩ (fun wh3 => ?_) (fun wh3 => ?_)
    · refine aw_b kX7_ok bX7_isCommon_32_ok (Cs := []) (pc' := 33) (L' := [some (aR 22 c), some (aI k), some (aI (cntC (σ 22 c) k n)), some (aI (n : Int))]) (st' := [aI 0, aI (cntC (σ 22 c) k n)]) (σ' := σ) rfl trivial ?_
      refine aw_b kX7_ok bX7_isCommon_33_ok (Cs := []) (pc' := 4) (L' := [some (aR 22 c), some (aI k), some (aI ((cntC (σ 22 c) k n) + 0)), some (aI ((n : Int) + 1))]) (st' := []) (σ' := σ) rfl trivial ?_
      exact aw_eq (by simp [cntC, *] <;> omega) rfl rfl (ihn (by omega))
    · refine aw_b kX7_ok bX7_isCommon_19_ok (Cs := [c < 4, 0 ≤ 3 + (n : Int) ∧ 3 + (n : Int) < 45]) (pc' := 25) (L' := [some (aR 22 c), some (aI k), some (aI (cntC (σ 22 c) k n)), some (aI (n : Int))]) (st' := [aI k, aI (σ 22 c (3 + (n : Int))), aI (cntC (σ 22 c) k n)]) (σ' := σ) rfl (show (c < 4) ∧ (0 ≤ 3 + (n : Int) ∧ 3 + (n : Int) < 45) from ⟨by omega, by omega⟩) ?_
      refine aw_cne dX7_isCommon_25 (tgt := 32) (by decide) ⟨by omega, by omega⟩ ⟨by omega, by omega⟩ (fun wh4 => ?_) (fun wh4 => ?_)
      · refine aw_b kX7_ok bX7_isCommon_32_ok (Cs := []) (pc' := 33) (L' := [some (aR 22 c), some (aI k), some (aI (cntC (σ 22 c) k n)), some (aI (n : Int))]) (st' := [aI 0, aI (cntC (σ 22 c) k n)]) (σ' := σ) rfl trivial ?_
        refine aw_b kX7_ok bX7_isCommon_33_ok (Cs := []) (pc' := 4) (L' := [some (aR 22 c), some (aI k), some (aI ((cntC (σ 22 c) k n) + 0)), some (aI ((n : Int) + 1))]) (st' := []) (σ' := σ) rfl trivial ?_
        exact aw_eq (by simp [cntC, *] <;> omega) rfl rfl (ihn (by omega))
      · refine aw_b kX7_ok bX7_isCommon_28_ok (Cs := []) (pc' := 33) (L' := [some (aR 22 c), some (aI k), some (aI (cntC (σ 22 c) k n)), some (aI (n : Int))]) (st' := [aI 1, aI (cntC (σ 22 c) k n)]) (σ' := σ) rfl trivial ?_
        refine aw_b kX7_ok bX7_isCommon_33_ok (Cs := []) (pc' := 4) (L' := [some (aR 22 c), some (aI k), some (aI ((cntC (σ 22 c) k n) + 1)), some (aI ((n : Int) + 1))]) (st' := []) (σ' := σ) rfl trivial ?_
        exact aw_eq (by simp [cntC, *] <;> omega) rfl rfl (ihn (by omega))
theorem shCut2 {kind f k day z : Int} (h2 : 0 ≤ f ∧ f ≤ 9) (h3 : 0 ≤ k ∧ k ≤ 9) (hz : z = 1 ∨ z = 2) : 0 ≤ (shF kind f k day).tdiv z ∧ (shF kind f k day).tdiv z ≤ 15 := by
  have e := shF_rng (kind := kind) (day := day) h2 h3
  rw [Int.tdiv_eq_ediv_of_nonneg e.1]
  rcases hz with rfl | rfl <;> omega
def hbN (r : aRw) : Nat → Int
  | 0 => 0
  | n + 1 => hbN r n + (if 0 ≤ r (8 + n) then 2 ^ n else 0)
theorem aOr_pow : ∀ n : Nat, n < 5 → ∀ x : Nat, x < 2 ^ n → aOr x (1 * 2 ^ (Int.toNat (n : Int))) = x + 2 ^ n ∧ aOr x 0 = x := by decide +kernel
theorem hbN_rng (r : aRw) : ∀ n : Nat, 0 ≤ hbN r n ∧ hbN r n < 2 ^ n
  | 0 => ⟨Int.le_refl 0, (show (0 : Int) < 1 from by decide)⟩
  | n + 1 => by
    have h := hbN_rng r n
    unfold hbN
    rw [Int.pow_succ]
    split <;> omega
theorem hbN_step (r : aRw) {n : Nat} (hn : n < 5) : aOr (hbN r n) (1 * 2 ^ (Int.toNat (n : Int))) = hbN r n + 2 ^ n ∧ aOr (hbN r n) 0 = hbN r n := by
  have h := hbN_rng r n
  obtain ⟨x, hx⟩ := Int.eq_ofNat_of_zero_le h.1
  rw [hx] at h ⊢
  have h2 : x < 2 ^ n := by have := h.2; exact_mod_cast this
  exact aOr_pow n hn x h2
set_option maxRecDepth 10000 in
theorem cM_heldIn (l : Launch) (c : Nat) (hc : c < 4) (σ : aS) (hw : WF (σ 22 c)) : AM l 0 mX7_heldIn [aR 22 c] σ (aF (some (aI (hbN (σ 22 c) 5))) σ) := by
  have bn := hw.1
  refine am_of (by decide) (Nat.le_of_ble_eq_true rfl) (L := [some (aR 22 c), none, none]) rfl ?_
  refine aw_b kX7_ok bX7_heldIn_0_ok (Cs := []) (pc' := 4) (L' := [some (aR 22 c), some (aI 0), some (aI 0)]) (st' := []) (σ' := σ) rfl trivial ?_
  refine aloop (P := fun n : Nat => AW l 0 mX7_heldIn _ 4 [some (aR 22 c), some (aI (hbN (σ 22 c) n)), some (aI (n : Int))] [] σ) (5) (fun n hn ihn => ?_)
  refine aw_b kX7_ok bX7_heldIn_4_ok (Cs := []) (pc' := 6) (L' := [some (aR 22 c), some (aI (hbN (σ 22 c) n)), some (aI (n : Int))]) (st' := [aI 5, aI (n : Int)]) (σ' := σ) rfl trivial ?_
  refine aw_cge dX7_heldIn_6 (tgt := 34) (by decide) ⟨by omega, by omega⟩ ⟨by omega, by omega⟩ (fun wh1 => ?_) (fun wh1 => ?_)
  · have e5 : n = 5 := by omega
    refine aw_b kX7_ok bX7_heldIn_34_ok (Cs := []) (pc' := 35) (L' := [some (aR 22 c), some (aI (hbN (σ 22 c) n)), some (aI (n : Int))]) (st' := [aI (hbN (σ 22 c) n)]) (σ' := σ) rfl trivial ?_
    exact aw_iret dX7_heldIn_35 rfl ⟨aret (by subst e5; rfl), rfl⟩
  · have hlt : n < 5 := by omega
    have g1 := hw.ho (f := (n : Int)) (by omega) (by omega)
    refine aw_b kX7_ok bX7_heldIn_9_ok (Cs := [c < 4, 0 ≤ 8 + (n : Int) ∧ 8 + (n : Int) < 45]) (pc' := 16) (L' := [some (aR 22 c), some (aI (hbN (σ 22 c) n)), some (aI (n : Int))]) (st' := [aI (σ 22 c (8 + (n : Int))), aI (hbN (σ 22 c) n)]) (σ' := σ) rfl (show (c < 4) ∧ (0 ≤ 8 + (n : Int) ∧ 8 + (n : Int) < 45) from ⟨by omega, by omega⟩) ?_
    refine aw_ilt dX7_heldIn_16 (tgt := 25) (by decide) ⟨by omega, by omega⟩ (fun wh2 => ?_) (fun wh2 => ?_)
    · refine aw_b kX7_ok bX7_heldIn_25_ok (Cs := []) (pc' := 26) (L' := [some (aR 22 c), some (aI (hbN (σ 22 c) n)), some (aI (n : Int))]) (st' := [aI 0, aI (hbN (σ 22 c) n)]) (σ' := σ) rfl trivial ?_
      refine aw_b kX7_ok bX7_heldIn_26_ok (Cs := []) (pc' := 4) (L' := [some (aR 22 c), some (aI (aOr (hbN (σ 22 c) n) 0)), some (aI ((n : Int) + 1))]) (st' := []) (σ' := σ) rfl trivial ?_
      exact aw_eq (by simp only [hbN_step _ hlt, hbN, *]; simp [*] <;> omega) rfl rfl (ihn (by omega))
    · refine aw_b kX7_ok bX7_heldIn_19_ok (Cs := [0 ≤ (n : Int) ∧ (n : Int) < 32]) (pc' := 26) (L' := [some (aR 22 c), some (aI (hbN (σ 22 c) n)), some (aI (n : Int))]) (st' := [aI (1 * 2 ^ (Int.toNat (n : Int))), aI (hbN (σ 22 c) n)]) (σ' := σ) rfl (show 0 ≤ (n : Int) ∧ (n : Int) < 32 from by omega) ?_
      refine aw_b kX7_ok bX7_heldIn_26_ok (Cs := []) (pc' := 4) (L' := [some (aR 22 c), some (aI (aOr (hbN (σ 22 c) n) (1 * 2 ^ (Int.toNat (n : Int))))), some (aI ((n : Int) + 1))]) (st' := []) (σ' := σ) rfl trivial ?_
      exact aw_eq (by simp only [hbN_step _ hlt, hbN, *]; simp [*] <;> omega) rfl rfl (ihn (by omega))
set_option maxRecDepth 10000 in
theorem cM_isSeen (l : Launch) (c : Nat) (hc : c < 4) (p : Int) (σ : aS) (hw : WF (σ 22 c)) (h0 : 0 ≤ p) (h1 : p < σ 22 c 0) (hd : σ 22 c 1 ≤ 1000000) : AM l 2 mX7_isSeen [aR 22 c, aI p] σ (aF none (aRow σ c (seR (σ 22 c) p))) := by
  have bp := hw.pe h0 h1
  have bn := hw.1
  have ba := aOf_rng (p := p) (w := 0) h0 (by omega) (by decide) (by decide)
  have bb := aOf_rng (p := p) (w := 1) h0 (by omega) (by decide) (by decide)
  have bc := aOf_rng (p := p) (w := 2) h0 (by omega) (by decide) (by decide)
  have bd := aOf_rng (p := p) (w := 3) h0 (by omega) (by decide) (by decide)
  have b1 := hw.2.1
  refine am_of (by decide) (Nat.le_of_ble_eq_true rfl) (L := [some (aR 22 c), some (aI p), none, none, none, none]) rfl ?_
  refine aw_b kX7_ok bX7_isSeen_0_ok (Cs := []) (pc' := 3) (L' := [some (aR 22 c), some (aI p), none, none, none, none]) (st' := [aI 0, aI p, aR 22 c]) (σ' := σ) rfl trivial ?_
  refine aw_fS lX7_57 (as := [aI p, aI 0]) (rest := [aR 22 c]) (by decide) rfl (Nat.le_of_ble_eq_true rfl) rfl dX7_isSeen_3 (cM_of l p 0 σ) ?_
  refine aw_b kX7_ok bX7_isSeen_6_ok (Cs := [c < 4, 0 ≤ aOf p 0 ∧ aOf p 0 < 45]) (pc' := 11) (L' := [some (aR 22 c), some (aI p), some (aI (σ 22 c (aOf p 0))), none, none, none]) (st' := [aI 1, aI p, aR 22 c]) (σ' := σ) rfl (show (c < 4) ∧ (0 ≤ aOf p 0 ∧ aOf p 0 < 45) from ⟨by omega, by omega⟩) ?_
  refine aw_fS lX7_57 (as := [aI p, aI 1]) (rest := [aR 22 c]) (by decide) rfl (Nat.le_of_ble_eq_true rfl) rfl dX7_isSeen_11 (cM_of l p 1 σ) ?_
  refine aw_b kX7_ok bX7_isSeen_14_ok (Cs := [c < 4, 0 ≤ aOf p 1 ∧ aOf p 1 < 45]) (pc' := 18) (L' := [some (aR 22 c), some (aI p), some (aI (σ 22 c (aOf p 0))), some (aI (σ 22 c (aOf p 1))), none, none]) (st' := [aI p, aR 22 c]) (σ' := σ) rfl (show (c < 4) ∧ (0 ≤ aOf p 1 ∧ aOf p 1 < 45) from ⟨by omega, by omega⟩) ?_
  refine aw_fS lX7_64 (as := [aR 22 c, aI p]) (rest := []) (by decide) rfl (Nat.le_of_ble_eq_true rfl) rfl dX7_isSeen_18 (cM_officeOf l c (by omega) p σ ⟨by omega, by omega⟩ hw) ?_
  have bo := off_rng (σ 22 c) p
  refine aw_b kX7_ok bX7_isSeen_21_ok (Cs := []) (pc' := 25) (L' := [some (aR 22 c), some (aI p), some (aI (σ 22 c (aOf p 0))), some (aI (σ 22 c (aOf p 1))), some (aI (off (σ 22 c) p)), none]) (st' := [aI (off (σ 22 c) p)]) (σ' := σ) rfl trivial ?_
  refine aw_ige dX7_isSeen_25 (tgt := 51) (by decide) ⟨by omega, by omega⟩ (fun wh1 => ?_) (fun wh1 => ?_)
  · have bh := hw.co (f := off (σ 22 c) p) (by omega) (by omega)
    have bs := shF_rng (kind := σ 22 c (aOf p 0)) (day := σ 22 c 1) bp.2.1 bh
    have bt := shCut2 (kind := σ 22 c (aOf p 0)) (day := σ 22 c 1) (z := 1) bp.2.1 bh (Or.inl rfl)
    have bu := shCut2 (kind := σ 22 c (aOf p 0)) (day := σ 22 c 1) (z := 2) bp.2.1 bh (Or.inr rfl)
    refine aw_b kX7_ok bX7_isSeen_51_ok (Cs := [c < 4, 0 ≤ 3 + (off (σ 22 c) p) ∧ 3 + (off (σ 22 c) p) < 45]) (pc' := 62) (L' := [some (aR 22 c), some (aI p), some (aI (σ 22 c (aOf p 0))), some (aI (σ 22 c (aOf p 1))), some (aI (off (σ 22 c) p)), some (aI (σ 22 c (3 + (off (σ 22 c) p))))]) (st' := [aI 2, aI p, aR 22 c]) (σ' := σ) rfl (show (c < 4) ∧ (0 ≤ 3 + (off (σ 22 c) p) ∧ 3 + (off (σ 22 c) p) < 45) from ⟨by omega, by omega⟩) ?_
    refine aw_fS lX7_57 (as := [aI p, aI 2]) (rest := [aR 22 c]) (by decide) rfl (Nat.le_of_ble_eq_true rfl) rfl dX7_isSeen_62 (cM_of l p 2 σ) ?_
    refine aw_b kX7_ok bX7_isSeen_65_ok (Cs := []) (pc' := 70) (L' := [some (aR 22 c), some (aI p), some (aI (σ 22 c (aOf p 0))), some (aI (σ 22 c (aOf p 1))), some (aI (off (σ 22 c) p)), some (aI (σ 22 c (3 + (off (σ 22 c) p))))]) (st' := [aI 2, aI p, aR 22 c, aI 99, aI (aOf p 2), aR 22 c]) (σ' := σ) rfl trivial ?_
    refine aw_fS lX7_57 (as := [aI p, aI 2]) (rest := [aR 22 c, aI 99, aI (aOf p 2), aR 22 c]) (by decide) rfl (Nat.le_of_ble_eq_true rfl) rfl dX7_isSeen_70 (cM_of l p 2 σ) ?_
    refine aw_b kX7_ok bX7_isSeen_73_ok (Cs := [c < 4, 0 ≤ aOf p 2 ∧ aOf p 2 < 45, c < 4, 0 ≤ 1 ∧ 1 < 45]) (pc' := 81) (L' := [some (aR 22 c), some (aI p), some (aI (σ 22 c (aOf p 0))), some (aI (σ 22 c (aOf p 1))), some (aI (off (σ 22 c) p)), some (aI (σ 22 c (3 + (off (σ 22 c) p))))]) (st' := [aI (σ 22 c 1), aI (σ 22 c (3 + (off (σ 22 c) p))), aI (σ 22 c (aOf p 1)), aI (σ 22 c (aOf p 0)), aI (σ 22 c (aOf p 2)), aI 99, aI (aOf p 2), aR 22 c]) (σ' := σ) rfl (show (c < 4) ∧ (0 ≤ aOf p 2 ∧ aOf p 2 < 45) ∧ (c < 4) ∧ (0 ≤ 1 ∧ 1 < 45) from ⟨by omega, by omega, by omega, by omega⟩) ?_
    refine aw_fS lX7_74 (as := [aI (σ 22 c (aOf p 0)), aI (σ 22 c (aOf p 1)), aI (σ 22 c (3 + (off (σ 22 c) p))), aI (σ 22 c 1)]) (rest := [aI (σ 22 c (aOf p 2)), aI 99, aI (aOf p 2), aR 22 c]) (by decide) rfl (Nat.le_of_ble_eq_true rfl) rfl dX7_isSeen_81 (cM_showsBy l (σ 22 c (aOf p 0)) (σ 22 c (aOf p 1)) (σ 22 c (3 + (off (σ 22 c) p))) (σ 22 c 1) σ ⟨by omega, by omega⟩ ⟨by omega, by omega⟩ ⟨by omega, by omega⟩ ⟨by omega, by omega⟩) ?_
    refine aw_b kX7_ok bX7_isSeen_84_ok (Cs := []) (pc' := 87) (L' := [some (aR 22 c), some (aI p), some (aI (σ 22 c (aOf p 0))), some (aI (σ 22 c (aOf p 1))), some (aI (off (σ 22 c) p)), some (aI (σ 22 c (3 + (off (σ 22 c) p))))]) (st' := [aI (σ 22 c (3 + (off (σ 22 c) p))), aR 22 c, aI (shF (σ 22 c (aOf p 0)) (σ 22 c (aOf p 1)) (σ 22 c (3 + (off (σ 22 c) p))) (σ 22 c 1)), aI (σ 22 c (aOf p 2)), aI 99, aI (aOf p 2), aR 22 c]) (σ' := σ) rfl trivial ?_
    refine aw_bS lX7_78 (as := [aR 22 c, aI (σ 22 c (3 + (off (σ 22 c) p)))]) (rest := [aI (shF (σ 22 c (aOf p 0)) (σ 22 c (aOf p 1)) (σ 22 c (3 + (off (σ 22 c) p))) (σ 22 c 1)), aI (σ 22 c (aOf p 2)), aI 99, aI (aOf p 2), aR 22 c]) (by decide) rfl (Nat.le_of_ble_eq_true rfl) rfl dX7_isSeen_87 (cM_isCommon l c (by omega) (σ 22 c (3 + (off (σ 22 c) p))) σ ⟨by omega, by omega⟩ hw) (fun wh2 => ?_) (fun wh2 => ?_)
    · refine aw_ieq dX7_isSeen_90 (tgt := 97) (by decide) ⟨by omega, by omega⟩ (fun wh3 => absurd wh3 (by decide)) (fun wh3 => ?_)
      refine aw_b kX7_ok bX7_isSeen_93_ok (Cs := []) (pc' := 98) (L' := [some (aR 22 c), some (aI p), some (aI (σ 22 c (aOf p 0))), some (aI (σ 22 c (aOf p 1))), some (aI (off (σ 22 c) p)), some (aI (σ 22 c (3 + (off (σ 22 c) p))))]) (st' := [aI 2, aI (shF (σ 22 c (aOf p 0)) (σ 22 c (aOf p 1)) (σ 22 c (3 + (off (σ 22 c) p))) (σ 22 c 1)), aI (σ 22 c (aOf p 2)), aI 99, aI (aOf p 2), aR 22 c]) (σ' := σ) rfl trivial ?_
      refine aw_b kX7_ok bX7_isSeen_98_ok (Cs := [-2147483648 ≤ shF (σ 22 c (aOf p 0)) (σ 22 c (aOf p 1)) (σ 22 c (3 + (off (σ 22 c) p))) (σ 22 c 1) ∧ shF (σ 22 c (aOf p 0)) (σ 22 c (aOf p 1)) (σ 22 c (3 + (off (σ 22 c) p))) (σ 22 c 1) < 2147483648, 0 < 2 ∧ 2 < 2147483648]) (pc' := 100) (L' := [some (aR 22 c), some (aI p), some (aI (σ 22 c (aOf p 0))), some (aI (σ 22 c (aOf p 1))), some (aI (off (σ 22 c) p)), some (aI (σ 22 c (3 + (off (σ 22 c) p))))]) (st' := [aI ((σ 22 c (aOf p 2)) + (Int.tdiv (shF (σ 22 c (aOf p 0)) (σ 22 c (aOf p 1)) (σ 22 c (3 + (off (σ 22 c) p))) (σ 22 c 1)) 2)), aI 99, aI (aOf p 2), aR 22 c]) (σ' := σ) rfl (show (-2147483648 ≤ shF (σ 22 c (aOf p 0)) (σ 22 c (aOf p 1)) (σ 22 c (3 + (off (σ 22 c) p))) (σ 22 c 1) ∧ shF (σ 22 c (aOf p 0)) (σ 22 c (aOf p 1)) (σ 22 c (3 + (off (σ 22 c) p))) (σ 22 c 1) < 2147483648) ∧ (0 < 2 ∧ 2 < 2147483648) from ⟨by omega, by omega⟩) ?_
      refine aw_fS lX7_82 (as := [aI 99, aI ((σ 22 c (aOf p 2)) + (Int.tdiv (shF (σ 22 c (aOf p 0)) (σ 22 c (aOf p 1)) (σ 22 c (3 + (off (σ 22 c) p))) (σ 22 c 1)) 2))]) (rest := [aI (aOf p 2), aR 22 c]) (by decide) rfl (Nat.le_of_ble_eq_true rfl) rfl dX7_isSeen_100 (cM_least l 99 ((σ 22 c (aOf p 2)) + (Int.tdiv (shF (σ 22 c (aOf p 0)) (σ 22 c (aOf p 1)) (σ 22 c (3 + (off (σ 22 c) p))) (σ 22 c 1)) 2)) σ ⟨by omega, by omega⟩ ⟨by omega, by omega⟩) ?_
      refine aw_b kX7_ok bX7_isSeen_103_ok (Cs := [c < 4, 0 ≤ aOf p 2 ∧ aOf p 2 < 45]) (pc' := 104) (L' := [some (aR 22 c), some (aI p), some (aI (σ 22 c (aOf p 0))), some (aI (σ 22 c (aOf p 1))), some (aI (off (σ 22 c) p)), some (aI (σ 22 c (3 + (off (σ 22 c) p))))]) (st' := []) (σ' := aUp σ 22 c (aOf p 2) (if 99 < (σ 22 c (aOf p 2)) + (Int.tdiv (shF (σ 22 c (aOf p 0)) (σ 22 c (aOf p 1)) (σ 22 c (3 + (off (σ 22 c) p))) (σ 22 c 1)) 2) then 99 else (σ 22 c (aOf p 2)) + (Int.tdiv (shF (σ 22 c (aOf p 0)) (σ 22 c (aOf p 1)) (σ 22 c (3 + (off (σ 22 c) p))) (σ 22 c 1)) 2))) rfl (show (c < 4) ∧ (0 ≤ aOf p 2 ∧ aOf p 2 < 45) from ⟨by omega, by omega⟩) ?_
      exact aw_vret dX7_isSeen_104 rfl ⟨rfl, by rw [aUp_row]; unfold seR; rw [if_neg (show ¬ off (σ 22 c) p < 0 by omega)]; simp [*]⟩
    · refine aw_ieq dX7_isSeen_90 (tgt := 97) (by decide) ⟨by omega, by omega⟩ (fun wh4 => ?_) (fun wh4 => absurd wh4 (by decide))
      refine aw_b kX7_ok bX7_isSeen_97_ok (Cs := []) (pc' := 98) (L' := [some (aR 22 c), some (aI p), some (aI (σ 22 c (aOf p 0))), some (aI (σ 22 c (aOf p 1))), some (aI (off (σ 22 c) p)), some (aI (σ 22 c (3 + (off (σ 22 c) p))))]) (st' := [aI 1, aI (shF (σ 22 c (aOf p 0)) (σ 22 c (aOf p 1)) (σ 22 c (3 + (off (σ 22 c) p))) (σ 22 c 1)), aI (σ 22 c (aOf p 2)), aI 99, aI (aOf p 2), aR 22 c]) (σ' := σ) rfl trivial ?_
      refine aw_b kX7_ok bX7_isSeen_98_ok (Cs := [-2147483648 ≤ shF (σ 22 c (aOf p 0)) (σ 22 c (aOf p 1)) (σ 22 c (3 + (off (σ 22 c) p))) (σ 22 c 1) ∧ shF (σ 22 c (aOf p 0)) (σ 22 c (aOf p 1)) (σ 22 c (3 + (off (σ 22 c) p))) (σ 22 c 1) < 2147483648, 0 < 1 ∧ 1 < 2147483648]) (pc' := 100) (L' := [some (aR 22 c), some (aI p), some (aI (σ 22 c (aOf p 0))), some (aI (σ 22 c (aOf p 1))), some (aI (off (σ 22 c) p)), some (aI (σ 22 c (3 + (off (σ 22 c) p))))]) (st' := [aI ((σ 22 c (aOf p 2)) + (Int.tdiv (shF (σ 22 c (aOf p 0)) (σ 22 c (aOf p 1)) (σ 22 c (3 + (off (σ 22 c) p))) (σ 22 c 1)) 1)), aI 99, aI (aOf p 2), aR 22 c]) (σ' := σ) rfl (show (-2147483648 ≤ shF (σ 22 c (aOf p 0)) (σ 22 c (aOf p 1)) (σ 22 c (3 + (off (σ 22 c) p))) (σ 22 c 1) ∧ shF (σ 22 c (aOf p 0)) (σ 22 c (aOf p 1)) (σ 22 c (3 + (off (σ 22 c) p))) (σ 22 c 1) < 2147483648) ∧ (0 < 1 ∧ 1 < 2147483648) from ⟨by omega, by omega⟩) ?_
      refine aw_fS lX7_82 (as := [aI 99, aI ((σ 22 c (aOf p 2)) + (Int.tdiv (shF (σ 22 c (aOf p 0)) (σ 22 c (aOf p 1)) (σ 22 c (3 + (off (σ 22 c) p))) (σ 22 c 1)) 1))]) (rest := [aI (aOf p 2), aR 22 c]) (by decide) rfl (Nat.le_of_ble_eq_true rfl) rfl dX7_isSeen_100 (cM_least l 99 ((σ 22 c (aOf p 2)) + (Int.tdiv (shF (σ 22 c (aOf p 0)) (σ 22 c (aOf p 1)) (σ 22 c (3 + (off (σ 22 c) p))) (σ 22 c 1)) 1)) σ ⟨by omega, by omega⟩ ⟨by omega, by omega⟩) ?_
      refine aw_b kX7_ok bX7_isSeen_103_ok (Cs := [c < 4, 0 ≤ aOf p 2 ∧ aOf p 2 < 45]) (pc' := 104) (L' := [some (aR 22 c), some (aI p), some (aI (σ 22 c (aOf p 0))), some (aI (σ 22 c (aOf p 1))), some (aI (off (σ 22 c) p)), some (aI (σ 22 c (3 + (off (σ 22 c) p))))]) (st' := []) (σ' := aUp σ 22 c (aOf p 2) (if 99 < (σ 22 c (aOf p 2)) + (Int.tdiv (shF (σ 22 c (aOf p 0)) (σ 22 c (aOf p 1)) (σ 22 c (3 + (off (σ 22 c) p))) (σ 22 c 1)) 1) then 99 else (σ 22 c (aOf p 2)) + (Int.tdiv (shF (σ 22 c (aOf p 0)) (σ 22 c (aOf p 1)) (σ 22 c (3 + (off (σ 22 c) p))) (σ 22 c 1)) 1))) rfl (show (c < 4) ∧ (0 ≤ aOf p 2 ∧ aOf p 2 < 45) from ⟨by omega, by omega⟩) ?_
      exact aw_vret dX7_isSeen_104 rfl ⟨rfl, by rw [aUp_row]; unfold seR; rw [if_neg (show ¬ off (σ 22 c) p < 0 by omega)]; simp [*]⟩
  · have bf := foF_rng (kind := σ 22 c (aOf p 0)) bp.2.1
    refine aw_b kX7_ok bX7_isSeen_28_ok (Cs := []) (pc' := 31) (L' := [some (aR 22 c), some (aI p), some (aI (σ 22 c (aOf p 0))), some (aI (σ 22 c (aOf p 1))), some (aI (off (σ 22 c) p)), none]) (st' := [aI 2, aI p, aR 22 c]) (σ' := σ) rfl trivial ?_
    refine aw_fS lX7_57 (as := [aI p, aI 2]) (rest := [aR 22 c]) (by decide) rfl (Nat.le_of_ble_eq_true rfl) rfl dX7_isSeen_31 (cM_of l p 2 σ) ?_
    refine aw_b kX7_ok bX7_isSeen_34_ok (Cs := []) (pc' := 37) (L' := [some (aR 22 c), some (aI p), some (aI (σ 22 c (aOf p 0))), some (aI (σ 22 c (aOf p 1))), some (aI (off (σ 22 c) p)), none]) (st' := [aI 2, aI p, aR 22 c, aI (aOf p 2), aR 22 c]) (σ' := σ) rfl trivial ?_
    refine aw_fS lX7_57 (as := [aI p, aI 2]) (rest := [aR 22 c, aI (aOf p 2), aR 22 c]) (by decide) rfl (Nat.le_of_ble_eq_true rfl) rfl dX7_isSeen_37 (cM_of l p 2 σ) ?_
    refine aw_b kX7_ok bX7_isSeen_40_ok (Cs := [c < 4, 0 ≤ aOf p 2 ∧ aOf p 2 < 45]) (pc' := 43) (L' := [some (aR 22 c), some (aI p), some (aI (σ 22 c (aOf p 0))), some (aI (σ 22 c (aOf p 1))), some (aI (off (σ 22 c) p)), none]) (st' := [aI (σ 22 c (aOf p 1)), aI (σ 22 c (aOf p 0)), aI (σ 22 c (aOf p 2)), aI (aOf p 2), aR 22 c]) (σ' := σ) rfl (show (c < 4) ∧ (0 ≤ aOf p 2 ∧ aOf p 2 < 45) from ⟨by omega, by omega⟩) ?_
    refine aw_fS lX7_68 (as := [aI (σ 22 c (aOf p 0)), aI (σ 22 c (aOf p 1))]) (rest := [aI (σ 22 c (aOf p 2)), aI (aOf p 2), aR 22 c]) (by decide) rfl (Nat.le_of_ble_eq_true rfl) rfl dX7_isSeen_43 (cM_forgetsBy l (σ 22 c (aOf p 0)) (σ 22 c (aOf p 1)) σ ⟨by omega, by omega⟩ ⟨by omega, by omega⟩) ?_
    refine aw_fS lX7_71 (as := [aI (σ 22 c (aOf p 2)), aI (foF (σ 22 c (aOf p 0)) (σ 22 c (aOf p 1)))]) (rest := [aI (aOf p 2), aR 22 c]) (by decide) rfl (Nat.le_of_ble_eq_true rfl) rfl dX7_isSeen_46 (cM_lessBy l (σ 22 c (aOf p 2)) (foF (σ 22 c (aOf p 0)) (σ 22 c (aOf p 1))) σ ⟨by omega, by omega⟩ ⟨by omega, by omega⟩) ?_
    refine aw_b kX7_ok bX7_isSeen_49_ok (Cs := [c < 4, 0 ≤ aOf p 2 ∧ aOf p 2 < 45]) (pc' := 50) (L' := [some (aR 22 c), some (aI p), some (aI (σ 22 c (aOf p 0))), some (aI (σ 22 c (aOf p 1))), some (aI (off (σ 22 c) p)), none]) (st' := []) (σ' := aUp σ 22 c (aOf p 2) (if σ 22 c (aOf p 2) < foF (σ 22 c (aOf p 0)) (σ 22 c (aOf p 1)) then 0 else σ 22 c (aOf p 2) - (foF (σ 22 c (aOf p 0)) (σ 22 c (aOf p 1))))) rfl (show (c < 4) ∧ (0 ≤ aOf p 2 ∧ aOf p 2 < 45) from ⟨by omega, by omega⟩) ?_
    exact aw_vret dX7_isSeen_50 rfl ⟨rfl, by rw [aUp_row]; unfold seR; rw [if_pos (show off (σ 22 c) p < 0 by omega)]⟩
theorem beR_rng {r : aRw} (h : WF r) {p : Int} (h0 : 0 ≤ p) (h1 : p < r 0) : 7 ≤ beR r p ∧ beR r p ≤ 99 := beF_rng (h.pe h0 h1).2.1
set_option maxRecDepth 10000 in
theorem cM_fallsIn (l : Launch) (c : Nat) (hc : c < 4) (f : Int) (σ : aS) (hw : WF (σ 22 c)) (f0 : 0 ≤ f) (f1 : f < 5) : AM l 2 mX7_fallsIn [aR 22 c, aI f] σ (aF none (aRow σ c (faR (σ 22 c) f))) := by
  have bn := hw.1
  have b2 := hw.2.2.1
  have g0 := hw.ho f0 f1
  refine am_of (by decide) (Nat.le_of_ble_eq_true rfl) (L := [some (aR 22 c), some (aI f), none, none]) rfl ?_
  refine aw_b kX7_ok bX7_fallsIn_0_ok (Cs := [c < 4, 0 ≤ 8 + f ∧ 8 + f < 45]) (pc' := 8) (L' := [some (aR 22 c), some (aI f), some (aI (σ 22 c (8 + f))), none]) (st' := [aI (σ 22 c (8 + f))]) (σ' := σ) rfl (show (c < 4) ∧ (0 ≤ 8 + f ∧ 8 + f < 45) from ⟨by omega, by omega⟩) ?_
  refine aw_ilt dX7_fallsIn_8 (tgt := 26) (by decide) ⟨by omega, by omega⟩ (fun wh1 => ?_) (fun wh1 => ?_)
  · exact aw_vret dX7_fallsIn_26 rfl ⟨rfl, by unfold faR; rw [if_pos (by omega), aRow_id]⟩
  · have bp := hw.pe (p := (σ 22 c (8 + f))) (by omega) (by omega)
    have ba := aOf_rng (p := (σ 22 c (8 + f))) (w := 2) (by omega) (by omega) (by decide) (by decide)
    have bc := aOf_rng (p := (σ 22 c (8 + f))) (w := 3) (by omega) (by omega) (by decide) (by decide)
    have bb := beR_rng hw (p := (σ 22 c (8 + f))) (by omega) (by omega)
    refine aw_b kX7_ok bX7_fallsIn_11_ok (Cs := []) (pc' := 14) (L' := [some (aR 22 c), some (aI f), some (aI (σ 22 c (8 + f))), none]) (st' := [aI 2, aI (σ 22 c (8 + f)), aR 22 c]) (σ' := σ) rfl trivial ?_
    refine aw_fS lX7_57 (as := [aI (σ 22 c (8 + f)), aI 2]) (rest := [aR 22 c]) (by decide) rfl (Nat.le_of_ble_eq_true rfl) rfl dX7_fallsIn_14 (cM_of l (σ 22 c (8 + f)) 2 σ) ?_
    refine aw_b kX7_ok bX7_fallsIn_17_ok (Cs := [c < 4, 0 ≤ aOf (σ 22 c (8 + f)) 2 ∧ aOf (σ 22 c (8 + f)) 2 < 45]) (pc' := 20) (L' := [some (aR 22 c), some (aI f), some (aI (σ 22 c (8 + f))), none]) (st' := [aI (σ 22 c (8 + f)), aR 22 c, aI (σ 22 c (aOf (σ 22 c (8 + f)) 2))]) (σ' := σ) rfl (show (c < 4) ∧ (0 ≤ aOf (σ 22 c (8 + f)) 2 ∧ aOf (σ 22 c (8 + f)) 2 < 45) from ⟨by omega, by omega⟩) ?_
    refine aw_fS lX7_85 (as := [aR 22 c, aI (σ 22 c (8 + f))]) (rest := [aI (σ 22 c (aOf (σ 22 c (8 + f)) 2))]) (by decide) rfl (Nat.le_of_ble_eq_true rfl) rfl dX7_fallsIn_20 (cM_bears l c (by omega) (σ 22 c (8 + f)) σ hw (by omega) (by omega)) ?_
    refine aw_cge dX7_fallsIn_23 (tgt := 27) (by decide) ⟨by omega, by omega⟩ ⟨by omega, by omega⟩ (fun wh2 => ?_) (fun wh2 => ?_)
    · refine aw_b kX7_ok bX7_fallsIn_27_ok (Cs := [c < 4, 0 ≤ 2 ∧ 2 < 45]) (pc' := 37) (L' := [some (aR 22 c), some (aI f), some (aI (σ 22 c (8 + f))), none]) (st' := [aI ((σ 22 c 2) + 1), aI 999, aI 2, aR 22 c]) (σ' := σ) rfl (show (c < 4) ∧ (0 ≤ 2 ∧ 2 < 45) from ⟨by omega, by omega⟩) ?_
      refine aw_fS lX7_82 (as := [aI 999, aI ((σ 22 c 2) + 1)]) (rest := [aI 2, aR 22 c]) (by decide) rfl (Nat.le_of_ble_eq_true rfl) rfl dX7_fallsIn_37 (cM_least l 999 ((σ 22 c 2) + 1) σ ⟨by omega, by omega⟩ ⟨by omega, by omega⟩) ?_
      refine aw_b kX7_ok bX7_fallsIn_40_ok (Cs := [c < 4, 0 ≤ 2 ∧ 2 < 45, c < 4, 0 ≤ 8 + f ∧ 8 + f < 45]) (pc' := 52) (L' := [some (aR 22 c), some (aI f), some (aI (σ 22 c (8 + f))), none]) (st' := [aI 3, aI (σ 22 c (8 + f)), aR 22 c]) (σ' := aUp (aUp σ 22 c 2 (if 999 < (σ 22 c 2) + 1 then 999 else (σ 22 c 2) + 1)) 22 c (8 + f) (-4)) rfl (show (c < 4) ∧ (0 ≤ 2 ∧ 2 < 45) ∧ (c < 4) ∧ (0 ≤ 8 + f ∧ 8 + f < 45) from ⟨by omega, by omega, by omega, by omega⟩) ?_
      obtain ⟨τ, hτ⟩ : ∃ τ, τ = aRow σ c (f1R (σ 22 c) f) := ⟨_, rfl⟩
      refine aw_eq rfl rfl (σ' := τ) (by rw [hτ, aUp_row (σ := σ), aUp_row2]; rfl) ?_
      have hτr : τ 22 c = f1R (σ 22 c) f := by rw [hτ, aRow_self]
      have hwτ : WF (τ 22 c) := by rw [hτr]; exact f1R_wf hw f0 f1
      have e0 : τ 22 c 0 = σ 22 c 0 := by rw [hτr]; exact f1R_at _ _ (by omega) (by omega)
      have em : (τ 22 c (aOf (σ 22 c (8 + f)) 3)) = (σ 22 c (aOf (σ 22 c (8 + f)) 3)) := by rw [hτr]; exact f1R_at _ _ (by omega) (by omega)
      have eo : off (τ 22 c) (τ 22 c (aOf (σ 22 c (8 + f)) 3)) = off (f1R (σ 22 c) f) (σ 22 c (aOf (σ 22 c (8 + f)) 3)) := by rw [em, hτr]
      have bo := off_rng (τ 22 c) (τ 22 c (aOf (σ 22 c (8 + f)) 3))
      refine aw_fS lX7_57 (as := [aI (σ 22 c (8 + f)), aI 3]) (rest := [aR 22 c]) (by decide) rfl (Nat.le_of_ble_eq_true rfl) rfl dX7_fallsIn_52 (cM_of l (σ 22 c (8 + f)) 3 τ) ?_
      refine aw_b kX7_ok bX7_fallsIn_55_ok (Cs := [c < 4, 0 ≤ aOf (σ 22 c (8 + f)) 3 ∧ aOf (σ 22 c (8 + f)) 3 < 45, c < 4, 0 ≤ 0 ∧ 0 < 45]) (pc' := 61) (L' := [some (aR 22 c), some (aI f), some (aI (σ 22 c (8 + f))), some (aI (τ 22 c (aOf (σ 22 c (8 + f)) 3)))]) (st' := [aI (τ 22 c 0), aI (τ 22 c (aOf (σ 22 c (8 + f)) 3))]) (σ' := τ) rfl (show (c < 4) ∧ (0 ≤ aOf (σ 22 c (8 + f)) 3 ∧ aOf (σ 22 c (8 + f)) 3 < 45) ∧ (c < 4) ∧ (0 ≤ 0 ∧ 0 < 45) from ⟨by omega, by omega, by omega, by omega⟩) ?_
      refine aw_cge dX7_fallsIn_61 (tgt := 94) (by decide) ⟨by omega, by omega⟩ ⟨by omega, by omega⟩ (fun wh3 => ?_) (fun wh3 => ?_)
      · exact aw_vret dX7_fallsIn_94 rfl ⟨rfl, by rw [hτ]; unfold faR; rw [if_neg (by omega), if_neg (by omega)]⟩
      · refine aw_b kX7_ok bX7_fallsIn_64_ok (Cs := []) (pc' := 66) (L' := [some (aR 22 c), some (aI f), some (aI (σ 22 c (8 + f))), some (aI (τ 22 c (aOf (σ 22 c (8 + f)) 3)))]) (st' := [aI (τ 22 c (aOf (σ 22 c (8 + f)) 3)), aR 22 c]) (σ' := τ) rfl trivial ?_
        refine aw_fS lX7_64 (as := [aR 22 c, aI (τ 22 c (aOf (σ 22 c (8 + f)) 3))]) (rest := []) (by decide) rfl (Nat.le_of_ble_eq_true rfl) rfl dX7_fallsIn_66 (cM_officeOf l c (by omega) (τ 22 c (aOf (σ 22 c (8 + f)) 3)) τ ⟨by omega, by omega⟩ hwτ) ?_
        refine aw_ige dX7_fallsIn_69 (tgt := 94) (by decide) ⟨by omega, by omega⟩ (fun wh4 => ?_) (fun wh4 => ?_)
        · exact aw_vret dX7_fallsIn_94 rfl ⟨rfl, by rw [hτ]; unfold faR; rw [if_neg (by omega), if_neg (by omega)]⟩
        · have bz := hw.pe (p := (σ 22 c (aOf (σ 22 c (8 + f)) 3))) (by omega) (by omega)
          have bx := aOf_rng (p := (σ 22 c (aOf (σ 22 c (8 + f)) 3))) (w := 2) (by omega) (by omega) (by decide) (by decide)
          have ek : τ 22 c (aOf (τ 22 c (aOf (σ 22 c (8 + f)) 3)) 2) = σ 22 c (aOf (σ 22 c (aOf (σ 22 c (8 + f)) 3)) 2) := by rw [em, hτr]; exact f1R_at _ _ (by omega) (by omega)
          have by0 := aOf_rng (p := (σ 22 c (aOf (σ 22 c (8 + f)) 3))) (w := 0) (by omega) (by omega) (by decide) (by decide)
          have by1 := aOf_rng (p := (σ 22 c (aOf (σ 22 c (8 + f)) 3))) (w := 1) (by omega) (by omega) (by decide) (by decide)
          have eb : beR (τ 22 c) (τ 22 c (aOf (σ 22 c (8 + f)) 3)) = beR (σ 22 c) (σ 22 c (aOf (σ 22 c (8 + f)) 3)) := by unfold beR; rw [em, hτr, f1R_at _ _ (by omega) (by omega), f1R_at _ _ (by omega) (by omega)]
          have bw := beR_rng hw (p := (σ 22 c (aOf (σ 22 c (8 + f)) 3))) (by omega) (by omega)
          have ea : aOf (τ 22 c (aOf (σ 22 c (8 + f)) 3)) 2 = aOf (σ 22 c (aOf (σ 22 c (8 + f)) 3)) 2 := by rw [em]
          refine aw_b kX7_ok bX7_fallsIn_72_ok (Cs := []) (pc' := 75) (L' := [some (aR 22 c), some (aI f), some (aI (σ 22 c (8 + f))), some (aI (τ 22 c (aOf (σ 22 c (8 + f)) 3)))]) (st' := [aI 2, aI (τ 22 c (aOf (σ 22 c (8 + f)) 3)), aR 22 c]) (σ' := τ) rfl trivial ?_
          refine aw_fS lX7_57 (as := [aI (τ 22 c (aOf (σ 22 c (8 + f)) 3)), aI 2]) (rest := [aR 22 c]) (by decide) rfl (Nat.le_of_ble_eq_true rfl) rfl dX7_fallsIn_75 (cM_of l (τ 22 c (aOf (σ 22 c (8 + f)) 3)) 2 τ) ?_
          refine aw_b kX7_ok bX7_fallsIn_78_ok (Cs := [c < 4, 0 ≤ aOf (τ 22 c (aOf (σ 22 c (8 + f)) 3)) 2 ∧ aOf (τ 22 c (aOf (σ 22 c (8 + f)) 3)) 2 < 45]) (pc' := 81) (L' := [some (aR 22 c), some (aI f), some (aI (σ 22 c (8 + f))), some (aI (τ 22 c (aOf (σ 22 c (8 + f)) 3)))]) (st' := [aI (τ 22 c (aOf (σ 22 c (8 + f)) 3)), aR 22 c, aI (τ 22 c (aOf (τ 22 c (aOf (σ 22 c (8 + f)) 3)) 2))]) (σ' := τ) rfl (show (c < 4) ∧ (0 ≤ aOf (τ 22 c (aOf (σ 22 c (8 + f)) 3)) 2 ∧ aOf (τ 22 c (aOf (σ 22 c (8 + f)) 3)) 2 < 45) from ⟨by omega, by omega⟩) ?_
          refine aw_fS lX7_85 (as := [aR 22 c, aI (τ 22 c (aOf (σ 22 c (8 + f)) 3))]) (rest := [aI (τ 22 c (aOf (τ 22 c (aOf (σ 22 c (8 + f)) 3)) 2))]) (by decide) rfl (Nat.le_of_ble_eq_true rfl) rfl dX7_fallsIn_81 (cM_bears l c (by omega) (τ 22 c (aOf (σ 22 c (8 + f)) 3)) τ hwτ (by omega) (by omega)) ?_
          refine aw_cge dX7_fallsIn_84 (tgt := 94) (by decide) ⟨by omega, by omega⟩ ⟨by omega, by omega⟩ (fun wh5 => ?_) (fun wh5 => ?_)
          · exact aw_vret dX7_fallsIn_94 rfl ⟨rfl, by rw [hτ]; unfold faR; rw [if_neg (by omega), if_neg (by omega)]⟩
          · refine aw_b kX7_ok bX7_fallsIn_87_ok (Cs := [c < 4, 0 ≤ 8 + f ∧ 8 + f < 45]) (pc' := 94) (L' := [some (aR 22 c), some (aI f), some (aI (σ 22 c (8 + f))), some (aI (τ 22 c (aOf (σ 22 c (8 + f)) 3)))]) (st' := []) (σ' := aUp τ 22 c (8 + f) (τ 22 c (aOf (σ 22 c (8 + f)) 3))) rfl (show (c < 4) ∧ (0 ≤ 8 + f ∧ 8 + f < 45) from ⟨by omega, by omega⟩) ?_
            exact aw_vret dX7_fallsIn_94 rfl ⟨rfl, by rw [aUp_row, hτr, hτ, aRow_two]; unfold faR; rw [if_neg (by omega), if_pos (by omega), f1R_at _ _ (by omega) (by omega)]⟩
    · exact aw_vret dX7_fallsIn_26 rfl ⟨rfl, by unfold faR; rw [if_pos (by omega), aRow_id]⟩
def cpR (σ : aS) (a b : Nat) (n : Nat) : aS := aRow σ b (fun i => if 0 ≤ i ∧ i < (n : Int) then σ 22 a i else σ 22 b i)
theorem cpR_0 (σ : aS) (a b : Nat) : cpR σ a b 0 = σ := by
  unfold cpR
  have e : (fun i => if 0 ≤ i ∧ i < ((0 : Nat) : Int) then σ 22 a i else σ 22 b i) = σ 22 b := by
    funext i; rw [if_neg (by omega)]
  rw [e, aRow_id]
theorem cpR_src (σ : aS) (a b : Nat) (n : Nat) (i : Int) : cpR σ a b n 22 a i = σ 22 a i := by
  unfold cpR
  by_cases h : a = b
  · subst h; rw [aRow_self]; split <;> rfl
  · rw [aRow_ne h]
theorem cpR_step (σ : aS) (a b : Nat) (n : Nat) : aUp (cpR σ a b n) 22 b n (σ 22 a n) = cpR σ a b (n + 1) := by
  unfold cpR
  rw [aUp_row2]
  congr 1
  funext i
  unfold rUp
  by_cases h : i = n
  · subst h; rw [if_pos rfl, if_pos (by omega)]
  · rw [if_neg h]
    show (if 0 ≤ i ∧ i < (n : Int) then σ 22 a i else σ 22 b i) = _
    by_cases h2 : 0 ≤ i ∧ i < (n : Int)
    · rw [if_pos h2, if_pos (by omega)]
    · rw [if_neg h2, if_neg (by omega)]
theorem cpR_end {σ : aS} {a b : Nat} (h : ∀ i : Int, i < 0 ∨ 45 ≤ i → σ 22 a i = σ 22 b i) : cpR σ a b 45 = aRow σ b (σ 22 a) := by
  unfold cpR
  congr 1
  funext i
  split
  · rfl
  · rename_i h2; exact (h i (by omega)).symm
set_option maxRecDepth 10000 in
theorem cM_copies (l : Launch) (a b : Nat) (ha : a < 4) (hb : b < 4) (σ : aS) (hz : ∀ i : Int, i < 0 ∨ 45 ≤ i → σ 22 a i = σ 22 b i) : AM l 0 mX7_copies [aR 22 a, aR 22 b] σ (aF none (aRow σ b (σ 22 a))) := by
  refine am_of (by decide) (Nat.le_of_ble_eq_true rfl) (L := [some (aR 22 a), some (aR 22 b), none]) rfl ?_
  refine aw_b kX7_ok bX7_copies_0_ok (Cs := []) (pc' := 2) (L' := [some (aR 22 a), some (aR 22 b), some (aI 0)]) (st' := []) (σ' := σ) rfl trivial ?_
  rw [← cpR_end hz]
  have e0 := cpR_0 σ a b
  refine aw_eq rfl rfl e0.symm ?_
  refine aloop (P := fun n : Nat => AW l 0 mX7_copies _ 2 [some (aR 22 a), some (aR 22 b), some (aI (n : Int))] [] (cpR σ a b n)) (45) (fun n hn ihn => ?_)
  refine aw_b kX7_ok bX7_copies_2_ok (Cs := []) (pc' := 5) (L' := [some (aR 22 a), some (aR 22 b), some (aI (n : Int))]) (st' := [aI 45, aI (n : Int)]) (σ' := cpR σ a b n) rfl trivial ?_
  refine aw_cge dX7_copies_5 (tgt := 20) (by decide) ⟨by omega, by omega⟩ ⟨by omega, by omega⟩ (fun wh1 => ?_) (fun wh1 => ?_)
  · have e5 : n = 45 := by omega
    exact aw_vret dX7_copies_20 rfl ⟨rfl, by subst e5; rfl⟩
  · refine aw_b kX7_ok bX7_copies_8_ok (Cs := [a < 4, 0 ≤ (n : Int) ∧ (n : Int) < 45, b < 4, 0 ≤ (n : Int) ∧ (n : Int) < 45]) (pc' := 2) (L' := [some (aR 22 a), some (aR 22 b), some (aI ((n : Int) + 1))]) (st' := []) (σ' := aUp (cpR σ a b n) 22 b (n : Int) ((cpR σ a b n) 22 a (n : Int))) rfl (show (a < 4) ∧ (0 ≤ (n : Int) ∧ (n : Int) < 45) ∧ (b < 4) ∧ (0 ≤ (n : Int) ∧ (n : Int) < 45) from ⟨by omega, by omega, by omega, by omega⟩) ?_
    exact aw_eq rfl rfl (by rw [cpR_src]; exact cpR_step σ a b n) (ihn (by omega))
theorem seN_row (r : aRw) (n : Nat) : seN r (n + 1) = seR (seN r n) n := rfl
theorem faN_row (r : aRw) (n : Nat) : faN r (n + 1) = faR (faN r n) n := rfl
set_option maxRecDepth 10000 in
theorem cM_day (l : Launch) (c : Nat) (hc : c < 4) (σ : aS) (hw : WF (σ 22 c)) (hd : σ 22 c 1 ≤ 999999) : AM l 3 mX7_day [aR 22 c] σ (aF none (aRow σ c (dayR (σ 22 c)))) := by
  have bn := hw.1
  have b1 := hw.2.1
  refine am_of (by decide) (Nat.le_of_ble_eq_true rfl) (L := [some (aR 22 c), none]) rfl ?_
  refine aw_b kX7_ok bX7_day_0_ok (Cs := [c < 4, 0 ≤ 1 ∧ 1 < 45, c < 4, 0 ≤ 1 ∧ 1 < 45]) (pc' := 9) (L' := [some (aR 22 c), some (aI 0)]) (st' := []) (σ' := aUp σ 22 c 1 ((σ 22 c 1) + 1)) rfl (show (c < 4) ∧ (0 ≤ 1 ∧ 1 < 45) ∧ (c < 4) ∧ (0 ≤ 1 ∧ 1 < 45) from ⟨by omega, by omega, by omega, by omega⟩) ?_
  refine aw_eq rfl rfl (σ' := aRow σ c (seN (σ 22 c) 0)) (by rw [aUp_row]; rfl) ?_
  refine aloop (P := fun n : Nat => AW l 3 mX7_day _ 9 [some (aR 22 c), some (aI (n : Int))] [] (aRow σ c (seN (σ 22 c) n))) ((σ 22 c 0).toNat) (fun n hn ihn => ?_)
  have e0 := seN_0 (σ 22 c) n
  have hwn := seN_wf hw n (by omega)
  have en : aRow σ c (seN (σ 22 c) n) 22 c 0 = σ 22 c 0 := by rw [aRow_self]; exact e0.1
  refine aw_b kX7_ok bX7_day_9_ok (Cs := [c < 4, 0 ≤ 0 ∧ 0 < 45]) (pc' := 13) (L' := [some (aR 22 c), some (aI (n : Int))]) (st' := [aI ((aRow σ c (seN (σ 22 c) n)) 22 c 0), aI (n : Int)]) (σ' := aRow σ c (seN (σ 22 c) n)) rfl (show (c < 4) ∧ (0 ≤ 0 ∧ 0 < 45) from ⟨by omega, by omega⟩) ?_
  refine aw_cge dX7_day_13 (tgt := 27) (by decide) ⟨by omega, by omega⟩ ⟨by omega, by omega⟩ (fun wh1 => ?_) (fun wh1 => ?_)
  · refine aw_b kX7_ok bX7_day_27_ok (Cs := []) (pc' := 29) (L' := [some (aR 22 c), some (aI 0)]) (st' := []) (σ' := aRow σ c (seN (σ 22 c) n)) rfl trivial ?_
    have e5 : n = (σ 22 c 0).toNat := by omega
    subst e5
    refine aw_eq rfl rfl (σ' := aRow σ c (faN (seN (σ 22 c) (σ 22 c 0).toNat) 0)) rfl ?_
    refine aloop (P := fun k : Nat => AW l 3 mX7_day _ 29 [some (aR 22 c), some (aI (k : Int))] [] (aRow σ c (faN (seN (σ 22 c) (σ 22 c 0).toNat) k))) (5) (fun k hk ihk => ?_)
    have hwk := faN_wf hwn k hk
    refine aw_b kX7_ok bX7_day_29_ok (Cs := []) (pc' := 31) (L' := [some (aR 22 c), some (aI (k : Int))]) (st' := [aI 5, aI (k : Int)]) (σ' := aRow σ c (faN (seN (σ 22 c) (σ 22 c 0).toNat) k)) rfl trivial ?_
    refine aw_cge dX7_day_31 (tgt := 45) (by decide) ⟨by omega, by omega⟩ ⟨by omega, by omega⟩ (fun wh2 => ?_) (fun wh2 => ?_)
    · exact aw_vret dX7_day_45 rfl ⟨rfl, by rw [show k = 5 by omega]; rfl⟩
    · refine aw_b kX7_ok bX7_day_34_ok (Cs := []) (pc' := 36) (L' := [some (aR 22 c), some (aI (k : Int))]) (st' := [aI (k : Int), aR 22 c]) (σ' := aRow σ c (faN (seN (σ 22 c) (σ 22 c 0).toNat) k)) rfl trivial ?_
      refine aw_fS lX7_92 (as := [aR 22 c, aI (k : Int)]) (rest := []) (by decide) rfl (Nat.le_of_ble_eq_true rfl) rfl dX7_day_36 (cM_fallsIn l c (by omega) (k : Int) (aRow σ c (faN (seN (σ 22 c) (σ 22 c 0).toNat) k)) (by rw [aRow_self]; exact hwk) (by omega) (by omega)) ?_
      refine aw_b kX7_ok bX7_day_39_ok (Cs := []) (pc' := 29) (L' := [some (aR 22 c), some (aI ((k : Int) + 1))]) (st' := []) (σ' := aRow (aRow σ c (faN (seN (σ 22 c) (σ 22 c 0).toNat) k)) c (faR ((aRow σ c (faN (seN (σ 22 c) (σ 22 c 0).toNat) k)) 22 c) k)) rfl trivial ?_
      exact aw_eq rfl rfl (by rw [aRow_two, aRow_self]; rfl) (ihk (by omega))
  · refine aw_b kX7_ok bX7_day_16_ok (Cs := []) (pc' := 18) (L' := [some (aR 22 c), some (aI (n : Int))]) (st' := [aI (n : Int), aR 22 c]) (σ' := aRow σ c (seN (σ 22 c) n)) rfl trivial ?_
    refine aw_fS lX7_88 (as := [aR 22 c, aI (n : Int)]) (rest := []) (by decide) rfl (Nat.le_of_ble_eq_true rfl) rfl dX7_day_18 (cM_isSeen l c (by omega) (n : Int) (aRow σ c (seN (σ 22 c) n)) (by rw [aRow_self]; exact hwn) (by omega) (by rw [aRow_self, e0.1]; omega) (by rw [aRow_self, e0.2.1]; omega)) ?_
    refine aw_b kX7_ok bX7_day_21_ok (Cs := []) (pc' := 9) (L' := [some (aR 22 c), some (aI ((n : Int) + 1))]) (st' := []) (σ' := aRow (aRow σ c (seN (σ 22 c) n)) c (seR ((aRow σ c (seN (σ 22 c) n)) 22 c) n)) rfl trivial ?_
    exact aw_eq rfl rfl (by rw [aRow_two, aRow_self]; rfl) (ihn (by omega))
