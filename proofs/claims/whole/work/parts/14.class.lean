/-! ===== the class: small methods, the cabinet up to a day ===== -/
def bcN (x : Int) : Nat → Int
  | 0 => 0
  | n + 1 => bcN x n + aAnd (x / 2 ^ (Int.toNat (n : Int))) 1
set_option maxRecDepth 10000 in
theorem cJ_bitCount (l : Launch) (n : Nat) (hn : n < 256) (σ : aS) : AM l 0 mJ6_bitCount_0f7a4 [aI (n : Int)] σ (aF (some (aI (bcN (n : Int) 8))) σ) := by
  refine am_of (by decide) (Nat.le_of_ble_eq_true rfl) (L := [some (aI (n : Int))]) rfl ?_
  refine aw_b kJ6_ok bJ6_bitCount_0f7a4_0_ok (Cs := [0 ≤ 1 ∧ 1 < 32, 0 ≤ (n : Int) ∧ (n : Int) < 2147483648, 0 ≤ 2 ∧ 2 < 32, 0 ≤ (n : Int) - (aAnd ((n : Int) / 2 ^ (Int.toNat 1)) 1431655765) ∧ (n : Int) - (aAnd ((n : Int) / 2 ^ (Int.toNat 1)) 1431655765) < 2147483648, 0 ≤ 4 ∧ 4 < 32, 0 ≤ (aAnd ((n : Int) - (aAnd ((n : Int) / 2 ^ (Int.toNat 1)) 1431655765)) 858993459) + (aAnd (((n : Int) - (aAnd ((n : Int) / 2 ^ (Int.toNat 1)) 1431655765)) / 2 ^ (Int.toNat 2)) 858993459) ∧ (aAnd ((n : Int) - (aAnd ((n : Int) / 2 ^ (Int.toNat 1)) 1431655765)) 858993459) + (aAnd (((n : Int) - (aAnd ((n : Int) / 2 ^ (Int.toNat 1)) 1431655765)) / 2 ^ (Int.toNat 2)) 858993459) < 2147483648, 0 ≤ 8 ∧ 8 < 32, 0 ≤ aAnd (((aAnd ((n : Int) - (aAnd ((n : Int) / 2 ^ (Int.toNat 1)) 1431655765)) 858993459) + (aAnd (((n : Int) - (aAnd ((n : Int) / 2 ^ (Int.toNat 1)) 1431655765)) / 2 ^ (Int.toNat 2)) 858993459)) + (((aAnd ((n : Int) - (aAnd ((n : Int) / 2 ^ (Int.toNat 1)) 1431655765)) 858993459) + (aAnd (((n : Int) - (aAnd ((n : Int) / 2 ^ (Int.toNat 1)) 1431655765)) / 2 ^ (Int.toNat 2)) 858993459)) / 2 ^ (Int.toNat 4))) 252645135 ∧ aAnd (((aAnd ((n : Int) - (aAnd ((n : Int) / 2 ^ (Int.toNat 1)) 1431655765)) 858993459) + (aAnd (((n : Int) - (aAnd ((n : Int) / 2 ^ (Int.toNat 1)) 1431655765)) / 2 ^ (Int.toNat 2)) 858993459)) + (((aAnd ((n : Int) - (aAnd ((n : Int) / 2 ^ (Int.toNat 1)) 1431655765)) 858993459) + (aAnd (((n : Int) - (aAnd ((n : Int) / 2 ^ (Int.toNat 1)) 1431655765)) / 2 ^ (Int.toNat 2)) 858993459)) / 2 ^ (Int.toNat 4))) 252645135 < 2147483648, 0 ≤ 16 ∧ 16 < 32, 0 ≤ (aAnd (((aAnd ((n : Int) - (aAnd ((n : Int) / 2 ^ (Int.toNat 1)) 1431655765)) 858993459) + (aAnd (((n : Int) - (aAnd ((n : Int) / 2 ^ (Int.toNat 1)) 1431655765)) / 2 ^ (Int.toNat 2)) 858993459)) + (((aAnd ((n : Int) - (aAnd ((n : Int) / 2 ^ (Int.toNat 1)) 1431655765)) 858993459) + (aAnd (((n : Int) - (aAnd ((n : Int) / 2 ^ (Int.toNat 1)) 1431655765)) / 2 ^ (Int.toNat 2)) 858993459)) / 2 ^ (Int.toNat 4))) 252645135) + ((aAnd (((aAnd ((n : Int) - (aAnd ((n : Int) / 2 ^ (Int.toNat 1)) 1431655765)) 858993459) + (aAnd (((n : Int) - (aAnd ((n : Int) / 2 ^ (Int.toNat 1)) 1431655765)) / 2 ^ (Int.toNat 2)) 858993459)) + (((aAnd ((n : Int) - (aAnd ((n : Int) / 2 ^ (Int.toNat 1)) 1431655765)) 858993459) + (aAnd (((n : Int) - (aAnd ((n : Int) / 2 ^ (Int.toNat 1)) 1431655765)) / 2 ^ (Int.toNat 2)) 858993459)) / 2 ^ (Int.toNat 4))) 252645135) / 2 ^ (Int.toNat 8)) ∧ (aAnd (((aAnd ((n : Int) - (aAnd ((n : Int) / 2 ^ (Int.toNat 1)) 1431655765)) 858993459) + (aAnd (((n : Int) - (aAnd ((n : Int) / 2 ^ (Int.toNat 1)) 1431655765)) / 2 ^ (Int.toNat 2)) 858993459)) + (((aAnd ((n : Int) - (aAnd ((n : Int) / 2 ^ (Int.toNat 1)) 1431655765)) 858993459) + (aAnd (((n : Int) - (aAnd ((n : Int) / 2 ^ (Int.toNat 1)) 1431655765)) / 2 ^ (Int.toNat 2)) 858993459)) / 2 ^ (Int.toNat 4))) 252645135) + ((aAnd (((aAnd ((n : Int) - (aAnd ((n : Int) / 2 ^ (Int.toNat 1)) 1431655765)) 858993459) + (aAnd (((n : Int) - (aAnd ((n : Int) / 2 ^ (Int.toNat 1)) 1431655765)) / 2 ^ (Int.toNat 2)) 858993459)) + (((aAnd ((n : Int) - (aAnd ((n : Int) / 2 ^ (Int.toNat 1)) 1431655765)) 858993459) + (aAnd (((n : Int) - (aAnd ((n : Int) / 2 ^ (Int.toNat 1)) 1431655765)) / 2 ^ (Int.toNat 2)) 858993459)) / 2 ^ (Int.toNat 4))) 252645135) / 2 ^ (Int.toNat 8)) < 2147483648]) (pc' := 52) (L' := [some (aI (((aAnd (((aAnd ((n : Int) - (aAnd ((n : Int) / 2 ^ (Int.toNat 1)) 1431655765)) 858993459) + (aAnd (((n : Int) - (aAnd ((n : Int) / 2 ^ (Int.toNat 1)) 1431655765)) / 2 ^ (Int.toNat 2)) 858993459)) + (((aAnd ((n : Int) - (aAnd ((n : Int) / 2 ^ (Int.toNat 1)) 1431655765)) 858993459) + (aAnd (((n : Int) - (aAnd ((n : Int) / 2 ^ (Int.toNat 1)) 1431655765)) / 2 ^ (Int.toNat 2)) 858993459)) / 2 ^ (Int.toNat 4))) 252645135) + ((aAnd (((aAnd ((n : Int) - (aAnd ((n : Int) / 2 ^ (Int.toNat 1)) 1431655765)) 858993459) + (aAnd (((n : Int) - (aAnd ((n : Int) / 2 ^ (Int.toNat 1)) 1431655765)) / 2 ^ (Int.toNat 2)) 858993459)) + (((aAnd ((n : Int) - (aAnd ((n : Int) / 2 ^ (Int.toNat 1)) 1431655765)) 858993459) + (aAnd (((n : Int) - (aAnd ((n : Int) / 2 ^ (Int.toNat 1)) 1431655765)) / 2 ^ (Int.toNat 2)) 858993459)) / 2 ^ (Int.toNat 4))) 252645135) / 2 ^ (Int.toNat 8))) + (((aAnd (((aAnd ((n : Int) - (aAnd ((n : Int) / 2 ^ (Int.toNat 1)) 1431655765)) 858993459) + (aAnd (((n : Int) - (aAnd ((n : Int) / 2 ^ (Int.toNat 1)) 1431655765)) / 2 ^ (Int.toNat 2)) 858993459)) + (((aAnd ((n : Int) - (aAnd ((n : Int) / 2 ^ (Int.toNat 1)) 1431655765)) 858993459) + (aAnd (((n : Int) - (aAnd ((n : Int) / 2 ^ (Int.toNat 1)) 1431655765)) / 2 ^ (Int.toNat 2)) 858993459)) / 2 ^ (Int.toNat 4))) 252645135) + ((aAnd (((aAnd ((n : Int) - (aAnd ((n : Int) / 2 ^ (Int.toNat 1)) 1431655765)) 858993459) + (aAnd (((n : Int) - (aAnd ((n : Int) / 2 ^ (Int.toNat 1)) 1431655765)) / 2 ^ (Int.toNat 2)) 858993459)) + (((aAnd ((n : Int) - (aAnd ((n : Int) / 2 ^ (Int.toNat 1)) 1431655765)) 858993459) + (aAnd (((n : Int) - (aAnd ((n : Int) / 2 ^ (Int.toNat 1)) 1431655765)) / 2 ^ (Int.toNat 2)) 858993459)) / 2 ^ (Int.toNat 4))) 252645135) / 2 ^ (Int.toNat 8))) / 2 ^ (Int.toNat 16))))]) (st' := [aI (aAnd (((aAnd (((aAnd ((n : Int) - (aAnd ((n : Int) / 2 ^ (Int.toNat 1)) 1431655765)) 858993459) + (aAnd (((n : Int) - (aAnd ((n : Int) / 2 ^ (Int.toNat 1)) 1431655765)) / 2 ^ (Int.toNat 2)) 858993459)) + (((aAnd ((n : Int) - (aAnd ((n : Int) / 2 ^ (Int.toNat 1)) 1431655765)) 858993459) + (aAnd (((n : Int) - (aAnd ((n : Int) / 2 ^ (Int.toNat 1)) 1431655765)) / 2 ^ (Int.toNat 2)) 858993459)) / 2 ^ (Int.toNat 4))) 252645135) + ((aAnd (((aAnd ((n : Int) - (aAnd ((n : Int) / 2 ^ (Int.toNat 1)) 1431655765)) 858993459) + (aAnd (((n : Int) - (aAnd ((n : Int) / 2 ^ (Int.toNat 1)) 1431655765)) / 2 ^ (Int.toNat 2)) 858993459)) + (((aAnd ((n : Int) - (aAnd ((n : Int) / 2 ^ (Int.toNat 1)) 1431655765)) 858993459) + (aAnd (((n : Int) - (aAnd ((n : Int) / 2 ^ (Int.toNat 1)) 1431655765)) / 2 ^ (Int.toNat 2)) 858993459)) / 2 ^ (Int.toNat 4))) 252645135) / 2 ^ (Int.toNat 8))) + (((aAnd (((aAnd ((n : Int) - (aAnd ((n : Int) / 2 ^ (Int.toNat 1)) 1431655765)) 858993459) + (aAnd (((n : Int) - (aAnd ((n : Int) / 2 ^ (Int.toNat 1)) 1431655765)) / 2 ^ (Int.toNat 2)) 858993459)) + (((aAnd ((n : Int) - (aAnd ((n : Int) / 2 ^ (Int.toNat 1)) 1431655765)) 858993459) + (aAnd (((n : Int) - (aAnd ((n : Int) / 2 ^ (Int.toNat 1)) 1431655765)) / 2 ^ (Int.toNat 2)) 858993459)) / 2 ^ (Int.toNat 4))) 252645135) + ((aAnd (((aAnd ((n : Int) - (aAnd ((n : Int) / 2 ^ (Int.toNat 1)) 1431655765)) 858993459) + (aAnd (((n : Int) - (aAnd ((n : Int) / 2 ^ (Int.toNat 1)) 1431655765)) / 2 ^ (Int.toNat 2)) 858993459)) + (((aAnd ((n : Int) - (aAnd ((n : Int) / 2 ^ (Int.toNat 1)) 1431655765)) 858993459) + (aAnd (((n : Int) - (aAnd ((n : Int) / 2 ^ (Int.toNat 1)) 1431655765)) / 2 ^ (Int.toNat 2)) 858993459)) / 2 ^ (Int.toNat 4))) 252645135) / 2 ^ (Int.toNat 8))) / 2 ^ (Int.toNat 16))) 63)]) (σ' := σ) rfl (show (0 ≤ 1 ∧ 1 < 32) ∧ (0 ≤ (n : Int) ∧ (n : Int) < 2147483648) ∧ (0 ≤ 2 ∧ 2 < 32) ∧ (0 ≤ (n : Int) - (aAnd ((n : Int) / 2 ^ (Int.toNat 1)) 1431655765) ∧ (n : Int) - (aAnd ((n : Int) / 2 ^ (Int.toNat 1)) 1431655765) < 2147483648) ∧ (0 ≤ 4 ∧ 4 < 32) ∧ (0 ≤ (aAnd ((n : Int) - (aAnd ((n : Int) / 2 ^ (Int.toNat 1)) 1431655765)) 858993459) + (aAnd (((n : Int) - (aAnd ((n : Int) / 2 ^ (Int.toNat 1)) 1431655765)) / 2 ^ (Int.toNat 2)) 858993459) ∧ (aAnd ((n : Int) - (aAnd ((n : Int) / 2 ^ (Int.toNat 1)) 1431655765)) 858993459) + (aAnd (((n : Int) - (aAnd ((n : Int) / 2 ^ (Int.toNat 1)) 1431655765)) / 2 ^ (Int.toNat 2)) 858993459) < 2147483648) ∧ (0 ≤ 8 ∧ 8 < 32) ∧ (0 ≤ aAnd (((aAnd ((n : Int) - (aAnd ((n : Int) / 2 ^ (Int.toNat 1)) 1431655765)) 858993459) + (aAnd (((n : Int) - (aAnd ((n : Int) / 2 ^ (Int.toNat 1)) 1431655765)) / 2 ^ (Int.toNat 2)) 858993459)) + (((aAnd ((n : Int) - (aAnd ((n : Int) / 2 ^ (Int.toNat 1)) 1431655765)) 858993459) + (aAnd (((n : Int) - (aAnd ((n : Int) / 2 ^ (Int.toNat 1)) 1431655765)) / 2 ^ (Int.toNat 2)) 858993459)) / 2 ^ (Int.toNat 4))) 252645135 ∧ aAnd (((aAnd ((n : Int) - (aAnd ((n : Int) / 2 ^ (Int.toNat 1)) 1431655765)) 858993459) + (aAnd (((n : Int) - (aAnd ((n : Int) / 2 ^ (Int.toNat 1)) 1431655765)) / 2 ^ (Int.toNat 2)) 858993459)) + (((aAnd ((n : Int) - (aAnd ((n : Int) / 2 ^ (Int.toNat 1)) 1431655765)) 858993459) + (aAnd (((n : Int) - (aAnd ((n : Int) / 2 ^ (Int.toNat 1)) 1431655765)) / 2 ^ (Int.toNat 2)) 858993459)) / 2 ^ (Int.toNat 4))) 252645135 < 2147483648) ∧ (0 ≤ 16 ∧ 16 < 32) ∧ (0 ≤ (aAnd (((aAnd ((n : Int) - (aAnd ((n : Int) / 2 ^ (Int.toNat 1)) 1431655765)) 858993459) + (aAnd (((n : Int) - (aAnd ((n : Int) / 2 ^ (Int.toNat 1)) 1431655765)) / 2 ^ (Int.toNat 2)) 858993459)) + (((aAnd ((n : Int) - (aAnd ((n : Int) / 2 ^ (Int.toNat 1)) 1431655765)) 858993459) + (aAnd (((n : Int) - (aAnd ((n : Int) / 2 ^ (Int.toNat 1)) 1431655765)) / 2 ^ (Int.toNat 2)) 858993459)) / 2 ^ (Int.toNat 4))) 252645135) + ((aAnd (((aAnd ((n : Int) - (aAnd ((n : Int) / 2 ^ (Int.toNat 1)) 1431655765)) 858993459) + (aAnd (((n : Int) - (aAnd ((n : Int) / 2 ^ (Int.toNat 1)) 1431655765)) / 2 ^ (Int.toNat 2)) 858993459)) + (((aAnd ((n : Int) - (aAnd ((n : Int) / 2 ^ (Int.toNat 1)) 1431655765)) 858993459) + (aAnd (((n : Int) - (aAnd ((n : Int) / 2 ^ (Int.toNat 1)) 1431655765)) / 2 ^ (Int.toNat 2)) 858993459)) / 2 ^ (Int.toNat 4))) 252645135) / 2 ^ (Int.toNat 8)) ∧ (aAnd (((aAnd ((n : Int) - (aAnd ((n : Int) / 2 ^ (Int.toNat 1)) 1431655765)) 858993459) + (aAnd (((n : Int) - (aAnd ((n : Int) / 2 ^ (Int.toNat 1)) 1431655765)) / 2 ^ (Int.toNat 2)) 858993459)) + (((aAnd ((n : Int) - (aAnd ((n : Int) / 2 ^ (Int.toNat 1)) 1431655765)) 858993459) + (aAnd (((n : Int) - (aAnd ((n : Int) / 2 ^ (Int.toNat 1)) 1431655765)) / 2 ^ (Int.toNat 2)) 858993459)) / 2 ^ (Int.toNat 4))) 252645135) + ((aAnd (((aAnd ((n : Int) - (aAnd ((n : Int) / 2 ^ (Int.toNat 1)) 1431655765)) 858993459) + (aAnd (((n : Int) - (aAnd ((n : Int) / 2 ^ (Int.toNat 1)) 1431655765)) / 2 ^ (Int.toNat 2)) 858993459)) + (((aAnd ((n : Int) - (aAnd ((n : Int) / 2 ^ (Int.toNat 1)) 1431655765)) 858993459) + (aAnd (((n : Int) - (aAnd ((n : Int) / 2 ^ (Int.toNat 1)) 1431655765)) / 2 ^ (Int.toNat 2)) 858993459)) / 2 ^ (Int.toNat 4))) 252645135) / 2 ^ (Int.toNat 8)) < 2147483648) from ⟨by (revert hn; revert n; decide +kernel), by (revert hn; revert n; decide +kernel), by (revert hn; revert n; decide +kernel), by (revert hn; revert n; decide +kernel), by (revert hn; revert n; decide +kernel), by (revert hn; revert n; decide +kernel), by (revert hn; revert n; decide +kernel), by (revert hn; revert n; decide +kernel), by (revert hn; revert n; decide +kernel), by (revert hn; revert n; decide +kernel)⟩) ?_
  exact aw_iret dJ6_bitCount_0f7a4_52 rfl ⟨aret (by (revert hn; revert n; decide +kernel)), rfl⟩
set_option maxRecDepth 10000 in
theorem cC_isOffice (l : Launch) (v : Int) (σ : aS) (h1 : aIr v) : AM l 0 mX6_isOffice [aI v] σ (aF (some (aI (if 0 ≤ v ∧ v < 5 then 1 else 0))) σ) := by
  refine am_of (by decide) (Nat.le_of_ble_eq_true rfl) (L := [some (aI v)]) rfl ?_
  refine aw_b kX6_ok bX6_isOffice_0_ok (Cs := []) (pc' := 1) (L' := [some (aI v)]) (st' := [aI v]) (σ' := σ) rfl trivial ?_
  refine aw_ilt dX6_isOffice_1 (tgt := 13) (by decide) ⟨by omega, by omega⟩ (fun wh1 => ?_) (fun wh1 => ?_)
  · refine aw_b kX6_ok bX6_isOffice_13_ok (Cs := []) (pc' := 14) (L' := [some (aI v)]) (st' := [aI 0]) (σ' := σ) rfl trivial ?_
    exact aw_zret dX6_isOffice_14 rfl (by omega) ⟨aret (by split <;> omega), rfl⟩
  · refine aw_b kX6_ok bX6_isOffice_4_ok (Cs := []) (pc' := 6) (L' := [some (aI v)]) (st' := [aI 5, aI v]) (σ' := σ) rfl trivial ?_
    refine aw_cge dX6_isOffice_6 (tgt := 13) (by decide) ⟨by omega, by omega⟩ ⟨by omega, by omega⟩ (fun wh2 => ?_) (fun wh2 => ?_)
    · refine aw_b kX6_ok bX6_isOffice_13_ok (Cs := []) (pc' := 14) (L' := [some (aI v)]) (st' := [aI 0]) (σ' := σ) rfl trivial ?_
      exact aw_zret dX6_isOffice_14 rfl (by omega) ⟨aret (by split <;> omega), rfl⟩
    · refine aw_b kX6_ok bX6_isOffice_9_ok (Cs := []) (pc' := 14) (L' := [some (aI v)]) (st' := [aI 1]) (σ' := σ) rfl trivial ?_
      exact aw_zret dX6_isOffice_14 rfl (by omega) ⟨aret (by split <;> omega), rfl⟩
set_option maxRecDepth 10000 in
theorem cC_isShelf (l : Launch) (v : Int) (σ : aS) (h1 : aIr v) : AM l 0 mX6_isShelf [aI v] σ (aF (some (aI (if 0 ≤ v ∧ v < 8 then 1 else 0))) σ) := by
  refine am_of (by decide) (Nat.le_of_ble_eq_true rfl) (L := [some (aI v)]) rfl ?_
  refine aw_b kX6_ok bX6_isShelf_0_ok (Cs := []) (pc' := 1) (L' := [some (aI v)]) (st' := [aI v]) (σ' := σ) rfl trivial ?_
  refine aw_ilt dX6_isShelf_1 (tgt := 14) (by decide) ⟨by omega, by omega⟩ (fun wh1 => ?_) (fun wh1 => ?_)
  · refine aw_b kX6_ok bX6_isShelf_14_ok (Cs := []) (pc' := 15) (L' := [some (aI v)]) (st' := [aI 0]) (σ' := σ) rfl trivial ?_
    exact aw_zret dX6_isShelf_15 rfl (by omega) ⟨aret (by split <;> omega), rfl⟩
  · refine aw_b kX6_ok bX6_isShelf_4_ok (Cs := []) (pc' := 7) (L' := [some (aI v)]) (st' := [aI 8, aI v]) (σ' := σ) rfl trivial ?_
    refine aw_cge dX6_isShelf_7 (tgt := 14) (by decide) ⟨by omega, by omega⟩ ⟨by omega, by omega⟩ (fun wh2 => ?_) (fun wh2 => ?_)
    · refine aw_b kX6_ok bX6_isShelf_14_ok (Cs := []) (pc' := 15) (L' := [some (aI v)]) (st' := [aI 0]) (σ' := σ) rfl trivial ?_
      exact aw_zret dX6_isShelf_15 rfl (by omega) ⟨aret (by split <;> omega), rfl⟩
    · refine aw_b kX6_ok bX6_isShelf_10_ok (Cs := []) (pc' := 15) (L' := [some (aI v)]) (st' := [aI 1]) (σ' := σ) rfl trivial ?_
      exact aw_zret dX6_isShelf_15 rfl (by omega) ⟨aret (by split <;> omega), rfl⟩
set_option maxRecDepth 10000 in
theorem cC_isCostume (l : Launch) (v : Int) (σ : aS) (h1 : aIr v) : AM l 0 mX6_isCostume [aI v] σ (aF (some (aI (if 0 ≤ v ∧ v < 10 then 1 else 0))) σ) := by
  refine am_of (by decide) (Nat.le_of_ble_eq_true rfl) (L := [some (aI v)]) rfl ?_
  refine aw_b kX6_ok bX6_isCostume_0_ok (Cs := []) (pc' := 1) (L' := [some (aI v)]) (st' := [aI v]) (σ' := σ) rfl trivial ?_
  refine aw_ilt dX6_isCostume_1 (tgt := 14) (by decide) ⟨by omega, by omega⟩ (fun wh1 => ?_) (fun wh1 => ?_)
  · refine aw_b kX6_ok bX6_isCostume_14_ok (Cs := []) (pc' := 15) (L' := [some (aI v)]) (st' := [aI 0]) (σ' := σ) rfl trivial ?_
    exact aw_zret dX6_isCostume_15 rfl (by omega) ⟨aret (by split <;> omega), rfl⟩
  · refine aw_b kX6_ok bX6_isCostume_4_ok (Cs := []) (pc' := 7) (L' := [some (aI v)]) (st' := [aI 10, aI v]) (σ' := σ) rfl trivial ?_
    refine aw_cge dX6_isCostume_7 (tgt := 14) (by decide) ⟨by omega, by omega⟩ ⟨by omega, by omega⟩ (fun wh2 => ?_) (fun wh2 => ?_)
    · refine aw_b kX6_ok bX6_isCostume_14_ok (Cs := []) (pc' := 15) (L' := [some (aI v)]) (st' := [aI 0]) (σ' := σ) rfl trivial ?_
      exact aw_zret dX6_isCostume_15 rfl (by omega) ⟨aret (by split <;> omega), rfl⟩
    · refine aw_b kX6_ok bX6_isCostume_10_ok (Cs := []) (pc' := 15) (L' := [some (aI v)]) (st' := [aI 1]) (σ' := σ) rfl trivial ?_
      exact aw_zret dX6_isCostume_15 rfl (by omega) ⟨aret (by split <;> omega), rfl⟩
set_option maxRecDepth 10000 in
theorem cC_isAhead (l : Launch) (v : Int) (σ : aS) (h1 : aIr v) : AM l 0 mX6_isAhead [aI v] σ (aF (some (aI (if 0 ≤ v ∧ v < 61 then 1 else 0))) σ) := by
  refine am_of (by decide) (Nat.le_of_ble_eq_true rfl) (L := [some (aI v)]) rfl ?_
  refine aw_b kX6_ok bX6_isAhead_0_ok (Cs := []) (pc' := 1) (L' := [some (aI v)]) (st' := [aI v]) (σ' := σ) rfl trivial ?_
  refine aw_ilt dX6_isAhead_1 (tgt := 14) (by decide) ⟨by omega, by omega⟩ (fun wh1 => ?_) (fun wh1 => ?_)
  · refine aw_b kX6_ok bX6_isAhead_14_ok (Cs := []) (pc' := 15) (L' := [some (aI v)]) (st' := [aI 0]) (σ' := σ) rfl trivial ?_
    exact aw_zret dX6_isAhead_15 rfl (by omega) ⟨aret (by split <;> omega), rfl⟩
  · refine aw_b kX6_ok bX6_isAhead_4_ok (Cs := []) (pc' := 7) (L' := [some (aI v)]) (st' := [aI 60, aI v]) (σ' := σ) rfl trivial ?_
    refine aw_cgt dX6_isAhead_7 (tgt := 14) (by decide) ⟨by omega, by omega⟩ ⟨by omega, by omega⟩ (fun wh2 => ?_) (fun wh2 => ?_)
    · refine aw_b kX6_ok bX6_isAhead_14_ok (Cs := []) (pc' := 15) (L' := [some (aI v)]) (st' := [aI 0]) (σ' := σ) rfl trivial ?_
      exact aw_zret dX6_isAhead_15 rfl (by omega) ⟨aret (by split <;> omega), rfl⟩
    · refine aw_b kX6_ok bX6_isAhead_10_ok (Cs := []) (pc' := 15) (L' := [some (aI v)]) (st' := [aI 1]) (σ' := σ) rfl trivial ?_
      exact aw_zret dX6_isAhead_15 rfl (by omega) ⟨aret (by split <;> omega), rfl⟩
set_option maxRecDepth 10000 in
theorem cC_isMate (l : Launch) (v : Int) (σ : aS) (h1 : aIr v) : AM l 0 mX6_isMate [aI v] σ (aF (some (aI (if (0 ≤ v ∧ v ≤ 7) ∨ v = 9 then 1 else 0))) σ) := by
  refine am_of (by decide) (Nat.le_of_ble_eq_true rfl) (L := [some (aI v)]) rfl ?_
  refine aw_b kX6_ok bX6_isMate_0_ok (Cs := []) (pc' := 1) (L' := [some (aI v)]) (st' := [aI v]) (σ' := σ) rfl trivial ?_
  refine aw_ilt dX6_isMate_1 (tgt := 20) (by decide) ⟨by omega, by omega⟩ (fun wh1 => ?_) (fun wh1 => ?_)
  · refine aw_b kX6_ok bX6_isMate_20_ok (Cs := []) (pc' := 21) (L' := [some (aI v)]) (st' := [aI 0]) (σ' := σ) rfl trivial ?_
    exact aw_zret dX6_isMate_21 rfl (by omega) ⟨aret (by split <;> omega), rfl⟩
  · refine aw_b kX6_ok bX6_isMate_4_ok (Cs := []) (pc' := 7) (L' := [some (aI v)]) (st' := [aI 8, aI v]) (σ' := σ) rfl trivial ?_
    refine aw_clt dX6_isMate_7 (tgt := 16) (by decide) ⟨by omega, by omega⟩ ⟨by omega, by omega⟩ (fun wh2 => ?_) (fun wh2 => ?_)
    · refine aw_b kX6_ok bX6_isMate_16_ok (Cs := []) (pc' := 21) (L' := [some (aI v)]) (st' := [aI 1]) (σ' := σ) rfl trivial ?_
      exact aw_zret dX6_isMate_21 rfl (by omega) ⟨aret (by split <;> omega), rfl⟩
    · refine aw_b kX6_ok bX6_isMate_10_ok (Cs := []) (pc' := 13) (L' := [some (aI v)]) (st' := [aI 9, aI v]) (σ' := σ) rfl trivial ?_
      refine aw_cne dX6_isMate_13 (tgt := 20) (by decide) ⟨by omega, by omega⟩ ⟨by omega, by omega⟩ (fun wh3 => ?_) (fun wh3 => ?_)
      · refine aw_b kX6_ok bX6_isMate_20_ok (Cs := []) (pc' := 21) (L' := [some (aI v)]) (st' := [aI 0]) (σ' := σ) rfl trivial ?_
        exact aw_zret dX6_isMate_21 rfl (by omega) ⟨aret (by split <;> omega), rfl⟩
      · refine aw_b kX6_ok bX6_isMate_16_ok (Cs := []) (pc' := 21) (L' := [some (aI v)]) (st' := [aI 1]) (σ' := σ) rfl trivial ?_
        exact aw_zret dX6_isMate_21 rfl (by omega) ⟨aret (by split <;> omega), rfl⟩
set_option maxRecDepth 10000 in
theorem cC_isChoice (l : Launch) (v : Int) (σ : aS) (h1 : aIr v) : AM l 0 mX6_isChoice [aI v] σ (aF (some (aI (if v = 0 ∨ v = 1 then 1 else 0))) σ) := by
  refine am_of (by decide) (Nat.le_of_ble_eq_true rfl) (L := [some (aI v)]) rfl ?_
  refine aw_b kX6_ok bX6_isChoice_0_ok (Cs := []) (pc' := 1) (L' := [some (aI v)]) (st' := [aI v]) (σ' := σ) rfl trivial ?_
  refine aw_ieq dX6_isChoice_1 (tgt := 9) (by decide) ⟨by omega, by omega⟩ (fun wh1 => ?_) (fun wh1 => ?_)
  · refine aw_b kX6_ok bX6_isChoice_9_ok (Cs := []) (pc' := 14) (L' := [some (aI v)]) (st' := [aI 1]) (σ' := σ) rfl trivial ?_
    exact aw_zret dX6_isChoice_14 rfl (by omega) ⟨aret (by split <;> omega), rfl⟩
  · refine aw_b kX6_ok bX6_isChoice_4_ok (Cs := []) (pc' := 6) (L' := [some (aI v)]) (st' := [aI 1, aI v]) (σ' := σ) rfl trivial ?_
    refine aw_cne dX6_isChoice_6 (tgt := 13) (by decide) ⟨by omega, by omega⟩ ⟨by omega, by omega⟩ (fun wh2 => ?_) (fun wh2 => ?_)
    · refine aw_b kX6_ok bX6_isChoice_13_ok (Cs := []) (pc' := 14) (L' := [some (aI v)]) (st' := [aI 0]) (σ' := σ) rfl trivial ?_
      exact aw_zret dX6_isChoice_14 rfl (by omega) ⟨aret (by split <;> omega), rfl⟩
    · refine aw_b kX6_ok bX6_isChoice_9_ok (Cs := []) (pc' := 14) (L' := [some (aI v)]) (st' := [aI 1]) (σ' := σ) rfl trivial ?_
      exact aw_zret dX6_isChoice_14 rfl (by omega) ⟨aret (by split <;> omega), rfl⟩
set_option maxRecDepth 10000 in
theorem cC_orNone (l : Launch) (v : Int) (σ : aS) (h1 : aIr v) : AM l 0 mX6_orNone [aI v] σ (aF (some (aI (if v = -1 then -4 else v))) σ) := by
  refine am_of (by decide) (Nat.le_of_ble_eq_true rfl) (L := [some (aI v)]) rfl ?_
  refine aw_b kX6_ok bX6_orNone_0_ok (Cs := []) (pc' := 2) (L' := [some (aI v)]) (st' := [aI (-1), aI v]) (σ' := σ) rfl trivial ?_
  refine aw_cne dX6_orNone_2 (tgt := 10) (by decide) ⟨by omega, by omega⟩ ⟨by omega, by omega⟩ (fun wh1 => ?_) (fun wh1 => ?_)
  · refine aw_b kX6_ok bX6_orNone_10_ok (Cs := []) (pc' := 11) (L' := [some (aI v)]) (st' := [aI v]) (σ' := σ) rfl trivial ?_
    exact aw_iret dX6_orNone_11 rfl ⟨aret (by split <;> omega), rfl⟩
  · refine aw_b kX6_ok bX6_orNone_5_ok (Cs := []) (pc' := 11) (L' := [some (aI v)]) (st' := [aI (-4)]) (σ' := σ) rfl trivial ?_
    exact aw_iret dX6_orNone_11 rfl ⟨aret (by split <;> omega), rfl⟩
theorem aAnd1 {d : Int} (h : 0 ≤ d ∧ d < 2147483648) : aAnd d 1 = d % 2 := by
  obtain ⟨n, rfl⟩ := Int.eq_ofNat_of_zero_le h.1
  have e : Int32.ofInt (n : Int) = nI n := Int32.ofInt_eq_ofNat
  unfold aAnd
  rw [e, show Int32.ofInt 1 = (1 : Int32) from rfl, pk_andN (by omega) 1 (by decide), nI_toInt (by omega)]
  omega
set_option maxRecDepth 10000 in
theorem cC_shown (l : Launch) (k f c d : Int) (σ : aS) (h1 : 0 ≤ k ∧ k ≤ 7) (h2 : 0 ≤ f ∧ f ≤ 9) (h3 : 0 ≤ c ∧ c ≤ 9) (h4 : 0 ≤ d ∧ d ≤ 1000000) : AM l 1 mX3_shown [aI k, aI f, aI c, aI d] σ (aF (some (aI (shF k f c d))) σ) := by
  have em : d.tmod 2 = d % 2 := Int.tmod_eq_emod_of_nonneg h4.1
  have en := aAnd1 (d := d) (by omega)
  refine am_of (by decide) (Nat.le_of_ble_eq_true rfl) (L := [some (aI k), some (aI f), some (aI c), some (aI d), none]) rfl ?_
  refine aw_b kX3_ok bX3_shown_0_ok (Cs := []) (pc' := 3) (L' := [some (aI k), some (aI f), some (aI c), some (aI d), none]) (st' := [aI (c - f)]) (σ' := σ) rfl trivial ?_
  have ez : 0 ≤ (if c - f < 0 then -(c - f) else c - f) ∧ (if c - f < 0 then -(c - f) else c - f) ≤ 9 := by split <;> omega
  have ey : (if c - f < 0 then -(c - f) else c - f) = 0 ↔ c = f := by split <;> omega
  refine aw_abs lX3_9 (rest := []) (by decide) (Nat.le_of_ble_eq_true rfl) dX3_shown_3 (x := c - f) ⟨by omega, by omega⟩ ?_
  generalize hz : (if c - f < 0 then -(c - f) else c - f) = z at ez ey ⊢
  refine aw_b kX3_ok bX3_shown_6_ok (Cs := []) (pc' := 9) (L' := [some (aI k), some (aI f), some (aI c), some (aI d), some (aI z)]) (st' := [aI k]) (σ' := σ) rfl trivial ?_
  rcases (show k = 1 ∨ k = 2 ∨ k = 3 ∨ k = 4 ∨ k = 5 ∨ k = 6 ∨ k = 7 ∨ (k < 1 ∨ 7 < k) by omega) with wh1 | wh1 | wh1 | wh1 | wh1 | wh1 | wh1 | wh1
  · refine aw_tsw dX3_shown_9 (tgt := 52) ⟨by omega, by omega⟩ (by decide) (by rw [wh1]; decide) ?_
    refine aw_b kX3_ok bX3_shown_52_ok (Cs := []) (pc' := 54) (L' := [some (aI k), some (aI f), some (aI c), some (aI d), some (aI z)]) (st' := [aI 6]) (σ' := σ) rfl trivial ?_
    exact aw_iret dX3_shown_54 rfl ⟨aret (by unfold shF; (try simp [*]) <;> (first | omega | ((repeat' split) <;> omega))), rfl⟩
  · refine aw_tsw dX3_shown_9 (tgt := 55) ⟨by omega, by omega⟩ (by decide) (by rw [wh1]; decide) ?_
    refine aw_b kX3_ok bX3_shown_55_ok (Cs := [-2147483648 ≤ z ∧ z < 2147483648, 0 < 3 ∧ 3 < 2147483648]) (pc' := 61) (L' := [some (aI k), some (aI f), some (aI c), some (aI d), some (aI z)]) (st' := [aI (1 + (Int.tdiv z 3))]) (σ' := σ) rfl (show (-2147483648 ≤ z ∧ z < 2147483648) ∧ (0 < 3 ∧ 3 < 2147483648) from ⟨by omega, by omega⟩) ?_
    exact aw_iret dX3_shown_61 rfl ⟨aret (by unfold shF; (try simp [*]) <;> (first | omega | ((repeat' split) <;> omega))), rfl⟩
  · refine aw_tsw dX3_shown_9 (tgt := 62) ⟨by omega, by omega⟩ (by decide) (by rw [wh1]; decide) ?_
    refine aw_b kX3_ok bX3_shown_62_ok (Cs := []) (pc' := 66) (L' := [some (aI k), some (aI f), some (aI c), some (aI d), some (aI z)]) (st' := [aI 1, aI (aAnd d 1)]) (σ' := σ) rfl trivial ?_
    refine aw_cne dX3_shown_66 (tgt := 76) (by decide) ⟨by omega, by omega⟩ ⟨by omega, by omega⟩ (fun wh2 => ?_) (fun wh2 => ?_)
    · refine aw_b kX3_ok bX3_shown_76_ok (Cs := []) (pc' := 78) (L' := [some (aI k), some (aI f), some (aI c), some (aI d), some (aI z)]) (st' := [aI 6]) (σ' := σ) rfl trivial ?_
      exact aw_iret dX3_shown_78 rfl ⟨aret (by unfold shF; (try simp [*]) <;> (first | omega | ((repeat' split) <;> omega))), rfl⟩
    · refine aw_b kX3_ok bX3_shown_69_ok (Cs := []) (pc' := 78) (L' := [some (aI k), some (aI f), some (aI c), some (aI d), some (aI z)]) (st' := [aI (6 + f)]) (σ' := σ) rfl trivial ?_
      exact aw_iret dX3_shown_78 rfl ⟨aret (by unfold shF; (try simp [*]) <;> (first | omega | ((repeat' split) <;> omega))), rfl⟩
  · refine aw_tsw dX3_shown_9 (tgt := 79) ⟨by omega, by omega⟩ (by decide) (by rw [wh1]; decide) ?_
    refine aw_b kX3_ok bX3_shown_79_ok (Cs := []) (pc' := 81) (L' := [some (aI k), some (aI f), some (aI c), some (aI d), some (aI z)]) (st' := [aI z]) (σ' := σ) rfl trivial ?_
    refine aw_ine dX3_shown_81 (tgt := 88) (by decide) ⟨by omega, by omega⟩ (fun wh3 => ?_) (fun wh3 => ?_)
    · refine aw_b kX3_ok bX3_shown_88_ok (Cs := [-2147483648 ≤ z ∧ z < 2147483648, 0 < 3 ∧ 3 < 2147483648]) (pc' := 94) (L' := [some (aI k), some (aI f), some (aI c), some (aI d), some (aI z)]) (st' := [aI (1 + (Int.tdiv z 3))]) (σ' := σ) rfl (show (-2147483648 ≤ z ∧ z < 2147483648) ∧ (0 < 3 ∧ 3 < 2147483648) from ⟨by omega, by omega⟩) ?_
      exact aw_iret dX3_shown_94 rfl ⟨aret (by unfold shF; (try simp [*]) <;> (first | omega | ((repeat' split) <;> omega))), rfl⟩
    · refine aw_b kX3_ok bX3_shown_84_ok (Cs := []) (pc' := 94) (L' := [some (aI k), some (aI f), some (aI c), some (aI d), some (aI z)]) (st' := [aI 0]) (σ' := σ) rfl trivial ?_
      exact aw_iret dX3_shown_94 rfl ⟨aret (by unfold shF; (try simp [*]) <;> (first | omega | ((repeat' split) <;> omega))), rfl⟩
  · refine aw_tsw dX3_shown_9 (tgt := 95) ⟨by omega, by omega⟩ (by decide) (by rw [wh1]; decide) ?_
    refine aw_b kX3_ok bX3_shown_95_ok (Cs := []) (pc' := 99) (L' := [some (aI k), some (aI f), some (aI c), some (aI d), some (aI z)]) (st' := [aI (3 - c), aI 1]) (σ' := σ) rfl trivial ?_
    refine aw_max lX3_15 (rest := []) (by decide) (Nat.le_of_ble_eq_true rfl) dX3_shown_99 (x := 1) (y := 3 - c) ⟨by omega, by omega⟩ ⟨by omega, by omega⟩ ?_
    exact aw_iret dX3_shown_102 rfl ⟨aret (by unfold shF; (try simp [*]) <;> (first | omega | ((repeat' split) <;> omega))), rfl⟩
  · refine aw_tsw dX3_shown_9 (tgt := 103) ⟨by omega, by omega⟩ (by decide) (by rw [wh1]; decide) ?_
    refine aw_b kX3_ok bX3_shown_103_ok (Cs := []) (pc' := 105) (L' := [some (aI k), some (aI f), some (aI c), some (aI d), some (aI z)]) (st' := [aI f, aI c]) (σ' := σ) rfl trivial ?_
    refine aw_cge dX3_shown_105 (tgt := 113) (by decide) ⟨by omega, by omega⟩ ⟨by omega, by omega⟩ (fun wh4 => ?_) (fun wh4 => ?_)
    · refine aw_b kX3_ok bX3_shown_113_ok (Cs := []) (pc' := 115) (L' := [some (aI k), some (aI f), some (aI c), some (aI d), some (aI z)]) (st' := [aI 6]) (σ' := σ) rfl trivial ?_
      exact aw_iret dX3_shown_115 rfl ⟨aret (by unfold shF; (try simp [*]) <;> (first | omega | ((repeat' split) <;> omega))), rfl⟩
    · refine aw_b kX3_ok bX3_shown_108_ok (Cs := []) (pc' := 115) (L' := [some (aI k), some (aI f), some (aI c), some (aI d), some (aI z)]) (st' := [aI 9]) (σ' := σ) rfl trivial ?_
      exact aw_iret dX3_shown_115 rfl ⟨aret (by unfold shF; (try simp [*]) <;> (first | omega | ((repeat' split) <;> omega))), rfl⟩
  · refine aw_tsw dX3_shown_9 (tgt := 116) ⟨by omega, by omega⟩ (by decide) (by rw [wh1]; decide) ?_
    refine aw_b kX3_ok bX3_shown_116_ok (Cs := []) (pc' := 117) (L' := [some (aI k), some (aI f), some (aI c), some (aI d), some (aI z)]) (st' := [aI 0]) (σ' := σ) rfl trivial ?_
    exact aw_iret dX3_shown_117 rfl ⟨aret (by unfold shF; (try simp [*]) <;> (first | omega | ((repeat' split) <;> omega))), rfl⟩
  · refine aw_tsw dX3_shown_9 (tgt := 118) ⟨by omega, by omega⟩ (by decide) (by unfold aTgt; rw [if_pos (by omega)]; rfl) ?_
    refine aw_b kX3_ok bX3_shown_118_ok (Cs := []) (pc' := 119) (L' := [some (aI k), some (aI f), some (aI c), some (aI d), some (aI z)]) (st' := [aI 3]) (σ' := σ) rfl trivial ?_
    exact aw_iret dX3_shown_119 rfl ⟨aret (by unfold shF; (try simp [*]) <;> (first | omega | ((repeat' split) <;> omega))), rfl⟩
set_option maxRecDepth 10000 in
theorem cC_borne (l : Launch) (k f : Int) (σ : aS) (h1 : 0 ≤ k ∧ k ≤ 7) (h2 : 0 ≤ f ∧ f ≤ 9) : AM l 0 mX3_borne [aI k, aI f] σ (aF (some (aI (beF k f))) σ) := by
  refine am_of (by decide) (Nat.le_of_ble_eq_true rfl) (L := [some (aI k), some (aI f), none]) rfl ?_
  refine aw_b kX3_ok bX3_borne_0_ok (Cs := []) (pc' := 6) (L' := [some (aI k), some (aI f), some (aI (20 + f))]) (st' := [aI k]) (σ' := σ) rfl trivial ?_
  rcases (show k = 1 ∨ k = 2 ∨ k = 3 ∨ k = 4 ∨ k = 5 ∨ k = 6 ∨ k = 7 ∨ (k < 1 ∨ 7 < k) by omega) with wh1 | wh1 | wh1 | wh1 | wh1 | wh1 | wh1 | wh1
  · refine aw_tsw dX3_borne_6 (tgt := 48) ⟨by omega, by omega⟩ (by decide) (by rw [wh1]; decide) ?_
    refine aw_b kX3_ok bX3_borne_48_ok (Cs := []) (pc' := 50) (L' := [some (aI k), some (aI f), some (aI (20 + f))]) (st' := [aI 15]) (σ' := σ) rfl trivial ?_
    exact aw_iret dX3_borne_50 rfl ⟨aret (by unfold beF; (repeat' split) <;> omega), rfl⟩
  · refine aw_tsw dX3_borne_6 (tgt := 51) ⟨by omega, by omega⟩ (by decide) (by rw [wh1]; decide) ?_
    refine aw_b kX3_ok bX3_borne_51_ok (Cs := []) (pc' := 52) (L' := [some (aI k), some (aI f), some (aI (20 + f))]) (st' := [aI (20 + f)]) (σ' := σ) rfl trivial ?_
    exact aw_iret dX3_borne_52 rfl ⟨aret (by unfold beF; (repeat' split) <;> omega), rfl⟩
  · refine aw_tsw dX3_borne_6 (tgt := 48) ⟨by omega, by omega⟩ (by decide) (by rw [wh1]; decide) ?_
    refine aw_b kX3_ok bX3_borne_48_ok (Cs := []) (pc' := 50) (L' := [some (aI k), some (aI f), some (aI (20 + f))]) (st' := [aI 15]) (σ' := σ) rfl trivial ?_
    exact aw_iret dX3_borne_50 rfl ⟨aret (by unfold beF; (repeat' split) <;> omega), rfl⟩
  · refine aw_tsw dX3_borne_6 (tgt := 53) ⟨by omega, by omega⟩ (by decide) (by rw [wh1]; decide) ?_
    refine aw_b kX3_ok bX3_borne_53_ok (Cs := []) (pc' := 56) (L' := [some (aI k), some (aI f), some (aI (20 + f))]) (st' := [aI (2 * (20 + f))]) (σ' := σ) rfl trivial ?_
    exact aw_iret dX3_borne_56 rfl ⟨aret (by unfold beF; (repeat' split) <;> omega), rfl⟩
  · refine aw_tsw dX3_borne_6 (tgt := 57) ⟨by omega, by omega⟩ (by decide) (by rw [wh1]; decide) ?_
    refine aw_b kX3_ok bX3_borne_57_ok (Cs := []) (pc' := 63) (L' := [some (aI k), some (aI f), some (aI (20 + f))]) (st' := [aI (20 + (2 * f))]) (σ' := σ) rfl trivial ?_
    exact aw_iret dX3_borne_63 rfl ⟨aret (by unfold beF; (repeat' split) <;> omega), rfl⟩
  · refine aw_tsw dX3_borne_6 (tgt := 64) ⟨by omega, by omega⟩ (by decide) (by rw [wh1]; decide) ?_
    refine aw_b kX3_ok bX3_borne_64_ok (Cs := []) (pc' := 66) (L' := [some (aI k), some (aI f), some (aI (20 + f))]) (st' := [aI 7]) (σ' := σ) rfl trivial ?_
    exact aw_iret dX3_borne_66 rfl ⟨aret (by unfold beF; (repeat' split) <;> omega), rfl⟩
  · refine aw_tsw dX3_borne_6 (tgt := 67) ⟨by omega, by omega⟩ (by decide) (by rw [wh1]; decide) ?_
    refine aw_b kX3_ok bX3_borne_67_ok (Cs := []) (pc' := 69) (L' := [some (aI k), some (aI f), some (aI (20 + f))]) (st' := [aI 99]) (σ' := σ) rfl trivial ?_
    exact aw_iret dX3_borne_69 rfl ⟨aret (by unfold beF; (repeat' split) <;> omega), rfl⟩
  · refine aw_tsw dX3_borne_6 (tgt := 70) ⟨by omega, by omega⟩ (by decide) (by unfold aTgt; rw [if_pos (by omega)]; rfl) ?_
    refine aw_b kX3_ok bX3_borne_70_ok (Cs := []) (pc' := 72) (L' := [some (aI k), some (aI f), some (aI (20 + f))]) (st' := [aI 20]) (σ' := σ) rfl trivial ?_
    exact aw_iret dX3_borne_72 rfl ⟨aret (by unfold beF; (repeat' split) <;> omega), rfl⟩
set_option maxRecDepth 10000 in
theorem cC_forgotten (l : Launch) (k f : Int) (σ : aS) (h1 : 0 ≤ k ∧ k ≤ 7) (h2 : 0 ≤ f ∧ f ≤ 9) : AM l 0 mX3_forgotten [aI k, aI f] σ (aF (some (aI (foF k f))) σ) := by
  refine am_of (by decide) (Nat.le_of_ble_eq_true rfl) (L := [some (aI k), some (aI f)]) rfl ?_
  refine aw_b kX3_ok bX3_forgotten_0_ok (Cs := []) (pc' := 1) (L' := [some (aI k), some (aI f)]) (st' := [aI k]) (σ' := σ) rfl trivial ?_
  rcases (show k = 1 ∨ k = 2 ∨ k = 3 ∨ k = 4 ∨ k = 5 ∨ k = 6 ∨ k = 7 ∨ (k < 1 ∨ 7 < k) by omega) with wh1 | wh1 | wh1 | wh1 | wh1 | wh1 | wh1 | wh1
  · refine aw_tsw dX3_forgotten_1 (tgt := 44) ⟨by omega, by omega⟩ (by decide) (by rw [wh1]; decide) ?_
    refine aw_b kX3_ok bX3_forgotten_44_ok (Cs := []) (pc' := 45) (L' := [some (aI k), some (aI f)]) (st' := [aI 1]) (σ' := σ) rfl trivial ?_
    exact aw_iret dX3_forgotten_45 rfl ⟨aret (by unfold foF; (repeat' split) <;> omega), rfl⟩
  · refine aw_tsw dX3_forgotten_1 (tgt := 46) ⟨by omega, by omega⟩ (by decide) (by rw [wh1]; decide) ?_
    refine aw_b kX3_ok bX3_forgotten_46_ok (Cs := []) (pc' := 47) (L' := [some (aI k), some (aI f)]) (st' := [aI 3]) (σ' := σ) rfl trivial ?_
    exact aw_iret dX3_forgotten_47 rfl ⟨aret (by unfold foF; (repeat' split) <;> omega), rfl⟩
  · refine aw_tsw dX3_forgotten_1 (tgt := 48) ⟨by omega, by omega⟩ (by decide) (by rw [wh1]; decide) ?_
    refine aw_b kX3_ok bX3_forgotten_48_ok (Cs := []) (pc' := 49) (L' := [some (aI k), some (aI f)]) (st' := [aI 0]) (σ' := σ) rfl trivial ?_
    exact aw_iret dX3_forgotten_49 rfl ⟨aret (by unfold foF; (repeat' split) <;> omega), rfl⟩
  · refine aw_tsw dX3_forgotten_1 (tgt := 46) ⟨by omega, by omega⟩ (by decide) (by rw [wh1]; decide) ?_
    refine aw_b kX3_ok bX3_forgotten_46_ok (Cs := []) (pc' := 47) (L' := [some (aI k), some (aI f)]) (st' := [aI 3]) (σ' := σ) rfl trivial ?_
    exact aw_iret dX3_forgotten_47 rfl ⟨aret (by unfold foF; (repeat' split) <;> omega), rfl⟩
  · refine aw_tsw dX3_forgotten_1 (tgt := 50) ⟨by omega, by omega⟩ (by decide) (by rw [wh1]; decide) ?_
    refine aw_b kX3_ok bX3_forgotten_50_ok (Cs := []) (pc' := 51) (L' := [some (aI k), some (aI f)]) (st' := [aI f]) (σ' := σ) rfl trivial ?_
    exact aw_iret dX3_forgotten_51 rfl ⟨aret (by unfold foF; (repeat' split) <;> omega), rfl⟩
  · refine aw_tsw dX3_forgotten_1 (tgt := 44) ⟨by omega, by omega⟩ (by decide) (by rw [wh1]; decide) ?_
    refine aw_b kX3_ok bX3_forgotten_44_ok (Cs := []) (pc' := 45) (L' := [some (aI k), some (aI f)]) (st' := [aI 1]) (σ' := σ) rfl trivial ?_
    exact aw_iret dX3_forgotten_45 rfl ⟨aret (by unfold foF; (repeat' split) <;> omega), rfl⟩
  · refine aw_tsw dX3_forgotten_1 (tgt := 52) ⟨by omega, by omega⟩ (by decide) (by rw [wh1]; decide) ?_
    refine aw_b kX3_ok bX3_forgotten_52_ok (Cs := []) (pc' := 54) (L' := [some (aI k), some (aI f)]) (st' := [aI 9]) (σ' := σ) rfl trivial ?_
    exact aw_iret dX3_forgotten_54 rfl ⟨aret (by unfold foF; (repeat' split) <;> omega), rfl⟩
  · refine aw_tsw dX3_forgotten_1 (tgt := 55) ⟨by omega, by omega⟩ (by decide) (by unfold aTgt; rw [if_pos (by omega)]; rfl) ?_
    refine aw_b kX3_ok bX3_forgotten_55_ok (Cs := []) (pc' := 56) (L' := [some (aI k), some (aI f)]) (st' := [aI 2]) (σ' := σ) rfl trivial ?_
    exact aw_iret dX3_forgotten_56 rfl ⟨aret (by unfold foF; (repeat' split) <;> omega), rfl⟩
