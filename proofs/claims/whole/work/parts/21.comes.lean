/-! ===== the class: rows on shelves, who comes ===== -/
def plR (σ : aS) (d s n : Int) (k : Nat) : aS := fun t c i => if t = 15 ∧ c = 0 ∧ d * 100 ≤ i ∧ i < d * 100 + (k : Int) then 0 else aUp (aUp (aUp σ 10 0 d 2) 13 0 d s) 14 0 d n t c i
theorem plR_0 (σ : aS) (d s n : Int) : plR σ d s n 0 = aUp (aUp (aUp σ 10 0 d 2) 13 0 d s) 14 0 d n := by
  funext t c i; unfold plR; rw [if_neg (by omega)]
theorem plR_s (σ : aS) (d s n : Int) (k : Nat) : aUp (plR σ d s n k) 15 0 (d * 100 + (k : Int)) 0 = plR σ d s n (k + 1) := by
  funext t c i
  by_cases h : t = 15 ∧ c = 0 ∧ i = d * 100 + (k : Int)
  · obtain ⟨rfl, rfl, rfl⟩ := h
    rw [aUp_same]
    unfold plR
    rw [if_pos (by omega)]
  · have e : aUp (plR σ d s n k) 15 0 (d * 100 + (k : Int)) 0 t c i = plR σ d s n k t c i := if_neg h
    rw [e]
    unfold plR
    by_cases h2 : t = 15 ∧ c = 0 ∧ d * 100 ≤ i ∧ i < d * 100 + (k : Int)
    · rw [if_pos h2, if_pos (by omega)]
    · rw [if_neg h2, if_neg (by omega)]
theorem plR_n (σ : aS) (d s n : Int) (k : Nat) {t c : Nat} {i : Int} (h : t ≠ 15) : plR σ d s n k t c i = aUp (aUp (aUp σ 10 0 d 2) 13 0 d s) 14 0 d n t c i := by
  unfold plR; rw [if_neg (fun q => h q.1)]
set_option maxRecDepth 10000 in
theorem cS_placeRow (l : Launch) (d s n : Int) (σ : aS) (h0 : 0 ≤ d) (h1 : d < 8) (n0 : 0 ≤ n) (n1 : n ≤ 100) : AM l 1 mX4_placeRow [aR 9 0, aI d, aI s, aI n] σ (aF none (plR σ d s n n.toNat)) := by
  refine am_of (by decide) (Nat.le_of_ble_eq_true rfl) (L := [some (aR 9 0), some (aI d), some (aI s), some (aI n), none]) rfl ?_
  refine aw_b kX4_ok bX4_placeRow_0_ok (Cs := []) (pc' := 1) (L' := [some (aR 9 0), some (aI d), some (aI s), some (aI n), none]) (st' := [aI d]) (σ' := σ) rfl trivial ?_
  refine aw_bN lX4_30 (as := [aI d]) (rest := []) (by decide) rfl (Nat.le_of_ble_eq_true rfl) rfl dX4_placeRow_1 (cC_isShelf l d σ ⟨by omega, by omega⟩) (fun wh1 => ?_) (fun wh1 => ?_)
  · refine aw_ieq dX4_placeRow_4 (tgt := 17) (by decide) ⟨by omega, by omega⟩ (fun wh2 => absurd wh2 (by decide)) (fun wh2 => ?_)
    refine aw_b kX4_ok bX4_placeRow_7_ok (Cs := []) (pc' := 8) (L' := [some (aR 9 0), some (aI d), some (aI s), some (aI n), none]) (st' := [aI n]) (σ' := σ) rfl trivial ?_
    refine aw_ilt dX4_placeRow_8 (tgt := 17) (by decide) ⟨by omega, by omega⟩ (fun wh3 => False.elim (by omega)) (fun wh3 => ?_)
    refine aw_b kX4_ok bX4_placeRow_11_ok (Cs := []) (pc' := 14) (L' := [some (aR 9 0), some (aI d), some (aI s), some (aI n), none]) (st' := [aI 100, aI n]) (σ' := σ) rfl trivial ?_
    refine aw_cle dX4_placeRow_14 (tgt := 18) (by decide) ⟨by omega, by omega⟩ ⟨by omega, by omega⟩ (fun wh4 => ?_) (fun wh4 => False.elim (by omega))
    refine aw_b kX4_ok bX4_placeRow_18_ok (Cs := [0 < 1, 0 < 1, 0 ≤ d ∧ d < 8, 0 < 1, 0 < 1, 0 ≤ d ∧ d < 8, 0 < 1, 0 < 1, 0 ≤ d ∧ d < 8]) (pc' := 42) (L' := [some (aR 9 0), some (aI d), some (aI s), some (aI n), some (aI 0)]) (st' := []) (σ' := aUp (aUp (aUp σ 10 0 d 2) 13 0 d s) 14 0 d n) rfl (show (0 < 1) ∧ (0 < 1) ∧ (0 ≤ d ∧ d < 8) ∧ (0 < 1) ∧ (0 < 1) ∧ (0 ≤ d ∧ d < 8) ∧ (0 < 1) ∧ (0 < 1) ∧ (0 ≤ d ∧ d < 8) from ⟨by omega, by omega, by omega, by omega, by omega, by omega, by omega, by omega, by omega⟩) ?_
    refine aw_eq rfl rfl (plR_0 σ d s n).symm ?_
    refine aloop (P := fun k : Nat => AW l 1 mX4_placeRow _ 42 [some (aR 9 0), some (aI d), some (aI s), some (aI n), some (aI (k : Int))] [] (plR σ d s n k)) n.toNat (fun k hk ihk => ?_)
    refine aw_b kX4_ok bX4_placeRow_42_ok (Cs := []) (pc' := 45) (L' := [some (aR 9 0), some (aI d), some (aI s), some (aI n), some (aI (k : Int))]) (st' := [aI n, aI (k : Int)]) (σ' := plR σ d s n k) rfl trivial ?_
    refine aw_cge dX4_placeRow_45 (tgt := 67) (by decide) ⟨by omega, by omega⟩ ⟨by omega, by omega⟩ (fun wh5 => ?_) (fun wh5 => ?_)
    · exact aw_vret dX4_placeRow_67 rfl ⟨rfl, by rw [show k = n.toNat by omega]⟩
    · refine aw_b kX4_ok bX4_placeRow_48_ok (Cs := [0 < 1, 0 < 1, 0 ≤ (d * 100) + (k : Int) ∧ (d * 100) + (k : Int) < 800]) (pc' := 42) (L' := [some (aR 9 0), some (aI d), some (aI s), some (aI n), some (aI ((k : Int) + 1))]) (st' := []) (σ' := aUp (plR σ d s n k) 15 0 ((d * 100) + (k : Int)) 0) rfl (show (0 < 1) ∧ (0 < 1) ∧ (0 ≤ (d * 100) + (k : Int) ∧ (d * 100) + (k : Int) < 800) from ⟨by omega, by omega, by omega⟩) ?_
      exact aw_eq rfl rfl (plR_s σ d s n k) (ihk (by omega))
  · exfalso; omega
def CSh : Nat → Nat → Prop := fun t c => 10 ≤ t ∧ t ≤ 15 ∧ c = 0
def PSh (a : Int) (τ : aS) : Option aV → aS → Prop := aF (some (aI a)) τ
def A_keep (d w k f : Int) : Int := if (0 ≤ d ∧ d < 8) ∧ (w = 0 ∨ (w = 1 ∧ (0 ≤ k ∧ k < 8) ∧ (0 ≤ f ∧ f < 10))) then 0 else -1
def S_keep (σ : aS) (d w k f : Int) : aS := if (0 ≤ d ∧ d < 8) ∧ (w = 0 ∨ (w = 1 ∧ (0 ≤ k ∧ k < 8) ∧ (0 ≤ f ∧ f < 10))) then (if w = 0 then aUp σ 10 0 d 0 else aUp (aUp (aUp σ 10 0 d 1) 11 0 d k) 12 0 d f) else σ
def A_row (d s n : Int) : Int := if (0 ≤ d ∧ d < 8) ∧ (0 ≤ s ∧ s ≤ 2) ∧ n ≤ 100 then (if n < 0 then -14 else 0) else -1
def S_row (σ : aS) (d s n : Int) : aS := if (0 ≤ d ∧ d < 8) ∧ (0 ≤ s ∧ s ≤ 2) ∧ n ≤ 100 ∧ 0 ≤ n then plR σ d s n n.toNat else σ
def A_put (σ : aS) (d i : Int) : Int := if lkF (σ 10 0 d) d 2 = 0 then (if 0 ≤ i ∧ i < σ 14 0 d then 0 else -13) else lkF (σ 10 0 d) d 2
def S_put (σ : aS) (d i v : Int) : aS := if lkF (σ 10 0 d) d 2 = 0 ∧ 0 ≤ i ∧ i < σ 14 0 d then aUp σ 15 0 (d * 100 + i) (cuF (σ 13 0 d) v) else σ
theorem lkF_d {k d w : Int} (h : lkF k d w = 0) : (0 ≤ d ∧ d < 8) ∧ k = w := by
  unfold lkF at h
  (repeat' split at h) <;> omega
set_option maxRecDepth 10000 in
theorem cC_keep (l : Launch) (d w k f : Int) (σ : aS) (hd : aIr d) (hv : aIr w) (hk : aIr k) (hf : aIr f) : AM l 2 mX6_keep [aR 0 0, aI d, aI w, aI k, aI f] σ (aF (some (aI (A_keep d w k f))) (S_keep σ d w k f)) := by
  refine am_of (by decide) (Nat.le_of_ble_eq_true rfl) (L := [some (aR 0 0), some (aI d), some (aI w), some (aI k), some (aI f)]) rfl ?_
  refine aw_b kX6_ok bX6_keep_0_ok (Cs := []) (pc' := 1) (L' := [some (aR 0 0), some (aI d), some (aI w), some (aI k), some (aI f)]) (st' := [aI d]) (σ' := σ) rfl trivial ?_
  refine aw_bS lX6_132 (as := [aI d]) (rest := []) (by decide) rfl (Nat.le_of_ble_eq_true rfl) rfl dX6_keep_1 (cC_isShelf l d σ ⟨by omega, by omega⟩) (fun wh1 => ?_) (fun wh1 => ?_)
  · refine aw_ieq dX6_keep_4 (tgt := 14) (by decide) ⟨by omega, by omega⟩ (fun wh2 => absurd wh2 (by decide)) (fun wh2 => ?_)
    refine aw_b kX6_ok bX6_keep_7_ok (Cs := []) (pc' := 8) (L' := [some (aR 0 0), some (aI d), some (aI w), some (aI k), some (aI f)]) (st' := [aI w]) (σ' := σ) rfl trivial ?_
    refine aw_bS lX6_171 (as := [aI w]) (rest := []) (by decide) rfl (Nat.le_of_ble_eq_true rfl) rfl dX6_keep_8 (cC_isChoice l w σ ⟨by omega, by omega⟩) (fun wh3 => ?_) (fun wh3 => ?_)
    · refine aw_ine dX6_keep_11 (tgt := 16) (by decide) ⟨by omega, by omega⟩ (fun wh4 => ?_) (fun wh4 => absurd wh4 (by decide))
      refine aw_b kX6_ok bX6_keep_16_ok (Cs := []) (pc' := 17) (L' := [some (aR 0 0), some (aI d), some (aI w), some (aI k), some (aI f)]) (st' := [aI w]) (σ' := σ) rfl trivial ?_
      refine aw_ine dX6_keep_17 (tgt := 30) (by decide) ⟨by omega, by omega⟩ (fun wh5 => ?_) (fun wh5 => ?_)
      · refine aw_b kX6_ok bX6_keep_30_ok (Cs := []) (pc' := 31) (L' := [some (aR 0 0), some (aI d), some (aI w), some (aI k), some (aI f)]) (st' := [aI k]) (σ' := σ) rfl trivial ?_
        refine aw_ilt dX6_keep_31 (tgt := 52) (by decide) ⟨by omega, by omega⟩ (fun wh6 => ?_) (fun wh6 => ?_)
        · refine aw_b kX6_ok bX6_keep_52_ok (Cs := []) (pc' := 53) (L' := [some (aR 0 0), some (aI d), some (aI w), some (aI k), some (aI f)]) (st' := [aI (-1)]) (σ' := σ) rfl trivial ?_
          exact aw_iret dX6_keep_53 rfl ⟨aret (by unfold A_keep; rw [if_neg (by omega)]), by unfold S_keep; rw [if_neg (by omega)]⟩
        · refine aw_b kX6_ok bX6_keep_34_ok (Cs := []) (pc' := 37) (L' := [some (aR 0 0), some (aI d), some (aI w), some (aI k), some (aI f)]) (st' := [aI 8, aI k]) (σ' := σ) rfl trivial ?_
          refine aw_cge dX6_keep_37 (tgt := 52) (by decide) ⟨by omega, by omega⟩ ⟨by omega, by omega⟩ (fun wh7 => ?_) (fun wh7 => ?_)
          · refine aw_b kX6_ok bX6_keep_52_ok (Cs := []) (pc' := 53) (L' := [some (aR 0 0), some (aI d), some (aI w), some (aI k), some (aI f)]) (st' := [aI (-1)]) (σ' := σ) rfl trivial ?_
            exact aw_iret dX6_keep_53 rfl ⟨aret (by unfold A_keep; rw [if_neg (by omega)]), by unfold S_keep; rw [if_neg (by omega)]⟩
          · refine aw_b kX6_ok bX6_keep_40_ok (Cs := []) (pc' := 42) (L' := [some (aR 0 0), some (aI d), some (aI w), some (aI k), some (aI f)]) (st' := [aI f]) (σ' := σ) rfl trivial ?_
            refine aw_ilt dX6_keep_42 (tgt := 52) (by decide) ⟨by omega, by omega⟩ (fun wh8 => ?_) (fun wh8 => ?_)
            · refine aw_b kX6_ok bX6_keep_52_ok (Cs := []) (pc' := 53) (L' := [some (aR 0 0), some (aI d), some (aI w), some (aI k), some (aI f)]) (st' := [aI (-1)]) (σ' := σ) rfl trivial ?_
              exact aw_iret dX6_keep_53 rfl ⟨aret (by unfold A_keep; rw [if_neg (by omega)]), by unfold S_keep; rw [if_neg (by omega)]⟩
            · refine aw_b kX6_ok bX6_keep_45_ok (Cs := []) (pc' := 49) (L' := [some (aR 0 0), some (aI d), some (aI w), some (aI k), some (aI f)]) (st' := [aI 10, aI f]) (σ' := σ) rfl trivial ?_
              refine aw_clt dX6_keep_49 (tgt := 54) (by decide) ⟨by omega, by omega⟩ ⟨by omega, by omega⟩ (fun wh9 => ?_) (fun wh9 => ?_)
              · refine aw_b kX6_ok bX6_keep_54_ok (Cs := [0 < 1]) (pc' := 62) (L' := [some (aR 0 0), some (aI d), some (aI w), some (aI k), some (aI f)]) (st' := [aI f, aI k, aI d, aR 9 0]) (σ' := σ) rfl (show 0 < 1 from by omega) ?_
                refine aw_fV lX6_263 (as := [aI d, aI k, aI f]) (rest := []) (t := 9) (c := 0) (by decide) (by decide) (by decide) rfl rfl (Nat.le_of_ble_eq_true rfl) rfl dX6_keep_62 (cS_placeOne l d k f σ (by omega) (by omega)) ?_
                refine aw_b kX6_ok bX6_keep_65_ok (Cs := []) (pc' := 66) (L' := [some (aR 0 0), some (aI d), some (aI w), some (aI k), some (aI f)]) (st' := [aI 0]) (σ' := aUp (aUp (aUp σ 10 0 d 1) 11 0 d k) 12 0 d f) rfl trivial ?_
                exact aw_iret dX6_keep_66 rfl ⟨aret (by unfold A_keep; rw [if_pos (by omega)]), by unfold S_keep; rw [if_pos (by omega), if_neg (by omega)]⟩
              · refine aw_b kX6_ok bX6_keep_52_ok (Cs := []) (pc' := 53) (L' := [some (aR 0 0), some (aI d), some (aI w), some (aI k), some (aI f)]) (st' := [aI (-1)]) (σ' := σ) rfl trivial ?_
                exact aw_iret dX6_keep_53 rfl ⟨aret (by unfold A_keep; rw [if_neg (by omega)]), by unfold S_keep; rw [if_neg (by omega)]⟩
      · refine aw_b kX6_ok bX6_keep_20_ok (Cs := [0 < 1]) (pc' := 25) (L' := [some (aR 0 0), some (aI d), some (aI w), some (aI k), some (aI f)]) (st' := [aI d, aR 9 0]) (σ' := σ) rfl (show 0 < 1 from by omega) ?_
        refine aw_fV lX6_260 (as := [aI d]) (rest := []) (t := 9) (c := 0) (by decide) (by decide) (by decide) rfl rfl (Nat.le_of_ble_eq_true rfl) rfl dX6_keep_25 (cS_clear l d σ (by omega) (by omega)) ?_
        refine aw_b kX6_ok bX6_keep_28_ok (Cs := []) (pc' := 29) (L' := [some (aR 0 0), some (aI d), some (aI w), some (aI k), some (aI f)]) (st' := [aI 0]) (σ' := aUp σ 10 0 d 0) rfl trivial ?_
        exact aw_iret dX6_keep_29 rfl ⟨aret (by unfold A_keep; rw [if_pos (by omega)]), by unfold S_keep; rw [if_pos (by omega), if_pos (by omega)]⟩
    · refine aw_ine dX6_keep_11 (tgt := 16) (by decide) ⟨by omega, by omega⟩ (fun wh10 => absurd wh10 (by decide)) (fun wh10 => ?_)
      refine aw_b kX6_ok bX6_keep_14_ok (Cs := []) (pc' := 15) (L' := [some (aR 0 0), some (aI d), some (aI w), some (aI k), some (aI f)]) (st' := [aI (-1)]) (σ' := σ) rfl trivial ?_
      exact aw_iret dX6_keep_15 rfl ⟨aret (by unfold A_keep; rw [if_neg (by omega)]), by unfold S_keep; rw [if_neg (by omega)]⟩
  · refine aw_ieq dX6_keep_4 (tgt := 14) (by decide) ⟨by omega, by omega⟩ (fun wh11 => ?_) (fun wh11 => absurd wh11 (by decide))
    refine aw_b kX6_ok bX6_keep_14_ok (Cs := []) (pc' := 15) (L' := [some (aR 0 0), some (aI d), some (aI w), some (aI k), some (aI f)]) (st' := [aI (-1)]) (σ' := σ) rfl trivial ?_
    exact aw_iret dX6_keep_15 rfl ⟨aret (by unfold A_keep; rw [if_neg (by omega)]), by unfold S_keep; rw [if_neg (by omega)]⟩
set_option maxRecDepth 10000 in
theorem cC_row (l : Launch) (d s n : Int) (σ : aS) (hd : aIr d) (hv : aIr s) (hn : aIr n) : AM l 2 mX6_row [aR 0 0, aI d, aI s, aI n] σ (aF (some (aI (A_row d s n))) (S_row σ d s n)) := by
  refine am_of (by decide) (Nat.le_of_ble_eq_true rfl) (L := [some (aR 0 0), some (aI d), some (aI s), some (aI n)]) rfl ?_
  refine aw_b kX6_ok bX6_row_0_ok (Cs := []) (pc' := 1) (L' := [some (aR 0 0), some (aI d), some (aI s), some (aI n)]) (st' := [aI d]) (σ' := σ) rfl trivial ?_
  refine aw_bS lX6_132 (as := [aI d]) (rest := []) (by decide) rfl (Nat.le_of_ble_eq_true rfl) rfl dX6_row_1 (cC_isShelf l d σ ⟨by omega, by omega⟩) (fun wh1 => ?_) (fun wh1 => ?_)
  · refine aw_ieq dX6_row_4 (tgt := 22) (by decide) ⟨by omega, by omega⟩ (fun wh2 => absurd wh2 (by decide)) (fun wh2 => ?_)
    refine aw_b kX6_ok bX6_row_7_ok (Cs := []) (pc' := 8) (L' := [some (aR 0 0), some (aI d), some (aI s), some (aI n)]) (st' := [aI s]) (σ' := σ) rfl trivial ?_
    refine aw_ilt dX6_row_8 (tgt := 22) (by decide) ⟨by omega, by omega⟩ (fun wh3 => ?_) (fun wh3 => ?_)
    · refine aw_b kX6_ok bX6_row_22_ok (Cs := []) (pc' := 23) (L' := [some (aR 0 0), some (aI d), some (aI s), some (aI n)]) (st' := [aI (-1)]) (σ' := σ) rfl trivial ?_
      exact aw_iret dX6_row_23 rfl ⟨aret (by unfold A_row; rw [if_neg (by omega)]), by unfold S_row; rw [if_neg (by omega)]⟩
    · refine aw_b kX6_ok bX6_row_11_ok (Cs := []) (pc' := 13) (L' := [some (aR 0 0), some (aI d), some (aI s), some (aI n)]) (st' := [aI 2, aI s]) (σ' := σ) rfl trivial ?_
      refine aw_cgt dX6_row_13 (tgt := 22) (by decide) ⟨by omega, by omega⟩ ⟨by omega, by omega⟩ (fun wh4 => ?_) (fun wh4 => ?_)
      · refine aw_b kX6_ok bX6_row_22_ok (Cs := []) (pc' := 23) (L' := [some (aR 0 0), some (aI d), some (aI s), some (aI n)]) (st' := [aI (-1)]) (σ' := σ) rfl trivial ?_
        exact aw_iret dX6_row_23 rfl ⟨aret (by unfold A_row; rw [if_neg (by omega)]), by unfold S_row; rw [if_neg (by omega)]⟩
      · refine aw_b kX6_ok bX6_row_16_ok (Cs := []) (pc' := 19) (L' := [some (aR 0 0), some (aI d), some (aI s), some (aI n)]) (st' := [aI 100, aI n]) (σ' := σ) rfl trivial ?_
        refine aw_cle dX6_row_19 (tgt := 24) (by decide) ⟨by omega, by omega⟩ ⟨by omega, by omega⟩ (fun wh5 => ?_) (fun wh5 => ?_)
        · refine aw_b kX6_ok bX6_row_24_ok (Cs := []) (pc' := 25) (L' := [some (aR 0 0), some (aI d), some (aI s), some (aI n)]) (st' := [aI n]) (σ' := σ) rfl trivial ?_
          refine aw_ige dX6_row_25 (tgt := 31) (by decide) ⟨by omega, by omega⟩ (fun wh6 => ?_) (fun wh6 => ?_)
          · refine aw_b kX6_ok bX6_row_31_ok (Cs := [0 < 1]) (pc' := 38) (L' := [some (aR 0 0), some (aI d), some (aI s), some (aI n)]) (st' := [aI n, aI s, aI d, aR 9 0]) (σ' := σ) rfl (show 0 < 1 from by omega) ?_
            refine aw_fV lX6_267 (as := [aI d, aI s, aI n]) (rest := []) (t := 9) (c := 0) (by decide) (by decide) (by decide) rfl rfl (Nat.le_of_ble_eq_true rfl) rfl dX6_row_38 (cS_placeRow l d s n σ (by omega) (by omega) (by omega) (by omega)) ?_
            refine aw_b kX6_ok bX6_row_41_ok (Cs := []) (pc' := 42) (L' := [some (aR 0 0), some (aI d), some (aI s), some (aI n)]) (st' := [aI 0]) (σ' := plR σ d s n n.toNat) rfl trivial ?_
            exact aw_iret dX6_row_42 rfl ⟨aret (by unfold A_row; rw [if_pos (by omega), if_neg (by omega)]), by unfold S_row; rw [if_pos (by omega)]⟩
          · refine aw_b kX6_ok bX6_row_28_ok (Cs := []) (pc' := 30) (L' := [some (aR 0 0), some (aI d), some (aI s), some (aI n)]) (st' := [aI (-14)]) (σ' := σ) rfl trivial ?_
            exact aw_iret dX6_row_30 rfl ⟨aret (by unfold A_row; rw [if_pos (by omega), if_pos (by omega)]), by unfold S_row; rw [if_neg (by omega)]⟩
        · refine aw_b kX6_ok bX6_row_22_ok (Cs := []) (pc' := 23) (L' := [some (aR 0 0), some (aI d), some (aI s), some (aI n)]) (st' := [aI (-1)]) (σ' := σ) rfl trivial ?_
          exact aw_iret dX6_row_23 rfl ⟨aret (by unfold A_row; rw [if_neg (by omega)]), by unfold S_row; rw [if_neg (by omega)]⟩
  · refine aw_ieq dX6_row_4 (tgt := 22) (by decide) ⟨by omega, by omega⟩ (fun wh7 => ?_) (fun wh7 => absurd wh7 (by decide))
    refine aw_b kX6_ok bX6_row_22_ok (Cs := []) (pc' := 23) (L' := [some (aR 0 0), some (aI d), some (aI s), some (aI n)]) (st' := [aI (-1)]) (σ' := σ) rfl trivial ?_
    exact aw_iret dX6_row_23 rfl ⟨aret (by unfold A_row; rw [if_neg (by omega)]), by unfold S_row; rw [if_neg (by omega)]⟩
set_option maxRecDepth 10000 in
theorem cC_put (l : Launch) (d i v : Int) (σ : aS) (hs : SH σ) (hd : aIr d) (hi : aIr i) (hv : aIr v) : AM l 4 mX6_put [aR 0 0, aI d, aI i, aI v] σ (aF (some (aI (A_put σ d i))) (S_put σ d i v)) := by
  refine am_of (by decide) (Nat.le_of_ble_eq_true rfl) (L := [some (aR 0 0), some (aI d), some (aI i), some (aI v), none]) rfl ?_
  refine aw_b kX6_ok bX6_put_0_ok (Cs := [0 < 1]) (pc' := 5) (L' := [some (aR 0 0), some (aI d), some (aI i), some (aI v), none]) (st' := [aI d, aR 9 0]) (σ' := σ) rfl (show 0 < 1 from by omega) ?_
  refine aw_fV lX6_54 (as := [aI d]) (rest := []) (t := 9) (c := 0) (by decide) (by decide) (by decide) rfl rfl (Nat.le_of_ble_eq_true rfl) rfl dX6_put_5 (cS_lackOfRow l d σ hs ⟨by omega, by omega⟩) ?_
  have blk := lkF_rng (σ 10 0 d) d 2
  refine aw_b kX6_ok bX6_put_8_ok (Cs := []) (pc' := 12) (L' := [some (aR 0 0), some (aI d), some (aI i), some (aI v), some (aI (lkF (σ 10 0 d) d 2))]) (st' := [aI (lkF (σ 10 0 d) d 2)]) (σ' := σ) rfl trivial ?_
  refine aw_ieq dX6_put_12 (tgt := 18) (by decide) ⟨by omega, by omega⟩ (fun wh1 => ?_) (fun wh1 => ?_)
  · have hl := lkF_d (show lkF (σ 10 0 d) d 2 = 0 by omega)
    have bs := hs.1 d hl.1.1 hl.1.2
    refine aw_b kX6_ok bX6_put_18_ok (Cs := [0 < 1]) (pc' := 24) (L' := [some (aR 0 0), some (aI d), some (aI i), some (aI v), some (aI (lkF (σ 10 0 d) d 2))]) (st' := [aI i, aI d, aR 9 0]) (σ' := σ) rfl (show 0 < 1 from by omega) ?_
    refine aw_bV lX6_270 (as := [aI d, aI i]) (rest := []) (t := 9) (c := 0) (by decide) (by decide) (by decide) rfl rfl (Nat.le_of_ble_eq_true rfl) rfl dX6_put_24 (cS_hasPlace l d i σ hs (by omega) (by omega) ⟨by omega, by omega⟩) (fun wh2 => ?_) (fun wh2 => ?_)
    · refine aw_ine dX6_put_27 (tgt := 33) (by decide) ⟨by omega, by omega⟩ (fun wh3 => ?_) (fun wh3 => absurd wh3 (by decide))
      refine aw_b kX6_ok bX6_put_33_ok (Cs := [0 < 1]) (pc' := 40) (L' := [some (aR 0 0), some (aI d), some (aI i), some (aI v), some (aI (lkF (σ 10 0 d) d 2))]) (st' := [aI v, aI i, aI d, aR 9 0]) (σ' := σ) rfl (show 0 < 1 from by omega) ?_
      refine aw_fV lX6_274 (as := [aI d, aI i, aI v]) (rest := []) (t := 9) (c := 0) (by decide) (by decide) (by decide) rfl rfl (Nat.le_of_ble_eq_true rfl) rfl dX6_put_40 (cS_write l d i v σ hs (by omega) (by omega) (by omega) ⟨by omega, by omega⟩) ?_
      refine aw_b kX6_ok bX6_put_43_ok (Cs := []) (pc' := 44) (L' := [some (aR 0 0), some (aI d), some (aI i), some (aI v), some (aI (lkF (σ 10 0 d) d 2))]) (st' := [aI 0]) (σ' := aUp σ 15 0 (d * 100 + i) (cuF (σ 13 0 d) v)) rfl trivial ?_
      exact aw_iret dX6_put_44 rfl ⟨aret (by unfold A_put; rw [if_pos (by omega), if_pos (by omega)]), by unfold S_put; rw [if_pos (by omega)]⟩
    · refine aw_ine dX6_put_27 (tgt := 33) (by decide) ⟨by omega, by omega⟩ (fun wh4 => absurd wh4 (by decide)) (fun wh4 => ?_)
      refine aw_b kX6_ok bX6_put_30_ok (Cs := []) (pc' := 32) (L' := [some (aR 0 0), some (aI d), some (aI i), some (aI v), some (aI (lkF (σ 10 0 d) d 2))]) (st' := [aI (-13)]) (σ' := σ) rfl trivial ?_
      exact aw_iret dX6_put_32 rfl ⟨aret (by unfold A_put; rw [if_pos (by omega), if_neg (by omega)]), by unfold S_put; rw [if_neg (by omega)]⟩
  · refine aw_b kX6_ok bX6_put_15_ok (Cs := []) (pc' := 17) (L' := [some (aR 0 0), some (aI d), some (aI i), some (aI v), some (aI (lkF (σ 10 0 d) d 2))]) (st' := [aI (lkF (σ 10 0 d) d 2)]) (σ' := σ) rfl trivial ?_
    exact aw_iret dX6_put_17 rfl ⟨aret (by unfold A_put; rw [if_neg (by omega)]), by unfold S_put; rw [if_neg (by omega)]⟩
def prF (k f : Int) : Int := if k = 1 ∨ k = 6 ∨ k = 7 then 1 else if k = 2 then 6 else if k = 3 then 1 + f else if k = 4 then 0 else if k = 5 then 8 else 4
def A_cost (ct kd fg d : Int) : Int := if lkF ct d 1 = 0 then prF kd fg else lkF ct d 1
set_option maxRecDepth 10000 in
theorem cC_price (l : Launch) (k f : Int) (σ : aS) (h1 : 0 ≤ k ∧ k ≤ 7) (h2 : 0 ≤ f ∧ f ≤ 9) : AM l 0 mX3_price [aI k, aI f] σ (aF (some (aI (prF k f))) σ) := by
  refine am_of (by decide) (Nat.le_of_ble_eq_true rfl) (L := [some (aI k), some (aI f)]) rfl ?_
  refine aw_b kX3_ok bX3_price_0_ok (Cs := []) (pc' := 1) (L' := [some (aI k), some (aI f)]) (st' := [aI k]) (σ' := σ) rfl trivial ?_
  rcases (show k = 1 ∨ k = 2 ∨ k = 3 ∨ k = 4 ∨ k = 5 ∨ k = 6 ∨ k = 7 ∨ (k < 1 ∨ 7 < k) by omega) with wh1 | wh1 | wh1 | wh1 | wh1 | wh1 | wh1 | wh1
  · refine aw_tsw dX3_price_1 (tgt := 44) ⟨by omega, by omega⟩ (by decide) (by rw [wh1]; decide) ?_
    refine aw_b kX3_ok bX3_price_44_ok (Cs := []) (pc' := 45) (L' := [some (aI k), some (aI f)]) (st' := [aI 1]) (σ' := σ) rfl trivial ?_
    exact aw_iret dX3_price_45 rfl ⟨aret (by unfold prF; (repeat' split) <;> omega), rfl⟩
  · refine aw_tsw dX3_price_1 (tgt := 46) ⟨by omega, by omega⟩ (by decide) (by rw [wh1]; decide) ?_
    refine aw_b kX3_ok bX3_price_46_ok (Cs := []) (pc' := 48) (L' := [some (aI k), some (aI f)]) (st' := [aI 6]) (σ' := σ) rfl trivial ?_
    exact aw_iret dX3_price_48 rfl ⟨aret (by unfold prF; (repeat' split) <;> omega), rfl⟩
  · refine aw_tsw dX3_price_1 (tgt := 49) ⟨by omega, by omega⟩ (by decide) (by rw [wh1]; decide) ?_
    refine aw_b kX3_ok bX3_price_49_ok (Cs := []) (pc' := 52) (L' := [some (aI k), some (aI f)]) (st' := [aI (1 + f)]) (σ' := σ) rfl trivial ?_
    exact aw_iret dX3_price_52 rfl ⟨aret (by unfold prF; (repeat' split) <;> omega), rfl⟩
  · refine aw_tsw dX3_price_1 (tgt := 53) ⟨by omega, by omega⟩ (by decide) (by rw [wh1]; decide) ?_
    refine aw_b kX3_ok bX3_price_53_ok (Cs := []) (pc' := 54) (L' := [some (aI k), some (aI f)]) (st' := [aI 0]) (σ' := σ) rfl trivial ?_
    exact aw_iret dX3_price_54 rfl ⟨aret (by unfold prF; (repeat' split) <;> omega), rfl⟩
  · refine aw_tsw dX3_price_1 (tgt := 55) ⟨by omega, by omega⟩ (by decide) (by rw [wh1]; decide) ?_
    refine aw_b kX3_ok bX3_price_55_ok (Cs := []) (pc' := 57) (L' := [some (aI k), some (aI f)]) (st' := [aI 8]) (σ' := σ) rfl trivial ?_
    exact aw_iret dX3_price_57 rfl ⟨aret (by unfold prF; (repeat' split) <;> omega), rfl⟩
  · refine aw_tsw dX3_price_1 (tgt := 44) ⟨by omega, by omega⟩ (by decide) (by rw [wh1]; decide) ?_
    refine aw_b kX3_ok bX3_price_44_ok (Cs := []) (pc' := 45) (L' := [some (aI k), some (aI f)]) (st' := [aI 1]) (σ' := σ) rfl trivial ?_
    exact aw_iret dX3_price_45 rfl ⟨aret (by unfold prF; (repeat' split) <;> omega), rfl⟩
  · refine aw_tsw dX3_price_1 (tgt := 58) ⟨by omega, by omega⟩ (by decide) (by rw [wh1]; decide) ?_
    refine aw_b kX3_ok bX3_price_58_ok (Cs := []) (pc' := 59) (L' := [some (aI k), some (aI f)]) (st' := [aI 1]) (σ' := σ) rfl trivial ?_
    exact aw_iret dX3_price_59 rfl ⟨aret (by unfold prF; (repeat' split) <;> omega), rfl⟩
  · refine aw_tsw dX3_price_1 (tgt := 60) ⟨by omega, by omega⟩ (by decide) (by unfold aTgt; rw [if_pos (by omega)]; rfl) ?_
    refine aw_b kX3_ok bX3_price_60_ok (Cs := []) (pc' := 61) (L' := [some (aI k), some (aI f)]) (st' := [aI 4]) (σ' := σ) rfl trivial ?_
    exact aw_iret dX3_price_61 rfl ⟨aret (by unfold prF; (repeat' split) <;> omega), rfl⟩
set_option maxRecDepth 10000 in
theorem cC_cost (l : Launch) (d : Int) (σ : aS) (hs : SH σ) (hd : aIr d) : AM l 3 mX6_cost [aR 0 0, aI d] σ (aF (some (aI (A_cost (σ 10 0 d) (σ 11 0 d) (σ 12 0 d) d))) σ) := by
  refine am_of (by decide) (Nat.le_of_ble_eq_true rfl) (L := [some (aR 0 0), some (aI d), none]) rfl ?_
  refine aw_b kX6_ok bX6_cost_0_ok (Cs := [0 < 1]) (pc' := 5) (L' := [some (aR 0 0), some (aI d), none]) (st' := [aI d, aR 9 0]) (σ' := σ) rfl (show 0 < 1 from by omega) ?_
  refine aw_fV lX6_138 (as := [aI d]) (rest := []) (t := 9) (c := 0) (by decide) (by decide) (by decide) rfl rfl (Nat.le_of_ble_eq_true rfl) rfl dX6_cost_5 (cS_lackOfOne l d σ hs ⟨by omega, by omega⟩) ?_
  have blk := lkF_rng (σ 10 0 d) d 1
  refine aw_b kX6_ok bX6_cost_8_ok (Cs := []) (pc' := 10) (L' := [some (aR 0 0), some (aI d), some (aI (lkF (σ 10 0 d) d 1))]) (st' := [aI (lkF (σ 10 0 d) d 1)]) (σ' := σ) rfl trivial ?_
  refine aw_ieq dX6_cost_10 (tgt := 15) (by decide) ⟨by omega, by omega⟩ (fun wh1 => ?_) (fun wh1 => ?_)
  · have hl := lkF_d (show lkF (σ 10 0 d) d 1 = 0 by omega)
    have bs := hs.1 d hl.1.1 hl.1.2
    refine aw_b kX6_ok bX6_cost_15_ok (Cs := [0 < 1]) (pc' := 20) (L' := [some (aR 0 0), some (aI d), some (aI (lkF (σ 10 0 d) d 1))]) (st' := [aI d, aR 9 0]) (σ' := σ) rfl (show 0 < 1 from by omega) ?_
    refine aw_fV lX6_141 (as := [aI d]) (rest := []) (t := 9) (c := 0) (by decide) (by decide) (by decide) rfl rfl (Nat.le_of_ble_eq_true rfl) rfl dX6_cost_20 (cS_kindOn l d σ hs (by omega) (by omega)) ?_
    refine aw_b kX6_ok bX6_cost_23_ok (Cs := [0 < 1]) (pc' := 28) (L' := [some (aR 0 0), some (aI d), some (aI (lkF (σ 10 0 d) d 1))]) (st' := [aI d, aR 9 0, aI (σ 11 0 d)]) (σ' := σ) rfl (show 0 < 1 from by omega) ?_
    refine aw_fV lX6_144 (as := [aI d]) (rest := [aI (σ 11 0 d)]) (t := 9) (c := 0) (by decide) (by decide) (by decide) rfl rfl (Nat.le_of_ble_eq_true rfl) rfl dX6_cost_28 (cS_figureOn l d σ hs (by omega) (by omega)) ?_
    refine aw_fS lX6_301 (as := [aI (σ 11 0 d), aI (σ 12 0 d)]) (rest := []) (by decide) rfl (Nat.le_of_ble_eq_true rfl) rfl dX6_cost_31 (cC_price l (σ 11 0 d) (σ 12 0 d) σ ⟨by omega, by omega⟩ ⟨by omega, by omega⟩) ?_
    exact aw_iret dX6_cost_34 rfl ⟨aret (by unfold A_cost; rw [if_pos (by omega)]), rfl⟩
  · refine aw_b kX6_ok bX6_cost_13_ok (Cs := []) (pc' := 14) (L' := [some (aR 0 0), some (aI d), some (aI (lkF (σ 10 0 d) d 1))]) (st' := [aI (lkF (σ 10 0 d) d 1)]) (σ' := σ) rfl trivial ?_
    exact aw_iret dX6_cost_14 rfl ⟨aret (by unfold A_cost; rw [if_neg (by omega)]), rfl⟩
def adR (r : aRw) (k f m : Int) : aRw := rUp (rUp (rUp (rUp (rUp r (aOf (r 0) 0) k) (aOf (r 0) 1) f) (aOf (r 0) 2) 0) (aOf (r 0) 3) m) 0 (r 0 + 1)
theorem adR_old {r : aRw} (hw : WF r) (h8 : r 0 < 8) {k f m j : Int} (h0 : j ≠ 0) (h : j < aOf (r 0) 0 ∨ aOf (r 0) 3 < j) : adR r k f m j = r j := by
  have bn := hw.1
  unfold adR
  rw [rUp_ne h0, rUp_ne (by unfold aOf at *; omega), rUp_ne (by unfold aOf at *; omega), rUp_ne (by unfold aOf at *; omega), rUp_ne (by unfold aOf at *; omega)]
theorem adR_new {r : aRw} (hw : WF r) (k f m : Int) : adR r k f m 0 = r 0 + 1 ∧ adR r k f m (aOf (r 0) 0) = k ∧ adR r k f m (aOf (r 0) 1) = f ∧ adR r k f m (aOf (r 0) 2) = 0 ∧ adR r k f m (aOf (r 0) 3) = m := by
  have bn := hw.1
  unfold adR
  refine ⟨rUp_eq, ?_, ?_, ?_, ?_⟩
  · rw [rUp_ne (by unfold aOf; omega), rUp_ne (by unfold aOf; omega), rUp_ne (by unfold aOf; omega), rUp_ne (by unfold aOf; omega), rUp_eq]
  · rw [rUp_ne (by unfold aOf; omega), rUp_ne (by unfold aOf; omega), rUp_ne (by unfold aOf; omega), rUp_eq]
  · rw [rUp_ne (by unfold aOf; omega), rUp_ne (by unfold aOf; omega), rUp_eq]
  · rw [rUp_ne (by unfold aOf; omega), rUp_eq]
theorem adR_wf {r : aRw} (hw : WF r) (h8 : r 0 < 8) {k f m : Int} (hk : 0 ≤ k ∧ k ≤ 7) (hf : 0 ≤ f ∧ f ≤ 9) (hm : 0 ≤ m ∧ m ≤ 9 ∧ m ≠ 8) : WF (adR r k f m) := by
  have n := adR_new hw k f m
  obtain ⟨a0, a1, a2, a3, a4, a5, a6, a7⟩ := id hw
  have o : ∀ j : Int, j ≠ 0 → (j < aOf (r 0) 0 ∨ aOf (r 0) 3 < j) → adR r k f m j = r j := fun j h0 h => adR_old hw h8 h0 h
  have b0 : aOf (r 0) 0 = 13 + 4 * r 0 := by unfold aOf; omega
  have b3 : aOf (r 0) 3 = 16 + 4 * r 0 := by unfold aOf; omega
  refine ⟨by omega, by rw [o 1 (by decide) (by omega)]; exact a1, by rw [o 2 (by decide) (by omega)]; exact a2, fun g g0 g1 => by rw [o _ (by omega) (by omega)]; exact a3 g g0 g1, fun g g0 g1 => by rw [o (8 + g) (by omega) (by omega), n.1]; have := a4 g g0 g1; omega, fun g g2 g0 g1 g3 g4 => by rw [o (8 + g) (by omega) (by omega), o (8 + g2) (by omega) (by omega)]; exact a5 g g2 g0 g1 g3 g4, fun p p0 p1 => ?_, fun i hi => by rw [o i (by omega) (by omega)]; exact a7 i hi⟩
  by_cases hp : p = r 0
  · subst hp
    rw [n.2.1, n.2.2.1, n.2.2.2.1, n.2.2.2.2]
    exact ⟨hk, hf, by decide, hm⟩
  · rw [n.1] at p1
    have q0 : aOf p 0 = 13 + 4 * p := by unfold aOf; omega
    have q1 : aOf p 1 = 14 + 4 * p := by unfold aOf; omega
    have q2 : aOf p 2 = 15 + 4 * p := by unfold aOf; omega
    have q3 : aOf p 3 = 16 + 4 * p := by unfold aOf; omega
    rw [o (aOf p 0) (by omega) (by omega), o (aOf p 1) (by omega) (by omega), o (aOf p 2) (by omega) (by omega), o (aOf p 3) (by omega) (by omega)]
    exact a6 p p0 (by omega)
theorem adR_off {r : aRw} (hw : WF r) (h8 : r 0 < 8) (k f m p : Int) : off (adR r k f m) p = off r p := off_cong (fun g g0 g1 => adR_old hw h8 (by omega) (Or.inl (by have := hw.1; unfold aOf; omega))) p
theorem adR_home {r : aRw} (hw : WF r) : off r (r 0) = -4 := off_none (fun g g0 g1 => by have := hw.ho g0 g1; have := hw.1; omega)
def waS (σ : aS) (c : Nat) (p k f m : Int) : aS := aUp (aUp (aUp (aUp (aUp (aUp σ 2 c p k) 3 c p f) 4 c p 0) 5 c p m) 6 c p (-1)) 1 c 0 (p + 1)
theorem Rep_add {σ : aS} {c : Nat} {r : aRw} (h : Rep σ c r) (hw : WF r) (h8 : r 0 < 8) (k f m : Int) : Rep (waS σ c (r 0) k f m) c (adR r k f m) := by
  obtain ⟨⟨a, b, d⟩, e, g⟩ := h
  have bn := hw.1
  have n := adR_new hw k f m
  have b0 : aOf (r 0) 0 = 13 + 4 * r 0 := by unfold aOf; omega
  have b3 : aOf (r 0) 3 = 16 + 4 * r 0 := by unfold aOf; omega
  have o : ∀ j : Int, j ≠ 0 → (j < aOf (r 0) 0 ∨ aOf (r 0) 3 < j) → adR r k f m j = r j := fun j h0 h => adR_old hw h8 h0 h
  unfold waS
  refine ⟨⟨?_, ?_, ?_⟩, fun p p0 p1 => ?_, fun q q0 q1 => ?_⟩
  · rw [aUp_same, n.1]
  · rw [aUp_idx (by decide), aUp_tag (by decide), aUp_tag (by decide), aUp_tag (by decide), aUp_tag (by decide), aUp_tag (by decide), o 1 (by decide) (by omega)]; exact b
  · rw [aUp_idx (by decide), aUp_tag (by decide), aUp_tag (by decide), aUp_tag (by decide), aUp_tag (by decide), aUp_tag (by decide), o 2 (by decide) (by omega)]; exact d
  · rw [adR_off hw h8]
    by_cases hp : p = r 0
    · subst hp
      rw [n.2.1, n.2.2.1, n.2.2.2.1, n.2.2.2.2, adR_home hw]
      simp [aUp]
      decide
    · rw [n.1] at p1
      have q0 : aOf p 0 = 13 + 4 * p := by unfold aOf; omega
      have q1 : aOf p 1 = 14 + 4 * p := by unfold aOf; omega
      have q2 : aOf p 2 = 15 + 4 * p := by unfold aOf; omega
      have q3 : aOf p 3 = 16 + 4 * p := by unfold aOf; omega
      rw [o (aOf p 0) (by omega) (by omega), o (aOf p 1) (by omega) (by omega), o (aOf p 2) (by omega) (by omega), o (aOf p 3) (by omega) (by omega)]
      have z := e p p0 (by omega)
      simp only [aUp_at]
      simp [hp]
      exact z
  · rw [o (3 + q) (by omega) (by omega), o (8 + q) (by omega) (by omega)]
    rw [aUp_tag (by decide), aUp_tag (by decide), aUp_tag (by decide), aUp_tag (by decide), aUp_tag (by decide), aUp_tag (by decide), aUp_tag (by decide), aUp_tag (by decide), aUp_tag (by decide), aUp_tag (by decide), aUp_tag (by decide), aUp_tag (by decide)]
    exact g q q0 q1
def PW (c : Nat) (r : aRw) (k f m : Int) (σ : aS) : Option aV → aS → Prop := fun v σ' => v = some (aI (if r 0 < 8 then r 0 else -2)) ∧ Rep σ' c (if r 0 < 8 then adR r k f m else r) ∧ aFr (Cb c) σ σ'
set_option maxRecDepth 10000 in
theorem cC_welcome (l : Launch) (k f m : Int) (c : Nat) (hc : c < 3) (σ : aS) (r : aRw) (hR : Rep σ c r) (hw : WF r) : AM l 0 mX0_welcome [aR 1 c, aI k, aI f, aI m] σ (PW c r k f m σ) := by
  have bn := hw.1
  have en := hR.n
  refine am_of (by decide) (Nat.le_of_ble_eq_true rfl) (L := [some (aR 1 c), some (aI k), some (aI f), some (aI m), none]) rfl ?_
  refine aw_b kX0_ok bX0_welcome_0_ok (Cs := [c < 3]) (pc' := 6) (L' := [some (aR 1 c), some (aI k), some (aI f), some (aI m), none]) (st' := [aI 8, aI (σ 1 c 0)]) (σ' := σ) rfl (show c < 3 from by omega) ?_
  refine aw_clt dX0_welcome_6 (tgt := 12) (by decide) ⟨by omega, by omega⟩ ⟨by omega, by omega⟩ (fun wh1 => ?_) (fun wh1 => ?_)
  · refine aw_b kX0_ok bX0_welcome_12_ok (Cs := [c < 3, c < 3, c < 3, 0 ≤ σ 1 c 0 ∧ σ 1 c 0 < 8, c < 3, c < 3, 0 ≤ σ 1 c 0 ∧ σ 1 c 0 < 8, c < 3, c < 3, 0 ≤ σ 1 c 0 ∧ σ 1 c 0 < 8, c < 3, c < 3, 0 ≤ σ 1 c 0 ∧ σ 1 c 0 < 8, c < 3, c < 3, 0 ≤ σ 1 c 0 ∧ σ 1 c 0 < 8, c < 3, c < 3]) (pc' := 70) (L' := [some (aR 1 c), some (aI k), some (aI f), some (aI m), some (aI (σ 1 c 0))]) (st' := [aI (σ 1 c 0)]) (σ' := aUp (aUp (aUp (aUp (aUp (aUp σ 2 c (σ 1 c 0) k) 3 c (σ 1 c 0) f) 4 c (σ 1 c 0) 0) 5 c (σ 1 c 0) m) 6 c (σ 1 c 0) (-1)) 1 c 0 (((aUp (aUp (aUp (aUp (aUp σ 2 c (σ 1 c 0) k) 3 c (σ 1 c 0) f) 4 c (σ 1 c 0) 0) 5 c (σ 1 c 0) m) 6 c (σ 1 c 0) (-1)) 1 c 0) + 1)) rfl (show (c < 3) ∧ (c < 3) ∧ (c < 3) ∧ (0 ≤ σ 1 c 0 ∧ σ 1 c 0 < 8) ∧ (c < 3) ∧ (c < 3) ∧ (0 ≤ σ 1 c 0 ∧ σ 1 c 0 < 8) ∧ (c < 3) ∧ (c < 3) ∧ (0 ≤ σ 1 c 0 ∧ σ 1 c 0 < 8) ∧ (c < 3) ∧ (c < 3) ∧ (0 ≤ σ 1 c 0 ∧ σ 1 c 0 < 8) ∧ (c < 3) ∧ (c < 3) ∧ (0 ≤ σ 1 c 0 ∧ σ 1 c 0 < 8) ∧ (c < 3) ∧ (c < 3) from ⟨by omega, by omega, by omega, by omega, by omega, by omega, by omega, by omega, by omega, by omega, by omega, by omega, by omega, by omega, by omega, by omega, by omega, by omega⟩) ?_
    exact aw_iret dX0_welcome_70 rfl ⟨aret (by rw [if_pos (by omega)]; exact en), by rw [if_pos (by omega)]; have z := Rep_add hR hw (by omega) k f m; rw [← en] at z; unfold waS at z; rw [show aUp (aUp (aUp (aUp (aUp σ 2 c (σ 1 c 0) k) 3 c (σ 1 c 0) f) 4 c (σ 1 c 0) 0) 5 c (σ 1 c 0) m) 6 c (σ 1 c 0) (-1) 1 c 0 = σ 1 c 0 by rw [aUp_tag (by decide), aUp_tag (by decide), aUp_tag (by decide), aUp_tag (by decide), aUp_tag (by decide)]]; exact z, aFr_tr (aFr_tr (aFr_tr (aFr_tr (aFr_tr (aFr_up (cb (by decide))) (aFr_up (cb (by decide)))) (aFr_up (cb (by decide)))) (aFr_up (cb (by decide)))) (aFr_up (cb (by decide)))) (aFr_up (cb (by decide)))⟩
  · refine aw_b kX0_ok bX0_welcome_9_ok (Cs := []) (pc' := 11) (L' := [some (aR 1 c), some (aI k), some (aI f), some (aI m), none]) (st' := [aI (-2)]) (σ' := σ) rfl trivial ?_
    exact aw_iret dX0_welcome_11 rfl ⟨aret (by rw [if_neg (by omega)]), by rw [if_neg (by omega)]; exact hR, aFr_rf⟩
def A_comes (r : aRw) (ct d m : Int) : Int := if (0 ≤ d ∧ d < 8) ∧ ((0 ≤ m ∧ m ≤ 7) ∨ m = 9) then (if lkF ct d 1 = 0 then (if r 0 < 8 then r 0 else -2) else lkF ct d 1) else -1
def R_comes (r : aRw) (ct kd fg d m : Int) : aRw := if ((0 ≤ d ∧ d < 8) ∧ ((0 ≤ m ∧ m ≤ 7) ∨ m = 9)) ∧ lkF ct d 1 = 0 ∧ r 0 < 8 then adR r kd fg m else r
set_option maxRecDepth 10000 in
theorem cC_comes (l : Launch) (d m : Int) (σ : aS) (r : aRw) (hR : Rep σ 0 r) (hw : WF r) (hd : r 1 ≤ 999) (hs : SH σ) (hd2 : aIr d) (hm : aIr m) : AM l 3 mX6_comes [aR 0 0, aI d, aI m] σ (PM (A_comes r (σ 10 0 d) d m) (R_comes r (σ 10 0 d) (σ 11 0 d) (σ 12 0 d) d m) σ) := by
  have bn := hw.1
  have en := hR.n
  have b1 := hw.2.1
  have e1 := hR.1.2.1
  have b2 := hw.2.2.1
  have e2 := hR.1.2.2
  refine am_of (by decide) (Nat.le_of_ble_eq_true rfl) (L := [some (aR 0 0), some (aI d), some (aI m), none]) rfl ?_
  refine aw_b kX6_ok bX6_comes_0_ok (Cs := []) (pc' := 1) (L' := [some (aR 0 0), some (aI d), some (aI m), none]) (st' := [aI d]) (σ' := σ) rfl trivial ?_
  refine aw_bS lX6_132 (as := [aI d]) (rest := []) (by decide) rfl (Nat.le_of_ble_eq_true rfl) rfl dX6_comes_1 (cC_isShelf l d σ ⟨by omega, by omega⟩) (fun wh1 => ?_) (fun wh1 => ?_)
  · refine aw_ieq dX6_comes_4 (tgt := 14) (by decide) ⟨by omega, by omega⟩ (fun wh2 => absurd wh2 (by decide)) (fun wh2 => ?_)
    refine aw_b kX6_ok bX6_comes_7_ok (Cs := []) (pc' := 8) (L' := [some (aR 0 0), some (aI d), some (aI m), none]) (st' := [aI m]) (σ' := σ) rfl trivial ?_
    refine aw_bS lX6_135 (as := [aI m]) (rest := []) (by decide) rfl (Nat.le_of_ble_eq_true rfl) rfl dX6_comes_8 (cC_isMate l m σ ⟨by omega, by omega⟩) (fun wh3 => ?_) (fun wh3 => ?_)
    · refine aw_ine dX6_comes_11 (tgt := 16) (by decide) ⟨by omega, by omega⟩ (fun wh4 => ?_) (fun wh4 => absurd wh4 (by decide))
      refine aw_b kX6_ok bX6_comes_16_ok (Cs := [0 < 1]) (pc' := 21) (L' := [some (aR 0 0), some (aI d), some (aI m), none]) (st' := [aI d, aR 9 0]) (σ' := σ) rfl (show 0 < 1 from by omega) ?_
      refine aw_fV lX6_138 (as := [aI d]) (rest := []) (t := 9) (c := 0) (by decide) (by decide) (by decide) rfl rfl (Nat.le_of_ble_eq_true rfl) rfl dX6_comes_21 (cS_lackOfOne l d σ hs ⟨by omega, by omega⟩) ?_
      have blk := lkF_rng (σ 10 0 d) d 1
      refine aw_b kX6_ok bX6_comes_24_ok (Cs := []) (pc' := 26) (L' := [some (aR 0 0), some (aI d), some (aI m), some (aI (lkF (σ 10 0 d) d 1))]) (st' := [aI (lkF (σ 10 0 d) d 1)]) (σ' := σ) rfl trivial ?_
      refine aw_ieq dX6_comes_26 (tgt := 31) (by decide) ⟨by omega, by omega⟩ (fun wh5 => ?_) (fun wh5 => ?_)
      · have hl := lkF_d (show lkF (σ 10 0 d) d 1 = 0 by omega)
        have bs := hs.1 d hl.1.1 hl.1.2
        refine aw_b kX6_ok bX6_comes_31_ok (Cs := [0 < 1, 0 < 1]) (pc' := 40) (L' := [some (aR 0 0), some (aI d), some (aI m), some (aI (lkF (σ 10 0 d) d 1))]) (st' := [aI d, aR 9 0, aR 1 0]) (σ' := σ) rfl (show (0 < 1) ∧ (0 < 1) from ⟨by omega, by omega⟩) ?_
        refine aw_fV lX6_141 (as := [aI d]) (rest := [aR 1 0]) (t := 9) (c := 0) (by decide) (by decide) (by decide) rfl rfl (Nat.le_of_ble_eq_true rfl) rfl dX6_comes_40 (cS_kindOn l d σ hs (by omega) (by omega)) ?_
        refine aw_b kX6_ok bX6_comes_43_ok (Cs := [0 < 1]) (pc' := 48) (L' := [some (aR 0 0), some (aI d), some (aI m), some (aI (lkF (σ 10 0 d) d 1))]) (st' := [aI d, aR 9 0, aI (σ 11 0 d), aR 1 0]) (σ' := σ) rfl (show 0 < 1 from by omega) ?_
        refine aw_fV lX6_144 (as := [aI d]) (rest := [aI (σ 11 0 d), aR 1 0]) (t := 9) (c := 0) (by decide) (by decide) (by decide) rfl rfl (Nat.le_of_ble_eq_true rfl) rfl dX6_comes_48 (cS_figureOn l d σ hs (by omega) (by omega)) ?_
        refine aw_b kX6_ok bX6_comes_51_ok (Cs := []) (pc' := 52) (L' := [some (aR 0 0), some (aI d), some (aI m), some (aI (lkF (σ 10 0 d) d 1))]) (st' := [aI m, aI (σ 12 0 d), aI (σ 11 0 d), aR 1 0]) (σ' := σ) rfl trivial ?_
        refine aw_callV lX6_147 (as := [aI (σ 11 0 d), aI (σ 12 0 d), aI m]) (rest := []) (t := 1) (c := 0) (by decide) (by decide) (by decide) rfl rfl (Nat.le_of_ble_eq_true rfl) rfl dX6_comes_52 (cC_welcome l (σ 11 0 d) (σ 12 0 d) m 0 (by decide) σ r hR hw) ?_
        rintro _ τ2 ⟨rfl, hT2, hF2⟩
        exact aw_iret dX6_comes_55 rfl ⟨by unfold A_comes; rw [if_pos (show (0 ≤ d ∧ d < 8) ∧ ((0 ≤ m ∧ m ≤ 7) ∨ m = 9) by omega), if_pos (show lkF (σ 10 0 d) d 1 = 0 by omega)], (if h8 : r 0 < 8 then (by have z := hT2; rw [if_pos h8] at z; unfold R_comes; rw [if_pos (by omega)]; exact z) else (by have z := hT2; rw [if_neg h8] at z; unfold R_comes; rw [if_neg (by omega)]; exact z)), hF2⟩
      · refine aw_b kX6_ok bX6_comes_29_ok (Cs := []) (pc' := 30) (L' := [some (aR 0 0), some (aI d), some (aI m), some (aI (lkF (σ 10 0 d) d 1))]) (st' := [aI (lkF (σ 10 0 d) d 1)]) (σ' := σ) rfl trivial ?_
        exact aw_iret dX6_comes_30 rfl ⟨aret (by unfold A_comes; rw [if_pos (by omega), if_neg (by omega)]), by unfold R_comes; rw [if_neg (by omega)]; exact hR, aFr_rf⟩
    · refine aw_ine dX6_comes_11 (tgt := 16) (by decide) ⟨by omega, by omega⟩ (fun wh6 => absurd wh6 (by decide)) (fun wh6 => ?_)
      refine aw_b kX6_ok bX6_comes_14_ok (Cs := []) (pc' := 15) (L' := [some (aR 0 0), some (aI d), some (aI m), none]) (st' := [aI (-1)]) (σ' := σ) rfl trivial ?_
      exact aw_iret dX6_comes_15 rfl ⟨aret (by unfold A_comes; rw [if_neg (by omega)]), by unfold R_comes; rw [if_neg (by omega)]; exact hR, aFr_rf⟩
  · refine aw_ieq dX6_comes_4 (tgt := 14) (by decide) ⟨by omega, by omega⟩ (fun wh7 => ?_) (fun wh7 => absurd wh7 (by decide))
    refine aw_b kX6_ok bX6_comes_14_ok (Cs := []) (pc' := 15) (L' := [some (aR 0 0), some (aI d), some (aI m), none]) (st' := [aI (-1)]) (σ' := σ) rfl trivial ?_
    exact aw_iret dX6_comes_15 rfl ⟨aret (by unfold A_comes; rw [if_neg (by omega)]), by unfold R_comes; rw [if_neg (by omega)]; exact hR, aFr_rf⟩
