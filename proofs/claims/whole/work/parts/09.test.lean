set_option maxRecDepth 10000 in
theorem c_isThere (l : Launch) (c : Nat) (hc : c < 3) (p : Int) (σ : aS) (hp : aIr p) (hn : aIr (σ 1 c 0)) : AM l 0 mX0_isThere [aR 1 c, aI p] σ (aF (some (aI (if 0 ≤ p ∧ p < σ 1 c 0 ∧ p < 8 then 1 else 0))) σ) := by
  refine am_of (by decide) (Nat.le_of_ble_eq_true rfl) (L := [some (aR 1 c), some (aI p)]) rfl ?_
  refine aw_b kX0_ok bX0_isThere_0_ok (Cs := []) (pc' := 1) (L' := [some (aR 1 c), some (aI p)]) (st' := [aI p]) (σ' := σ) rfl trivial ?_
  refine aw_ilt dX0_isThere_1 (tgt := 22) (by decide) ⟨by omega, by omega⟩ (fun h1 => ?_) (fun h1 => ?_)
  · refine aw_b kX0_ok bX0_isThere_22_ok (Cs := []) (pc' := 23) (L' := [some (aR 1 c), some (aI p)]) (st' := [aI 0]) (σ' := σ) rfl trivial ?_
    exact aw_zret dX0_isThere_23 rfl (by omega) ⟨aret (by split <;> omega), rfl⟩
  · refine aw_b kX0_ok bX0_isThere_4_ok (Cs := [c < 3]) (pc' := 9) (L' := [some (aR 1 c), some (aI p)]) (st' := [aI (σ 1 c 0), aI p]) (σ' := σ) rfl (show c < 3 from by omega) ?_
    refine aw_cge dX0_isThere_9 (tgt := 22) (by decide) ⟨by omega, by omega⟩ ⟨by omega, by omega⟩ (fun h2 => ?_) (fun h2 => ?_)
    · refine aw_b kX0_ok bX0_isThere_22_ok (Cs := []) (pc' := 23) (L' := [some (aR 1 c), some (aI p)]) (st' := [aI 0]) (σ' := σ) rfl trivial ?_
      exact aw_zret dX0_isThere_23 rfl (by omega) ⟨aret (by split <;> omega), rfl⟩
    · refine aw_b kX0_ok bX0_isThere_12_ok (Cs := []) (pc' := 15) (L' := [some (aR 1 c), some (aI p)]) (st' := [aI 8, aI p]) (σ' := σ) rfl trivial ?_
      refine aw_cge dX0_isThere_15 (tgt := 22) (by decide) ⟨by omega, by omega⟩ ⟨by omega, by omega⟩ (fun h3 => ?_) (fun h3 => ?_)
      · refine aw_b kX0_ok bX0_isThere_22_ok (Cs := []) (pc' := 23) (L' := [some (aR 1 c), some (aI p)]) (st' := [aI 0]) (σ' := σ) rfl trivial ?_
        exact aw_zret dX0_isThere_23 rfl (by omega) ⟨aret (by split <;> omega), rfl⟩
      · refine aw_b kX0_ok bX0_isThere_18_ok (Cs := []) (pc' := 23) (L' := [some (aR 1 c), some (aI p)]) (st' := [aI 1]) (σ' := σ) rfl trivial ?_
        exact aw_zret dX0_isThere_23 rfl (by omega) ⟨aret (by split <;> omega), rfl⟩
def off (r : Int → Int) (p : Int) : Int := if r 8 = p then 0 else if r 9 = p then 1 else if r 10 = p then 2 else if r 11 = p then 3 else if r 12 = p then 4 else -4
set_option maxRecDepth 10000 in
theorem c_officeOf (l : Launch) (c : Nat) (hc : c < 4) (p : Int) (σ : aS) (hp : aIr p) (hh : ∀ f : Int, 8 ≤ f → f < 13 → aIr (σ 22 c f)) : AM l 0 mX7_officeOf [aR 22 c, aI p] σ (aF (some (aI (off (σ 22 c) p))) σ) := by
  have g0 := hh 8 (by omega) (by omega)
  have g1 := hh 9 (by omega) (by omega)
  have g2 := hh 10 (by omega) (by omega)
  have g3 := hh 11 (by omega) (by omega)
  have g4 := hh 12 (by omega) (by omega)
  refine am_of (by decide) (Nat.le_of_ble_eq_true rfl) (L := [some (aR 22 c), some (aI p), none]) rfl ?_
  refine aw_b kX7_ok bX7_officeOf_0_ok (Cs := []) (pc' := 2) (L' := [some (aR 22 c), some (aI p), some (aI 0)]) (st' := []) (σ' := σ) rfl trivial ?_
  refine aw_b kX7_ok bX7_officeOf_2_ok (Cs := []) (pc' := 4) (L' := [some (aR 22 c), some (aI p), some (aI 0)]) (st' := [aI 5, aI 0]) (σ' := σ) rfl trivial ?_
  refine aw_cge dX7_officeOf_4 (tgt := 25) (by decide) ⟨by omega, by omega⟩ ⟨by omega, by omega⟩ (fun h1 => absurd h1 (by decide)) (fun h1 => ?_)
  refine aw_b kX7_ok bX7_officeOf_7_ok (Cs := [c < 4, 0 ≤ 8 ∧ 8 < 45]) (pc' := 14) (L' := [some (aR 22 c), some (aI p), some (aI 0)]) (st' := [aI p, aI (σ 22 c 8)]) (σ' := σ) rfl (show (c < 4) ∧ (0 ≤ 8 ∧ 8 < 45) from ⟨by omega, by omega⟩) ?_
  refine aw_cne dX7_officeOf_14 (tgt := 19) (by decide) ⟨by omega, by omega⟩ ⟨by omega, by omega⟩ (fun h2 => ?_) (fun h2 => ?_)
  · refine aw_b kX7_ok bX7_officeOf_19_ok (Cs := []) (pc' := 2) (L' := [some (aR 22 c), some (aI p), some (aI 1)]) (st' := []) (σ' := σ) rfl trivial ?_
    refine aw_b kX7_ok bX7_officeOf_2_ok (Cs := []) (pc' := 4) (L' := [some (aR 22 c), some (aI p), some (aI 1)]) (st' := [aI 5, aI 1]) (σ' := σ) rfl trivial ?_
    refine aw_cge dX7_officeOf_4 (tgt := 25) (by decide) ⟨by omega, by omega⟩ ⟨by omega, by omega⟩ (fun h3 => absurd h3 (by decide)) (fun h3 => ?_)
    refine aw_b kX7_ok bX7_officeOf_7_ok (Cs := [c < 4, 0 ≤ 9 ∧ 9 < 45]) (pc' := 14) (L' := [some (aR 22 c), some (aI p), some (aI 1)]) (st' := [aI p, aI (σ 22 c 9)]) (σ' := σ) rfl (show (c < 4) ∧ (0 ≤ 9 ∧ 9 < 45) from ⟨by omega, by omega⟩) ?_
    refine aw_cne dX7_officeOf_14 (tgt := 19) (by decide) ⟨by omega, by omega⟩ ⟨by omega, by omega⟩ (fun h4 => ?_) (fun h4 => ?_)
    · refine aw_b kX7_ok bX7_officeOf_19_ok (Cs := []) (pc' := 2) (L' := [some (aR 22 c), some (aI p), some (aI 2)]) (st' := []) (σ' := σ) rfl trivial ?_
      refine aw_b kX7_ok bX7_officeOf_2_ok (Cs := []) (pc' := 4) (L' := [some (aR 22 c), some (aI p), some (aI 2)]) (st' := [aI 5, aI 2]) (σ' := σ) rfl trivial ?_
      refine aw_cge dX7_officeOf_4 (tgt := 25) (by decide) ⟨by omega, by omega⟩ ⟨by omega, by omega⟩ (fun h5 => absurd h5 (by decide)) (fun h5 => ?_)
      refine aw_b kX7_ok bX7_officeOf_7_ok (Cs := [c < 4, 0 ≤ 10 ∧ 10 < 45]) (pc' := 14) (L' := [some (aR 22 c), some (aI p), some (aI 2)]) (st' := [aI p, aI (σ 22 c 10)]) (σ' := σ) rfl (show (c < 4) ∧ (0 ≤ 10 ∧ 10 < 45) from ⟨by omega, by omega⟩) ?_
      refine aw_cne dX7_officeOf_14 (tgt := 19) (by decide) ⟨by omega, by omega⟩ ⟨by omega, by omega⟩ (fun h6 => ?_) (fun h6 => ?_)
      · refine aw_b kX7_ok bX7_officeOf_19_ok (Cs := []) (pc' := 2) (L' := [some (aR 22 c), some (aI p), some (aI 3)]) (st' := []) (σ' := σ) rfl trivial ?_
        refine aw_b kX7_ok bX7_officeOf_2_ok (Cs := []) (pc' := 4) (L' := [some (aR 22 c), some (aI p), some (aI 3)]) (st' := [aI 5, aI 3]) (σ' := σ) rfl trivial ?_
        refine aw_cge dX7_officeOf_4 (tgt := 25) (by decide) ⟨by omega, by omega⟩ ⟨by omega, by omega⟩ (fun h7 => absurd h7 (by decide)) (fun h7 => ?_)
        refine aw_b kX7_ok bX7_officeOf_7_ok (Cs := [c < 4, 0 ≤ 11 ∧ 11 < 45]) (pc' := 14) (L' := [some (aR 22 c), some (aI p), some (aI 3)]) (st' := [aI p, aI (σ 22 c 11)]) (σ' := σ) rfl (show (c < 4) ∧ (0 ≤ 11 ∧ 11 < 45) from ⟨by omega, by omega⟩) ?_
        refine aw_cne dX7_officeOf_14 (tgt := 19) (by decide) ⟨by omega, by omega⟩ ⟨by omega, by omega⟩ (fun h8 => ?_) (fun h8 => ?_)
        · refine aw_b kX7_ok bX7_officeOf_19_ok (Cs := []) (pc' := 2) (L' := [some (aR 22 c), some (aI p), some (aI 4)]) (st' := []) (σ' := σ) rfl trivial ?_
          refine aw_b kX7_ok bX7_officeOf_2_ok (Cs := []) (pc' := 4) (L' := [some (aR 22 c), some (aI p), some (aI 4)]) (st' := [aI 5, aI 4]) (σ' := σ) rfl trivial ?_
          refine aw_cge dX7_officeOf_4 (tgt := 25) (by decide) ⟨by omega, by omega⟩ ⟨by omega, by omega⟩ (fun h9 => absurd h9 (by decide)) (fun h9 => ?_)
          refine aw_b kX7_ok bX7_officeOf_7_ok (Cs := [c < 4, 0 ≤ 12 ∧ 12 < 45]) (pc' := 14) (L' := [some (aR 22 c), some (aI p), some (aI 4)]) (st' := [aI p, aI (σ 22 c 12)]) (σ' := σ) rfl (show (c < 4) ∧ (0 ≤ 12 ∧ 12 < 45) from ⟨by omega, by omega⟩) ?_
          refine aw_cne dX7_officeOf_14 (tgt := 19) (by decide) ⟨by omega, by omega⟩ ⟨by omega, by omega⟩ (fun h10 => ?_) (fun h10 => ?_)
          · refine aw_b kX7_ok bX7_officeOf_19_ok (Cs := []) (pc' := 2) (L' := [some (aR 22 c), some (aI p), some (aI 5)]) (st' := []) (σ' := σ) rfl trivial ?_
            refine aw_b kX7_ok bX7_officeOf_2_ok (Cs := []) (pc' := 4) (L' := [some (aR 22 c), some (aI p), some (aI 5)]) (st' := [aI 5, aI 5]) (σ' := σ) rfl trivial ?_
            refine aw_cge dX7_officeOf_4 (tgt := 25) (by decide) ⟨by omega, by omega⟩ ⟨by omega, by omega⟩ (fun h11 => ?_) (fun h11 => absurd h11 (by decide))
            refine aw_b kX7_ok bX7_officeOf_25_ok (Cs := []) (pc' := 27) (L' := [some (aR 22 c), some (aI p), some (aI 5)]) (st' := [aI (-4)]) (σ' := σ) rfl trivial ?_
            exact aw_iret dX7_officeOf_27 rfl ⟨aret (by unfold off; simp [*]), rfl⟩
          · refine aw_b kX7_ok bX7_officeOf_17_ok (Cs := []) (pc' := 18) (L' := [some (aR 22 c), some (aI p), some (aI 4)]) (st' := [aI 4]) (σ' := σ) rfl trivial ?_
            exact aw_iret dX7_officeOf_18 rfl ⟨aret (by unfold off; simp [*]), rfl⟩
        · refine aw_b kX7_ok bX7_officeOf_17_ok (Cs := []) (pc' := 18) (L' := [some (aR 22 c), some (aI p), some (aI 3)]) (st' := [aI 3]) (σ' := σ) rfl trivial ?_
          exact aw_iret dX7_officeOf_18 rfl ⟨aret (by unfold off; simp [*]), rfl⟩
      · refine aw_b kX7_ok bX7_officeOf_17_ok (Cs := []) (pc' := 18) (L' := [some (aR 22 c), some (aI p), some (aI 2)]) (st' := [aI 2]) (σ' := σ) rfl trivial ?_
        exact aw_iret dX7_officeOf_18 rfl ⟨aret (by unfold off; simp [*]), rfl⟩
    · refine aw_b kX7_ok bX7_officeOf_17_ok (Cs := []) (pc' := 18) (L' := [some (aR 22 c), some (aI p), some (aI 1)]) (st' := [aI 1]) (σ' := σ) rfl trivial ?_
      exact aw_iret dX7_officeOf_18 rfl ⟨aret (by unfold off; simp [*]), rfl⟩
  · refine aw_b kX7_ok bX7_officeOf_17_ok (Cs := []) (pc' := 18) (L' := [some (aR 22 c), some (aI p), some (aI 0)]) (st' := [aI 0]) (σ' := σ) rfl trivial ?_
    exact aw_iret dX7_officeOf_18 rfl ⟨aret (by unfold off; simp [*]), rfl⟩
def cntC (r : Int → Int) (k : Int) : Nat → Int
  | 0 => 0
  | n + 1 => cntC r k n + (if 0 ≤ r (8 + n) ∧ r (3 + n) = k then 1 else 0)
theorem cntC_le (r : Int → Int) (k : Int) : ∀ n : Nat, 0 ≤ cntC r k n ∧ cntC r k n ≤ n
  | 0 => ⟨Int.le_refl 0, Int.le_refl 0⟩
  | n + 1 => by
    have h := cntC_le r k n
    unfold cntC
    split <;> omega
set_option maxRecDepth 10000 in
theorem c_isCommon (l : Launch) (c : Nat) (hc : c < 4) (k : Int) (σ : aS) (hk : aIr k) (hh : ∀ f : Int, 3 ≤ f → f < 13 → aIr (σ 22 c f)) : AM l 0 mX7_isCommon [aR 22 c, aI k] σ (aF (some (aI (if 1 < cntC (σ 22 c) k 5 then 1 else 0))) σ) := by
  refine am_of (by decide) (Nat.le_of_ble_eq_true rfl) (L := [some (aR 22 c), some (aI k), none, none]) rfl ?_
  refine aw_b kX7_ok bX7_isCommon_0_ok (Cs := []) (pc' := 4) (L' := [some (aR 22 c), some (aI k), some (aI 0), some (aI 0)]) (st' := []) (σ' := σ) rfl trivial ?_
  refine aloop (P := fun n : Nat => AW l 0 mX7_isCommon _ 4 [some (aR 22 c), some (aI k), some (aI (cntC (σ 22 c) k n)), some (aI (n : Int))] [] σ) (5) (fun n hn ihn => ?_)
  have q0 := cntC_le (σ 22 c) k n
  refine aw_b kX7_ok bX7_isCommon_4_ok (Cs := []) (pc' := 6) (L' := [some (aR 22 c), some (aI k), some (aI (cntC (σ 22 c) k n)), some (aI (n : Int))]) (st' := [aI 5, aI (n : Int)]) (σ' := σ) rfl trivial ?_
  refine aw_cge dX7_isCommon_6 (tgt := 41) (by decide) ⟨by omega, by omega⟩ ⟨by omega, by omega⟩ (fun h1 => ?_) (fun h1 => ?_)
  · have e5 : n = 5 := by omega
    refine aw_b kX7_ok bX7_isCommon_41_ok (Cs := []) (pc' := 43) (L' := [some (aR 22 c), some (aI k), some (aI (cntC (σ 22 c) k n)), some (aI (n : Int))]) (st' := [aI 1, aI (cntC (σ 22 c) k n)]) (σ' := σ) rfl trivial ?_
    refine aw_cle dX7_isCommon_43 (tgt := 50) (by decide) ⟨by omega, by omega⟩ ⟨by omega, by omega⟩ (fun h2 => ?_) (fun h2 => ?_)
    · refine aw_b kX7_ok bX7_isCommon_50_ok (Cs := []) (pc' := 51) (L' := [some (aR 22 c), some (aI k), some (aI (cntC (σ 22 c) k n)), some (aI (n : Int))]) (st' := [aI 0]) (σ' := σ) rfl trivial ?_
      exact aw_zret dX7_isCommon_51 rfl (by omega) ⟨aret (by subst e5; split <;> omega), rfl⟩
    · refine aw_b kX7_ok bX7_isCommon_46_ok (Cs := []) (pc' := 51) (L' := [some (aR 22 c), some (aI k), some (aI (cntC (σ 22 c) k n)), some (aI (n : Int))]) (st' := [aI 1]) (σ' := σ) rfl trivial ?_
      exact aw_zret dX7_isCommon_51 rfl (by omega) ⟨aret (by subst e5; split <;> omega), rfl⟩
  · have g1 := hh (8 + (n : Int)) (by omega) (by omega)
    have g2 := hh (3 + (n : Int)) (by omega) (by omega)
    refine aw_b kX7_ok bX7_isCommon_9_ok (Cs := [c < 4, 0 ≤ 8 + (n : Int) ∧ 8 + (n : Int) < 45]) (pc' := 16) (L' := [some (aR 22 c), some (aI k), some (aI (cntC (σ 22 c) k n)), some (aI (n : Int))]) (st' := [aI (σ 22 c (8 + (n : Int))), aI (cntC (σ 22 c) k n)]) (σ' := σ) rfl (show (c < 4) ∧ (0 ≤ 8 + (n : Int) ∧ 8 + (n : Int) < 45) from ⟨by omega, by omega⟩) ?_
    refine aw_ilt dX7_isCommon_16 (tgt := 32) (by decide) ⟨by omega, by omega⟩ (fun h3 => ?_) (fun h3 => ?_)
    · refine aw_b kX7_ok bX7_isCommon_32_ok (Cs := []) (pc' := 33) (L' := [some (aR 22 c), some (aI k), some (aI (cntC (σ 22 c) k n)), some (aI (n : Int))]) (st' := [aI 0, aI (cntC (σ 22 c) k n)]) (σ' := σ) rfl trivial ?_
      refine aw_b kX7_ok bX7_isCommon_33_ok (Cs := []) (pc' := 4) (L' := [some (aR 22 c), some (aI k), some (aI ((cntC (σ 22 c) k n) + 0)), some (aI ((n : Int) + 1))]) (st' := []) (σ' := σ) rfl trivial ?_
      exact aw_eq (by simp [cntC, *] <;> omega) rfl rfl (ihn (by omega))
    · refine aw_b kX7_ok bX7_isCommon_19_ok (Cs := [c < 4, 0 ≤ 3 + (n : Int) ∧ 3 + (n : Int) < 45]) (pc' := 25) (L' := [some (aR 22 c), some (aI k), some (aI (cntC (σ 22 c) k n)), some (aI (n : Int))]) (st' := [aI k, aI (σ 22 c (3 + (n : Int))), aI (cntC (σ 22 c) k n)]) (σ' := σ) rfl (show (c < 4) ∧ (0 ≤ 3 + (n : Int) ∧ 3 + (n : Int) < 45) from ⟨by omega, by omega⟩) ?_
      refine aw_cne dX7_isCommon_25 (tgt := 32) (by decide) ⟨by omega, by omega⟩ ⟨by omega, by omega⟩ (fun h4 => ?_) (fun h4 => ?_)
      · refine aw_b kX7_ok bX7_isCommon_32_ok (Cs := []) (pc' := 33) (L' := [some (aR 22 c), some (aI k), some (aI (cntC (σ 22 c) k n)), some (aI (n : Int))]) (st' := [aI 0, aI (cntC (σ 22 c) k n)]) (σ' := σ) rfl trivial ?_
        refine aw_b kX7_ok bX7_isCommon_33_ok (Cs := []) (pc' := 4) (L' := [some (aR 22 c), some (aI k), some (aI ((cntC (σ 22 c) k n) + 0)), some (aI ((n : Int) + 1))]) (st' := []) (σ' := σ) rfl trivial ?_
        exact aw_eq (by simp [cntC, *] <;> omega) rfl rfl (ihn (by omega))
      · refine aw_b kX7_ok bX7_isCommon_28_ok (Cs := []) (pc' := 33) (L' := [some (aR 22 c), some (aI k), some (aI (cntC (σ 22 c) k n)), some (aI (n : Int))]) (st' := [aI 1, aI (cntC (σ 22 c) k n)]) (σ' := σ) rfl trivial ?_
        refine aw_b kX7_ok bX7_isCommon_33_ok (Cs := []) (pc' := 4) (L' := [some (aR 22 c), some (aI k), some (aI ((cntC (σ 22 c) k n) + 1)), some (aI ((n : Int) + 1))]) (st' := []) (σ' := σ) rfl trivial ?_
        exact aw_eq (by simp [cntC, *] <;> omega) rfl rfl (ihn (by omega))
