/-! ===== the class: changes, shelves ===== -/
def PM (a : Int) (r' : aRw) (σ : aS) : Option aV → aS → Prop := fun v σ' => v = some (aI a) ∧ Rep σ' 0 r' ∧ aFr (Cb 0) σ σ'
def A_days (r : aRw) (n : Int) : Int := if 1 ≤ n ∧ n ≤ 60 then (if r 1 + n ≤ 999 then dysR r n.toNat 2 else -3) else -1
def R_days (r : aRw) (n : Int) : aRw := if (1 ≤ n ∧ n ≤ 60) ∧ r 1 + n ≤ 999 then dysR r n.toNat else r
def A_holds (r : aRw) (f p : Int) : Int := if (0 ≤ f ∧ f < 5) ∧ (0 ≤ p ∧ p < r 0) then r (8 + f) else -1
def R_holds (r : aRw) (f p : Int) : aRw := if (0 ≤ f ∧ f < 5) ∧ (0 ≤ p ∧ p < r 0) then hoR r f p else r
def A_empties (r : aRw) (f : Int) : Int := if 0 ≤ f ∧ f < 5 then (if r (8 + f) < 0 then -3 else r (8 + f)) else -1
def R_empties (r : aRw) (f : Int) : aRw := if (0 ≤ f ∧ f < 5) ∧ 0 ≤ r (8 + f) then emR r f else r
def A_wears (r : aRw) (f k : Int) : Int := if (0 ≤ f ∧ f < 5) ∧ (0 ≤ k ∧ k < 10) then r (3 + f) else -1
def R_wears (r : aRw) (f k : Int) : aRw := if (0 ≤ f ∧ f < 5) ∧ (0 ≤ k ∧ k < 10) then rUp r (3 + f) k else r
def A_knows (r : aRw) (p k : Int) : Int := if (0 ≤ p ∧ p < r 0) ∧ (0 ≤ k ∧ k ≤ 99) then r (aOf p 2) else -1
def R_knows (r : aRw) (p k : Int) : aRw := if (0 ≤ p ∧ p < r 0) ∧ (0 ≤ k ∧ k ≤ 99) then rUp r (aOf p 2) k else r
def A_marries (r : aRw) (p k : Int) : Int := if (0 ≤ p ∧ p < r 0) ∧ ((0 ≤ k ∧ k ≤ 7) ∨ k = 9) then r (aOf p 3) else -1
def R_marries (r : aRw) (p k : Int) : aRw := if (0 ≤ p ∧ p < r 0) ∧ ((0 ≤ k ∧ k ≤ 7) ∨ k = 9) then rUp r (aOf p 3) k else r
set_option maxRecDepth 10000 in
theorem cC_days (l : Launch) (n : Int) (σ : aS) (r : aRw) (hR : Rep σ 0 r) (hw : WF r) (hd : r 1 ≤ 999) (hn : aIr n) : AM l 5 mX6_days [aR 0 0, aI n] σ (PM (A_days r n) (R_days r n) σ) := by
  have bn := hw.1
  have en := hR.n
  have b1 := hw.2.1
  have e1 := hR.1.2.1
  have b2 := hw.2.2.1
  have e2 := hR.1.2.2
  refine am_of (by decide) (Nat.le_of_ble_eq_true rfl) (L := [some (aR 0 0), some (aI n)]) rfl ?_
  refine aw_b kX6_ok bX6_days_0_ok (Cs := []) (pc' := 2) (L' := [some (aR 0 0), some (aI n)]) (st' := [aI 1, aI n]) (σ' := σ) rfl trivial ?_
  refine aw_clt dX6_days_2 (tgt := 11) (by decide) ⟨by omega, by omega⟩ ⟨by omega, by omega⟩ (fun wh1 => ?_) (fun wh1 => ?_)
  · refine aw_b kX6_ok bX6_days_11_ok (Cs := []) (pc' := 12) (L' := [some (aR 0 0), some (aI n)]) (st' := [aI (-1)]) (σ' := σ) rfl trivial ?_
    exact aw_iret dX6_days_12 rfl ⟨aret (by unfold A_days; (first | rw [if_neg (by omega)] | rw [if_pos (by omega), if_neg (by omega)] | rw [if_pos (by omega), if_pos (by omega)])), by unfold R_days; rw [if_neg (by omega)]; exact hR, aFr_rf⟩
  · refine aw_b kX6_ok bX6_days_5_ok (Cs := []) (pc' := 8) (L' := [some (aR 0 0), some (aI n)]) (st' := [aI 60, aI n]) (σ' := σ) rfl trivial ?_
    refine aw_cle dX6_days_8 (tgt := 13) (by decide) ⟨by omega, by omega⟩ ⟨by omega, by omega⟩ (fun wh2 => ?_) (fun wh2 => ?_)
    · refine aw_b kX6_ok bX6_days_13_ok (Cs := [0 < 1, 0 < 3]) (pc' := 25) (L' := [some (aR 0 0), some (aI n)]) (st' := [aI 999, aI ((σ 1 0 1) + n)]) (σ' := σ) rfl (show (0 < 1) ∧ (0 < 3) from ⟨by omega, by omega⟩) ?_
      refine aw_cle dX6_days_25 (tgt := 31) (by decide) ⟨by omega, by omega⟩ ⟨by omega, by omega⟩ (fun wh3 => ?_) (fun wh3 => ?_)
      · refine aw_b kX6_ok bX6_days_31_ok (Cs := [0 < 1]) (pc' := 36) (L' := [some (aR 0 0), some (aI n)]) (st' := [aI n, aR 1 0]) (σ' := σ) rfl (show 0 < 1 from by omega) ?_
        refine aw_callV lX6_159 (as := [aI n]) (rest := []) (t := 1) (c := 0) (by decide) (by decide) (by decide) rfl rfl (Nat.le_of_ble_eq_true rfl) rfl dX6_days_36 (cC_passI l n 0 (by decide) σ r hR hw (by omega) (by omega) (by omega)) ?_
        rintro _ τ2 ⟨rfl, hT2, hF2⟩
        refine aw_b kX6_ok bX6_days_39_ok (Cs := [0 < 1, 0 < 3]) (pc' := 46) (L' := [some (aR 0 0), some (aI n)]) (st' := [aI (τ2 1 0 2)]) (σ' := τ2) rfl (show (0 < 1) ∧ (0 < 3) from ⟨by omega, by omega⟩) ?_
        exact aw_iret dX6_days_46 rfl ⟨aret (by unfold A_days; rw [if_pos (by omega), if_pos (by omega)]; exact hT2.1.2.2), by unfold R_days; rw [if_pos (by omega)]; exact hT2, hF2⟩
      · refine aw_b kX6_ok bX6_days_28_ok (Cs := []) (pc' := 30) (L' := [some (aR 0 0), some (aI n)]) (st' := [aI (-3)]) (σ' := σ) rfl trivial ?_
        exact aw_iret dX6_days_30 rfl ⟨aret (by unfold A_days; (first | rw [if_neg (by omega)] | rw [if_pos (by omega), if_neg (by omega)] | rw [if_pos (by omega), if_pos (by omega)])), by unfold R_days; rw [if_neg (by omega)]; exact hR, aFr_rf⟩
    · refine aw_b kX6_ok bX6_days_11_ok (Cs := []) (pc' := 12) (L' := [some (aR 0 0), some (aI n)]) (st' := [aI (-1)]) (σ' := σ) rfl trivial ?_
      exact aw_iret dX6_days_12 rfl ⟨aret (by unfold A_days; (first | rw [if_neg (by omega)] | rw [if_pos (by omega), if_neg (by omega)] | rw [if_pos (by omega), if_pos (by omega)])), by unfold R_days; rw [if_neg (by omega)]; exact hR, aFr_rf⟩
set_option maxRecDepth 10000 in
theorem cC_holds (l : Launch) (f p : Int) (σ : aS) (r : aRw) (hR : Rep σ 0 r) (hw : WF r) (hd : r 1 ≤ 999) (hf : aIr f) (hp : aIr p) : AM l 3 mX6_holds [aR 0 0, aI f, aI p] σ (PM (A_holds r f p) (R_holds r f p) σ) := by
  have bn := hw.1
  have en := hR.n
  have b1 := hw.2.1
  have e1 := hR.1.2.1
  have b2 := hw.2.2.1
  have e2 := hR.1.2.2
  refine am_of (by decide) (Nat.le_of_ble_eq_true rfl) (L := [some (aR 0 0), some (aI f), some (aI p), none]) rfl ?_
  refine aw_b kX6_ok bX6_holds_0_ok (Cs := []) (pc' := 1) (L' := [some (aR 0 0), some (aI f), some (aI p), none]) (st' := [aI f]) (σ' := σ) rfl trivial ?_
  refine aw_bS lX6_109 (as := [aI f]) (rest := []) (by decide) rfl (Nat.le_of_ble_eq_true rfl) rfl dX6_holds_1 (cC_isOffice l f σ ⟨by omega, by omega⟩) (fun wh1 => ?_) (fun wh1 => ?_)
  · refine aw_ieq dX6_holds_4 (tgt := 18) (by decide) ⟨by omega, by omega⟩ (fun wh2 => absurd wh2 (by decide)) (fun wh2 => ?_)
    refine aw_b kX6_ok bX6_holds_7_ok (Cs := [0 < 1]) (pc' := 12) (L' := [some (aR 0 0), some (aI f), some (aI p), none]) (st' := [aI p, aR 1 0]) (σ' := σ) rfl (show 0 < 1 from by omega) ?_
    refine aw_bV lX6_76 (as := [aI p]) (rest := []) (t := 1) (c := 0) (by decide) (by decide) (by decide) rfl rfl (Nat.le_of_ble_eq_true rfl) rfl dX6_holds_12 (cC_isThere l p 0 (by omega) σ r hR hw ⟨by omega, by omega⟩) (fun wh3 => ?_) (fun wh3 => ?_)
    · refine aw_ine dX6_holds_15 (tgt := 20) (by decide) ⟨by omega, by omega⟩ (fun wh4 => ?_) (fun wh4 => absurd wh4 (by decide))
      have bc := hw.co (f := f) (by omega) (by omega)
      have bh := hw.ho (f := f) (by omega) (by omega)
      have ro := hR.of (f := f) (by omega) (by omega)
      have nh := nb_cases (r (8 + f))
      refine aw_b kX6_ok bX6_holds_20_ok (Cs := [0 < 1, 0 < 3, 0 < 3, 0 ≤ f ∧ f < 5, 0 < 1]) (pc' := 36) (L' := [some (aR 0 0), some (aI f), some (aI p), some (aI (σ 8 0 f))]) (st' := [aI p, aI f, aR 1 0]) (σ' := σ) rfl (show (0 < 1) ∧ (0 < 3) ∧ (0 < 3) ∧ (0 ≤ f ∧ f < 5) ∧ (0 < 1) from ⟨by omega, by omega, by omega, by omega, by omega⟩) ?_
      refine aw_callV lX6_151 (as := [aI f, aI p]) (rest := []) (t := 1) (c := 0) (by decide) (by decide) (by decide) rfl rfl (Nat.le_of_ble_eq_true rfl) rfl dX6_holds_36 (cC_install l f p 0 (by decide) σ r hR hw (by omega) (by omega) (by omega) (by omega)) ?_
      rintro _ τ2 ⟨rfl, hT2, hF2, h32⟩
      refine aw_b kX6_ok bX6_holds_39_ok (Cs := []) (pc' := 40) (L' := [some (aR 0 0), some (aI f), some (aI p), some (aI (σ 8 0 f))]) (st' := [aI (σ 8 0 f)]) (σ' := τ2) rfl trivial ?_
      refine aw_fS lX6_94 (as := [aI (σ 8 0 f)]) (rest := []) (by decide) rfl (Nat.le_of_ble_eq_true rfl) rfl dX6_holds_40 (cC_orNone l (σ 8 0 f) τ2 ⟨by omega, by omega⟩) ?_
      rw [show (if σ 8 0 f = -1 then (-4 : Int) else σ 8 0 f) = r (8 + f) by split <;> omega]
      exact aw_iret dX6_holds_43 rfl ⟨aret (by unfold A_holds; rw [if_pos (by omega)]), by unfold R_holds; rw [if_pos (by omega)]; exact hT2, hF2⟩
    · refine aw_ine dX6_holds_15 (tgt := 20) (by decide) ⟨by omega, by omega⟩ (fun wh5 => absurd wh5 (by decide)) (fun wh5 => ?_)
      refine aw_b kX6_ok bX6_holds_18_ok (Cs := []) (pc' := 19) (L' := [some (aR 0 0), some (aI f), some (aI p), none]) (st' := [aI (-1)]) (σ' := σ) rfl trivial ?_
      exact aw_iret dX6_holds_19 rfl ⟨aret (by unfold A_holds; (first | rw [if_neg (by omega)] | rw [if_pos (by omega), if_neg (by omega)] | rw [if_pos (by omega), if_pos (by omega)])), by unfold R_holds; rw [if_neg (by omega)]; exact hR, aFr_rf⟩
  · refine aw_ieq dX6_holds_4 (tgt := 18) (by decide) ⟨by omega, by omega⟩ (fun wh6 => ?_) (fun wh6 => absurd wh6 (by decide))
    refine aw_b kX6_ok bX6_holds_18_ok (Cs := []) (pc' := 19) (L' := [some (aR 0 0), some (aI f), some (aI p), none]) (st' := [aI (-1)]) (σ' := σ) rfl trivial ?_
    exact aw_iret dX6_holds_19 rfl ⟨aret (by unfold A_holds; (first | rw [if_neg (by omega)] | rw [if_pos (by omega), if_neg (by omega)] | rw [if_pos (by omega), if_pos (by omega)])), by unfold R_holds; rw [if_neg (by omega)]; exact hR, aFr_rf⟩
set_option maxRecDepth 10000 in
theorem cC_empties (l : Launch) (f : Int) (σ : aS) (r : aRw) (hR : Rep σ 0 r) (hw : WF r) (hd : r 1 ≤ 999) (hf : aIr f) : AM l 2 mX6_empties [aR 0 0, aI f] σ (PM (A_empties r f) (R_empties r f) σ) := by
  have bn := hw.1
  have en := hR.n
  have b1 := hw.2.1
  have e1 := hR.1.2.1
  have b2 := hw.2.2.1
  have e2 := hR.1.2.2
  refine am_of (by decide) (Nat.le_of_ble_eq_true rfl) (L := [some (aR 0 0), some (aI f), none]) rfl ?_
  refine aw_b kX6_ok bX6_empties_0_ok (Cs := []) (pc' := 1) (L' := [some (aR 0 0), some (aI f), none]) (st' := [aI f]) (σ' := σ) rfl trivial ?_
  refine aw_bS lX6_109 (as := [aI f]) (rest := []) (by decide) rfl (Nat.le_of_ble_eq_true rfl) rfl dX6_empties_1 (cC_isOffice l f σ ⟨by omega, by omega⟩) (fun wh1 => ?_) (fun wh1 => ?_)
  · refine aw_ine dX6_empties_4 (tgt := 9) (by decide) ⟨by omega, by omega⟩ (fun wh2 => ?_) (fun wh2 => absurd wh2 (by decide))
    have bc := hw.co (f := f) (by omega) (by omega)
    have bh := hw.ho (f := f) (by omega) (by omega)
    have ro := hR.of (f := f) (by omega) (by omega)
    have nh := nb_cases (r (8 + f))
    refine aw_b kX6_ok bX6_empties_9_ok (Cs := [0 < 1, 0 < 3, 0 < 3, 0 ≤ f ∧ f < 5]) (pc' := 21) (L' := [some (aR 0 0), some (aI f), some (aI (σ 8 0 f))]) (st' := [aI (-1), aI (σ 8 0 f)]) (σ' := σ) rfl (show (0 < 1) ∧ (0 < 3) ∧ (0 < 3) ∧ (0 ≤ f ∧ f < 5) from ⟨by omega, by omega, by omega, by omega⟩) ?_
    refine aw_cne dX6_empties_21 (tgt := 27) (by decide) ⟨by omega, by omega⟩ ⟨by omega, by omega⟩ (fun wh3 => ?_) (fun wh3 => ?_)
    · refine aw_b kX6_ok bX6_empties_27_ok (Cs := [0 < 1]) (pc' := 32) (L' := [some (aR 0 0), some (aI f), some (aI (σ 8 0 f))]) (st' := [aI f, aR 1 0]) (σ' := σ) rfl (show 0 < 1 from by omega) ?_
      refine aw_callV lX6_155 (as := [aI f]) (rest := []) (t := 1) (c := 0) (by decide) (by decide) (by decide) rfl rfl (Nat.le_of_ble_eq_true rfl) rfl dX6_empties_32 (cC_vacate l f 0 (by decide) σ r hR hw ⟨by omega, by omega⟩) ?_
      rintro _ τ2 ⟨rfl, hT2, hF2, h32⟩
      refine aw_b kX6_ok bX6_empties_35_ok (Cs := []) (pc' := 36) (L' := [some (aR 0 0), some (aI f), some (aI (σ 8 0 f))]) (st' := [aI (σ 8 0 f)]) (σ' := τ2) rfl trivial ?_
      exact aw_iret dX6_empties_36 rfl ⟨aret (by unfold A_empties; rw [if_pos (by omega), if_neg (by omega)]; omega), by unfold R_empties; rw [if_pos (by omega)]; exact hT2, hF2⟩
    · refine aw_b kX6_ok bX6_empties_24_ok (Cs := []) (pc' := 26) (L' := [some (aR 0 0), some (aI f), some (aI (σ 8 0 f))]) (st' := [aI (-3)]) (σ' := σ) rfl trivial ?_
      exact aw_iret dX6_empties_26 rfl ⟨aret (by unfold A_empties; (first | rw [if_neg (by omega)] | rw [if_pos (by omega), if_neg (by omega)] | rw [if_pos (by omega), if_pos (by omega)])), by unfold R_empties; rw [if_neg (by omega)]; exact hR, aFr_rf⟩
  · refine aw_ine dX6_empties_4 (tgt := 9) (by decide) ⟨by omega, by omega⟩ (fun wh4 => absurd wh4 (by decide)) (fun wh4 => ?_)
    refine aw_b kX6_ok bX6_empties_7_ok (Cs := []) (pc' := 8) (L' := [some (aR 0 0), some (aI f), none]) (st' := [aI (-1)]) (σ' := σ) rfl trivial ?_
    exact aw_iret dX6_empties_8 rfl ⟨aret (by unfold A_empties; (first | rw [if_neg (by omega)] | rw [if_pos (by omega), if_neg (by omega)] | rw [if_pos (by omega), if_pos (by omega)])), by unfold R_empties; rw [if_neg (by omega)]; exact hR, aFr_rf⟩
set_option maxRecDepth 10000 in
theorem cC_wears (l : Launch) (f k : Int) (σ : aS) (r : aRw) (hR : Rep σ 0 r) (hw : WF r) (hd : r 1 ≤ 999) (hf : aIr f) (hk : aIr k) : AM l 1 mX6_wears [aR 0 0, aI f, aI k] σ (PM (A_wears r f k) (R_wears r f k) σ) := by
  have bn := hw.1
  have en := hR.n
  have b1 := hw.2.1
  have e1 := hR.1.2.1
  have b2 := hw.2.2.1
  have e2 := hR.1.2.2
  refine am_of (by decide) (Nat.le_of_ble_eq_true rfl) (L := [some (aR 0 0), some (aI f), some (aI k), none]) rfl ?_
  refine aw_b kX6_ok bX6_wears_0_ok (Cs := []) (pc' := 1) (L' := [some (aR 0 0), some (aI f), some (aI k), none]) (st' := [aI f]) (σ' := σ) rfl trivial ?_
  refine aw_bS lX6_109 (as := [aI f]) (rest := []) (by decide) rfl (Nat.le_of_ble_eq_true rfl) rfl dX6_wears_1 (cC_isOffice l f σ ⟨by omega, by omega⟩) (fun wh1 => ?_) (fun wh1 => ?_)
  · refine aw_ieq dX6_wears_4 (tgt := 14) (by decide) ⟨by omega, by omega⟩ (fun wh2 => absurd wh2 (by decide)) (fun wh2 => ?_)
    refine aw_b kX6_ok bX6_wears_7_ok (Cs := []) (pc' := 8) (L' := [some (aR 0 0), some (aI f), some (aI k), none]) (st' := [aI k]) (σ' := σ) rfl trivial ?_
    refine aw_bS lX6_121 (as := [aI k]) (rest := []) (by decide) rfl (Nat.le_of_ble_eq_true rfl) rfl dX6_wears_8 (cC_isCostume l k σ ⟨by omega, by omega⟩) (fun wh3 => ?_) (fun wh3 => ?_)
    · refine aw_ine dX6_wears_11 (tgt := 16) (by decide) ⟨by omega, by omega⟩ (fun wh4 => ?_) (fun wh4 => absurd wh4 (by decide))
      have bc := hw.co (f := f) (by omega) (by omega)
      have bh := hw.ho (f := f) (by omega) (by omega)
      have ro := hR.of (f := f) (by omega) (by omega)
      have nh := nb_cases (r (8 + f))
      refine aw_b kX6_ok bX6_wears_16_ok (Cs := [0 < 1, 0 < 3, 0 < 3, 0 ≤ f ∧ f < 5, 0 < 1, 0 < 3, 0 < 3, 0 ≤ f ∧ f < 5]) (pc' := 37) (L' := [some (aR 0 0), some (aI f), some (aI k), some (aI (σ 7 0 f))]) (st' := [aI (σ 7 0 f)]) (σ' := aUp σ 7 0 f k) rfl (show (0 < 1) ∧ (0 < 3) ∧ (0 < 3) ∧ (0 ≤ f ∧ f < 5) ∧ (0 < 1) ∧ (0 < 3) ∧ (0 < 3) ∧ (0 ≤ f ∧ f < 5) from ⟨by omega, by omega, by omega, by omega, by omega, by omega, by omega, by omega⟩) ?_
      exact aw_iret dX6_wears_37 rfl ⟨aret (by unfold A_wears; rw [if_pos (by omega)]; exact ro.1), by unfold R_wears; rw [if_pos (by omega)]; exact Rep_cost hR hw (by omega) (by omega) k, aFr_up (cb (by decide))⟩
    · refine aw_ine dX6_wears_11 (tgt := 16) (by decide) ⟨by omega, by omega⟩ (fun wh5 => absurd wh5 (by decide)) (fun wh5 => ?_)
      refine aw_b kX6_ok bX6_wears_14_ok (Cs := []) (pc' := 15) (L' := [some (aR 0 0), some (aI f), some (aI k), none]) (st' := [aI (-1)]) (σ' := σ) rfl trivial ?_
      exact aw_iret dX6_wears_15 rfl ⟨aret (by unfold A_wears; (first | rw [if_neg (by omega)] | rw [if_pos (by omega), if_neg (by omega)] | rw [if_pos (by omega), if_pos (by omega)])), by unfold R_wears; rw [if_neg (by omega)]; exact hR, aFr_rf⟩
  · refine aw_ieq dX6_wears_4 (tgt := 14) (by decide) ⟨by omega, by omega⟩ (fun wh6 => ?_) (fun wh6 => absurd wh6 (by decide))
    refine aw_b kX6_ok bX6_wears_14_ok (Cs := []) (pc' := 15) (L' := [some (aR 0 0), some (aI f), some (aI k), none]) (st' := [aI (-1)]) (σ' := σ) rfl trivial ?_
    exact aw_iret dX6_wears_15 rfl ⟨aret (by unfold A_wears; (first | rw [if_neg (by omega)] | rw [if_pos (by omega), if_neg (by omega)] | rw [if_pos (by omega), if_pos (by omega)])), by unfold R_wears; rw [if_neg (by omega)]; exact hR, aFr_rf⟩
set_option maxRecDepth 10000 in
theorem cC_knows (l : Launch) (p k : Int) (σ : aS) (r : aRw) (hR : Rep σ 0 r) (hw : WF r) (hd : r 1 ≤ 999) (hp : aIr p) (hk : aIr k) : AM l 1 mX6_knows [aR 0 0, aI p, aI k] σ (PM (A_knows r p k) (R_knows r p k) σ) := by
  have bn := hw.1
  have en := hR.n
  have b1 := hw.2.1
  have e1 := hR.1.2.1
  have b2 := hw.2.2.1
  have e2 := hR.1.2.2
  refine am_of (by decide) (Nat.le_of_ble_eq_true rfl) (L := [some (aR 0 0), some (aI p), some (aI k), none]) rfl ?_
  refine aw_b kX6_ok bX6_knows_0_ok (Cs := [0 < 1]) (pc' := 5) (L' := [some (aR 0 0), some (aI p), some (aI k), none]) (st' := [aI p, aR 1 0]) (σ' := σ) rfl (show 0 < 1 from by omega) ?_
  refine aw_bV lX6_76 (as := [aI p]) (rest := []) (t := 1) (c := 0) (by decide) (by decide) (by decide) rfl rfl (Nat.le_of_ble_eq_true rfl) rfl dX6_knows_5 (cC_isThere l p 0 (by omega) σ r hR hw ⟨by omega, by omega⟩) (fun wh1 => ?_) (fun wh1 => ?_)
  · refine aw_ieq dX6_knows_8 (tgt := 21) (by decide) ⟨by omega, by omega⟩ (fun wh2 => absurd wh2 (by decide)) (fun wh2 => ?_)
    refine aw_b kX6_ok bX6_knows_11_ok (Cs := []) (pc' := 12) (L' := [some (aR 0 0), some (aI p), some (aI k), none]) (st' := [aI k]) (σ' := σ) rfl trivial ?_
    refine aw_ilt dX6_knows_12 (tgt := 21) (by decide) ⟨by omega, by omega⟩ (fun wh3 => ?_) (fun wh3 => ?_)
    · refine aw_b kX6_ok bX6_knows_21_ok (Cs := []) (pc' := 22) (L' := [some (aR 0 0), some (aI p), some (aI k), none]) (st' := [aI (-1)]) (σ' := σ) rfl trivial ?_
      exact aw_iret dX6_knows_22 rfl ⟨aret (by unfold A_knows; (first | rw [if_neg (by omega)] | rw [if_pos (by omega), if_neg (by omega)] | rw [if_pos (by omega), if_pos (by omega)])), by unfold R_knows; rw [if_neg (by omega)]; exact hR, aFr_rf⟩
    · refine aw_b kX6_ok bX6_knows_15_ok (Cs := []) (pc' := 18) (L' := [some (aR 0 0), some (aI p), some (aI k), none]) (st' := [aI 99, aI k]) (σ' := σ) rfl trivial ?_
      refine aw_cle dX6_knows_18 (tgt := 23) (by decide) ⟨by omega, by omega⟩ ⟨by omega, by omega⟩ (fun wh4 => ?_) (fun wh4 => ?_)
      · have bp := hw.pe (p := p) (by omega) (by omega)
        have rp := hR.pe (p := p) (by omega) (by omega)
        have bo := off_rng r p
        have no := nb_cases (off r p)
        refine aw_b kX6_ok bX6_knows_23_ok (Cs := [0 < 1, 0 < 3, 0 < 3, 0 ≤ p ∧ p < 8, 0 < 1, 0 < 3, 0 < 3, 0 ≤ p ∧ p < 8]) (pc' := 44) (L' := [some (aR 0 0), some (aI p), some (aI k), some (aI (σ 4 0 p))]) (st' := [aI (σ 4 0 p)]) (σ' := aUp σ 4 0 p k) rfl (show (0 < 1) ∧ (0 < 3) ∧ (0 < 3) ∧ (0 ≤ p ∧ p < 8) ∧ (0 < 1) ∧ (0 < 3) ∧ (0 < 3) ∧ (0 ≤ p ∧ p < 8) from ⟨by omega, by omega, by omega, by omega, by omega, by omega, by omega, by omega⟩) ?_
        exact aw_iret dX6_knows_44 rfl ⟨aret (by unfold A_knows; rw [if_pos (by omega)]; exact rp.2.2.1), by unfold R_knows; rw [if_pos (by omega)]; exact Rep_known hR hw (by omega) (by omega) k, aFr_up (cb (by decide))⟩
      · refine aw_b kX6_ok bX6_knows_21_ok (Cs := []) (pc' := 22) (L' := [some (aR 0 0), some (aI p), some (aI k), none]) (st' := [aI (-1)]) (σ' := σ) rfl trivial ?_
        exact aw_iret dX6_knows_22 rfl ⟨aret (by unfold A_knows; (first | rw [if_neg (by omega)] | rw [if_pos (by omega), if_neg (by omega)] | rw [if_pos (by omega), if_pos (by omega)])), by unfold R_knows; rw [if_neg (by omega)]; exact hR, aFr_rf⟩
  · refine aw_ieq dX6_knows_8 (tgt := 21) (by decide) ⟨by omega, by omega⟩ (fun wh5 => ?_) (fun wh5 => absurd wh5 (by decide))
    refine aw_b kX6_ok bX6_knows_21_ok (Cs := []) (pc' := 22) (L' := [some (aR 0 0), some (aI p), some (aI k), none]) (st' := [aI (-1)]) (σ' := σ) rfl trivial ?_
    exact aw_iret dX6_knows_22 rfl ⟨aret (by unfold A_knows; (first | rw [if_neg (by omega)] | rw [if_pos (by omega), if_neg (by omega)] | rw [if_pos (by omega), if_pos (by omega)])), by unfold R_knows; rw [if_neg (by omega)]; exact hR, aFr_rf⟩
set_option maxRecDepth 10000 in
theorem cC_marries (l : Launch) (p k : Int) (σ : aS) (r : aRw) (hR : Rep σ 0 r) (hw : WF r) (hd : r 1 ≤ 999) (hp : aIr p) (hk : aIr k) : AM l 1 mX6_marries [aR 0 0, aI p, aI k] σ (PM (A_marries r p k) (R_marries r p k) σ) := by
  have bn := hw.1
  have en := hR.n
  have b1 := hw.2.1
  have e1 := hR.1.2.1
  have b2 := hw.2.2.1
  have e2 := hR.1.2.2
  refine am_of (by decide) (Nat.le_of_ble_eq_true rfl) (L := [some (aR 0 0), some (aI p), some (aI k), none]) rfl ?_
  refine aw_b kX6_ok bX6_marries_0_ok (Cs := [0 < 1]) (pc' := 5) (L' := [some (aR 0 0), some (aI p), some (aI k), none]) (st' := [aI p, aR 1 0]) (σ' := σ) rfl (show 0 < 1 from by omega) ?_
  refine aw_bV lX6_76 (as := [aI p]) (rest := []) (t := 1) (c := 0) (by decide) (by decide) (by decide) rfl rfl (Nat.le_of_ble_eq_true rfl) rfl dX6_marries_5 (cC_isThere l p 0 (by omega) σ r hR hw ⟨by omega, by omega⟩) (fun wh1 => ?_) (fun wh1 => ?_)
  · refine aw_ieq dX6_marries_8 (tgt := 18) (by decide) ⟨by omega, by omega⟩ (fun wh2 => absurd wh2 (by decide)) (fun wh2 => ?_)
    refine aw_b kX6_ok bX6_marries_11_ok (Cs := []) (pc' := 12) (L' := [some (aR 0 0), some (aI p), some (aI k), none]) (st' := [aI k]) (σ' := σ) rfl trivial ?_
    refine aw_bS lX6_135 (as := [aI k]) (rest := []) (by decide) rfl (Nat.le_of_ble_eq_true rfl) rfl dX6_marries_12 (cC_isMate l k σ ⟨by omega, by omega⟩) (fun wh3 => ?_) (fun wh3 => ?_)
    · refine aw_ine dX6_marries_15 (tgt := 20) (by decide) ⟨by omega, by omega⟩ (fun wh4 => ?_) (fun wh4 => absurd wh4 (by decide))
      have bp := hw.pe (p := p) (by omega) (by omega)
      have rp := hR.pe (p := p) (by omega) (by omega)
      have bo := off_rng r p
      have no := nb_cases (off r p)
      refine aw_b kX6_ok bX6_marries_20_ok (Cs := [0 < 1, 0 < 3, 0 < 3, 0 ≤ p ∧ p < 8, 0 < 1, 0 < 3, 0 < 3, 0 ≤ p ∧ p < 8]) (pc' := 41) (L' := [some (aR 0 0), some (aI p), some (aI k), some (aI (σ 5 0 p))]) (st' := [aI (σ 5 0 p)]) (σ' := aUp σ 5 0 p k) rfl (show (0 < 1) ∧ (0 < 3) ∧ (0 < 3) ∧ (0 ≤ p ∧ p < 8) ∧ (0 < 1) ∧ (0 < 3) ∧ (0 < 3) ∧ (0 ≤ p ∧ p < 8) from ⟨by omega, by omega, by omega, by omega, by omega, by omega, by omega, by omega⟩) ?_
      exact aw_iret dX6_marries_41 rfl ⟨aret (by unfold A_marries; rw [if_pos (by omega)]; exact rp.2.2.2.1), by unfold R_marries; rw [if_pos (by omega)]; exact Rep_mate hR hw (by omega) (by omega) k, aFr_up (cb (by decide))⟩
    · refine aw_ine dX6_marries_15 (tgt := 20) (by decide) ⟨by omega, by omega⟩ (fun wh5 => absurd wh5 (by decide)) (fun wh5 => ?_)
      refine aw_b kX6_ok bX6_marries_18_ok (Cs := []) (pc' := 19) (L' := [some (aR 0 0), some (aI p), some (aI k), none]) (st' := [aI (-1)]) (σ' := σ) rfl trivial ?_
      exact aw_iret dX6_marries_19 rfl ⟨aret (by unfold A_marries; (first | rw [if_neg (by omega)] | rw [if_pos (by omega), if_neg (by omega)] | rw [if_pos (by omega), if_pos (by omega)])), by unfold R_marries; rw [if_neg (by omega)]; exact hR, aFr_rf⟩
  · refine aw_ieq dX6_marries_8 (tgt := 18) (by decide) ⟨by omega, by omega⟩ (fun wh6 => ?_) (fun wh6 => absurd wh6 (by decide))
    refine aw_b kX6_ok bX6_marries_18_ok (Cs := []) (pc' := 19) (L' := [some (aR 0 0), some (aI p), some (aI k), none]) (st' := [aI (-1)]) (σ' := σ) rfl trivial ?_
    exact aw_iret dX6_marries_19 rfl ⟨aret (by unfold A_marries; (first | rw [if_neg (by omega)] | rw [if_pos (by omega), if_neg (by omega)] | rw [if_pos (by omega), if_pos (by omega)])), by unfold R_marries; rw [if_neg (by omega)]; exact hR, aFr_rf⟩
def Cp : Nat → Nat → Prop := fun t c => (1 ≤ t ∧ t ≤ 8 ∧ c = 2) ∨ t = 0
set_option maxRecDepth 10000 in
theorem cC_image (l : Launch) (σ : aS) (r : aRw) (hR : Rep σ 0 r) (hw : WF r) (hd : r 1 ≤ 999) : AM l 1 mX6_image [aR 0 0] σ ((fun v σ' => v = some (aI (r 1)) ∧ Rep σ' 2 r ∧ σ' 0 0 3 = 1 ∧ aFr Cp σ σ')) := by
  have bn := hw.1
  have en := hR.n
  have b1 := hw.2.1
  have e1 := hR.1.2.1
  have b2 := hw.2.2.1
  have e2 := hR.1.2.2
  refine am_of (by decide) (Nat.le_of_ble_eq_true rfl) (L := [some (aR 0 0)]) rfl ?_
  refine aw_b kX6_ok bX6_image_0_ok (Cs := [0 < 1, 0 < 1]) (pc' := 8) (L' := [some (aR 0 0)]) (st' := [aR 1 0, aR 1 2]) (σ' := σ) rfl (show (0 < 1) ∧ (0 < 1) from ⟨by omega, by omega⟩) ?_
  refine aw_callV lX6_68 (as := [aR 1 0]) (rest := []) (t := 1) (c := 2) (by decide) (by decide) (by decide) rfl rfl (Nat.le_of_ble_eq_true rfl) rfl dX6_image_8 (cC_becomes l 0 2 (by decide) (by decide) (by decide) σ r hR hw) ?_
  rintro _ τ1 ⟨rfl, hT1, hF1⟩
  refine aw_b kX6_ok bX6_image_11_ok (Cs := [0 < 1, 1 = 0 ∨ 1 = 1, 0 < 1, 0 < 3]) (pc' := 23) (L' := [some (aR 0 0)]) (st' := [aI ((aUp τ1 0 0 3 1) 1 0 1)]) (σ' := aUp τ1 0 0 3 1) rfl (show (0 < 1) ∧ (1 = 0 ∨ 1 = 1) ∧ (0 < 1) ∧ (0 < 3) from ⟨by omega, by omega, by omega, by omega⟩) ?_
  exact aw_iret dX6_image_23 rfl ⟨aret (by rw [aUp_tag (by decide)]; exact (hF1 1 0 1 (fun q => absurd q.2.2 (by decide))).trans e1), (hT1.fr (fun t i h1 h2 _ => aUp_tag (by omega))), aUp_same, aFr_tr (aFr_mono hF1 (fun t c q => Or.inl q)) (aFr_up (Or.inr rfl))⟩
set_option maxRecDepth 10000 in
theorem cC_restore (l : Launch) (σ : aS) (r ri : aRw) (hR : Rep σ 0 r) (hw : WF r) (hp : σ 0 0 3 = 0 ∨ σ 0 0 3 = 1) (hI : σ 0 0 3 = 1 → Rep σ 2 ri ∧ WF ri) : AM l 1 mX6_restore [aR 0 0] σ (PM (if σ 0 0 3 = 0 then -3 else ri 1) (if σ 0 0 3 = 0 then r else ri) σ) := by
  refine am_of (by decide) (Nat.le_of_ble_eq_true rfl) (L := [some (aR 0 0)]) rfl ?_
  refine aw_b kX6_ok bX6_restore_0_ok (Cs := [0 < 1]) (pc' := 4) (L' := [some (aR 0 0)]) (st' := [aI (σ 0 0 3)]) (σ' := σ) rfl (show 0 < 1 from by omega) ?_
  refine aw_ine dX6_restore_4 (tgt := 10) (by decide) ⟨by omega, by omega⟩ (fun wh1 => ?_) (fun wh1 => ?_)
  · obtain ⟨hI1, hI2⟩ := hI (by omega)
    refine aw_b kX6_ok bX6_restore_10_ok (Cs := [0 < 1, 0 < 1]) (pc' := 18) (L' := [some (aR 0 0)]) (st' := [aR 1 2, aR 1 0]) (σ' := σ) rfl (show (0 < 1) ∧ (0 < 1) from ⟨by omega, by omega⟩) ?_
    refine aw_callV lX6_68 (as := [aR 1 2]) (rest := []) (t := 1) (c := 0) (by decide) (by decide) (by decide) rfl rfl (Nat.le_of_ble_eq_true rfl) rfl dX6_restore_18 (cC_becomes l 2 0 (by decide) (by decide) (by decide) σ ri hI1 hI2) ?_
    rintro _ τ1 ⟨rfl, hT1, hF1⟩
    refine aw_b kX6_ok bX6_restore_21_ok (Cs := [0 < 1, 0 < 3]) (pc' := 28) (L' := [some (aR 0 0)]) (st' := [aI (τ1 1 0 1)]) (σ' := τ1) rfl (show (0 < 1) ∧ (0 < 3) from ⟨by omega, by omega⟩) ?_
    exact aw_iret dX6_restore_28 rfl ⟨aret (by rw [if_neg (by omega)]; exact hT1.1.2.1), by rw [if_neg (by omega)]; exact hT1, hF1⟩
  · refine aw_b kX6_ok bX6_restore_7_ok (Cs := []) (pc' := 9) (L' := [some (aR 0 0)]) (st' := [aI (-3)]) (σ' := σ) rfl trivial ?_
    exact aw_iret dX6_restore_9 rfl ⟨aret (by rw [if_pos (by omega)]), by rw [if_pos (by omega)]; exact hR, aFr_rf⟩
def SH (σ : aS) : Prop := (∀ d : Int, 0 ≤ d → d < 8 → (σ 10 0 d = 0 ∨ σ 10 0 d = 1 ∨ σ 10 0 d = 2) ∧ (0 ≤ σ 11 0 d ∧ σ 11 0 d ≤ 7) ∧ (0 ≤ σ 12 0 d ∧ σ 12 0 d ≤ 9) ∧ (0 ≤ σ 13 0 d ∧ σ 13 0 d ≤ 2) ∧ (0 ≤ σ 14 0 d ∧ σ 14 0 d ≤ 100)) ∧ ∀ i : Int, 0 ≤ i → i < 800 → aIr (σ 15 0 i)
def lkF (k d w : Int) : Int := if 0 ≤ d ∧ d < 8 then (if k = 0 then -11 else if k = w then 0 else -12) else -1
theorem lkF_rng (k d w : Int) : -12 ≤ lkF k d w ∧ lkF k d w ≤ 0 := by
  unfold lkF
  (repeat' split) <;> omega
set_option maxRecDepth 10000 in
theorem cS_lackOf (l : Launch) (d w : Int) (σ : aS) (hs : SH σ) (hd : aIr d) (hv : aIr w) : AM l 1 mX4_lackOf [aR 9 0, aI d, aI w] σ (aF (some (aI (lkF (σ 10 0 d) d w))) σ) := by
  refine am_of (by decide) (Nat.le_of_ble_eq_true rfl) (L := [some (aR 9 0), some (aI d), some (aI w)]) rfl ?_
  refine aw_b kX4_ok bX4_lackOf_0_ok (Cs := []) (pc' := 1) (L' := [some (aR 9 0), some (aI d), some (aI w)]) (st' := [aI d]) (σ' := σ) rfl trivial ?_
  refine aw_bN lX4_30 (as := [aI d]) (rest := []) (by decide) rfl (Nat.le_of_ble_eq_true rfl) rfl dX4_lackOf_1 (cC_isShelf l d σ ⟨by omega, by omega⟩) (fun wh1 => ?_) (fun wh1 => ?_)
  · have bs := hs.1 d (by omega) (by omega)
    refine aw_ine dX4_lackOf_4 (tgt := 9) (by decide) ⟨by omega, by omega⟩ (fun wh2 => ?_) (fun wh2 => absurd wh2 (by decide))
    refine aw_b kX4_ok bX4_lackOf_9_ok (Cs := [0 < 1, 0 < 1, 0 ≤ d ∧ d < 8]) (pc' := 15) (L' := [some (aR 9 0), some (aI d), some (aI w)]) (st' := [aI (σ 10 0 d)]) (σ' := σ) rfl (show (0 < 1) ∧ (0 < 1) ∧ (0 ≤ d ∧ d < 8) from ⟨by omega, by omega, by omega⟩) ?_
    refine aw_ine dX4_lackOf_15 (tgt := 21) (by decide) ⟨by omega, by omega⟩ (fun wh3 => ?_) (fun wh3 => ?_)
    · refine aw_b kX4_ok bX4_lackOf_21_ok (Cs := [0 < 1, 0 < 1, 0 ≤ d ∧ d < 8]) (pc' := 28) (L' := [some (aR 9 0), some (aI d), some (aI w)]) (st' := [aI w, aI (σ 10 0 d)]) (σ' := σ) rfl (show (0 < 1) ∧ (0 < 1) ∧ (0 ≤ d ∧ d < 8) from ⟨by omega, by omega, by omega⟩) ?_
      refine aw_cne dX4_lackOf_28 (tgt := 35) (by decide) ⟨by omega, by omega⟩ ⟨by omega, by omega⟩ (fun wh4 => ?_) (fun wh4 => ?_)
      · refine aw_b kX4_ok bX4_lackOf_35_ok (Cs := []) (pc' := 37) (L' := [some (aR 9 0), some (aI d), some (aI w)]) (st' := [aI (-12)]) (σ' := σ) rfl trivial ?_
        exact aw_iret dX4_lackOf_37 rfl ⟨aret (by unfold lkF; (repeat' split) <;> omega), rfl⟩
      · refine aw_b kX4_ok bX4_lackOf_31_ok (Cs := []) (pc' := 37) (L' := [some (aR 9 0), some (aI d), some (aI w)]) (st' := [aI 0]) (σ' := σ) rfl trivial ?_
        exact aw_iret dX4_lackOf_37 rfl ⟨aret (by unfold lkF; (repeat' split) <;> omega), rfl⟩
    · refine aw_b kX4_ok bX4_lackOf_18_ok (Cs := []) (pc' := 20) (L' := [some (aR 9 0), some (aI d), some (aI w)]) (st' := [aI (-11)]) (σ' := σ) rfl trivial ?_
      exact aw_iret dX4_lackOf_20 rfl ⟨aret (by unfold lkF; (repeat' split) <;> omega), rfl⟩
  · refine aw_ine dX4_lackOf_4 (tgt := 9) (by decide) ⟨by omega, by omega⟩ (fun wh5 => absurd wh5 (by decide)) (fun wh5 => ?_)
    refine aw_b kX4_ok bX4_lackOf_7_ok (Cs := []) (pc' := 8) (L' := [some (aR 9 0), some (aI d), some (aI w)]) (st' := [aI (-1)]) (σ' := σ) rfl trivial ?_
    exact aw_iret dX4_lackOf_8 rfl ⟨aret (by unfold lkF; (repeat' split) <;> omega), rfl⟩
set_option maxRecDepth 10000 in
theorem cS_lackOfRow (l : Launch) (d : Int) (σ : aS) (hs : SH σ) (hd : aIr d) : AM l 2 mX4_lackOfRow [aR 9 0, aI d] σ (aF (some (aI (lkF (σ 10 0 d) d 2))) σ) := by
  refine am_of (by decide) (Nat.le_of_ble_eq_true rfl) (L := [some (aR 9 0), some (aI d)]) rfl ?_
  refine aw_b kX4_ok bX4_lackOfRow_0_ok (Cs := []) (pc' := 3) (L' := [some (aR 9 0), some (aI d)]) (st' := [aI 2, aI d, aR 9 0]) (σ' := σ) rfl trivial ?_
  refine aw_fV lX4_34 (as := [aI d, aI 2]) (rest := []) (t := 9) (c := 0) (by decide) (by decide) (by decide) rfl rfl (Nat.le_of_ble_eq_true rfl) rfl dX4_lackOfRow_3 (cS_lackOf l d 2 σ hs ⟨by omega, by omega⟩ ⟨by omega, by omega⟩) ?_
  exact aw_iret dX4_lackOfRow_6 rfl ⟨rfl, rfl⟩
set_option maxRecDepth 10000 in
theorem cS_lackOfOne (l : Launch) (d : Int) (σ : aS) (hs : SH σ) (hd : aIr d) : AM l 2 mX4_lackOfOne [aR 9 0, aI d] σ (aF (some (aI (lkF (σ 10 0 d) d 1))) σ) := by
  refine am_of (by decide) (Nat.le_of_ble_eq_true rfl) (L := [some (aR 9 0), some (aI d)]) rfl ?_
  refine aw_b kX4_ok bX4_lackOfOne_0_ok (Cs := []) (pc' := 3) (L' := [some (aR 9 0), some (aI d)]) (st' := [aI 1, aI d, aR 9 0]) (σ' := σ) rfl trivial ?_
  refine aw_fV lX4_34 (as := [aI d, aI 1]) (rest := []) (t := 9) (c := 0) (by decide) (by decide) (by decide) rfl rfl (Nat.le_of_ble_eq_true rfl) rfl dX4_lackOfOne_3 (cS_lackOf l d 1 σ hs ⟨by omega, by omega⟩ ⟨by omega, by omega⟩) ?_
  exact aw_iret dX4_lackOfOne_6 rfl ⟨rfl, rfl⟩
set_option maxRecDepth 10000 in
theorem cS_kindOn (l : Launch) (d : Int) (σ : aS) (hs : SH σ) (h0 : 0 ≤ d) (h1 : d < 8) : AM l 1 mX4_kindOn [aR 9 0, aI d] σ (aF (some (aI (σ 11 0 d))) σ) := by
  have bs := hs.1 d h0 h1
  refine am_of (by decide) (Nat.le_of_ble_eq_true rfl) (L := [some (aR 9 0), some (aI d)]) rfl ?_
  refine aw_b kX4_ok bX4_kindOn_0_ok (Cs := []) (pc' := 1) (L' := [some (aR 9 0), some (aI d)]) (st' := [aI d]) (σ' := σ) rfl trivial ?_
  refine aw_bN lX4_30 (as := [aI d]) (rest := []) (by decide) rfl (Nat.le_of_ble_eq_true rfl) rfl dX4_kindOn_1 (cC_isShelf l d σ ⟨by omega, by omega⟩) (fun wh1 => ?_) (fun wh1 => ?_)
  · refine aw_ieq dX4_kindOn_4 (tgt := 16) (by decide) ⟨by omega, by omega⟩ (fun wh2 => absurd wh2 (by decide)) (fun wh2 => ?_)
    refine aw_b kX4_ok bX4_kindOn_7_ok (Cs := [0 < 1, 0 < 1, 0 ≤ d ∧ d < 8]) (pc' := 17) (L' := [some (aR 9 0), some (aI d)]) (st' := [aI (σ 11 0 d)]) (σ' := σ) rfl (show (0 < 1) ∧ (0 < 1) ∧ (0 ≤ d ∧ d < 8) from ⟨by omega, by omega, by omega⟩) ?_
    exact aw_iret dX4_kindOn_17 rfl ⟨rfl, rfl⟩
  · exfalso; omega
set_option maxRecDepth 10000 in
theorem cS_figureOn (l : Launch) (d : Int) (σ : aS) (hs : SH σ) (h0 : 0 ≤ d) (h1 : d < 8) : AM l 1 mX4_figureOn [aR 9 0, aI d] σ (aF (some (aI (σ 12 0 d))) σ) := by
  have bs := hs.1 d h0 h1
  refine am_of (by decide) (Nat.le_of_ble_eq_true rfl) (L := [some (aR 9 0), some (aI d)]) rfl ?_
  refine aw_b kX4_ok bX4_figureOn_0_ok (Cs := []) (pc' := 1) (L' := [some (aR 9 0), some (aI d)]) (st' := [aI d]) (σ' := σ) rfl trivial ?_
  refine aw_bN lX4_30 (as := [aI d]) (rest := []) (by decide) rfl (Nat.le_of_ble_eq_true rfl) rfl dX4_figureOn_1 (cC_isShelf l d σ ⟨by omega, by omega⟩) (fun wh1 => ?_) (fun wh1 => ?_)
  · refine aw_ieq dX4_figureOn_4 (tgt := 16) (by decide) ⟨by omega, by omega⟩ (fun wh2 => absurd wh2 (by decide)) (fun wh2 => ?_)
    refine aw_b kX4_ok bX4_figureOn_7_ok (Cs := [0 < 1, 0 < 1, 0 ≤ d ∧ d < 8]) (pc' := 17) (L' := [some (aR 9 0), some (aI d)]) (st' := [aI (σ 12 0 d)]) (σ' := σ) rfl (show (0 < 1) ∧ (0 < 1) ∧ (0 ≤ d ∧ d < 8) from ⟨by omega, by omega, by omega⟩) ?_
    exact aw_iret dX4_figureOn_17 rfl ⟨rfl, rfl⟩
  · exfalso; omega
set_option maxRecDepth 10000 in
theorem cS_lengthOf (l : Launch) (d : Int) (σ : aS) (hs : SH σ) (h0 : 0 ≤ d) (h1 : d < 8) : AM l 1 mX4_lengthOf [aR 9 0, aI d] σ (aF (some (aI (σ 14 0 d))) σ) := by
  have bs := hs.1 d h0 h1
  refine am_of (by decide) (Nat.le_of_ble_eq_true rfl) (L := [some (aR 9 0), some (aI d)]) rfl ?_
  refine aw_b kX4_ok bX4_lengthOf_0_ok (Cs := []) (pc' := 1) (L' := [some (aR 9 0), some (aI d)]) (st' := [aI d]) (σ' := σ) rfl trivial ?_
  refine aw_bN lX4_30 (as := [aI d]) (rest := []) (by decide) rfl (Nat.le_of_ble_eq_true rfl) rfl dX4_lengthOf_1 (cC_isShelf l d σ ⟨by omega, by omega⟩) (fun wh1 => ?_) (fun wh1 => ?_)
  · refine aw_ieq dX4_lengthOf_4 (tgt := 16) (by decide) ⟨by omega, by omega⟩ (fun wh2 => absurd wh2 (by decide)) (fun wh2 => ?_)
    refine aw_b kX4_ok bX4_lengthOf_7_ok (Cs := [0 < 1, 0 < 1, 0 ≤ d ∧ d < 8]) (pc' := 17) (L' := [some (aR 9 0), some (aI d)]) (st' := [aI (σ 14 0 d)]) (σ' := σ) rfl (show (0 < 1) ∧ (0 < 1) ∧ (0 ≤ d ∧ d < 8) from ⟨by omega, by omega, by omega⟩) ?_
    exact aw_iret dX4_lengthOf_17 rfl ⟨rfl, rfl⟩
  · exfalso; omega
set_option maxRecDepth 10000 in
theorem cS_holdsBytes (l : Launch) (d : Int) (σ : aS) (hs : SH σ) (h0 : 0 ≤ d) (h1 : d < 8) : AM l 1 mX4_holdsBytes [aR 9 0, aI d] σ (aF (some (aI (if σ 13 0 d = 0 then 1 else 0))) σ) := by
  have bs := hs.1 d h0 h1
  refine am_of (by decide) (Nat.le_of_ble_eq_true rfl) (L := [some (aR 9 0), some (aI d)]) rfl ?_
  refine aw_b kX4_ok bX4_holdsBytes_0_ok (Cs := []) (pc' := 1) (L' := [some (aR 9 0), some (aI d)]) (st' := [aI d]) (σ' := σ) rfl trivial ?_
  refine aw_bN lX4_30 (as := [aI d]) (rest := []) (by decide) rfl (Nat.le_of_ble_eq_true rfl) rfl dX4_holdsBytes_1 (cC_isShelf l d σ ⟨by omega, by omega⟩) (fun wh1 => ?_) (fun wh1 => ?_)
  · refine aw_ieq dX4_holdsBytes_4 (tgt := 20) (by decide) ⟨by omega, by omega⟩ (fun wh2 => absurd wh2 (by decide)) (fun wh2 => ?_)
    refine aw_b kX4_ok bX4_holdsBytes_7_ok (Cs := [0 < 1, 0 < 1, 0 ≤ d ∧ d < 8]) (pc' := 13) (L' := [some (aR 9 0), some (aI d)]) (st' := [aI (σ 13 0 d)]) (σ' := σ) rfl (show (0 < 1) ∧ (0 < 1) ∧ (0 ≤ d ∧ d < 8) from ⟨by omega, by omega, by omega⟩) ?_
    refine aw_ine dX4_holdsBytes_13 (tgt := 20) (by decide) ⟨by omega, by omega⟩ (fun wh3 => ?_) (fun wh3 => ?_)
    · refine aw_b kX4_ok bX4_holdsBytes_20_ok (Cs := []) (pc' := 21) (L' := [some (aR 9 0), some (aI d)]) (st' := [aI 0]) (σ' := σ) rfl trivial ?_
      exact aw_zret dX4_holdsBytes_21 rfl (by omega) ⟨aret (by split <;> omega), rfl⟩
    · refine aw_b kX4_ok bX4_holdsBytes_16_ok (Cs := []) (pc' := 21) (L' := [some (aR 9 0), some (aI d)]) (st' := [aI 1]) (σ' := σ) rfl trivial ?_
      exact aw_zret dX4_holdsBytes_21 rfl (by omega) ⟨aret (by split <;> omega), rfl⟩
  · exfalso; omega
set_option maxRecDepth 10000 in
theorem cS_haveOneSort (l : Launch) (d e : Int) (σ : aS) (hs : SH σ) (h0 : 0 ≤ d) (h1 : d < 8) (h2 : 0 ≤ e) (h3 : e < 8) : AM l 1 mX4_haveOneSort [aR 9 0, aI d, aI e] σ (aF (some (aI (if σ 13 0 d = σ 13 0 e then 1 else 0))) σ) := by
  have bs := hs.1 d h0 h1
  have be := hs.1 e h2 h3
  refine am_of (by decide) (Nat.le_of_ble_eq_true rfl) (L := [some (aR 9 0), some (aI d), some (aI e)]) rfl ?_
  refine aw_b kX4_ok bX4_haveOneSort_0_ok (Cs := []) (pc' := 1) (L' := [some (aR 9 0), some (aI d), some (aI e)]) (st' := [aI d]) (σ' := σ) rfl trivial ?_
  refine aw_bN lX4_30 (as := [aI d]) (rest := []) (by decide) rfl (Nat.le_of_ble_eq_true rfl) rfl dX4_haveOneSort_1 (cC_isShelf l d σ ⟨by omega, by omega⟩) (fun wh1 => ?_) (fun wh1 => ?_)
  · refine aw_ieq dX4_haveOneSort_4 (tgt := 33) (by decide) ⟨by omega, by omega⟩ (fun wh2 => absurd wh2 (by decide)) (fun wh2 => ?_)
    refine aw_b kX4_ok bX4_haveOneSort_7_ok (Cs := []) (pc' := 8) (L' := [some (aR 9 0), some (aI d), some (aI e)]) (st' := [aI e]) (σ' := σ) rfl trivial ?_
    refine aw_bN lX4_30 (as := [aI e]) (rest := []) (by decide) rfl (Nat.le_of_ble_eq_true rfl) rfl dX4_haveOneSort_8 (cC_isShelf l e σ ⟨by omega, by omega⟩) (fun wh3 => ?_) (fun wh3 => ?_)
    · refine aw_ieq dX4_haveOneSort_11 (tgt := 33) (by decide) ⟨by omega, by omega⟩ (fun wh4 => absurd wh4 (by decide)) (fun wh4 => ?_)
      refine aw_b kX4_ok bX4_haveOneSort_14_ok (Cs := [0 < 1, 0 < 1, 0 ≤ d ∧ d < 8, 0 < 1, 0 < 1, 0 ≤ e ∧ e < 8]) (pc' := 26) (L' := [some (aR 9 0), some (aI d), some (aI e)]) (st' := [aI (σ 13 0 e), aI (σ 13 0 d)]) (σ' := σ) rfl (show (0 < 1) ∧ (0 < 1) ∧ (0 ≤ d ∧ d < 8) ∧ (0 < 1) ∧ (0 < 1) ∧ (0 ≤ e ∧ e < 8) from ⟨by omega, by omega, by omega, by omega, by omega, by omega⟩) ?_
      refine aw_cne dX4_haveOneSort_26 (tgt := 33) (by decide) ⟨by omega, by omega⟩ ⟨by omega, by omega⟩ (fun wh5 => ?_) (fun wh5 => ?_)
      · refine aw_b kX4_ok bX4_haveOneSort_33_ok (Cs := []) (pc' := 34) (L' := [some (aR 9 0), some (aI d), some (aI e)]) (st' := [aI 0]) (σ' := σ) rfl trivial ?_
        exact aw_zret dX4_haveOneSort_34 rfl (by omega) ⟨aret (by split <;> omega), rfl⟩
      · refine aw_b kX4_ok bX4_haveOneSort_29_ok (Cs := []) (pc' := 34) (L' := [some (aR 9 0), some (aI d), some (aI e)]) (st' := [aI 1]) (σ' := σ) rfl trivial ?_
        exact aw_zret dX4_haveOneSort_34 rfl (by omega) ⟨aret (by split <;> omega), rfl⟩
    · exfalso; omega
  · exfalso; omega
set_option maxRecDepth 10000 in
theorem cS_hasPlace (l : Launch) (d i : Int) (σ : aS) (hs : SH σ) (h0 : 0 ≤ d) (h1 : d < 8) (hi : aIr i) : AM l 2 mX4_hasPlace [aR 9 0, aI d, aI i] σ (aF (some (aI (if 0 ≤ i ∧ i < σ 14 0 d then 1 else 0))) σ) := by
  have bs := hs.1 d h0 h1
  refine am_of (by decide) (Nat.le_of_ble_eq_true rfl) (L := [some (aR 9 0), some (aI d), some (aI i)]) rfl ?_
  refine aw_b kX4_ok bX4_hasPlace_0_ok (Cs := []) (pc' := 1) (L' := [some (aR 9 0), some (aI d), some (aI i)]) (st' := [aI i]) (σ' := σ) rfl trivial ?_
  refine aw_ilt dX4_hasPlace_1 (tgt := 17) (by decide) ⟨by omega, by omega⟩ (fun wh1 => ?_) (fun wh1 => ?_)
  · refine aw_b kX4_ok bX4_hasPlace_17_ok (Cs := []) (pc' := 18) (L' := [some (aR 9 0), some (aI d), some (aI i)]) (st' := [aI 0]) (σ' := σ) rfl trivial ?_
    exact aw_zret dX4_hasPlace_18 rfl (by omega) ⟨aret (by split <;> omega), rfl⟩
  · refine aw_b kX4_ok bX4_hasPlace_4_ok (Cs := []) (pc' := 7) (L' := [some (aR 9 0), some (aI d), some (aI i)]) (st' := [aI d, aR 9 0, aI i]) (σ' := σ) rfl trivial ?_
    refine aw_fV lX4_38 (as := [aI d]) (rest := [aI i]) (t := 9) (c := 0) (by decide) (by decide) (by decide) rfl rfl (Nat.le_of_ble_eq_true rfl) rfl dX4_hasPlace_7 (cS_lengthOf l d σ hs (by omega) (by omega)) ?_
    refine aw_cge dX4_hasPlace_10 (tgt := 17) (by decide) ⟨by omega, by omega⟩ ⟨by omega, by omega⟩ (fun wh2 => ?_) (fun wh2 => ?_)
    · refine aw_b kX4_ok bX4_hasPlace_17_ok (Cs := []) (pc' := 18) (L' := [some (aR 9 0), some (aI d), some (aI i)]) (st' := [aI 0]) (σ' := σ) rfl trivial ?_
      exact aw_zret dX4_hasPlace_18 rfl (by omega) ⟨aret (by split <;> omega), rfl⟩
    · refine aw_b kX4_ok bX4_hasPlace_13_ok (Cs := []) (pc' := 18) (L' := [some (aR 9 0), some (aI d), some (aI i)]) (st' := [aI 1]) (σ' := σ) rfl trivial ?_
      exact aw_zret dX4_hasPlace_18 rfl (by omega) ⟨aret (by split <;> omega), rfl⟩
set_option maxRecDepth 10000 in
theorem cS_hasPlaces (l : Launch) (d i n : Int) (σ : aS) (hs : SH σ) (h0 : 0 ≤ d) (h1 : d < 8) (hi : aIr i) (hn : aIr n) : AM l 2 mX4_hasPlaces [aR 9 0, aI d, aI i, aI n] σ (aF (some (aI (if 0 ≤ n ∧ 0 ≤ i ∧ i ≤ σ 14 0 d - n then 1 else 0))) σ) := by
  have bs := hs.1 d h0 h1
  refine am_of (by decide) (Nat.le_of_ble_eq_true rfl) (L := [some (aR 9 0), some (aI d), some (aI i), some (aI n)]) rfl ?_
  refine aw_b kX4_ok bX4_hasPlaces_0_ok (Cs := []) (pc' := 1) (L' := [some (aR 9 0), some (aI d), some (aI i), some (aI n)]) (st' := [aI n]) (σ' := σ) rfl trivial ?_
  refine aw_ilt dX4_hasPlaces_1 (tgt := 23) (by decide) ⟨by omega, by omega⟩ (fun wh1 => ?_) (fun wh1 => ?_)
  · refine aw_b kX4_ok bX4_hasPlaces_23_ok (Cs := []) (pc' := 24) (L' := [some (aR 9 0), some (aI d), some (aI i), some (aI n)]) (st' := [aI 0]) (σ' := σ) rfl trivial ?_
    exact aw_zret dX4_hasPlaces_24 rfl (by omega) ⟨aret (by split <;> omega), rfl⟩
  · refine aw_b kX4_ok bX4_hasPlaces_4_ok (Cs := []) (pc' := 5) (L' := [some (aR 9 0), some (aI d), some (aI i), some (aI n)]) (st' := [aI i]) (σ' := σ) rfl trivial ?_
    refine aw_ilt dX4_hasPlaces_5 (tgt := 23) (by decide) ⟨by omega, by omega⟩ (fun wh2 => ?_) (fun wh2 => ?_)
    · refine aw_b kX4_ok bX4_hasPlaces_23_ok (Cs := []) (pc' := 24) (L' := [some (aR 9 0), some (aI d), some (aI i), some (aI n)]) (st' := [aI 0]) (σ' := σ) rfl trivial ?_
      exact aw_zret dX4_hasPlaces_24 rfl (by omega) ⟨aret (by split <;> omega), rfl⟩
    · refine aw_b kX4_ok bX4_hasPlaces_8_ok (Cs := []) (pc' := 11) (L' := [some (aR 9 0), some (aI d), some (aI i), some (aI n)]) (st' := [aI d, aR 9 0, aI i]) (σ' := σ) rfl trivial ?_
      refine aw_fV lX4_38 (as := [aI d]) (rest := [aI i]) (t := 9) (c := 0) (by decide) (by decide) (by decide) rfl rfl (Nat.le_of_ble_eq_true rfl) rfl dX4_hasPlaces_11 (cS_lengthOf l d σ hs (by omega) (by omega)) ?_
      refine aw_b kX4_ok bX4_hasPlaces_14_ok (Cs := []) (pc' := 16) (L' := [some (aR 9 0), some (aI d), some (aI i), some (aI n)]) (st' := [aI ((σ 14 0 d) - n), aI i]) (σ' := σ) rfl trivial ?_
      refine aw_cgt dX4_hasPlaces_16 (tgt := 23) (by decide) ⟨by omega, by omega⟩ ⟨by omega, by omega⟩ (fun wh3 => ?_) (fun wh3 => ?_)
      · refine aw_b kX4_ok bX4_hasPlaces_23_ok (Cs := []) (pc' := 24) (L' := [some (aR 9 0), some (aI d), some (aI i), some (aI n)]) (st' := [aI 0]) (σ' := σ) rfl trivial ?_
        exact aw_zret dX4_hasPlaces_24 rfl (by omega) ⟨aret (by split <;> omega), rfl⟩
      · refine aw_b kX4_ok bX4_hasPlaces_19_ok (Cs := []) (pc' := 24) (L' := [some (aR 9 0), some (aI d), some (aI i), some (aI n)]) (st' := [aI 1]) (σ' := σ) rfl trivial ?_
        exact aw_zret dX4_hasPlaces_24 rfl (by omega) ⟨aret (by split <;> omega), rfl⟩
def vaF (σ : aS) (d i : Int) : Int := if 0 ≤ i ∧ i < σ 14 0 d then σ 15 0 (d * 100 + i) else 0
theorem vaF_rng {σ : aS} (hs : SH σ) {d i : Int} (h0 : 0 ≤ d) (h1 : d < 8) : aIr (vaF σ d i) := by
  have b := hs.1 d h0 h1
  unfold vaF
  split
  · exact hs.2 _ (by omega) (by omega)
  · exact ⟨by decide, by decide⟩
def leF (s : Int) : Int := if s = 0 then -128 else if s = 1 then -32768 else -2147483648
def cuF (s v : Int) : Int := if s = 0 then v.bmod 256 else if s = 1 then v.bmod 65536 else v
theorem leF_rng (s : Int) : aIr (leF s) := by
  unfold leF
  (repeat' split) <;> exact ⟨by decide, by decide⟩
theorem cuF_rng {s v : Int} (h : aIr v) : aIr (cuF s v) := by
  unfold cuF
  have a := Int.le_bmod (x := v) (m := 256) (by decide)
  have b := Int.bmod_lt (x := v) (m := 256) (by decide)
  have c := Int.le_bmod (x := v) (m := 65536) (by decide)
  have d := Int.bmod_lt (x := v) (m := 65536) (by decide)
  (repeat' split)
  · exact ⟨by omega, by omega⟩
  · exact ⟨by omega, by omega⟩
  · exact h
set_option maxRecDepth 10000 in
theorem cS_valueAt (l : Launch) (d i : Int) (σ : aS) (hs : SH σ) (h0 : 0 ≤ d) (h1 : d < 8) (hi : aIr i) : AM l 3 mX4_valueAt [aR 9 0, aI d, aI i] σ (aF (some (aI (vaF σ d i))) σ) := by
  have bs := hs.1 d h0 h1
  refine am_of (by decide) (Nat.le_of_ble_eq_true rfl) (L := [some (aR 9 0), some (aI d), some (aI i)]) rfl ?_
  refine aw_b kX4_ok bX4_valueAt_0_ok (Cs := []) (pc' := 3) (L' := [some (aR 9 0), some (aI d), some (aI i)]) (st' := [aI i, aI d, aR 9 0]) (σ' := σ) rfl trivial ?_
  refine aw_bV lX4_42 (as := [aI d, aI i]) (rest := []) (t := 9) (c := 0) (by decide) (by decide) (by decide) rfl rfl (Nat.le_of_ble_eq_true rfl) rfl dX4_valueAt_3 (cS_hasPlace l d i σ hs (by omega) (by omega) ⟨by omega, by omega⟩) (fun wh1 => ?_) (fun wh1 => ?_)
  · refine aw_ieq dX4_valueAt_6 (tgt := 23) (by decide) ⟨by omega, by omega⟩ (fun wh2 => absurd wh2 (by decide)) (fun wh2 => ?_)
    refine aw_b kX4_ok bX4_valueAt_9_ok (Cs := [0 < 1, 0 < 1, 0 ≤ (d * 100) + i ∧ (d * 100) + i < 800]) (pc' := 24) (L' := [some (aR 9 0), some (aI d), some (aI i)]) (st' := [aI (σ 15 0 ((d * 100) + i))]) (σ' := σ) rfl (show (0 < 1) ∧ (0 < 1) ∧ (0 ≤ (d * 100) + i ∧ (d * 100) + i < 800) from ⟨by omega, by omega, by omega⟩) ?_
    exact aw_iret dX4_valueAt_24 rfl ⟨aret (by unfold vaF; (first | rw [if_pos (by omega)] | rw [if_neg (by omega)])), rfl⟩
  · refine aw_ieq dX4_valueAt_6 (tgt := 23) (by decide) ⟨by omega, by omega⟩ (fun wh3 => ?_) (fun wh3 => absurd wh3 (by decide))
    refine aw_b kX4_ok bX4_valueAt_23_ok (Cs := []) (pc' := 24) (L' := [some (aR 9 0), some (aI d), some (aI i)]) (st' := [aI 0]) (σ' := σ) rfl trivial ?_
    exact aw_iret dX4_valueAt_24 rfl ⟨aret (by unfold vaF; (first | rw [if_pos (by omega)] | rw [if_neg (by omega)])), rfl⟩
set_option maxRecDepth 10000 in
theorem cS_leastOf (l : Launch) (s : Int) (σ : aS) (h : aIr s) : AM l 0 mX4_leastOf [aI s] σ (aF (some (aI (leF s))) σ) := by
  refine am_of (by decide) (Nat.le_of_ble_eq_true rfl) (L := [some (aI s)]) rfl ?_
  refine aw_b kX4_ok bX4_leastOf_0_ok (Cs := []) (pc' := 1) (L' := [some (aI s)]) (st' := [aI s]) (σ' := σ) rfl trivial ?_
  rcases (show s = 0 ∨ s = 1 ∨ (¬ s = 0 ∧ ¬ s = 1) by omega) with wh1 | wh1 | wh1
  · refine aw_lsw dX4_leastOf_1 (tgt := 28) (by decide +kernel) ⟨by omega, by omega⟩ (off := 27) (by rw [wh1]; decide +kernel) (by decide) ?_
    refine aw_b kX4_ok bX4_leastOf_28_ok (Cs := []) (pc' := 30) (L' := [some (aI s)]) (st' := [aI (-128)]) (σ' := σ) rfl trivial ?_
    exact aw_iret dX4_leastOf_30 rfl ⟨aret (by unfold leF; (repeat' split) <;> omega), rfl⟩
  · refine aw_lsw dX4_leastOf_1 (tgt := 31) (by decide +kernel) ⟨by omega, by omega⟩ (off := 30) (by rw [wh1]; decide +kernel) (by decide) ?_
    refine aw_b kX4_ok bX4_leastOf_31_ok (Cs := []) (pc' := 34) (L' := [some (aI s)]) (st' := [aI (-32768)]) (σ' := σ) rfl trivial ?_
    exact aw_iret dX4_leastOf_34 rfl ⟨aret (by unfold leF; (repeat' split) <;> omega), rfl⟩
  · refine aw_lsw dX4_leastOf_1 (tgt := 35) (by decide +kernel) ⟨by omega, by omega⟩ (off := 34) (by simp [Op.lookupswitch.offset, List.find?, wh1, eq_comm]) (by decide) ?_
    refine aw_b kX4_ok bX4_leastOf_35_ok (Cs := []) (pc' := 37) (L' := [some (aI s)]) (st' := [aI (-2147483648)]) (σ' := σ) rfl trivial ?_
    exact aw_iret dX4_leastOf_37 rfl ⟨aret (by unfold leF; (repeat' split) <;> omega), rfl⟩
set_option maxRecDepth 10000 in
theorem cS_cutTo (l : Launch) (s v : Int) (σ : aS) (h : aIr s) : AM l 0 mX4_cutTo [aI s, aI v] σ (aF (some (aI (cuF s v))) σ) := by
  refine am_of (by decide) (Nat.le_of_ble_eq_true rfl) (L := [some (aI s), some (aI v)]) rfl ?_
  refine aw_b kX4_ok bX4_cutTo_0_ok (Cs := []) (pc' := 1) (L' := [some (aI s), some (aI v)]) (st' := [aI s]) (σ' := σ) rfl trivial ?_
  rcases (show s = 0 ∨ s = 1 ∨ (¬ s = 0 ∧ ¬ s = 1) by omega) with wh1 | wh1 | wh1
  · refine aw_lsw dX4_cutTo_1 (tgt := 28) (by decide +kernel) ⟨by omega, by omega⟩ (off := 27) (by rw [wh1]; decide +kernel) (by decide) ?_
    refine aw_b kX4_ok bX4_cutTo_28_ok (Cs := []) (pc' := 30) (L' := [some (aI s), some (aI v)]) (st' := [aI (Int.bmod v 256)]) (σ' := σ) rfl trivial ?_
    exact aw_iret dX4_cutTo_30 rfl ⟨aret (by unfold cuF; (repeat' split) <;> omega), rfl⟩
  · refine aw_lsw dX4_cutTo_1 (tgt := 31) (by decide +kernel) ⟨by omega, by omega⟩ (off := 30) (by rw [wh1]; decide +kernel) (by decide) ?_
    refine aw_b kX4_ok bX4_cutTo_31_ok (Cs := []) (pc' := 33) (L' := [some (aI s), some (aI v)]) (st' := [aI (Int.bmod v 65536)]) (σ' := σ) rfl trivial ?_
    exact aw_iret dX4_cutTo_33 rfl ⟨aret (by unfold cuF; (repeat' split) <;> omega), rfl⟩
  · refine aw_lsw dX4_cutTo_1 (tgt := 34) (by decide +kernel) ⟨by omega, by omega⟩ (off := 33) (by simp [Op.lookupswitch.offset, List.find?, wh1, eq_comm]) (by decide) ?_
    refine aw_b kX4_ok bX4_cutTo_34_ok (Cs := []) (pc' := 35) (L' := [some (aI s), some (aI v)]) (st' := [aI v]) (σ' := σ) rfl trivial ?_
    exact aw_iret dX4_cutTo_35 rfl ⟨aret (by unfold cuF; (repeat' split) <;> omega), rfl⟩
set_option maxRecDepth 10000 in
theorem cS_isSkipped (l : Launch) (d i : Int) (σ : aS) (hs : SH σ) (h0 : 0 ≤ d) (h1 : d < 8) (hi : aIr i) : AM l 4 mX4_isSkipped [aR 9 0, aI d, aI i] σ (aF (some (aI (if vaF σ d i = leF (σ 13 0 d) then 1 else 0))) σ) := by
  have bs := hs.1 d h0 h1
  refine am_of (by decide) (Nat.le_of_ble_eq_true rfl) (L := [some (aR 9 0), some (aI d), some (aI i)]) rfl ?_
  refine aw_b kX4_ok bX4_isSkipped_0_ok (Cs := []) (pc' := 1) (L' := [some (aR 9 0), some (aI d), some (aI i)]) (st' := [aI d]) (σ' := σ) rfl trivial ?_
  refine aw_bN lX4_30 (as := [aI d]) (rest := []) (by decide) rfl (Nat.le_of_ble_eq_true rfl) rfl dX4_isSkipped_1 (cC_isShelf l d σ ⟨by omega, by omega⟩) (fun wh1 => ?_) (fun wh1 => ?_)
  · refine aw_ieq dX4_isSkipped_4 (tgt := 29) (by decide) ⟨by omega, by omega⟩ (fun wh2 => absurd wh2 (by decide)) (fun wh2 => ?_)
    refine aw_b kX4_ok bX4_isSkipped_7_ok (Cs := []) (pc' := 10) (L' := [some (aR 9 0), some (aI d), some (aI i)]) (st' := [aI i, aI d, aR 9 0]) (σ' := σ) rfl trivial ?_
    refine aw_fV lX4_46 (as := [aI d, aI i]) (rest := []) (t := 9) (c := 0) (by decide) (by decide) (by decide) rfl rfl (Nat.le_of_ble_eq_true rfl) rfl dX4_isSkipped_10 (cS_valueAt l d i σ hs (by omega) (by omega) ⟨by omega, by omega⟩) ?_
    have bv := vaF_rng (i := i) hs (d := d) (by omega) (by omega)
    refine aw_b kX4_ok bX4_isSkipped_13_ok (Cs := [0 < 1, 0 < 1, 0 ≤ d ∧ d < 8]) (pc' := 19) (L' := [some (aR 9 0), some (aI d), some (aI i)]) (st' := [aI (σ 13 0 d), aI (vaF σ d i)]) (σ' := σ) rfl (show (0 < 1) ∧ (0 < 1) ∧ (0 ≤ d ∧ d < 8) from ⟨by omega, by omega, by omega⟩) ?_
    refine aw_fS lX4_49 (as := [aI (σ 13 0 d)]) (rest := [aI (vaF σ d i)]) (by decide) rfl (Nat.le_of_ble_eq_true rfl) rfl dX4_isSkipped_19 (cS_leastOf l (σ 13 0 d) σ ⟨by omega, by omega⟩) ?_
    have ble := leF_rng (σ 13 0 d)
    refine aw_cne dX4_isSkipped_22 (tgt := 29) (by decide) ⟨by omega, by omega⟩ ⟨by omega, by omega⟩ (fun wh3 => ?_) (fun wh3 => ?_)
    · refine aw_b kX4_ok bX4_isSkipped_29_ok (Cs := []) (pc' := 30) (L' := [some (aR 9 0), some (aI d), some (aI i)]) (st' := [aI 0]) (σ' := σ) rfl trivial ?_
      exact aw_zret dX4_isSkipped_30 rfl (by omega) ⟨aret (by split <;> omega), rfl⟩
    · refine aw_b kX4_ok bX4_isSkipped_25_ok (Cs := []) (pc' := 30) (L' := [some (aR 9 0), some (aI d), some (aI i)]) (st' := [aI 1]) (σ' := σ) rfl trivial ?_
      exact aw_zret dX4_isSkipped_30 rfl (by omega) ⟨aret (by split <;> omega), rfl⟩
  · exfalso; omega
set_option maxRecDepth 10000 in
theorem cS_write (l : Launch) (d i v : Int) (σ : aS) (hs : SH σ) (h0 : 0 ≤ d) (h1 : d < 8) (hi : 0 ≤ i ∧ i < σ 14 0 d) (hv : aIr v) : AM l 3 mX4_write [aR 9 0, aI d, aI i, aI v] σ (aF none (aUp σ 15 0 (d * 100 + i) (cuF (σ 13 0 d) v))) := by
  have bs := hs.1 d h0 h1
  refine am_of (by decide) (Nat.le_of_ble_eq_true rfl) (L := [some (aR 9 0), some (aI d), some (aI i), some (aI v)]) rfl ?_
  refine aw_b kX4_ok bX4_write_0_ok (Cs := []) (pc' := 3) (L' := [some (aR 9 0), some (aI d), some (aI i), some (aI v)]) (st' := [aI i, aI d, aR 9 0]) (σ' := σ) rfl trivial ?_
  refine aw_bV lX4_42 (as := [aI d, aI i]) (rest := []) (t := 9) (c := 0) (by decide) (by decide) (by decide) rfl rfl (Nat.le_of_ble_eq_true rfl) rfl dX4_write_3 (cS_hasPlace l d i σ hs (by omega) (by omega) ⟨by omega, by omega⟩) (fun wh1 => ?_) (fun wh1 => ?_)
  · refine aw_ieq dX4_write_6 (tgt := 30) (by decide) ⟨by omega, by omega⟩ (fun wh2 => absurd wh2 (by decide)) (fun wh2 => ?_)
    refine aw_b kX4_ok bX4_write_9_ok (Cs := [0 < 1, 0 < 1, 0 < 1, 0 ≤ d ∧ d < 8]) (pc' := 26) (L' := [some (aR 9 0), some (aI d), some (aI i), some (aI v)]) (st' := [aI v, aI (σ 13 0 d), aI ((d * 100) + i), aR 15 0]) (σ' := σ) rfl (show (0 < 1) ∧ (0 < 1) ∧ (0 < 1) ∧ (0 ≤ d ∧ d < 8) from ⟨by omega, by omega, by omega, by omega⟩) ?_
    refine aw_fS lX4_53 (as := [aI (σ 13 0 d), aI v]) (rest := [aI ((d * 100) + i), aR 15 0]) (by decide) rfl (Nat.le_of_ble_eq_true rfl) rfl dX4_write_26 (cS_cutTo l (σ 13 0 d) v σ ⟨by omega, by omega⟩) ?_
    refine aw_b kX4_ok bX4_write_29_ok (Cs := [0 < 1, 0 ≤ (d * 100) + i ∧ (d * 100) + i < 800]) (pc' := 30) (L' := [some (aR 9 0), some (aI d), some (aI i), some (aI v)]) (st' := []) (σ' := aUp σ 15 0 ((d * 100) + i) (cuF (σ 13 0 d) v)) rfl (show (0 < 1) ∧ (0 ≤ (d * 100) + i ∧ (d * 100) + i < 800) from ⟨by omega, by omega⟩) ?_
    exact aw_vret dX4_write_30 rfl ⟨rfl, rfl⟩
  · exfalso; omega
set_option maxRecDepth 10000 in
theorem cS_clear (l : Launch) (d : Int) (σ : aS) (h0 : 0 ≤ d) (h1 : d < 8) : AM l 1 mX4_clear [aR 9 0, aI d] σ (aF none (aUp σ 10 0 d 0)) := by
  refine am_of (by decide) (Nat.le_of_ble_eq_true rfl) (L := [some (aR 9 0), some (aI d)]) rfl ?_
  refine aw_b kX4_ok bX4_clear_0_ok (Cs := []) (pc' := 1) (L' := [some (aR 9 0), some (aI d)]) (st' := [aI d]) (σ' := σ) rfl trivial ?_
  refine aw_bN lX4_30 (as := [aI d]) (rest := []) (by decide) rfl (Nat.le_of_ble_eq_true rfl) rfl dX4_clear_1 (cC_isShelf l d σ ⟨by omega, by omega⟩) (fun wh1 => ?_) (fun wh1 => ?_)
  · refine aw_ieq dX4_clear_4 (tgt := 14) (by decide) ⟨by omega, by omega⟩ (fun wh2 => absurd wh2 (by decide)) (fun wh2 => ?_)
    refine aw_b kX4_ok bX4_clear_7_ok (Cs := [0 < 1, 0 < 1, 0 ≤ d ∧ d < 8]) (pc' := 14) (L' := [some (aR 9 0), some (aI d)]) (st' := []) (σ' := aUp σ 10 0 d 0) rfl (show (0 < 1) ∧ (0 < 1) ∧ (0 ≤ d ∧ d < 8) from ⟨by omega, by omega, by omega⟩) ?_
    exact aw_vret dX4_clear_14 rfl ⟨rfl, rfl⟩
  · exfalso; omega
set_option maxRecDepth 10000 in
theorem cS_placeOne (l : Launch) (d k f : Int) (σ : aS) (h0 : 0 ≤ d) (h1 : d < 8) : AM l 1 mX4_placeOne [aR 9 0, aI d, aI k, aI f] σ (aF none (aUp (aUp (aUp σ 10 0 d 1) 11 0 d k) 12 0 d f)) := by
  refine am_of (by decide) (Nat.le_of_ble_eq_true rfl) (L := [some (aR 9 0), some (aI d), some (aI k), some (aI f)]) rfl ?_
  refine aw_b kX4_ok bX4_placeOne_0_ok (Cs := []) (pc' := 1) (L' := [some (aR 9 0), some (aI d), some (aI k), some (aI f)]) (st' := [aI d]) (σ' := σ) rfl trivial ?_
  refine aw_bN lX4_30 (as := [aI d]) (rest := []) (by decide) rfl (Nat.le_of_ble_eq_true rfl) rfl dX4_placeOne_1 (cC_isShelf l d σ ⟨by omega, by omega⟩) (fun wh1 => ?_) (fun wh1 => ?_)
  · refine aw_ieq dX4_placeOne_4 (tgt := 28) (by decide) ⟨by omega, by omega⟩ (fun wh2 => absurd wh2 (by decide)) (fun wh2 => ?_)
    refine aw_b kX4_ok bX4_placeOne_7_ok (Cs := [0 < 1, 0 < 1, 0 ≤ d ∧ d < 8, 0 < 1, 0 < 1, 0 ≤ d ∧ d < 8, 0 < 1, 0 < 1, 0 ≤ d ∧ d < 8]) (pc' := 28) (L' := [some (aR 9 0), some (aI d), some (aI k), some (aI f)]) (st' := []) (σ' := aUp (aUp (aUp σ 10 0 d 1) 11 0 d k) 12 0 d f) rfl (show (0 < 1) ∧ (0 < 1) ∧ (0 ≤ d ∧ d < 8) ∧ (0 < 1) ∧ (0 < 1) ∧ (0 ≤ d ∧ d < 8) ∧ (0 < 1) ∧ (0 < 1) ∧ (0 ≤ d ∧ d < 8) from ⟨by omega, by omega, by omega, by omega, by omega, by omega, by omega, by omega, by omega⟩) ?_
    exact aw_vret dX4_placeOne_28 rfl ⟨rfl, rfl⟩
  · exfalso; omega
