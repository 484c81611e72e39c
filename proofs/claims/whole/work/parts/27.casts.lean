/-! ===== the class: casts ===== -/
def CzF (σ σ' : aS) : Prop := ∀ (t c : Nat) (i : Int), ¬ (t = 16 ∨ t = 17) → ¬ (t = 18 ∧ 0 ≤ i ∧ i < 1280) → σ' t c i = σ t c i
def QK (a : Int) (σ : aS) : Option aV → aS → Prop := fun v σ' => v = some (aI a) ∧ ∀ (t c : Nat) (i : Int), ¬ CScr t c → ¬ (t = 18 ∧ 0 ≤ i ∧ i < 1280) → σ' t c i = σ t c i
set_option maxRecDepth 10000 in
theorem cZ_weigh (l : Launch) (σ : aS) (r : aRw) (hR : Rep σ 0 r) (hw : WF r) (hd : r 1 ≤ 999) (h5 : ∀ i : Int, 1280 ≤ i → σ 18 0 i = 0) : AM l 3 mX1_weigh [aR 16 0, aR 1 0] σ ((fun v σ' => v = none ∧ CzL σ' r ∧ CzB σ' r 5 ∧ CzF σ σ')) := by
  have bn := hw.1
  have en := hR.n
  have b1 := hw.2.1
  have e1 := hR.1.2.1
  have b2 := hw.2.2.1
  have e2 := hR.1.2.2
  obtain ⟨m, hm⟩ : ∃ m : Nat, m = 2 ^ (r 0).toNat := ⟨_, rfl⟩
  have hm8 : m ≤ 256 := by rw [hm]; exact pw8 (by omega)
  refine am_of (by decide) (Nat.le_of_ble_eq_true rfl) (L := [some (aR 16 0), some (aR 1 0), none, none]) rfl ?_
  refine aw_b kX1_ok bX1_weigh_0_ok (Cs := [0 < 3]) (pc' := 7) (L' := [some (aR 16 0), some (aR 1 0), none, none]) (st' := [aI (σ 1 0 0), aI 8, aR 16 0]) (σ' := σ) rfl (show 0 < 3 from by omega) ?_
  refine aw_min lX1_25 (rest := [aR 16 0]) (by decide) (Nat.le_of_ble_eq_true rfl) dX1_weigh_7 (x := 8) (y := σ 1 0 0) ⟨by omega, by omega⟩ ⟨by omega, by omega⟩ ?_
  rw [show (if σ 1 0 0 < 8 then σ 1 0 0 else (8 : Int)) = r 0 by split <;> omega]
  refine aw_b kX1_ok bX1_weigh_10_ok (Cs := [0 < 1]) (pc' := 15) (L' := [some (aR 16 0), some (aR 1 0), some (aI 0), none]) (st' := []) (σ' := aUp σ 16 0 2 (r 0)) rfl (show 0 < 1 from by omega) ?_
  refine aloop (P := fun f : Nat => ∀ (ρ : aS) (hQ : Rep ρ 0 r) (hP : ρ 16 0 2 = r 0) (hLa : ∀ g q : Int, 0 ≤ g → g < (f : Int) → 0 ≤ q → q < r 0 → ρ 17 0 (g * 8 + q) = laF r g q) (hF : ∀ (t c : Nat) (i : Int), t ≠ 16 → t ≠ 17 → ρ t c i = σ t c i), AW l 3 mX1_weigh _ 15 [some (aR 16 0), some (aR 1 0), some (aI (f : Int)), none] [] ρ) (5) (fun f hf ihf ρ hQ hP hLa hF => ?_) _ (hR.fr (fun t i h1 h2 _ => aUp_tag (by omega))) aUp_same (fun g q h0 h1 => by omega) (fun t c i h1 h2 => aUp_tag h1)
  refine aw_b kX1_ok bX1_weigh_15_ok (Cs := []) (pc' := 17) (L' := [some (aR 16 0), some (aR 1 0), some (aI (f : Int)), none]) (st' := [aI 5, aI (f : Int)]) (σ' := ρ) rfl trivial ?_
  refine aw_cge dX1_weigh_17 (tgt := 59) (by decide) ⟨by omega, by omega⟩ ⟨by omega, by omega⟩ (fun wh1 => ?_) (fun wh1 => ?_)
  · refine aw_b kX1_ok bX1_weigh_59_ok (Cs := []) (pc' := 61) (L' := [some (aR 16 0), some (aR 1 0), some (aI 4), none]) (st' := []) (σ' := ρ) rfl trivial ?_
    have ef : f = 5 := by omega
    subst ef
    refine aw_eq (L' := [some (aR 16 0), some (aR 1 0), some (aI (4 - ((0 : Nat) : Int))), none]) rfl rfl rfl ?_
    refine aloop (P := fun j : Nat => ∀ (ρ2 : aS) (hL : CzL ρ2 r) (hB : CzB ρ2 r j) (hF3 : CzF σ ρ2), AW l 3 mX1_weigh _ 61 [some (aR 16 0), some (aR 1 0), some (aI (4 - (j : Int))), none] [] ρ2) (5) (fun j hj ihj ρ2 hL hB hF3 => ?_) ρ ⟨hP, fun g q h0 h1 h2 h3 => hLa g q h0 (by omega) h2 h3⟩ (fun i hi u hu => by rw [hF 18 0 _ (by decide) (by decide), show i = 0 by omega]; exact h5 _ (by omega)) (fun t c i h1 _ => hF t c i (fun q => h1 (Or.inl q)) (fun q => h1 (Or.inr q)))
    refine aw_b kX1_ok bX1_weigh_61_ok (Cs := []) (pc' := 62) (L' := [some (aR 16 0), some (aR 1 0), some (aI (4 - (j : Int))), none]) (st' := [aI (4 - (j : Int))]) (σ' := ρ2) rfl trivial ?_
    refine aw_ilt dX1_weigh_62 (tgt := 107) (by decide) ⟨by omega, by omega⟩ (fun wh2 => ?_) (fun wh2 => ?_)
    · exact aw_vret dX1_weigh_107 rfl ⟨rfl, hL, by rw [show j = 5 by omega] at hB; exact hB, hF3⟩
    · refine aw_b kX1_ok bX1_weigh_65_ok (Cs := []) (pc' := 67) (L' := [some (aR 16 0), some (aR 1 0), some (aI (4 - (j : Int))), some (aI 0)]) (st' := []) (σ' := ρ2) rfl trivial ?_
      refine aloop (P := fun u : Nat => ∀ (π2 : aS) (hL2 : CzL π2 r) (hB2 : CzB π2 r j) (hI : ∀ v : Nat, v < u → π2 18 0 ((4 - (j : Int)) * 256 + (v : Int)) = bfN (laF r) (r 0).toNat (j + 1) (v : Int)) (hF4 : CzF σ π2), AW l 3 mX1_weigh _ 67 [some (aR 16 0), some (aR 1 0), some (aI (4 - (j : Int))), some (aI (u : Int))] [] (π2)) m (fun u hu ihu π2 hL2 hB2 hI hF4 => ?_) ρ2 hL hB (fun v hv => by omega) hF3
      have e16 := hL2.1
      have e2 : (1 * 2 ^ (Int.toNat (π2 16 0 2)) : Int) = (m : Int) := by rw [hL2.1, hm]; simp
      refine aw_b kX1_ok bX1_weigh_67_ok (Cs := [0 < 1, 0 ≤ (π2) 16 0 2 ∧ (π2) 16 0 2 < 32]) (pc' := 74) (L' := [some (aR 16 0), some (aR 1 0), some (aI (4 - (j : Int))), some (aI (u : Int))]) (st' := [aI (1 * 2 ^ (Int.toNat ((π2) 16 0 2))), aI (u : Int)]) (σ' := π2) rfl (show (0 < 1) ∧ (0 ≤ (π2) 16 0 2 ∧ (π2) 16 0 2 < 32) from ⟨by omega, by omega⟩) ?_
      refine aw_cge dX1_weigh_74 (tgt := 101) (by decide) ⟨by omega, by omega⟩ ⟨by omega, by omega⟩ (fun wh3 => ?_) (fun wh3 => ?_)
      · refine aw_b kX1_ok bX1_weigh_101_ok (Cs := []) (pc' := 61) (L' := [some (aR 16 0), some (aR 1 0), some (aI ((4 - (j : Int)) + (-1))), some (aI (u : Int))]) (st' := []) (σ' := π2) rfl trivial ?_
        refine aw_drop [3] (L' := [some (aR 16 0), some (aR 1 0), some (aI ((4 - (j : Int)) + (-1))), none]) rfl ?_
        have eu : u = m := by omega
        exact aw_eq (by rw [show (4 - ((j + 1 : Nat) : Int)) = 4 - (j : Int) + -1 by omega]) rfl rfl (ihj (by omega) π2 hL2 (fun i hi v hv => (if hij : i = j + 1 then (by rw [hij, show (5 - ((j + 1 : Nat) : Int)) = 4 - (j : Int) by omega]; exact hI v (by rw [eu, hm]; exact hv)) else hB2 i (by omega) v hv)) hF4)
      · refine aw_b kX1_ok bX1_weigh_77_ok (Cs := [0 < 1]) (pc' := 91) (L' := [some (aR 16 0), some (aR 1 0), some (aI (4 - (j : Int))), some (aI (u : Int))]) (st' := [aI (u : Int), aI (4 - (j : Int)), aR 16 0, aI (((4 - (j : Int)) * 256) + (u : Int)), aR 18 0]) (σ' := π2) rfl (show 0 < 1 from by omega) ?_
        refine aw_fV lX1_33 (as := [aI (4 - (j : Int)), aI (u : Int)]) (rest := [aI (((4 - (j : Int)) * 256) + (u : Int)), aR 18 0]) (t := 16) (c := 0) (by decide) (by decide) (by decide) rfl rfl (Nat.le_of_ble_eq_true rfl) rfl dX1_weigh_91 (cZ_bestFrom l π2 r hw hL2 j (by omega) hB2 u (by rw [← hm]; omega)) ?_
        refine aw_b kX1_ok bX1_weigh_94_ok (Cs := [0 < 1, 0 ≤ ((4 - (j : Int)) * 256) + (u : Int) ∧ ((4 - (j : Int)) * 256) + (u : Int) < 1536]) (pc' := 67) (L' := [some (aR 16 0), some (aR 1 0), some (aI (4 - (j : Int))), some (aI ((u : Int) + 1))]) (st' := []) (σ' := aUp (π2) 18 0 (((4 - (j : Int)) * 256) + (u : Int)) (bfN (laF r) (r 0).toNat (j + 1) (u : Int))) rfl (show (0 < 1) ∧ (0 ≤ ((4 - (j : Int)) * 256) + (u : Int) ∧ ((4 - (j : Int)) * 256) + (u : Int) < 1536) from ⟨by omega, by omega⟩) ?_
        exact ihu (by omega) _ ⟨by rw [aUp_tag (by decide)]; exact hL2.1, fun g q h0 h1 h2 h3 => by rw [aUp_tag (by decide)]; exact hL2.2 g q h0 h1 h2 h3⟩ (fun i hi v hv => by rw [aUp_idx (by omega)]; exact hB2 i hi v hv) (fun v hv => (if hvu : v = u then (by rw [hvu, aUp_same]) else (by rw [aUp_idx (by omega)]; exact hI v (by omega)))) (fun t c i h1 h2 => by rw [show aUp π2 18 0 ((4 - (j : Int)) * 256 + (u : Int)) (bfN (laF r) (r 0).toNat (j + 1) (u : Int)) t c i = π2 t c i from if_neg (fun q => h2 ⟨q.1, by omega, by omega⟩)]; exact hF4 t c i h1 h2)
  · refine aw_b kX1_ok bX1_weigh_20_ok (Cs := []) (pc' := 22) (L' := [some (aR 16 0), some (aR 1 0), some (aI (f : Int)), some (aI 0)]) (st' := []) (σ' := ρ) rfl trivial ?_
    refine aloop (P := fun p : Nat => ∀ (π : aS) (hQ2 : Rep π 0 r) (hP2 : π 16 0 2 = r 0) (hLa2 : ∀ g q : Int, 0 ≤ g → (g < (f : Int) ∨ (g = (f : Int) ∧ q < (p : Int))) → 0 ≤ q → q < r 0 → π 17 0 (g * 8 + q) = laF r g q) (hF2 : ∀ (t c : Nat) (i : Int), t ≠ 16 → t ≠ 17 → π t c i = σ t c i), AW l 3 mX1_weigh _ 22 [some (aR 16 0), some (aR 1 0), some (aI (f : Int)), some (aI (p : Int))] [] (π)) ((r 0).toNat) (fun p hp ihp π hQ2 hP2 hLa2 hF2 => ?_) ρ hQ hP (fun g q h0 h1 h2 h3 => hLa g q h0 (by omega) h2 h3) hF
    refine aw_b kX1_ok bX1_weigh_22_ok (Cs := [0 < 1]) (pc' := 27) (L' := [some (aR 16 0), some (aR 1 0), some (aI (f : Int)), some (aI (p : Int))]) (st' := [aI ((π) 16 0 2), aI (p : Int)]) (σ' := π) rfl (show 0 < 1 from by omega) ?_
    refine aw_cge dX1_weigh_27 (tgt := 53) (by decide) ⟨by omega, by omega⟩ ⟨by omega, by omega⟩ (fun wh4 => ?_) (fun wh4 => ?_)
    · refine aw_b kX1_ok bX1_weigh_53_ok (Cs := []) (pc' := 15) (L' := [some (aR 16 0), some (aR 1 0), some (aI ((f : Int) + 1)), some (aI (p : Int))]) (st' := []) (σ' := π) rfl trivial ?_
      refine aw_drop [3] (L' := [some (aR 16 0), some (aR 1 0), some (aI ((f : Int) + 1)), none]) rfl ?_
      exact ihf (by omega) π hQ2 hP2 (fun g q h0 h1 h2 h3 => hLa2 g q h0 (by omega) h2 h3) hF2
    · refine aw_b kX1_ok bX1_weigh_30_ok (Cs := [0 < 1]) (pc' := 43) (L' := [some (aR 16 0), some (aR 1 0), some (aI (f : Int)), some (aI (p : Int))]) (st' := [aI (p : Int), aI (f : Int), aR 1 0, aI (((f : Int) * 8) + (p : Int)), aR 17 0]) (σ' := π) rfl (show 0 < 1 from by omega) ?_
      refine aw_fV lX1_31 (as := [aI (f : Int), aI (p : Int)]) (rest := [aI (((f : Int) * 8) + (p : Int)), aR 17 0]) (t := 1) (c := 0) (by decide) (by decide) (by decide) rfl rfl (Nat.le_of_ble_eq_true rfl) rfl dX1_weigh_43 (cC_lasting l (f : Int) (p : Int) 0 (by decide) π r hQ2 hw (by omega) (by omega) (by omega) (by omega) hd) ?_
      refine aw_b kX1_ok bX1_weigh_46_ok (Cs := [0 < 1, 0 ≤ ((f : Int) * 8) + (p : Int) ∧ ((f : Int) * 8) + (p : Int) < 40]) (pc' := 22) (L' := [some (aR 16 0), some (aR 1 0), some (aI (f : Int)), some (aI ((p : Int) + 1))]) (st' := []) (σ' := aUp (π) 17 0 (((f : Int) * 8) + (p : Int)) (laF r (f : Int) (p : Int))) rfl (show (0 < 1) ∧ (0 ≤ ((f : Int) * 8) + (p : Int) ∧ ((f : Int) * 8) + (p : Int) < 40) from ⟨by omega, by omega⟩) ?_
      exact ihp (by omega) _ (hQ2.fr (fun t i h1 h2 _ => aUp_tag (by omega))) (by rw [aUp_tag (by decide)]; exact hP2) (fun g q h0 h1 h2 h3 => (if hgq : g * 8 + q = ((f : Int) * 8 + (p : Int)) then (by rw [show g = (f : Int) by omega, show q = (p : Int) by omega, aUp_same]) else (by rw [aUp_idx hgq]; exact hLa2 g q h0 (by omega) h2 h3))) (fun t c i h1 h2 => by rw [aUp_tag h2]; exact hF2 t c i h1 h2)
set_option maxRecDepth 10000 in
theorem cZ_most (l : Launch) (σ : aS) : AM l 0 mX1_most [aR 16 0] σ (aF (some (aI (σ 18 0 0))) σ) := by
  refine am_of (by decide) (Nat.le_of_ble_eq_true rfl) (L := [some (aR 16 0)]) rfl ?_
  refine aw_b kX1_ok bX1_most_0_ok (Cs := [0 < 1, 0 < 1, 0 ≤ 0 ∧ 0 < 1536]) (pc' := 6) (L' := [some (aR 16 0)]) (st' := [aI (σ 18 0 0)]) (σ' := σ) rfl (show (0 < 1) ∧ (0 < 1) ∧ (0 ≤ 0 ∧ 0 < 1536) from ⟨by omega, by omega, by omega⟩) ?_
  exact aw_iret dX1_most_6 rfl ⟨rfl, rfl⟩
set_option maxRecDepth 10000 in
theorem cZ_chosen (l : Launch) (w : Int) (σ : aS) (r : aRw) (hw : WF r) (hL : CzL σ r) (hB : CzB σ r 5) (w0 : 0 ≤ w) (w1 : w < 5) : AM l 2 mX1_chosen [aR 16 0, aI w] σ (aF (some (aI (nb (fbF (laF r) (r 0).toNat w (usN (laF r) (r 0).toNat w.toNat) (4 - w.toNat) (r 0).toNat 0)))) σ) := by
  have bn := hw.1
  have hp8 := pw8 (N := (r 0).toNat) (by omega)
  refine am_of (by decide) (Nat.le_of_ble_eq_true rfl) (L := [some (aR 16 0), some (aI w), none, none, none]) rfl ?_
  refine aw_b kX1_ok bX1_chosen_0_ok (Cs := []) (pc' := 4) (L' := [some (aR 16 0), some (aI w), some (aI 0), some (aI 0), none]) (st' := []) (σ' := σ) rfl trivial ?_
  refine aloop (P := fun f : Nat => ∀ (hfw : (f : Int) ≤ w), AW l 2 mX1_chosen _ 4 [some (aR 16 0), some (aI w), some (aI (usN (laF r) (r 0).toNat f)), some (aI (f : Int)), none] [] σ) (5) (fun f hf ihf hfw => ?_) w0
  have gu := usN_rng (laF r) (N := (r 0).toNat) (by omega) f
  obtain ⟨u, hu⟩ := Int.eq_ofNat_of_zero_le gu.1
  have u2 : u < 2 ^ (r 0).toNat := by rw [hu] at gu; have := gu.2; exact_mod_cast this
  refine aw_b kX1_ok bX1_chosen_4_ok (Cs := []) (pc' := 6) (L' := [some (aR 16 0), some (aI w), some (aI (usN (laF r) (r 0).toNat f)), some (aI (f : Int)), none]) (st' := [aI 5, aI (f : Int)]) (σ' := σ) rfl trivial ?_
  refine aw_cge dX1_chosen_6 (tgt := 44) (by decide) ⟨by omega, by omega⟩ ⟨by omega, by omega⟩ (fun wh1 => False.elim (by omega)) (fun wh1 => ?_)
  refine aw_b kX1_ok bX1_chosen_9_ok (Cs := []) (pc' := 12) (L' := [some (aR 16 0), some (aI w), some (aI (usN (laF r) (r 0).toNat f)), some (aI (f : Int)), none]) (st' := [aI (usN (laF r) (r 0).toNat f), aI (f : Int), aR 16 0]) (σ' := σ) rfl trivial ?_
  have hfb := cZ_firstBest l σ r hw hL (4 - f) (by omega) (fun i hi => hB i (by omega)) u u2
  rw [show (4 - ((4 - f : Nat) : Int)) = (f : Int) by omega, ← hu] at hfb
  have gb := fbF_rng (laF r) (r 0).toNat (f : Int) (usN (laF r) (r 0).toNat f) (4 - f) (r 0).toNat 0
  have nn := nb_cases (fbF (laF r) (r 0).toNat (f : Int) (usN (laF r) (r 0).toNat f) (4 - f) (r 0).toNat 0)
  refine aw_fV lX1_43 (as := [aI (f : Int), aI (usN (laF r) (r 0).toNat f)]) (rest := []) (t := 16) (c := 0) (by decide) (by decide) (by decide) rfl rfl (Nat.le_of_ble_eq_true rfl) rfl dX1_chosen_12 (hfb) ?_
  refine aw_b kX1_ok bX1_chosen_15_ok (Cs := []) (pc' := 19) (L' := [some (aR 16 0), some (aI w), some (aI (usN (laF r) (r 0).toNat f)), some (aI (f : Int)), some (aI (nb (fbF (laF r) (r 0).toNat (f : Int) (usN (laF r) (r 0).toNat f) (4 - f) (r 0).toNat 0)))]) (st' := [aI w, aI (f : Int)]) (σ' := σ) rfl trivial ?_
  refine aw_cne dX1_chosen_19 (tgt := 25) (by decide) ⟨by omega, by omega⟩ ⟨by omega, by omega⟩ (fun wh2 => ?_) (fun wh2 => ?_)
  · refine aw_b kX1_ok bX1_chosen_25_ok (Cs := []) (pc' := 28) (L' := [some (aR 16 0), some (aI w), some (aI (usN (laF r) (r 0).toNat f)), some (aI (f : Int)), some (aI (nb (fbF (laF r) (r 0).toNat (f : Int) (usN (laF r) (r 0).toNat f) (4 - f) (r 0).toNat 0)))]) (st' := [aI (-1), aI (nb (fbF (laF r) (r 0).toNat (f : Int) (usN (laF r) (r 0).toNat f) (4 - f) (r 0).toNat 0))]) (σ' := σ) rfl trivial ?_
    refine aw_ceq dX1_chosen_28 (tgt := 38) (by decide) ⟨by omega, by omega⟩ ⟨by omega, by omega⟩ (fun wh3 => ?_) (fun wh3 => ?_)
    · refine aw_b kX1_ok bX1_chosen_38_ok (Cs := []) (pc' := 4) (L' := [some (aR 16 0), some (aI w), some (aI (usN (laF r) (r 0).toNat f)), some (aI ((f : Int) + 1)), some (aI (nb (fbF (laF r) (r 0).toNat (f : Int) (usN (laF r) (r 0).toNat f) (4 - f) (r 0).toNat 0)))]) (st' := []) (σ' := σ) rfl trivial ?_
      refine aw_drop [4] (L' := [some (aR 16 0), some (aI w), some (aI (usN (laF r) (r 0).toNat f)), some (aI ((f : Int) + 1)), none]) rfl ?_
      have e1 : (usN (laF r) (r 0).toNat f) = usN (laF r) (r 0).toNat (f + 1) := by rw [usN, if_pos (by omega)]
      exact aw_eq (by rw [e1]; rfl) rfl rfl (ihf (by omega) (by omega))
    · refine aw_b kX1_ok bX1_chosen_31_ok (Cs := [0 ≤ nb (fbF (laF r) (r 0).toNat (f : Int) (usN (laF r) (r 0).toNat f) (4 - f) (r 0).toNat 0) ∧ nb (fbF (laF r) (r 0).toNat (f : Int) (usN (laF r) (r 0).toNat f) (4 - f) (r 0).toNat 0) < 32]) (pc' := 38) (L' := [some (aR 16 0), some (aI w), some (aI (aOr (usN (laF r) (r 0).toNat f) (1 * 2 ^ (Int.toNat (nb (fbF (laF r) (r 0).toNat (f : Int) (usN (laF r) (r 0).toNat f) (4 - f) (r 0).toNat 0)))))), some (aI (f : Int)), some (aI (nb (fbF (laF r) (r 0).toNat (f : Int) (usN (laF r) (r 0).toNat f) (4 - f) (r 0).toNat 0)))]) (st' := []) (σ' := σ) rfl (show 0 ≤ nb (fbF (laF r) (r 0).toNat (f : Int) (usN (laF r) (r 0).toNat f) (4 - f) (r 0).toNat 0) ∧ nb (fbF (laF r) (r 0).toNat (f : Int) (usN (laF r) (r 0).toNat f) (4 - f) (r 0).toNat 0) < 32 from by omega) ?_
      refine aw_b kX1_ok bX1_chosen_38_ok (Cs := []) (pc' := 4) (L' := [some (aR 16 0), some (aI w), some (aI (aOr (usN (laF r) (r 0).toNat f) (1 * 2 ^ (Int.toNat (nb (fbF (laF r) (r 0).toNat (f : Int) (usN (laF r) (r 0).toNat f) (4 - f) (r 0).toNat 0)))))), some (aI ((f : Int) + 1)), some (aI (nb (fbF (laF r) (r 0).toNat (f : Int) (usN (laF r) (r 0).toNat f) (4 - f) (r 0).toNat 0)))]) (st' := []) (σ' := σ) rfl trivial ?_
      refine aw_drop [4] (L' := [some (aR 16 0), some (aI w), some (aI (aOr (usN (laF r) (r 0).toNat f) (1 * 2 ^ (Int.toNat (nb (fbF (laF r) (r 0).toNat (f : Int) (usN (laF r) (r 0).toNat f) (4 - f) (r 0).toNat 0)))))), some (aI ((f : Int) + 1)), none]) rfl ?_
      have e1 : aOr (usN (laF r) (r 0).toNat f) (1 * 2 ^ (Int.toNat (nb (fbF (laF r) (r 0).toNat (f : Int) (usN (laF r) (r 0).toNat f) (4 - f) (r 0).toNat 0)))) = usN (laF r) (r 0).toNat (f + 1) := by rw [usN, if_neg (by omega), show nb (fbF (laF r) (r 0).toNat (f : Int) (usN (laF r) (r 0).toNat f) (4 - f) (r 0).toNat 0) = (fbF (laF r) (r 0).toNat (f : Int) (usN (laF r) (r 0).toNat f) (4 - f) (r 0).toNat 0) by omega]; rfl
      exact aw_eq (by rw [e1]; rfl) rfl rfl (ihf (by omega) (by omega))
  · refine aw_b kX1_ok bX1_chosen_22_ok (Cs := []) (pc' := 24) (L' := [some (aR 16 0), some (aI w), some (aI (usN (laF r) (r 0).toNat f)), some (aI (f : Int)), some (aI (nb (fbF (laF r) (r 0).toNat (f : Int) (usN (laF r) (r 0).toNat f) (4 - f) (r 0).toNat 0)))]) (st' := [aI (nb (fbF (laF r) (r 0).toNat (f : Int) (usN (laF r) (r 0).toNat f) (4 - f) (r 0).toNat 0))]) (σ' := σ) rfl trivial ?_
    exact aw_iret dX1_chosen_24 rfl ⟨aret (by rw [show w = (f : Int) by omega]; rfl), rfl⟩
set_option maxRecDepth 10000 in
theorem cC_casts (l : Launch) (f : Int) (σ : aS) (r : aRw) (hR : Rep σ 0 r) (hw : WF r) (hd : r 1 ≤ 999) (hf : aIr f) (h5 : ∀ i : Int, 1280 ≤ i → σ 18 0 i = 0) : AM l 4 mX6_casts [aR 0 0, aI f] σ (QK (A_casts r f) σ) := by
  have bn := hw.1
  have en := hR.n
  have b1 := hw.2.1
  have e1 := hR.1.2.1
  have b2 := hw.2.2.1
  have e2 := hR.1.2.2
  have b50 := bfN_rng (La := laF r) (N := (r 0).toNat) (by omega) (laF_L r) 5 (by decide) 0 (by decide) (by decide)
  have gz := fbF_rng (laF r) (r 0).toNat f (usN (laF r) (r 0).toNat f.toNat) (4 - f.toNat) (r 0).toNat 0
  have nz := nb_cases (fbF (laF r) (r 0).toNat f (usN (laF r) (r 0).toNat f.toNat) (4 - f.toNat) (r 0).toNat 0)
  refine am_of (by decide) (Nat.le_of_ble_eq_true rfl) (L := [some (aR 0 0), some (aI f)]) rfl ?_
  refine aw_b kX6_ok bX6_casts_0_ok (Cs := []) (pc' := 2) (L' := [some (aR 0 0), some (aI f)]) (st' := [aI (-1), aI f]) (σ' := σ) rfl trivial ?_
  refine aw_ceq dX6_casts_2 (tgt := 14) (by decide) ⟨by omega, by omega⟩ ⟨by omega, by omega⟩ (fun wh1 => ?_) (fun wh1 => ?_)
  · refine aw_b kX6_ok bX6_casts_14_ok (Cs := [0 < 1, 0 < 1]) (pc' := 22) (L' := [some (aR 0 0), some (aI f)]) (st' := [aR 1 0, aR 16 0]) (σ' := σ) rfl (show (0 < 1) ∧ (0 < 1) from ⟨by omega, by omega⟩) ?_
    refine aw_callV lX6_187 (as := [aR 1 0]) (rest := []) (t := 16) (c := 0) (by decide) (by decide) (by decide) rfl rfl (Nat.le_of_ble_eq_true rfl) rfl dX6_casts_22 (cZ_weigh l σ r hR hw hd h5) ?_
    rintro _ τ1 ⟨rfl, hL1, hB1, hF1⟩
    have hFK : ∀ (t c : Nat) (i : Int), ¬ CScr t c → ¬ (t = 18 ∧ 0 ≤ i ∧ i < 1280) → τ1 t c i = σ t c i := fun t c i h1 h2 => hF1 t c i (fun q => h1 (Or.inr (by omega))) h2
    have e50 := hB1 5 (Nat.le_refl 5) 0 (Nat.pow_pos (by decide))
    rw [show (5 - ((5 : Nat) : Int)) * 256 + ((0 : Nat) : Int) = 0 by decide] at e50
    refine aw_b kX6_ok bX6_casts_25_ok (Cs := []) (pc' := 27) (L' := [some (aR 0 0), some (aI f)]) (st' := [aI (-1), aI f]) (σ' := τ1) rfl trivial ?_
    refine aw_cne dX6_casts_27 (tgt := 40) (by decide) ⟨by omega, by omega⟩ ⟨by omega, by omega⟩ (fun wh2 => ?_) (fun wh2 => ?_)
    · refine aw_b kX6_ok bX6_casts_40_ok (Cs := [0 < 1]) (pc' := 45) (L' := [some (aR 0 0), some (aI f)]) (st' := [aI f, aR 16 0]) (σ' := τ1) rfl (show 0 < 1 from by omega) ?_
      refine aw_fV lX6_193 (as := [aI f]) (rest := []) (t := 16) (c := 0) (by decide) (by decide) (by decide) rfl rfl (Nat.le_of_ble_eq_true rfl) rfl dX6_casts_45 (cZ_chosen l f τ1 r hw hL1 hB1 (by omega) (by omega)) ?_
      refine aw_fS lX6_94 (as := [aI (nb (fbF (laF r) (r 0).toNat f (usN (laF r) (r 0).toNat f.toNat) (4 - f.toNat) (r 0).toNat 0))]) (rest := []) (by decide) rfl (Nat.le_of_ble_eq_true rfl) rfl dX6_casts_48 (cC_orNone l (nb (fbF (laF r) (r 0).toNat f (usN (laF r) (r 0).toNat f.toNat) (4 - f.toNat) (r 0).toNat 0)) τ1 ⟨by omega, by omega⟩) ?_
      rw [show (if nb (fbF (laF r) (r 0).toNat f (usN (laF r) (r 0).toNat f.toNat) (4 - f.toNat) (r 0).toNat 0) = -1 then (-4 : Int) else nb (fbF (laF r) (r 0).toNat f (usN (laF r) (r 0).toNat f.toNat) (4 - f.toNat) (r 0).toNat 0)) = fbF (laF r) (r 0).toNat f (usN (laF r) (r 0).toNat f.toNat) (4 - f.toNat) (r 0).toNat 0 by split <;> omega]
      exact aw_iret dX6_casts_51 rfl ⟨aret (by unfold A_casts; rw [if_neg (by omega), if_pos (by omega)]), hFK⟩
    · refine aw_b kX6_ok bX6_casts_30_ok (Cs := [0 < 1]) (pc' := 34) (L' := [some (aR 0 0), some (aI f)]) (st' := [aR 16 0]) (σ' := τ1) rfl (show 0 < 1 from by omega) ?_
      refine aw_fV lX6_190 (as := []) (rest := []) (t := 16) (c := 0) (by decide) (by decide) (by decide) rfl rfl (Nat.le_of_ble_eq_true rfl) rfl dX6_casts_34 (cZ_most l τ1) ?_
      refine aw_b kX6_ok bX6_casts_37_ok (Cs := []) (pc' := 51) (L' := [some (aR 0 0), some (aI f)]) (st' := [aI (τ1 18 0 0)]) (σ' := τ1) rfl trivial ?_
      exact aw_iret dX6_casts_51 rfl ⟨aret (by unfold A_casts; rw [if_pos (by omega)]; exact e50), hFK⟩
  · refine aw_b kX6_ok bX6_casts_5_ok (Cs := []) (pc' := 6) (L' := [some (aR 0 0), some (aI f)]) (st' := [aI f]) (σ' := σ) rfl trivial ?_
    refine aw_bS lX6_109 (as := [aI f]) (rest := []) (by decide) rfl (Nat.le_of_ble_eq_true rfl) rfl dX6_casts_6 (cC_isOffice l f σ ⟨by omega, by omega⟩) (fun wh3 => ?_) (fun wh3 => ?_)
    · refine aw_ine dX6_casts_9 (tgt := 14) (by decide) ⟨by omega, by omega⟩ (fun wh4 => ?_) (fun wh4 => absurd wh4 (by decide))
      refine aw_b kX6_ok bX6_casts_14_ok (Cs := [0 < 1, 0 < 1]) (pc' := 22) (L' := [some (aR 0 0), some (aI f)]) (st' := [aR 1 0, aR 16 0]) (σ' := σ) rfl (show (0 < 1) ∧ (0 < 1) from ⟨by omega, by omega⟩) ?_
      refine aw_callV lX6_187 (as := [aR 1 0]) (rest := []) (t := 16) (c := 0) (by decide) (by decide) (by decide) rfl rfl (Nat.le_of_ble_eq_true rfl) rfl dX6_casts_22 (cZ_weigh l σ r hR hw hd h5) ?_
      rintro _ τ1 ⟨rfl, hL1, hB1, hF1⟩
      have hFK : ∀ (t c : Nat) (i : Int), ¬ CScr t c → ¬ (t = 18 ∧ 0 ≤ i ∧ i < 1280) → τ1 t c i = σ t c i := fun t c i h1 h2 => hF1 t c i (fun q => h1 (Or.inr (by omega))) h2
      have e50 := hB1 5 (Nat.le_refl 5) 0 (Nat.pow_pos (by decide))
      rw [show (5 - ((5 : Nat) : Int)) * 256 + ((0 : Nat) : Int) = 0 by decide] at e50
      refine aw_b kX6_ok bX6_casts_25_ok (Cs := []) (pc' := 27) (L' := [some (aR 0 0), some (aI f)]) (st' := [aI (-1), aI f]) (σ' := τ1) rfl trivial ?_
      refine aw_cne dX6_casts_27 (tgt := 40) (by decide) ⟨by omega, by omega⟩ ⟨by omega, by omega⟩ (fun wh5 => ?_) (fun wh5 => ?_)
      · refine aw_b kX6_ok bX6_casts_40_ok (Cs := [0 < 1]) (pc' := 45) (L' := [some (aR 0 0), some (aI f)]) (st' := [aI f, aR 16 0]) (σ' := τ1) rfl (show 0 < 1 from by omega) ?_
        refine aw_fV lX6_193 (as := [aI f]) (rest := []) (t := 16) (c := 0) (by decide) (by decide) (by decide) rfl rfl (Nat.le_of_ble_eq_true rfl) rfl dX6_casts_45 (cZ_chosen l f τ1 r hw hL1 hB1 (by omega) (by omega)) ?_
        refine aw_fS lX6_94 (as := [aI (nb (fbF (laF r) (r 0).toNat f (usN (laF r) (r 0).toNat f.toNat) (4 - f.toNat) (r 0).toNat 0))]) (rest := []) (by decide) rfl (Nat.le_of_ble_eq_true rfl) rfl dX6_casts_48 (cC_orNone l (nb (fbF (laF r) (r 0).toNat f (usN (laF r) (r 0).toNat f.toNat) (4 - f.toNat) (r 0).toNat 0)) τ1 ⟨by omega, by omega⟩) ?_
        rw [show (if nb (fbF (laF r) (r 0).toNat f (usN (laF r) (r 0).toNat f.toNat) (4 - f.toNat) (r 0).toNat 0) = -1 then (-4 : Int) else nb (fbF (laF r) (r 0).toNat f (usN (laF r) (r 0).toNat f.toNat) (4 - f.toNat) (r 0).toNat 0)) = fbF (laF r) (r 0).toNat f (usN (laF r) (r 0).toNat f.toNat) (4 - f.toNat) (r 0).toNat 0 by split <;> omega]
        exact aw_iret dX6_casts_51 rfl ⟨aret (by unfold A_casts; rw [if_neg (by omega), if_pos (by omega)]), hFK⟩
      · refine aw_b kX6_ok bX6_casts_30_ok (Cs := [0 < 1]) (pc' := 34) (L' := [some (aR 0 0), some (aI f)]) (st' := [aR 16 0]) (σ' := τ1) rfl (show 0 < 1 from by omega) ?_
        refine aw_fV lX6_190 (as := []) (rest := []) (t := 16) (c := 0) (by decide) (by decide) (by decide) rfl rfl (Nat.le_of_ble_eq_true rfl) rfl dX6_casts_34 (cZ_most l τ1) ?_
        refine aw_b kX6_ok bX6_casts_37_ok (Cs := []) (pc' := 51) (L' := [some (aR 0 0), some (aI f)]) (st' := [aI (τ1 18 0 0)]) (σ' := τ1) rfl trivial ?_
        exact aw_iret dX6_casts_51 rfl ⟨aret (by unfold A_casts; rw [if_pos (by omega)]; exact e50), hFK⟩
    · refine aw_ine dX6_casts_9 (tgt := 14) (by decide) ⟨by omega, by omega⟩ (fun wh6 => absurd wh6 (by decide)) (fun wh6 => ?_)
      refine aw_b kX6_ok bX6_casts_12_ok (Cs := []) (pc' := 13) (L' := [some (aR 0 0), some (aI f)]) (st' := [aI (-1)]) (σ' := σ) rfl trivial ?_
      exact aw_iret dX6_casts_13 rfl ⟨aret (by unfold A_casts; rw [if_neg (by omega), if_neg (by omega)]), fun t c i _ _ => rfl⟩
