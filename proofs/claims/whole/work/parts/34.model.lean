/-! ===== the model: casts ===== -/
theorem or_tab : ∀ f : Nat, f < 6 → ∀ u : Nat, u < 256 → aOr ((f : Int) * 2 ^ (Int.toNat 8)) u = f * 256 + u := by decide +kernel
theorem orI {f u : Int} (f0 : 0 ≤ f) (f1 : f < 6) (u0 : 0 ≤ u) (u1 : u < 256) : aOr (f * 2 ^ (Int.toNat 8)) u = f * 256 + u := by
  obtain ⟨a, rfl⟩ := Int.eq_ofNat_of_zero_le f0
  obtain ⟨b, rfl⟩ := Int.eq_ofNat_of_zero_le u0
  exact or_tab a (by omega) b (by omega)
theorem or_0 {u : Int} (u0 : 0 ≤ u) (u1 : u < 256) : aOr u 0 = u := by
  obtain ⟨b, rfl⟩ := Int.eq_ofNat_of_zero_le u0
  exact (aOr_pw 8 (by decide) b (by omega)).2
theorem bfN_pos (La : Int → Int → Int) (N : Nat) {j : Nat} (hj : 1 ≤ j) (u : Int) : bfN La N j u = bfP La (bfN La N (j - 1)) (5 - (j : Int)) u N := by
  obtain ⟨i, rfl⟩ : ∃ i, j = i + 1 := ⟨j - 1, by omega⟩
  rw [bfN, show (5 - ((i + 1 : Nat) : Int)) = 4 - (i : Int) by omega]
  rfl
def MzL (τ : aS) (r : aRw) : Prop := ∀ f p : Int, 0 ≤ f → f < 5 → 0 ≤ p → p < r 0 → τ 24 0 (8 * f + p) = laF r f p
def MzB (τ : aS) (r : aRw) (j : Nat) : Prop := ∀ i : Nat, i < j → ∀ u : Nat, u < 2 ^ (r 0).toNat → τ 25 0 ((5 - (i : Int)) * 256 + u) = bfN (laF r) (r 0).toNat i u
set_option maxRecDepth 10000 in
theorem cM_mostOf (l : Launch) (f u : Int) (σ : aS) (f0 : 0 ≤ f) (f1 : f < 6) (u0 : 0 ≤ u) (u1 : u < 256) : AM l 0 mX7_mostOf [aR 21 0, aI f, aI u] σ (aF (some (aI (σ 25 0 (f * 256 + u)))) σ) := by
  have eo := orI f0 f1 u0 u1
  refine am_of (by decide) (Nat.le_of_ble_eq_true rfl) (L := [some (aR 21 0), some (aI f), some (aI u)]) rfl ?_
  refine aw_b kX7_ok bX7_mostOf_0_ok (Cs := [0 < 1, 0 ≤ 8 ∧ 8 < 32, 0 < 1, 0 ≤ aOr (f * 2 ^ (Int.toNat 8)) u ∧ aOr (f * 2 ^ (Int.toNat 8)) u < 1536]) (pc' := 11) (L' := [some (aR 21 0), some (aI f), some (aI u)]) (st' := [aI (σ 25 0 (aOr (f * 2 ^ (Int.toNat 8)) u))]) (σ' := σ) rfl (show (0 < 1) ∧ (0 ≤ 8 ∧ 8 < 32) ∧ (0 < 1) ∧ (0 ≤ aOr (f * 2 ^ (Int.toNat 8)) u ∧ aOr (f * 2 ^ (Int.toNat 8)) u < 1536) from ⟨by omega, by omega, by omega, by omega⟩) ?_
  exact aw_iret dX7_mostOf_11 rfl ⟨aret (by rw [eo]), rfl⟩
set_option maxRecDepth 10000 in
theorem cM_fillsCast (l : Launch) (σ : aS) (hw : WF (σ 22 0)) (hd : σ 22 0 1 ≤ 999) (hz : OZ (σ 22 1)) : AM l 6 mX7_fillsCast [aR 21 0] σ ((fun v σ' => v = none ∧ MzL σ' (σ 22 0) ∧ MzB σ' (σ 22 0) 6 ∧ mFr σ σ')) := by
  have bn := hw.1
  have b1 := hw.2.1
  have b2 := hw.2.2.1
  have h00 : σ = aRow σ 1 (σ 22 1) := aRow_id.symm
  obtain ⟨m, hm⟩ : ∃ m : Nat, m = 2 ^ (σ 22 0 0).toNat := ⟨_, rfl⟩
  have hm8 : m ≤ 256 := by rw [hm]; exact pw8 (by omega)
  refine am_of (by decide) (Nat.le_of_ble_eq_true rfl) (L := [some (aR 21 0), none, none, none, none]) rfl ?_
  refine aw_b kX7_ok bX7_fillsCast_0_ok (Cs := []) (pc' := 2) (L' := [some (aR 21 0), some (aI 0), none, none, none]) (st' := []) (σ' := σ) rfl trivial ?_
  refine aloop (P := fun f : Nat => ∀ (τ : aS) (hs : τ 22 0 = σ 22 0) (hX : OZ (τ 22 1)) (hLa : ∀ g q : Int, 0 ≤ g → g < (f : Int) → 0 ≤ q → q < (σ 22 0) 0 → τ 24 0 (8 * g + q) = laF (σ 22 0) g q) (hF : mFr σ τ), AW l 6 mX7_fillsCast _ 2 [some (aR 21 0), some (aI (f : Int)), none, none, none] [] τ) (5) (fun f hf ihf τ hs hX hLa hF => ?_) σ rfl hz (fun g q h0 h1 => by omega) mFr_rf
  refine aw_b kX7_ok bX7_fillsCast_2_ok (Cs := []) (pc' := 4) (L' := [some (aR 21 0), some (aI (f : Int)), none, none, none]) (st' := [aI 5, aI (f : Int)]) (σ' := τ) rfl trivial ?_
  refine aw_cge dX7_fillsCast_4 (tgt := 48) (by decide) ⟨by omega, by omega⟩ ⟨by omega, by omega⟩ (fun wh1 => ?_) (fun wh1 => ?_)
  · refine aw_b kX7_ok bX7_fillsCast_48_ok (Cs := []) (pc' := 50) (L' := [some (aR 21 0), some (aI 5), none, none, none]) (st' := []) (σ' := τ) rfl trivial ?_
    have ef : f = 5 := by omega
    refine aw_eq (L' := [some (aR 21 0), some (aI (5 - ((0 : Nat) : Int))), none, none, none]) rfl rfl rfl ?_
    refine aloop (P := fun j : Nat => ∀ (τ1 : aS) (hs1 : τ1 22 0 = σ 22 0) (hX1 : OZ (τ1 22 1)) (hL1 : MzL τ1 (σ 22 0)) (hB1 : MzB τ1 (σ 22 0) j) (hF1 : mFr σ τ1), AW l 6 mX7_fillsCast _ 50 [some (aR 21 0), some (aI (5 - (j : Int))), none, none, none] [] τ1) (6) (fun j hj ihj τ1 hs1 hX1 hL1 hB1 hF1 => ?_) τ hs hX (fun g q h0 h1 h2 h3 => hLa g q h0 (by omega) h2 h3) (fun i hi => by omega) hF
    refine aw_b kX7_ok bX7_fillsCast_50_ok (Cs := []) (pc' := 51) (L' := [some (aR 21 0), some (aI (5 - (j : Int))), none, none, none]) (st' := [aI (5 - (j : Int))]) (σ' := τ1) rfl trivial ?_
    refine aw_ilt dX7_fillsCast_51 (tgt := 201) (by decide) ⟨by omega, by omega⟩ (fun wh2 => ?_) (fun wh2 => ?_)
    · exact aw_vret dX7_fillsCast_201 rfl ⟨rfl, hL1, by rw [show j = 6 by omega] at hB1; exact hB1, hF1⟩
    · refine aw_b kX7_ok bX7_fillsCast_54_ok (Cs := []) (pc' := 56) (L' := [some (aR 21 0), some (aI (5 - (j : Int))), some (aI 0), none, none]) (st' := []) (σ' := τ1) rfl trivial ?_
      refine aloop (P := fun u : Nat => ∀ (τ2 : aS) (hs2 : τ2 22 0 = σ 22 0) (hX2 : OZ (τ2 22 1)) (hL2 : MzL τ2 (σ 22 0)) (hB2 : MzB τ2 (σ 22 0) j) (hI : ∀ v : Nat, v < u → τ2 25 0 ((5 - (j : Int)) * 256 + (v : Int)) = bfN (laF (σ 22 0)) ((σ 22 0) 0).toNat j (v : Int)) (hF2 : mFr σ τ2), AW l 6 mX7_fillsCast _ 56 [some (aR 21 0), some (aI (5 - (j : Int))), some (aI (u : Int)), none, none] [] τ2) m (fun u hu ihu τ2 hs2 hX2 hL2 hB2 hI hF2 => ?_) τ1 hs1 hX1 hL1 hB1 (fun v hv => by omega) hF1
      have es2 : τ2 22 0 0 = σ 22 0 0 := by rw [hs2]
      have e2 : (1 * 2 ^ (Int.toNat (τ2 22 0 0)) : Int) = (m : Int) := by rw [es2, hm]; simp
      refine aw_b kX7_ok bX7_fillsCast_56_ok (Cs := [0 < 1, 0 < 4, 0 ≤ 0 ∧ 0 < 45, 0 ≤ τ2 22 0 0 ∧ τ2 22 0 0 < 32]) (pc' := 65) (L' := [some (aR 21 0), some (aI (5 - (j : Int))), some (aI (u : Int)), none, none]) (st' := [aI (1 * 2 ^ (Int.toNat (τ2 22 0 0))), aI (u : Int)]) (σ' := τ2) rfl (show (0 < 1) ∧ (0 < 4) ∧ (0 ≤ 0 ∧ 0 < 45) ∧ (0 ≤ τ2 22 0 0 ∧ τ2 22 0 0 < 32) from ⟨by omega, by omega, by omega, by omega⟩) ?_
      refine aw_cge dX7_fillsCast_65 (tgt := 195) (by decide) ⟨by omega, by omega⟩ ⟨by omega, by omega⟩ (fun wh3 => ?_) (fun wh3 => ?_)
      · refine aw_b kX7_ok bX7_fillsCast_195_ok (Cs := []) (pc' := 50) (L' := [some (aR 21 0), some (aI ((5 - (j : Int)) + (-1))), some (aI (u : Int)), none, none]) (st' := []) (σ' := τ2) rfl trivial ?_
        refine aw_drop [2] (L' := [some (aR 21 0), some (aI ((5 - (j : Int)) + (-1))), none, none, none]) rfl ?_
        have eu : u = m := by omega
        exact aw_eq (by rw [show (5 - ((j + 1 : Nat) : Int)) = 5 - (j : Int) + -1 by omega]) rfl rfl (ihj (by omega) τ2 hs2 hX2 hL2 (fun i hi v hv => (if hij : i = j then (by rw [hij]; exact hI v (by rw [eu, hm]; exact hv)) else hB2 i (by omega) v hv)) hF2)
      · refine aw_b kX7_ok bX7_fillsCast_68_ok (Cs := []) (pc' := 70) (L' := [some (aR 21 0), some (aI (5 - (j : Int))), some (aI (u : Int)), none, none]) (st' := [aI 5, aI (5 - (j : Int))]) (σ' := τ2) rfl trivial ?_
        refine aw_cne dX7_fillsCast_70 (tgt := 77) (by decide) ⟨by omega, by omega⟩ ⟨by omega, by omega⟩ (fun wh4 => ?_) (fun wh4 => ?_)
        · refine aw_b kX7_ok bX7_fillsCast_77_ok (Cs := []) (pc' := 82) (L' := [some (aR 21 0), some (aI (5 - (j : Int))), some (aI (u : Int)), none, none]) (st' := [aI (u : Int), aI ((5 - (j : Int)) + 1), aR 21 0]) (σ' := τ2) rfl trivial ?_
          refine aw_fV lX7_188 (as := [aI ((5 - (j : Int)) + 1), aI (u : Int)]) (rest := []) (t := 21) (c := 0) (by decide) (by decide) (by decide) rfl rfl (Nat.le_of_ble_eq_true rfl) rfl dX7_fillsCast_82 (cM_mostOf l ((5 - (j : Int)) + 1) (u : Int) τ2 (by omega) (by omega) (by omega) (by omega)) ?_
          refine aw_b kX7_ok bX7_fillsCast_85_ok (Cs := []) (pc' := 89) (L' := [some (aR 21 0), some (aI (5 - (j : Int))), some (aI (u : Int)), some (aI (τ2 25 0 (((5 - (j : Int)) + 1) * 256 + (u : Int)))), some (aI 0)]) (st' := []) (σ' := τ2) rfl trivial ?_
          have hj1 : 1 ≤ j := by omega
          have ebu := hB2 (j - 1) (by omega) u (by rw [← hm]; omega)
          rw [show (5 - ((j - 1 : Nat) : Int)) = (5 - (j : Int)) + 1 by omega] at ebu
          have hb2 : ∀ v : Int, 0 ≤ v → v < 256 → 0 ≤ bfN (laF (σ 22 0)) ((σ 22 0) 0).toNat (j - 1) v ∧ bfN (laF (σ 22 0)) ((σ 22 0) 0).toNat (j - 1) v ≤ 60 * ((j - 1 : Nat) : Int) := fun v h0 h1 => bfN_rng (by omega) (laF_L (σ 22 0)) (j - 1) (by omega) v h0 h1
          refine aw_eq (L' := [some (aR 21 0), some (aI (5 - (j : Int))), some (aI (u : Int)), some (aI (bfP (laF (σ 22 0)) (bfN (laF (σ 22 0)) ((σ 22 0) 0).toNat (j - 1)) (5 - (j : Int)) (u : Int) 0)), some (aI ((0 : Nat) : Int))]) (by rw [ebu]; rfl) rfl rfl ?_
          refine aloop (P := fun p : Nat => AW l 6 mX7_fillsCast _ 89 [some (aR 21 0), some (aI (5 - (j : Int))), some (aI (u : Int)), some (aI (bfP (laF (σ 22 0)) (bfN (laF (σ 22 0)) ((σ 22 0) 0).toNat (j - 1)) (5 - (j : Int)) (u : Int) p)), some (aI (p : Int))] [] τ2) (((σ 22 0) 0).toNat) (fun p hp ihp => ?_)
          have gp := bfP_rng (La := (laF (σ 22 0))) (b := bfN (laF (σ 22 0)) ((σ 22 0) 0).toNat (j - 1)) (f := (5 - (j : Int))) (m := 60 * ((j - 1 : Nat) : Int)) (laF_L (σ 22 0) _ (by omega) (by omega)) hb2 (u := (u : Int)) (by omega) (by omega) p (by omega)
          have es0 : τ2 22 0 0 = σ 22 0 0 := by rw [hs2]
          refine aw_b kX7_ok bX7_fillsCast_89_ok (Cs := [0 < 1, 0 < 4, 0 ≤ 0 ∧ 0 < 45]) (pc' := 97) (L' := [some (aR 21 0), some (aI (5 - (j : Int))), some (aI (u : Int)), some (aI (bfP (laF (σ 22 0)) (bfN (laF (σ 22 0)) ((σ 22 0) 0).toNat (j - 1)) (5 - (j : Int)) (u : Int) p)), some (aI (p : Int))]) (st' := [aI (τ2 22 0 0), aI (p : Int)]) (σ' := τ2) rfl (show (0 < 1) ∧ (0 < 4) ∧ (0 ≤ 0 ∧ 0 < 45) from ⟨by omega, by omega, by omega⟩) ?_
          refine aw_cge dX7_fillsCast_97 (tgt := 177) (by decide) ⟨by omega, by omega⟩ ⟨by omega, by omega⟩ (fun wh5 => ?_) (fun wh5 => ?_)
          · have eo7 := orI (f := (5 - (j : Int))) (u := (u : Int)) (by omega) (by omega) (by omega) (by omega)
            refine aw_b kX7_ok bX7_fillsCast_177_ok (Cs := [0 < 1, 0 ≤ 8 ∧ 8 < 32, 0 < 1, 0 ≤ aOr ((5 - (j : Int)) * 2 ^ (Int.toNat 8)) (u : Int) ∧ aOr ((5 - (j : Int)) * 2 ^ (Int.toNat 8)) (u : Int) < 1536]) (pc' := 56) (L' := [some (aR 21 0), some (aI (5 - (j : Int))), some (aI ((u : Int) + 1)), some (aI (bfP (laF (σ 22 0)) (bfN (laF (σ 22 0)) ((σ 22 0) 0).toNat (j - 1)) (5 - (j : Int)) (u : Int) p)), some (aI (p : Int))]) (st' := []) (σ' := aUp τ2 25 0 (aOr ((5 - (j : Int)) * 2 ^ (Int.toNat 8)) (u : Int)) (bfP (laF (σ 22 0)) (bfN (laF (σ 22 0)) ((σ 22 0) 0).toNat (j - 1)) (5 - (j : Int)) (u : Int) p)) rfl (show (0 < 1) ∧ (0 ≤ 8 ∧ 8 < 32) ∧ (0 < 1) ∧ (0 ≤ aOr ((5 - (j : Int)) * 2 ^ (Int.toNat 8)) (u : Int) ∧ aOr ((5 - (j : Int)) * 2 ^ (Int.toNat 8)) (u : Int) < 1536) from ⟨by omega, by omega, by omega, by omega⟩) ?_
            refine aw_drop [3, 4] (L' := [some (aR 21 0), some (aI (5 - (j : Int))), some (aI ((u : Int) + 1)), none, none]) rfl ?_
            have ev : bfN (laF (σ 22 0)) ((σ 22 0) 0).toNat j (u : Int) = bfP (laF (σ 22 0)) (bfN (laF (σ 22 0)) ((σ 22 0) 0).toNat (j - 1)) (5 - (j : Int)) (u : Int) p := by rw [bfN_pos _ _ hj1, show p = ((σ 22 0) 0).toNat by omega]
            have eo := orI (f := (5 - (j : Int))) (u := (u : Int)) (by omega) (by omega) (by omega) (by omega)
            exact ihu (by omega) _ (by rw [aUp_t (by decide)]; exact hs2) (by rw [aUp_t (by decide)]; exact hX2) (fun g q h0 h1 h2 h3 => by rw [aUp_tag (by decide)]; exact hL2 g q h0 h1 h2 h3) (fun i hi v hv => by have hv8 := Nat.lt_of_lt_of_le hv (pw8 (N := ((σ 22 0) 0).toNat) (by omega)); rw [eo, aUp_idx (by omega)]; exact hB2 i hi v hv) (fun v hv => (if hvu : v = u then (by rw [hvu, eo, aUp_same, ev]) else (by rw [eo, aUp_idx (by omega)]; exact hI v (by omega)))) (mFr_tr hF2 (mFr_t (by decide)))
          · have bt := bit_all (s := (u : Int)) (by omega) (by omega) (p := (p : Int)) (by omega) (by omega)
            have hao : aOr (u : Int) (1 * 2 ^ (Int.toNat (p : Int))) = addF (u : Int) (p : Int) := rfl
            have al := addF_lt ((σ 22 0) 0).toNat (by omega) p (by omega) u (by rw [← hm]; omega)
            obtain ⟨a, ha⟩ := Int.eq_ofNat_of_zero_le bt.2.1.1
            have a2 : a < 2 ^ ((σ 22 0) 0).toNat := by rw [ha] at al; exact_mod_cast al
            have ew : (τ2 24 0 (8 * (5 - (j : Int)) + (p : Int)) + τ2 25 0 (((5 - (j : Int)) + 1) * 256 + aOr (u : Int) (1 * 2 ^ (Int.toNat (p : Int))))) = (laF (σ 22 0) (5 - (j : Int)) (p : Int) + bfN (laF (σ 22 0)) ((σ 22 0) 0).toNat (j - 1) (addF (u : Int) (p : Int))) := by
              have z := hB2 (j - 1) (by omega) a a2
              rw [show (5 - ((j - 1 : Nat) : Int)) = (5 - (j : Int)) + 1 by omega, ← ha] at z
              rw [hao, z, hL2 _ _ (by omega) (by omega) (by omega) (by omega)]
            have lr := laF_rng (σ 22 0) (5 - (j : Int)) (p : Int)
            have b2 := hb2 (addF (u : Int) (p : Int)) bt.2.1.1 bt.2.1.2
            refine aw_b kX7_ok bX7_fillsCast_100_ok (Cs := []) (pc' := 102) (L' := [some (aR 21 0), some (aI (5 - (j : Int))), some (aI (u : Int)), some (aI (bfP (laF (σ 22 0)) (bfN (laF (σ 22 0)) ((σ 22 0) 0).toNat (j - 1)) (5 - (j : Int)) (u : Int) p)), some (aI (p : Int))]) (st' := [aI 5, aI (5 - (j : Int))]) (σ' := τ2) rfl trivial ?_
            refine aw_cge dX7_fillsCast_102 (tgt := 177) (by decide) ⟨by omega, by omega⟩ ⟨by omega, by omega⟩ (fun wh6 => False.elim (by omega)) (fun wh6 => ?_)
            refine aw_b kX7_ok bX7_fillsCast_105_ok (Cs := []) (pc' := 108) (L' := [some (aR 21 0), some (aI (5 - (j : Int))), some (aI (u : Int)), some (aI (bfP (laF (σ 22 0)) (bfN (laF (σ 22 0)) ((σ 22 0) 0).toNat (j - 1)) (5 - (j : Int)) (u : Int) p)), some (aI (p : Int))]) (st' := [aI (p : Int), aI (u : Int)]) (σ' := τ2) rfl trivial ?_
            refine aw_bS lX7_152 (as := [aI (u : Int), aI (p : Int)]) (rest := []) (by decide) rfl (Nat.le_of_ble_eq_true rfl) rfl dX7_fillsCast_108 (cM_has l (u : Int) (p : Int) τ2 (by omega) (by omega) (by omega) (by omega)) (fun wh7 => ?_) (fun wh7 => ?_)
            · refine aw_ine dX7_fillsCast_111 (tgt := 171) (by decide) ⟨by omega, by omega⟩ (fun wh8 => ?_) (fun wh8 => absurd wh8 (by decide))
              refine aw_b kX7_ok bX7_fillsCast_171_ok (Cs := []) (pc' := 89) (L' := [some (aR 21 0), some (aI (5 - (j : Int))), some (aI (u : Int)), some (aI (bfP (laF (σ 22 0)) (bfN (laF (σ 22 0)) ((σ 22 0) 0).toNat (j - 1)) (5 - (j : Int)) (u : Int) p)), some (aI ((p : Int) + 1))]) (st' := []) (σ' := τ2) rfl trivial ?_
              have e1 : bfP (laF (σ 22 0)) (bfN (laF (σ 22 0)) ((σ 22 0) 0).toNat (j - 1)) (5 - (j : Int)) (u : Int) (p + 1) = bfP (laF (σ 22 0)) (bfN (laF (σ 22 0)) ((σ 22 0) 0).toNat (j - 1)) (5 - (j : Int)) (u : Int) p := by
                rw [bfP]
                split
                · exact if_neg (by omega)
                · rfl
              exact aw_eq (by rw [e1]; rfl) rfl rfl (ihp (by omega))
            · refine aw_ine dX7_fillsCast_111 (tgt := 171) (by decide) ⟨by omega, by omega⟩ (fun wh9 => absurd wh9 (by decide)) (fun wh9 => ?_)
              refine aw_b kX7_ok bX7_fillsCast_114_ok (Cs := [0 < 1, 0 < 1, 0 ≤ (8 * (5 - (j : Int))) + (p : Int) ∧ (8 * (5 - (j : Int))) + (p : Int) < 40, 0 ≤ (p : Int) ∧ (p : Int) < 32]) (pc' := 136) (L' := [some (aR 21 0), some (aI (5 - (j : Int))), some (aI (u : Int)), some (aI (bfP (laF (σ 22 0)) (bfN (laF (σ 22 0)) ((σ 22 0) 0).toNat (j - 1)) (5 - (j : Int)) (u : Int) p)), some (aI (p : Int))]) (st' := [aI (aOr (u : Int) (1 * 2 ^ (Int.toNat (p : Int)))), aI ((5 - (j : Int)) + 1), aR 21 0, aI (τ2 24 0 ((8 * (5 - (j : Int))) + (p : Int)))]) (σ' := τ2) rfl (show (0 < 1) ∧ (0 < 1) ∧ (0 ≤ (8 * (5 - (j : Int))) + (p : Int) ∧ (8 * (5 - (j : Int))) + (p : Int) < 40) ∧ (0 ≤ (p : Int) ∧ (p : Int) < 32) from ⟨by omega, by omega, by omega, by omega⟩) ?_
              refine aw_fV lX7_188 (as := [aI ((5 - (j : Int)) + 1), aI (aOr (u : Int) (1 * 2 ^ (Int.toNat (p : Int))))]) (rest := [aI (τ2 24 0 ((8 * (5 - (j : Int))) + (p : Int)))]) (t := 21) (c := 0) (by decide) (by decide) (by decide) rfl rfl (Nat.le_of_ble_eq_true rfl) rfl dX7_fillsCast_136 (cM_mostOf l ((5 - (j : Int)) + 1) (aOr (u : Int) (1 * 2 ^ (Int.toNat (p : Int)))) τ2 (by omega) (by omega) (by omega) (by omega)) ?_
              refine aw_b kX7_ok bX7_fillsCast_139_ok (Cs := []) (pc' := 141) (L' := [some (aR 21 0), some (aI (5 - (j : Int))), some (aI (u : Int)), some (aI (bfP (laF (σ 22 0)) (bfN (laF (σ 22 0)) ((σ 22 0) 0).toNat (j - 1)) (5 - (j : Int)) (u : Int) p)), some (aI (p : Int))]) (st' := [aI (bfP (laF (σ 22 0)) (bfN (laF (σ 22 0)) ((σ 22 0) 0).toNat (j - 1)) (5 - (j : Int)) (u : Int) p), aI ((τ2 24 0 ((8 * (5 - (j : Int))) + (p : Int))) + (τ2 25 0 (((5 - (j : Int)) + 1) * 256 + (aOr (u : Int) (1 * 2 ^ (Int.toNat (p : Int)))))))]) (σ' := τ2) rfl trivial ?_
              refine aw_cle dX7_fillsCast_141 (tgt := 171) (by decide) ⟨by omega, by omega⟩ ⟨by omega, by omega⟩ (fun wh10 => ?_) (fun wh10 => ?_)
              · refine aw_b kX7_ok bX7_fillsCast_171_ok (Cs := []) (pc' := 89) (L' := [some (aR 21 0), some (aI (5 - (j : Int))), some (aI (u : Int)), some (aI (bfP (laF (σ 22 0)) (bfN (laF (σ 22 0)) ((σ 22 0) 0).toNat (j - 1)) (5 - (j : Int)) (u : Int) p)), some (aI ((p : Int) + 1))]) (st' := []) (σ' := τ2) rfl trivial ?_
                have e1 : bfP (laF (σ 22 0)) (bfN (laF (σ 22 0)) ((σ 22 0) 0).toNat (j - 1)) (5 - (j : Int)) (u : Int) (p + 1) = bfP (laF (σ 22 0)) (bfN (laF (σ 22 0)) ((σ 22 0) 0).toNat (j - 1)) (5 - (j : Int)) (u : Int) p := by
                  rw [bfP]
                  split
                  · exact if_neg (by omega)
                  · rfl
                exact aw_eq (by rw [e1]; rfl) rfl rfl (ihp (by omega))
              · refine aw_b kX7_ok bX7_fillsCast_144_ok (Cs := [0 < 1, 0 < 1, 0 ≤ (8 * (5 - (j : Int))) + (p : Int) ∧ (8 * (5 - (j : Int))) + (p : Int) < 40, 0 ≤ (p : Int) ∧ (p : Int) < 32]) (pc' := 166) (L' := [some (aR 21 0), some (aI (5 - (j : Int))), some (aI (u : Int)), some (aI (bfP (laF (σ 22 0)) (bfN (laF (σ 22 0)) ((σ 22 0) 0).toNat (j - 1)) (5 - (j : Int)) (u : Int) p)), some (aI (p : Int))]) (st' := [aI (aOr (u : Int) (1 * 2 ^ (Int.toNat (p : Int)))), aI ((5 - (j : Int)) + 1), aR 21 0, aI (τ2 24 0 ((8 * (5 - (j : Int))) + (p : Int)))]) (σ' := τ2) rfl (show (0 < 1) ∧ (0 < 1) ∧ (0 ≤ (8 * (5 - (j : Int))) + (p : Int) ∧ (8 * (5 - (j : Int))) + (p : Int) < 40) ∧ (0 ≤ (p : Int) ∧ (p : Int) < 32) from ⟨by omega, by omega, by omega, by omega⟩) ?_
                refine aw_fV lX7_188 (as := [aI ((5 - (j : Int)) + 1), aI (aOr (u : Int) (1 * 2 ^ (Int.toNat (p : Int))))]) (rest := [aI (τ2 24 0 ((8 * (5 - (j : Int))) + (p : Int)))]) (t := 21) (c := 0) (by decide) (by decide) (by decide) rfl rfl (Nat.le_of_ble_eq_true rfl) rfl dX7_fillsCast_166 (cM_mostOf l ((5 - (j : Int)) + 1) (aOr (u : Int) (1 * 2 ^ (Int.toNat (p : Int)))) τ2 (by omega) (by omega) (by omega) (by omega)) ?_
                refine aw_b kX7_ok bX7_fillsCast_169_ok (Cs := []) (pc' := 171) (L' := [some (aR 21 0), some (aI (5 - (j : Int))), some (aI (u : Int)), some (aI ((τ2 24 0 ((8 * (5 - (j : Int))) + (p : Int))) + (τ2 25 0 (((5 - (j : Int)) + 1) * 256 + (aOr (u : Int) (1 * 2 ^ (Int.toNat (p : Int)))))))), some (aI (p : Int))]) (st' := []) (σ' := τ2) rfl trivial ?_
                refine aw_b kX7_ok bX7_fillsCast_171_ok (Cs := []) (pc' := 89) (L' := [some (aR 21 0), some (aI (5 - (j : Int))), some (aI (u : Int)), some (aI ((τ2 24 0 ((8 * (5 - (j : Int))) + (p : Int))) + (τ2 25 0 (((5 - (j : Int)) + 1) * 256 + (aOr (u : Int) (1 * 2 ^ (Int.toNat (p : Int)))))))), some (aI ((p : Int) + 1))]) (st' := []) (σ' := τ2) rfl trivial ?_
                have e1 : bfP (laF (σ 22 0)) (bfN (laF (σ 22 0)) ((σ 22 0) 0).toNat (j - 1)) (5 - (j : Int)) (u : Int) (p + 1) = (laF (σ 22 0) (5 - (j : Int)) (p : Int) + bfN (laF (σ 22 0)) ((σ 22 0) 0).toNat (j - 1) (addF (u : Int) (p : Int))) := by rw [bfP, if_pos (by omega)]; exact if_pos (by omega)
                exact aw_eq (by rw [e1, ← ew]; rfl) rfl rfl (ihp (by omega))
        · refine aw_b kX7_ok bX7_fillsCast_73_ok (Cs := []) (pc' := 85) (L' := [some (aR 21 0), some (aI (5 - (j : Int))), some (aI (u : Int)), none, none]) (st' := [aI 0]) (σ' := τ2) rfl trivial ?_
          refine aw_b kX7_ok bX7_fillsCast_85_ok (Cs := []) (pc' := 89) (L' := [some (aR 21 0), some (aI (5 - (j : Int))), some (aI (u : Int)), some (aI 0), some (aI 0)]) (st' := []) (σ' := τ2) rfl trivial ?_
          refine aw_b kX7_ok bX7_fillsCast_89_ok (Cs := [0 < 1, 0 < 4, 0 ≤ 0 ∧ 0 < 45]) (pc' := 97) (L' := [some (aR 21 0), some (aI (5 - (j : Int))), some (aI (u : Int)), some (aI 0), some (aI 0)]) (st' := [aI (τ2 22 0 0), aI 0]) (σ' := τ2) rfl (show (0 < 1) ∧ (0 < 4) ∧ (0 ≤ 0 ∧ 0 < 45) from ⟨by omega, by omega, by omega⟩) ?_
          refine aw_cge dX7_fillsCast_97 (tgt := 177) (by decide) ⟨by omega, by omega⟩ ⟨by omega, by omega⟩ (fun wh11 => ?_) (fun wh11 => ?_)
          · have eo7 := orI (f := (5 - (j : Int))) (u := (u : Int)) (by omega) (by omega) (by omega) (by omega)
            refine aw_b kX7_ok bX7_fillsCast_177_ok (Cs := [0 < 1, 0 ≤ 8 ∧ 8 < 32, 0 < 1, 0 ≤ aOr ((5 - (j : Int)) * 2 ^ (Int.toNat 8)) (u : Int) ∧ aOr ((5 - (j : Int)) * 2 ^ (Int.toNat 8)) (u : Int) < 1536]) (pc' := 56) (L' := [some (aR 21 0), some (aI (5 - (j : Int))), some (aI ((u : Int) + 1)), some (aI 0), some (aI 0)]) (st' := []) (σ' := aUp τ2 25 0 (aOr ((5 - (j : Int)) * 2 ^ (Int.toNat 8)) (u : Int)) 0) rfl (show (0 < 1) ∧ (0 ≤ 8 ∧ 8 < 32) ∧ (0 < 1) ∧ (0 ≤ aOr ((5 - (j : Int)) * 2 ^ (Int.toNat 8)) (u : Int) ∧ aOr ((5 - (j : Int)) * 2 ^ (Int.toNat 8)) (u : Int) < 1536) from ⟨by omega, by omega, by omega, by omega⟩) ?_
            refine aw_drop [3, 4] (L' := [some (aR 21 0), some (aI (5 - (j : Int))), some (aI ((u : Int) + 1)), none, none]) rfl ?_
            have ev : bfN (laF (σ 22 0)) ((σ 22 0) 0).toNat j (u : Int) = 0 := by rw [show j = 0 by omega]; rfl
            have eo := orI (f := (5 - (j : Int))) (u := (u : Int)) (by omega) (by omega) (by omega) (by omega)
            exact ihu (by omega) _ (by rw [aUp_t (by decide)]; exact hs2) (by rw [aUp_t (by decide)]; exact hX2) (fun g q h0 h1 h2 h3 => by rw [aUp_tag (by decide)]; exact hL2 g q h0 h1 h2 h3) (fun i hi v hv => by have hv8 := Nat.lt_of_lt_of_le hv (pw8 (N := ((σ 22 0) 0).toNat) (by omega)); rw [eo, aUp_idx (by omega)]; exact hB2 i hi v hv) (fun v hv => (if hvu : v = u then (by rw [hvu, eo, aUp_same, ev]) else (by rw [eo, aUp_idx (by omega)]; exact hI v (by omega)))) (mFr_tr hF2 (mFr_t (by decide)))
          · refine aw_b kX7_ok bX7_fillsCast_100_ok (Cs := []) (pc' := 102) (L' := [some (aR 21 0), some (aI (5 - (j : Int))), some (aI (u : Int)), some (aI 0), some (aI 0)]) (st' := [aI 5, aI (5 - (j : Int))]) (σ' := τ2) rfl trivial ?_
            refine aw_cge dX7_fillsCast_102 (tgt := 177) (by decide) ⟨by omega, by omega⟩ ⟨by omega, by omega⟩ (fun wh12 => ?_) (fun wh12 => False.elim (by omega))
            have eo7 := orI (f := (5 - (j : Int))) (u := (u : Int)) (by omega) (by omega) (by omega) (by omega)
            refine aw_b kX7_ok bX7_fillsCast_177_ok (Cs := [0 < 1, 0 ≤ 8 ∧ 8 < 32, 0 < 1, 0 ≤ aOr ((5 - (j : Int)) * 2 ^ (Int.toNat 8)) (u : Int) ∧ aOr ((5 - (j : Int)) * 2 ^ (Int.toNat 8)) (u : Int) < 1536]) (pc' := 56) (L' := [some (aR 21 0), some (aI (5 - (j : Int))), some (aI ((u : Int) + 1)), some (aI 0), some (aI 0)]) (st' := []) (σ' := aUp τ2 25 0 (aOr ((5 - (j : Int)) * 2 ^ (Int.toNat 8)) (u : Int)) 0) rfl (show (0 < 1) ∧ (0 ≤ 8 ∧ 8 < 32) ∧ (0 < 1) ∧ (0 ≤ aOr ((5 - (j : Int)) * 2 ^ (Int.toNat 8)) (u : Int) ∧ aOr ((5 - (j : Int)) * 2 ^ (Int.toNat 8)) (u : Int) < 1536) from ⟨by omega, by omega, by omega, by omega⟩) ?_
            refine aw_drop [3, 4] (L' := [some (aR 21 0), some (aI (5 - (j : Int))), some (aI ((u : Int) + 1)), none, none]) rfl ?_
            have ev : bfN (laF (σ 22 0)) ((σ 22 0) 0).toNat j (u : Int) = 0 := by rw [show j = 0 by omega]; rfl
            have eo := orI (f := (5 - (j : Int))) (u := (u : Int)) (by omega) (by omega) (by omega) (by omega)
            exact ihu (by omega) _ (by rw [aUp_t (by decide)]; exact hs2) (by rw [aUp_t (by decide)]; exact hX2) (fun g q h0 h1 h2 h3 => by rw [aUp_tag (by decide)]; exact hL2 g q h0 h1 h2 h3) (fun i hi v hv => by have hv8 := Nat.lt_of_lt_of_le hv (pw8 (N := ((σ 22 0) 0).toNat) (by omega)); rw [eo, aUp_idx (by omega)]; exact hB2 i hi v hv) (fun v hv => (if hvu : v = u then (by rw [hvu, eo, aUp_same, ev]) else (by rw [eo, aUp_idx (by omega)]; exact hI v (by omega)))) (mFr_tr hF2 (mFr_t (by decide)))
  · refine aw_b kX7_ok bX7_fillsCast_7_ok (Cs := []) (pc' := 9) (L' := [some (aR 21 0), some (aI (f : Int)), some (aI 0), none, none]) (st' := []) (σ' := τ) rfl trivial ?_
    refine aloop (P := fun p : Nat => ∀ (π : aS) (hsp : π 22 0 = σ 22 0) (hXp : OZ (π 22 1)) (hLp : ∀ g q : Int, 0 ≤ g → (g < (f : Int) ∨ (g = (f : Int) ∧ q < (p : Int))) → 0 ≤ q → q < (σ 22 0) 0 → π 24 0 (8 * g + q) = laF (σ 22 0) g q) (hFp : mFr σ π), AW l 6 mX7_fillsCast _ 9 [some (aR 21 0), some (aI (f : Int)), some (aI (p : Int)), none, none] [] (π)) (((σ 22 0) 0).toNat) (fun p hp ihp π hsp hXp hLp hFp => ?_) τ hs hX (fun g q h0 h1 h2 h3 => hLa g q h0 (by omega) h2 h3) hF
    have es0 : π 22 0 0 = σ 22 0 0 := by rw [hsp]
    refine aw_b kX7_ok bX7_fillsCast_9_ok (Cs := [0 < 1, 0 < 4, 0 ≤ 0 ∧ 0 < 45]) (pc' := 16) (L' := [some (aR 21 0), some (aI (f : Int)), some (aI (p : Int)), none, none]) (st' := [aI ((π) 22 0 0), aI (p : Int)]) (σ' := π) rfl (show (0 < 1) ∧ (0 < 4) ∧ (0 ≤ 0 ∧ 0 < 45) from ⟨by omega, by omega, by omega⟩) ?_
    refine aw_cge dX7_fillsCast_16 (tgt := 42) (by decide) ⟨by omega, by omega⟩ ⟨by omega, by omega⟩ (fun wh13 => ?_) (fun wh13 => ?_)
    · refine aw_b kX7_ok bX7_fillsCast_42_ok (Cs := []) (pc' := 2) (L' := [some (aR 21 0), some (aI ((f : Int) + 1)), some (aI (p : Int)), none, none]) (st' := []) (σ' := π) rfl trivial ?_
      refine aw_drop [2] (L' := [some (aR 21 0), some (aI ((f : Int) + 1)), none, none, none]) rfl ?_
      exact ihf (by omega) π hsp hXp (fun g q h0 h1 h2 h3 => hLp g q h0 (by omega) h2 h3) hFp
    · refine aw_b kX7_ok bX7_fillsCast_19_ok (Cs := [0 < 1]) (pc' := 32) (L' := [some (aR 21 0), some (aI (f : Int)), some (aI (p : Int)), none, none]) (st' := [aI (p : Int), aI (f : Int), aR 21 0, aI ((8 * (f : Int)) + (p : Int)), aR 24 0]) (σ' := π) rfl (show 0 < 1 from by omega) ?_
      have hlo := cM_lastsOf l (f : Int) (p : Int) π π _ aRow_id.symm hXp (by rw [hsp]; exact hw) (by rw [hsp]; exact hd) (by omega) (by omega) (by omega) (by rw [hsp]; omega)
      rw [hsp] at hlo
      refine aw_callV lX7_184 (as := [aI (f : Int), aI (p : Int)]) (rest := [aI ((8 * (f : Int)) + (p : Int)), aR 24 0]) (t := 21) (c := 0) (by decide) (by decide) (by decide) rfl rfl (Nat.le_of_ble_eq_true rfl) rfl dX7_fillsCast_32 (hlo) ?_
      rintro _ τ9 ⟨rfl, Y9, hY9, hτ9⟩
      have s9 : τ9 22 0 = σ 22 0 := (rS hτ9).2.trans hsp
      have x9 : OZ (τ9 22 1) := by rw [(rS hτ9).1]; exact hY9.oz
      have F9 : mFr σ τ9 := mFr_tr hFp (by rw [hτ9]; exact mFr_row (Or.inl rfl) hXp hY9.oz)
      refine aw_b kX7_ok bX7_fillsCast_35_ok (Cs := [0 < 1, 0 ≤ (8 * (f : Int)) + (p : Int) ∧ (8 * (f : Int)) + (p : Int) < 40]) (pc' := 9) (L' := [some (aR 21 0), some (aI (f : Int)), some (aI ((p : Int) + 1)), none, none]) (st' := []) (σ' := aUp τ9 24 0 ((8 * (f : Int)) + (p : Int)) (laF (σ 22 0) (f : Int) (p : Int))) rfl (show (0 < 1) ∧ (0 ≤ (8 * (f : Int)) + (p : Int) ∧ (8 * (f : Int)) + (p : Int) < 40) from ⟨by omega, by omega⟩) ?_
      exact ihp (by omega) _ (by rw [aUp_t (by decide)]; exact s9) (by rw [aUp_t (by decide)]; exact x9) (fun g q h0 h1 h2 h3 => (if hgq : 8 * g + q = 8 * (f : Int) + (p : Int) then (by rw [show g = (f : Int) by omega, show q = (p : Int) by omega, aUp_same]) else (by rw [aUp_idx hgq, rO hτ9 (by decide)]; exact hLp g q h0 (by omega) h2 h3))) (mFr_tr F9 (mFr_t (by decide)))
set_option maxRecDepth 10000 in
theorem cM_holderBy (l : Launch) (f u : Nat) (σ τ : aS) (hw : WF (σ 22 0)) (hs : τ 22 0 = σ 22 0) (hL : MzL τ (σ 22 0)) (hB : MzB τ (σ 22 0) 6) (hf : f < 5) (hu : u < 2 ^ ((σ 22 0) 0).toNat) : AM l 1 mX7_holderBy [aR 21 0, aI (f : Int), aI (u : Int)] τ (aF (some (aI (fbF (laF (σ 22 0)) ((σ 22 0) 0).toNat (f : Int) (u : Int) (4 - f) ((σ 22 0) 0).toNat 0))) τ) := by
  have bn := hw.1
  have hp8 := pw8 (N := (σ 22 0 0).toNat) (by omega)
  have es0 : τ 22 0 0 = σ 22 0 0 := by rw [hs]
  refine am_of (by decide) (Nat.le_of_ble_eq_true rfl) (L := [some (aR 21 0), some (aI (f : Int)), some (aI (u : Int)), none]) rfl ?_
  refine aw_b kX7_ok bX7_holderBy_0_ok (Cs := []) (pc' := 2) (L' := [some (aR 21 0), some (aI (f : Int)), some (aI (u : Int)), some (aI 0)]) (st' := []) (σ' := τ) rfl trivial ?_
  refine aloop (P := fun p : Nat => ∀ (hA : fbF (laF (σ 22 0)) ((σ 22 0) 0).toNat (f : Int) (u : Int) (4 - f) ((σ 22 0) 0).toNat 0 = fbF (laF (σ 22 0)) ((σ 22 0) 0).toNat (f : Int) (u : Int) (4 - f) (((σ 22 0) 0).toNat - p) p), AW l 1 mX7_holderBy _ 2 [some (aR 21 0), some (aI (f : Int)), some (aI (u : Int)), some (aI (p : Int))] [] τ) (((σ 22 0) 0).toNat) (fun p hp ihp hA => ?_) rfl
  refine aw_b kX7_ok bX7_holderBy_2_ok (Cs := [0 < 1, 0 < 4, 0 ≤ 0 ∧ 0 < 45]) (pc' := 9) (L' := [some (aR 21 0), some (aI (f : Int)), some (aI (u : Int)), some (aI (p : Int))]) (st' := [aI (τ 22 0 0), aI (p : Int)]) (σ' := τ) rfl (show (0 < 1) ∧ (0 < 4) ∧ (0 ≤ 0 ∧ 0 < 45) from ⟨by omega, by omega, by omega⟩) ?_
  refine aw_cge dX7_holderBy_9 (tgt := 61) (by decide) ⟨by omega, by omega⟩ ⟨by omega, by omega⟩ (fun wh1 => ?_) (fun wh1 => ?_)
  · refine aw_b kX7_ok bX7_holderBy_61_ok (Cs := []) (pc' := 63) (L' := [some (aR 21 0), some (aI (f : Int)), some (aI (u : Int)), some (aI (p : Int))]) (st' := [aI (-4)]) (σ' := τ) rfl trivial ?_
    exact aw_iret dX7_holderBy_63 rfl ⟨aret (by rw [hA, show ((σ 22 0) 0).toNat - p = 0 by omega]; rfl), rfl⟩
  · have bt := bit_all (s := (u : Int)) (by omega) (by omega) (p := (p : Int)) (by omega) (by omega)
    have hao : aOr (u : Int) (1 * 2 ^ (Int.toNat (p : Int))) = addF (u : Int) (p : Int) := rfl
    have al := addF_lt ((σ 22 0) 0).toNat (by omega) p (by omega) u hu
    obtain ⟨a, ha⟩ := Int.eq_ofNat_of_zero_le bt.2.1.1
    have a2 : a < 2 ^ ((σ 22 0) 0).toNat := by rw [ha] at al; exact_mod_cast al
    have ew : (τ 24 0 (8 * (f : Int) + (p : Int)) + τ 25 0 (((f : Int) + 1) * 256 + aOr (u : Int) (1 * 2 ^ (Int.toNat (p : Int))))) = laF (σ 22 0) (f : Int) (p : Int) + bfN (laF (σ 22 0)) ((σ 22 0) 0).toNat (4 - f) (addF (u : Int) (p : Int)) := by
      have z := hB (4 - f) (by omega) a a2
      rw [show (5 - ((4 - f : Nat) : Int)) = (f : Int) + 1 by omega, ← ha] at z
      rw [hao, z, hL _ _ (by omega) (by omega) (by omega) (by omega)]
    have eu : τ 25 0 ((f : Int) * 256 + (u : Int)) = bfN (laF (σ 22 0)) ((σ 22 0) 0).toNat (4 - f + 1) (u : Int) := by
      have z := hB (4 - f + 1) (by omega) u hu
      rw [show (5 - ((4 - f + 1 : Nat) : Int)) = (f : Int) by omega] at z
      exact z
    have lr := laF_rng (σ 22 0) (f : Int) (p : Int)
    have b1r := bfN_rng (La := (laF (σ 22 0))) (N := ((σ 22 0) 0).toNat) (by omega) (laF_L (σ 22 0)) (4 - f) (by omega) (addF (u : Int) (p : Int)) bt.2.1.1 bt.2.1.2
    have b2r := bfN_rng (La := (laF (σ 22 0))) (N := ((σ 22 0) 0).toNat) (by omega) (laF_L (σ 22 0)) (4 - f + 1) (by omega) (u : Int) (by omega) (by omega)
    have hC : fbF (laF (σ 22 0)) ((σ 22 0) 0).toNat (f : Int) (u : Int) (4 - f) ((σ 22 0) 0).toNat 0 = (if bitF (u : Int) (p : Int) = 0 ∧ laF (σ 22 0) (f : Int) (p : Int) + bfN (laF (σ 22 0)) ((σ 22 0) 0).toNat (4 - f) (addF (u : Int) (p : Int)) = bfN (laF (σ 22 0)) ((σ 22 0) 0).toNat (4 - f + 1) (u : Int) then (p : Int) else fbF (laF (σ 22 0)) ((σ 22 0) 0).toNat (f : Int) (u : Int) (4 - f) (((σ 22 0) 0).toNat - (p + 1)) (p + 1)) := by
      rw [hA, show ((σ 22 0) 0).toNat - p = (((σ 22 0) 0).toNat - (p + 1)) + 1 by omega]; rfl
    refine aw_b kX7_ok bX7_holderBy_12_ok (Cs := []) (pc' := 14) (L' := [some (aR 21 0), some (aI (f : Int)), some (aI (u : Int)), some (aI (p : Int))]) (st' := [aI (p : Int), aI (u : Int)]) (σ' := τ) rfl trivial ?_
    refine aw_bS lX7_152 (as := [aI (u : Int), aI (p : Int)]) (rest := []) (by decide) rfl (Nat.le_of_ble_eq_true rfl) rfl dX7_holderBy_14 (cM_has l (u : Int) (p : Int) τ (by omega) (by omega) (by omega) (by omega)) (fun wh2 => ?_) (fun wh2 => ?_)
    · refine aw_ine dX7_holderBy_17 (tgt := 55) (by decide) ⟨by omega, by omega⟩ (fun wh3 => ?_) (fun wh3 => absurd wh3 (by decide))
      refine aw_b kX7_ok bX7_holderBy_55_ok (Cs := []) (pc' := 2) (L' := [some (aR 21 0), some (aI (f : Int)), some (aI (u : Int)), some (aI ((p : Int) + 1))]) (st' := []) (σ' := τ) rfl trivial ?_
      exact ihp (by omega) (hC.trans (if_neg (by omega)))
    · refine aw_ine dX7_holderBy_17 (tgt := 55) (by decide) ⟨by omega, by omega⟩ (fun wh4 => absurd wh4 (by decide)) (fun wh4 => ?_)
      refine aw_b kX7_ok bX7_holderBy_20_ok (Cs := [0 < 1, 0 < 1, 0 ≤ (8 * (f : Int)) + (p : Int) ∧ (8 * (f : Int)) + (p : Int) < 40, 0 ≤ (p : Int) ∧ (p : Int) < 32]) (pc' := 40) (L' := [some (aR 21 0), some (aI (f : Int)), some (aI (u : Int)), some (aI (p : Int))]) (st' := [aI (aOr (u : Int) (1 * 2 ^ (Int.toNat (p : Int)))), aI ((f : Int) + 1), aR 21 0, aI (τ 24 0 ((8 * (f : Int)) + (p : Int)))]) (σ' := τ) rfl (show (0 < 1) ∧ (0 < 1) ∧ (0 ≤ (8 * (f : Int)) + (p : Int) ∧ (8 * (f : Int)) + (p : Int) < 40) ∧ (0 ≤ (p : Int) ∧ (p : Int) < 32) from ⟨by omega, by omega, by omega, by omega⟩) ?_
      refine aw_fV lX7_188 (as := [aI ((f : Int) + 1), aI (aOr (u : Int) (1 * 2 ^ (Int.toNat (p : Int))))]) (rest := [aI (τ 24 0 ((8 * (f : Int)) + (p : Int)))]) (t := 21) (c := 0) (by decide) (by decide) (by decide) rfl rfl (Nat.le_of_ble_eq_true rfl) rfl dX7_holderBy_40 (cM_mostOf l ((f : Int) + 1) (aOr (u : Int) (1 * 2 ^ (Int.toNat (p : Int)))) τ (by omega) (by omega) (by omega) (by omega)) ?_
      refine aw_b kX7_ok bX7_holderBy_43_ok (Cs := []) (pc' := 47) (L' := [some (aR 21 0), some (aI (f : Int)), some (aI (u : Int)), some (aI (p : Int))]) (st' := [aI (u : Int), aI (f : Int), aR 21 0, aI ((τ 24 0 ((8 * (f : Int)) + (p : Int))) + (τ 25 0 (((f : Int) + 1) * 256 + (aOr (u : Int) (1 * 2 ^ (Int.toNat (p : Int)))))))]) (σ' := τ) rfl trivial ?_
      refine aw_fV lX7_188 (as := [aI (f : Int), aI (u : Int)]) (rest := [aI ((τ 24 0 ((8 * (f : Int)) + (p : Int))) + (τ 25 0 (((f : Int) + 1) * 256 + (aOr (u : Int) (1 * 2 ^ (Int.toNat (p : Int)))))))]) (t := 21) (c := 0) (by decide) (by decide) (by decide) rfl rfl (Nat.le_of_ble_eq_true rfl) rfl dX7_holderBy_47 (cM_mostOf l (f : Int) (u : Int) τ (by omega) (by omega) (by omega) (by omega)) ?_
      refine aw_cne dX7_holderBy_50 (tgt := 55) (by decide) ⟨by omega, by omega⟩ ⟨by omega, by omega⟩ (fun wh5 => ?_) (fun wh5 => ?_)
      · refine aw_b kX7_ok bX7_holderBy_55_ok (Cs := []) (pc' := 2) (L' := [some (aR 21 0), some (aI (f : Int)), some (aI (u : Int)), some (aI ((p : Int) + 1))]) (st' := []) (σ' := τ) rfl trivial ?_
        exact ihp (by omega) (hC.trans (if_neg (by omega)))
      · refine aw_b kX7_ok bX7_holderBy_53_ok (Cs := []) (pc' := 54) (L' := [some (aR 21 0), some (aI (f : Int)), some (aI (u : Int)), some (aI (p : Int))]) (st' := [aI (p : Int)]) (σ' := τ) rfl trivial ?_
        exact aw_iret dX7_holderBy_54 rfl ⟨aret (by rw [hC, if_pos (by omega)]), rfl⟩
set_option maxRecDepth 10000 in
theorem cM_casts (l : Launch) (f : Int) (σ : aS) (hw : WF (σ 22 0)) (hd : σ 22 0 1 ≤ 999) (hz : OZ (σ 22 1)) (hf : aIr f) : AM l 7 mX7_casts [aR 21 0, aI f] σ (QM (A_casts (σ 22 0) f) σ) := by
  have bn := hw.1
  have b1 := hw.2.1
  have b2 := hw.2.2.1
  have h00 : σ = aRow σ 1 (σ 22 1) := aRow_id.symm
  have hp8 := pw8 (N := (σ 22 0 0).toNat) (by omega)
  have b50 := bfN_rng (La := (laF (σ 22 0))) (N := ((σ 22 0) 0).toNat) (by omega) (laF_L (σ 22 0)) 5 (by decide) 0 (by decide) (by decide)
  refine am_of (by decide) (Nat.le_of_ble_eq_true rfl) (L := [some (aR 21 0), some (aI f), none, none, none]) rfl ?_
  refine aw_b kX7_ok bX7_casts_0_ok (Cs := []) (pc' := 2) (L' := [some (aR 21 0), some (aI f), none, none, none]) (st' := [aI (-1), aI f]) (σ' := σ) rfl trivial ?_
  refine aw_ceq dX7_casts_2 (tgt := 14) (by decide) ⟨by omega, by omega⟩ ⟨by omega, by omega⟩ (fun wh1 => ?_) (fun wh1 => ?_)
  · refine aw_b kX7_ok bX7_casts_14_ok (Cs := []) (pc' := 15) (L' := [some (aR 21 0), some (aI f), none, none, none]) (st' := [aR 21 0]) (σ' := σ) rfl trivial ?_
    refine aw_callV lX7_191 (as := []) (rest := []) (t := 21) (c := 0) (by decide) (by decide) (by decide) rfl rfl (Nat.le_of_ble_eq_true rfl) rfl dX7_casts_15 (cM_fillsCast l σ hw hd hz) ?_
    rintro _ τ1 ⟨rfl, hL1, hB1, hF1⟩
    have hs1 := hF1.s
    have e50 := hB1 5 (by decide) 0 (Nat.pow_pos (by decide))
    rw [show (5 - ((5 : Nat) : Int)) * 256 + ((0 : Nat) : Int) = 0 by decide] at e50
    refine aw_b kX7_ok bX7_casts_18_ok (Cs := []) (pc' := 19) (L' := [some (aR 21 0), some (aI f), none, none, none]) (st' := [aI f]) (σ' := τ1) rfl trivial ?_
    refine aw_ige dX7_casts_19 (tgt := 29) (by decide) ⟨by omega, by omega⟩ (fun wh2 => ?_) (fun wh2 => ?_)
    · refine aw_b kX7_ok bX7_casts_29_ok (Cs := []) (pc' := 33) (L' := [some (aR 21 0), some (aI f), some (aI 0), some (aI 0), none]) (st' := []) (σ' := τ1) rfl trivial ?_
      refine aloop (P := fun k : Nat => AW l 7 mX7_casts _ 33 [some (aR 21 0), some (aI f), some (aI (usN (laF (σ 22 0)) ((σ 22 0) 0).toNat k)), some (aI (k : Int)), none] [] τ1) f.toNat (fun k hk ihk => ?_)
      have gu := usN_rng (laF (σ 22 0)) (N := ((σ 22 0) 0).toNat) (by omega) k
      obtain ⟨u, hu⟩ := Int.eq_ofNat_of_zero_le gu.1
      have u2 : u < 2 ^ ((σ 22 0) 0).toNat := by rw [hu] at gu; have := gu.2; exact_mod_cast this
      refine aw_b kX7_ok bX7_casts_33_ok (Cs := []) (pc' := 35) (L' := [some (aR 21 0), some (aI f), some (aI (usN (laF (σ 22 0)) ((σ 22 0) 0).toNat k)), some (aI (k : Int)), none]) (st' := [aI f, aI (k : Int)]) (σ' := τ1) rfl trivial ?_
      refine aw_cge dX7_casts_35 (tgt := 68) (by decide) ⟨by omega, by omega⟩ ⟨by omega, by omega⟩ (fun wh3 => ?_) (fun wh3 => ?_)
      · refine aw_b kX7_ok bX7_casts_68_ok (Cs := []) (pc' := 71) (L' := [some (aR 21 0), some (aI f), some (aI (usN (laF (σ 22 0)) ((σ 22 0) 0).toNat k)), some (aI (k : Int)), none]) (st' := [aI (usN (laF (σ 22 0)) ((σ 22 0) 0).toNat k), aI f, aR 21 0]) (σ' := τ1) rfl trivial ?_
        have ekf : f = (k : Int) := by omega
        have hho := cM_holderBy l k u σ τ1 hw hs1 hL1 hB1 (by omega) u2
        rw [← hu, ← ekf] at hho
        refine aw_fV lX7_194 (as := [aI f, aI (usN (laF (σ 22 0)) ((σ 22 0) 0).toNat k)]) (rest := []) (t := 21) (c := 0) (by decide) (by decide) (by decide) rfl rfl (Nat.le_of_ble_eq_true rfl) rfl dX7_casts_71 (hho) ?_
        exact aw_iret dX7_casts_74 rfl ⟨aret (by unfold A_casts; rw [if_neg (by omega), if_pos (by omega), show f.toNat = k by omega]), hF1⟩
      · refine aw_b kX7_ok bX7_casts_38_ok (Cs := []) (pc' := 41) (L' := [some (aR 21 0), some (aI f), some (aI (usN (laF (σ 22 0)) ((σ 22 0) 0).toNat k)), some (aI (k : Int)), none]) (st' := [aI (usN (laF (σ 22 0)) ((σ 22 0) 0).toNat k), aI (k : Int), aR 21 0]) (σ' := τ1) rfl trivial ?_
        have hho := cM_holderBy l k u σ τ1 hw hs1 hL1 hB1 (by omega) u2
        rw [← hu] at hho
        have gb := fbF_rng (laF (σ 22 0)) ((σ 22 0) 0).toNat (k : Int) (usN (laF (σ 22 0)) ((σ 22 0) 0).toNat k) (4 - k) ((σ 22 0) 0).toNat 0
        refine aw_fV lX7_194 (as := [aI (k : Int), aI (usN (laF (σ 22 0)) ((σ 22 0) 0).toNat k)]) (rest := []) (t := 21) (c := 0) (by decide) (by decide) (by decide) rfl rfl (Nat.le_of_ble_eq_true rfl) rfl dX7_casts_41 (hho) ?_
        refine aw_b kX7_ok bX7_casts_44_ok (Cs := []) (pc' := 49) (L' := [some (aR 21 0), some (aI f), some (aI (usN (laF (σ 22 0)) ((σ 22 0) 0).toNat k)), some (aI (k : Int)), some (aI (fbF (laF (σ 22 0)) ((σ 22 0) 0).toNat (k : Int) (usN (laF (σ 22 0)) ((σ 22 0) 0).toNat k) (4 - k) ((σ 22 0) 0).toNat 0))]) (st' := [aI (fbF (laF (σ 22 0)) ((σ 22 0) 0).toNat (k : Int) (usN (laF (σ 22 0)) ((σ 22 0) 0).toNat k) (4 - k) ((σ 22 0) 0).toNat 0), aI (usN (laF (σ 22 0)) ((σ 22 0) 0).toNat k)]) (σ' := τ1) rfl trivial ?_
        refine aw_ige dX7_casts_49 (tgt := 56) (by decide) ⟨by omega, by omega⟩ (fun wh4 => ?_) (fun wh4 => ?_)
        · refine aw_b kX7_ok bX7_casts_56_ok (Cs := [0 ≤ fbF (laF (σ 22 0)) ((σ 22 0) 0).toNat (k : Int) (usN (laF (σ 22 0)) ((σ 22 0) 0).toNat k) (4 - k) ((σ 22 0) 0).toNat 0 ∧ fbF (laF (σ 22 0)) ((σ 22 0) 0).toNat (k : Int) (usN (laF (σ 22 0)) ((σ 22 0) 0).toNat k) (4 - k) ((σ 22 0) 0).toNat 0 < 32]) (pc' := 60) (L' := [some (aR 21 0), some (aI f), some (aI (usN (laF (σ 22 0)) ((σ 22 0) 0).toNat k)), some (aI (k : Int)), some (aI (fbF (laF (σ 22 0)) ((σ 22 0) 0).toNat (k : Int) (usN (laF (σ 22 0)) ((σ 22 0) 0).toNat k) (4 - k) ((σ 22 0) 0).toNat 0))]) (st' := [aI (1 * 2 ^ (Int.toNat (fbF (laF (σ 22 0)) ((σ 22 0) 0).toNat (k : Int) (usN (laF (σ 22 0)) ((σ 22 0) 0).toNat k) (4 - k) ((σ 22 0) 0).toNat 0))), aI (usN (laF (σ 22 0)) ((σ 22 0) 0).toNat k)]) (σ' := τ1) rfl (show 0 ≤ fbF (laF (σ 22 0)) ((σ 22 0) 0).toNat (k : Int) (usN (laF (σ 22 0)) ((σ 22 0) 0).toNat k) (4 - k) ((σ 22 0) 0).toNat 0 ∧ fbF (laF (σ 22 0)) ((σ 22 0) 0).toNat (k : Int) (usN (laF (σ 22 0)) ((σ 22 0) 0).toNat k) (4 - k) ((σ 22 0) 0).toNat 0 < 32 from by omega) ?_
          refine aw_b kX7_ok bX7_casts_60_ok (Cs := []) (pc' := 33) (L' := [some (aR 21 0), some (aI f), some (aI (aOr (usN (laF (σ 22 0)) ((σ 22 0) 0).toNat k) (1 * 2 ^ (Int.toNat (fbF (laF (σ 22 0)) ((σ 22 0) 0).toNat (k : Int) (usN (laF (σ 22 0)) ((σ 22 0) 0).toNat k) (4 - k) ((σ 22 0) 0).toNat 0))))), some (aI ((k : Int) + 1)), some (aI (fbF (laF (σ 22 0)) ((σ 22 0) 0).toNat (k : Int) (usN (laF (σ 22 0)) ((σ 22 0) 0).toNat k) (4 - k) ((σ 22 0) 0).toNat 0))]) (st' := []) (σ' := τ1) rfl trivial ?_
          refine aw_drop [4] (L' := [some (aR 21 0), some (aI f), some (aI (aOr (usN (laF (σ 22 0)) ((σ 22 0) 0).toNat k) (1 * 2 ^ (Int.toNat (fbF (laF (σ 22 0)) ((σ 22 0) 0).toNat (k : Int) (usN (laF (σ 22 0)) ((σ 22 0) 0).toNat k) (4 - k) ((σ 22 0) 0).toNat 0))))), some (aI ((k : Int) + 1)), none]) rfl ?_
          have e1 : aOr (usN (laF (σ 22 0)) ((σ 22 0) 0).toNat k) (1 * 2 ^ (Int.toNat (fbF (laF (σ 22 0)) ((σ 22 0) 0).toNat (k : Int) (usN (laF (σ 22 0)) ((σ 22 0) 0).toNat k) (4 - k) ((σ 22 0) 0).toNat 0))) = usN (laF (σ 22 0)) ((σ 22 0) 0).toNat (k + 1) := by rw [usN, if_neg (by omega)]; rfl
          exact aw_eq (by rw [e1]; rfl) rfl rfl (ihk (by omega))
        · refine aw_b kX7_ok bX7_casts_52_ok (Cs := []) (pc' := 60) (L' := [some (aR 21 0), some (aI f), some (aI (usN (laF (σ 22 0)) ((σ 22 0) 0).toNat k)), some (aI (k : Int)), some (aI (fbF (laF (σ 22 0)) ((σ 22 0) 0).toNat (k : Int) (usN (laF (σ 22 0)) ((σ 22 0) 0).toNat k) (4 - k) ((σ 22 0) 0).toNat 0))]) (st' := [aI 0, aI (usN (laF (σ 22 0)) ((σ 22 0) 0).toNat k)]) (σ' := τ1) rfl trivial ?_
          refine aw_b kX7_ok bX7_casts_60_ok (Cs := []) (pc' := 33) (L' := [some (aR 21 0), some (aI f), some (aI (aOr (usN (laF (σ 22 0)) ((σ 22 0) 0).toNat k) 0)), some (aI ((k : Int) + 1)), some (aI (fbF (laF (σ 22 0)) ((σ 22 0) 0).toNat (k : Int) (usN (laF (σ 22 0)) ((σ 22 0) 0).toNat k) (4 - k) ((σ 22 0) 0).toNat 0))]) (st' := []) (σ' := τ1) rfl trivial ?_
          refine aw_drop [4] (L' := [some (aR 21 0), some (aI f), some (aI (aOr (usN (laF (σ 22 0)) ((σ 22 0) 0).toNat k) 0)), some (aI ((k : Int) + 1)), none]) rfl ?_
          have e1 : aOr (usN (laF (σ 22 0)) ((σ 22 0) 0).toNat k) 0 = usN (laF (σ 22 0)) ((σ 22 0) 0).toNat (k + 1) := by rw [or_0 gu.1 (by omega), usN, if_pos (by omega)]
          exact aw_eq (by rw [e1]; rfl) rfl rfl (ihk (by omega))
    · refine aw_b kX7_ok bX7_casts_22_ok (Cs := [0 < 1, 0 < 1, 0 ≤ 0 ∧ 0 < 1536]) (pc' := 28) (L' := [some (aR 21 0), some (aI f), none, none, none]) (st' := [aI (τ1 25 0 0)]) (σ' := τ1) rfl (show (0 < 1) ∧ (0 < 1) ∧ (0 ≤ 0 ∧ 0 < 1536) from ⟨by omega, by omega, by omega⟩) ?_
      exact aw_iret dX7_casts_28 rfl ⟨aret (by unfold A_casts; rw [if_pos (by omega)]; exact e50), hF1⟩
  · refine aw_b kX7_ok bX7_casts_5_ok (Cs := []) (pc' := 6) (L' := [some (aR 21 0), some (aI f), none, none, none]) (st' := [aI f]) (σ' := σ) rfl trivial ?_
    refine aw_bS lX7_125 (as := [aI f]) (rest := []) (by decide) rfl (Nat.le_of_ble_eq_true rfl) rfl dX7_casts_6 (cM_isOffice l f σ ⟨by omega, by omega⟩) (fun wh5 => ?_) (fun wh5 => ?_)
    · refine aw_ine dX7_casts_9 (tgt := 14) (by decide) ⟨by omega, by omega⟩ (fun wh6 => ?_) (fun wh6 => absurd wh6 (by decide))
      refine aw_b kX7_ok bX7_casts_14_ok (Cs := []) (pc' := 15) (L' := [some (aR 21 0), some (aI f), none, none, none]) (st' := [aR 21 0]) (σ' := σ) rfl trivial ?_
      refine aw_callV lX7_191 (as := []) (rest := []) (t := 21) (c := 0) (by decide) (by decide) (by decide) rfl rfl (Nat.le_of_ble_eq_true rfl) rfl dX7_casts_15 (cM_fillsCast l σ hw hd hz) ?_
      rintro _ τ1 ⟨rfl, hL1, hB1, hF1⟩
      have hs1 := hF1.s
      have e50 := hB1 5 (by decide) 0 (Nat.pow_pos (by decide))
      rw [show (5 - ((5 : Nat) : Int)) * 256 + ((0 : Nat) : Int) = 0 by decide] at e50
      refine aw_b kX7_ok bX7_casts_18_ok (Cs := []) (pc' := 19) (L' := [some (aR 21 0), some (aI f), none, none, none]) (st' := [aI f]) (σ' := τ1) rfl trivial ?_
      refine aw_ige dX7_casts_19 (tgt := 29) (by decide) ⟨by omega, by omega⟩ (fun wh7 => ?_) (fun wh7 => ?_)
      · refine aw_b kX7_ok bX7_casts_29_ok (Cs := []) (pc' := 33) (L' := [some (aR 21 0), some (aI f), some (aI 0), some (aI 0), none]) (st' := []) (σ' := τ1) rfl trivial ?_
        refine aloop (P := fun k : Nat => AW l 7 mX7_casts _ 33 [some (aR 21 0), some (aI f), some (aI (usN (laF (σ 22 0)) ((σ 22 0) 0).toNat k)), some (aI (k : Int)), none] [] τ1) f.toNat (fun k hk ihk => ?_)
        have gu := usN_rng (laF (σ 22 0)) (N := ((σ 22 0) 0).toNat) (by omega) k
        obtain ⟨u, hu⟩ := Int.eq_ofNat_of_zero_le gu.1
        have u2 : u < 2 ^ ((σ 22 0) 0).toNat := by rw [hu] at gu; have := gu.2; exact_mod_cast this
        refine aw_b kX7_ok bX7_casts_33_ok (Cs := []) (pc' := 35) (L' := [some (aR 21 0), some (aI f), some (aI (usN (laF (σ 22 0)) ((σ 22 0) 0).toNat k)), some (aI (k : Int)), none]) (st' := [aI f, aI (k : Int)]) (σ' := τ1) rfl trivial ?_
        refine aw_cge dX7_casts_35 (tgt := 68) (by decide) ⟨by omega, by omega⟩ ⟨by omega, by omega⟩ (fun wh8 => ?_) (fun wh8 => ?_)
        · refine aw_b kX7_ok bX7_casts_68_ok (Cs := []) (pc' := 71) (L' := [some (aR 21 0), some (aI f), some (aI (usN (laF (σ 22 0)) ((σ 22 0) 0).toNat k)), some (aI (k : Int)), none]) (st' := [aI (usN (laF (σ 22 0)) ((σ 22 0) 0).toNat k), aI f, aR 21 0]) (σ' := τ1) rfl trivial ?_
          have ekf : f = (k : Int) := by omega
          have hho := cM_holderBy l k u σ τ1 hw hs1 hL1 hB1 (by omega) u2
          rw [← hu, ← ekf] at hho
          refine aw_fV lX7_194 (as := [aI f, aI (usN (laF (σ 22 0)) ((σ 22 0) 0).toNat k)]) (rest := []) (t := 21) (c := 0) (by decide) (by decide) (by decide) rfl rfl (Nat.le_of_ble_eq_true rfl) rfl dX7_casts_71 (hho) ?_
          exact aw_iret dX7_casts_74 rfl ⟨aret (by unfold A_casts; rw [if_neg (by omega), if_pos (by omega), show f.toNat = k by omega]), hF1⟩
        · refine aw_b kX7_ok bX7_casts_38_ok (Cs := []) (pc' := 41) (L' := [some (aR 21 0), some (aI f), some (aI (usN (laF (σ 22 0)) ((σ 22 0) 0).toNat k)), some (aI (k : Int)), none]) (st' := [aI (usN (laF (σ 22 0)) ((σ 22 0) 0).toNat k), aI (k : Int), aR 21 0]) (σ' := τ1) rfl trivial ?_
          have hho := cM_holderBy l k u σ τ1 hw hs1 hL1 hB1 (by omega) u2
          rw [← hu] at hho
          have gb := fbF_rng (laF (σ 22 0)) ((σ 22 0) 0).toNat (k : Int) (usN (laF (σ 22 0)) ((σ 22 0) 0).toNat k) (4 - k) ((σ 22 0) 0).toNat 0
          refine aw_fV lX7_194 (as := [aI (k : Int), aI (usN (laF (σ 22 0)) ((σ 22 0) 0).toNat k)]) (rest := []) (t := 21) (c := 0) (by decide) (by decide) (by decide) rfl rfl (Nat.le_of_ble_eq_true rfl) rfl dX7_casts_41 (hho) ?_
          refine aw_b kX7_ok bX7_casts_44_ok (Cs := []) (pc' := 49) (L' := [some (aR 21 0), some (aI f), some (aI (usN (laF (σ 22 0)) ((σ 22 0) 0).toNat k)), some (aI (k : Int)), some (aI (fbF (laF (σ 22 0)) ((σ 22 0) 0).toNat (k : Int) (usN (laF (σ 22 0)) ((σ 22 0) 0).toNat k) (4 - k) ((σ 22 0) 0).toNat 0))]) (st' := [aI (fbF (laF (σ 22 0)) ((σ 22 0) 0).toNat (k : Int) (usN (laF (σ 22 0)) ((σ 22 0) 0).toNat k) (4 - k) ((σ 22 0) 0).toNat 0), aI (usN (laF (σ 22 0)) ((σ 22 0) 0).toNat k)]) (σ' := τ1) rfl trivial ?_
          refine aw_ige dX7_casts_49 (tgt := 56) (by decide) ⟨by omega, by omega⟩ (fun wh9 => ?_) (fun wh9 => ?_)
          · refine aw_b kX7_ok bX7_casts_56_ok (Cs := [0 ≤ fbF (laF (σ 22 0)) ((σ 22 0) 0).toNat (k : Int) (usN (laF (σ 22 0)) ((σ 22 0) 0).toNat k) (4 - k) ((σ 22 0) 0).toNat 0 ∧ fbF (laF (σ 22 0)) ((σ 22 0) 0).toNat (k : Int) (usN (laF (σ 22 0)) ((σ 22 0) 0).toNat k) (4 - k) ((σ 22 0) 0).toNat 0 < 32]) (pc' := 60) (L' := [some (aR 21 0), some (aI f), some (aI (usN (laF (σ 22 0)) ((σ 22 0) 0).toNat k)), some (aI (k : Int)), some (aI (fbF (laF (σ 22 0)) ((σ 22 0) 0).toNat (k : Int) (usN (laF (σ 22 0)) ((σ 22 0) 0).toNat k) (4 - k) ((σ 22 0) 0).toNat 0))]) (st' := [aI (1 * 2 ^ (Int.toNat (fbF (laF (σ 22 0)) ((σ 22 0) 0).toNat (k : Int) (usN (laF (σ 22 0)) ((σ 22 0) 0).toNat k) (4 - k) ((σ 22 0) 0).toNat 0))), aI (usN (laF (σ 22 0)) ((σ 22 0) 0).toNat k)]) (σ' := τ1) rfl (show 0 ≤ fbF (laF (σ 22 0)) ((σ 22 0) 0).toNat (k : Int) (usN (laF (σ 22 0)) ((σ 22 0) 0).toNat k) (4 - k) ((σ 22 0) 0).toNat 0 ∧ fbF (laF (σ 22 0)) ((σ 22 0) 0).toNat (k : Int) (usN (laF (σ 22 0)) ((σ 22 0) 0).toNat k) (4 - k) ((σ 22 0) 0).toNat 0 < 32 from by omega) ?_
            refine aw_b kX7_ok bX7_casts_60_ok (Cs := []) (pc' := 33) (L' := [some (aR 21 0), some (aI f), some (aI (aOr (usN (laF (σ 22 0)) ((σ 22 0) 0).toNat k) (1 * 2 ^ (Int.toNat (fbF (laF (σ 22 0)) ((σ 22 0) 0).toNat (k : Int) (usN (laF (σ 22 0)) ((σ 22 0) 0).toNat k) (4 - k) ((σ 22 0) 0).toNat 0))))), some (aI ((k : Int) + 1)), some (aI (fbF (laF (σ 22 0)) ((σ 22 0) 0).toNat (k : Int) (usN (laF (σ 22 0)) ((σ 22 0) 0).toNat k) (4 - k) ((σ 22 0) 0).toNat 0))]) (st' := []) (σ' := τ1) rfl trivial ?_
            refine aw_drop [4] (L' := [some (aR 21 0), some (aI f), some (aI (aOr (usN (laF (σ 22 0)) ((σ 22 0) 0).toNat k) (1 * 2 ^ (Int.toNat (fbF (laF (σ 22 0)) ((σ 22 0) 0).toNat (k : Int) (usN (laF (σ 22 0)) ((σ 22 0) 0).toNat k) (4 - k) ((σ 22 0) 0).toNat 0))))), some (aI ((k : Int) + 1)), none]) rfl ?_
            have e1 : aOr (usN (laF (σ 22 0)) ((σ 22 0) 0).toNat k) (1 * 2 ^ (Int.toNat (fbF (laF (σ 22 0)) ((σ 22 0) 0).toNat (k : Int) (usN (laF (σ 22 0)) ((σ 22 0) 0).toNat k) (4 - k) ((σ 22 0) 0).toNat 0))) = usN (laF (σ 22 0)) ((σ 22 0) 0).toNat (k + 1) := by rw [usN, if_neg (by omega)]; rfl
            exact aw_eq (by rw [e1]; rfl) rfl rfl (ihk (by omega))
          · refine aw_b kX7_ok bX7_casts_52_ok (Cs := []) (pc' := 60) (L' := [some (aR 21 0), some (aI f), some (aI (usN (laF (σ 22 0)) ((σ 22 0) 0).toNat k)), some (aI (k : Int)), some (aI (fbF (laF (σ 22 0)) ((σ 22 0) 0).toNat (k : Int) (usN (laF (σ 22 0)) ((σ 22 0) 0).toNat k) (4 - k) ((σ 22 0) 0).toNat 0))]) (st' := [aI 0, aI (usN (laF (σ 22 0)) ((σ 22 0) 0).toNat k)]) (σ' := τ1) rfl trivial ?_
            refine aw_b kX7_ok bX7_casts_60_ok (Cs := []) (pc' := 33) (L' := [some (aR 21 0), some (aI f), some (aI (aOr (usN (laF (σ 22 0)) ((σ 22 0) 0).toNat k) 0)), some (aI ((k : Int) + 1)), some (aI (fbF (laF (σ 22 0)) ((σ 22 0) 0).toNat (k : Int) (usN (laF (σ 22 0)) ((σ 22 0) 0).toNat k) (4 - k) ((σ 22 0) 0).toNat 0))]) (st' := []) (σ' := τ1) rfl trivial ?_
            refine aw_drop [4] (L' := [some (aR 21 0), some (aI f), some (aI (aOr (usN (laF (σ 22 0)) ((σ 22 0) 0).toNat k) 0)), some (aI ((k : Int) + 1)), none]) rfl ?_
            have e1 : aOr (usN (laF (σ 22 0)) ((σ 22 0) 0).toNat k) 0 = usN (laF (σ 22 0)) ((σ 22 0) 0).toNat (k + 1) := by rw [or_0 gu.1 (by omega), usN, if_pos (by omega)]
            exact aw_eq (by rw [e1]; rfl) rfl rfl (ihk (by omega))
      · refine aw_b kX7_ok bX7_casts_22_ok (Cs := [0 < 1, 0 < 1, 0 ≤ 0 ∧ 0 < 1536]) (pc' := 28) (L' := [some (aR 21 0), some (aI f), none, none, none]) (st' := [aI (τ1 25 0 0)]) (σ' := τ1) rfl (show (0 < 1) ∧ (0 < 1) ∧ (0 ≤ 0 ∧ 0 < 1536) from ⟨by omega, by omega, by omega⟩) ?_
        exact aw_iret dX7_casts_28 rfl ⟨aret (by unfold A_casts; rw [if_pos (by omega)]; exact e50), hF1⟩
    · refine aw_ine dX7_casts_9 (tgt := 14) (by decide) ⟨by omega, by omega⟩ (fun wh10 => absurd wh10 (by decide)) (fun wh10 => ?_)
      refine aw_b kX7_ok bX7_casts_12_ok (Cs := []) (pc' := 13) (L' := [some (aR 21 0), some (aI f), none, none, none]) (st' := [aI (-1)]) (σ' := σ) rfl trivial ?_
      exact aw_iret dX7_casts_13 rfl ⟨aret (by unfold A_casts; rw [if_neg (by omega), if_neg (by omega)]), mFr_rf⟩
