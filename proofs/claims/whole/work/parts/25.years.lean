/-! ===== the class: scandals, shares, years ===== -/
def scP (r : aRw) : Nat → aRw
  | 0 => r
  | n + 1 => if 0 ≤ off (scP r n) n then rUp (scP r n) (aOf n 2) (if 99 < scP r n (aOf n 2) + 5 then 99 else scP r n (aOf n 2) + 5) else scP r n
theorem scP_0 (r : aRw) : ∀ n : Nat, scP r n 0 = r 0 ∧ scP r n 1 = r 1
  | 0 => ⟨rfl, rfl⟩
  | n + 1 => by
    have h := scP_0 r n
    unfold scP
    split
    · rw [rUp_ne (by unfold aOf; omega), rUp_ne (by unfold aOf; omega)]; exact h
    · exact h
theorem scP_wf {r : aRw} (hw : WF r) : ∀ n : Nat, (n : Int) ≤ r 0 → WF (scP r n)
  | 0, _ => hw
  | n + 1, hn => by
    have h := scP_wf hw n (by omega)
    have e := scP_0 r n
    unfold scP
    split
    · have b := h.pe (p := (n : Int)) (by omega) (by omega)
      exact WF_known h (by omega) (by omega) (by split <;> omega)
    · exact h
theorem scP_in {r : aRw} {n : Nat} (h : 0 ≤ off (scP r n) n) : scP r (n + 1) = rUp (scP r n) (aOf n 2) (if 99 < scP r n (aOf n 2) + 5 then 99 else scP r n (aOf n 2) + 5) := by
  rw [scP, if_pos h]
theorem scP_out {r : aRw} {n : Nat} (h : ¬ 0 ≤ off (scP r n) n) : scP r (n + 1) = scP r n := by
  rw [scP, if_neg h]
def scD (r : aRw) (s : Int) (i : Int) : aRw := if bitF s i = 1 then scP r (r 0).toNat else r
def scN (r : aRw) (s : Int) : Nat → aRw
  | 0 => r
  | i + 1 => dayR (scD (scN r s i) s i)
theorem scD_wf {r : aRw} (hw : WF r) (s i : Int) : WF (scD r s i) := by
  unfold scD
  have := hw.1
  split
  · exact scP_wf hw _ (by omega)
  · exact hw
theorem scD_0 (r : aRw) (s i : Int) : scD r s i 0 = r 0 ∧ scD r s i 1 = r 1 := by
  unfold scD
  split
  · exact scP_0 r _
  · exact ⟨rfl, rfl⟩
theorem scN_wf {r : aRw} (hw : WF r) (s : Int) : ∀ i : Nat, WF (scN r s i)
  | 0 => hw
  | i + 1 => dayR_wf (scD_wf (scN_wf hw s i) s i)
theorem scN_0 (r : aRw) (s : Int) : ∀ i : Nat, scN r s i 0 = r 0 ∧ scN r s i 1 = r 1 + i
  | 0 => ⟨rfl, (Int.add_zero _).symm⟩
  | i + 1 => by
    have h := scN_0 r s i
    have g := scD_0 (scN r s i) s i
    unfold scN
    rw [(dayR_0 _).1, (dayR_0 _).2, g.1, g.2, h.1, h.2]
    exact ⟨rfl, by omega⟩
def weN (s t : Int) : Nat → Int
  | 0 => 1
  | i + 1 => if bitF s i = 0 then weN s t i * (t - 1) else weN s t i
theorem weN_rng (s : Int) {t : Int} (h2 : 2 ≤ t) (h3 : t ≤ 20) : ∀ i : Nat, 1 ≤ weN s t i ∧ weN s t i ≤ 19 ^ i
  | 0 => ⟨Int.le_refl _, Int.le_refl _⟩
  | i + 1 => by
    have h := weN_rng s h2 h3 i
    have a : weN s t i * (t - 1) ≤ 19 ^ i * 19 := Int.mul_le_mul h.2 (by omega) (by omega) (by omega)
    have b : 1 * 1 ≤ weN s t i * (t - 1) := Int.mul_le_mul h.1 (by omega) (by omega) (by omega)
    unfold weN
    rw [Int.pow_succ]
    split
    · omega
    · omega
theorem pw_tab : ∀ i : Nat, i ≤ 7 → (19 : Int) ^ i ≤ 893871739 ∧ (20 : Int) ^ i ≤ 1280000000 := by decide +kernel
theorem pw_rng {t : Int} (h2 : 2 ≤ t) (h3 : t ≤ 20) : ∀ i : Nat, 1 ≤ t ^ i ∧ t ^ i ≤ 20 ^ i
  | 0 => ⟨by rw [Int.pow_zero]; decide, by rw [Int.pow_zero, Int.pow_zero]; decide⟩
  | i + 1 => by
    have h := pw_rng h2 h3 i
    have a : t ^ i * t ≤ 20 ^ i * 20 := Int.mul_le_mul h.2 h3 (by omega) (by omega)
    have b : 1 * 1 ≤ t ^ i * t := Int.mul_le_mul h.1 (by omega) (by omega) (by omega)
    rw [Int.pow_succ, Int.pow_succ]
    omega
def abN (r : aRw) (f n t : Int) : Nat → Int
  | 0 => 0
  | k + 1 => abN r f n t k + (if 0 ≤ scN r k n.toNat (8 + f) then weN k t n.toNat else 0)
theorem abN_rng (r : aRw) (f : Int) {n t : Int} (hn : n ≤ 7) (h2 : 2 ≤ t) (h3 : t ≤ 20) : ∀ k : Nat, 0 ≤ abN r f n t k ∧ abN r f n t k ≤ 893871739 * k
  | 0 => ⟨Int.le_refl _, Int.le_refl _⟩
  | k + 1 => by
    have h := abN_rng r f hn h2 h3 k
    have a := weN_rng k h2 h3 n.toNat
    have b := pw_tab n.toNat (by omega)
    unfold abN
    split <;> omega
/-- the common divisor -/
def gcD (a b : Int) : Int := ((Nat.gcd a.toNat b.toNat : Nat) : Int)
def gcN : Nat → Nat → Nat → Nat
  | 0, x, _ => x
  | k + 1, x, y => if y = 0 then x else gcN k y (x % y)
theorem gcN_gcd : ∀ (j x y k : Nat), y < 2 ^ j → 2 * j + 1 ≤ k → gcN k x y = Nat.gcd x y
  | 0, x, y, k, hy, hk => by
    obtain ⟨k, rfl⟩ : ∃ k', k = k' + 1 := ⟨k - 1, by omega⟩
    have : y = 0 := by omega
    subst this
    rw [gcN, if_pos rfl, Nat.gcd_zero_right]
  | j + 1, x, y, k, hy, hk => by
    obtain ⟨k, rfl⟩ : ∃ k', k = k' + 2 := ⟨k - 2, by omega⟩
    by_cases h0 : y = 0
    · subst h0
      rw [gcN, if_pos rfl, Nat.gcd_zero_right]
    · have e1 : Nat.gcd x y = Nat.gcd y (x % y) := by rw [Nat.gcd_comm, Nat.gcd_rec, Nat.gcd_comm]
      rw [gcN, if_neg h0, e1, gcN]
      by_cases h1 : x % y = 0
      · rw [if_pos h1, h1, Nat.gcd_zero_right]
      · rw [if_neg h1]
        have e2 : Nat.gcd y (x % y) = Nat.gcd (x % y) (y % (x % y)) := by rw [Nat.gcd_comm, Nat.gcd_rec, Nat.gcd_comm]
        rw [e2]
        refine gcN_gcd j (x % y) (y % (x % y)) k ?_ (by omega)
        have a1 := Nat.mod_lt x (show y > 0 by omega)
        have a2 := Nat.mod_lt y (show x % y > 0 by omega)
        have a3 := Nat.div_add_mod y (x % y)
        have a4 : 1 ≤ y / (x % y) := (Nat.le_div_iff_mul_le (by omega)).mpr (by omega)
        have a5 : (x % y) * 1 ≤ (x % y) * (y / (x % y)) := Nat.mul_le_mul_left _ a4
        rw [Nat.pow_succ] at hy
        omega
theorem gcD_rng {a b : Int} (h1 : 1 ≤ b) : 1 ≤ gcD a b ∧ gcD a b ≤ b := by
  have h : 0 < b.toNat := by omega
  have p := Nat.gcd_pos_of_pos_right a.toNat h
  have q := Nat.gcd_le_right a.toNat h
  unfold gcD
  omega
def ltF (a b w : Int) : Int := Int.tdiv (if w = 0 then a else b) (gcD a b)
set_option maxRecDepth 10000 in
theorem cC_scandal (l : Launch) (c : Nat) (hc : c < 3) (σ : aS) (r : aRw) (hR : Rep σ c r) (hw : WF r) : AM l 1 mX0_scandal [aR 1 c] σ (PR c σ (scP r (r 0).toNat)) := by
  have bn := hw.1
  have en := hR.n
  refine am_of (by decide) (Nat.le_of_ble_eq_true rfl) (L := [some (aR 1 c), none]) rfl ?_
  refine aw_b kX0_ok bX0_scandal_0_ok (Cs := []) (pc' := 2) (L' := [some (aR 1 c), some (aI 0)]) (st' := []) (σ' := σ) rfl trivial ?_
  refine aloop (P := fun n : Nat => ∀ (τ : aS) (hT : Rep τ c (scP r n)) (hF : aFr (Cb c) σ τ), AW l 1 mX0_scandal _ 2 [some (aR 1 c), some (aI (n : Int))] [] τ) ((r 0).toNat) (fun n hn ihn τ hT hF => ?_) σ hR aFr_rf
  have e0 := scP_0 r n
  have hwn := scP_wf hw n (by omega)
  have en2 := hT.n
  refine aw_b kX0_ok bX0_scandal_2_ok (Cs := [c < 3]) (pc' := 7) (L' := [some (aR 1 c), some (aI (n : Int))]) (st' := [aI (τ 1 c 0), aI (n : Int)]) (σ' := τ) rfl (show c < 3 from by omega) ?_
  refine aw_cge dX0_scandal_7 (tgt := 45) (by decide) ⟨by omega, by omega⟩ ⟨by omega, by omega⟩ (fun wh1 => ?_) (fun wh1 => ?_)
  · exact aw_vret dX0_scandal_45 rfl ⟨rfl, by rw [show n = (r 0).toNat by omega] at hT; exact hT, hF⟩
  · have bp := hwn.pe (p := (n : Int)) (by omega) (by omega)
    have rp := hT.pe (p := (n : Int)) (by omega) (by omega)
    have bo := off_rng (scP r n) (n : Int)
    have oc := off_cases (scP r n) (n : Int)
    have no := nb_cases (off (scP r n) (n : Int))
    refine aw_b kX0_ok bX0_scandal_10_ok (Cs := [c < 3, c < 3, 0 ≤ (n : Int) ∧ (n : Int) < 8]) (pc' := 17) (L' := [some (aR 1 c), some (aI (n : Int))]) (st' := [aI (-1), aI (τ 6 c (n : Int))]) (σ' := τ) rfl (show (c < 3) ∧ (c < 3) ∧ (0 ≤ (n : Int) ∧ (n : Int) < 8) from ⟨by omega, by omega, by omega⟩) ?_
    refine aw_ceq dX0_scandal_17 (tgt := 39) (by decide) ⟨by omega, by omega⟩ ⟨by omega, by omega⟩ (fun wh2 => ?_) (fun wh2 => ?_)
    · refine aw_b kX0_ok bX0_scandal_39_ok (Cs := []) (pc' := 2) (L' := [some (aR 1 c), some (aI ((n : Int) + 1))]) (st' := []) (σ' := τ) rfl trivial ?_
      exact ihn (by omega) _ (by rw [scP_out (by omega)]; exact hT) hF
    · refine aw_b kX0_ok bX0_scandal_20_ok (Cs := [c < 3, c < 3, c < 3, 0 ≤ (n : Int) ∧ (n : Int) < 8]) (pc' := 35) (L' := [some (aR 1 c), some (aI (n : Int))]) (st' := [aI ((τ 4 c (n : Int)) + 5), aI 99, aI (n : Int), aR 4 c]) (σ' := τ) rfl (show (c < 3) ∧ (c < 3) ∧ (c < 3) ∧ (0 ≤ (n : Int) ∧ (n : Int) < 8) from ⟨by omega, by omega, by omega, by omega⟩) ?_
      refine aw_min lX0_78 (rest := [aI (n : Int), aR 4 c]) (by decide) (Nat.le_of_ble_eq_true rfl) dX0_scandal_35 (x := 99) (y := (τ 4 c (n : Int)) + 5) ⟨by omega, by omega⟩ ⟨by omega, by omega⟩ ?_
      refine aw_b kX0_ok bX0_scandal_38_ok (Cs := [c < 3, 0 ≤ (n : Int) ∧ (n : Int) < 8]) (pc' := 39) (L' := [some (aR 1 c), some (aI (n : Int))]) (st' := []) (σ' := aUp τ 4 c (n : Int) (if (τ 4 c (n : Int)) + 5 < 99 then (τ 4 c (n : Int)) + 5 else 99)) rfl (show (c < 3) ∧ (0 ≤ (n : Int) ∧ (n : Int) < 8) from ⟨by omega, by omega⟩) ?_
      refine aw_b kX0_ok bX0_scandal_39_ok (Cs := []) (pc' := 2) (L' := [some (aR 1 c), some (aI ((n : Int) + 1))]) (st' := []) (σ' := aUp τ 4 c (n : Int) (if (τ 4 c (n : Int)) + 5 < 99 then (τ 4 c (n : Int)) + 5 else 99)) rfl trivial ?_
      exact ihn (by omega) _ (by rw [scP_in (by omega)]; exact Rep_known' hT hwn (by omega) (by omega) (by rw [rp.2.2.1]; split <;> split <;> omega)) (aFr_tr hF (aFr_up (cb (by decide))))
set_option maxRecDepth 10000 in
theorem cC_heldAfter (l : Launch) (f n s : Int) (σ : aS) (r : aRw) (hR : Rep σ 0 r) (hw : WF r) (hd : r 1 ≤ 999) (f0 : 0 ≤ f) (f1 : f < 5) (h0 : 0 ≤ n) (h1 : n ≤ 7) (s0 : 0 ≤ s) (s1 : s < 256) : AM l 4 mX6_heldAfterScandals [aR 0 0, aI f, aI n, aI s] σ (QC (if 0 ≤ scN r s n.toNat (8 + f) then 1 else 0) σ) := by
  have bn := hw.1
  have en := hR.n
  have b1 := hw.2.1
  have e1 := hR.1.2.1
  have b2 := hw.2.2.1
  have e2 := hR.1.2.2
  refine am_of (by decide) (Nat.le_of_ble_eq_true rfl) (L := [some (aR 0 0), some (aI f), some (aI n), some (aI s), none]) rfl ?_
  refine aw_b kX6_ok bX6_heldAfterScandals_0_ok (Cs := [0 < 1, 0 < 1]) (pc' := 8) (L' := [some (aR 0 0), some (aI f), some (aI n), some (aI s), none]) (st' := [aR 1 0, aR 1 1]) (σ' := σ) rfl (show (0 < 1) ∧ (0 < 1) from ⟨by omega, by omega⟩) ?_
  refine aw_callV lX6_68 (as := [aR 1 0]) (rest := []) (t := 1) (c := 1) (by decide) (by decide) (by decide) rfl rfl (Nat.le_of_ble_eq_true rfl) rfl dX6_heldAfterScandals_8 (cC_becomes l 0 1 (by decide) (by decide) (by decide) σ r hR hw) ?_
  rintro _ τ1 ⟨rfl, hT1, hF1⟩
  refine aw_b kX6_ok bX6_heldAfterScandals_11_ok (Cs := []) (pc' := 14) (L' := [some (aR 0 0), some (aI f), some (aI n), some (aI s), some (aI 0)]) (st' := []) (σ' := τ1) rfl trivial ?_
  refine aloop (P := fun i : Nat => ∀ (ρ : aS) (hQ : Rep ρ 1 (scN r s i)) (hG : aFr (Cb 1) σ ρ), AW l 4 mX6_heldAfterScandals _ 14 [some (aR 0 0), some (aI f), some (aI n), some (aI s), some (aI (i : Int))] [] ρ) n.toNat (fun i hi ihi ρ hQ hG => ?_) τ1 hT1 hF1
  have hwi := scN_wf hw s i
  have e00 := scN_0 r s i
  refine aw_b kX6_ok bX6_heldAfterScandals_14_ok (Cs := []) (pc' := 17) (L' := [some (aR 0 0), some (aI f), some (aI n), some (aI s), some (aI (i : Int))]) (st' := [aI n, aI (i : Int)]) (σ' := ρ) rfl trivial ?_
  refine aw_cge dX6_heldAfterScandals_17 (tgt := 50) (by decide) ⟨by omega, by omega⟩ ⟨by omega, by omega⟩ (fun wh1 => ?_) (fun wh1 => ?_)
  · have hwE := scN_wf hw s i
    have bh := hwE.ho (f := f) (by omega) (by omega)
    have ro := hQ.of (f := f) (by omega) (by omega)
    have nh := nb_cases (scN r s i (8 + f))
    have ei : i = n.toNat := by omega
    refine aw_b kX6_ok bX6_heldAfterScandals_50_ok (Cs := [0 < 1, 1 < 3, 1 < 3, 0 ≤ f ∧ f < 5]) (pc' := 60) (L' := [some (aR 0 0), some (aI f), some (aI n), some (aI s), some (aI (i : Int))]) (st' := [aI (-1), aI (ρ 8 1 f)]) (σ' := ρ) rfl (show (0 < 1) ∧ (1 < 3) ∧ (1 < 3) ∧ (0 ≤ f ∧ f < 5) from ⟨by omega, by omega, by omega, by omega⟩) ?_
    refine aw_ceq dX6_heldAfterScandals_60 (tgt := 67) (by decide) ⟨by omega, by omega⟩ ⟨by omega, by omega⟩ (fun wh2 => ?_) (fun wh2 => ?_)
    · refine aw_b kX6_ok bX6_heldAfterScandals_67_ok (Cs := []) (pc' := 68) (L' := [some (aR 0 0), some (aI f), some (aI n), some (aI s), some (aI (i : Int))]) (st' := [aI 0]) (σ' := ρ) rfl trivial ?_
      exact aw_zret dX6_heldAfterScandals_68 rfl (by omega) ⟨aret (by rw [← ei, if_neg (by omega)]), aFrC hG⟩
    · refine aw_b kX6_ok bX6_heldAfterScandals_63_ok (Cs := []) (pc' := 68) (L' := [some (aR 0 0), some (aI f), some (aI n), some (aI s), some (aI (i : Int))]) (st' := [aI 1]) (σ' := ρ) rfl trivial ?_
      exact aw_zret dX6_heldAfterScandals_68 rfl (by omega) ⟨aret (by rw [← ei, if_pos (by omega)]), aFrC hG⟩
  · have bt := bit_all s0 s1 (p := (i : Int)) (by omega) (by omega)
    have hv : aAnd (s / 2 ^ (Int.toNat (i : Int))) 1 = bitF s (i : Int) := rfl
    refine aw_b kX6_ok bX6_heldAfterScandals_20_ok (Cs := [0 ≤ (i : Int) ∧ (i : Int) < 32, -2147483648 ≤ s ∧ s < 2147483648]) (pc' := 27) (L' := [some (aR 0 0), some (aI f), some (aI n), some (aI s), some (aI (i : Int))]) (st' := [aI 1, aI (aAnd (s / 2 ^ (Int.toNat (i : Int))) 1)]) (σ' := ρ) rfl (show (0 ≤ (i : Int) ∧ (i : Int) < 32) ∧ (-2147483648 ≤ s ∧ s < 2147483648) from ⟨by omega, by omega⟩) ?_
    refine aw_cne dX6_heldAfterScandals_27 (tgt := 37) (by decide) ⟨by omega, by omega⟩ ⟨by omega, by omega⟩ (fun wh3 => ?_) (fun wh3 => ?_)
    · have hD : Rep ρ 1 (scD (scN r s i) s i) := by unfold scD; rw [if_neg (by omega)]; exact hQ
      have hGD : aFr (Cb 1) σ ρ := hG
      have eDD := scD_0 (scN r s i) s i
      refine aw_b kX6_ok bX6_heldAfterScandals_37_ok (Cs := [0 < 1]) (pc' := 41) (L' := [some (aR 0 0), some (aI f), some (aI n), some (aI s), some (aI (i : Int))]) (st' := [aR 1 1]) (σ' := ρ) rfl (show 0 < 1 from by omega) ?_
      refine aw_callV lX6_178 (as := []) (rest := []) (t := 1) (c := 1) (by decide) (by decide) (by decide) rfl rfl (Nat.le_of_ble_eq_true rfl) rfl dX6_heldAfterScandals_41 (cC_oneDay l 1 (by decide) ρ (scD (scN r s i) s i) hD (scD_wf hwi s i) (by omega)) ?_
      rintro _ τ9 ⟨rfl, hT9, hF9, h39⟩
      refine aw_b kX6_ok bX6_heldAfterScandals_44_ok (Cs := []) (pc' := 14) (L' := [some (aR 0 0), some (aI f), some (aI n), some (aI s), some (aI ((i : Int) + 1))]) (st' := []) (σ' := τ9) rfl trivial ?_
      exact ihi (by omega) τ9 hT9 (aFr_tr hGD hF9)
    · refine aw_b kX6_ok bX6_heldAfterScandals_30_ok (Cs := [0 < 1]) (pc' := 34) (L' := [some (aR 0 0), some (aI f), some (aI n), some (aI s), some (aI (i : Int))]) (st' := [aR 1 1]) (σ' := ρ) rfl (show 0 < 1 from by omega) ?_
      refine aw_callV lX6_324 (as := []) (rest := []) (t := 1) (c := 1) (by decide) (by decide) (by decide) rfl rfl (Nat.le_of_ble_eq_true rfl) rfl dX6_heldAfterScandals_34 (cC_scandal l 1 (by decide) ρ (scN r s i) hQ hwi) ?_
      rintro _ τ2 ⟨rfl, hT2, hF2⟩
      have hD : Rep τ2 1 (scD (scN r s i) s i) := by unfold scD; rw [if_pos (by omega)]; exact hT2
      have hGD : aFr (Cb 1) σ τ2 := aFr_tr hG hF2
      have eDD := scD_0 (scN r s i) s i
      refine aw_b kX6_ok bX6_heldAfterScandals_37_ok (Cs := [0 < 1]) (pc' := 41) (L' := [some (aR 0 0), some (aI f), some (aI n), some (aI s), some (aI (i : Int))]) (st' := [aR 1 1]) (σ' := τ2) rfl (show 0 < 1 from by omega) ?_
      refine aw_callV lX6_178 (as := []) (rest := []) (t := 1) (c := 1) (by decide) (by decide) (by decide) rfl rfl (Nat.le_of_ble_eq_true rfl) rfl dX6_heldAfterScandals_41 (cC_oneDay l 1 (by decide) τ2 (scD (scN r s i) s i) hD (scD_wf hwi s i) (by omega)) ?_
      rintro _ τ9 ⟨rfl, hT9, hF9, h39⟩
      refine aw_b kX6_ok bX6_heldAfterScandals_44_ok (Cs := []) (pc' := 14) (L' := [some (aR 0 0), some (aI f), some (aI n), some (aI s), some (aI ((i : Int) + 1))]) (st' := []) (σ' := τ9) rfl trivial ?_
      exact ihi (by omega) τ9 hT9 (aFr_tr hGD hF9)
set_option maxRecDepth 10000 in
theorem cC_chances (l : Launch) (n s t : Int) (σ : aS) (h0 : 0 ≤ n) (h1 : n ≤ 7) (s0 : 0 ≤ s) (s1 : s < 256) (t0 : 2 ≤ t) (t1 : t ≤ 20) : AM l 0 mX6_chances [aI n, aI s, aI t] σ (aF (some (aL (weN s t n.toNat))) σ) := by
  refine am_of (by decide) (Nat.le_of_ble_eq_true rfl) (L := [some (aI n), some (aI s), some (aI t), none, none, none]) rfl ?_
  refine aw_b kX6_ok bX6_chances_0_ok (Cs := []) (pc' := 5) (L' := [some (aI n), some (aI s), some (aI t), some (aL 1), none, some (aI 0)]) (st' := []) (σ' := σ) rfl trivial ?_
  refine aloop (P := fun i : Nat => AW l 0 mX6_chances _ 5 [some (aI n), some (aI s), some (aI t), some (aL (weN s t i)), none, some (aI (i : Int))] [] σ) n.toNat (fun i hi ihi => ?_)
  refine aw_b kX6_ok bX6_chances_5_ok (Cs := []) (pc' := 8) (L' := [some (aI n), some (aI s), some (aI t), some (aL (weN s t i)), none, some (aI (i : Int))]) (st' := [aI n, aI (i : Int)]) (σ' := σ) rfl trivial ?_
  refine aw_cge dX6_chances_8 (tgt := 33) (by decide) ⟨by omega, by omega⟩ ⟨by omega, by omega⟩ (fun wh1 => ?_) (fun wh1 => ?_)
  · refine aw_b kX6_ok bX6_chances_33_ok (Cs := []) (pc' := 34) (L' := [some (aI n), some (aI s), some (aI t), some (aL (weN s t i)), none, some (aI (i : Int))]) (st' := [aL (weN s t i)]) (σ' := σ) rfl trivial ?_
    exact aw_lret dX6_chances_34 rfl ⟨alret (by rw [show i = n.toNat by omega]), rfl⟩
  · have bt := bit_all s0 s1 (p := (i : Int)) (by omega) (by omega)
    have hv : aAnd (s / 2 ^ (Int.toNat (i : Int))) 1 = bitF s (i : Int) := rfl
    refine aw_b kX6_ok bX6_chances_11_ok (Cs := [0 ≤ (i : Int) ∧ (i : Int) < 32, -2147483648 ≤ s ∧ s < 2147483648]) (pc' := 17) (L' := [some (aI n), some (aI s), some (aI t), some (aL (weN s t i)), none, some (aI (i : Int))]) (st' := [aI (aAnd (s / 2 ^ (Int.toNat (i : Int))) 1)]) (σ' := σ) rfl (show (0 ≤ (i : Int) ∧ (i : Int) < 32) ∧ (-2147483648 ≤ s ∧ s < 2147483648) from ⟨by omega, by omega⟩) ?_
    refine aw_ine dX6_chances_17 (tgt := 27) (by decide) ⟨by omega, by omega⟩ (fun wh2 => ?_) (fun wh2 => ?_)
    · refine aw_b kX6_ok bX6_chances_27_ok (Cs := []) (pc' := 5) (L' := [some (aI n), some (aI s), some (aI t), some (aL (weN s t i)), none, some (aI ((i : Int) + 1))]) (st' := []) (σ' := σ) rfl trivial ?_
      have e1 : weN s t i = weN s t (i + 1) := by rw [weN, if_neg (by omega)]
      exact aw_eq (by rw [← e1]; rfl) rfl rfl (ihi (by omega))
    · refine aw_b kX6_ok bX6_chances_20_ok (Cs := [-2147483648 ≤ t - 1 ∧ t - 1 < 2147483648]) (pc' := 27) (L' := [some (aI n), some (aI s), some (aI t), some (aL ((weN s t i) * (t - 1))), none, some (aI (i : Int))]) (st' := []) (σ' := σ) rfl (show -2147483648 ≤ t - 1 ∧ t - 1 < 2147483648 from by omega) ?_
      refine aw_b kX6_ok bX6_chances_27_ok (Cs := []) (pc' := 5) (L' := [some (aI n), some (aI s), some (aI t), some (aL ((weN s t i) * (t - 1))), none, some (aI ((i : Int) + 1))]) (st' := []) (σ' := σ) rfl trivial ?_
      have e1 : weN s t i * (t - 1) = weN s t (i + 1) := by rw [weN, if_pos (by omega)]
      exact aw_eq (by rw [e1]; rfl) rfl rfl (ihi (by omega))
set_option maxRecDepth 10000 in
theorem cC_commonDivisor (l : Launch) (a b : Nat) (σ : aS) (ha : a < 4611686018427387904) (hb : b < 2147483648) : AM l 0 mX6_commonDivisor [aL (a : Int), aL (b : Int)] σ (aF (some (aL ((Nat.gcd a b : Nat) : Int))) σ) := by
  have hg := gcN_gcd 31 a b 200 (by omega) (by decide)
  refine am_of (by decide) (Nat.le_of_ble_eq_true rfl) (L := [some (aL (a : Int)), none, some (aL (b : Int)), none, none, none, none, none, none, none, none]) rfl ?_
  refine aw_b kX6_ok bX6_commonDivisor_0_ok (Cs := []) (pc' := 9) (L' := [some (aL (a : Int)), none, some (aL (b : Int)), none, some (aL (a : Int)), none, some (aL (b : Int)), none, some (aI 0), none, none]) (st' := []) (σ' := σ) rfl trivial ?_
  refine aloop (P := fun n : Nat => ∀ (x : Nat) (y : Nat) (hx : x < 4611686018427387904) (hy : y < 2147483648) (hA : gcN 200 a b = gcN (200 - n) x y), AW l 0 mX6_commonDivisor _ 9 [some (aL (a : Int)), none, some (aL (b : Int)), none, some (aL (x : Int)), none, some (aL (y : Int)), none, some (aI (n : Int)), none, none] [] σ) (200) (fun n hn ihn x y hx hy hA => ?_) a b ha hb rfl
  refine aw_b kX6_ok bX6_commonDivisor_9_ok (Cs := []) (pc' := 14) (L' := [some (aL (a : Int)), none, some (aL (b : Int)), none, some (aL (x : Int)), none, some (aL (y : Int)), none, some (aI (n : Int)), none, none]) (st' := [aI 200, aI (n : Int)]) (σ' := σ) rfl trivial ?_
  refine aw_cge dX6_commonDivisor_14 (tgt := 45) (by decide) ⟨by omega, by omega⟩ ⟨by omega, by omega⟩ (fun wh1 => ?_) (fun wh1 => ?_)
  · have hE : gcN 200 a b = x := by rw [hA, show 200 - n = 0 by omega]; rfl
    refine aw_b kX6_ok bX6_commonDivisor_45_ok (Cs := []) (pc' := 47) (L' := [some (aL (a : Int)), none, some (aL (b : Int)), none, some (aL (x : Int)), none, some (aL (y : Int)), none, some (aI (n : Int)), none, none]) (st' := [aL (x : Int)]) (σ' := σ) rfl trivial ?_
    exact aw_lret dX6_commonDivisor_47 rfl ⟨alret (by rw [← hg, hE]), rfl⟩
  · have hB : gcN 200 a b = (if y = 0 then x else gcN (200 - (n + 1)) y (x % y)) := by
      rw [hA, show 200 - n = (200 - (n + 1)) + 1 by omega]; rfl
    refine aw_b kX6_ok bX6_commonDivisor_17_ok (Cs := [-9223372036854775808 ≤ (y : Int) ∧ (y : Int) < 9223372036854775808, -9223372036854775808 ≤ 0 ∧ 0 < 9223372036854775808]) (pc' := 21) (L' := [some (aL (a : Int)), none, some (aL (b : Int)), none, some (aL (x : Int)), none, some (aL (y : Int)), none, some (aI (n : Int)), none, none]) (st' := [aI (if 0 < (y : Int) then 1 else if (y : Int) = 0 then 0 else -1)]) (σ' := σ) rfl (show (-9223372036854775808 ≤ (y : Int) ∧ (y : Int) < 9223372036854775808) ∧ (-9223372036854775808 ≤ 0 ∧ 0 < 9223372036854775808) from ⟨by omega, by omega⟩) ?_
    refine aw_ieq dX6_commonDivisor_21 (tgt := 45) (by decide) ⟨by omega, by omega⟩ (fun wh2 => ?_) (fun wh2 => ?_)
    · have hE : gcN 200 a b = x := hB.trans (if_pos (by omega))
      refine aw_b kX6_ok bX6_commonDivisor_45_ok (Cs := []) (pc' := 47) (L' := [some (aL (a : Int)), none, some (aL (b : Int)), none, some (aL (x : Int)), none, some (aL (y : Int)), none, some (aI (n : Int)), none, none]) (st' := [aL (x : Int)]) (σ' := σ) rfl trivial ?_
      exact aw_lret dX6_commonDivisor_47 rfl ⟨alret (by rw [← hg, hE]), rfl⟩
    · refine aw_b kX6_ok bX6_commonDivisor_24_ok (Cs := [-9223372036854775808 ≤ (x : Int) ∧ (x : Int) < 9223372036854775808, 0 < (y : Int) ∧ (y : Int) < 9223372036854775808]) (pc' := 9) (L' := [some (aL (a : Int)), none, some (aL (b : Int)), none, some (aL (y : Int)), none, some (aL (Int.tmod (x : Int) (y : Int))), none, some (aI ((n : Int) + 1)), some (aL (Int.tmod (x : Int) (y : Int))), none]) (st' := []) (σ' := σ) rfl (show (-9223372036854775808 ≤ (x : Int) ∧ (x : Int) < 9223372036854775808) ∧ (0 < (y : Int) ∧ (y : Int) < 9223372036854775808) from ⟨by omega, by omega⟩) ?_
      refine aw_drop [9] (L' := [some (aL (a : Int)), none, some (aL (b : Int)), none, some (aL (y : Int)), none, some (aL (Int.tmod (x : Int) (y : Int))), none, some (aI ((n : Int) + 1)), none, none]) rfl ?_
      exact ihn (by omega) y (x % y) (by omega) (by have := Nat.mod_lt x (show y > 0 by omega); omega) (hB.trans (if_neg (by omega)))
set_option maxRecDepth 10000 in
theorem cC_inLeastTerms (l : Launch) (a b w : Int) (σ : aS) (a0 : 0 ≤ a) (a1 : a < 4611686018427387904) (b0 : 1 ≤ b) (b1 : b < 2147483648) (hv : aIr w) : AM l 1 mX6_inLeastTerms [aL a, aL b, aI w] σ (aF (some (aL (ltF a b w))) σ) := by
  have bg := gcD_rng (a := a) b0
  refine am_of (by decide) (Nat.le_of_ble_eq_true rfl) (L := [some (aL a), none, some (aL b), none, some (aI w), none, none, none, none]) rfl ?_
  refine aw_b kX6_ok bX6_inLeastTerms_0_ok (Cs := []) (pc' := 2) (L' := [some (aL a), none, some (aL b), none, some (aI w), none, none, none, none]) (st' := [aI w]) (σ' := σ) rfl trivial ?_
  refine aw_ine dX6_inLeastTerms_2 (tgt := 9) (by decide) ⟨by omega, by omega⟩ (fun wh1 => ?_) (fun wh1 => ?_)
  · refine aw_b kX6_ok bX6_inLeastTerms_9_ok (Cs := []) (pc' := 10) (L' := [some (aL a), none, some (aL b), none, some (aI w), none, none, none, none]) (st' := [aL b]) (σ' := σ) rfl trivial ?_
    refine aw_b kX6_ok bX6_inLeastTerms_10_ok (Cs := []) (pc' := 14) (L' := [some (aL a), none, some (aL b), none, some (aI w), some (aL b), none, none, none]) (st' := [aL b, aL a]) (σ' := σ) rfl trivial ?_
    have hcd : AM l 0 mX6_commonDivisor [aL a, aL b] σ (aF (some (aL (gcD a b))) σ) := by
      obtain ⟨x, rfl⟩ := Int.eq_ofNat_of_zero_le a0
      obtain ⟨y, rfl⟩ := Int.eq_ofNat_of_zero_le (show 0 ≤ b by omega)
      exact cC_commonDivisor l x y σ (by omega) (by omega)
    refine aw_fS lX6_327 (as := [aL a, aL b]) (rest := []) (by decide) rfl (Nat.le_of_ble_eq_true rfl) rfl dX6_inLeastTerms_14 (hcd) ?_
    refine aw_b kX6_ok bX6_inLeastTerms_17_ok (Cs := [-9223372036854775808 ≤ gcD a b ∧ gcD a b < 9223372036854775808, -9223372036854775808 ≤ 0 ∧ 0 < 9223372036854775808]) (pc' := 23) (L' := [some (aL a), none, some (aL b), none, some (aI w), some (aL b), none, some (aL (gcD a b)), none]) (st' := [aI (if 0 < gcD a b then 1 else if gcD a b = 0 then 0 else -1)]) (σ' := σ) rfl (show (-9223372036854775808 ≤ gcD a b ∧ gcD a b < 9223372036854775808) ∧ (-9223372036854775808 ≤ 0 ∧ 0 < 9223372036854775808) from ⟨by omega, by omega⟩) ?_
    refine aw_ine dX6_inLeastTerms_23 (tgt := 31) (by decide) ⟨by omega, by omega⟩ (fun wh2 => ?_) (fun wh2 => False.elim (by omega))
    refine aw_b kX6_ok bX6_inLeastTerms_31_ok (Cs := [-9223372036854775808 ≤ b ∧ b < 9223372036854775808, 0 < gcD a b ∧ gcD a b < 9223372036854775808]) (pc' := 36) (L' := [some (aL a), none, some (aL b), none, some (aI w), some (aL b), none, some (aL (gcD a b)), none]) (st' := [aL (Int.tdiv b (gcD a b))]) (σ' := σ) rfl (show (-9223372036854775808 ≤ b ∧ b < 9223372036854775808) ∧ (0 < gcD a b ∧ gcD a b < 9223372036854775808) from ⟨by omega, by omega⟩) ?_
    exact aw_lret dX6_inLeastTerms_36 rfl ⟨alret (by unfold ltF; rw [if_neg (by omega)]), rfl⟩
  · refine aw_b kX6_ok bX6_inLeastTerms_5_ok (Cs := []) (pc' := 10) (L' := [some (aL a), none, some (aL b), none, some (aI w), none, none, none, none]) (st' := [aL a]) (σ' := σ) rfl trivial ?_
    refine aw_b kX6_ok bX6_inLeastTerms_10_ok (Cs := []) (pc' := 14) (L' := [some (aL a), none, some (aL b), none, some (aI w), some (aL a), none, none, none]) (st' := [aL b, aL a]) (σ' := σ) rfl trivial ?_
    have hcd : AM l 0 mX6_commonDivisor [aL a, aL b] σ (aF (some (aL (gcD a b))) σ) := by
      obtain ⟨x, rfl⟩ := Int.eq_ofNat_of_zero_le a0
      obtain ⟨y, rfl⟩ := Int.eq_ofNat_of_zero_le (show 0 ≤ b by omega)
      exact cC_commonDivisor l x y σ (by omega) (by omega)
    refine aw_fS lX6_327 (as := [aL a, aL b]) (rest := []) (by decide) rfl (Nat.le_of_ble_eq_true rfl) rfl dX6_inLeastTerms_14 (hcd) ?_
    refine aw_b kX6_ok bX6_inLeastTerms_17_ok (Cs := [-9223372036854775808 ≤ gcD a b ∧ gcD a b < 9223372036854775808, -9223372036854775808 ≤ 0 ∧ 0 < 9223372036854775808]) (pc' := 23) (L' := [some (aL a), none, some (aL b), none, some (aI w), some (aL a), none, some (aL (gcD a b)), none]) (st' := [aI (if 0 < gcD a b then 1 else if gcD a b = 0 then 0 else -1)]) (σ' := σ) rfl (show (-9223372036854775808 ≤ gcD a b ∧ gcD a b < 9223372036854775808) ∧ (-9223372036854775808 ≤ 0 ∧ 0 < 9223372036854775808) from ⟨by omega, by omega⟩) ?_
    refine aw_ine dX6_inLeastTerms_23 (tgt := 31) (by decide) ⟨by omega, by omega⟩ (fun wh3 => ?_) (fun wh3 => False.elim (by omega))
    refine aw_b kX6_ok bX6_inLeastTerms_31_ok (Cs := [-9223372036854775808 ≤ a ∧ a < 9223372036854775808, 0 < gcD a b ∧ gcD a b < 9223372036854775808]) (pc' := 36) (L' := [some (aL a), none, some (aL b), none, some (aI w), some (aL a), none, some (aL (gcD a b)), none]) (st' := [aL (Int.tdiv a (gcD a b))]) (σ' := σ) rfl (show (-9223372036854775808 ≤ a ∧ a < 9223372036854775808) ∧ (0 < gcD a b ∧ gcD a b < 9223372036854775808) from ⟨by omega, by omega⟩) ?_
    exact aw_lret dX6_inLeastTerms_36 rfl ⟨alret (by unfold ltF; rw [if_pos (by omega)]), rfl⟩
def A_mean (r : aRw) (w : Int) : Int := if w = 0 ∨ w = 1 then (if r 0 = 0 then w else ltF (akN r (r 0).toNat) (r 0) w) else 1000000001
def A_scandals (r : aRw) (f n t w : Int) : Int := if (0 ≤ f ∧ f < 5) ∧ (0 ≤ n ∧ n ≤ 7) ∧ (2 ≤ t ∧ t ≤ 20) ∧ (w = 0 ∨ w = 1) then ltF (abN r f n t (2 ^ n.toNat)) (t ^ n.toNat) w else 1000000001
set_option maxRecDepth 10000 in
theorem cC_mean (l : Launch) (w : Int) (σ : aS) (r : aRw) (hR : Rep σ 0 r) (hw : WF r) (hd : r 1 ≤ 999) (hv : aIr w) : AM l 2 mX6_mean [aR 0 0, aI w] σ (QCL (A_mean r w) σ) := by
  have bn := hw.1
  have en := hR.n
  have b1 := hw.2.1
  have e1 := hR.1.2.1
  have b2 := hw.2.2.1
  have e2 := hR.1.2.2
  have bak := akN_rng hw (r 0).toNat (by omega)
  refine am_of (by decide) (Nat.le_of_ble_eq_true rfl) (L := [some (aR 0 0), some (aI w)]) rfl ?_
  refine aw_b kX6_ok bX6_mean_0_ok (Cs := []) (pc' := 1) (L' := [some (aR 0 0), some (aI w)]) (st' := [aI w]) (σ' := σ) rfl trivial ?_
  refine aw_bS lX6_171 (as := [aI w]) (rest := []) (by decide) rfl (Nat.le_of_ble_eq_true rfl) rfl dX6_mean_1 (cC_isChoice l w σ ⟨by omega, by omega⟩) (fun wh1 => ?_) (fun wh1 => ?_)
  · refine aw_ine dX6_mean_4 (tgt := 11) (by decide) ⟨by omega, by omega⟩ (fun wh2 => ?_) (fun wh2 => absurd wh2 (by decide))
    refine aw_b kX6_ok bX6_mean_11_ok (Cs := [0 < 1, 0 < 3]) (pc' := 18) (L' := [some (aR 0 0), some (aI w)]) (st' := [aI (σ 1 0 0)]) (σ' := σ) rfl (show (0 < 1) ∧ (0 < 3) from ⟨by omega, by omega⟩) ?_
    refine aw_ine dX6_mean_18 (tgt := 24) (by decide) ⟨by omega, by omega⟩ (fun wh3 => ?_) (fun wh3 => ?_)
    · refine aw_b kX6_ok bX6_mean_24_ok (Cs := [0 < 1]) (pc' := 28) (L' := [some (aR 0 0), some (aI w)]) (st' := [aR 1 0]) (σ' := σ) rfl (show 0 < 1 from by omega) ?_
      refine aw_fV lX6_242 (as := []) (rest := []) (t := 1) (c := 0) (by decide) (by decide) (by decide) rfl rfl (Nat.le_of_ble_eq_true rfl) rfl dX6_mean_28 (cC_knownOfAll l 0 (by decide) σ r hR hw) ?_
      refine aw_b kX6_ok bX6_mean_31_ok (Cs := [-2147483648 ≤ akN r (r 0).toNat ∧ akN r (r 0).toNat < 2147483648, 0 < 1, 0 < 3, -2147483648 ≤ σ 1 0 0 ∧ σ 1 0 0 < 2147483648]) (pc' := 41) (L' := [some (aR 0 0), some (aI w)]) (st' := [aI w, aL (σ 1 0 0), aL (akN r (r 0).toNat)]) (σ' := σ) rfl (show (-2147483648 ≤ akN r (r 0).toNat ∧ akN r (r 0).toNat < 2147483648) ∧ (0 < 1) ∧ (0 < 3) ∧ (-2147483648 ≤ σ 1 0 0 ∧ σ 1 0 0 < 2147483648) from ⟨by omega, by omega, by omega, by omega⟩) ?_
      refine aw_fS lX6_238 (as := [aL (akN r (r 0).toNat), aL (σ 1 0 0), aI w]) (rest := []) (by decide) rfl (Nat.le_of_ble_eq_true rfl) rfl dX6_mean_41 (cC_inLeastTerms l (akN r (r 0).toNat) (σ 1 0 0) w σ (by omega) (by omega) (by omega) (by omega) ⟨by omega, by omega⟩) ?_
      exact aw_lret dX6_mean_44 rfl ⟨alret (by unfold A_mean; rw [if_pos (by omega), if_neg (by omega), en]), aFr_rf⟩
    · refine aw_b kX6_ok bX6_mean_21_ok (Cs := [-2147483648 ≤ w ∧ w < 2147483648]) (pc' := 23) (L' := [some (aR 0 0), some (aI w)]) (st' := [aL w]) (σ' := σ) rfl (show -2147483648 ≤ w ∧ w < 2147483648 from by omega) ?_
      exact aw_lret dX6_mean_23 rfl ⟨alret (by unfold A_mean; rw [if_pos (by omega), if_pos (by omega)]), aFr_rf⟩
  · refine aw_ine dX6_mean_4 (tgt := 11) (by decide) ⟨by omega, by omega⟩ (fun wh4 => absurd wh4 (by decide)) (fun wh4 => ?_)
    refine aw_b kX6_ok bX6_mean_7_ok (Cs := []) (pc' := 10) (L' := [some (aR 0 0), some (aI w)]) (st' := [aL 1000000001]) (σ' := σ) rfl trivial ?_
    exact aw_lret dX6_mean_10 rfl ⟨alret (by unfold A_mean; rw [if_neg (by omega)]), aFr_rf⟩
set_option maxRecDepth 10000 in
theorem cC_scandals (l : Launch) (f n t w : Int) (σ : aS) (r : aRw) (hR : Rep σ 0 r) (hw : WF r) (hd : r 1 ≤ 999) (hf : aIr f) (hn : aIr n) (ht : aIr t) (hv : aIr w) : AM l 5 mX6_scandals [aR 0 0, aI f, aI n, aI t, aI w] σ (QCL (A_scandals r f n t w) σ) := by
  have bn := hw.1
  have en := hR.n
  have b1 := hw.2.1
  have e1 := hR.1.2.1
  have b2 := hw.2.2.1
  have e2 := hR.1.2.2
  refine am_of (by decide) (Nat.le_of_ble_eq_true rfl) (L := [some (aR 0 0), some (aI f), some (aI n), some (aI t), some (aI w), none, none, none, none, none]) rfl ?_
  refine aw_b kX6_ok bX6_scandals_0_ok (Cs := []) (pc' := 1) (L' := [some (aR 0 0), some (aI f), some (aI n), some (aI t), some (aI w), none, none, none, none, none]) (st' := [aI f]) (σ' := σ) rfl trivial ?_
  refine aw_bS lX6_109 (as := [aI f]) (rest := []) (by decide) rfl (Nat.le_of_ble_eq_true rfl) rfl dX6_scandals_1 (cC_isOffice l f σ ⟨by omega, by omega⟩) (fun wh1 => ?_) (fun wh1 => ?_)
  · refine aw_ieq dX6_scandals_4 (tgt := 36) (by decide) ⟨by omega, by omega⟩ (fun wh2 => absurd wh2 (by decide)) (fun wh2 => ?_)
    refine aw_b kX6_ok bX6_scandals_7_ok (Cs := []) (pc' := 8) (L' := [some (aR 0 0), some (aI f), some (aI n), some (aI t), some (aI w), none, none, none, none, none]) (st' := [aI n]) (σ' := σ) rfl trivial ?_
    refine aw_ilt dX6_scandals_8 (tgt := 36) (by decide) ⟨by omega, by omega⟩ (fun wh3 => ?_) (fun wh3 => ?_)
    · refine aw_b kX6_ok bX6_scandals_36_ok (Cs := []) (pc' := 39) (L' := [some (aR 0 0), some (aI f), some (aI n), some (aI t), some (aI w), none, none, none, none, none]) (st' := [aL 1000000001]) (σ' := σ) rfl trivial ?_
      exact aw_lret dX6_scandals_39 rfl ⟨alret (by unfold A_scandals; rw [if_neg (by omega)]), aFr_rf⟩
    · refine aw_b kX6_ok bX6_scandals_11_ok (Cs := []) (pc' := 14) (L' := [some (aR 0 0), some (aI f), some (aI n), some (aI t), some (aI w), none, none, none, none, none]) (st' := [aI 7, aI n]) (σ' := σ) rfl trivial ?_
      refine aw_cgt dX6_scandals_14 (tgt := 36) (by decide) ⟨by omega, by omega⟩ ⟨by omega, by omega⟩ (fun wh4 => ?_) (fun wh4 => ?_)
      · refine aw_b kX6_ok bX6_scandals_36_ok (Cs := []) (pc' := 39) (L' := [some (aR 0 0), some (aI f), some (aI n), some (aI t), some (aI w), none, none, none, none, none]) (st' := [aL 1000000001]) (σ' := σ) rfl trivial ?_
        exact aw_lret dX6_scandals_39 rfl ⟨alret (by unfold A_scandals; rw [if_neg (by omega)]), aFr_rf⟩
      · refine aw_b kX6_ok bX6_scandals_17_ok (Cs := []) (pc' := 19) (L' := [some (aR 0 0), some (aI f), some (aI n), some (aI t), some (aI w), none, none, none, none, none]) (st' := [aI 2, aI t]) (σ' := σ) rfl trivial ?_
        refine aw_clt dX6_scandals_19 (tgt := 36) (by decide) ⟨by omega, by omega⟩ ⟨by omega, by omega⟩ (fun wh5 => ?_) (fun wh5 => ?_)
        · refine aw_b kX6_ok bX6_scandals_36_ok (Cs := []) (pc' := 39) (L' := [some (aR 0 0), some (aI f), some (aI n), some (aI t), some (aI w), none, none, none, none, none]) (st' := [aL 1000000001]) (σ' := σ) rfl trivial ?_
          exact aw_lret dX6_scandals_39 rfl ⟨alret (by unfold A_scandals; rw [if_neg (by omega)]), aFr_rf⟩
        · refine aw_b kX6_ok bX6_scandals_22_ok (Cs := []) (pc' := 25) (L' := [some (aR 0 0), some (aI f), some (aI n), some (aI t), some (aI w), none, none, none, none, none]) (st' := [aI 20, aI t]) (σ' := σ) rfl trivial ?_
          refine aw_cgt dX6_scandals_25 (tgt := 36) (by decide) ⟨by omega, by omega⟩ ⟨by omega, by omega⟩ (fun wh6 => ?_) (fun wh6 => ?_)
          · refine aw_b kX6_ok bX6_scandals_36_ok (Cs := []) (pc' := 39) (L' := [some (aR 0 0), some (aI f), some (aI n), some (aI t), some (aI w), none, none, none, none, none]) (st' := [aL 1000000001]) (σ' := σ) rfl trivial ?_
            exact aw_lret dX6_scandals_39 rfl ⟨alret (by unfold A_scandals; rw [if_neg (by omega)]), aFr_rf⟩
          · refine aw_b kX6_ok bX6_scandals_28_ok (Cs := []) (pc' := 30) (L' := [some (aR 0 0), some (aI f), some (aI n), some (aI t), some (aI w), none, none, none, none, none]) (st' := [aI w]) (σ' := σ) rfl trivial ?_
            refine aw_bS lX6_171 (as := [aI w]) (rest := []) (by decide) rfl (Nat.le_of_ble_eq_true rfl) rfl dX6_scandals_30 (cC_isChoice l w σ ⟨by omega, by omega⟩) (fun wh7 => ?_) (fun wh7 => ?_)
            · refine aw_ine dX6_scandals_33 (tgt := 40) (by decide) ⟨by omega, by omega⟩ (fun wh8 => ?_) (fun wh8 => absurd wh8 (by decide))
              obtain ⟨m, hm⟩ : ∃ m : Nat, m = 2 ^ n.toNat := ⟨_, rfl⟩
              have hm2 : m ≤ 128 := by rw [hm]; exact Nat.le_trans (Nat.pow_le_pow_right (by decide) (show n.toNat ≤ 7 by omega)) (by decide)
              have e2n : (1 * 2 ^ (Int.toNat n) : Int) = (m : Int) := by subst hm; simp
              refine aw_b kX6_ok bX6_scandals_40_ok (Cs := []) (pc' := 46) (L' := [some (aR 0 0), some (aI f), some (aI n), some (aI t), some (aI w), some (aL 0), none, some (aI 0), none, none]) (st' := []) (σ' := σ) rfl trivial ?_
              refine aloop (P := fun k : Nat => ∀ (ρ : aS) (hQ : Rep ρ 0 r) (hG : aFr CScr σ ρ), AW l 5 mX6_scandals _ 46 [some (aR 0 0), some (aI f), some (aI n), some (aI t), some (aI w), some (aL (abN r f n t k)), none, some (aI (k : Int)), none, none] [] ρ) m (fun k hk ihk ρ hQ hG => ?_) σ hR aFr_rf
              refine aw_b kX6_ok bX6_scandals_46_ok (Cs := [0 ≤ n ∧ n < 32]) (pc' := 51) (L' := [some (aR 0 0), some (aI f), some (aI n), some (aI t), some (aI w), some (aL (abN r f n t k)), none, some (aI (k : Int)), none, none]) (st' := [aI (1 * 2 ^ (Int.toNat n)), aI (k : Int)]) (σ' := ρ) rfl (show 0 ≤ n ∧ n < 32 from by omega) ?_
              refine aw_cge dX6_scandals_51 (tgt := 87) (by decide) ⟨by omega, by omega⟩ ⟨by omega, by omega⟩ (fun wh9 => ?_) (fun wh9 => ?_)
              · have ekm : k = m := by omega
                have gab := abN_rng r f (n := n) (t := t) (by omega) (by omega) (by omega) k
                have gpw := pw_tab n.toNat (by omega)
                refine aw_b kX6_ok bX6_scandals_87_ok (Cs := []) (pc' := 93) (L' := [some (aR 0 0), some (aI f), some (aI n), some (aI t), some (aI w), some (aL (abN r f n t k)), none, some (aL 1), none, some (aI 0)]) (st' := []) (σ' := ρ) rfl trivial ?_
                refine aw_eq (L' := [some (aR 0 0), some (aI f), some (aI n), some (aI t), some (aI w), some (aL (abN r f n t k)), none, some (aL (t ^ 0)), none, some (aI ((0 : Nat) : Int))]) (by rw [Int.pow_zero]; rfl) rfl rfl ?_
                refine aloop (P := fun i : Nat => AW l 5 mX6_scandals _ 93 [some (aR 0 0), some (aI f), some (aI n), some (aI t), some (aI w), some (aL (abN r f n t k)), none, some (aL (t ^ i)), none, some (aI (i : Int))] [] ρ) n.toNat (fun i hi ihi => ?_)
                refine aw_b kX6_ok bX6_scandals_93_ok (Cs := []) (pc' := 96) (L' := [some (aR 0 0), some (aI f), some (aI n), some (aI t), some (aI w), some (aL (abN r f n t k)), none, some (aL (t ^ i)), none, some (aI (i : Int))]) (st' := [aI n, aI (i : Int)]) (σ' := ρ) rfl trivial ?_
                refine aw_cge dX6_scandals_96 (tgt := 112) (by decide) ⟨by omega, by omega⟩ ⟨by omega, by omega⟩ (fun wh10 => ?_) (fun wh10 => ?_)
                · have ei : i = n.toNat := by omega
                  have gpi := pw_rng (t := t) (by omega) (by omega) i
                  have gpj := pw_tab i (by omega)
                  refine aw_b kX6_ok bX6_scandals_112_ok (Cs := []) (pc' := 118) (L' := [some (aR 0 0), some (aI f), some (aI n), some (aI t), some (aI w), some (aL (abN r f n t k)), none, some (aL (t ^ i)), none, some (aI (i : Int))]) (st' := [aI w, aL (t ^ i), aL (abN r f n t k)]) (σ' := ρ) rfl trivial ?_
                  refine aw_fS lX6_238 (as := [aL (abN r f n t k), aL (t ^ i), aI w]) (rest := []) (by decide) rfl (Nat.le_of_ble_eq_true rfl) rfl dX6_scandals_118 (cC_inLeastTerms l (abN r f n t k) (t ^ i) w ρ (by omega) (by omega) (by omega) (by omega) ⟨by omega, by omega⟩) ?_
                  exact aw_lret dX6_scandals_121 rfl ⟨alret (by unfold A_scandals; rw [if_pos (by omega), ← hm, ← ekm, ← ei]), hG⟩
                · refine aw_b kX6_ok bX6_scandals_99_ok (Cs := [-2147483648 ≤ t ∧ t < 2147483648]) (pc' := 93) (L' := [some (aR 0 0), some (aI f), some (aI n), some (aI t), some (aI w), some (aL (abN r f n t k)), none, some (aL ((t ^ i) * t)), none, some (aI ((i : Int) + 1))]) (st' := []) (σ' := ρ) rfl (show -2147483648 ≤ t ∧ t < 2147483648 from by omega) ?_
                  exact aw_eq (by rw [← Int.pow_succ]; rfl) rfl rfl (ihi (by omega))
              · refine aw_b kX6_ok bX6_scandals_54_ok (Cs := []) (pc' := 61) (L' := [some (aR 0 0), some (aI f), some (aI n), some (aI t), some (aI w), some (aL (abN r f n t k)), none, some (aI (k : Int)), none, none]) (st' := [aI (k : Int), aI n, aI f, aR 0 0, aL (abN r f n t k)]) (σ' := ρ) rfl trivial ?_
                refine aw_callV lX6_230 (as := [aI f, aI n, aI (k : Int)]) (rest := [aL (abN r f n t k)]) (t := 0) (c := 0) (by decide) (by decide) (by decide) rfl rfl (Nat.le_of_ble_eq_true rfl) rfl dX6_scandals_61 (cC_heldAfter l f n (k : Int) ρ r hQ hw hd (by omega) (by omega) (by omega) (by omega) (by omega) (by omega)) ?_
                rintro _ τ2 ⟨rfl, hF2⟩
                refine aw_ieq dX6_scandals_64 (tgt := 77) (by decide) ⟨by omega, by omega⟩ (fun wh11 => ?_) (fun wh11 => ?_)
                · refine aw_b kX6_ok bX6_scandals_77_ok (Cs := []) (pc' := 78) (L' := [some (aR 0 0), some (aI f), some (aI n), some (aI t), some (aI w), some (aL (abN r f n t k)), none, some (aI (k : Int)), none, none]) (st' := [aL 0, aL (abN r f n t k)]) (σ' := τ2) rfl trivial ?_
                  refine aw_b kX6_ok bX6_scandals_78_ok (Cs := []) (pc' := 46) (L' := [some (aR 0 0), some (aI f), some (aI n), some (aI t), some (aI w), some (aL ((abN r f n t k) + 0)), none, some (aI ((k : Int) + 1)), none, none]) (st' := []) (σ' := τ2) rfl trivial ?_
                  have e1 : abN r f n t k + 0 = abN r f n t (k + 1) := by rw [abN, if_neg (by omega)]
                  exact aw_eq (by rw [e1]; rfl) rfl rfl (ihk (by omega) τ2 (hQ.scr (by decide) hF2) (aFr_tr hG hF2))
                · refine aw_b kX6_ok bX6_scandals_67_ok (Cs := []) (pc' := 71) (L' := [some (aR 0 0), some (aI f), some (aI n), some (aI t), some (aI w), some (aL (abN r f n t k)), none, some (aI (k : Int)), none, none]) (st' := [aI t, aI (k : Int), aI n, aL (abN r f n t k)]) (σ' := τ2) rfl trivial ?_
                  refine aw_fS lX6_234 (as := [aI n, aI (k : Int), aI t]) (rest := [aL (abN r f n t k)]) (by decide) rfl (Nat.le_of_ble_eq_true rfl) rfl dX6_scandals_71 (cC_chances l n (k : Int) t τ2 (by omega) (by omega) (by omega) (by omega) (by omega) (by omega)) ?_
                  refine aw_b kX6_ok bX6_scandals_74_ok (Cs := []) (pc' := 78) (L' := [some (aR 0 0), some (aI f), some (aI n), some (aI t), some (aI w), some (aL (abN r f n t k)), none, some (aI (k : Int)), none, none]) (st' := [aL (weN (k : Int) t n.toNat), aL (abN r f n t k)]) (σ' := τ2) rfl trivial ?_
                  refine aw_b kX6_ok bX6_scandals_78_ok (Cs := []) (pc' := 46) (L' := [some (aR 0 0), some (aI f), some (aI n), some (aI t), some (aI w), some (aL ((abN r f n t k) + (weN (k : Int) t n.toNat))), none, some (aI ((k : Int) + 1)), none, none]) (st' := []) (σ' := τ2) rfl trivial ?_
                  have e1 : abN r f n t k + weN (k : Int) t n.toNat = abN r f n t (k + 1) := by rw [abN, if_pos (by omega)]
                  exact aw_eq (by rw [e1]; rfl) rfl rfl (ihk (by omega) τ2 (hQ.scr (by decide) hF2) (aFr_tr hG hF2))
            · refine aw_ine dX6_scandals_33 (tgt := 40) (by decide) ⟨by omega, by omega⟩ (fun wh12 => absurd wh12 (by decide)) (fun wh12 => ?_)
              refine aw_b kX6_ok bX6_scandals_36_ok (Cs := []) (pc' := 39) (L' := [some (aR 0 0), some (aI f), some (aI n), some (aI t), some (aI w), none, none, none, none, none]) (st' := [aL 1000000001]) (σ' := σ) rfl trivial ?_
              exact aw_lret dX6_scandals_39 rfl ⟨alret (by unfold A_scandals; rw [if_neg (by omega)]), aFr_rf⟩
  · refine aw_ieq dX6_scandals_4 (tgt := 36) (by decide) ⟨by omega, by omega⟩ (fun wh13 => ?_) (fun wh13 => absurd wh13 (by decide))
    refine aw_b kX6_ok bX6_scandals_36_ok (Cs := []) (pc' := 39) (L' := [some (aR 0 0), some (aI f), some (aI n), some (aI t), some (aI w), none, none, none, none, none]) (st' := [aL 1000000001]) (σ' := σ) rfl trivial ?_
    exact aw_lret dX6_scandals_39 rfl ⟨alret (by unfold A_scandals; rw [if_neg (by omega)]), aFr_rf⟩
theorem aAnd31 (x : Int) : 0 ≤ aAnd x 2147483647 ∧ aAnd x 2147483647 < 2147483648 := by
  obtain ⟨j, hj, e⟩ := pk_andE (Int32.ofInt x) (m := Int32.ofInt 2147483647) 31 (by decide)
  unfold aAnd
  rw [e, nI_toInt hj]
  omega
theorem aAnd31q (x : Int) : 0 ≤ Int.tdiv (aAnd x 2147483647) 65536 ∧ Int.tdiv (aAnd x 2147483647) 65536 < 32768 := by
  have h := aAnd31 x
  rw [Int.tdiv_eq_ediv_of_nonneg h.1]
  omega
def drF (z : Int) : Int := Int.tmod (Int.tdiv (aAnd z 2147483647) 65536) 10
theorem drF_rng (z : Int) : 0 ≤ drF z ∧ drF z ≤ 9 := by
  have h := aAnd31q z
  unfold drF
  rw [Int.tmod_eq_emod_of_nonneg h.1]
  omega
def lcN (z : Int) : Nat → Int
  | 0 => z
  | n + 1 => lcN z n * 1103515245 + 12345
def ycN (r : aRw) (z : Int) : Nat → aRw
  | 0 => r
  | f + 1 => rUp (ycN r z f) (3 + f) (drF (lcN z (f + 1)))
def ypN (r : aRw) (z : Int) : Nat → aRw
  | 0 => ycN r z 5
  | p + 1 => rUp (ypN r z p) (aOf p 2) (drF (lcN z (5 + p + 1)))
theorem ycN_at (r : aRw) (z : Int) {j : Int} (h : j < 3 ∨ 8 ≤ j) : ∀ f : Nat, f ≤ 5 → ycN r z f j = r j
  | 0, _ => rfl
  | f + 1, hf => by
    unfold ycN
    rw [rUp_ne (by omega)]
    exact ycN_at r z h f (by omega)
theorem ycN_wf {r : aRw} (hw : WF r) (z : Int) : ∀ f : Nat, f ≤ 5 → WF (ycN r z f)
  | 0, _ => hw
  | f + 1, hf => WF_cost (ycN_wf hw z f (by omega)) (by omega) (by omega) (drF_rng _)
theorem ypN_0 (r : aRw) (z : Int) : ∀ p : Nat, ypN r z p 0 = r 0 ∧ ypN r z p 1 = r 1
  | 0 => ⟨ycN_at r z (by omega) 5 (by decide), ycN_at r z (by omega) 5 (by decide)⟩
  | p + 1 => by
    unfold ypN
    rw [rUp_ne (by unfold aOf; omega), rUp_ne (by unfold aOf; omega)]
    exact ypN_0 r z p
theorem ypN_wf {r : aRw} (hw : WF r) (z : Int) : ∀ p : Nat, (p : Int) ≤ r 0 → WF (ypN r z p)
  | 0, _ => ycN_wf hw z 5 (by decide)
  | p + 1, hp => by
    have d := drF_rng (lcN z (5 + p + 1))
    exact WF_known (ypN_wf hw z p (by omega)) (by omega) (by rw [(ypN_0 r z p).1]; omega) ⟨d.1, by omega⟩
def yeR (r : aRw) (z : Int) : aRw := dysR (ypN r z (r 0).toNat) 15
def yzN (r : aRw) (z : Int) : Nat → Int
  | 0 => z
  | y + 1 => lcN (yzN r z y) (5 + (r 0).toNat)
def yhN (r : aRw) (z : Int) : Nat → Int
  | 0 => 0
  | y + 1 => yhN r z y + hcR (yeR r (yzN r z y))
def yfN (r : aRw) (z : Int) : Nat → Int
  | 0 => 0
  | y + 1 => yfN r z y + (yeR r (yzN r z y) 2 - r 2)
def A_years (r : aRw) (n z w : Int) : Int := if (1 ≤ n ∧ n ≤ 20) ∧ (w = 0 ∨ w = 1) then (if w = 0 then yhN r z n.toNat else yfN r z n.toNat) else -1
theorem Rep_19 {σ : aS} {c : Nat} {r : aRw} (h : Rep σ c r) (x : Int) : Rep (aUp σ 19 0 0 x) c r := h.fr (fun t i h1 h2 _ => aUp_tag (by omega))
theorem CSd : CScr 19 0 := Or.inr (by decide)
set_option maxRecDepth 10000 in
theorem cC_start (l : Launch) (z : Int) (σ : aS) : AM l 0 mX2_start [aR 19 0, aI z] σ (aF none (aUp σ 19 0 0 z)) := by
  refine am_of (by decide) (Nat.le_of_ble_eq_true rfl) (L := [some (aR 19 0), some (aI z)]) rfl ?_
  refine aw_b kX2_ok bX2_start_0_ok (Cs := [0 < 1]) (pc' := 5) (L' := [some (aR 19 0), some (aI z)]) (st' := []) (σ' := aUp σ 19 0 0 z) rfl (show 0 < 1 from by omega) ?_
  exact aw_vret dX2_start_5 rfl ⟨rfl, rfl⟩
set_option maxRecDepth 10000 in
theorem cC_below (l : Launch) (σ : aS) : AM l 0 mX2_below [aR 19 0, aI 10] σ (aF (some (aI (drF (σ 19 0 0 * 1103515245 + 12345)))) (aUp σ 19 0 0 (σ 19 0 0 * 1103515245 + 12345))) := by
  refine am_of (by decide) (Nat.le_of_ble_eq_true rfl) (L := [some (aR 19 0), some (aI 10)]) rfl ?_
  refine aw_b kX2_ok bX2_below_0_ok (Cs := [0 < 1, 0 < 1]) (pc' := 17) (L' := [some (aR 19 0), some (aI 10)]) (st' := [aI 1, aI 10]) (σ' := aUp σ 19 0 0 (((σ 19 0 0) * 1103515245) + 12345)) rfl (show (0 < 1) ∧ (0 < 1) from ⟨by omega, by omega⟩) ?_
  refine aw_cge dX2_below_17 (tgt := 24) (by decide) ⟨by omega, by omega⟩ ⟨by omega, by omega⟩ (fun wh1 => ?_) (fun wh1 => absurd wh1 (by decide))
  have bz := aAnd31 (aUp σ 19 0 0 (σ 19 0 0 * 1103515245 + 12345) 19 0 0)
  have bq := aAnd31q (aUp σ 19 0 0 (σ 19 0 0 * 1103515245 + 12345) 19 0 0)
  refine aw_b kX2_ok bX2_below_24_ok (Cs := [0 < 1, -2147483648 ≤ aAnd ((aUp σ 19 0 0 (((σ 19 0 0) * 1103515245) + 12345)) 19 0 0) 2147483647 ∧ aAnd ((aUp σ 19 0 0 (((σ 19 0 0) * 1103515245) + 12345)) 19 0 0) 2147483647 < 2147483648, 0 < 65536 ∧ 65536 < 2147483648, -2147483648 ≤ Int.tdiv (aAnd ((aUp σ 19 0 0 (((σ 19 0 0) * 1103515245) + 12345)) 19 0 0) 2147483647) 65536 ∧ Int.tdiv (aAnd ((aUp σ 19 0 0 (((σ 19 0 0) * 1103515245) + 12345)) 19 0 0) 2147483647) 65536 < 2147483648, 0 < 10 ∧ 10 < 2147483648]) (pc' := 36) (L' := [some (aR 19 0), some (aI 10)]) (st' := [aI (Int.tmod (Int.tdiv (aAnd ((aUp σ 19 0 0 (((σ 19 0 0) * 1103515245) + 12345)) 19 0 0) 2147483647) 65536) 10)]) (σ' := aUp σ 19 0 0 (((σ 19 0 0) * 1103515245) + 12345)) rfl (show (0 < 1) ∧ (-2147483648 ≤ aAnd ((aUp σ 19 0 0 (((σ 19 0 0) * 1103515245) + 12345)) 19 0 0) 2147483647 ∧ aAnd ((aUp σ 19 0 0 (((σ 19 0 0) * 1103515245) + 12345)) 19 0 0) 2147483647 < 2147483648) ∧ (0 < 65536 ∧ 65536 < 2147483648) ∧ (-2147483648 ≤ Int.tdiv (aAnd ((aUp σ 19 0 0 (((σ 19 0 0) * 1103515245) + 12345)) 19 0 0) 2147483647) 65536 ∧ Int.tdiv (aAnd ((aUp σ 19 0 0 (((σ 19 0 0) * 1103515245) + 12345)) 19 0 0) 2147483647) 65536 < 2147483648) ∧ (0 < 10 ∧ 10 < 2147483648) from ⟨by omega, by omega, by omega, by omega, by omega⟩) ?_
  exact aw_iret dX2_below_36 rfl ⟨aret (by rw [aUp_same]; rfl), rfl⟩
set_option maxRecDepth 10000 in
theorem cC_oneYear (l : Launch) (σ : aS) (r : aRw) (hR : Rep σ 0 r) (hw : WF r) (hd : r 1 ≤ 999) : AM l 5 mX6_oneYear [aR 0 0] σ ((fun v σ' => v = none ∧ Rep σ' 1 (yeR r (σ 19 0 0)) ∧ σ' 19 0 0 = lcN (σ 19 0 0) (5 + (r 0).toNat) ∧ aFr CScr σ σ')) := by
  have bn := hw.1
  have en := hR.n
  have b1 := hw.2.1
  have e1 := hR.1.2.1
  have b2 := hw.2.2.1
  have e2 := hR.1.2.2
  refine am_of (by decide) (Nat.le_of_ble_eq_true rfl) (L := [some (aR 0 0), none]) rfl ?_
  refine aw_b kX6_ok bX6_oneYear_0_ok (Cs := [0 < 1, 0 < 1]) (pc' := 8) (L' := [some (aR 0 0), none]) (st' := [aR 1 0, aR 1 1]) (σ' := σ) rfl (show (0 < 1) ∧ (0 < 1) from ⟨by omega, by omega⟩) ?_
  refine aw_callV lX6_68 (as := [aR 1 0]) (rest := []) (t := 1) (c := 1) (by decide) (by decide) (by decide) rfl rfl (Nat.le_of_ble_eq_true rfl) rfl dX6_oneYear_8 (cC_becomes l 0 1 (by decide) (by decide) (by decide) σ r hR hw) ?_
  rintro _ τ1 ⟨rfl, hT1, hF1⟩
  refine aw_b kX6_ok bX6_oneYear_11_ok (Cs := []) (pc' := 13) (L' := [some (aR 0 0), some (aI 0)]) (st' := []) (σ' := τ1) rfl trivial ?_
  refine aloop (P := fun f : Nat => ∀ (ρ : aS) (hQ : Rep ρ 1 (ycN r (σ 19 0 0) f)) (hG : aFr CScr σ ρ) (hz : ρ 19 0 0 = lcN (σ 19 0 0) f), AW l 5 mX6_oneYear _ 13 [some (aR 0 0), some (aI (f : Int))] [] ρ) (5) (fun f hf ihf ρ hQ hG hz => ?_) τ1 hT1 (aFrC hF1) (hF1 19 0 0 (fun q => absurd q.2.1 (by decide)))
  refine aw_b kX6_ok bX6_oneYear_13_ok (Cs := []) (pc' := 15) (L' := [some (aR 0 0), some (aI (f : Int))]) (st' := [aI 5, aI (f : Int)]) (σ' := ρ) rfl trivial ?_
  refine aw_cge dX6_oneYear_15 (tgt := 42) (by decide) ⟨by omega, by omega⟩ ⟨by omega, by omega⟩ (fun wh1 => ?_) (fun wh1 => ?_)
  · refine aw_b kX6_ok bX6_oneYear_42_ok (Cs := []) (pc' := 44) (L' := [some (aR 0 0), some (aI 0)]) (st' := []) (σ' := ρ) rfl trivial ?_
    have ef : f = 5 := by omega
    subst ef
    refine aloop (P := fun p : Nat => ∀ (ρ : aS) (hQ : Rep ρ 1 (ypN r (σ 19 0 0) p)) (hG : aFr CScr σ ρ) (hz : ρ 19 0 0 = lcN (σ 19 0 0) (5 + p)), AW l 5 mX6_oneYear _ 44 [some (aR 0 0), some (aI (p : Int))] [] ρ) ((r 0).toNat) (fun p hp ihp ρ hQ hG hz => ?_) ρ hQ hG hz
    have e0 := ypN_0 r (σ 19 0 0) p
    have enp := hQ.n
    refine aw_b kX6_ok bX6_oneYear_44_ok (Cs := [0 < 1, 1 < 3]) (pc' := 52) (L' := [some (aR 0 0), some (aI (p : Int))]) (st' := [aI (ρ 1 1 0), aI (p : Int)]) (σ' := ρ) rfl (show (0 < 1) ∧ (1 < 3) from ⟨by omega, by omega⟩) ?_
    refine aw_cge dX6_oneYear_52 (tgt := 79) (by decide) ⟨by omega, by omega⟩ ⟨by omega, by omega⟩ (fun wh2 => ?_) (fun wh2 => ?_)
    · refine aw_b kX6_ok bX6_oneYear_79_ok (Cs := [0 < 1]) (pc' := 85) (L' := [some (aR 0 0), some (aI (p : Int))]) (st' := [aI 15, aR 1 1]) (σ' := ρ) rfl (show 0 < 1 from by omega) ?_
      have ep : p = (r 0).toNat := by omega
      subst ep
      have e15 := ypN_0 r (σ 19 0 0) (r 0).toNat
      have h15 := cC_pass l 15 1 (by decide) ρ (ypN r (σ 19 0 0) (r 0).toNat) hQ (ypN_wf hw _ _ (by omega)) (by decide) (by omega)
      refine aw_callV lX6_159 (as := [aI 15]) (rest := []) (t := 1) (c := 1) (by decide) (by decide) (by decide) rfl rfl (Nat.le_of_ble_eq_true rfl) rfl dX6_oneYear_85 (h15) ?_
      rintro _ τ3 ⟨rfl, hT3, hF3⟩
      exact aw_vret dX6_oneYear_88 rfl ⟨rfl, hT3, (hF3 19 0 0 (fun q => absurd q.2.1 (by decide))).trans hz, aFr_tr hG (aFrC hF3)⟩
    · refine aw_b kX6_ok bX6_oneYear_55_ok (Cs := [0 < 1, 1 < 3, 0 < 1]) (pc' := 69) (L' := [some (aR 0 0), some (aI (p : Int))]) (st' := [aI 10, aR 19 0, aI (p : Int), aR 4 1]) (σ' := ρ) rfl (show (0 < 1) ∧ (1 < 3) ∧ (0 < 1) from ⟨by omega, by omega, by omega⟩) ?_
      refine aw_fV lX6_331 (as := [aI 10]) (rest := [aI (p : Int), aR 4 1]) (t := 19) (c := 0) (by decide) (by decide) (by decide) rfl rfl (Nat.le_of_ble_eq_true rfl) rfl dX6_oneYear_69 (cC_below l ρ) ?_
      refine aw_b kX6_ok bX6_oneYear_72_ok (Cs := [1 < 3, 0 ≤ (p : Int) ∧ (p : Int) < 8]) (pc' := 44) (L' := [some (aR 0 0), some (aI ((p : Int) + 1))]) (st' := []) (σ' := aUp (aUp ρ 19 0 0 (ρ 19 0 0 * 1103515245 + 12345)) 4 1 (p : Int) (drF (ρ 19 0 0 * 1103515245 + 12345))) rfl (show (1 < 3) ∧ (0 ≤ (p : Int) ∧ (p : Int) < 8) from ⟨by omega, by omega⟩) ?_
      exact ihp (by omega) _ (by have z := Rep_known (Rep_19 hQ (ρ 19 0 0 * 1103515245 + 12345)) (ypN_wf hw (σ 19 0 0) p (by omega)) (p := (p : Int)) (by omega) (by omega) (drF (ρ 19 0 0 * 1103515245 + 12345)); rw [hz] at z ⊢; exact z) (aFr_tr hG (aFr_tr (aFr_up CSd) (aFr_up (Or.inl (by decide))))) (by rw [aUp_tag (by decide), aUp_same, hz]; rfl)
  · refine aw_b kX6_ok bX6_oneYear_18_ok (Cs := [0 < 1, 1 < 3, 0 < 1]) (pc' := 32) (L' := [some (aR 0 0), some (aI (f : Int))]) (st' := [aI 10, aR 19 0, aI (f : Int), aR 7 1]) (σ' := ρ) rfl (show (0 < 1) ∧ (1 < 3) ∧ (0 < 1) from ⟨by omega, by omega, by omega⟩) ?_
    refine aw_fV lX6_331 (as := [aI 10]) (rest := [aI (f : Int), aR 7 1]) (t := 19) (c := 0) (by decide) (by decide) (by decide) rfl rfl (Nat.le_of_ble_eq_true rfl) rfl dX6_oneYear_32 (cC_below l ρ) ?_
    refine aw_b kX6_ok bX6_oneYear_35_ok (Cs := [1 < 3, 0 ≤ (f : Int) ∧ (f : Int) < 5]) (pc' := 13) (L' := [some (aR 0 0), some (aI ((f : Int) + 1))]) (st' := []) (σ' := aUp (aUp ρ 19 0 0 (ρ 19 0 0 * 1103515245 + 12345)) 7 1 (f : Int) (drF (ρ 19 0 0 * 1103515245 + 12345))) rfl (show (1 < 3) ∧ (0 ≤ (f : Int) ∧ (f : Int) < 5) from ⟨by omega, by omega⟩) ?_
    exact ihf (by omega) _ (by have z := Rep_cost (Rep_19 hQ (ρ 19 0 0 * 1103515245 + 12345)) (ycN_wf hw (σ 19 0 0) f (by omega)) (f := (f : Int)) (by omega) (by omega) (drF (ρ 19 0 0 * 1103515245 + 12345)); rw [hz] at z ⊢; exact z) (aFr_tr hG (aFr_tr (aFr_up CSd) (aFr_up (Or.inl (by decide))))) (by rw [aUp_tag (by decide), aUp_same, hz]; rfl)
set_option maxRecDepth 10000 in
theorem cC_years (l : Launch) (n z w : Int) (σ : aS) (r : aRw) (hR : Rep σ 0 r) (hw : WF r) (hd : r 1 ≤ 999) (hn : aIr n) (hz : aIr z) (hv : aIr w) : AM l 6 mX6_years [aR 0 0, aI n, aI z, aI w] σ (QC (A_years r n z w) σ) := by
  have bn := hw.1
  have en := hR.n
  have b1 := hw.2.1
  have e1 := hR.1.2.1
  have b2 := hw.2.2.1
  have e2 := hR.1.2.2
  refine am_of (by decide) (Nat.le_of_ble_eq_true rfl) (L := [some (aR 0 0), some (aI n), some (aI z), some (aI w), none, none, none]) rfl ?_
  refine aw_b kX6_ok bX6_years_0_ok (Cs := []) (pc' := 2) (L' := [some (aR 0 0), some (aI n), some (aI z), some (aI w), none, none, none]) (st' := [aI 1, aI n]) (σ' := σ) rfl trivial ?_
  refine aw_clt dX6_years_2 (tgt := 18) (by decide) ⟨by omega, by omega⟩ ⟨by omega, by omega⟩ (fun wh1 => ?_) (fun wh1 => ?_)
  · refine aw_b kX6_ok bX6_years_18_ok (Cs := []) (pc' := 19) (L' := [some (aR 0 0), some (aI n), some (aI z), some (aI w), none, none, none]) (st' := [aI (-1)]) (σ' := σ) rfl trivial ?_
    exact aw_iret dX6_years_19 rfl ⟨aret (by unfold A_years; rw [if_neg (by omega)]), aFr_rf⟩
  · refine aw_b kX6_ok bX6_years_5_ok (Cs := []) (pc' := 8) (L' := [some (aR 0 0), some (aI n), some (aI z), some (aI w), none, none, none]) (st' := [aI 20, aI n]) (σ' := σ) rfl trivial ?_
    refine aw_cgt dX6_years_8 (tgt := 18) (by decide) ⟨by omega, by omega⟩ ⟨by omega, by omega⟩ (fun wh2 => ?_) (fun wh2 => ?_)
    · refine aw_b kX6_ok bX6_years_18_ok (Cs := []) (pc' := 19) (L' := [some (aR 0 0), some (aI n), some (aI z), some (aI w), none, none, none]) (st' := [aI (-1)]) (σ' := σ) rfl trivial ?_
      exact aw_iret dX6_years_19 rfl ⟨aret (by unfold A_years; rw [if_neg (by omega)]), aFr_rf⟩
    · refine aw_b kX6_ok bX6_years_11_ok (Cs := []) (pc' := 12) (L' := [some (aR 0 0), some (aI n), some (aI z), some (aI w), none, none, none]) (st' := [aI w]) (σ' := σ) rfl trivial ?_
      refine aw_bS lX6_171 (as := [aI w]) (rest := []) (by decide) rfl (Nat.le_of_ble_eq_true rfl) rfl dX6_years_12 (cC_isChoice l w σ ⟨by omega, by omega⟩) (fun wh3 => ?_) (fun wh3 => ?_)
      · refine aw_ine dX6_years_15 (tgt := 20) (by decide) ⟨by omega, by omega⟩ (fun wh4 => ?_) (fun wh4 => absurd wh4 (by decide))
        refine aw_b kX6_ok bX6_years_20_ok (Cs := [0 < 1]) (pc' := 25) (L' := [some (aR 0 0), some (aI n), some (aI z), some (aI w), none, none, none]) (st' := [aI z, aR 19 0]) (σ' := σ) rfl (show 0 < 1 from by omega) ?_
        refine aw_fV lX6_254 (as := [aI z]) (rest := []) (t := 19) (c := 0) (by decide) (by decide) (by decide) rfl rfl (Nat.le_of_ble_eq_true rfl) rfl dX6_years_25 (cC_start l z σ) ?_
        refine aw_b kX6_ok bX6_years_28_ok (Cs := []) (pc' := 37) (L' := [some (aR 0 0), some (aI n), some (aI z), some (aI w), some (aI 0), some (aI 0), some (aI 0)]) (st' := []) (σ' := aUp σ 19 0 0 z) rfl trivial ?_
        refine aloop (P := fun y : Nat => ∀ (ρ : aS) (hQ : Rep ρ 0 r) (hG : aFr CScr σ ρ) (hy : ρ 19 0 0 = yzN r z y), AW l 6 mX6_years _ 37 [some (aR 0 0), some (aI n), some (aI z), some (aI w), some (aI (yhN r z y)), some (aI (yfN r z y)), some (aI (y : Int))] [] ρ) n.toNat (fun y hy ihy ρ hQ hG hy => ?_) _ (Rep_19 hR z) (aFr_up CSd) aUp_same
        refine aw_b kX6_ok bX6_years_37_ok (Cs := []) (pc' := 40) (L' := [some (aR 0 0), some (aI n), some (aI z), some (aI w), some (aI (yhN r z y)), some (aI (yfN r z y)), some (aI (y : Int))]) (st' := [aI n, aI (y : Int)]) (σ' := ρ) rfl trivial ?_
        refine aw_cge dX6_years_40 (tgt := 85) (by decide) ⟨by omega, by omega⟩ ⟨by omega, by omega⟩ (fun wh5 => ?_) (fun wh5 => ?_)
        · refine aw_b kX6_ok bX6_years_85_ok (Cs := []) (pc' := 86) (L' := [some (aR 0 0), some (aI n), some (aI z), some (aI w), some (aI (yhN r z y)), some (aI (yfN r z y)), some (aI (y : Int))]) (st' := [aI w]) (σ' := ρ) rfl trivial ?_
          refine aw_ine dX6_years_86 (tgt := 94) (by decide) ⟨by omega, by omega⟩ (fun wh6 => ?_) (fun wh6 => ?_)
          · refine aw_b kX6_ok bX6_years_94_ok (Cs := []) (pc' := 96) (L' := [some (aR 0 0), some (aI n), some (aI z), some (aI w), some (aI (yhN r z y)), some (aI (yfN r z y)), some (aI (y : Int))]) (st' := [aI (yfN r z y)]) (σ' := ρ) rfl trivial ?_
            exact aw_iret dX6_years_96 rfl ⟨aret (by unfold A_years; rw [if_pos (by omega), if_neg (by omega), show y = n.toNat by omega]), hG⟩
          · refine aw_b kX6_ok bX6_years_89_ok (Cs := []) (pc' := 96) (L' := [some (aR 0 0), some (aI n), some (aI z), some (aI w), some (aI (yhN r z y)), some (aI (yfN r z y)), some (aI (y : Int))]) (st' := [aI (yhN r z y)]) (σ' := ρ) rfl trivial ?_
            exact aw_iret dX6_years_96 rfl ⟨aret (by unfold A_years; rw [if_pos (by omega), if_pos (by omega), show y = n.toNat by omega]), hG⟩
        · refine aw_b kX6_ok bX6_years_43_ok (Cs := []) (pc' := 44) (L' := [some (aR 0 0), some (aI n), some (aI z), some (aI w), some (aI (yhN r z y)), some (aI (yfN r z y)), some (aI (y : Int))]) (st' := [aR 0 0]) (σ' := ρ) rfl trivial ?_
          refine aw_callV lX6_257 (as := []) (rest := []) (t := 0) (c := 0) (by decide) (by decide) (by decide) rfl rfl (Nat.le_of_ble_eq_true rfl) rfl dX6_years_44 (cC_oneYear l ρ r hQ hw hd) ?_
          rintro _ τ9 ⟨rfl, hT9, h49, hF9⟩
          have hw9 : WF (yeR r (ρ 19 0 0)) := dysR_wf (ypN_wf hw _ _ (by omega)) 15
          refine aw_b kX6_ok bX6_years_47_ok (Cs := [0 < 1]) (pc' := 53) (L' := [some (aR 0 0), some (aI n), some (aI z), some (aI w), some (aI (yhN r z y)), some (aI (yfN r z y)), some (aI (y : Int))]) (st' := [aR 1 1, aI (yhN r z y)]) (σ' := τ9) rfl (show 0 < 1 from by omega) ?_
          refine aw_fV lX6_205 (as := []) (rest := [aI (yhN r z y)]) (t := 1) (c := 1) (by decide) (by decide) (by decide) rfl rfl (Nat.le_of_ble_eq_true rfl) rfl dX6_years_53 (cC_heldCount l 1 (by decide) τ9 _ hT9 hw9) ?_
          refine aw_b kX6_ok bX6_years_56_ok (Cs := [0 < 1, 1 < 3, 0 < 1, 0 < 3]) (pc' := 37) (L' := [some (aR 0 0), some (aI n), some (aI z), some (aI w), some (aI ((yhN r z y) + (hcR (yeR r (ρ 19 0 0))))), some (aI ((yfN r z y) + ((τ9 1 1 2) - (τ9 1 0 2)))), some (aI ((y : Int) + 1))]) (st' := []) (σ' := τ9) rfl (show (0 < 1) ∧ (1 < 3) ∧ (0 < 1) ∧ (0 < 3) from ⟨by omega, by omega, by omega, by omega⟩) ?_
          have e1 : yhN r z y + hcR (yeR r (ρ 19 0 0)) = yhN r z (y + 1) := by rw [hy]; rfl
          have hR9 := hQ.scr (by decide) hF9
          have e2 : yfN r z y + (τ9 1 1 2 - τ9 1 0 2) = yfN r z (y + 1) := by rw [hT9.1.2.2, hR9.1.2.2, hy]; rfl
          exact aw_eq (by rw [e1, e2]; rfl) rfl rfl (ihy (by omega) τ9 hR9 (aFr_tr hG hF9) (by rw [h49, hy]; rfl))
      · refine aw_ine dX6_years_15 (tgt := 20) (by decide) ⟨by omega, by omega⟩ (fun wh7 => absurd wh7 (by decide)) (fun wh7 => ?_)
        refine aw_b kX6_ok bX6_years_18_ok (Cs := []) (pc' := 19) (L' := [some (aR 0 0), some (aI n), some (aI z), some (aI w), none, none, none]) (st' := [aI (-1)]) (σ' := σ) rfl trivial ?_
        exact aw_iret dX6_years_19 rfl ⟨aret (by unfold A_years; rw [if_neg (by omega)]), aFr_rf⟩
