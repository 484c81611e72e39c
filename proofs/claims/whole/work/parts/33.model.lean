/-! ===== the model: scandals, shares, years ===== -/
set_option maxRecDepth 10000 in
theorem cM_gcd (l : Launch) (a b : Nat) (σ : aS) (ha : a < 4611686018427387904) (hb : b < 2147483648) : AM l 0 mX7_gcd [aL (a : Int), aL (b : Int)] σ (aF (some (aL ((Nat.gcd a b : Nat) : Int))) σ) := by
  refine am_of (by decide) (Nat.le_of_ble_eq_true rfl) (L := [some (aL (a : Int)), none, some (aL (b : Int)), none, none, none, none, none, none, none]) rfl ?_
  refine aw_b kX7_ok bX7_gcd_0_ok (Cs := []) (pc' := 6) (L' := [some (aL (a : Int)), none, some (aL (b : Int)), none, some (aL (a : Int)), none, some (aL (b : Int)), none, none, none]) (st' := []) (σ' := σ) rfl trivial ?_
  refine aloop (P := fun n : Nat => ∀ (x : Nat) (y : Nat) (hx : x < 4611686018427387904) (hy : y < 2147483648) (hyn : y + n ≤ b) (hA : Nat.gcd a b = Nat.gcd x y), AW l 0 mX7_gcd _ 6 [some (aL (a : Int)), none, some (aL (b : Int)), none, some (aL (x : Int)), none, some (aL (y : Int)), none, none, none] [] σ) b (fun n hn ihn x y hx hy hyn hA => ?_) a b ha hb (by omega) rfl
  refine aw_b kX7_ok bX7_gcd_6_ok (Cs := [-9223372036854775808 ≤ (y : Int) ∧ (y : Int) < 9223372036854775808, -9223372036854775808 ≤ 0 ∧ 0 < 9223372036854775808]) (pc' := 10) (L' := [some (aL (a : Int)), none, some (aL (b : Int)), none, some (aL (x : Int)), none, some (aL (y : Int)), none, none, none]) (st' := [aI (if 0 < (y : Int) then 1 else if (y : Int) = 0 then 0 else -1)]) (σ' := σ) rfl (show (-9223372036854775808 ≤ (y : Int) ∧ (y : Int) < 9223372036854775808) ∧ (-9223372036854775808 ≤ 0 ∧ 0 < 9223372036854775808) from ⟨by omega, by omega⟩) ?_
  refine aw_ieq dX7_gcd_10 (tgt := 31) (by decide) ⟨by omega, by omega⟩ (fun wh1 => ?_) (fun wh1 => ?_)
  · refine aw_b kX7_ok bX7_gcd_31_ok (Cs := []) (pc' := 33) (L' := [some (aL (a : Int)), none, some (aL (b : Int)), none, some (aL (x : Int)), none, some (aL (y : Int)), none, none, none]) (st' := [aL (x : Int)]) (σ' := σ) rfl trivial ?_
    exact aw_lret dX7_gcd_33 rfl ⟨alret (by rw [hA, show y = 0 by omega, Nat.gcd_zero_right]), rfl⟩
  · refine aw_b kX7_ok bX7_gcd_13_ok (Cs := [-9223372036854775808 ≤ (x : Int) ∧ (x : Int) < 9223372036854775808, 0 < (y : Int) ∧ (y : Int) < 9223372036854775808]) (pc' := 6) (L' := [some (aL (a : Int)), none, some (aL (b : Int)), none, some (aL (y : Int)), none, some (aL (Int.tmod (x : Int) (y : Int))), none, some (aL (Int.tmod (x : Int) (y : Int))), none]) (st' := []) (σ' := σ) rfl (show (-9223372036854775808 ≤ (x : Int) ∧ (x : Int) < 9223372036854775808) ∧ (0 < (y : Int) ∧ (y : Int) < 9223372036854775808) from ⟨by omega, by omega⟩) ?_
    refine aw_drop [8] (L' := [some (aL (a : Int)), none, some (aL (b : Int)), none, some (aL (y : Int)), none, some (aL (Int.tmod (x : Int) (y : Int))), none, none, none]) rfl ?_
    have hm := Nat.mod_lt x (show y > 0 by omega)
    exact ihn (by omega) y (x % y) (by omega) (by omega) (by omega) (by rw [hA, Nat.gcd_comm, Nat.gcd_rec, Nat.gcd_comm])
def paF (a b w : Int) : Int := if a = 0 then w else ltF a b w
theorem pa_eq {a b w : Int} (a0 : 0 ≤ a) (b0 : 1 ≤ b) (hw : w = 0 ∨ w = 1) : paF a b w = ltF a b w := by
  unfold paF
  split
  · rename_i h
    subst h
    have e : gcD 0 b = b := by
      unfold gcD
      rw [show (0 : Int).toNat = 0 from rfl, Nat.gcd_zero_left]
      omega
    unfold ltF
    rw [e]
    rcases hw with rfl | rfl
    · rw [if_pos rfl, Int.zero_tdiv]
    · rw [if_neg (by decide), Int.tdiv_self (by omega)]
  · rfl
theorem ltF_rng {a b w : Int} (a0 : 0 ≤ a) (a1 : a < 4611686018427387904) (b0 : 1 ≤ b) (b1 : b < 2147483648) : 0 ≤ ltF a b w ∧ ltF a b w < 4611686018427387904 := by
  have g := gcD_rng (a := a) b0
  have k : ∀ z : Int, 0 ≤ z → z < 4611686018427387904 → 0 ≤ Int.tdiv z (gcD a b) ∧ Int.tdiv z (gcD a b) < 4611686018427387904 := fun z h0 h1 => by
    rw [Int.tdiv_eq_ediv_of_nonneg h0]
    have p := Int.ediv_nonneg h0 (show 0 ≤ gcD a b by omega)
    have q := Int.ediv_le_self (gcD a b) h0
    omega
  unfold ltF
  split
  · exact k a a0 a1
  · exact k b (by omega) (by omega)
set_option maxRecDepth 10000 in
theorem cM_partOf (l : Launch) (a b w : Int) (σ : aS) (a0 : 0 ≤ a) (a1 : a < 4611686018427387904) (b0 : 0 ≤ b) (b1 : b < 2147483648) (hb : 1 ≤ b ∨ a = 0) (hv : w = 0 ∨ w = 1) : AM l 1 mX7_partOf [aL a, aL b, aI w] σ (aF (some (aL (paF a b w))) σ) := by
  refine am_of (by decide) (Nat.le_of_ble_eq_true rfl) (L := [some (aL a), none, some (aL b), none, some (aI w)]) rfl ?_
  refine aw_b kX7_ok bX7_partOf_0_ok (Cs := [-9223372036854775808 ≤ a ∧ a < 9223372036854775808, -9223372036854775808 ≤ 0 ∧ 0 < 9223372036854775808]) (pc' := 3) (L' := [some (aL a), none, some (aL b), none, some (aI w)]) (st' := [aI (if 0 < a then 1 else if a = 0 then 0 else -1)]) (σ' := σ) rfl (show (-9223372036854775808 ≤ a ∧ a < 9223372036854775808) ∧ (-9223372036854775808 ≤ 0 ∧ 0 < 9223372036854775808) from ⟨by omega, by omega⟩) ?_
  refine aw_ine dX7_partOf_3 (tgt := 10) (by decide) ⟨by omega, by omega⟩ (fun wh1 => ?_) (fun wh1 => ?_)
  · refine aw_b kX7_ok bX7_partOf_10_ok (Cs := []) (pc' := 12) (L' := [some (aL a), none, some (aL b), none, some (aI w)]) (st' := [aI w]) (σ' := σ) rfl trivial ?_
    refine aw_ine dX7_partOf_12 (tgt := 19) (by decide) ⟨by omega, by omega⟩ (fun wh2 => ?_) (fun wh2 => ?_)
    · refine aw_b kX7_ok bX7_partOf_19_ok (Cs := []) (pc' := 20) (L' := [some (aL a), none, some (aL b), none, some (aI w)]) (st' := [aL b]) (σ' := σ) rfl trivial ?_
      refine aw_b kX7_ok bX7_partOf_20_ok (Cs := []) (pc' := 22) (L' := [some (aL a), none, some (aL b), none, some (aI w)]) (st' := [aL b, aL a, aL b]) (σ' := σ) rfl trivial ?_
      have bg := gcD_rng (a := a) (b := b) (by omega)
      have hcd : AM l 0 mX7_gcd [aL a, aL b] σ (aF (some (aL (gcD a b))) σ) := by
        obtain ⟨x, rfl⟩ := Int.eq_ofNat_of_zero_le a0
        obtain ⟨y, rfl⟩ := Int.eq_ofNat_of_zero_le b0
        exact cM_gcd l x y σ (by omega) (by omega)
      refine aw_fS lX7_224 (as := [aL a, aL b]) (rest := [aL b]) (by decide) rfl (Nat.le_of_ble_eq_true rfl) rfl dX7_partOf_22 (hcd) ?_
      refine aw_b kX7_ok bX7_partOf_25_ok (Cs := [-9223372036854775808 ≤ b ∧ b < 9223372036854775808, 0 < gcD a b ∧ gcD a b < 9223372036854775808]) (pc' := 26) (L' := [some (aL a), none, some (aL b), none, some (aI w)]) (st' := [aL (Int.tdiv b (gcD a b))]) (σ' := σ) rfl (show (-9223372036854775808 ≤ b ∧ b < 9223372036854775808) ∧ (0 < gcD a b ∧ gcD a b < 9223372036854775808) from ⟨by omega, by omega⟩) ?_
      exact aw_lret dX7_partOf_26 rfl ⟨alret (by unfold paF; rw [if_neg (by omega)]; unfold ltF; rw [if_neg (by omega)]), rfl⟩
    · refine aw_b kX7_ok bX7_partOf_15_ok (Cs := []) (pc' := 20) (L' := [some (aL a), none, some (aL b), none, some (aI w)]) (st' := [aL a]) (σ' := σ) rfl trivial ?_
      refine aw_b kX7_ok bX7_partOf_20_ok (Cs := []) (pc' := 22) (L' := [some (aL a), none, some (aL b), none, some (aI w)]) (st' := [aL b, aL a, aL a]) (σ' := σ) rfl trivial ?_
      have bg := gcD_rng (a := a) (b := b) (by omega)
      have hcd : AM l 0 mX7_gcd [aL a, aL b] σ (aF (some (aL (gcD a b))) σ) := by
        obtain ⟨x, rfl⟩ := Int.eq_ofNat_of_zero_le a0
        obtain ⟨y, rfl⟩ := Int.eq_ofNat_of_zero_le b0
        exact cM_gcd l x y σ (by omega) (by omega)
      refine aw_fS lX7_224 (as := [aL a, aL b]) (rest := [aL a]) (by decide) rfl (Nat.le_of_ble_eq_true rfl) rfl dX7_partOf_22 (hcd) ?_
      refine aw_b kX7_ok bX7_partOf_25_ok (Cs := [-9223372036854775808 ≤ a ∧ a < 9223372036854775808, 0 < gcD a b ∧ gcD a b < 9223372036854775808]) (pc' := 26) (L' := [some (aL a), none, some (aL b), none, some (aI w)]) (st' := [aL (Int.tdiv a (gcD a b))]) (σ' := σ) rfl (show (-9223372036854775808 ≤ a ∧ a < 9223372036854775808) ∧ (0 < gcD a b ∧ gcD a b < 9223372036854775808) from ⟨by omega, by omega⟩) ?_
      exact aw_lret dX7_partOf_26 rfl ⟨alret (by unfold paF; rw [if_neg (by omega)]; unfold ltF; rw [if_pos (by omega)]), rfl⟩
  · refine aw_b kX7_ok bX7_partOf_6_ok (Cs := [-2147483648 ≤ w ∧ w < 2147483648]) (pc' := 9) (L' := [some (aL a), none, some (aL b), none, some (aI w)]) (st' := [aL w]) (σ' := σ) rfl (show -2147483648 ≤ w ∧ w < 2147483648 from by omega) ?_
    exact aw_lret dX7_partOf_9 rfl ⟨alret (by unfold paF; rw [if_pos (by omega)]), rfl⟩
set_option maxRecDepth 10000 in
theorem cM_mean (l : Launch) (w : Int) (σ : aS) (hw : WF (σ 22 0)) (hd : σ 22 0 1 ≤ 999) (hz : OZ (σ 22 1)) (hv : aIr w) : AM l 2 mX7_mean [aR 21 0, aI w] σ (QRL (A_mean (σ 22 0) w) σ) := by
  have bn := hw.1
  have b1 := hw.2.1
  have b2 := hw.2.2.1
  have h00 : σ = aRow σ 1 (σ 22 1) := aRow_id.symm
  have bak := akN_rng hw ((σ 22 0) 0).toNat (by omega)
  have hk0 : (σ 22 0) 0 = 0 → akN (σ 22 0) ((σ 22 0) 0).toNat = 0 := fun z => by rw [z]; rfl
  refine am_of (by decide) (Nat.le_of_ble_eq_true rfl) (L := [some (aR 21 0), some (aI w)]) rfl ?_
  refine aw_b kX7_ok bX7_mean_0_ok (Cs := []) (pc' := 3) (L' := [some (aR 21 0), some (aI w)]) (st' := [aI 1, aI 0, aI w]) (σ' := σ) rfl trivial ?_
  refine aw_bS lX7_49 (as := [aI w, aI 0, aI 1]) (rest := []) (by decide) rfl (Nat.le_of_ble_eq_true rfl) rfl dX7_mean_3 (cM_isIn l w 0 1 σ ⟨by omega, by omega⟩ ⟨by omega, by omega⟩ ⟨by omega, by omega⟩) (fun wh1 => ?_) (fun wh1 => ?_)
  · refine aw_ieq dX7_mean_6 (tgt := 31) (by decide) ⟨by omega, by omega⟩ (fun wh2 => absurd wh2 (by decide)) (fun wh2 => ?_)
    refine aw_b kX7_ok bX7_mean_9_ok (Cs := [0 < 1]) (pc' := 13) (L' := [some (aR 21 0), some (aI w)]) (st' := [aR 22 0]) (σ' := σ) rfl (show 0 < 1 from by omega) ?_
    refine aw_fS lX7_237 (as := [aR 22 0]) (rest := []) (by decide) rfl (Nat.le_of_ble_eq_true rfl) rfl dX7_mean_13 (cM_allKnown l σ hw) ?_
    refine aw_b kX7_ok bX7_mean_16_ok (Cs := [-2147483648 ≤ akN (σ 22 0) ((σ 22 0) 0).toNat ∧ akN (σ 22 0) ((σ 22 0) 0).toNat < 2147483648, 0 < 1, 0 < 4, 0 ≤ 0 ∧ 0 < 45, -2147483648 ≤ σ 22 0 0 ∧ σ 22 0 0 < 2147483648]) (pc' := 25) (L' := [some (aR 21 0), some (aI w)]) (st' := [aI w, aL (σ 22 0 0), aL (akN (σ 22 0) ((σ 22 0) 0).toNat)]) (σ' := σ) rfl (show (-2147483648 ≤ akN (σ 22 0) ((σ 22 0) 0).toNat ∧ akN (σ 22 0) ((σ 22 0) 0).toNat < 2147483648) ∧ (0 < 1) ∧ (0 < 4) ∧ (0 ≤ 0 ∧ 0 < 45) ∧ (-2147483648 ≤ σ 22 0 0 ∧ σ 22 0 0 < 2147483648) from ⟨by omega, by omega, by omega, by omega, by omega⟩) ?_
    refine aw_fS lX7_233 (as := [aL (akN (σ 22 0) ((σ 22 0) 0).toNat), aL (σ 22 0 0), aI w]) (rest := []) (by decide) rfl (Nat.le_of_ble_eq_true rfl) rfl dX7_mean_25 (cM_partOf l (akN (σ 22 0) ((σ 22 0) 0).toNat) ((σ 22 0) 0) w σ (by omega) (by omega) (by omega) (by omega) (by omega) (by omega)) ?_
    refine aw_b kX7_ok bX7_mean_28_ok (Cs := []) (pc' := 34) (L' := [some (aR 21 0), some (aI w)]) (st' := [aL (paF (akN (σ 22 0) ((σ 22 0) 0).toNat) ((σ 22 0) 0) w)]) (σ' := σ) rfl trivial ?_
    exact aw_lret dX7_mean_34 rfl ⟨alret (by unfold A_mean; rw [if_pos (by omega)]; split; (rename_i z; unfold paF; rw [if_pos (hk0 z)]); exact pa_eq (by omega) (by omega) (by omega)), ⟨_, hz, h00⟩⟩
  · refine aw_ieq dX7_mean_6 (tgt := 31) (by decide) ⟨by omega, by omega⟩ (fun wh3 => ?_) (fun wh3 => absurd wh3 (by decide))
    refine aw_b kX7_ok bX7_mean_31_ok (Cs := []) (pc' := 34) (L' := [some (aR 21 0), some (aI w)]) (st' := [aL 1000000001]) (σ' := σ) rfl trivial ?_
    exact aw_lret dX7_mean_34 rfl ⟨alret (by unfold A_mean; rw [if_neg (by omega)]), ⟨_, hz, h00⟩⟩
set_option maxRecDepth 10000 in
theorem cM_scandalS (l : Launch) (σ τ0 : aS) (X : aRw) (h0 : τ0 = aRow σ 1 X) (hX : WF X) : AM l 1 mX7_scandal [aR 22 1] τ0 ((fun v τ' => v = none ∧ τ' = aRow σ 1 (scP X (X 0).toNat))) := by
  have bn := hX.1
  refine am_of (by decide) (Nat.le_of_ble_eq_true rfl) (L := [some (aR 22 1), none]) rfl ?_
  refine aw_b kX7_ok bX7_scandal_0_ok (Cs := []) (pc' := 2) (L' := [some (aR 22 1), some (aI 0)]) (st' := []) (σ' := τ0) rfl trivial ?_
  refine aloop (P := fun n : Nat => ∀ (τ : aS) (hτ : τ = aRow σ 1 (scP X n)), AW l 1 mX7_scandal _ 2 [some (aR 22 1), some (aI (n : Int))] [] τ) ((X 0).toNat) (fun n hn ihn τ hτ => ?_) τ0 h0
  have m := (rS hτ).1
  have eX := scP_0 X n
  have wX := scP_wf hX n (by omega)
  have em0 : τ 22 1 0 = X 0 := by rw [m]; exact eX.1
  refine aw_b kX7_ok bX7_scandal_2_ok (Cs := [1 < 4, 0 ≤ 0 ∧ 0 < 45]) (pc' := 6) (L' := [some (aR 22 1), some (aI (n : Int))]) (st' := [aI (τ 22 1 0), aI (n : Int)]) (σ' := τ) rfl (show (1 < 4) ∧ (0 ≤ 0 ∧ 0 < 45) from ⟨by omega, by omega⟩) ?_
  refine aw_cge dX7_scandal_6 (tgt := 44) (by decide) ⟨by omega, by omega⟩ ⟨by omega, by omega⟩ (fun wh1 => ?_) (fun wh1 => ?_)
  · exact aw_vret dX7_scandal_44 rfl ⟨rfl, by rw [show n = (X 0).toNat by omega] at hτ; exact hτ⟩
  · refine aw_b kX7_ok bX7_scandal_9_ok (Cs := []) (pc' := 11) (L' := [some (aR 22 1), some (aI (n : Int))]) (st' := [aI (n : Int), aR 22 1]) (σ' := τ) rfl trivial ?_
    have hof := cM_officeOf l 1 (by decide) (n : Int) τ ⟨by omega, by omega⟩ (by rw [m]; exact wX)
    rw [m] at hof
    have bo := off_rng (scP X n) (n : Int)
    refine aw_fS lX7_64 (as := [aR 22 1, aI (n : Int)]) (rest := []) (by decide) rfl (Nat.le_of_ble_eq_true rfl) rfl dX7_scandal_11 (hof) ?_
    refine aw_ilt dX7_scandal_14 (tgt := 38) (by decide) ⟨by omega, by omega⟩ (fun wh2 => ?_) (fun wh2 => ?_)
    · refine aw_b kX7_ok bX7_scandal_38_ok (Cs := []) (pc' := 2) (L' := [some (aR 22 1), some (aI ((n : Int) + 1))]) (st' := []) (σ' := τ) rfl trivial ?_
      exact ihn (by omega) τ (by rw [scP_out (by omega)]; exact hτ)
    · have ba := aOf_rng (p := (n : Int)) (w := 2) (by omega) (by omega) (by decide) (by decide)
      have bp := wX.pe (p := (n : Int)) (by omega) (by omega)
      have ek : τ 22 1 (aOf (n : Int) 2) = scP X n (aOf (n : Int) 2) := by rw [m]
      refine aw_b kX7_ok bX7_scandal_17_ok (Cs := []) (pc' := 20) (L' := [some (aR 22 1), some (aI (n : Int))]) (st' := [aI 2, aI (n : Int), aR 22 1]) (σ' := τ) rfl trivial ?_
      refine aw_fS lX7_57 (as := [aI (n : Int), aI 2]) (rest := [aR 22 1]) (by decide) rfl (Nat.le_of_ble_eq_true rfl) rfl dX7_scandal_20 (cM_of l (n : Int) 2 τ) ?_
      refine aw_b kX7_ok bX7_scandal_23_ok (Cs := []) (pc' := 28) (L' := [some (aR 22 1), some (aI (n : Int))]) (st' := [aI 2, aI (n : Int), aR 22 1, aI 99, aI (aOf (n : Int) 2), aR 22 1]) (σ' := τ) rfl trivial ?_
      refine aw_fS lX7_57 (as := [aI (n : Int), aI 2]) (rest := [aR 22 1, aI 99, aI (aOf (n : Int) 2), aR 22 1]) (by decide) rfl (Nat.le_of_ble_eq_true rfl) rfl dX7_scandal_28 (cM_of l (n : Int) 2 τ) ?_
      refine aw_b kX7_ok bX7_scandal_31_ok (Cs := [1 < 4, 0 ≤ aOf (n : Int) 2 ∧ aOf (n : Int) 2 < 45]) (pc' := 34) (L' := [some (aR 22 1), some (aI (n : Int))]) (st' := [aI ((τ 22 1 (aOf (n : Int) 2)) + 5), aI 99, aI (aOf (n : Int) 2), aR 22 1]) (σ' := τ) rfl (show (1 < 4) ∧ (0 ≤ aOf (n : Int) 2 ∧ aOf (n : Int) 2 < 45) from ⟨by omega, by omega⟩) ?_
      refine aw_fS lX7_82 (as := [aI 99, aI ((τ 22 1 (aOf (n : Int) 2)) + 5)]) (rest := [aI (aOf (n : Int) 2), aR 22 1]) (by decide) rfl (Nat.le_of_ble_eq_true rfl) rfl dX7_scandal_34 (cM_least l 99 ((τ 22 1 (aOf (n : Int) 2)) + 5) τ ⟨by omega, by omega⟩ ⟨by omega, by omega⟩) ?_
      refine aw_b kX7_ok bX7_scandal_37_ok (Cs := [1 < 4, 0 ≤ aOf (n : Int) 2 ∧ aOf (n : Int) 2 < 45]) (pc' := 38) (L' := [some (aR 22 1), some (aI (n : Int))]) (st' := []) (σ' := aUp τ 22 1 (aOf (n : Int) 2) (if 99 < (τ 22 1 (aOf (n : Int) 2)) + 5 then 99 else (τ 22 1 (aOf (n : Int) 2)) + 5)) rfl (show (1 < 4) ∧ (0 ≤ aOf (n : Int) 2 ∧ aOf (n : Int) 2 < 45) from ⟨by omega, by omega⟩) ?_
      refine aw_b kX7_ok bX7_scandal_38_ok (Cs := []) (pc' := 2) (L' := [some (aR 22 1), some (aI ((n : Int) + 1))]) (st' := []) (σ' := aUp τ 22 1 (aOf (n : Int) 2) (if 99 < (τ 22 1 (aOf (n : Int) 2)) + 5 then 99 else (τ 22 1 (aOf (n : Int) 2)) + 5)) rfl trivial ?_
      exact ihn (by omega) _ (by rw [aUp1_row hτ, scP_in (by omega), ek])
set_option maxRecDepth 10000 in
theorem cM_scandals (l : Launch) (f n t w : Int) (σ : aS) (hw : WF (σ 22 0)) (hd : σ 22 0 1 ≤ 999) (hz : OZ (σ 22 1)) (hf : aIr f) (hn : aIr n) (ht : aIr t) (hv : aIr w) : AM l 4 mX7_scandals [aR 21 0, aI f, aI n, aI t, aI w] σ (QRL (A_scandals (σ 22 0) f n t w) σ) := by
  have bn := hw.1
  have b1 := hw.2.1
  have b2 := hw.2.2.1
  have h00 : σ = aRow σ 1 (σ 22 1) := aRow_id.symm
  refine am_of (by decide) (Nat.le_of_ble_eq_true rfl) (L := [some (aR 21 0), some (aI f), some (aI n), some (aI t), some (aI w), none, none, none, none, none, none, none, none]) rfl ?_
  refine aw_b kX7_ok bX7_scandals_0_ok (Cs := []) (pc' := 1) (L' := [some (aR 21 0), some (aI f), some (aI n), some (aI t), some (aI w), none, none, none, none, none, none, none, none]) (st' := [aI f]) (σ' := σ) rfl trivial ?_
  refine aw_bS lX7_125 (as := [aI f]) (rest := []) (by decide) rfl (Nat.le_of_ble_eq_true rfl) rfl dX7_scandals_1 (cM_isOffice l f σ ⟨by omega, by omega⟩) (fun wh1 => ?_) (fun wh1 => ?_)
  · refine aw_ieq dX7_scandals_4 (tgt := 37) (by decide) ⟨by omega, by omega⟩ (fun wh2 => absurd wh2 (by decide)) (fun wh2 => ?_)
    refine aw_b kX7_ok bX7_scandals_7_ok (Cs := []) (pc' := 11) (L' := [some (aR 21 0), some (aI f), some (aI n), some (aI t), some (aI w), none, none, none, none, none, none, none, none]) (st' := [aI 7, aI 0, aI n]) (σ' := σ) rfl trivial ?_
    refine aw_bS lX7_49 (as := [aI n, aI 0, aI 7]) (rest := []) (by decide) rfl (Nat.le_of_ble_eq_true rfl) rfl dX7_scandals_11 (cM_isIn l n 0 7 σ ⟨by omega, by omega⟩ ⟨by omega, by omega⟩ ⟨by omega, by omega⟩) (fun wh3 => ?_) (fun wh3 => ?_)
    · refine aw_ieq dX7_scandals_14 (tgt := 37) (by decide) ⟨by omega, by omega⟩ (fun wh4 => absurd wh4 (by decide)) (fun wh4 => ?_)
      refine aw_b kX7_ok bX7_scandals_17_ok (Cs := []) (pc' := 21) (L' := [some (aR 21 0), some (aI f), some (aI n), some (aI t), some (aI w), none, none, none, none, none, none, none, none]) (st' := [aI 20, aI 2, aI t]) (σ' := σ) rfl trivial ?_
      refine aw_bS lX7_49 (as := [aI t, aI 2, aI 20]) (rest := []) (by decide) rfl (Nat.le_of_ble_eq_true rfl) rfl dX7_scandals_21 (cM_isIn l t 2 20 σ ⟨by omega, by omega⟩ ⟨by omega, by omega⟩ ⟨by omega, by omega⟩) (fun wh5 => ?_) (fun wh5 => ?_)
      · refine aw_ieq dX7_scandals_24 (tgt := 37) (by decide) ⟨by omega, by omega⟩ (fun wh6 => absurd wh6 (by decide)) (fun wh6 => ?_)
        refine aw_b kX7_ok bX7_scandals_27_ok (Cs := []) (pc' := 31) (L' := [some (aR 21 0), some (aI f), some (aI n), some (aI t), some (aI w), none, none, none, none, none, none, none, none]) (st' := [aI 1, aI 0, aI w]) (σ' := σ) rfl trivial ?_
        refine aw_bS lX7_49 (as := [aI w, aI 0, aI 1]) (rest := []) (by decide) rfl (Nat.le_of_ble_eq_true rfl) rfl dX7_scandals_31 (cM_isIn l w 0 1 σ ⟨by omega, by omega⟩ ⟨by omega, by omega⟩ ⟨by omega, by omega⟩) (fun wh7 => ?_) (fun wh7 => ?_)
        · refine aw_ine dX7_scandals_34 (tgt := 41) (by decide) ⟨by omega, by omega⟩ (fun wh8 => ?_) (fun wh8 => absurd wh8 (by decide))
          refine aw_b kX7_ok bX7_scandals_41_ok (Cs := []) (pc' := 50) (L' := [some (aR 21 0), some (aI f), some (aI n), some (aI t), some (aI w), some (aL 0), none, some (aL 1), none, some (aI 0), none, none, none]) (st' := []) (σ' := σ) rfl trivial ?_
          refine aw_eq (L' := [some (aR 21 0), some (aI f), some (aI n), some (aI t), some (aI w), some (aL 0), none, some (aL (t ^ 0)), none, some (aI ((0 : Nat) : Int)), none, none, none]) (by rw [Int.pow_zero]; rfl) rfl rfl ?_
          refine aloop (P := fun i : Nat => AW l 4 mX7_scandals _ 50 [some (aR 21 0), some (aI f), some (aI n), some (aI t), some (aI w), some (aL 0), none, some (aL (t ^ i)), none, some (aI (i : Int)), none, none, none] [] σ) n.toNat (fun i hi ihi => ?_)
          refine aw_b kX7_ok bX7_scandals_50_ok (Cs := []) (pc' := 53) (L' := [some (aR 21 0), some (aI f), some (aI n), some (aI t), some (aI w), some (aL 0), none, some (aL (t ^ i)), none, some (aI (i : Int)), none, none, none]) (st' := [aI n, aI (i : Int)]) (σ' := σ) rfl trivial ?_
          refine aw_cge dX7_scandals_53 (tgt := 69) (by decide) ⟨by omega, by omega⟩ ⟨by omega, by omega⟩ (fun wh9 => ?_) (fun wh9 => ?_)
          · refine aw_b kX7_ok bX7_scandals_69_ok (Cs := []) (pc' := 72) (L' := [some (aR 21 0), some (aI f), some (aI n), some (aI t), some (aI w), some (aL 0), none, some (aL (t ^ i)), none, some (aI 0), none, none, none]) (st' := []) (σ' := σ) rfl trivial ?_
            have ei : i = n.toNat := by omega
            obtain ⟨m, hm⟩ : ∃ m : Nat, m = 2 ^ n.toNat := ⟨_, rfl⟩
            have hm2 : m ≤ 128 := by rw [hm]; exact Nat.le_trans (Nat.pow_le_pow_right (by decide) (show n.toNat ≤ 7 by omega)) (by decide)
            have e2n : (1 * 2 ^ (Int.toNat n) : Int) = (m : Int) := by subst hm; simp
            have gpi := pw_rng (t := t) (by omega) (by omega) i
            have gpj := pw_tab i (by omega)
            refine aw_eq (L' := [some (aR 21 0), some (aI f), some (aI n), some (aI t), some (aI w), some (aL (abN (σ 22 0) f n t 0)), none, some (aL (t ^ i)), none, some (aI ((0 : Nat) : Int)), none, none, none]) rfl rfl rfl ?_
            refine aloop (P := fun k : Nat => ∀ (ρ : aS) (X : aRw) (hX : OZ X) (hρ : ρ = aRow σ 1 X), AW l 4 mX7_scandals _ 72 [some (aR 21 0), some (aI f), some (aI n), some (aI t), some (aI w), some (aL (abN (σ 22 0) f n t k)), none, some (aL (t ^ i)), none, some (aI (k : Int)), none, none, none] [] ρ) m (fun k hk ihk ρ X hX hρ => ?_) σ _ hz h00
            have gab := abN_rng (σ 22 0) f (n := n) (t := t) (by omega) (by omega) (by omega) k
            refine aw_b kX7_ok bX7_scandals_72_ok (Cs := [0 ≤ n ∧ n < 32]) (pc' := 77) (L' := [some (aR 21 0), some (aI f), some (aI n), some (aI t), some (aI w), some (aL (abN (σ 22 0) f n t k)), none, some (aL (t ^ i)), none, some (aI (k : Int)), none, none, none]) (st' := [aI (1 * 2 ^ (Int.toNat n)), aI (k : Int)]) (σ' := ρ) rfl (show 0 ≤ n ∧ n < 32 from by omega) ?_
            refine aw_cge dX7_scandals_77 (tgt := 185) (by decide) ⟨by omega, by omega⟩ ⟨by omega, by omega⟩ (fun wh10 => ?_) (fun wh10 => ?_)
            · refine aw_b kX7_ok bX7_scandals_185_ok (Cs := []) (pc' := 191) (L' := [some (aR 21 0), some (aI f), some (aI n), some (aI t), some (aI w), some (aL (abN (σ 22 0) f n t k)), none, some (aL (t ^ i)), none, some (aI (k : Int)), none, none, none]) (st' := [aI w, aL (t ^ i), aL (abN (σ 22 0) f n t k)]) (σ' := ρ) rfl trivial ?_
              have ekm : k = m := by omega
              refine aw_fS lX7_233 (as := [aL (abN (σ 22 0) f n t k), aL (t ^ i), aI w]) (rest := []) (by decide) rfl (Nat.le_of_ble_eq_true rfl) rfl dX7_scandals_191 (cM_partOf l (abN (σ 22 0) f n t k) (t ^ i) w ρ (by omega) (by omega) (by omega) (by omega) (by omega) (by omega)) ?_
              exact aw_lret dX7_scandals_194 rfl ⟨alret (by unfold A_scandals; rw [if_pos (by omega), ← hm, ← ekm, ← ei]; exact pa_eq (by omega) (by omega) (by omega)), ⟨_, hX, hρ⟩⟩
            · refine aw_b kX7_ok bX7_scandals_80_ok (Cs := [0 < 1, 0 < 1]) (pc' := 91) (L' := [some (aR 21 0), some (aI f), some (aI n), some (aI t), some (aI w), some (aL (abN (σ 22 0) f n t k)), none, some (aL (t ^ i)), none, some (aI (k : Int)), some (aL 1), none, none]) (st' := [aR 22 1, aR 22 0]) (σ' := ρ) rfl (show (0 < 1) ∧ (0 < 1) from ⟨by omega, by omega⟩) ?_
              refine aw_callS lX7_145 (as := [aR 22 0, aR 22 1]) (rest := []) (by decide) rfl (Nat.le_of_ble_eq_true rfl) rfl dX7_scandals_91 (cM_cpS l σ ρ _ hρ hw hX) ?_
              rintro _ τ1 ⟨rfl, hτ1⟩
              have m1 := (rS hτ1).1
              have s1 := (rS hτ1).2
              refine aw_b kX7_ok bX7_scandals_94_ok (Cs := []) (pc' := 97) (L' := [some (aR 21 0), some (aI f), some (aI n), some (aI t), some (aI w), some (aL (abN (σ 22 0) f n t k)), none, some (aL (t ^ i)), none, some (aI (k : Int)), some (aL 1), none, some (aI 0)]) (st' := []) (σ' := τ1) rfl trivial ?_
              refine aw_eq (L' := [some (aR 21 0), some (aI f), some (aI n), some (aI t), some (aI w), some (aL (abN (σ 22 0) f n t k)), none, some (aL (t ^ i)), none, some (aI (k : Int)), some (aL (weN (k : Int) t 0)), none, some (aI ((0 : Nat) : Int))]) rfl rfl rfl ?_
              refine aloop (P := fun j : Nat => ∀ (τ : aS) (hτ : τ = aRow σ 1 (scN (σ 22 0) k j)), AW l 4 mX7_scandals _ 97 [some (aR 21 0), some (aI f), some (aI n), some (aI t), some (aI w), some (aL (abN (σ 22 0) f n t k)), none, some (aL (t ^ i)), none, some (aI (k : Int)), some (aL (weN (k : Int) t j)), none, some (aI (j : Int))] [] τ) n.toNat (fun j hj ihj τ hτ => ?_) τ1 hτ1
              have m9 := (rS hτ).1
              have wX := scN_wf hw k j
              have eX := scN_0 (σ 22 0) k j
              refine aw_b kX7_ok bX7_scandals_97_ok (Cs := []) (pc' := 100) (L' := [some (aR 21 0), some (aI f), some (aI n), some (aI t), some (aI w), some (aL (abN (σ 22 0) f n t k)), none, some (aL (t ^ i)), none, some (aI (k : Int)), some (aL (weN (k : Int) t j)), none, some (aI (j : Int))]) (st' := [aI n, aI (j : Int)]) (σ' := τ) rfl trivial ?_
              refine aw_cge dX7_scandals_100 (tgt := 156) (by decide) ⟨by omega, by omega⟩ ⟨by omega, by omega⟩ (fun wh11 => ?_) (fun wh11 => ?_)
              · have ej : j = n.toNat := by omega
                have bho := wX.ho (f := f) (by omega) (by omega)
                have eho : τ 22 1 (8 + f) = (scN (σ 22 0) k j) (8 + f) := by rw [m9]
                refine aw_b kX7_ok bX7_scandals_156_ok (Cs := [0 < 1, 1 < 4, 0 ≤ 8 + f ∧ 8 + f < 45]) (pc' := 167) (L' := [some (aR 21 0), some (aI f), some (aI n), some (aI t), some (aI w), some (aL (abN (σ 22 0) f n t k)), none, some (aL (t ^ i)), none, some (aI (k : Int)), some (aL (weN (k : Int) t j)), none, some (aI (j : Int))]) (st' := [aI (τ 22 1 (8 + f)), aL (abN (σ 22 0) f n t k)]) (σ' := τ) rfl (show (0 < 1) ∧ (1 < 4) ∧ (0 ≤ 8 + f ∧ 8 + f < 45) from ⟨by omega, by omega, by omega⟩) ?_
                refine aw_ilt dX7_scandals_167 (tgt := 175) (by decide) ⟨by omega, by omega⟩ (fun wh12 => ?_) (fun wh12 => ?_)
                · refine aw_b kX7_ok bX7_scandals_175_ok (Cs := []) (pc' := 176) (L' := [some (aR 21 0), some (aI f), some (aI n), some (aI t), some (aI w), some (aL (abN (σ 22 0) f n t k)), none, some (aL (t ^ i)), none, some (aI (k : Int)), some (aL (weN (k : Int) t j)), none, some (aI (j : Int))]) (st' := [aL 0, aL (abN (σ 22 0) f n t k)]) (σ' := τ) rfl trivial ?_
                  refine aw_b kX7_ok bX7_scandals_176_ok (Cs := []) (pc' := 72) (L' := [some (aR 21 0), some (aI f), some (aI n), some (aI t), some (aI w), some (aL ((abN (σ 22 0) f n t k) + 0)), none, some (aL (t ^ i)), none, some (aI ((k : Int) + 1)), some (aL (weN (k : Int) t j)), none, some (aI (j : Int))]) (st' := []) (σ' := τ) rfl trivial ?_
                  refine aw_drop [10, 12] (L' := [some (aR 21 0), some (aI f), some (aI n), some (aI t), some (aI w), some (aL ((abN (σ 22 0) f n t k) + 0)), none, some (aL (t ^ i)), none, some (aI ((k : Int) + 1)), none, none, none]) rfl ?_
                  have e1 : abN (σ 22 0) f n t k + 0 = abN (σ 22 0) f n t (k + 1) := by rw [abN, if_neg (by rw [← ej]; omega)]
                  exact aw_eq (by rw [e1]; rfl) rfl rfl (ihk (by omega) τ _ wX.oz hτ)
                · refine aw_b kX7_ok bX7_scandals_170_ok (Cs := []) (pc' := 176) (L' := [some (aR 21 0), some (aI f), some (aI n), some (aI t), some (aI w), some (aL (abN (σ 22 0) f n t k)), none, some (aL (t ^ i)), none, some (aI (k : Int)), some (aL (weN (k : Int) t j)), none, some (aI (j : Int))]) (st' := [aL (weN (k : Int) t j), aL (abN (σ 22 0) f n t k)]) (σ' := τ) rfl trivial ?_
                  refine aw_b kX7_ok bX7_scandals_176_ok (Cs := []) (pc' := 72) (L' := [some (aR 21 0), some (aI f), some (aI n), some (aI t), some (aI w), some (aL ((abN (σ 22 0) f n t k) + (weN (k : Int) t j))), none, some (aL (t ^ i)), none, some (aI ((k : Int) + 1)), some (aL (weN (k : Int) t j)), none, some (aI (j : Int))]) (st' := []) (σ' := τ) rfl trivial ?_
                  refine aw_drop [10, 12] (L' := [some (aR 21 0), some (aI f), some (aI n), some (aI t), some (aI w), some (aL ((abN (σ 22 0) f n t k) + (weN (k : Int) t j))), none, some (aL (t ^ i)), none, some (aI ((k : Int) + 1)), none, none, none]) rfl ?_
                  have e1 : abN (σ 22 0) f n t k + weN (k : Int) t j = abN (σ 22 0) f n t (k + 1) := by rw [abN, if_pos (by rw [← ej]; omega), ej]
                  exact aw_eq (by rw [e1]; rfl) rfl rfl (ihk (by omega) τ _ wX.oz hτ)
              · have bt := bit_all (s := (k : Int)) (p := (j : Int)) (by omega) (by omega) (by omega) (by omega)
                refine aw_b kX7_ok bX7_scandals_103_ok (Cs := []) (pc' := 109) (L' := [some (aR 21 0), some (aI f), some (aI n), some (aI t), some (aI w), some (aL (abN (σ 22 0) f n t k)), none, some (aL (t ^ i)), none, some (aI (k : Int)), some (aL (weN (k : Int) t j)), none, some (aI (j : Int))]) (st' := [aI (j : Int), aI (k : Int), aL (weN (k : Int) t j)]) (σ' := τ) rfl trivial ?_
                refine aw_bS lX7_152 (as := [aI (k : Int), aI (j : Int)]) (rest := [aL (weN (k : Int) t j)]) (by decide) rfl (Nat.le_of_ble_eq_true rfl) rfl dX7_scandals_109 (cM_has l (k : Int) (j : Int) τ (by omega) (by omega) (by omega) (by omega)) (fun wh13 => ?_) (fun wh13 => ?_)
                · refine aw_ieq dX7_scandals_112 (tgt := 119) (by decide) ⟨by omega, by omega⟩ (fun wh14 => absurd wh14 (by decide)) (fun wh14 => ?_)
                  refine aw_b kX7_ok bX7_scandals_115_ok (Cs := []) (pc' := 123) (L' := [some (aR 21 0), some (aI f), some (aI n), some (aI t), some (aI w), some (aL (abN (σ 22 0) f n t k)), none, some (aL (t ^ i)), none, some (aI (k : Int)), some (aL (weN (k : Int) t j)), none, some (aI (j : Int))]) (st' := [aL 1, aL (weN (k : Int) t j)]) (σ' := τ) rfl trivial ?_
                  refine aw_b kX7_ok bX7_scandals_123_ok (Cs := []) (pc' := 130) (L' := [some (aR 21 0), some (aI f), some (aI n), some (aI t), some (aI w), some (aL (abN (σ 22 0) f n t k)), none, some (aL (t ^ i)), none, some (aI (k : Int)), some (aL ((weN (k : Int) t j) * 1)), none, some (aI (j : Int))]) (st' := [aI (j : Int), aI (k : Int)]) (σ' := τ) rfl trivial ?_
                  refine aw_bS lX7_152 (as := [aI (k : Int), aI (j : Int)]) (rest := []) (by decide) rfl (Nat.le_of_ble_eq_true rfl) rfl dX7_scandals_130 (cM_has l (k : Int) (j : Int) τ (by omega) (by omega) (by omega) (by omega)) (fun wh15 => ?_) (fun wh15 => ?_)
                  · refine aw_ieq dX7_scandals_133 (tgt := 143) (by decide) ⟨by omega, by omega⟩ (fun wh16 => absurd wh16 (by decide)) (fun wh16 => ?_)
                    refine aw_b kX7_ok bX7_scandals_136_ok (Cs := [0 < 1]) (pc' := 140) (L' := [some (aR 21 0), some (aI f), some (aI n), some (aI t), some (aI w), some (aL (abN (σ 22 0) f n t k)), none, some (aL (t ^ i)), none, some (aI (k : Int)), some (aL ((weN (k : Int) t j) * 1)), none, some (aI (j : Int))]) (st' := [aR 22 1]) (σ' := τ) rfl (show 0 < 1 from by omega) ?_
                    refine aw_callS lX7_230 (as := [aR 22 1]) (rest := []) (by decide) rfl (Nat.le_of_ble_eq_true rfl) rfl dX7_scandals_140 (cM_scandalS l σ τ _ hτ wX) ?_
                    rintro _ τ2 ⟨rfl, hτ2⟩
                    have hD : τ2 = aRow σ 1 (scD (scN (σ 22 0) k j) k j) := by rw [hτ2]; unfold scD; rw [if_pos (by omega)]
                    have eD := scD_0 (scN (σ 22 0) k j) k j
                    have wD := scD_wf wX k j
                    refine aw_b kX7_ok bX7_scandals_143_ok (Cs := [0 < 1]) (pc' := 147) (L' := [some (aR 21 0), some (aI f), some (aI n), some (aI t), some (aI w), some (aL (abN (σ 22 0) f n t k)), none, some (aL (t ^ i)), none, some (aI (k : Int)), some (aL ((weN (k : Int) t j) * 1)), none, some (aI (j : Int))]) (st' := [aR 22 1]) (σ' := τ2) rfl (show 0 < 1 from by omega) ?_
                    refine aw_callS lX7_95 (as := [aR 22 1]) (rest := []) (by decide) rfl (Nat.le_of_ble_eq_true rfl) rfl dX7_scandals_147 (cM_dayS l σ τ2 _ hD wD (by omega)) ?_
                    rintro _ τ9 ⟨rfl, hτ9⟩
                    refine aw_b kX7_ok bX7_scandals_150_ok (Cs := []) (pc' := 97) (L' := [some (aR 21 0), some (aI f), some (aI n), some (aI t), some (aI w), some (aL (abN (σ 22 0) f n t k)), none, some (aL (t ^ i)), none, some (aI (k : Int)), some (aL ((weN (k : Int) t j) * 1)), none, some (aI ((j : Int) + 1))]) (st' := []) (σ' := τ9) rfl trivial ?_
                    have e1 : weN (k : Int) t j * 1 = weN (k : Int) t (j + 1) := by rw [weN, if_neg (by omega), Int.mul_one]
                    exact aw_eq (by rw [e1]; rfl) rfl rfl (ihj (by omega) τ9 hτ9)
                  · refine aw_ieq dX7_scandals_133 (tgt := 143) (by decide) ⟨by omega, by omega⟩ (fun wh17 => ?_) (fun wh17 => absurd wh17 (by decide))
                    have hD : τ = aRow σ 1 (scD (scN (σ 22 0) k j) k j) := by rw [hτ]; unfold scD; rw [if_neg (by omega)]
                    have eD := scD_0 (scN (σ 22 0) k j) k j
                    have wD := scD_wf wX k j
                    refine aw_b kX7_ok bX7_scandals_143_ok (Cs := [0 < 1]) (pc' := 147) (L' := [some (aR 21 0), some (aI f), some (aI n), some (aI t), some (aI w), some (aL (abN (σ 22 0) f n t k)), none, some (aL (t ^ i)), none, some (aI (k : Int)), some (aL ((weN (k : Int) t j) * 1)), none, some (aI (j : Int))]) (st' := [aR 22 1]) (σ' := τ) rfl (show 0 < 1 from by omega) ?_
                    refine aw_callS lX7_95 (as := [aR 22 1]) (rest := []) (by decide) rfl (Nat.le_of_ble_eq_true rfl) rfl dX7_scandals_147 (cM_dayS l σ τ _ hD wD (by omega)) ?_
                    rintro _ τ9 ⟨rfl, hτ9⟩
                    refine aw_b kX7_ok bX7_scandals_150_ok (Cs := []) (pc' := 97) (L' := [some (aR 21 0), some (aI f), some (aI n), some (aI t), some (aI w), some (aL (abN (σ 22 0) f n t k)), none, some (aL (t ^ i)), none, some (aI (k : Int)), some (aL ((weN (k : Int) t j) * 1)), none, some (aI ((j : Int) + 1))]) (st' := []) (σ' := τ9) rfl trivial ?_
                    have e1 : weN (k : Int) t j * 1 = weN (k : Int) t (j + 1) := by rw [weN, if_neg (by omega), Int.mul_one]
                    exact aw_eq (by rw [e1]; rfl) rfl rfl (ihj (by omega) τ9 hτ9)
                · refine aw_ieq dX7_scandals_112 (tgt := 119) (by decide) ⟨by omega, by omega⟩ (fun wh18 => ?_) (fun wh18 => absurd wh18 (by decide))
                  refine aw_b kX7_ok bX7_scandals_119_ok (Cs := [-2147483648 ≤ t - 1 ∧ t - 1 < 2147483648]) (pc' := 123) (L' := [some (aR 21 0), some (aI f), some (aI n), some (aI t), some (aI w), some (aL (abN (σ 22 0) f n t k)), none, some (aL (t ^ i)), none, some (aI (k : Int)), some (aL (weN (k : Int) t j)), none, some (aI (j : Int))]) (st' := [aL (t - 1), aL (weN (k : Int) t j)]) (σ' := τ) rfl (show -2147483648 ≤ t - 1 ∧ t - 1 < 2147483648 from by omega) ?_
                  refine aw_b kX7_ok bX7_scandals_123_ok (Cs := []) (pc' := 130) (L' := [some (aR 21 0), some (aI f), some (aI n), some (aI t), some (aI w), some (aL (abN (σ 22 0) f n t k)), none, some (aL (t ^ i)), none, some (aI (k : Int)), some (aL ((weN (k : Int) t j) * (t - 1))), none, some (aI (j : Int))]) (st' := [aI (j : Int), aI (k : Int)]) (σ' := τ) rfl trivial ?_
                  refine aw_bS lX7_152 (as := [aI (k : Int), aI (j : Int)]) (rest := []) (by decide) rfl (Nat.le_of_ble_eq_true rfl) rfl dX7_scandals_130 (cM_has l (k : Int) (j : Int) τ (by omega) (by omega) (by omega) (by omega)) (fun wh19 => ?_) (fun wh19 => ?_)
                  · refine aw_ieq dX7_scandals_133 (tgt := 143) (by decide) ⟨by omega, by omega⟩ (fun wh20 => absurd wh20 (by decide)) (fun wh20 => ?_)
                    refine aw_b kX7_ok bX7_scandals_136_ok (Cs := [0 < 1]) (pc' := 140) (L' := [some (aR 21 0), some (aI f), some (aI n), some (aI t), some (aI w), some (aL (abN (σ 22 0) f n t k)), none, some (aL (t ^ i)), none, some (aI (k : Int)), some (aL ((weN (k : Int) t j) * (t - 1))), none, some (aI (j : Int))]) (st' := [aR 22 1]) (σ' := τ) rfl (show 0 < 1 from by omega) ?_
                    refine aw_callS lX7_230 (as := [aR 22 1]) (rest := []) (by decide) rfl (Nat.le_of_ble_eq_true rfl) rfl dX7_scandals_140 (cM_scandalS l σ τ _ hτ wX) ?_
                    rintro _ τ2 ⟨rfl, hτ2⟩
                    have hD : τ2 = aRow σ 1 (scD (scN (σ 22 0) k j) k j) := by rw [hτ2]; unfold scD; rw [if_pos (by omega)]
                    have eD := scD_0 (scN (σ 22 0) k j) k j
                    have wD := scD_wf wX k j
                    refine aw_b kX7_ok bX7_scandals_143_ok (Cs := [0 < 1]) (pc' := 147) (L' := [some (aR 21 0), some (aI f), some (aI n), some (aI t), some (aI w), some (aL (abN (σ 22 0) f n t k)), none, some (aL (t ^ i)), none, some (aI (k : Int)), some (aL ((weN (k : Int) t j) * (t - 1))), none, some (aI (j : Int))]) (st' := [aR 22 1]) (σ' := τ2) rfl (show 0 < 1 from by omega) ?_
                    refine aw_callS lX7_95 (as := [aR 22 1]) (rest := []) (by decide) rfl (Nat.le_of_ble_eq_true rfl) rfl dX7_scandals_147 (cM_dayS l σ τ2 _ hD wD (by omega)) ?_
                    rintro _ τ9 ⟨rfl, hτ9⟩
                    refine aw_b kX7_ok bX7_scandals_150_ok (Cs := []) (pc' := 97) (L' := [some (aR 21 0), some (aI f), some (aI n), some (aI t), some (aI w), some (aL (abN (σ 22 0) f n t k)), none, some (aL (t ^ i)), none, some (aI (k : Int)), some (aL ((weN (k : Int) t j) * (t - 1))), none, some (aI ((j : Int) + 1))]) (st' := []) (σ' := τ9) rfl trivial ?_
                    have e1 : weN (k : Int) t j * (t - 1) = weN (k : Int) t (j + 1) := by rw [weN, if_pos (by omega)]
                    exact aw_eq (by rw [e1]; rfl) rfl rfl (ihj (by omega) τ9 hτ9)
                  · refine aw_ieq dX7_scandals_133 (tgt := 143) (by decide) ⟨by omega, by omega⟩ (fun wh21 => ?_) (fun wh21 => absurd wh21 (by decide))
                    have hD : τ = aRow σ 1 (scD (scN (σ 22 0) k j) k j) := by rw [hτ]; unfold scD; rw [if_neg (by omega)]
                    have eD := scD_0 (scN (σ 22 0) k j) k j
                    have wD := scD_wf wX k j
                    refine aw_b kX7_ok bX7_scandals_143_ok (Cs := [0 < 1]) (pc' := 147) (L' := [some (aR 21 0), some (aI f), some (aI n), some (aI t), some (aI w), some (aL (abN (σ 22 0) f n t k)), none, some (aL (t ^ i)), none, some (aI (k : Int)), some (aL ((weN (k : Int) t j) * (t - 1))), none, some (aI (j : Int))]) (st' := [aR 22 1]) (σ' := τ) rfl (show 0 < 1 from by omega) ?_
                    refine aw_callS lX7_95 (as := [aR 22 1]) (rest := []) (by decide) rfl (Nat.le_of_ble_eq_true rfl) rfl dX7_scandals_147 (cM_dayS l σ τ _ hD wD (by omega)) ?_
                    rintro _ τ9 ⟨rfl, hτ9⟩
                    refine aw_b kX7_ok bX7_scandals_150_ok (Cs := []) (pc' := 97) (L' := [some (aR 21 0), some (aI f), some (aI n), some (aI t), some (aI w), some (aL (abN (σ 22 0) f n t k)), none, some (aL (t ^ i)), none, some (aI (k : Int)), some (aL ((weN (k : Int) t j) * (t - 1))), none, some (aI ((j : Int) + 1))]) (st' := []) (σ' := τ9) rfl trivial ?_
                    have e1 : weN (k : Int) t j * (t - 1) = weN (k : Int) t (j + 1) := by rw [weN, if_pos (by omega)]
                    exact aw_eq (by rw [e1]; rfl) rfl rfl (ihj (by omega) τ9 hτ9)
          · refine aw_b kX7_ok bX7_scandals_56_ok (Cs := [-2147483648 ≤ t ∧ t < 2147483648]) (pc' := 50) (L' := [some (aR 21 0), some (aI f), some (aI n), some (aI t), some (aI w), some (aL 0), none, some (aL ((t ^ i) * t)), none, some (aI ((i : Int) + 1)), none, none, none]) (st' := []) (σ' := σ) rfl (show -2147483648 ≤ t ∧ t < 2147483648 from by omega) ?_
            exact aw_eq (by rw [← Int.pow_succ]; rfl) rfl rfl (ihi (by omega))
        · refine aw_ine dX7_scandals_34 (tgt := 41) (by decide) ⟨by omega, by omega⟩ (fun wh22 => absurd wh22 (by decide)) (fun wh22 => ?_)
          refine aw_b kX7_ok bX7_scandals_37_ok (Cs := []) (pc' := 40) (L' := [some (aR 21 0), some (aI f), some (aI n), some (aI t), some (aI w), none, none, none, none, none, none, none, none]) (st' := [aL 1000000001]) (σ' := σ) rfl trivial ?_
          exact aw_lret dX7_scandals_40 rfl ⟨alret (by unfold A_scandals; rw [if_neg (by omega)]), ⟨_, hz, h00⟩⟩
      · refine aw_ieq dX7_scandals_24 (tgt := 37) (by decide) ⟨by omega, by omega⟩ (fun wh23 => ?_) (fun wh23 => absurd wh23 (by decide))
        refine aw_b kX7_ok bX7_scandals_37_ok (Cs := []) (pc' := 40) (L' := [some (aR 21 0), some (aI f), some (aI n), some (aI t), some (aI w), none, none, none, none, none, none, none, none]) (st' := [aL 1000000001]) (σ' := σ) rfl trivial ?_
        exact aw_lret dX7_scandals_40 rfl ⟨alret (by unfold A_scandals; rw [if_neg (by omega)]), ⟨_, hz, h00⟩⟩
    · refine aw_ieq dX7_scandals_14 (tgt := 37) (by decide) ⟨by omega, by omega⟩ (fun wh24 => ?_) (fun wh24 => absurd wh24 (by decide))
      refine aw_b kX7_ok bX7_scandals_37_ok (Cs := []) (pc' := 40) (L' := [some (aR 21 0), some (aI f), some (aI n), some (aI t), some (aI w), none, none, none, none, none, none, none, none]) (st' := [aL 1000000001]) (σ' := σ) rfl trivial ?_
      exact aw_lret dX7_scandals_40 rfl ⟨alret (by unfold A_scandals; rw [if_neg (by omega)]), ⟨_, hz, h00⟩⟩
  · refine aw_ieq dX7_scandals_4 (tgt := 37) (by decide) ⟨by omega, by omega⟩ (fun wh25 => ?_) (fun wh25 => absurd wh25 (by decide))
    refine aw_b kX7_ok bX7_scandals_37_ok (Cs := []) (pc' := 40) (L' := [some (aR 21 0), some (aI f), some (aI n), some (aI t), some (aI w), none, none, none, none, none, none, none, none]) (st' := [aL 1000000001]) (σ' := σ) rfl trivial ?_
    exact aw_lret dX7_scandals_40 rfl ⟨alret (by unfold A_scandals; rw [if_neg (by omega)]), ⟨_, hz, h00⟩⟩
set_option maxRecDepth 10000 in
theorem cM_drawn (l : Launch) (σ : aS) : AM l 0 mX7_drawn [aR 21 0, aI 10] σ (aF (some (aI (drF (σ 21 0 11 * 1103515245 + 12345)))) (aUp σ 21 0 11 (σ 21 0 11 * 1103515245 + 12345))) := by
  have bz := aAnd31 (aUp σ 21 0 11 (σ 21 0 11 * 1103515245 + 12345) 21 0 11)
  have bq := aAnd31q (aUp σ 21 0 11 (σ 21 0 11 * 1103515245 + 12345) 21 0 11)
  refine am_of (by decide) (Nat.le_of_ble_eq_true rfl) (L := [some (aR 21 0), some (aI 10)]) rfl ?_
  refine aw_b kX7_ok bX7_drawn_0_ok (Cs := [0 < 1, 0 < 1, 0 < 1, -2147483648 ≤ aAnd ((aUp σ 21 0 11 (((σ 21 0 11) * 1103515245) + 12345)) 21 0 11) 2147483647 ∧ aAnd ((aUp σ 21 0 11 (((σ 21 0 11) * 1103515245) + 12345)) 21 0 11) 2147483647 < 2147483648, 0 < 65536 ∧ 65536 < 2147483648, -2147483648 ≤ Int.tdiv (aAnd ((aUp σ 21 0 11 (((σ 21 0 11) * 1103515245) + 12345)) 21 0 11) 2147483647) 65536 ∧ Int.tdiv (aAnd ((aUp σ 21 0 11 (((σ 21 0 11) * 1103515245) + 12345)) 21 0 11) 2147483647) 65536 < 2147483648, 0 < 10 ∧ 10 < 2147483648]) (pc' := 27) (L' := [some (aR 21 0), some (aI 10)]) (st' := [aI (Int.tmod (Int.tdiv (aAnd ((aUp σ 21 0 11 (((σ 21 0 11) * 1103515245) + 12345)) 21 0 11) 2147483647) 65536) 10)]) (σ' := aUp σ 21 0 11 (((σ 21 0 11) * 1103515245) + 12345)) rfl (show (0 < 1) ∧ (0 < 1) ∧ (0 < 1) ∧ (-2147483648 ≤ aAnd ((aUp σ 21 0 11 (((σ 21 0 11) * 1103515245) + 12345)) 21 0 11) 2147483647 ∧ aAnd ((aUp σ 21 0 11 (((σ 21 0 11) * 1103515245) + 12345)) 21 0 11) 2147483647 < 2147483648) ∧ (0 < 65536 ∧ 65536 < 2147483648) ∧ (-2147483648 ≤ Int.tdiv (aAnd ((aUp σ 21 0 11 (((σ 21 0 11) * 1103515245) + 12345)) 21 0 11) 2147483647) 65536 ∧ Int.tdiv (aAnd ((aUp σ 21 0 11 (((σ 21 0 11) * 1103515245) + 12345)) 21 0 11) 2147483647) 65536 < 2147483648) ∧ (0 < 10 ∧ 10 < 2147483648) from ⟨by omega, by omega, by omega, by omega, by omega, by omega, by omega⟩) ?_
  exact aw_iret dX7_drawn_27 rfl ⟨aret (by rw [aUp_same]; rfl), rfl⟩
theorem ozUp {X : aRw} (h : OZ X) {i x : Int} (hi : 0 ≤ i ∧ i < 45) : OZ (rUp X i x) := fun j hj => by
  rw [rUp_ne (by omega)]
  exact h j hj
def ysN (r : aRw) (z w : Int) (y : Nat) : Int := if w = 0 then yhN r z y else yfN r z y
set_option maxRecDepth 10000 in
theorem cM_years (l : Launch) (n z w : Int) (σ : aS) (hw : WF (σ 22 0)) (hd : σ 22 0 1 ≤ 999) (hz : OZ (σ 22 1)) (hn : aIr n) (hv0 : aIr z) (hv : aIr w) : AM l 5 mX7_years [aR 21 0, aI n, aI z, aI w] σ (QM (A_years (σ 22 0) n z w) σ) := by
  have bn := hw.1
  have b1 := hw.2.1
  have b2 := hw.2.2.1
  have h00 : σ = aRow σ 1 (σ 22 1) := aRow_id.symm
  refine am_of (by decide) (Nat.le_of_ble_eq_true rfl) (L := [some (aR 21 0), some (aI n), some (aI z), some (aI w), none, none, none]) rfl ?_
  refine aw_b kX7_ok bX7_years_0_ok (Cs := []) (pc' := 4) (L' := [some (aR 21 0), some (aI n), some (aI z), some (aI w), none, none, none]) (st' := [aI 20, aI 1, aI n]) (σ' := σ) rfl trivial ?_
  refine aw_bS lX7_49 (as := [aI n, aI 1, aI 20]) (rest := []) (by decide) rfl (Nat.le_of_ble_eq_true rfl) rfl dX7_years_4 (cM_isIn l n 1 20 σ ⟨by omega, by omega⟩ ⟨by omega, by omega⟩ ⟨by omega, by omega⟩) (fun wh1 => ?_) (fun wh1 => ?_)
  · refine aw_ieq dX7_years_7 (tgt := 19) (by decide) ⟨by omega, by omega⟩ (fun wh2 => absurd wh2 (by decide)) (fun wh2 => ?_)
    refine aw_b kX7_ok bX7_years_10_ok (Cs := []) (pc' := 13) (L' := [some (aR 21 0), some (aI n), some (aI z), some (aI w), none, none, none]) (st' := [aI 1, aI 0, aI w]) (σ' := σ) rfl trivial ?_
    refine aw_bS lX7_49 (as := [aI w, aI 0, aI 1]) (rest := []) (by decide) rfl (Nat.le_of_ble_eq_true rfl) rfl dX7_years_13 (cM_isIn l w 0 1 σ ⟨by omega, by omega⟩ ⟨by omega, by omega⟩ ⟨by omega, by omega⟩) (fun wh3 => ?_) (fun wh3 => ?_)
    · refine aw_ine dX7_years_16 (tgt := 21) (by decide) ⟨by omega, by omega⟩ (fun wh4 => ?_) (fun wh4 => absurd wh4 (by decide))
      refine aw_b kX7_ok bX7_years_21_ok (Cs := [0 < 1]) (pc' := 32) (L' := [some (aR 21 0), some (aI n), some (aI z), some (aI w), some (aI 0), some (aI 0), none]) (st' := []) (σ' := aUp σ 21 0 11 z) rfl (show 0 < 1 from by omega) ?_
      refine aw_eq (L' := [some (aR 21 0), some (aI n), some (aI z), some (aI w), some (aI (ysN (σ 22 0) z w 0)), some (aI ((0 : Nat) : Int)), none]) (by rw [show ysN (σ 22 0) z w 0 = 0 by unfold ysN; split <;> rfl]; rfl) rfl rfl ?_
      refine aloop (P := fun y : Nat => ∀ (ρ : aS) (X : aRw) (hX : OZ X) (mρ : ρ 22 1 = X) (sρ : ρ 22 0 = σ 22 0) (dρ : ρ 21 0 11 = (yzN (σ 22 0) z y)) (hG : mFr σ ρ), AW l 5 mX7_years _ 32 [some (aR 21 0), some (aI n), some (aI z), some (aI w), some (aI (ysN (σ 22 0) z w y)), some (aI (y : Int)), none] [] ρ) n.toNat (fun y hy ihy ρ X hX mρ sρ dρ hG => ?_) _ (σ 22 1) hz (aUp_t (by decide)) (aUp_t (by decide)) aUp_same (mFr_21 (by decide))
      refine aw_b kX7_ok bX7_years_32_ok (Cs := []) (pc' := 35) (L' := [some (aR 21 0), some (aI n), some (aI z), some (aI w), some (aI (ysN (σ 22 0) z w y)), some (aI (y : Int)), none]) (st' := [aI n, aI (y : Int)]) (σ' := ρ) rfl trivial ?_
      refine aw_cge dX7_years_35 (tgt := 166) (by decide) ⟨by omega, by omega⟩ ⟨by omega, by omega⟩ (fun wh5 => ?_) (fun wh5 => ?_)
      · refine aw_b kX7_ok bX7_years_166_ok (Cs := []) (pc' := 168) (L' := [some (aR 21 0), some (aI n), some (aI z), some (aI w), some (aI (ysN (σ 22 0) z w y)), some (aI (y : Int)), none]) (st' := [aI (ysN (σ 22 0) z w y)]) (σ' := ρ) rfl trivial ?_
        exact aw_iret dX7_years_168 rfl ⟨aret (by unfold A_years; rw [if_pos (by omega), show y = n.toNat by omega]; rfl), hG⟩
      · refine aw_b kX7_ok bX7_years_38_ok (Cs := [0 < 1, 0 < 1]) (pc' := 46) (L' := [some (aR 21 0), some (aI n), some (aI z), some (aI w), some (aI (ysN (σ 22 0) z w y)), some (aI (y : Int)), none]) (st' := [aR 22 1, aR 22 0]) (σ' := ρ) rfl (show (0 < 1) ∧ (0 < 1) from ⟨by omega, by omega⟩) ?_
        have hcp := cM_copies l 0 1 (by decide) (by decide) ρ (fun i hi => by rw [mρ, sρ, hX i hi, hw.oz i hi])
        refine aw_callS lX7_145 (as := [aR 22 0, aR 22 1]) (rest := []) (by decide) rfl (Nat.le_of_ble_eq_true rfl) rfl dX7_years_46 (hcp) ?_
        rintro _ τ1 ⟨rfl, hτ1⟩
        have m1 : τ1 22 1 = ycN (σ 22 0) (yzN (σ 22 0) z y) 0 := by rw [hτ1, aRow_self, sρ]; rfl
        have s1 : τ1 22 0 = σ 22 0 := by rw [hτ1, aRow_ne (by decide)]; exact sρ
        have d1 : τ1 21 0 11 = lcN (yzN (σ 22 0) z y) 0 := by rw [hτ1, aRow_off (by decide)]; exact dρ
        have F1 : mFr σ τ1 := mFr_tr hG (by rw [hτ1]; exact mFr_row (Or.inl rfl) (by rw [mρ]; exact hX) (by rw [sρ]; exact hw.oz))
        refine aw_b kX7_ok bX7_years_49_ok (Cs := []) (pc' := 52) (L' := [some (aR 21 0), some (aI n), some (aI z), some (aI w), some (aI (ysN (σ 22 0) z w y)), some (aI (y : Int)), some (aI 0)]) (st' := []) (σ' := τ1) rfl trivial ?_
        refine aloop (P := fun f : Nat => ∀ (τ : aS) (m : τ 22 1 = ycN (σ 22 0) (yzN (σ 22 0) z y) f) (s : τ 22 0 = σ 22 0) (hsd : τ 21 0 11 = lcN (yzN (σ 22 0) z y) f) (hF : mFr σ τ), AW l 5 mX7_years _ 52 [some (aR 21 0), some (aI n), some (aI z), some (aI w), some (aI (ysN (σ 22 0) z w y)), some (aI (y : Int)), some (aI (f : Int))] [] τ) (5) (fun f hf ihf τ m s hsd hF => ?_) τ1 m1 s1 d1 F1
        refine aw_b kX7_ok bX7_years_52_ok (Cs := []) (pc' := 55) (L' := [some (aR 21 0), some (aI n), some (aI z), some (aI w), some (aI (ysN (σ 22 0) z w y)), some (aI (y : Int)), some (aI (f : Int))]) (st' := [aI 5, aI (f : Int)]) (σ' := τ) rfl trivial ?_
        refine aw_cge dX7_years_55 (tgt := 79) (by decide) ⟨by omega, by omega⟩ ⟨by omega, by omega⟩ (fun wh6 => ?_) (fun wh6 => ?_)
        · refine aw_b kX7_ok bX7_years_79_ok (Cs := []) (pc' := 82) (L' := [some (aR 21 0), some (aI n), some (aI z), some (aI w), some (aI (ysN (σ 22 0) z w y)), some (aI (y : Int)), some (aI 0)]) (st' := []) (σ' := τ) rfl trivial ?_
          have ef : f = 5 := by omega
          subst ef
          refine aloop (P := fun p : Nat => ∀ (τ : aS) (m : τ 22 1 = ypN (σ 22 0) (yzN (σ 22 0) z y) p) (s : τ 22 0 = σ 22 0) (hsd : τ 21 0 11 = lcN (yzN (σ 22 0) z y) (5 + p)) (hF : mFr σ τ), AW l 5 mX7_years _ 82 [some (aR 21 0), some (aI n), some (aI z), some (aI w), some (aI (ysN (σ 22 0) z w y)), some (aI (y : Int)), some (aI (p : Int))] [] τ) (((σ 22 0) 0).toNat) (fun p hp ihp τ m s hsd hF => ?_) τ m s hsd hF
          have e0s : τ 22 0 0 = σ 22 0 0 := by rw [s]
          refine aw_b kX7_ok bX7_years_82_ok (Cs := [0 < 1, 0 < 4, 0 ≤ 0 ∧ 0 < 45]) (pc' := 90) (L' := [some (aR 21 0), some (aI n), some (aI z), some (aI w), some (aI (ysN (σ 22 0) z w y)), some (aI (y : Int)), some (aI (p : Int))]) (st' := [aI (τ 22 0 0), aI (p : Int)]) (σ' := τ) rfl (show (0 < 1) ∧ (0 < 4) ∧ (0 ≤ 0 ∧ 0 < 45) from ⟨by omega, by omega, by omega⟩) ?_
          refine aw_cge dX7_years_90 (tgt := 116) (by decide) ⟨by omega, by omega⟩ ⟨by omega, by omega⟩ (fun wh7 => ?_) (fun wh7 => ?_)
          · refine aw_b kX7_ok bX7_years_116_ok (Cs := [0 < 1]) (pc' := 122) (L' := [some (aR 21 0), some (aI n), some (aI z), some (aI w), some (aI (ysN (σ 22 0) z w y)), some (aI (y : Int)), some (aI (p : Int))]) (st' := [aI 15, aR 22 1]) (σ' := τ) rfl (show 0 < 1 from by omega) ?_
            have ep : p = (σ 22 0 0).toNat := by omega
            rw [ep] at m hsd
            have wY := ypN_wf hw (yzN (σ 22 0) z y) (σ 22 0 0).toNat (by omega)
            have eY := ypN_0 (σ 22 0) (yzN (σ 22 0) z y) (σ 22 0 0).toNat
            have hdd := cM_daysOn l 1 (by decide) 15 τ (by rw [m]; exact wY) (by decide) (by decide) (by rw [m]; omega)
            rw [m] at hdd
            refine aw_callS lX7_135 (as := [aR 22 1, aI 15]) (rest := []) (by decide) rfl (Nat.le_of_ble_eq_true rfl) rfl dX7_years_122 (hdd) ?_
            rintro _ τ3 ⟨rfl, hτ3⟩
            have w3 : WF (yeR (σ 22 0) (yzN (σ 22 0) z y)) := dysR_wf wY 15
            have m3 : τ3 22 1 = (yeR (σ 22 0) (yzN (σ 22 0) z y)) := by rw [hτ3, aRow_self]; rfl
            have s3 : τ3 22 0 = σ 22 0 := by rw [hτ3, aRow_ne (by decide)]; exact s
            have d3 : τ3 21 0 11 = yzN (σ 22 0) z (y + 1) := by rw [hτ3, aRow_off (by decide)]; exact hsd
            have F3 : mFr σ τ3 := mFr_tr hF (by rw [hτ3]; exact mFr_row (Or.inl rfl) (by rw [m]; exact wY.oz) w3.oz)
            have e92 : τ3 22 1 2 = (yeR (σ 22 0) (yzN (σ 22 0) z y)) 2 := by rw [m3]
            have e02 : τ3 22 0 2 = σ 22 0 2 := by rw [s3]
            refine aw_b kX7_ok bX7_years_125_ok (Cs := []) (pc' := 128) (L' := [some (aR 21 0), some (aI n), some (aI z), some (aI w), some (aI (ysN (σ 22 0) z w y)), some (aI (y : Int)), some (aI (p : Int))]) (st' := [aI w, aI (ysN (σ 22 0) z w y)]) (σ' := τ3) rfl trivial ?_
            refine aw_ine dX7_years_128 (tgt := 144) (by decide) ⟨by omega, by omega⟩ (fun wh8 => ?_) (fun wh8 => ?_)
            · refine aw_b kX7_ok bX7_years_144_ok (Cs := [0 < 1, 1 < 4, 0 ≤ 2 ∧ 2 < 45, 0 < 1, 0 < 4, 0 ≤ 2 ∧ 2 < 45]) (pc' := 157) (L' := [some (aR 21 0), some (aI n), some (aI z), some (aI w), some (aI (ysN (σ 22 0) z w y)), some (aI (y : Int)), some (aI (p : Int))]) (st' := [aI ((τ3 22 1 2) - (τ3 22 0 2)), aI (ysN (σ 22 0) z w y)]) (σ' := τ3) rfl (show (0 < 1) ∧ (1 < 4) ∧ (0 ≤ 2 ∧ 2 < 45) ∧ (0 < 1) ∧ (0 < 4) ∧ (0 ≤ 2 ∧ 2 < 45) from ⟨by omega, by omega, by omega, by omega, by omega, by omega⟩) ?_
              refine aw_b kX7_ok bX7_years_157_ok (Cs := []) (pc' := 32) (L' := [some (aR 21 0), some (aI n), some (aI z), some (aI w), some (aI ((ysN (σ 22 0) z w y) + ((τ3 22 1 2) - (τ3 22 0 2)))), some (aI ((y : Int) + 1)), some (aI (p : Int))]) (st' := []) (σ' := τ3) rfl trivial ?_
              refine aw_drop [6] (L' := [some (aR 21 0), some (aI n), some (aI z), some (aI w), some (aI ((ysN (σ 22 0) z w y) + ((τ3 22 1 2) - (τ3 22 0 2)))), some (aI ((y : Int) + 1)), none]) rfl ?_
              have e1 : (ysN (σ 22 0) z w y) + ((τ3 22 1 2) - (τ3 22 0 2)) = ysN (σ 22 0) z w (y + 1) := by unfold ysN; rw [if_neg (by omega), if_neg (by omega), e92, e02]; rfl
              exact aw_eq (by rw [e1]; rfl) rfl rfl (ihy (by omega) τ3 _ w3.oz m3 s3 d3 F3)
            · refine aw_b kX7_ok bX7_years_131_ok (Cs := [0 < 1]) (pc' := 135) (L' := [some (aR 21 0), some (aI n), some (aI z), some (aI w), some (aI (ysN (σ 22 0) z w y)), some (aI (y : Int)), some (aI (p : Int))]) (st' := [aR 22 1, aI (ysN (σ 22 0) z w y)]) (σ' := τ3) rfl (show 0 < 1 from by omega) ?_
              have hhi := cM_heldIn l 1 (by decide) τ3 (by rw [m3]; exact w3)
              rw [m3] at hhi
              have gh := hbN_rng (yeR (σ 22 0) (yzN (σ 22 0) z y)) 5
              refine aw_fS lX7_177 (as := [aR 22 1]) (rest := [aI (ysN (σ 22 0) z w y)]) (by decide) rfl (Nat.le_of_ble_eq_true rfl) rfl dX7_years_135 (hhi) ?_
              refine aw_fS lX7_155 (as := [aI (hbN (yeR (σ 22 0) (yzN (σ 22 0) z y)) 5)]) (rest := [aI (ysN (σ 22 0) z w y)]) (by decide) rfl (Nat.le_of_ble_eq_true rfl) rfl dX7_years_138 (cM_bits l (hbN (yeR (σ 22 0) (yzN (σ 22 0) z y)) 5) τ3 gh.1 (by have := gh.2; omega)) ?_
              refine aw_b kX7_ok bX7_years_141_ok (Cs := []) (pc' := 157) (L' := [some (aR 21 0), some (aI n), some (aI z), some (aI w), some (aI (ysN (σ 22 0) z w y)), some (aI (y : Int)), some (aI (p : Int))]) (st' := [aI (bcN (hbN (yeR (σ 22 0) (yzN (σ 22 0) z y)) 5) 8), aI (ysN (σ 22 0) z w y)]) (σ' := τ3) rfl trivial ?_
              refine aw_b kX7_ok bX7_years_157_ok (Cs := []) (pc' := 32) (L' := [some (aR 21 0), some (aI n), some (aI z), some (aI w), some (aI ((ysN (σ 22 0) z w y) + (bcN (hbN (yeR (σ 22 0) (yzN (σ 22 0) z y)) 5) 8))), some (aI ((y : Int) + 1)), some (aI (p : Int))]) (st' := []) (σ' := τ3) rfl trivial ?_
              refine aw_drop [6] (L' := [some (aR 21 0), some (aI n), some (aI z), some (aI w), some (aI ((ysN (σ 22 0) z w y) + (bcN (hbN (yeR (σ 22 0) (yzN (σ 22 0) z y)) 5) 8))), some (aI ((y : Int) + 1)), none]) rfl ?_
              have e1 : (ysN (σ 22 0) z w y) + (bcN (hbN (yeR (σ 22 0) (yzN (σ 22 0) z y)) 5) 8) = ysN (σ 22 0) z w (y + 1) := by unfold ysN; rw [if_pos (by omega), if_pos (by omega)]; rfl
              exact aw_eq (by rw [e1]; rfl) rfl rfl (ihy (by omega) τ3 _ w3.oz m3 s3 d3 F3)
          · have ba := aOf_rng (p := (p : Int)) (w := 2) (by omega) (by omega) (by decide) (by decide)
            refine aw_b kX7_ok bX7_years_93_ok (Cs := [0 < 1]) (pc' := 100) (L' := [some (aR 21 0), some (aI n), some (aI z), some (aI w), some (aI (ysN (σ 22 0) z w y)), some (aI (y : Int)), some (aI (p : Int))]) (st' := [aI 2, aI (p : Int), aR 22 1]) (σ' := τ) rfl (show 0 < 1 from by omega) ?_
            refine aw_fS lX7_57 (as := [aI (p : Int), aI 2]) (rest := [aR 22 1]) (by decide) rfl (Nat.le_of_ble_eq_true rfl) rfl dX7_years_100 (cM_of l (p : Int) 2 τ) ?_
            refine aw_b kX7_ok bX7_years_103_ok (Cs := []) (pc' := 106) (L' := [some (aR 21 0), some (aI n), some (aI z), some (aI w), some (aI (ysN (σ 22 0) z w y)), some (aI (y : Int)), some (aI (p : Int))]) (st' := [aI 10, aR 21 0, aI (aOf (p : Int) 2), aR 22 1]) (σ' := τ) rfl trivial ?_
            refine aw_fV lX7_246 (as := [aI 10]) (rest := [aI (aOf (p : Int) 2), aR 22 1]) (t := 21) (c := 0) (by decide) (by decide) (by decide) rfl rfl (Nat.le_of_ble_eq_true rfl) rfl dX7_years_106 (cM_drawn l τ) ?_
            refine aw_b kX7_ok bX7_years_109_ok (Cs := [1 < 4, 0 ≤ aOf (p : Int) 2 ∧ aOf (p : Int) 2 < 45]) (pc' := 82) (L' := [some (aR 21 0), some (aI n), some (aI z), some (aI w), some (aI (ysN (σ 22 0) z w y)), some (aI (y : Int)), some (aI ((p : Int) + 1))]) (st' := []) (σ' := aUp (aUp τ 21 0 11 (τ 21 0 11 * 1103515245 + 12345)) 22 1 (aOf (p : Int) 2) (drF (τ 21 0 11 * 1103515245 + 12345))) rfl (show (1 < 4) ∧ (0 ≤ aOf (p : Int) 2 ∧ aOf (p : Int) 2 < 45) from ⟨by omega, by omega⟩) ?_
            exact ihp (by omega) _ (by rw [aUp_row, aRow_self, aUp_t (by decide), m, hsd]; rfl) (by rw [aUp_row, aRow_ne (by decide), aUp_t (by decide)]; exact s) (by rw [aUp_tag (by decide), aUp_same, hsd]; rfl) (mFr_tr hF (mFr_tr (mFr_21 (i := 11) (by decide)) (by rw [aUp_row]; refine mFr_row (Or.inl rfl) (by rw [aUp_t (by decide), m]; exact (ypN_wf hw (yzN (σ 22 0) z y) p (by omega)).oz) ?_; rw [aUp_t (by decide), m]; exact ozUp (ypN_wf hw (yzN (σ 22 0) z y) p (by omega)).oz (by omega))))
        · refine aw_b kX7_ok bX7_years_58_ok (Cs := [0 < 1]) (pc' := 69) (L' := [some (aR 21 0), some (aI n), some (aI z), some (aI w), some (aI (ysN (σ 22 0) z w y)), some (aI (y : Int)), some (aI (f : Int))]) (st' := [aI 10, aR 21 0, aI (3 + (f : Int)), aR 22 1]) (σ' := τ) rfl (show 0 < 1 from by omega) ?_
          refine aw_fV lX7_246 (as := [aI 10]) (rest := [aI (3 + (f : Int)), aR 22 1]) (t := 21) (c := 0) (by decide) (by decide) (by decide) rfl rfl (Nat.le_of_ble_eq_true rfl) rfl dX7_years_69 (cM_drawn l τ) ?_
          refine aw_b kX7_ok bX7_years_72_ok (Cs := [1 < 4, 0 ≤ 3 + (f : Int) ∧ 3 + (f : Int) < 45]) (pc' := 52) (L' := [some (aR 21 0), some (aI n), some (aI z), some (aI w), some (aI (ysN (σ 22 0) z w y)), some (aI (y : Int)), some (aI ((f : Int) + 1))]) (st' := []) (σ' := aUp (aUp τ 21 0 11 (τ 21 0 11 * 1103515245 + 12345)) 22 1 (3 + (f : Int)) (drF (τ 21 0 11 * 1103515245 + 12345))) rfl (show (1 < 4) ∧ (0 ≤ 3 + (f : Int) ∧ 3 + (f : Int) < 45) from ⟨by omega, by omega⟩) ?_
          exact ihf (by omega) _ (by rw [aUp_row, aRow_self, aUp_t (by decide), m, hsd]; rfl) (by rw [aUp_row, aRow_ne (by decide), aUp_t (by decide)]; exact s) (by rw [aUp_tag (by decide), aUp_same, hsd]; rfl) (mFr_tr hF (mFr_tr (mFr_21 (i := 11) (by decide)) (by rw [aUp_row]; refine mFr_row (Or.inl rfl) (by rw [aUp_t (by decide), m]; exact (ycN_wf hw (yzN (σ 22 0) z y) f (by omega)).oz) ?_; rw [aUp_t (by decide), m]; exact ozUp (ycN_wf hw (yzN (σ 22 0) z y) f (by omega)).oz (by omega))))
    · refine aw_ine dX7_years_16 (tgt := 21) (by decide) ⟨by omega, by omega⟩ (fun wh9 => absurd wh9 (by decide)) (fun wh9 => ?_)
      refine aw_b kX7_ok bX7_years_19_ok (Cs := []) (pc' := 20) (L' := [some (aR 21 0), some (aI n), some (aI z), some (aI w), none, none, none]) (st' := [aI (-1)]) (σ' := σ) rfl trivial ?_
      exact aw_iret dX7_years_20 rfl ⟨aret (by unfold A_years; rw [if_neg (by omega)]), mFr_rf⟩
  · refine aw_ieq dX7_years_7 (tgt := 19) (by decide) ⟨by omega, by omega⟩ (fun wh10 => ?_) (fun wh10 => absurd wh10 (by decide))
    refine aw_b kX7_ok bX7_years_19_ok (Cs := []) (pc' := 20) (L' := [some (aR 21 0), some (aI n), some (aI z), some (aI w), none, none, none]) (st' := [aI (-1)]) (σ' := σ) rfl trivial ?_
    exact aw_iret dX7_years_20 rfl ⟨aret (by unfold A_years; rw [if_neg (by omega)]), mFr_rf⟩
