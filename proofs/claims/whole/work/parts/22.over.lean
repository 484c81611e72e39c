/-! ===== the class: chains, who lasts, plain ones, twos, the closest, quiet ===== -/
def btN (g : Nat → Bool) : Nat → Int
  | 0 => 0
  | n + 1 => btN g n + (if g n = true then 2 ^ n else 0)
theorem aOr_pw : ∀ n : Nat, n < 10 → ∀ x : Nat, x < 2 ^ n → aOr x (1 * 2 ^ (Int.toNat (n : Int))) = x + 2 ^ n ∧ aOr x 0 = x := by decide +kernel
theorem btN_rng (g : Nat → Bool) : ∀ n : Nat, 0 ≤ btN g n ∧ btN g n < 2 ^ n
  | 0 => ⟨Int.le_refl 0, (show (0 : Int) < 1 from by decide)⟩
  | n + 1 => by
    have h := btN_rng g n
    unfold btN
    rw [Int.pow_succ]
    split <;> omega
theorem btN_step (g : Nat → Bool) {n : Nat} (hn : n < 10) : aOr (btN g n) (1 * 2 ^ (Int.toNat (n : Int))) = btN g n + 2 ^ n ∧ aOr (btN g n) 0 = btN g n := by
  have h := btN_rng g n
  obtain ⟨x, hx⟩ := Int.eq_ofNat_of_zero_le h.1
  rw [hx] at h ⊢
  have h2 : x < 2 ^ n := by have := h.2; exact_mod_cast this
  exact aOr_pw n hn x h2
theorem btN_t {g : Nat → Bool} {n : Nat} (hn : n < 10) (h : g n = true) : aOr (btN g n) (1 * 2 ^ (Int.toNat (n : Int))) = btN g (n + 1) := by
  rw [(btN_step g hn).1]
  show _ = btN g n + (if g n = true then 2 ^ n else 0)
  rw [if_pos h]
theorem btN_f {g : Nat → Bool} {n : Nat} (h : ¬ g n = true) : btN g n = btN g (n + 1) := by
  show _ = btN g n + (if g n = true then 2 ^ n else 0)
  rw [if_neg h, Int.add_zero]
theorem btN_lt (g : Nat → Bool) {n : Nat} (hn : n ≤ 10) : 0 ≤ btN g n ∧ btN g n < 1024 := by
  have h := btN_rng g n
  have h2 : (2 : Int) ^ n ≤ 2 ^ 10 := by
    have h3 : (2 : Nat) ^ n ≤ 2 ^ 10 := Nat.pow_le_pow_right (by decide) hn
    exact_mod_cast h3
  have h4 : (2 : Int) ^ 10 = 1024 := by decide
  omega
/-- a set of up to eight, a bit each -/
def bitF (s p : Int) : Int := aAnd (s / 2 ^ (Int.toNat p)) 1
def addF (s p : Int) : Int := aOr s (1 * 2 ^ (Int.toNat p))
theorem bit_tab : ∀ s : Nat, s < 256 → ∀ p : Nat, p < 8 → (bitF s p = 0 ∨ bitF s p = 1) ∧ (0 ≤ addF s p ∧ addF s p < 256) ∧ (bitF s p = 0 → bcN (addF s p) 8 = bcN s 8 + 1) ∧ (bcN (s : Int) 8 = 8 → bitF s p = 1) := by decide +kernel
theorem bit_all {s p : Int} (h0 : 0 ≤ s) (h1 : s < 256) (p0 : 0 ≤ p) (p1 : p < 8) : (bitF s p = 0 ∨ bitF s p = 1) ∧ (0 ≤ addF s p ∧ addF s p < 256) ∧ (bitF s p = 0 → bcN (addF s p) 8 = bcN s 8 + 1) ∧ (bcN s 8 = 8 → bitF s p = 1) := by
  obtain ⟨n, rfl⟩ := Int.eq_ofNat_of_zero_le h0
  obtain ⟨k, rfl⟩ := Int.eq_ofNat_of_zero_le p0
  exact bit_tab n (by omega) k (by omega)
theorem bc_all {s : Int} (h0 : 0 ≤ s) (h1 : s < 256) : 0 ≤ bcN s 8 ∧ bcN s 8 ≤ 8 := by
  obtain ⟨n, rfl⟩ := Int.eq_ofNat_of_zero_le h0
  exact bcN_rng n (by omega)
theorem cJ_bitI (l : Launch) (x : Int) (h0 : 0 ≤ x) (h1 : x < 256) (σ : aS) : AM l 0 mJ6_bitCount_0f7a4 [aI x] σ (aF (some (aI (bcN x 8))) σ) := by
  obtain ⟨n, rfl⟩ := Int.eq_ofNat_of_zero_le h0
  exact cJ_bitCount l n (by omega) σ
/-- who follows whom, up to so many -/
def chF (r : aRw) : Nat → Int → Int → Int
  | 0, s, _ => s
  | k + 1, s, p => if (0 ≤ p ∧ p < r 0) ∧ bitF s p = 0 then chF r k (addF s p) (r (aOf p 3)) else s
set_option maxRecDepth 10000 in
theorem cC_chain (l : Launch) (p : Int) (c : Nat) (hc : c < 3) (σ : aS) (r : aRw) (hR : Rep σ c r) (hw : WF r) (hp : aIr p) : AM l 1 mX0_chain [aR 1 c, aI p] σ (aF (some (aI (bcN (chF r 8 0 p) 8))) σ) := by
  have bn := hw.1
  have en := hR.n
  refine am_of (by decide) (Nat.le_of_ble_eq_true rfl) (L := [some (aR 1 c), some (aI p), none, none, none]) rfl ?_
  refine aw_b kX0_ok bX0_chain_0_ok (Cs := []) (pc' := 7) (L' := [some (aR 1 c), some (aI p), some (aI 0), some (aI p), some (aI 0)]) (st' := []) (σ' := σ) rfl trivial ?_
  refine aloop (P := fun n : Nat => ∀ (s : Int) (q : Int) (hb : 0 ≤ s ∧ s < 256) (hq : aIr q) (hA : chF r 8 0 p = chF r (8 - n) s q), AW l 1 mX0_chain _ 7 [some (aR 1 c), some (aI p), some (aI s), some (aI q), some (aI (n : Int))] [] σ) (8) (fun n hn ihn s q hb hq hA => ?_) 0 p ⟨by decide, by decide⟩ hp rfl
  refine aw_b kX0_ok bX0_chain_7_ok (Cs := []) (pc' := 11) (L' := [some (aR 1 c), some (aI p), some (aI s), some (aI q), some (aI (n : Int))]) (st' := [aI 8, aI (n : Int)]) (σ' := σ) rfl trivial ?_
  refine aw_cge dX0_chain_11 (tgt := 49) (by decide) ⟨by omega, by omega⟩ ⟨by omega, by omega⟩ (fun wh1 => ?_) (fun wh1 => ?_)
  · have hE : chF r 8 0 p = s := by rw [hA, show 8 - n = 0 by omega]; rfl
    refine aw_b kX0_ok bX0_chain_49_ok (Cs := []) (pc' := 50) (L' := [some (aR 1 c), some (aI p), some (aI s), some (aI q), some (aI (n : Int))]) (st' := [aI s]) (σ' := σ) rfl trivial ?_
    refine aw_fS lX0_99 (as := [aI s]) (rest := []) (by decide) rfl (Nat.le_of_ble_eq_true rfl) rfl dX0_chain_50 (cJ_bitI l s hb.1 hb.2 σ) ?_
    exact aw_iret dX0_chain_53 rfl ⟨aret (by rw [hE]), rfl⟩
  · have hB : chF r 8 0 p = (if (0 ≤ q ∧ q < r 0) ∧ bitF s q = 0 then chF r (8 - (n + 1)) (addF s q) (r (aOf q 3)) else s) := by
      rw [hA, show 8 - n = (8 - (n + 1)) + 1 by omega]; rfl
    refine aw_b kX0_ok bX0_chain_14_ok (Cs := []) (pc' := 16) (L' := [some (aR 1 c), some (aI p), some (aI s), some (aI q), some (aI (n : Int))]) (st' := [aI q, aR 1 c]) (σ' := σ) rfl trivial ?_
    refine aw_bV lX0_50 (as := [aI q]) (rest := []) (t := 1) (c := c) (by decide) (by decide) (show c < 3 by omega) rfl rfl (Nat.le_of_ble_eq_true rfl) rfl dX0_chain_16 (cC_isThere l q c (by omega) σ r hR hw ⟨by omega, by omega⟩) (fun wh2 => ?_) (fun wh2 => ?_)
    · have bt := bit_all hb.1 hb.2 (p := q) (by omega) (by omega)
      have bp := hw.pe (p := q) (by omega) (by omega)
      have rp := hR.pe (p := q) (by omega) (by omega)
      have hv : aAnd (s / 2 ^ (Int.toNat q)) 1 = bitF s q := rfl
      refine aw_ieq dX0_chain_19 (tgt := 49) (by decide) ⟨by omega, by omega⟩ (fun wh3 => absurd wh3 (by decide)) (fun wh3 => ?_)
      refine aw_b kX0_ok bX0_chain_22_ok (Cs := [0 ≤ q ∧ q < 32, -2147483648 ≤ s ∧ s < 2147483648]) (pc' := 27) (L' := [some (aR 1 c), some (aI p), some (aI s), some (aI q), some (aI (n : Int))]) (st' := [aI (aAnd (s / 2 ^ (Int.toNat q)) 1)]) (σ' := σ) rfl (show (0 ≤ q ∧ q < 32) ∧ (-2147483648 ≤ s ∧ s < 2147483648) from ⟨by omega, by omega⟩) ?_
      refine aw_ine dX0_chain_27 (tgt := 49) (by decide) ⟨by omega, by omega⟩ (fun wh4 => ?_) (fun wh4 => ?_)
      · have hE : chF r 8 0 p = s := hB.trans (if_neg (by omega))
        refine aw_b kX0_ok bX0_chain_49_ok (Cs := []) (pc' := 50) (L' := [some (aR 1 c), some (aI p), some (aI s), some (aI q), some (aI (n : Int))]) (st' := [aI s]) (σ' := σ) rfl trivial ?_
        refine aw_fS lX0_99 (as := [aI s]) (rest := []) (by decide) rfl (Nat.le_of_ble_eq_true rfl) rfl dX0_chain_50 (cJ_bitI l s hb.1 hb.2 σ) ?_
        exact aw_iret dX0_chain_53 rfl ⟨aret (by rw [hE]), rfl⟩
      · have ub : bitF s q = 0 := by omega
        refine aw_b kX0_ok bX0_chain_30_ok (Cs := [0 ≤ q ∧ q < 32, c < 3, c < 3, 0 ≤ q ∧ q < 8]) (pc' := 7) (L' := [some (aR 1 c), some (aI p), some (aI (aOr s (1 * 2 ^ (Int.toNat q)))), some (aI (σ 5 c q)), some (aI ((n : Int) + 1))]) (st' := []) (σ' := σ) rfl (show (0 ≤ q ∧ q < 32) ∧ (c < 3) ∧ (c < 3) ∧ (0 ≤ q ∧ q < 8) from ⟨by omega, by omega, by omega, by omega⟩) ?_
        exact ihn (by omega) _ _ bt.2.1 ⟨by omega, by omega⟩ (by rw [rp.2.2.2.1]; exact hB.trans (if_pos ⟨by omega, ub⟩))
    · have hE : chF r 8 0 p = s := hB.trans (if_neg (by omega))
      refine aw_ieq dX0_chain_19 (tgt := 49) (by decide) ⟨by omega, by omega⟩ (fun wh5 => ?_) (fun wh5 => absurd wh5 (by decide))
      refine aw_b kX0_ok bX0_chain_49_ok (Cs := []) (pc' := 50) (L' := [some (aR 1 c), some (aI p), some (aI s), some (aI q), some (aI (n : Int))]) (st' := [aI s]) (σ' := σ) rfl trivial ?_
      refine aw_fS lX0_99 (as := [aI s]) (rest := []) (by decide) rfl (Nat.le_of_ble_eq_true rfl) rfl dX0_chain_50 (cJ_bitI l s hb.1 hb.2 σ) ?_
      exact aw_iret dX0_chain_53 rfl ⟨aret (by rw [hE]), rfl⟩
def A_one (r : aRw) (p w : Int) : Int := if 0 ≤ p ∧ p < r 0 then (if w = 0 then r (aOf p 0) else if w = 1 then r (aOf p 1) else if w = 2 then r (aOf p 2) else if w = 3 then r (aOf p 3) else if w = 4 then off r p else if w = 5 then beR r p else if w = 6 then foF (r (aOf p 0)) (r (aOf p 1)) else if w = 7 then bcN (chF r 8 0 p) 8 else -1) else -1
set_option maxRecDepth 10000 in
theorem cC_one (l : Launch) (p w : Int) (σ : aS) (r : aRw) (hR : Rep σ 0 r) (hw : WF r) (hd : r 1 ≤ 999) (hp : aIr p) (hv : aIr w) : AM l 2 mX6_one [aR 0 0, aI p, aI w] σ (QC (A_one r p w) σ) := by
  have bn := hw.1
  have en := hR.n
  have b1 := hw.2.1
  have e1 := hR.1.2.1
  have b2 := hw.2.2.1
  have e2 := hR.1.2.2
  refine am_of (by decide) (Nat.le_of_ble_eq_true rfl) (L := [some (aR 0 0), some (aI p), some (aI w)]) rfl ?_
  refine aw_b kX6_ok bX6_one_0_ok (Cs := [0 < 1]) (pc' := 5) (L' := [some (aR 0 0), some (aI p), some (aI w)]) (st' := [aI p, aR 1 0]) (σ' := σ) rfl (show 0 < 1 from by omega) ?_
  refine aw_bV lX6_76 (as := [aI p]) (rest := []) (t := 1) (c := 0) (by decide) (by decide) (by decide) rfl rfl (Nat.le_of_ble_eq_true rfl) rfl dX6_one_5 (cC_isThere l p 0 (by omega) σ r hR hw ⟨by omega, by omega⟩) (fun wh1 => ?_) (fun wh1 => ?_)
  · have bp := hw.pe (p := p) (by omega) (by omega)
    have rp := hR.pe (p := p) (by omega) (by omega)
    have bo := off_rng r p
    have no := nb_cases (off r p)
    have oc := off_cases r p
    refine aw_ine dX6_one_8 (tgt := 13) (by decide) ⟨by omega, by omega⟩ (fun wh2 => ?_) (fun wh2 => absurd wh2 (by decide))
    refine aw_b kX6_ok bX6_one_13_ok (Cs := []) (pc' := 14) (L' := [some (aR 0 0), some (aI p), some (aI w)]) (st' := [aI w]) (σ' := σ) rfl trivial ?_
    rcases (show w = 0 ∨ w = 1 ∨ w = 2 ∨ w = 3 ∨ w = 4 ∨ w = 5 ∨ w = 6 ∨ w = 7 ∨ (w < 0 ∨ 7 < w) by omega) with wh3 | wh3 | wh3 | wh3 | wh3 | wh3 | wh3 | wh3 | wh3
    · refine aw_tsw dX6_one_14 (tgt := 60) ⟨by omega, by omega⟩ (by decide) (by rw [wh3]; decide) ?_
      refine aw_b kX6_ok bX6_one_60_ok (Cs := [0 < 1, 0 < 3, 0 < 3, 0 ≤ p ∧ p < 8]) (pc' := 69) (L' := [some (aR 0 0), some (aI p), some (aI w)]) (st' := [aI (σ 2 0 p)]) (σ' := σ) rfl (show (0 < 1) ∧ (0 < 3) ∧ (0 < 3) ∧ (0 ≤ p ∧ p < 8) from ⟨by omega, by omega, by omega, by omega⟩) ?_
      exact aw_iret dX6_one_69 rfl ⟨aret (by unfold A_one; rw [if_pos (by omega)]; (repeat' split) <;> first | omega | rfl), aFr_rf⟩
    · refine aw_tsw dX6_one_14 (tgt := 70) ⟨by omega, by omega⟩ (by decide) (by rw [wh3]; decide) ?_
      refine aw_b kX6_ok bX6_one_70_ok (Cs := [0 < 1, 0 < 3, 0 < 3, 0 ≤ p ∧ p < 8]) (pc' := 79) (L' := [some (aR 0 0), some (aI p), some (aI w)]) (st' := [aI (σ 3 0 p)]) (σ' := σ) rfl (show (0 < 1) ∧ (0 < 3) ∧ (0 < 3) ∧ (0 ≤ p ∧ p < 8) from ⟨by omega, by omega, by omega, by omega⟩) ?_
      exact aw_iret dX6_one_79 rfl ⟨aret (by unfold A_one; rw [if_pos (by omega)]; (repeat' split) <;> first | omega | rfl), aFr_rf⟩
    · refine aw_tsw dX6_one_14 (tgt := 80) ⟨by omega, by omega⟩ (by decide) (by rw [wh3]; decide) ?_
      refine aw_b kX6_ok bX6_one_80_ok (Cs := [0 < 1, 0 < 3, 0 < 3, 0 ≤ p ∧ p < 8]) (pc' := 89) (L' := [some (aR 0 0), some (aI p), some (aI w)]) (st' := [aI (σ 4 0 p)]) (σ' := σ) rfl (show (0 < 1) ∧ (0 < 3) ∧ (0 < 3) ∧ (0 ≤ p ∧ p < 8) from ⟨by omega, by omega, by omega, by omega⟩) ?_
      exact aw_iret dX6_one_89 rfl ⟨aret (by unfold A_one; rw [if_pos (by omega)]; (repeat' split) <;> first | omega | rfl), aFr_rf⟩
    · refine aw_tsw dX6_one_14 (tgt := 90) ⟨by omega, by omega⟩ (by decide) (by rw [wh3]; decide) ?_
      refine aw_b kX6_ok bX6_one_90_ok (Cs := [0 < 1, 0 < 3, 0 < 3, 0 ≤ p ∧ p < 8]) (pc' := 99) (L' := [some (aR 0 0), some (aI p), some (aI w)]) (st' := [aI (σ 5 0 p)]) (σ' := σ) rfl (show (0 < 1) ∧ (0 < 3) ∧ (0 < 3) ∧ (0 ≤ p ∧ p < 8) from ⟨by omega, by omega, by omega, by omega⟩) ?_
      exact aw_iret dX6_one_99 rfl ⟨aret (by unfold A_one; rw [if_pos (by omega)]; (repeat' split) <;> first | omega | rfl), aFr_rf⟩
    · refine aw_tsw dX6_one_14 (tgt := 100) ⟨by omega, by omega⟩ (by decide) (by rw [wh3]; decide) ?_
      refine aw_b kX6_ok bX6_one_100_ok (Cs := [0 < 1, 0 < 3, 0 < 3, 0 ≤ p ∧ p < 8]) (pc' := 109) (L' := [some (aR 0 0), some (aI p), some (aI w)]) (st' := [aI (σ 6 0 p)]) (σ' := σ) rfl (show (0 < 1) ∧ (0 < 3) ∧ (0 < 3) ∧ (0 ≤ p ∧ p < 8) from ⟨by omega, by omega, by omega, by omega⟩) ?_
      refine aw_fS lX6_94 (as := [aI (σ 6 0 p)]) (rest := []) (by decide) rfl (Nat.le_of_ble_eq_true rfl) rfl dX6_one_109 (cC_orNone l (σ 6 0 p) σ ⟨by omega, by omega⟩) ?_
      rw [show (if σ 6 0 p = -1 then (-4 : Int) else σ 6 0 p) = off r p by split <;> omega]
      exact aw_iret dX6_one_112 rfl ⟨aret (by unfold A_one; rw [if_pos (by omega)]; (repeat' split) <;> first | omega | rfl), aFr_rf⟩
    · refine aw_tsw dX6_one_14 (tgt := 113) ⟨by omega, by omega⟩ (by decide) (by rw [wh3]; decide) ?_
      refine aw_b kX6_ok bX6_one_113_ok (Cs := [0 < 1]) (pc' := 118) (L' := [some (aR 0 0), some (aI p), some (aI w)]) (st' := [aI p, aR 1 0]) (σ' := σ) rfl (show 0 < 1 from by omega) ?_
      refine aw_fV lX6_97 (as := [aI p]) (rest := []) (t := 1) (c := 0) (by decide) (by decide) (by decide) rfl rfl (Nat.le_of_ble_eq_true rfl) rfl dX6_one_118 (cC_bearing l p 0 (by omega) σ r hR hw (by omega) (by omega)) ?_
      exact aw_iret dX6_one_121 rfl ⟨aret (by unfold A_one; rw [if_pos (by omega)]; (repeat' split) <;> first | omega | rfl), aFr_rf⟩
    · refine aw_tsw dX6_one_14 (tgt := 122) ⟨by omega, by omega⟩ (by decide) (by rw [wh3]; decide) ?_
      refine aw_b kX6_ok bX6_one_122_ok (Cs := [0 < 1, 0 < 3, 0 < 3, 0 ≤ p ∧ p < 8, 0 < 1, 0 < 3, 0 < 3, 0 ≤ p ∧ p < 8]) (pc' := 140) (L' := [some (aR 0 0), some (aI p), some (aI w)]) (st' := [aI (σ 3 0 p), aI (σ 2 0 p)]) (σ' := σ) rfl (show (0 < 1) ∧ (0 < 3) ∧ (0 < 3) ∧ (0 ≤ p ∧ p < 8) ∧ (0 < 1) ∧ (0 < 3) ∧ (0 < 3) ∧ (0 ≤ p ∧ p < 8) from ⟨by omega, by omega, by omega, by omega, by omega, by omega, by omega, by omega⟩) ?_
      refine aw_fS lX6_100 (as := [aI (σ 2 0 p), aI (σ 3 0 p)]) (rest := []) (by decide) rfl (Nat.le_of_ble_eq_true rfl) rfl dX6_one_140 (cC_forgotten l (σ 2 0 p) (σ 3 0 p) σ ⟨by omega, by omega⟩ ⟨by omega, by omega⟩) ?_
      exact aw_iret dX6_one_143 rfl ⟨aret (by unfold A_one; rw [if_pos (by omega), ← rp.1, ← rp.2.1]; (repeat' split) <;> first | omega | rfl), aFr_rf⟩
    · refine aw_tsw dX6_one_14 (tgt := 144) ⟨by omega, by omega⟩ (by decide) (by rw [wh3]; decide) ?_
      refine aw_b kX6_ok bX6_one_144_ok (Cs := [0 < 1]) (pc' := 149) (L' := [some (aR 0 0), some (aI p), some (aI w)]) (st' := [aI p, aR 1 0]) (σ' := σ) rfl (show 0 < 1 from by omega) ?_
      refine aw_fV lX6_106 (as := [aI p]) (rest := []) (t := 1) (c := 0) (by decide) (by decide) (by decide) rfl rfl (Nat.le_of_ble_eq_true rfl) rfl dX6_one_149 (cC_chain l p 0 (by decide) σ r hR hw ⟨by omega, by omega⟩) ?_
      exact aw_iret dX6_one_152 rfl ⟨aret (by unfold A_one; rw [if_pos (by omega)]; (repeat' split) <;> first | omega | rfl), aFr_rf⟩
    · refine aw_tsw dX6_one_14 (tgt := 153) ⟨by omega, by omega⟩ (by decide) (by unfold aTgt; rw [if_pos (by omega)]; rfl) ?_
      refine aw_b kX6_ok bX6_one_153_ok (Cs := []) (pc' := 154) (L' := [some (aR 0 0), some (aI p), some (aI w)]) (st' := [aI (-1)]) (σ' := σ) rfl trivial ?_
      exact aw_iret dX6_one_154 rfl ⟨aret (by unfold A_one; rw [if_pos (by omega)]; (repeat' split) <;> first | omega | rfl), aFr_rf⟩
  · refine aw_ine dX6_one_8 (tgt := 13) (by decide) ⟨by omega, by omega⟩ (fun wh4 => absurd wh4 (by decide)) (fun wh4 => ?_)
    refine aw_b kX6_ok bX6_one_11_ok (Cs := []) (pc' := 12) (L' := [some (aR 0 0), some (aI p), some (aI w)]) (st' := [aI (-1)]) (σ' := σ) rfl trivial ?_
    exact aw_iret dX6_one_12 rfl ⟨aret (by unfold A_one; rw [if_neg (by omega)]), aFr_rf⟩
/-- LASTS: so many days more, the next, so well known -/
def lsF (r : aRw) (f p : Int) : Nat → Nat → Int → Int
  | 0, _, _ => 60
  | k + 1, n, b => if beR r p ≤ (if b + shF (r (aOf p 0)) (r (aOf p 1)) (r (3 + f)) (r 1 + n) < 99 then b + shF (r (aOf p 0)) (r (aOf p 1)) (r (3 + f)) (r 1 + n) else 99) then (n : Int)
    else lsF r f p k (n + 1) (if b + shF (r (aOf p 0)) (r (aOf p 1)) (r (3 + f)) (r 1 + n) < 99 then b + shF (r (aOf p 0)) (r (aOf p 1)) (r (3 + f)) (r 1 + n) else 99)
def laF (r : aRw) (f p : Int) : Int := lsF r f p 59 1 (r (aOf p 2))
theorem lsF_rng (r : aRw) (f p : Int) : ∀ (k n : Nat) (b : Int), 1 ≤ n → n + k ≤ 60 → 1 ≤ lsF r f p k n b ∧ lsF r f p k n b ≤ 60
  | 0, n, b, _, _ => ⟨by show (1 : Int) ≤ 60; decide, by show (60 : Int) ≤ 60; decide⟩
  | k + 1, n, b, h, h2 => by
    rw [lsF]
    generalize (if b + shF (r (aOf p 0)) (r (aOf p 1)) (r (3 + f)) (r 1 + n) < 99 then b + shF (r (aOf p 0)) (r (aOf p 1)) (r (3 + f)) (r 1 + n) else 99) = z
    split
    · omega
    · exact lsF_rng r f p k (n + 1) _ (by omega) (by omega)
theorem laF_rng (r : aRw) (f p : Int) : 1 ≤ laF r f p ∧ laF r f p ≤ 60 := lsF_rng r f p 59 1 _ (by decide) (by decide)
set_option maxRecDepth 10000 in
theorem cC_lasting (l : Launch) (f p : Int) (c : Nat) (hc : c < 3) (σ : aS) (r : aRw) (hR : Rep σ c r) (hw : WF r) (f0 : 0 ≤ f) (f1 : f < 5) (h0 : 0 ≤ p) (h1 : p < r 0) (hd : r 1 ≤ 999) : AM l 2 mX0_lasting [aR 1 c, aI f, aI p] σ (aF (some (aI (laF r f p))) σ) := by
  have bn := hw.1
  have en := hR.n
  have bp := hw.pe (p := p) (by omega) (by omega)
  have rp := hR.pe (p := p) (by omega) (by omega)
  have bo := off_rng r p
  have no := nb_cases (off r p)
  have bc := hw.co (f := f) (by omega) (by omega)
  have bh := hw.ho (f := f) (by omega) (by omega)
  have ro := hR.of (f := f) (by omega) (by omega)
  have nh := nb_cases (r (8 + f))
  have b1 := hw.2.1
  have e1 := hR.1.2.1
  refine am_of (by decide) (Nat.le_of_ble_eq_true rfl) (L := [some (aR 1 c), some (aI f), some (aI p), none, none]) rfl ?_
  refine aw_b kX0_ok bX0_lasting_0_ok (Cs := []) (pc' := 1) (L' := [some (aR 1 c), some (aI f), some (aI p), none, none]) (st' := [aI f]) (σ' := σ) rfl trivial ?_
  refine aw_bN lX0_46 (as := [aI f]) (rest := []) (by decide) rfl (Nat.le_of_ble_eq_true rfl) rfl dX0_lasting_1 (cC_isOffice l f σ ⟨by omega, by omega⟩) (fun wh1 => ?_) (fun wh1 => ?_)
  · refine aw_ieq dX0_lasting_4 (tgt := 15) (by decide) ⟨by omega, by omega⟩ (fun wh2 => absurd wh2 (by decide)) (fun wh2 => ?_)
    refine aw_b kX0_ok bX0_lasting_7_ok (Cs := []) (pc' := 9) (L' := [some (aR 1 c), some (aI f), some (aI p), none, none]) (st' := [aI p, aR 1 c]) (σ' := σ) rfl trivial ?_
    refine aw_bV lX0_50 (as := [aI p]) (rest := []) (t := 1) (c := c) (by decide) (by decide) (show c < 3 by omega) rfl rfl (Nat.le_of_ble_eq_true rfl) rfl dX0_lasting_9 (cC_isThere l p c (by omega) σ r hR hw ⟨by omega, by omega⟩) (fun wh3 => ?_) (fun wh3 => ?_)
    · refine aw_ine dX0_lasting_12 (tgt := 17) (by decide) ⟨by omega, by omega⟩ (fun wh4 => ?_) (fun wh4 => absurd wh4 (by decide))
      refine aw_b kX0_ok bX0_lasting_17_ok (Cs := [c < 3, c < 3, 0 ≤ p ∧ p < 8]) (pc' := 27) (L' := [some (aR 1 c), some (aI f), some (aI p), some (aI (σ 4 c p)), some (aI 1)]) (st' := []) (σ' := σ) rfl (show (c < 3) ∧ (c < 3) ∧ (0 ≤ p ∧ p < 8) from ⟨by omega, by omega, by omega⟩) ?_
      refine aw_eq (L' := [some (aR 1 c), some (aI f), some (aI p), some (aI (σ 4 c p)), some (aI (((0 : Nat) : Int) + 1))]) rfl rfl rfl ?_
      refine aloop (P := fun n : Nat => ∀ (b : Int) (hb : 0 ≤ b ∧ b ≤ 99) (hA : laF r f p = lsF r f p (59 - n) (n + 1) b), AW l 2 mX0_lasting _ 27 [some (aR 1 c), some (aI f), some (aI p), some (aI b), some (aI ((n : Int) + 1))] [] σ) (59) (fun n hn ihn b hb hA => ?_) (σ 4 c p) (by omega) (by rw [rp.2.2.1]; rfl)
      refine aw_b kX0_ok bX0_lasting_27_ok (Cs := []) (pc' := 31) (L' := [some (aR 1 c), some (aI f), some (aI p), some (aI b), some (aI ((n : Int) + 1))]) (st' := [aI 60, aI ((n : Int) + 1)]) (σ' := σ) rfl trivial ?_
      refine aw_cge dX0_lasting_31 (tgt := 88) (by decide) ⟨by omega, by omega⟩ ⟨by omega, by omega⟩ (fun wh5 => ?_) (fun wh5 => ?_)
      · refine aw_b kX0_ok bX0_lasting_88_ok (Cs := []) (pc' := 90) (L' := [some (aR 1 c), some (aI f), some (aI p), some (aI b), some (aI ((n : Int) + 1))]) (st' := [aI 60]) (σ' := σ) rfl trivial ?_
        exact aw_iret dX0_lasting_90 rfl ⟨aret (by rw [hA, show 59 - n = 0 by omega]; rfl), rfl⟩
      · have hbs := shF_rng (kind := σ 2 c p) (f := σ 3 c p) (k := σ 7 c f) (day := σ 1 c 1 + ((n : Int) + 1)) (by omega) (by omega)
        have bb := beR_rng hw h0 h1
        have es : shF (σ 2 c p) (σ 3 c p) (σ 7 c f) (σ 1 c 1 + ((n : Int) + 1)) = shF (r (aOf p 0)) (r (aOf p 1)) (r (3 + f)) (r 1 + ((n + 1 : Nat) : Int)) := by rw [rp.1, rp.2.1, ro.1, e1]; rfl
        have hB : laF r f p = (if beR r p ≤ (if b + shF (σ 2 c p) (σ 3 c p) (σ 7 c f) (σ 1 c 1 + ((n : Int) + 1)) < 99 then b + shF (σ 2 c p) (σ 3 c p) (σ 7 c f) (σ 1 c 1 + ((n : Int) + 1)) else 99) then ((n + 1 : Nat) : Int) else lsF r f p (59 - (n + 1)) (n + 1 + 1) (if b + shF (σ 2 c p) (σ 3 c p) (σ 7 c f) (σ 1 c 1 + ((n : Int) + 1)) < 99 then b + shF (σ 2 c p) (σ 3 c p) (σ 7 c f) (σ 1 c 1 + ((n : Int) + 1)) else 99)) := by
          rw [hA, show 59 - n = (59 - (n + 1)) + 1 by omega, es]; rfl
        refine aw_b kX0_ok bX0_lasting_34_ok (Cs := [c < 3, c < 3, 0 ≤ p ∧ p < 8, c < 3, c < 3, 0 ≤ p ∧ p < 8, c < 3, c < 3, 0 ≤ f ∧ f < 5, c < 3]) (pc' := 62) (L' := [some (aR 1 c), some (aI f), some (aI p), some (aI b), some (aI ((n : Int) + 1))]) (st' := [aI ((σ 1 c 1) + ((n : Int) + 1)), aI (σ 7 c f), aI (σ 3 c p), aI (σ 2 c p), aI b, aI 99]) (σ' := σ) rfl (show (c < 3) ∧ (c < 3) ∧ (0 ≤ p ∧ p < 8) ∧ (c < 3) ∧ (c < 3) ∧ (0 ≤ p ∧ p < 8) ∧ (c < 3) ∧ (c < 3) ∧ (0 ≤ f ∧ f < 5) ∧ (c < 3) from ⟨by omega, by omega, by omega, by omega, by omega, by omega, by omega, by omega, by omega, by omega⟩) ?_
        refine aw_fS lX0_88 (as := [aI (σ 2 c p), aI (σ 3 c p), aI (σ 7 c f), aI ((σ 1 c 1) + ((n : Int) + 1))]) (rest := [aI b, aI 99]) (by decide) rfl (Nat.le_of_ble_eq_true rfl) rfl dX0_lasting_62 (cC_shown l (σ 2 c p) (σ 3 c p) (σ 7 c f) ((σ 1 c 1) + ((n : Int) + 1)) σ ⟨by omega, by omega⟩ ⟨by omega, by omega⟩ ⟨by omega, by omega⟩ ⟨by omega, by omega⟩) ?_
        refine aw_b kX0_ok bX0_lasting_65_ok (Cs := []) (pc' := 66) (L' := [some (aR 1 c), some (aI f), some (aI p), some (aI b), some (aI ((n : Int) + 1))]) (st' := [aI (b + (shF (σ 2 c p) (σ 3 c p) (σ 7 c f) ((σ 1 c 1) + ((n : Int) + 1)))), aI 99]) (σ' := σ) rfl trivial ?_
        refine aw_min lX0_78 (rest := []) (by decide) (Nat.le_of_ble_eq_true rfl) dX0_lasting_66 (x := 99) (y := b + (shF (σ 2 c p) (σ 3 c p) (σ 7 c f) ((σ 1 c 1) + ((n : Int) + 1)))) ⟨by omega, by omega⟩ ⟨by omega, by omega⟩ ?_
        refine aw_b kX0_ok bX0_lasting_69_ok (Cs := []) (pc' := 73) (L' := [some (aR 1 c), some (aI f), some (aI p), some (aI (if b + (shF (σ 2 c p) (σ 3 c p) (σ 7 c f) ((σ 1 c 1) + ((n : Int) + 1))) < 99 then b + (shF (σ 2 c p) (σ 3 c p) (σ 7 c f) ((σ 1 c 1) + ((n : Int) + 1))) else 99)), some (aI ((n : Int) + 1))]) (st' := [aI p, aR 1 c, aI (if b + (shF (σ 2 c p) (σ 3 c p) (σ 7 c f) ((σ 1 c 1) + ((n : Int) + 1))) < 99 then b + (shF (σ 2 c p) (σ 3 c p) (σ 7 c f) ((σ 1 c 1) + ((n : Int) + 1))) else 99)]) (σ' := σ) rfl trivial ?_
        refine aw_fV lX0_81 (as := [aI p]) (rest := [aI (if b + (shF (σ 2 c p) (σ 3 c p) (σ 7 c f) ((σ 1 c 1) + ((n : Int) + 1))) < 99 then b + (shF (σ 2 c p) (σ 3 c p) (σ 7 c f) ((σ 1 c 1) + ((n : Int) + 1))) else 99)]) (t := 1) (c := c) (by decide) (by decide) (show c < 3 by omega) rfl rfl (Nat.le_of_ble_eq_true rfl) rfl dX0_lasting_73 (cC_bearing l p c (by omega) σ r hR hw (by omega) (by omega)) ?_
        refine aw_clt dX0_lasting_76 (tgt := 82) (by decide) ⟨by omega, by omega⟩ ⟨by omega, by omega⟩ (fun wh6 => ?_) (fun wh6 => ?_)
        · refine aw_b kX0_ok bX0_lasting_82_ok (Cs := []) (pc' := 27) (L' := [some (aR 1 c), some (aI f), some (aI p), some (aI (if b + (shF (σ 2 c p) (σ 3 c p) (σ 7 c f) ((σ 1 c 1) + ((n : Int) + 1))) < 99 then b + (shF (σ 2 c p) (σ 3 c p) (σ 7 c f) ((σ 1 c 1) + ((n : Int) + 1))) else 99)), some (aI (((n : Int) + 1) + 1))]) (st' := []) (σ' := σ) rfl trivial ?_
          exact ihn (by omega) (if b + shF (σ 2 c p) (σ 3 c p) (σ 7 c f) (σ 1 c 1 + ((n : Int) + 1)) < 99 then b + shF (σ 2 c p) (σ 3 c p) (σ 7 c f) (σ 1 c 1 + ((n : Int) + 1)) else 99) (by split <;> omega) (hB.trans (if_neg (by omega)))
        · refine aw_b kX0_ok bX0_lasting_79_ok (Cs := []) (pc' := 81) (L' := [some (aR 1 c), some (aI f), some (aI p), some (aI (if b + (shF (σ 2 c p) (σ 3 c p) (σ 7 c f) ((σ 1 c 1) + ((n : Int) + 1))) < 99 then b + (shF (σ 2 c p) (σ 3 c p) (σ 7 c f) ((σ 1 c 1) + ((n : Int) + 1))) else 99)), some (aI ((n : Int) + 1))]) (st' := [aI ((n : Int) + 1)]) (σ' := σ) rfl trivial ?_
          exact aw_iret dX0_lasting_81 rfl ⟨aret ((hB.trans (if_pos (by omega))).symm), rfl⟩
    · exfalso; omega
  · exfalso; omega
def A_lasts (r : aRw) (f p : Int) : Int := if (0 ≤ f ∧ f < 5) ∧ (0 ≤ p ∧ p < r 0) then laF r f p else -1
set_option maxRecDepth 10000 in
theorem cC_lasts (l : Launch) (f p : Int) (σ : aS) (r : aRw) (hR : Rep σ 0 r) (hw : WF r) (hd : r 1 ≤ 999) (hf : aIr f) (hp : aIr p) : AM l 3 mX6_lasts [aR 0 0, aI f, aI p] σ (QC (A_lasts r f p) σ) := by
  have bn := hw.1
  have en := hR.n
  have b1 := hw.2.1
  have e1 := hR.1.2.1
  have b2 := hw.2.2.1
  have e2 := hR.1.2.2
  refine am_of (by decide) (Nat.le_of_ble_eq_true rfl) (L := [some (aR 0 0), some (aI f), some (aI p)]) rfl ?_
  refine aw_b kX6_ok bX6_lasts_0_ok (Cs := []) (pc' := 1) (L' := [some (aR 0 0), some (aI f), some (aI p)]) (st' := [aI f]) (σ' := σ) rfl trivial ?_
  refine aw_bS lX6_109 (as := [aI f]) (rest := []) (by decide) rfl (Nat.le_of_ble_eq_true rfl) rfl dX6_lasts_1 (cC_isOffice l f σ ⟨by omega, by omega⟩) (fun wh1 => ?_) (fun wh1 => ?_)
  · refine aw_ieq dX6_lasts_4 (tgt := 18) (by decide) ⟨by omega, by omega⟩ (fun wh2 => absurd wh2 (by decide)) (fun wh2 => ?_)
    refine aw_b kX6_ok bX6_lasts_7_ok (Cs := [0 < 1]) (pc' := 12) (L' := [some (aR 0 0), some (aI f), some (aI p)]) (st' := [aI p, aR 1 0]) (σ' := σ) rfl (show 0 < 1 from by omega) ?_
    refine aw_bV lX6_76 (as := [aI p]) (rest := []) (t := 1) (c := 0) (by decide) (by decide) (by decide) rfl rfl (Nat.le_of_ble_eq_true rfl) rfl dX6_lasts_12 (cC_isThere l p 0 (by omega) σ r hR hw ⟨by omega, by omega⟩) (fun wh3 => ?_) (fun wh3 => ?_)
    · refine aw_ine dX6_lasts_15 (tgt := 20) (by decide) ⟨by omega, by omega⟩ (fun wh4 => ?_) (fun wh4 => absurd wh4 (by decide))
      refine aw_b kX6_ok bX6_lasts_20_ok (Cs := [0 < 1]) (pc' := 26) (L' := [some (aR 0 0), some (aI f), some (aI p)]) (st' := [aI p, aI f, aR 1 0]) (σ' := σ) rfl (show 0 < 1 from by omega) ?_
      refine aw_fV lX6_181 (as := [aI f, aI p]) (rest := []) (t := 1) (c := 0) (by decide) (by decide) (by decide) rfl rfl (Nat.le_of_ble_eq_true rfl) rfl dX6_lasts_26 (cC_lasting l f p 0 (by decide) σ r hR hw (by omega) (by omega) (by omega) (by omega) hd) ?_
      exact aw_iret dX6_lasts_29 rfl ⟨aret (by unfold A_lasts; rw [if_pos (by omega)]), aFr_rf⟩
    · refine aw_ine dX6_lasts_15 (tgt := 20) (by decide) ⟨by omega, by omega⟩ (fun wh5 => absurd wh5 (by decide)) (fun wh5 => ?_)
      refine aw_b kX6_ok bX6_lasts_18_ok (Cs := []) (pc' := 19) (L' := [some (aR 0 0), some (aI f), some (aI p)]) (st' := [aI (-1)]) (σ' := σ) rfl trivial ?_
      exact aw_iret dX6_lasts_19 rfl ⟨aret (by unfold A_lasts; rw [if_neg (by omega)]), aFr_rf⟩
  · refine aw_ieq dX6_lasts_4 (tgt := 18) (by decide) ⟨by omega, by omega⟩ (fun wh6 => ?_) (fun wh6 => absurd wh6 (by decide))
    refine aw_b kX6_ok bX6_lasts_18_ok (Cs := []) (pc' := 19) (L' := [some (aR 0 0), some (aI f), some (aI p)]) (st' := [aI (-1)]) (σ' := σ) rfl trivial ?_
    exact aw_iret dX6_lasts_19 rfl ⟨aret (by unfold A_lasts; rw [if_neg (by omega)]), aFr_rf⟩
/-- he shows nothing tomorrow, whatever he wears -/
abbrev plainR (r : aRw) (p : Int) : Prop := ∀ k : Nat, k < 10 → shF (r (aOf p 0)) (r (aOf p 1)) (k : Int) (r 1 + 1) = 0
def plB (r : aRw) : Nat → Bool := fun p => decide (plainR r p)
set_option maxRecDepth 10000 in
theorem cC_isPlain (l : Launch) (p : Int) (c : Nat) (hc : c < 3) (σ : aS) (r : aRw) (hR : Rep σ c r) (hw : WF r) (h0 : 0 ≤ p) (h1 : p < r 0) (hd : r 1 ≤ 999) : AM l 2 mX0_isPlain [aR 1 c, aI p] σ (aF (some (aI (if plainR r p then 1 else 0))) σ) := by
  have bn := hw.1
  have en := hR.n
  have bp := hw.pe (p := p) (by omega) (by omega)
  have rp := hR.pe (p := p) (by omega) (by omega)
  have bo := off_rng r p
  have no := nb_cases (off r p)
  have b1 := hw.2.1
  have e1 := hR.1.2.1
  refine am_of (by decide) (Nat.le_of_ble_eq_true rfl) (L := [some (aR 1 c), some (aI p), none]) rfl ?_
  refine aw_b kX0_ok bX0_isPlain_0_ok (Cs := []) (pc' := 2) (L' := [some (aR 1 c), some (aI p), some (aI 0)]) (st' := []) (σ' := σ) rfl trivial ?_
  refine aloop (P := fun n : Nat => ∀ (hA : ∀ k : Nat, k < n → shF (r (aOf p 0)) (r (aOf p 1)) (k : Int) (r 1 + 1) = 0), AW l 2 mX0_isPlain _ 2 [some (aR 1 c), some (aI p), some (aI (n : Int))] [] σ) (10) (fun n hn ihn hA => ?_) (fun k hk => by omega)
  refine aw_b kX0_ok bX0_isPlain_2_ok (Cs := []) (pc' := 5) (L' := [some (aR 1 c), some (aI p), some (aI (n : Int))]) (st' := [aI 10, aI (n : Int)]) (σ' := σ) rfl trivial ?_
  refine aw_cge dX0_isPlain_5 (tgt := 41) (by decide) ⟨by omega, by omega⟩ ⟨by omega, by omega⟩ (fun wh1 => ?_) (fun wh1 => ?_)
  · refine aw_b kX0_ok bX0_isPlain_41_ok (Cs := []) (pc' := 42) (L' := [some (aR 1 c), some (aI p), some (aI (n : Int))]) (st' := [aI 1]) (σ' := σ) rfl trivial ?_
    exact aw_zret dX0_isPlain_42 rfl (by omega) ⟨aret (by rw [if_pos (fun k hk => hA k (by omega))]), rfl⟩
  · have hbs := shF_rng (kind := σ 2 c p) (f := σ 3 c p) (k := (n : Int)) (day := σ 1 c 1 + 1) (by omega) (by omega)
    have es : shF (σ 2 c p) (σ 3 c p) (n : Int) (σ 1 c 1 + 1) = shF (r (aOf p 0)) (r (aOf p 1)) (n : Int) (r 1 + 1) := by rw [rp.1, rp.2.1, e1]
    refine aw_b kX0_ok bX0_isPlain_8_ok (Cs := [c < 3, c < 3, 0 ≤ p ∧ p < 8, c < 3, c < 3, 0 ≤ p ∧ p < 8, c < 3]) (pc' := 27) (L' := [some (aR 1 c), some (aI p), some (aI (n : Int))]) (st' := [aI ((σ 1 c 1) + 1), aI (n : Int), aI (σ 3 c p), aI (σ 2 c p)]) (σ' := σ) rfl (show (c < 3) ∧ (c < 3) ∧ (0 ≤ p ∧ p < 8) ∧ (c < 3) ∧ (c < 3) ∧ (0 ≤ p ∧ p < 8) ∧ (c < 3) from ⟨by omega, by omega, by omega, by omega, by omega, by omega, by omega⟩) ?_
    refine aw_fS lX0_88 (as := [aI (σ 2 c p), aI (σ 3 c p), aI (n : Int), aI ((σ 1 c 1) + 1)]) (rest := []) (by decide) rfl (Nat.le_of_ble_eq_true rfl) rfl dX0_isPlain_27 (cC_shown l (σ 2 c p) (σ 3 c p) (n : Int) ((σ 1 c 1) + 1) σ ⟨by omega, by omega⟩ ⟨by omega, by omega⟩ ⟨by omega, by omega⟩ ⟨by omega, by omega⟩) ?_
    refine aw_ieq dX0_isPlain_30 (tgt := 35) (by decide) ⟨by omega, by omega⟩ (fun wh2 => ?_) (fun wh2 => ?_)
    · refine aw_b kX0_ok bX0_isPlain_35_ok (Cs := []) (pc' := 2) (L' := [some (aR 1 c), some (aI p), some (aI ((n : Int) + 1))]) (st' := []) (σ' := σ) rfl trivial ?_
      exact ihn (by omega) (fun k hk => (if hkn : k = n then (by rw [hkn, ← es]; omega) else hA k (by omega)))
    · refine aw_b kX0_ok bX0_isPlain_33_ok (Cs := []) (pc' := 34) (L' := [some (aR 1 c), some (aI p), some (aI (n : Int))]) (st' := [aI 0]) (σ' := σ) rfl trivial ?_
      exact aw_zret dX0_isPlain_34 rfl (by omega) ⟨aret (by rw [if_neg (fun q => by have := q n (by omega); omega)]), rfl⟩
set_option maxRecDepth 10000 in
theorem cC_plainBits (l : Launch) (c : Nat) (hc : c < 3) (σ : aS) (r : aRw) (hR : Rep σ c r) (hw : WF r) (hd : r 1 ≤ 999) : AM l 3 mX0_plainBits [aR 1 c] σ (aF (some (aI (btN (plB r) (r 0).toNat))) σ) := by
  have bn := hw.1
  have en := hR.n
  refine am_of (by decide) (Nat.le_of_ble_eq_true rfl) (L := [some (aR 1 c), none, none]) rfl ?_
  refine aw_b kX0_ok bX0_plainBits_0_ok (Cs := []) (pc' := 4) (L' := [some (aR 1 c), some (aI 0), some (aI 0)]) (st' := []) (σ' := σ) rfl trivial ?_
  refine aloop (P := fun n : Nat => AW l 3 mX0_plainBits _ 4 [some (aR 1 c), some (aI (btN (plB r) n)), some (aI (n : Int))] [] σ) ((r 0).toNat) (fun n hn ihn => ?_)
  refine aw_b kX0_ok bX0_plainBits_4_ok (Cs := [c < 3]) (pc' := 9) (L' := [some (aR 1 c), some (aI (btN (plB r) n)), some (aI (n : Int))]) (st' := [aI (σ 1 c 0), aI (n : Int)]) (σ' := σ) rfl (show c < 3 from by omega) ?_
  refine aw_cge dX0_plainBits_9 (tgt := 32) (by decide) ⟨by omega, by omega⟩ ⟨by omega, by omega⟩ (fun wh1 => ?_) (fun wh1 => ?_)
  · refine aw_b kX0_ok bX0_plainBits_32_ok (Cs := []) (pc' := 33) (L' := [some (aR 1 c), some (aI (btN (plB r) n)), some (aI (n : Int))]) (st' := [aI (btN (plB r) n)]) (σ' := σ) rfl trivial ?_
    exact aw_iret dX0_plainBits_33 rfl ⟨aret (by rw [show n = (r 0).toNat by omega]), rfl⟩
  · refine aw_b kX0_ok bX0_plainBits_12_ok (Cs := []) (pc' := 14) (L' := [some (aR 1 c), some (aI (btN (plB r) n)), some (aI (n : Int))]) (st' := [aI (n : Int), aR 1 c]) (σ' := σ) rfl trivial ?_
    refine aw_bV lX0_104 (as := [aI (n : Int)]) (rest := []) (t := 1) (c := c) (by decide) (by decide) (show c < 3 by omega) rfl rfl (Nat.le_of_ble_eq_true rfl) rfl dX0_plainBits_14 (cC_isPlain l (n : Int) c hc σ r hR hw (by omega) (by omega) hd) (fun wh2 => ?_) (fun wh2 => ?_)
    · have hpl := wh2
      refine aw_ieq dX0_plainBits_17 (tgt := 26) (by decide) ⟨by omega, by omega⟩ (fun wh3 => absurd wh3 (by decide)) (fun wh3 => ?_)
      refine aw_b kX0_ok bX0_plainBits_20_ok (Cs := [0 ≤ (n : Int) ∧ (n : Int) < 32]) (pc' := 26) (L' := [some (aR 1 c), some (aI (aOr (btN (plB r) n) (1 * 2 ^ (Int.toNat (n : Int))))), some (aI (n : Int))]) (st' := []) (σ' := σ) rfl (show 0 ≤ (n : Int) ∧ (n : Int) < 32 from by omega) ?_
      refine aw_b kX0_ok bX0_plainBits_26_ok (Cs := []) (pc' := 4) (L' := [some (aR 1 c), some (aI (aOr (btN (plB r) n) (1 * 2 ^ (Int.toNat (n : Int))))), some (aI ((n : Int) + 1))]) (st' := []) (σ' := σ) rfl trivial ?_
      exact aw_eq (by rw [btN_t (by omega) (show plB r n = true from decide_eq_true hpl)]; rfl) rfl rfl (ihn (by omega))
    · have hpl := wh2
      refine aw_ieq dX0_plainBits_17 (tgt := 26) (by decide) ⟨by omega, by omega⟩ (fun wh4 => ?_) (fun wh4 => absurd wh4 (by decide))
      refine aw_b kX0_ok bX0_plainBits_26_ok (Cs := []) (pc' := 4) (L' := [some (aR 1 c), some (aI (btN (plB r) n)), some (aI ((n : Int) + 1))]) (st' := []) (σ' := σ) rfl trivial ?_
      exact aw_eq (by rw [btN_f (show ¬ plB r n = true from fun q => hpl (of_decide_eq_true q))]; rfl) rfl rfl (ihn (by omega))
def alI (r : aRw) (a : Nat) : Nat → Int
  | 0 => 0
  | j + 1 => alI r a j + (if (0 ≤ r (8 + a) ∧ 0 ≤ r (8 + ((a : Int) + 1 + j))) ∧ r (3 + a) = r (3 + ((a : Int) + 1 + j)) then 1 else 0)
def alO (r : aRw) : Nat → Int
  | 0 => 0
  | a + 1 => alO r a + alI r a (4 - a)
theorem alI_rng (r : aRw) (a : Nat) : ∀ j : Nat, 0 ≤ alI r a j ∧ alI r a j ≤ j
  | 0 => ⟨Int.le_refl 0, Int.le_refl 0⟩
  | j + 1 => by
    have h := alI_rng r a j
    unfold alI
    split <;> omega
theorem alO_rng (r : aRw) : ∀ a : Nat, 0 ≤ alO r a ∧ alO r a ≤ 4 * a
  | 0 => ⟨Int.le_refl 0, Int.le_refl 0⟩
  | a + 1 => by
    have h := alO_rng r a
    have h2 := alI_rng r a (4 - a)
    unfold alO
    omega
set_option maxRecDepth 10000 in
theorem cC_alike (l : Launch) (c : Nat) (hc : c < 3) (σ : aS) (r : aRw) (hR : Rep σ c r) (hw : WF r) : AM l 0 mX0_alike [aR 1 c] σ (aF (some (aI (alO r 5))) σ) := by
  have bn := hw.1
  have en := hR.n
  refine am_of (by decide) (Nat.le_of_ble_eq_true rfl) (L := [some (aR 1 c), none, none, none, none]) rfl ?_
  refine aw_b kX0_ok bX0_alike_0_ok (Cs := []) (pc' := 4) (L' := [some (aR 1 c), some (aI 0), some (aI 0), none, none]) (st' := []) (σ' := σ) rfl trivial ?_
  refine aloop (P := fun a : Nat => AW l 0 mX0_alike _ 4 [some (aR 1 c), some (aI (alO r a)), some (aI (a : Int)), none, none] [] σ) (5) (fun a ha iha => ?_)
  refine aw_b kX0_ok bX0_alike_4_ok (Cs := []) (pc' := 6) (L' := [some (aR 1 c), some (aI (alO r a)), some (aI (a : Int)), none, none]) (st' := [aI 5, aI (a : Int)]) (σ' := σ) rfl trivial ?_
  refine aw_cge dX0_alike_6 (tgt := 80) (by decide) ⟨by omega, by omega⟩ ⟨by omega, by omega⟩ (fun wh1 => ?_) (fun wh1 => ?_)
  · refine aw_b kX0_ok bX0_alike_80_ok (Cs := []) (pc' := 81) (L' := [some (aR 1 c), some (aI (alO r a)), some (aI (a : Int)), none, none]) (st' := [aI (alO r a)]) (σ' := σ) rfl trivial ?_
    exact aw_iret dX0_alike_81 rfl ⟨aret (by rw [show a = 5 by omega]), rfl⟩
  · refine aw_b kX0_ok bX0_alike_9_ok (Cs := []) (pc' := 13) (L' := [some (aR 1 c), some (aI (alO r a)), some (aI (a : Int)), some (aI ((a : Int) + 1)), none]) (st' := []) (σ' := σ) rfl trivial ?_
    refine aw_eq (L' := [some (aR 1 c), some (aI (alO r a + alI r a 0)), some (aI (a : Int)), some (aI ((a : Int) + 1 + ((0 : Nat) : Int))), none]) (by rw [show (a : Int) + 1 + ((0 : Nat) : Int) = (a : Int) + 1 from Int.add_zero _, show alI r a 0 = 0 from rfl, Int.add_zero]) rfl rfl ?_
    refine aloop (P := fun j : Nat => AW l 0 mX0_alike _ 13 [some (aR 1 c), some (aI (alO r a + alI r a j)), some (aI (a : Int)), some (aI ((a : Int) + 1 + (j : Int))), none] [] σ) (4 - a) (fun j hj ihj => ?_)
    refine aw_b kX0_ok bX0_alike_13_ok (Cs := []) (pc' := 15) (L' := [some (aR 1 c), some (aI (alO r a + alI r a j)), some (aI (a : Int)), some (aI ((a : Int) + 1 + (j : Int))), none]) (st' := [aI 5, aI ((a : Int) + 1 + (j : Int))]) (σ' := σ) rfl trivial ?_
    refine aw_cge dX0_alike_15 (tgt := 74) (by decide) ⟨by omega, by omega⟩ ⟨by omega, by omega⟩ (fun wh2 => ?_) (fun wh2 => ?_)
    · refine aw_b kX0_ok bX0_alike_74_ok (Cs := []) (pc' := 4) (L' := [some (aR 1 c), some (aI (alO r a + alI r a j)), some (aI ((a : Int) + 1)), some (aI ((a : Int) + 1 + (j : Int))), none]) (st' := []) (σ' := σ) rfl trivial ?_
      refine aw_drop [3] (L' := [some (aR 1 c), some (aI (alO r a + alI r a j)), some (aI ((a : Int) + 1)), none, none]) rfl ?_
      exact aw_eq (by rw [show j = 4 - a by omega]; rfl) rfl rfl (iha (by omega))
    · have bc := hw.co (f := (a : Int)) (by omega) (by omega)
      have bh := hw.ho (f := (a : Int)) (by omega) (by omega)
      have ro := hR.of (f := (a : Int)) (by omega) (by omega)
      have nh := nb_cases (r (8 + (a : Int)))
      have bc2 := hw.co (f := (a : Int) + 1 + (j : Int)) (by omega) (by omega)
      have bh2 := hw.ho (f := (a : Int) + 1 + (j : Int)) (by omega) (by omega)
      have ro2 := hR.of (f := (a : Int) + 1 + (j : Int)) (by omega) (by omega)
      have nh2 := nb_cases (r (8 + ((a : Int) + 1 + (j : Int))))
      refine aw_b kX0_ok bX0_alike_18_ok (Cs := [c < 3, c < 3, 0 ≤ (a : Int) ∧ (a : Int) < 5]) (pc' := 25) (L' := [some (aR 1 c), some (aI (alO r a + alI r a j)), some (aI (a : Int)), some (aI ((a : Int) + 1 + (j : Int))), none]) (st' := [aI (-1), aI (σ 8 c (a : Int))]) (σ' := σ) rfl (show (c < 3) ∧ (c < 3) ∧ (0 ≤ (a : Int) ∧ (a : Int) < 5) from ⟨by omega, by omega, by omega⟩) ?_
      refine aw_ceq dX0_alike_25 (tgt := 42) (by decide) ⟨by omega, by omega⟩ ⟨by omega, by omega⟩ (fun wh3 => ?_) (fun wh3 => ?_)
      · refine aw_b kX0_ok bX0_alike_42_ok (Cs := []) (pc' := 43) (L' := [some (aR 1 c), some (aI (alO r a + alI r a j)), some (aI (a : Int)), some (aI ((a : Int) + 1 + (j : Int))), none]) (st' := [aI 0]) (σ' := σ) rfl trivial ?_
        refine aw_b kX0_ok bX0_alike_43_ok (Cs := []) (pc' := 47) (L' := [some (aR 1 c), some (aI (alO r a + alI r a j)), some (aI (a : Int)), some (aI ((a : Int) + 1 + (j : Int))), some (aI 0)]) (st' := [aI 0]) (σ' := σ) rfl trivial ?_
        refine aw_ieq dX0_alike_47 (tgt := 68) (by decide) ⟨by omega, by omega⟩ (fun wh4 => ?_) (fun wh4 => absurd wh4 (by decide))
        refine aw_b kX0_ok bX0_alike_68_ok (Cs := []) (pc' := 13) (L' := [some (aR 1 c), some (aI (alO r a + alI r a j)), some (aI (a : Int)), some (aI (((a : Int) + 1 + (j : Int)) + 1)), some (aI 0)]) (st' := []) (σ' := σ) rfl trivial ?_
        refine aw_drop [4] (L' := [some (aR 1 c), some (aI (alO r a + alI r a j)), some (aI (a : Int)), some (aI (((a : Int) + 1 + (j : Int)) + 1)), none]) rfl ?_
        have e1 : alO r a + alI r a j = alO r a + alI r a (j + 1) := by rw [show alI r a (j + 1) = alI r a j + (if (0 ≤ r (8 + a) ∧ 0 ≤ r (8 + ((a : Int) + 1 + j))) ∧ r (3 + a) = r (3 + ((a : Int) + 1 + j)) then 1 else 0) from rfl, if_neg (by omega)]; omega
        have e2 : (a : Int) + 1 + (j : Int) + 1 = (a : Int) + 1 + ((j + 1 : Nat) : Int) := by omega
        exact aw_eq (by rw [e1, e2]) rfl rfl (ihj (by omega))
      · refine aw_b kX0_ok bX0_alike_28_ok (Cs := [c < 3, c < 3, 0 ≤ (a : Int) + 1 + (j : Int) ∧ (a : Int) + 1 + (j : Int) < 5]) (pc' := 35) (L' := [some (aR 1 c), some (aI (alO r a + alI r a j)), some (aI (a : Int)), some (aI ((a : Int) + 1 + (j : Int))), none]) (st' := [aI (-1), aI (σ 8 c ((a : Int) + 1 + (j : Int)))]) (σ' := σ) rfl (show (c < 3) ∧ (c < 3) ∧ (0 ≤ (a : Int) + 1 + (j : Int) ∧ (a : Int) + 1 + (j : Int) < 5) from ⟨by omega, by omega, by omega⟩) ?_
        refine aw_ceq dX0_alike_35 (tgt := 42) (by decide) ⟨by omega, by omega⟩ ⟨by omega, by omega⟩ (fun wh5 => ?_) (fun wh5 => ?_)
        · refine aw_b kX0_ok bX0_alike_42_ok (Cs := []) (pc' := 43) (L' := [some (aR 1 c), some (aI (alO r a + alI r a j)), some (aI (a : Int)), some (aI ((a : Int) + 1 + (j : Int))), none]) (st' := [aI 0]) (σ' := σ) rfl trivial ?_
          refine aw_b kX0_ok bX0_alike_43_ok (Cs := []) (pc' := 47) (L' := [some (aR 1 c), some (aI (alO r a + alI r a j)), some (aI (a : Int)), some (aI ((a : Int) + 1 + (j : Int))), some (aI 0)]) (st' := [aI 0]) (σ' := σ) rfl trivial ?_
          refine aw_ieq dX0_alike_47 (tgt := 68) (by decide) ⟨by omega, by omega⟩ (fun wh6 => ?_) (fun wh6 => absurd wh6 (by decide))
          refine aw_b kX0_ok bX0_alike_68_ok (Cs := []) (pc' := 13) (L' := [some (aR 1 c), some (aI (alO r a + alI r a j)), some (aI (a : Int)), some (aI (((a : Int) + 1 + (j : Int)) + 1)), some (aI 0)]) (st' := []) (σ' := σ) rfl trivial ?_
          refine aw_drop [4] (L' := [some (aR 1 c), some (aI (alO r a + alI r a j)), some (aI (a : Int)), some (aI (((a : Int) + 1 + (j : Int)) + 1)), none]) rfl ?_
          have e1 : alO r a + alI r a j = alO r a + alI r a (j + 1) := by rw [show alI r a (j + 1) = alI r a j + (if (0 ≤ r (8 + a) ∧ 0 ≤ r (8 + ((a : Int) + 1 + j))) ∧ r (3 + a) = r (3 + ((a : Int) + 1 + j)) then 1 else 0) from rfl, if_neg (by omega)]; omega
          have e2 : (a : Int) + 1 + (j : Int) + 1 = (a : Int) + 1 + ((j + 1 : Nat) : Int) := by omega
          exact aw_eq (by rw [e1, e2]) rfl rfl (ihj (by omega))
        · refine aw_b kX0_ok bX0_alike_38_ok (Cs := []) (pc' := 43) (L' := [some (aR 1 c), some (aI (alO r a + alI r a j)), some (aI (a : Int)), some (aI ((a : Int) + 1 + (j : Int))), none]) (st' := [aI 1]) (σ' := σ) rfl trivial ?_
          refine aw_b kX0_ok bX0_alike_43_ok (Cs := []) (pc' := 47) (L' := [some (aR 1 c), some (aI (alO r a + alI r a j)), some (aI (a : Int)), some (aI ((a : Int) + 1 + (j : Int))), some (aI 1)]) (st' := [aI 1]) (σ' := σ) rfl trivial ?_
          refine aw_ieq dX0_alike_47 (tgt := 68) (by decide) ⟨by omega, by omega⟩ (fun wh7 => absurd wh7 (by decide)) (fun wh7 => ?_)
          refine aw_b kX0_ok bX0_alike_50_ok (Cs := [c < 3, c < 3, 0 ≤ (a : Int) ∧ (a : Int) < 5, c < 3, c < 3, 0 ≤ (a : Int) + 1 + (j : Int) ∧ (a : Int) + 1 + (j : Int) < 5]) (pc' := 62) (L' := [some (aR 1 c), some (aI (alO r a + alI r a j)), some (aI (a : Int)), some (aI ((a : Int) + 1 + (j : Int))), some (aI 1)]) (st' := [aI (σ 7 c ((a : Int) + 1 + (j : Int))), aI (σ 7 c (a : Int))]) (σ' := σ) rfl (show (c < 3) ∧ (c < 3) ∧ (0 ≤ (a : Int) ∧ (a : Int) < 5) ∧ (c < 3) ∧ (c < 3) ∧ (0 ≤ (a : Int) + 1 + (j : Int) ∧ (a : Int) + 1 + (j : Int) < 5) from ⟨by omega, by omega, by omega, by omega, by omega, by omega⟩) ?_
          refine aw_cne dX0_alike_62 (tgt := 68) (by decide) ⟨by omega, by omega⟩ ⟨by omega, by omega⟩ (fun wh8 => ?_) (fun wh8 => ?_)
          · refine aw_b kX0_ok bX0_alike_68_ok (Cs := []) (pc' := 13) (L' := [some (aR 1 c), some (aI (alO r a + alI r a j)), some (aI (a : Int)), some (aI (((a : Int) + 1 + (j : Int)) + 1)), some (aI 1)]) (st' := []) (σ' := σ) rfl trivial ?_
            refine aw_drop [4] (L' := [some (aR 1 c), some (aI (alO r a + alI r a j)), some (aI (a : Int)), some (aI (((a : Int) + 1 + (j : Int)) + 1)), none]) rfl ?_
            have e1 : alO r a + alI r a j = alO r a + alI r a (j + 1) := by rw [show alI r a (j + 1) = alI r a j + (if (0 ≤ r (8 + a) ∧ 0 ≤ r (8 + ((a : Int) + 1 + j))) ∧ r (3 + a) = r (3 + ((a : Int) + 1 + j)) then 1 else 0) from rfl, if_neg (by omega)]; omega
            have e2 : (a : Int) + 1 + (j : Int) + 1 = (a : Int) + 1 + ((j + 1 : Nat) : Int) := by omega
            exact aw_eq (by rw [e1, e2]) rfl rfl (ihj (by omega))
          · refine aw_b kX0_ok bX0_alike_65_ok (Cs := []) (pc' := 68) (L' := [some (aR 1 c), some (aI ((alO r a + alI r a j) + 1)), some (aI (a : Int)), some (aI ((a : Int) + 1 + (j : Int))), some (aI 1)]) (st' := []) (σ' := σ) rfl trivial ?_
            refine aw_b kX0_ok bX0_alike_68_ok (Cs := []) (pc' := 13) (L' := [some (aR 1 c), some (aI ((alO r a + alI r a j) + 1)), some (aI (a : Int)), some (aI (((a : Int) + 1 + (j : Int)) + 1)), some (aI 1)]) (st' := []) (σ' := σ) rfl trivial ?_
            refine aw_drop [4] (L' := [some (aR 1 c), some (aI ((alO r a + alI r a j) + 1)), some (aI (a : Int)), some (aI (((a : Int) + 1 + (j : Int)) + 1)), none]) rfl ?_
            have e1 : alO r a + alI r a j + 1 = alO r a + alI r a (j + 1) := by rw [show alI r a (j + 1) = alI r a j + (if (0 ≤ r (8 + a) ∧ 0 ≤ r (8 + ((a : Int) + 1 + j))) ∧ r (3 + a) = r (3 + ((a : Int) + 1 + j)) then 1 else 0) from rfl, if_pos (by omega)]; omega
            have e2 : (a : Int) + 1 + (j : Int) + 1 = (a : Int) + 1 + ((j + 1 : Nat) : Int) := by omega
            exact aw_eq (by rw [e1, e2]) rfl rfl (ihj (by omega))
def leR (r : aRw) (p : Int) : Int := beR r p - r (aOf p 2)
def clN (r : aRw) : Nat → Int
  | 0 => -4
  | p + 1 => if 0 ≤ off r p ∧ (clN r p < 0 ∨ leR r p < leR r (clN r p)) then (p : Int) else clN r p
theorem clN_rng (r : aRw) : ∀ p : Nat, clN r p = -4 ∨ (0 ≤ clN r p ∧ clN r p < p)
  | 0 => Or.inl rfl
  | p + 1 => by
    have h := clN_rng r p
    rw [clN]
    split <;> omega
theorem leR_rng {r : aRw} (hw : WF r) {p : Int} (h0 : 0 ≤ p) (h1 : p < r 0) : -99 ≤ leR r p ∧ leR r p ≤ 99 := by
  have a := beR_rng hw h0 h1
  have b := hw.pe h0 h1
  unfold leR
  omega
set_option maxRecDepth 10000 in
theorem cC_closest (l : Launch) (c : Nat) (hc : c < 3) (σ : aS) (r : aRw) (hR : Rep σ c r) (hw : WF r) : AM l 2 mX0_closest [aR 1 c] σ (aF (some (aI (nb (clN r (r 0).toNat)))) σ) := by
  have bn := hw.1
  have en := hR.n
  refine am_of (by decide) (Nat.le_of_ble_eq_true rfl) (L := [some (aR 1 c), none, none, none, none]) rfl ?_
  refine aw_b kX0_ok bX0_closest_0_ok (Cs := []) (pc' := 6) (L' := [some (aR 1 c), some (aI (-1)), some (aI 0), some (aI 0), none]) (st' := []) (σ' := σ) rfl trivial ?_
  refine aloop (P := fun n : Nat => ∀ (b : Int) (hA : 0 ≤ clN r n → b = leR r (clN r n)) (hb : -99 ≤ b ∧ b ≤ 99), AW l 2 mX0_closest _ 6 [some (aR 1 c), some (aI (nb (clN r n))), some (aI b), some (aI (n : Int)), none] [] σ) ((r 0).toNat) (fun n hn ihn b hA hb => ?_) 0 (fun q => absurd q (by show ¬ (0 : Int) ≤ -4; decide)) (by decide)
  have gc := clN_rng r n
  have ng := nb_cases (clN r n)
  refine aw_b kX0_ok bX0_closest_6_ok (Cs := [c < 3]) (pc' := 11) (L' := [some (aR 1 c), some (aI (nb (clN r n))), some (aI b), some (aI (n : Int)), none]) (st' := [aI (σ 1 c 0), aI (n : Int)]) (σ' := σ) rfl (show c < 3 from by omega) ?_
  refine aw_cge dX0_closest_11 (tgt := 60) (by decide) ⟨by omega, by omega⟩ ⟨by omega, by omega⟩ (fun wh1 => ?_) (fun wh1 => ?_)
  · refine aw_b kX0_ok bX0_closest_60_ok (Cs := []) (pc' := 61) (L' := [some (aR 1 c), some (aI (nb (clN r n))), some (aI b), some (aI (n : Int)), none]) (st' := [aI (nb (clN r n))]) (σ' := σ) rfl trivial ?_
    exact aw_iret dX0_closest_61 rfl ⟨aret (by rw [show n = (r 0).toNat by omega]), rfl⟩
  · have bp := hw.pe (p := (n : Int)) (by omega) (by omega)
    have rp := hR.pe (p := (n : Int)) (by omega) (by omega)
    have bo := off_rng r (n : Int)
    have no := nb_cases (off r (n : Int))
    have bb := beR_rng hw (p := (n : Int)) (by omega) (by omega)
    have hl : leR r (n : Int) = beR r (n : Int) - r (aOf (n : Int) 2) := rfl
    refine aw_b kX0_ok bX0_closest_14_ok (Cs := []) (pc' := 16) (L' := [some (aR 1 c), some (aI (nb (clN r n))), some (aI b), some (aI (n : Int)), none]) (st' := [aI (n : Int), aR 1 c]) (σ' := σ) rfl trivial ?_
    refine aw_fV lX0_81 (as := [aI (n : Int)]) (rest := []) (t := 1) (c := c) (by decide) (by decide) (show c < 3 by omega) rfl rfl (Nat.le_of_ble_eq_true rfl) rfl dX0_closest_16 (cC_bearing l (n : Int) c (by omega) σ r hR hw (by omega) (by omega)) ?_
    refine aw_b kX0_ok bX0_closest_19_ok (Cs := [c < 3, c < 3, 0 ≤ (n : Int) ∧ (n : Int) < 8, c < 3, c < 3, 0 ≤ (n : Int) ∧ (n : Int) < 8]) (pc' := 35) (L' := [some (aR 1 c), some (aI (nb (clN r n))), some (aI b), some (aI (n : Int)), some (aI ((beR r (n : Int)) - (σ 4 c (n : Int))))]) (st' := [aI (-1), aI (σ 6 c (n : Int))]) (σ' := σ) rfl (show (c < 3) ∧ (c < 3) ∧ (0 ≤ (n : Int) ∧ (n : Int) < 8) ∧ (c < 3) ∧ (c < 3) ∧ (0 ≤ (n : Int) ∧ (n : Int) < 8) from ⟨by omega, by omega, by omega, by omega, by omega, by omega⟩) ?_
    refine aw_ceq dX0_closest_35 (tgt := 54) (by decide) ⟨by omega, by omega⟩ ⟨by omega, by omega⟩ (fun wh2 => ?_) (fun wh2 => ?_)
    · refine aw_b kX0_ok bX0_closest_54_ok (Cs := []) (pc' := 6) (L' := [some (aR 1 c), some (aI (nb (clN r n))), some (aI b), some (aI ((n : Int) + 1)), some (aI ((beR r (n : Int)) - (σ 4 c (n : Int))))]) (st' := []) (σ' := σ) rfl trivial ?_
      refine aw_drop [4] (L' := [some (aR 1 c), some (aI (nb (clN r n))), some (aI b), some (aI ((n : Int) + 1)), none]) rfl ?_
      have hk : clN r (n + 1) = clN r n := by rw [clN]; exact if_neg (by omega)
      exact aw_eq (L' := [some (aR 1 c), some (aI (nb (clN r (n + 1)))), some (aI b), some (aI ((n + 1 : Nat) : Int)), none]) (by rw [hk]; rfl) rfl rfl (ihn (by omega) _ (fun q => by rw [hk] at q ⊢; exact hA q) hb)
    · refine aw_b kX0_ok bX0_closest_38_ok (Cs := []) (pc' := 40) (L' := [some (aR 1 c), some (aI (nb (clN r n))), some (aI b), some (aI (n : Int)), some (aI ((beR r (n : Int)) - (σ 4 c (n : Int))))]) (st' := [aI (-1), aI (nb (clN r n))]) (σ' := σ) rfl trivial ?_
      refine aw_ceq dX0_closest_40 (tgt := 49) (by decide) ⟨by omega, by omega⟩ ⟨by omega, by omega⟩ (fun wh3 => ?_) (fun wh3 => ?_)
      · refine aw_b kX0_ok bX0_closest_49_ok (Cs := []) (pc' := 54) (L' := [some (aR 1 c), some (aI (n : Int)), some (aI ((beR r (n : Int)) - (σ 4 c (n : Int)))), some (aI (n : Int)), some (aI ((beR r (n : Int)) - (σ 4 c (n : Int))))]) (st' := []) (σ' := σ) rfl trivial ?_
        refine aw_b kX0_ok bX0_closest_54_ok (Cs := []) (pc' := 6) (L' := [some (aR 1 c), some (aI (n : Int)), some (aI ((beR r (n : Int)) - (σ 4 c (n : Int)))), some (aI ((n : Int) + 1)), some (aI ((beR r (n : Int)) - (σ 4 c (n : Int))))]) (st' := []) (σ' := σ) rfl trivial ?_
        refine aw_drop [4] (L' := [some (aR 1 c), some (aI (n : Int)), some (aI ((beR r (n : Int)) - (σ 4 c (n : Int)))), some (aI ((n : Int) + 1)), none]) rfl ?_
        have hk : clN r (n + 1) = (n : Int) := by rw [clN]; exact if_pos (by omega)
        have hn0 : nb (n : Int) = (n : Int) := by unfold nb; rw [if_neg (by omega)]
        exact aw_eq (L' := [some (aR 1 c), some (aI (nb (clN r (n + 1)))), some (aI ((beR r (n : Int)) - (σ 4 c (n : Int)))), some (aI ((n + 1 : Nat) : Int)), none]) (by rw [hk, hn0]; rfl) rfl rfl (ihn (by omega) _ (fun _ => by rw [hk]; omega) (by omega))
      · refine aw_b kX0_ok bX0_closest_43_ok (Cs := []) (pc' := 46) (L' := [some (aR 1 c), some (aI (nb (clN r n))), some (aI b), some (aI (n : Int)), some (aI ((beR r (n : Int)) - (σ 4 c (n : Int))))]) (st' := [aI b, aI ((beR r (n : Int)) - (σ 4 c (n : Int)))]) (σ' := σ) rfl trivial ?_
        refine aw_cge dX0_closest_46 (tgt := 54) (by decide) ⟨by omega, by omega⟩ ⟨by omega, by omega⟩ (fun wh4 => ?_) (fun wh4 => ?_)
        · refine aw_b kX0_ok bX0_closest_54_ok (Cs := []) (pc' := 6) (L' := [some (aR 1 c), some (aI (nb (clN r n))), some (aI b), some (aI ((n : Int) + 1)), some (aI ((beR r (n : Int)) - (σ 4 c (n : Int))))]) (st' := []) (σ' := σ) rfl trivial ?_
          refine aw_drop [4] (L' := [some (aR 1 c), some (aI (nb (clN r n))), some (aI b), some (aI ((n : Int) + 1)), none]) rfl ?_
          have hk : clN r (n + 1) = clN r n := by rw [clN]; exact if_neg (by omega)
          exact aw_eq (L' := [some (aR 1 c), some (aI (nb (clN r (n + 1)))), some (aI b), some (aI ((n + 1 : Nat) : Int)), none]) (by rw [hk]; rfl) rfl rfl (ihn (by omega) _ (fun q => by rw [hk] at q ⊢; exact hA q) hb)
        · refine aw_b kX0_ok bX0_closest_49_ok (Cs := []) (pc' := 54) (L' := [some (aR 1 c), some (aI (n : Int)), some (aI ((beR r (n : Int)) - (σ 4 c (n : Int)))), some (aI (n : Int)), some (aI ((beR r (n : Int)) - (σ 4 c (n : Int))))]) (st' := []) (σ' := σ) rfl trivial ?_
          refine aw_b kX0_ok bX0_closest_54_ok (Cs := []) (pc' := 6) (L' := [some (aR 1 c), some (aI (n : Int)), some (aI ((beR r (n : Int)) - (σ 4 c (n : Int)))), some (aI ((n : Int) + 1)), some (aI ((beR r (n : Int)) - (σ 4 c (n : Int))))]) (st' := []) (σ' := σ) rfl trivial ?_
          refine aw_drop [4] (L' := [some (aR 1 c), some (aI (n : Int)), some (aI ((beR r (n : Int)) - (σ 4 c (n : Int)))), some (aI ((n : Int) + 1)), none]) rfl ?_
          have hk : clN r (n + 1) = (n : Int) := by rw [clN]; exact if_pos (by omega)
          have hn0 : nb (n : Int) = (n : Int) := by unfold nb; rw [if_neg (by omega)]
          exact aw_eq (L' := [some (aR 1 c), some (aI (nb (clN r (n + 1)))), some (aI ((beR r (n : Int)) - (σ 4 c (n : Int)))), some (aI ((n + 1 : Nat) : Int)), none]) (by rw [hk, hn0]; rfl) rfl rfl (ihn (by omega) _ (fun _ => by rw [hk]; omega) (by omega))
def stF (r : aRw) : Nat → Nat → Int → Int
  | 0, _, _ => -4
  | k + 1, m, b => if 0 < feD (dysR r m) then stF r k (m + 1) ((m : Int) + 1) else if 10 ≤ (m : Int) + 1 - b then b else stF r k (m + 1) b
set_option maxRecDepth 10000 in
theorem cC_stable (l : Launch) (σ : aS) (r : aRw) (hR : Rep σ 0 r) (hw : WF r) (hd : r 1 ≤ 999) : AM l 4 mX6_stable [aR 0 0] σ (QC (stF r 60 0 0) σ) := by
  have bn := hw.1
  have en := hR.n
  have b1 := hw.2.1
  have e1 := hR.1.2.1
  have b2 := hw.2.2.1
  have e2 := hR.1.2.2
  refine am_of (by decide) (Nat.le_of_ble_eq_true rfl) (L := [some (aR 0 0), none, none]) rfl ?_
  refine aw_b kX6_ok bX6_stable_0_ok (Cs := [0 < 1, 0 < 1]) (pc' := 8) (L' := [some (aR 0 0), none, none]) (st' := [aR 1 0, aR 1 1]) (σ' := σ) rfl (show (0 < 1) ∧ (0 < 1) from ⟨by omega, by omega⟩) ?_
  refine aw_callV lX6_68 (as := [aR 1 0]) (rest := []) (t := 1) (c := 1) (by decide) (by decide) (by decide) rfl rfl (Nat.le_of_ble_eq_true rfl) rfl dX6_stable_8 (cC_becomes l 0 1 (by decide) (by decide) (by decide) σ r hR hw) ?_
  rintro _ τ1 ⟨rfl, hT1, hF1⟩
  refine aw_b kX6_ok bX6_stable_11_ok (Cs := []) (pc' := 15) (L' := [some (aR 0 0), some (aI 0), some (aI 1)]) (st' := []) (σ' := τ1) rfl trivial ?_
  refine aw_eq (L' := [some (aR 0 0), some (aI 0), some (aI (((0 : Nat) : Int) + 1))]) rfl rfl rfl ?_
  refine aloop (P := fun n : Nat => ∀ (ρ : aS) (b : Int) (hQ : Rep ρ 1 (dysR r n)) (hG : aFr (Cb 1) σ ρ) (hb : 0 ≤ b ∧ b ≤ n) (hA : stF r 60 0 0 = stF r (60 - n) n b), AW l 4 mX6_stable _ 15 [some (aR 0 0), some (aI b), some (aI ((n : Int) + 1))] [] ρ) (60) (fun n hn ihn ρ b hQ hG hb hA => ?_) τ1 0 hT1 hF1 (by decide) rfl
  have eD := dysR_0 r n
  refine aw_b kX6_ok bX6_stable_15_ok (Cs := []) (pc' := 18) (L' := [some (aR 0 0), some (aI b), some (aI ((n : Int) + 1))]) (st' := [aI 60, aI ((n : Int) + 1)]) (σ' := ρ) rfl trivial ?_
  refine aw_cgt dX6_stable_18 (tgt := 59) (by decide) ⟨by omega, by omega⟩ ⟨by omega, by omega⟩ (fun wh1 => ?_) (fun wh1 => ?_)
  · refine aw_b kX6_ok bX6_stable_59_ok (Cs := []) (pc' := 61) (L' := [some (aR 0 0), some (aI b), some (aI ((n : Int) + 1))]) (st' := [aI (-4)]) (σ' := ρ) rfl trivial ?_
    exact aw_iret dX6_stable_61 rfl ⟨aret (by rw [hA, show 60 - n = 0 by omega]; rfl), aFrC hG⟩
  · refine aw_b kX6_ok bX6_stable_21_ok (Cs := [0 < 1]) (pc' := 25) (L' := [some (aR 0 0), some (aI b), some (aI ((n : Int) + 1))]) (st' := [aR 1 1]) (σ' := ρ) rfl (show 0 < 1 from by omega) ?_
    refine aw_callV lX6_178 (as := []) (rest := []) (t := 1) (c := 1) (by decide) (by decide) (by decide) rfl rfl (Nat.le_of_ble_eq_true rfl) rfl dX6_stable_25 (cC_oneDay l 1 (by decide) ρ (dysR r n) hQ (dysR_wf hw _) (by omega)) ?_
    rintro _ τ9 ⟨rfl, hT9, hF9, h39⟩
    have gf := feD_rng (dysR r n)
    have hB : stF r 60 0 0 = (if 0 < feD (dysR r n) then stF r (60 - (n + 1)) (n + 1) ((n : Int) + 1) else if 10 ≤ (n : Int) + 1 - b then b else stF r (60 - (n + 1)) (n + 1) b) := by
      rw [hA, show 60 - n = (60 - (n + 1)) + 1 by omega]; rfl
    refine aw_b kX6_ok bX6_stable_28_ok (Cs := [0 < 1, 1 < 3]) (pc' := 35) (L' := [some (aR 0 0), some (aI b), some (aI ((n : Int) + 1))]) (st' := [aI (τ9 1 1 3)]) (σ' := τ9) rfl (show (0 < 1) ∧ (1 < 3) from ⟨by omega, by omega⟩) ?_
    refine aw_ile dX6_stable_35 (tgt := 43) (by decide) ⟨by omega, by omega⟩ (fun wh2 => ?_) (fun wh2 => ?_)
    · refine aw_b kX6_ok bX6_stable_43_ok (Cs := []) (pc' := 48) (L' := [some (aR 0 0), some (aI b), some (aI ((n : Int) + 1))]) (st' := [aI 10, aI (((n : Int) + 1) - b)]) (σ' := τ9) rfl trivial ?_
      refine aw_clt dX6_stable_48 (tgt := 53) (by decide) ⟨by omega, by omega⟩ ⟨by omega, by omega⟩ (fun wh3 => ?_) (fun wh3 => ?_)
      · refine aw_b kX6_ok bX6_stable_53_ok (Cs := []) (pc' := 15) (L' := [some (aR 0 0), some (aI b), some (aI (((n : Int) + 1) + 1))]) (st' := []) (σ' := τ9) rfl trivial ?_
        exact ihn (by omega) τ9 _ hT9 (aFr_tr hG hF9) (by omega) (hB.trans ((if_neg (by omega)).trans (if_neg (by omega))))
      · refine aw_b kX6_ok bX6_stable_51_ok (Cs := []) (pc' := 52) (L' := [some (aR 0 0), some (aI b), some (aI ((n : Int) + 1))]) (st' := [aI b]) (σ' := τ9) rfl trivial ?_
        exact aw_iret dX6_stable_52 rfl ⟨aret (hB.trans ((if_neg (by omega)).trans (if_pos (by omega)))).symm, aFrC (aFr_tr hG hF9)⟩
    · refine aw_b kX6_ok bX6_stable_38_ok (Cs := []) (pc' := 53) (L' := [some (aR 0 0), some (aI ((n : Int) + 1)), some (aI ((n : Int) + 1))]) (st' := []) (σ' := τ9) rfl trivial ?_
      refine aw_b kX6_ok bX6_stable_53_ok (Cs := []) (pc' := 15) (L' := [some (aR 0 0), some (aI ((n : Int) + 1)), some (aI (((n : Int) + 1) + 1))]) (st' := []) (σ' := τ9) rfl trivial ?_
      exact ihn (by omega) τ9 _ hT9 (aFr_tr hG hF9) (by omega) (hB.trans (if_pos (by omega)))
theorem stF_rng (r : aRw) : ∀ (k m : Nat) (b : Int), 0 ≤ b → b ≤ m → -4 ≤ stF r k m b ∧ stF r k m b ≤ m + k
  | 0, m, b, _, _ => ⟨Int.le_refl _, by show (-4 : Int) ≤ _; omega⟩
  | k + 1, m, b, h0, h1 => by
    rw [stF]
    split
    · have z := stF_rng r k (m + 1) ((m : Int) + 1) (by omega) (by omega); omega
    · split
      · omega
      · have z := stF_rng r k (m + 1) b h0 (by omega); omega
def A_over (r : aRw) (w : Int) : Int := if w = 0 then r 0 - hcR r else if w = 1 then btN (plB r) (r 0).toNat else if w = 2 then alO r 5 else if w = 3 then clN r (r 0).toNat else if w = 4 then stF r 60 0 0 else 1000000001
set_option maxRecDepth 10000 in
theorem cC_over (l : Launch) (w : Int) (σ : aS) (r : aRw) (hR : Rep σ 0 r) (hw : WF r) (hd : r 1 ≤ 999) (hv : aIr w) : AM l 5 mX6_over [aR 0 0, aI w] σ (QC (A_over r w) σ) := by
  have bn := hw.1
  have en := hR.n
  have b1 := hw.2.1
  have e1 := hR.1.2.1
  have b2 := hw.2.2.1
  have e2 := hR.1.2.2
  refine am_of (by decide) (Nat.le_of_ble_eq_true rfl) (L := [some (aR 0 0), some (aI w)]) rfl ?_
  refine aw_b kX6_ok bX6_over_0_ok (Cs := []) (pc' := 1) (L' := [some (aR 0 0), some (aI w)]) (st' := [aI w]) (σ' := σ) rfl trivial ?_
  rcases (show w = 0 ∨ w = 1 ∨ w = 2 ∨ w = 3 ∨ w = 4 ∨ (w < 0 ∨ 4 < w) by omega) with wh1 | wh1 | wh1 | wh1 | wh1 | wh1
  · refine aw_tsw dX6_over_1 (tgt := 36) ⟨by omega, by omega⟩ (by decide) (by rw [wh1]; decide) ?_
    refine aw_b kX6_ok bX6_over_36_ok (Cs := [0 < 1, 0 < 3, 0 < 1]) (pc' := 47) (L' := [some (aR 0 0), some (aI w)]) (st' := [aR 1 0, aI (σ 1 0 0)]) (σ' := σ) rfl (show (0 < 1) ∧ (0 < 3) ∧ (0 < 1) from ⟨by omega, by omega, by omega⟩) ?_
    refine aw_fV lX6_205 (as := []) (rest := [aI (σ 1 0 0)]) (t := 1) (c := 0) (by decide) (by decide) (by decide) rfl rfl (Nat.le_of_ble_eq_true rfl) rfl dX6_over_47 (cC_heldCount l 0 (by decide) σ r hR hw) ?_
    refine aw_b kX6_ok bX6_over_50_ok (Cs := []) (pc' := 51) (L' := [some (aR 0 0), some (aI w)]) (st' := [aI ((σ 1 0 0) - (hcR r))]) (σ' := σ) rfl trivial ?_
    exact aw_iret dX6_over_51 rfl ⟨aret (by unfold A_over; (try rw [en]); (repeat' split) <;> first | rfl | omega), (by first | exact hF1 | exact aFr_rf)⟩
  · refine aw_tsw dX6_over_1 (tgt := 52) ⟨by omega, by omega⟩ (by decide) (by rw [wh1]; decide) ?_
    refine aw_b kX6_ok bX6_over_52_ok (Cs := [0 < 1]) (pc' := 56) (L' := [some (aR 0 0), some (aI w)]) (st' := [aR 1 0]) (σ' := σ) rfl (show 0 < 1 from by omega) ?_
    refine aw_fV lX6_208 (as := []) (rest := []) (t := 1) (c := 0) (by decide) (by decide) (by decide) rfl rfl (Nat.le_of_ble_eq_true rfl) rfl dX6_over_56 (cC_plainBits l 0 (by decide) σ r hR hw hd) ?_
    exact aw_iret dX6_over_59 rfl ⟨aret (by unfold A_over; (try rw [en]); (repeat' split) <;> first | rfl | omega), (by first | exact hF1 | exact aFr_rf)⟩
  · refine aw_tsw dX6_over_1 (tgt := 60) ⟨by omega, by omega⟩ (by decide) (by rw [wh1]; decide) ?_
    refine aw_b kX6_ok bX6_over_60_ok (Cs := [0 < 1]) (pc' := 64) (L' := [some (aR 0 0), some (aI w)]) (st' := [aR 1 0]) (σ' := σ) rfl (show 0 < 1 from by omega) ?_
    refine aw_fV lX6_211 (as := []) (rest := []) (t := 1) (c := 0) (by decide) (by decide) (by decide) rfl rfl (Nat.le_of_ble_eq_true rfl) rfl dX6_over_64 (cC_alike l 0 (by decide) σ r hR hw) ?_
    exact aw_iret dX6_over_67 rfl ⟨aret (by unfold A_over; (try rw [en]); (repeat' split) <;> first | rfl | omega), (by first | exact hF1 | exact aFr_rf)⟩
  · refine aw_tsw dX6_over_1 (tgt := 68) ⟨by omega, by omega⟩ (by decide) (by rw [wh1]; decide) ?_
    refine aw_b kX6_ok bX6_over_68_ok (Cs := [0 < 1]) (pc' := 72) (L' := [some (aR 0 0), some (aI w)]) (st' := [aR 1 0]) (σ' := σ) rfl (show 0 < 1 from by omega) ?_
    have gc := clN_rng r (r 0).toNat
    have ng := nb_cases (clN r (r 0).toNat)
    refine aw_fV lX6_214 (as := []) (rest := []) (t := 1) (c := 0) (by decide) (by decide) (by decide) rfl rfl (Nat.le_of_ble_eq_true rfl) rfl dX6_over_72 (cC_closest l 0 (by decide) σ r hR hw) ?_
    refine aw_fS lX6_94 (as := [aI (nb (clN r (r 0).toNat))]) (rest := []) (by decide) rfl (Nat.le_of_ble_eq_true rfl) rfl dX6_over_75 (cC_orNone l (nb (clN r (r 0).toNat)) σ ⟨by omega, by omega⟩) ?_
    rw [show (if nb (clN r (r 0).toNat) = -1 then (-4 : Int) else nb (clN r (r 0).toNat)) = clN r (r 0).toNat by split <;> omega]
    exact aw_iret dX6_over_78 rfl ⟨aret (by unfold A_over; (try rw [en]); (repeat' split) <;> first | rfl | omega), (by first | exact hF1 | exact aFr_rf)⟩
  · refine aw_tsw dX6_over_1 (tgt := 79) ⟨by omega, by omega⟩ (by decide) (by rw [wh1]; decide) ?_
    refine aw_b kX6_ok bX6_over_79_ok (Cs := []) (pc' := 80) (L' := [some (aR 0 0), some (aI w)]) (st' := [aR 0 0]) (σ' := σ) rfl trivial ?_
    refine aw_callV lX6_217 (as := []) (rest := []) (t := 0) (c := 0) (by decide) (by decide) (by decide) rfl rfl (Nat.le_of_ble_eq_true rfl) rfl dX6_over_80 (cC_stable l σ r hR hw hd) ?_
    rintro _ τ1 ⟨rfl, hF1⟩
    exact aw_iret dX6_over_83 rfl ⟨aret (by unfold A_over; (try rw [en]); (repeat' split) <;> first | rfl | omega), (by first | exact hF1 | exact aFr_rf)⟩
  · refine aw_tsw dX6_over_1 (tgt := 84) ⟨by omega, by omega⟩ (by decide) (by unfold aTgt; rw [if_pos (by omega)]; rfl) ?_
    refine aw_b kX6_ok bX6_over_84_ok (Cs := []) (pc' := 86) (L' := [some (aR 0 0), some (aI w)]) (st' := [aI 1000000001]) (σ' := σ) rfl trivial ?_
    exact aw_iret dX6_over_86 rfl ⟨aret (by unfold A_over; (try rw [en]); (repeat' split) <;> first | rfl | omega), (by first | exact hF1 | exact aFr_rf)⟩
