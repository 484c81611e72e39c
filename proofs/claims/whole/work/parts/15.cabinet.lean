/-! ===== the class: its cabinet ===== -/
set_option maxRecDepth 10000 in
theorem cC_isThere (l : Launch) (p : Int) (c : Nat) (hc : c < 3) (σ : aS) (r : aRw) (hR : Rep σ c r) (hw : WF r) (hp : aIr p) : AM l 0 mX0_isThere [aR 1 c, aI p] σ (aF (some (aI (if 0 ≤ p ∧ p < r 0 then 1 else 0))) σ) := by
  have bn := hw.1
  have en := hR.n
  refine am_of (by decide) (Nat.le_of_ble_eq_true rfl) (L := [some (aR 1 c), some (aI p)]) rfl ?_
  refine aw_b kX0_ok bX0_isThere_0_ok (Cs := []) (pc' := 1) (L' := [some (aR 1 c), some (aI p)]) (st' := [aI p]) (σ' := σ) rfl trivial ?_
  refine aw_ilt dX0_isThere_1 (tgt := 22) (by decide) ⟨by omega, by omega⟩ (fun wh1 => ?_) (fun wh1 => ?_)
  · refine aw_b kX0_ok bX0_isThere_22_ok (Cs := []) (pc' := 23) (L' := [some (aR 1 c), some (aI p)]) (st' := [aI 0]) (σ' := σ) rfl trivial ?_
    exact aw_zret dX0_isThere_23 rfl (by omega) ⟨aret (by split <;> omega), rfl⟩
  · refine aw_b kX0_ok bX0_isThere_4_ok (Cs := [c < 3]) (pc' := 9) (L' := [some (aR 1 c), some (aI p)]) (st' := [aI (σ 1 c 0), aI p]) (σ' := σ) rfl (show c < 3 from by omega) ?_
    refine aw_cge dX0_isThere_9 (tgt := 22) (by decide) ⟨by omega, by omega⟩ ⟨by omega, by omega⟩ (fun wh2 => ?_) (fun wh2 => ?_)
    · refine aw_b kX0_ok bX0_isThere_22_ok (Cs := []) (pc' := 23) (L' := [some (aR 1 c), some (aI p)]) (st' := [aI 0]) (σ' := σ) rfl trivial ?_
      exact aw_zret dX0_isThere_23 rfl (by omega) ⟨aret (by split <;> omega), rfl⟩
    · refine aw_b kX0_ok bX0_isThere_12_ok (Cs := []) (pc' := 15) (L' := [some (aR 1 c), some (aI p)]) (st' := [aI 8, aI p]) (σ' := σ) rfl trivial ?_
      refine aw_cge dX0_isThere_15 (tgt := 22) (by decide) ⟨by omega, by omega⟩ ⟨by omega, by omega⟩ (fun wh3 => ?_) (fun wh3 => ?_)
      · refine aw_b kX0_ok bX0_isThere_22_ok (Cs := []) (pc' := 23) (L' := [some (aR 1 c), some (aI p)]) (st' := [aI 0]) (σ' := σ) rfl trivial ?_
        exact aw_zret dX0_isThere_23 rfl (by omega) ⟨aret (by split <;> omega), rfl⟩
      · refine aw_b kX0_ok bX0_isThere_18_ok (Cs := []) (pc' := 23) (L' := [some (aR 1 c), some (aI p)]) (st' := [aI 1]) (σ' := σ) rfl trivial ?_
        exact aw_zret dX0_isThere_23 rfl (by omega) ⟨aret (by split <;> omega), rfl⟩
set_option maxRecDepth 10000 in
theorem cC_bearing (l : Launch) (p : Int) (c : Nat) (hc : c < 3) (σ : aS) (r : aRw) (hR : Rep σ c r) (hw : WF r) (h0 : 0 ≤ p) (h1 : p < r 0) : AM l 1 mX0_bearing [aR 1 c, aI p] σ (aF (some (aI (beR r p))) σ) := by
  have bn := hw.1
  have en := hR.n
  have bp := hw.pe (p := p) (by omega) (by omega)
  have rp := hR.pe (p := p) (by omega) (by omega)
  have bo := off_rng r p
  have no := nb_cases (off r p)
  refine am_of (by decide) (Nat.le_of_ble_eq_true rfl) (L := [some (aR 1 c), some (aI p)]) rfl ?_
  refine aw_b kX0_ok bX0_bearing_0_ok (Cs := [c < 3, c < 3, 0 ≤ p ∧ p < 8, c < 3, c < 3, 0 ≤ p ∧ p < 8]) (pc' := 12) (L' := [some (aR 1 c), some (aI p)]) (st' := [aI (σ 3 c p), aI (σ 2 c p)]) (σ' := σ) rfl (show (c < 3) ∧ (c < 3) ∧ (0 ≤ p ∧ p < 8) ∧ (c < 3) ∧ (c < 3) ∧ (0 ≤ p ∧ p < 8) from ⟨by omega, by omega, by omega, by omega, by omega, by omega⟩) ?_
  refine aw_fS lX0_57 (as := [aI (σ 2 c p), aI (σ 3 c p)]) (rest := []) (by decide) rfl (Nat.le_of_ble_eq_true rfl) rfl dX0_bearing_12 (cC_borne l (σ 2 c p) (σ 3 c p) σ ⟨by omega, by omega⟩ ⟨by omega, by omega⟩) ?_
  exact aw_iret dX0_bearing_15 rfl ⟨aret (by unfold beR; rw [rp.1, rp.2.1]), rfl⟩
set_option maxRecDepth 10000 in
theorem cC_heldIn (l : Launch) (k : Int) (c : Nat) (hc : c < 3) (σ : aS) (r : aRw) (hR : Rep σ c r) (hw : WF r) (hk : aIr k) : AM l 0 mX0_heldIn [aR 1 c, aI k] σ (aF (some (aI (cntC r k 5))) σ) := by
  have bn := hw.1
  have en := hR.n
  refine am_of (by decide) (Nat.le_of_ble_eq_true rfl) (L := [some (aR 1 c), some (aI k), none, none]) rfl ?_
  refine aw_b kX0_ok bX0_heldIn_0_ok (Cs := []) (pc' := 4) (L' := [some (aR 1 c), some (aI k), some (aI 0), some (aI 0)]) (st' := []) (σ' := σ) rfl trivial ?_
  refine aloop (P := fun n : Nat => AW l 0 mX0_heldIn _ 4 [some (aR 1 c), some (aI k), some (aI (cntC r k n)), some (aI (n : Int))] [] σ) (5) (fun n hn ihn => ?_)
  have q0 := cntC_le r k n
  refine aw_b kX0_ok bX0_heldIn_4_ok (Cs := []) (pc' := 6) (L' := [some (aR 1 c), some (aI k), some (aI (cntC r k n)), some (aI (n : Int))]) (st' := [aI 5, aI (n : Int)]) (σ' := σ) rfl trivial ?_
  refine aw_cge dX0_heldIn_6 (tgt := 38) (by decide) ⟨by omega, by omega⟩ ⟨by omega, by omega⟩ (fun wh1 => ?_) (fun wh1 => ?_)
  · refine aw_b kX0_ok bX0_heldIn_38_ok (Cs := []) (pc' := 39) (L' := [some (aR 1 c), some (aI k), some (aI (cntC r k n)), some (aI (n : Int))]) (st' := [aI (cntC r k n)]) (σ' := σ) rfl trivial ?_
    exact aw_iret dX0_heldIn_39 rfl ⟨aret (by rw [show n = 5 by omega]), rfl⟩
  · have bc := hw.co (f := (n : Int)) (by omega) (by omega)
    have bh := hw.ho (f := (n : Int)) (by omega) (by omega)
    have ro := hR.of (f := (n : Int)) (by omega) (by omega)
    have nh := nb_cases (r (8 + (n : Int)))
    refine aw_b kX0_ok bX0_heldIn_9_ok (Cs := [c < 3, c < 3, 0 ≤ (n : Int) ∧ (n : Int) < 5]) (pc' := 16) (L' := [some (aR 1 c), some (aI k), some (aI (cntC r k n)), some (aI (n : Int))]) (st' := [aI (-1), aI (σ 8 c (n : Int))]) (σ' := σ) rfl (show (c < 3) ∧ (c < 3) ∧ (0 ≤ (n : Int) ∧ (n : Int) < 5) from ⟨by omega, by omega, by omega⟩) ?_
    refine aw_ceq dX0_heldIn_16 (tgt := 32) (by decide) ⟨by omega, by omega⟩ ⟨by omega, by omega⟩ (fun wh2 => ?_) (fun wh2 => ?_)
    · refine aw_b kX0_ok bX0_heldIn_32_ok (Cs := []) (pc' := 4) (L' := [some (aR 1 c), some (aI k), some (aI (cntC r k n)), some (aI ((n : Int) + 1))]) (st' := []) (σ' := σ) rfl trivial ?_
      exact aw_eq (by simp only [cntC]; (first | rw [if_pos (by omega)] | rw [if_neg (by omega), Int.add_zero]); rfl) rfl rfl (ihn (by omega))
    · refine aw_b kX0_ok bX0_heldIn_19_ok (Cs := [c < 3, c < 3, 0 ≤ (n : Int) ∧ (n : Int) < 5]) (pc' := 26) (L' := [some (aR 1 c), some (aI k), some (aI (cntC r k n)), some (aI (n : Int))]) (st' := [aI k, aI (σ 7 c (n : Int))]) (σ' := σ) rfl (show (c < 3) ∧ (c < 3) ∧ (0 ≤ (n : Int) ∧ (n : Int) < 5) from ⟨by omega, by omega, by omega⟩) ?_
      refine aw_cne dX0_heldIn_26 (tgt := 32) (by decide) ⟨by omega, by omega⟩ ⟨by omega, by omega⟩ (fun wh3 => ?_) (fun wh3 => ?_)
      · refine aw_b kX0_ok bX0_heldIn_32_ok (Cs := []) (pc' := 4) (L' := [some (aR 1 c), some (aI k), some (aI (cntC r k n)), some (aI ((n : Int) + 1))]) (st' := []) (σ' := σ) rfl trivial ?_
        exact aw_eq (by simp only [cntC]; (first | rw [if_pos (by omega)] | rw [if_neg (by omega), Int.add_zero]); rfl) rfl rfl (ihn (by omega))
      · refine aw_b kX0_ok bX0_heldIn_29_ok (Cs := []) (pc' := 32) (L' := [some (aR 1 c), some (aI k), some (aI ((cntC r k n) + 1)), some (aI (n : Int))]) (st' := []) (σ' := σ) rfl trivial ?_
        refine aw_b kX0_ok bX0_heldIn_32_ok (Cs := []) (pc' := 4) (L' := [some (aR 1 c), some (aI k), some (aI ((cntC r k n) + 1)), some (aI ((n : Int) + 1))]) (st' := []) (σ' := σ) rfl trivial ?_
        exact aw_eq (by simp only [cntC]; (first | rw [if_pos (by omega)] | rw [if_neg (by omega), Int.add_zero]); rfl) rfl rfl (ihn (by omega))
set_option maxRecDepth 10000 in
theorem cC_heldBits (l : Launch) (c : Nat) (hc : c < 3) (σ : aS) (r : aRw) (hR : Rep σ c r) (hw : WF r) : AM l 0 mX0_heldBits [aR 1 c] σ (aF (some (aI (hbN r 5))) σ) := by
  have bn := hw.1
  have en := hR.n
  refine am_of (by decide) (Nat.le_of_ble_eq_true rfl) (L := [some (aR 1 c), none, none]) rfl ?_
  refine aw_b kX0_ok bX0_heldBits_0_ok (Cs := []) (pc' := 4) (L' := [some (aR 1 c), some (aI 0), some (aI 0)]) (st' := []) (σ' := σ) rfl trivial ?_
  refine aloop (P := fun n : Nat => AW l 0 mX0_heldBits _ 4 [some (aR 1 c), some (aI (hbN r n)), some (aI (n : Int))] [] σ) (5) (fun n hn ihn => ?_)
  refine aw_b kX0_ok bX0_heldBits_4_ok (Cs := []) (pc' := 6) (L' := [some (aR 1 c), some (aI (hbN r n)), some (aI (n : Int))]) (st' := [aI 5, aI (n : Int)]) (σ' := σ) rfl trivial ?_
  refine aw_cge dX0_heldBits_6 (tgt := 31) (by decide) ⟨by omega, by omega⟩ ⟨by omega, by omega⟩ (fun wh1 => ?_) (fun wh1 => ?_)
  · refine aw_b kX0_ok bX0_heldBits_31_ok (Cs := []) (pc' := 32) (L' := [some (aR 1 c), some (aI (hbN r n)), some (aI (n : Int))]) (st' := [aI (hbN r n)]) (σ' := σ) rfl trivial ?_
    exact aw_iret dX0_heldBits_32 rfl ⟨aret (by rw [show n = 5 by omega]), rfl⟩
  · have bc := hw.co (f := (n : Int)) (by omega) (by omega)
    have bh := hw.ho (f := (n : Int)) (by omega) (by omega)
    have ro := hR.of (f := (n : Int)) (by omega) (by omega)
    have nh := nb_cases (r (8 + (n : Int)))
    refine aw_b kX0_ok bX0_heldBits_9_ok (Cs := [c < 3, c < 3, 0 ≤ (n : Int) ∧ (n : Int) < 5]) (pc' := 16) (L' := [some (aR 1 c), some (aI (hbN r n)), some (aI (n : Int))]) (st' := [aI (-1), aI (σ 8 c (n : Int))]) (σ' := σ) rfl (show (c < 3) ∧ (c < 3) ∧ (0 ≤ (n : Int) ∧ (n : Int) < 5) from ⟨by omega, by omega, by omega⟩) ?_
    refine aw_ceq dX0_heldBits_16 (tgt := 25) (by decide) ⟨by omega, by omega⟩ ⟨by omega, by omega⟩ (fun wh2 => ?_) (fun wh2 => ?_)
    · refine aw_b kX0_ok bX0_heldBits_25_ok (Cs := []) (pc' := 4) (L' := [some (aR 1 c), some (aI (hbN r n)), some (aI ((n : Int) + 1))]) (st' := []) (σ' := σ) rfl trivial ?_
      exact aw_eq (by simp only [hbN]; (first | rw [if_pos (by omega), (hbN_step r (show n < 5 by omega)).1] | rw [if_neg (by omega), Int.add_zero]); rfl) rfl rfl (ihn (by omega))
    · refine aw_b kX0_ok bX0_heldBits_19_ok (Cs := [0 ≤ (n : Int) ∧ (n : Int) < 32]) (pc' := 25) (L' := [some (aR 1 c), some (aI (aOr (hbN r n) (1 * 2 ^ (Int.toNat (n : Int))))), some (aI (n : Int))]) (st' := []) (σ' := σ) rfl (show 0 ≤ (n : Int) ∧ (n : Int) < 32 from by omega) ?_
      refine aw_b kX0_ok bX0_heldBits_25_ok (Cs := []) (pc' := 4) (L' := [some (aR 1 c), some (aI (aOr (hbN r n) (1 * 2 ^ (Int.toNat (n : Int))))), some (aI ((n : Int) + 1))]) (st' := []) (σ' := σ) rfl trivial ?_
      exact aw_eq (by simp only [hbN]; (first | rw [if_pos (by omega), (hbN_step r (show n < 5 by omega)).1] | rw [if_neg (by omega), Int.add_zero]); rfl) rfl rfl (ihn (by omega))
def hcR (r : aRw) : Int := bcN (hbN r 5) 8
theorem bcN_rng : ∀ n : Nat, n < 256 → 0 ≤ bcN (n : Int) 8 ∧ bcN (n : Int) 8 ≤ 8 := by decide +kernel
theorem hbN_nat (r : aRw) : ∃ n : Nat, n < 256 ∧ hbN r 5 = (n : Int) := by
  have h := hbN_rng r 5
  obtain ⟨n, hn⟩ := Int.eq_ofNat_of_zero_le h.1
  refine ⟨n, ?_, hn⟩
  have h2 : hbN r 5 < 32 := h.2
  omega
theorem hcR_rng (r : aRw) : 0 ≤ hcR r ∧ hcR r ≤ 8 := by
  obtain ⟨n, hn, e⟩ := hbN_nat r
  unfold hcR
  rw [e]
  exact bcN_rng n hn
theorem cJ_bitCount' (l : Launch) (r : aRw) (σ : aS) : AM l 0 mJ6_bitCount_0f7a4 [aI (hbN r 5)] σ (aF (some (aI (hcR r))) σ) := by
  obtain ⟨n, hn, e⟩ := hbN_nat r
  unfold hcR
  rw [e]
  exact cJ_bitCount l n hn σ
set_option maxRecDepth 10000 in
theorem cC_heldCount (l : Launch) (c : Nat) (hc : c < 3) (σ : aS) (r : aRw) (hR : Rep σ c r) (hw : WF r) : AM l 1 mX0_heldCount [aR 1 c] σ (aF (some (aI (hcR r))) σ) := by
  have bn := hw.1
  have en := hR.n
  refine am_of (by decide) (Nat.le_of_ble_eq_true rfl) (L := [some (aR 1 c)]) rfl ?_
  refine aw_b kX0_ok bX0_heldCount_0_ok (Cs := []) (pc' := 1) (L' := [some (aR 1 c)]) (st' := [aR 1 c]) (σ' := σ) rfl trivial ?_
  refine aw_fV lX0_95 (as := []) (rest := []) (t := 1) (c := c) (by decide) (by decide) (show c < 3 by omega) rfl rfl (Nat.le_of_ble_eq_true rfl) rfl dX0_heldCount_1 (cC_heldBits l c (by omega) σ r hR hw) ?_
  refine aw_fS lX0_99 (as := [aI (hbN r 5)]) (rest := []) (by decide) rfl (Nat.le_of_ble_eq_true rfl) rfl dX0_heldCount_4 (cJ_bitCount' l r σ) ?_
  exact aw_iret dX0_heldCount_7 rfl ⟨rfl, rfl⟩
def swR (r : aRw) (p : Int) : Int := if off r p < 0 then 0 else (shF (r (aOf p 0)) (r (aOf p 1)) (r (3 + off r p)) (r 1)).tdiv (if 1 < cntC r (r (3 + off r p)) 5 then 2 else 1)
set_option maxRecDepth 10000 in
theorem cC_showing (l : Launch) (p : Int) (c : Nat) (hc : c < 3) (σ : aS) (r : aRw) (hR : Rep σ c r) (hw : WF r) (h0 : 0 ≤ p) (h1 : p < r 0) (hd : r 1 ≤ 1000000) : AM l 2 mX0_showing [aR 1 c, aI p] σ (aF (some (aI (swR r p))) σ) := by
  have bn := hw.1
  have en := hR.n
  have bp := hw.pe (p := p) (by omega) (by omega)
  have rp := hR.pe (p := p) (by omega) (by omega)
  have bo := off_rng r p
  have no := nb_cases (off r p)
  have b1 := hw.2.1
  have e1 := hR.1.2.1
  refine am_of (by decide) (Nat.le_of_ble_eq_true rfl) (L := [some (aR 1 c), some (aI p), none, none]) rfl ?_
  refine aw_b kX0_ok bX0_showing_0_ok (Cs := [c < 3, c < 3, 0 ≤ p ∧ p < 8]) (pc' := 8) (L' := [some (aR 1 c), some (aI p), some (aI (σ 6 c p)), none]) (st' := [aI (σ 6 c p)]) (σ' := σ) rfl (show (c < 3) ∧ (c < 3) ∧ (0 ≤ p ∧ p < 8) from ⟨by omega, by omega, by omega⟩) ?_
  refine aw_bN lX0_46 (as := [aI (σ 6 c p)]) (rest := []) (by decide) rfl (Nat.le_of_ble_eq_true rfl) rfl dX0_showing_8 (cC_isOffice l (σ 6 c p) σ ⟨by omega, by omega⟩) (fun wh1 => ?_) (fun wh1 => ?_)
  · have e6 : σ 6 c p = off r p := by omega
    have bc := hw.co (f := σ 6 c p) (by omega) (by omega)
    have bh := hw.ho (f := σ 6 c p) (by omega) (by omega)
    have ro := hR.of (f := σ 6 c p) (by omega) (by omega)
    have nh := nb_cases (r (8 + (σ 6 c p)))
    have e7 : σ 7 c (σ 6 c p) = r (3 + off r p) := by rw [ro.1, e6]
    have bs := shF_rng (kind := σ 2 c p) (f := σ 3 c p) (k := σ 7 c (σ 6 c p)) (day := σ 1 c 1) (by omega) (by omega)
    refine aw_ine dX0_showing_11 (tgt := 16) (by decide) ⟨by omega, by omega⟩ (fun wh2 => ?_) (fun wh2 => absurd wh2 (by decide))
    refine aw_b kX0_ok bX0_showing_16_ok (Cs := [c < 3, c < 3, 0 ≤ p ∧ p < 8, c < 3, c < 3, 0 ≤ p ∧ p < 8, c < 3, c < 3, 0 ≤ σ 6 c p ∧ σ 6 c p < 5, c < 3]) (pc' := 38) (L' := [some (aR 1 c), some (aI p), some (aI (σ 6 c p)), none]) (st' := [aI (σ 1 c 1), aI (σ 7 c (σ 6 c p)), aI (σ 3 c p), aI (σ 2 c p)]) (σ' := σ) rfl (show (c < 3) ∧ (c < 3) ∧ (0 ≤ p ∧ p < 8) ∧ (c < 3) ∧ (c < 3) ∧ (0 ≤ p ∧ p < 8) ∧ (c < 3) ∧ (c < 3) ∧ (0 ≤ σ 6 c p ∧ σ 6 c p < 5) ∧ (c < 3) from ⟨by omega, by omega, by omega, by omega, by omega, by omega, by omega, by omega, by omega, by omega⟩) ?_
    refine aw_fS lX0_88 (as := [aI (σ 2 c p), aI (σ 3 c p), aI (σ 7 c (σ 6 c p)), aI (σ 1 c 1)]) (rest := []) (by decide) rfl (Nat.le_of_ble_eq_true rfl) rfl dX0_showing_38 (cC_shown l (σ 2 c p) (σ 3 c p) (σ 7 c (σ 6 c p)) (σ 1 c 1) σ ⟨by omega, by omega⟩ ⟨by omega, by omega⟩ ⟨by omega, by omega⟩ ⟨by omega, by omega⟩) ?_
    refine aw_b kX0_ok bX0_showing_41_ok (Cs := [c < 3, c < 3, 0 ≤ σ 6 c p ∧ σ 6 c p < 5]) (pc' := 49) (L' := [some (aR 1 c), some (aI p), some (aI (σ 6 c p)), some (aI (shF (σ 2 c p) (σ 3 c p) (σ 7 c (σ 6 c p)) (σ 1 c 1)))]) (st' := [aI (σ 7 c (σ 6 c p)), aR 1 c]) (σ' := σ) rfl (show (c < 3) ∧ (c < 3) ∧ (0 ≤ σ 6 c p ∧ σ 6 c p < 5) from ⟨by omega, by omega, by omega⟩) ?_
    refine aw_fV lX0_92 (as := [aI (σ 7 c (σ 6 c p))]) (rest := []) (t := 1) (c := c) (by decide) (by decide) (show c < 3 by omega) rfl rfl (Nat.le_of_ble_eq_true rfl) rfl dX0_showing_49 (cC_heldIn l (σ 7 c (σ 6 c p)) c (by omega) σ r hR hw ⟨by omega, by omega⟩) ?_
    have qc := cntC_le r (σ 7 c (σ 6 c p)) 5
    refine aw_b kX0_ok bX0_showing_52_ok (Cs := []) (pc' := 53) (L' := [some (aR 1 c), some (aI p), some (aI (σ 6 c p)), some (aI (shF (σ 2 c p) (σ 3 c p) (σ 7 c (σ 6 c p)) (σ 1 c 1)))]) (st' := [aI 1, aI (cntC r (σ 7 c (σ 6 c p)) 5)]) (σ' := σ) rfl trivial ?_
    refine aw_cle dX0_showing_53 (tgt := 62) (by decide) ⟨by omega, by omega⟩ ⟨by omega, by omega⟩ (fun wh3 => ?_) (fun wh3 => ?_)
    · refine aw_b kX0_ok bX0_showing_62_ok (Cs := []) (pc' := 63) (L' := [some (aR 1 c), some (aI p), some (aI (σ 6 c p)), some (aI (shF (σ 2 c p) (σ 3 c p) (σ 7 c (σ 6 c p)) (σ 1 c 1)))]) (st' := [aI (shF (σ 2 c p) (σ 3 c p) (σ 7 c (σ 6 c p)) (σ 1 c 1))]) (σ' := σ) rfl trivial ?_
      exact aw_iret dX0_showing_63 rfl ⟨aret (by unfold swR; rw [if_neg (by omega), ← rp.1, ← rp.2.1, ← e7, ← e1]; (first | rw [if_pos (by omega)] | rw [if_neg (by omega), Int.tdiv_one])), rfl⟩
    · refine aw_b kX0_ok bX0_showing_56_ok (Cs := [-2147483648 ≤ shF (σ 2 c p) (σ 3 c p) (σ 7 c (σ 6 c p)) (σ 1 c 1) ∧ shF (σ 2 c p) (σ 3 c p) (σ 7 c (σ 6 c p)) (σ 1 c 1) < 2147483648, 0 < 2 ∧ 2 < 2147483648]) (pc' := 63) (L' := [some (aR 1 c), some (aI p), some (aI (σ 6 c p)), some (aI (shF (σ 2 c p) (σ 3 c p) (σ 7 c (σ 6 c p)) (σ 1 c 1)))]) (st' := [aI (Int.tdiv (shF (σ 2 c p) (σ 3 c p) (σ 7 c (σ 6 c p)) (σ 1 c 1)) 2)]) (σ' := σ) rfl (show (-2147483648 ≤ shF (σ 2 c p) (σ 3 c p) (σ 7 c (σ 6 c p)) (σ 1 c 1) ∧ shF (σ 2 c p) (σ 3 c p) (σ 7 c (σ 6 c p)) (σ 1 c 1) < 2147483648) ∧ (0 < 2 ∧ 2 < 2147483648) from ⟨by omega, by omega⟩) ?_
      exact aw_iret dX0_showing_63 rfl ⟨aret (by unfold swR; rw [if_neg (by omega), ← rp.1, ← rp.2.1, ← e7, ← e1]; (first | rw [if_pos (by omega)] | rw [if_neg (by omega), Int.tdiv_one])), rfl⟩
  · refine aw_ine dX0_showing_11 (tgt := 16) (by decide) ⟨by omega, by omega⟩ (fun wh4 => absurd wh4 (by decide)) (fun wh4 => ?_)
    refine aw_b kX0_ok bX0_showing_14_ok (Cs := []) (pc' := 15) (L' := [some (aR 1 c), some (aI p), some (aI (σ 6 c p)), none]) (st' := [aI 0]) (σ' := σ) rfl trivial ?_
    exact aw_iret dX0_showing_15 rfl ⟨aret (by unfold swR; rw [if_pos (by omega)]), rfl⟩
def PQ (c : Nat) (σ : aS) (r' : aRw) (e3 : Int) : Option aV → aS → Prop := fun v σ' => v = none ∧ Rep σ' c r' ∧ aFr (Cb c) σ σ' ∧ σ' 1 c 3 = e3
def emR (r : aRw) (f : Int) : aRw := if 0 ≤ f ∧ f < 5 then rUp r (8 + f) (-4) else r
theorem emR_wf {r : aRw} (h : WF r) (f : Int) : WF (emR r f) := by
  unfold emR
  split
  · rename_i hf; exact WF_empty h hf.1 hf.2
  · exact h
theorem cb {c t : Nat} (h : 1 ≤ t ∧ t ≤ 8) : Cb c t c := ⟨h.1, h.2, rfl⟩
theorem Rep_va1 {σ : aS} {c : Nat} {r : aRw} (h : Rep σ c r) (hw : WF r) {f : Int} (f0 : 0 ≤ f) (f1 : f < 5) (he : r (8 + f) < 0) : Rep (aUp σ 8 c f (-1)) c (rUp r (8 + f) (-4)) :=
  Rep_empty h hw f0 f1 aUp_same (fun p h0 h1 => by rw [aUp_tag (by decide), if_neg (by omega)]) (fun g hg => aUp_idx hg) (fun t i _ _ _ h8 _ => aUp_tag h8)
theorem Rep_va2 {σ : aS} {c : Nat} {r : aRw} (h : Rep σ c r) (hw : WF r) {f p : Int} (f0 : 0 ≤ f) (f1 : f < 5) (he : r (8 + f) = p) : Rep (aUp (aUp σ 6 c p (-1)) 8 c f (-1)) c (rUp r (8 + f) (-4)) :=
  Rep_empty h hw f0 f1 aUp_same (fun q h0 h1 => by
    rw [aUp_tag (by decide)]
    by_cases hq : q = p
    · rw [hq, aUp_same, if_pos he.symm]
    · rw [aUp_idx hq, if_neg (by omega)]) (fun g hg => by rw [aUp_idx hg, aUp_tag (by decide)]) (fun t i _ _ h6 h8 _ => by rw [aUp_tag h8, aUp_tag h6])
theorem Rep_ho {σ : aS} {c : Nat} {r : aRw} (h : Rep σ c r) (hw : WF r) {f p : Int} (f0 : 0 ≤ f) (f1 : f < 5) (p0 : 0 ≤ p) (p1 : p < r 0) (he : r (8 + f) < 0) (hn : off r p < 0) : Rep (aUp (aUp σ 8 c f p) 6 c p f) c (rUp r (8 + f) p) :=
  Rep_hold h hw f0 f1 p0 p1 he hn (by rw [aUp_tag (by decide), aUp_same]) (fun q h0 h1 => by
    by_cases hq : q = p
    · rw [hq, aUp_same, if_pos rfl]
    · rw [aUp_idx hq, aUp_tag (by decide), if_neg hq]) (fun g hg => by rw [aUp_tag (by decide), aUp_idx hg]) (fun t i _ _ h6 h8 _ => by rw [aUp_tag h6, aUp_tag h8])
set_option maxRecDepth 10000 in
theorem cC_vacate (l : Launch) (f : Int) (c : Nat) (hc : c < 3) (σ : aS) (r : aRw) (hR : Rep σ c r) (hw : WF r) (hf : aIr f) : AM l 1 mX0_vacate [aR 1 c, aI f] σ (PQ c σ (emR r f) (σ 1 c 3)) := by
  have bn := hw.1
  have en := hR.n
  refine am_of (by decide) (Nat.le_of_ble_eq_true rfl) (L := [some (aR 1 c), some (aI f), none]) rfl ?_
  refine aw_b kX0_ok bX0_vacate_0_ok (Cs := []) (pc' := 1) (L' := [some (aR 1 c), some (aI f), none]) (st' := [aI f]) (σ' := σ) rfl trivial ?_
  refine aw_bN lX0_46 (as := [aI f]) (rest := []) (by decide) rfl (Nat.le_of_ble_eq_true rfl) rfl dX0_vacate_1 (cC_isOffice l f σ ⟨by omega, by omega⟩) (fun wh1 => ?_) (fun wh1 => ?_)
  · have bc := hw.co (f := f) (by omega) (by omega)
    have bh := hw.ho (f := f) (by omega) (by omega)
    have ro := hR.of (f := f) (by omega) (by omega)
    have nh := nb_cases (r (8 + f))
    refine aw_ine dX0_vacate_4 (tgt := 8) (by decide) ⟨by omega, by omega⟩ (fun wh2 => ?_) (fun wh2 => absurd wh2 (by decide))
    refine aw_b kX0_ok bX0_vacate_8_ok (Cs := [c < 3, c < 3, 0 ≤ f ∧ f < 5]) (pc' := 17) (L' := [some (aR 1 c), some (aI f), some (aI (σ 8 c f))]) (st' := [aI (σ 8 c f), aR 1 c]) (σ' := σ) rfl (show (c < 3) ∧ (c < 3) ∧ (0 ≤ f ∧ f < 5) from ⟨by omega, by omega, by omega⟩) ?_
    refine aw_bV lX0_50 (as := [aI (σ 8 c f)]) (rest := []) (t := 1) (c := c) (by decide) (by decide) (show c < 3 by omega) rfl rfl (Nat.le_of_ble_eq_true rfl) rfl dX0_vacate_17 (cC_isThere l (σ 8 c f) c (by omega) σ r hR hw ⟨by omega, by omega⟩) (fun wh3 => ?_) (fun wh3 => ?_)
    · refine aw_ieq dX0_vacate_20 (tgt := 30) (by decide) ⟨by omega, by omega⟩ (fun wh4 => absurd wh4 (by decide)) (fun wh4 => ?_)
      refine aw_b kX0_ok bX0_vacate_23_ok (Cs := [c < 3, c < 3, 0 ≤ σ 8 c f ∧ σ 8 c f < 8]) (pc' := 30) (L' := [some (aR 1 c), some (aI f), some (aI (σ 8 c f))]) (st' := []) (σ' := aUp σ 6 c (σ 8 c f) (-1)) rfl (show (c < 3) ∧ (c < 3) ∧ (0 ≤ σ 8 c f ∧ σ 8 c f < 8) from ⟨by omega, by omega, by omega⟩) ?_
      refine aw_b kX0_ok bX0_vacate_30_ok (Cs := [c < 3, c < 3, 0 ≤ f ∧ f < 5]) (pc' := 37) (L' := [some (aR 1 c), some (aI f), some (aI (σ 8 c f))]) (st' := []) (σ' := aUp (aUp σ 6 c (σ 8 c f) (-1)) 8 c f (-1)) rfl (show (c < 3) ∧ (c < 3) ∧ (0 ≤ f ∧ f < 5) from ⟨by omega, by omega, by omega⟩) ?_
      exact aw_vret dX0_vacate_37 rfl ⟨rfl, by unfold emR; rw [if_pos (by omega)]; exact Rep_va2 hR hw (by omega) (by omega) (by omega), aFr_tr (aFr_up (cb (by decide))) (aFr_up (cb (by decide))), by rw [aUp_tag (by decide), aUp_tag (by decide)]⟩
    · refine aw_ieq dX0_vacate_20 (tgt := 30) (by decide) ⟨by omega, by omega⟩ (fun wh5 => ?_) (fun wh5 => absurd wh5 (by decide))
      refine aw_b kX0_ok bX0_vacate_30_ok (Cs := [c < 3, c < 3, 0 ≤ f ∧ f < 5]) (pc' := 37) (L' := [some (aR 1 c), some (aI f), some (aI (σ 8 c f))]) (st' := []) (σ' := aUp σ 8 c f (-1)) rfl (show (c < 3) ∧ (c < 3) ∧ (0 ≤ f ∧ f < 5) from ⟨by omega, by omega, by omega⟩) ?_
      exact aw_vret dX0_vacate_37 rfl ⟨rfl, by unfold emR; rw [if_pos (by omega)]; exact Rep_va1 hR hw (by omega) (by omega) (by omega), aFr_up (cb (by decide)), by rw [aUp_tag (by decide)]⟩
  · refine aw_ine dX0_vacate_4 (tgt := 8) (by decide) ⟨by omega, by omega⟩ (fun wh6 => absurd wh6 (by decide)) (fun wh6 => ?_)
    exact aw_vret dX0_vacate_7 rfl ⟨rfl, by unfold emR; rw [if_neg (by omega)]; exact hR, aFr_rf, rfl⟩
set_option maxRecDepth 10000 in
theorem cC_sendHome (l : Launch) (p : Int) (c : Nat) (hc : c < 3) (σ : aS) (r : aRw) (hR : Rep σ c r) (hw : WF r) (h0 : 0 ≤ p) (h1 : p < r 0) : AM l 2 mX0_sendHome [aR 1 c, aI p] σ (PQ c σ (emR r (nb (off r p))) (σ 1 c 3)) := by
  have bn := hw.1
  have en := hR.n
  have bp := hw.pe (p := p) (by omega) (by omega)
  have rp := hR.pe (p := p) (by omega) (by omega)
  have bo := off_rng r p
  have no := nb_cases (off r p)
  refine am_of (by decide) (Nat.le_of_ble_eq_true rfl) (L := [some (aR 1 c), some (aI p)]) rfl ?_
  refine aw_b kX0_ok bX0_sendHome_0_ok (Cs := []) (pc' := 2) (L' := [some (aR 1 c), some (aI p)]) (st' := [aI p, aR 1 c]) (σ' := σ) rfl trivial ?_
  refine aw_bV lX0_50 (as := [aI p]) (rest := []) (t := 1) (c := c) (by decide) (by decide) (show c < 3 by omega) rfl rfl (Nat.le_of_ble_eq_true rfl) rfl dX0_sendHome_2 (cC_isThere l p c (by omega) σ r hR hw ⟨by omega, by omega⟩) (fun wh1 => ?_) (fun wh1 => ?_)
  · refine aw_ieq dX0_sendHome_5 (tgt := 18) (by decide) ⟨by omega, by omega⟩ (fun wh2 => absurd wh2 (by decide)) (fun wh2 => ?_)
    refine aw_b kX0_ok bX0_sendHome_8_ok (Cs := [c < 3, c < 3, 0 ≤ p ∧ p < 8]) (pc' := 15) (L' := [some (aR 1 c), some (aI p)]) (st' := [aI (σ 6 c p), aR 1 c]) (σ' := σ) rfl (show (c < 3) ∧ (c < 3) ∧ (0 ≤ p ∧ p < 8) from ⟨by omega, by omega, by omega⟩) ?_
    refine aw_callV lX0_53 (as := [aI (σ 6 c p)]) (rest := []) (t := 1) (c := c) (by decide) (by decide) (show c < 3 by omega) rfl rfl (Nat.le_of_ble_eq_true rfl) rfl dX0_sendHome_15 (cC_vacate l (σ 6 c p) c hc σ r hR hw ⟨by omega, by omega⟩) ?_
    rintro _ τ1 ⟨rfl, hR1, hF1, h31⟩
    exact aw_vret dX0_sendHome_18 rfl ⟨rfl, by rw [← rp.2.2.2.2]; exact hR1, hF1, h31⟩
  · exfalso; omega
def hoR (r : aRw) (f p : Int) : aRw := rUp (emR (emR r (nb (off r p))) f) (8 + f) p
theorem emR_at {r : aRw} {f j : Int} (h : j < 8 ∨ 13 ≤ j) : emR r f j = r j := by
  unfold emR
  split
  · rw [rUp_ne (by omega)]
  · rfl
theorem emR_self {r : aRw} {f : Int} (h : 0 ≤ f ∧ f < 5) : emR r f (8 + f) = -4 := by
  unfold emR
  rw [if_pos h, rUp_eq]
theorem emR_off {r : aRw} (hw : WF r) {f q : Int} (hf : 0 ≤ f ∧ f < 5) (hq : 0 ≤ q) : off (emR r f) q = if q = r (8 + f) then -4 else off r q := by
  unfold emR
  rw [if_pos hf]
  exact off_empty hw hf.1 hf.2 hq
/-- who goes home holds no office -/
theorem emR_home {r : aRw} (hw : WF r) {p : Int} (h0 : 0 ≤ p) : off (emR r (nb (off r p))) p < 0 := by
  rcases off_cases r p with k | ⟨k1, k2, k3⟩
  · have e : nb (off r p) = -1 := by rw [k]; decide
    unfold emR
    rw [e, if_neg (by omega), k]
    decide
  · have e : nb (off r p) = off r p := by unfold nb; rw [if_neg (by omega)]
    rw [e, emR_off hw ⟨k1, k2⟩ h0, if_pos k3.symm]
    decide
theorem emR_keep {r : aRw} (hw : WF r) {f p : Int} (h0 : 0 ≤ p) (h : off r p < 0) : off (emR r f) p < 0 := by
  by_cases hf : 0 ≤ f ∧ f < 5
  · rw [emR_off hw hf h0]
    split
    · decide
    · exact h
  · unfold emR
    rw [if_neg hf]
    exact h
theorem hoR_wf {r : aRw} (hw : WF r) {f p : Int} (f0 : 0 ≤ f) (f1 : f < 5) (h0 : 0 ≤ p) (h1 : p < r 0) : WF (hoR r f p) := by
  have hw1 := emR_wf hw (nb (off r p))
  have hw2 := emR_wf hw1 f
  refine WF_hold hw2 f0 f1 h0 (by rw [emR_at (by omega), emR_at (by omega)]; exact h1) (fun g g0 g1 _ => off_neg (emR_keep hw1 h0 (emR_home hw h0)) g g0 g1)
set_option maxRecDepth 10000 in
theorem cC_install (l : Launch) (f p : Int) (c : Nat) (hc : c < 3) (σ : aS) (r : aRw) (hR : Rep σ c r) (hw : WF r) (f0 : 0 ≤ f) (f1 : f < 5) (h0 : 0 ≤ p) (h1 : p < r 0) : AM l 2 mX0_install [aR 1 c, aI f, aI p] σ (PQ c σ (hoR r f p) (σ 1 c 3)) := by
  have bn := hw.1
  have en := hR.n
  have bp := hw.pe (p := p) (by omega) (by omega)
  have rp := hR.pe (p := p) (by omega) (by omega)
  have bo := off_rng r p
  have no := nb_cases (off r p)
  have hw1 := emR_wf hw (nb (off r p))
  have hw2 := emR_wf hw1 f
  refine am_of (by decide) (Nat.le_of_ble_eq_true rfl) (L := [some (aR 1 c), some (aI f), some (aI p)]) rfl ?_
  refine aw_b kX0_ok bX0_install_0_ok (Cs := []) (pc' := 1) (L' := [some (aR 1 c), some (aI f), some (aI p)]) (st' := [aI f]) (σ' := σ) rfl trivial ?_
  refine aw_bN lX0_46 (as := [aI f]) (rest := []) (by decide) rfl (Nat.le_of_ble_eq_true rfl) rfl dX0_install_1 (cC_isOffice l f σ ⟨by omega, by omega⟩) (fun wh1 => ?_) (fun wh1 => ?_)
  · refine aw_ieq dX0_install_4 (tgt := 15) (by decide) ⟨by omega, by omega⟩ (fun wh2 => absurd wh2 (by decide)) (fun wh2 => ?_)
    refine aw_b kX0_ok bX0_install_7_ok (Cs := []) (pc' := 9) (L' := [some (aR 1 c), some (aI f), some (aI p)]) (st' := [aI p, aR 1 c]) (σ' := σ) rfl trivial ?_
    refine aw_bV lX0_50 (as := [aI p]) (rest := []) (t := 1) (c := c) (by decide) (by decide) (show c < 3 by omega) rfl rfl (Nat.le_of_ble_eq_true rfl) rfl dX0_install_9 (cC_isThere l p c (by omega) σ r hR hw ⟨by omega, by omega⟩) (fun wh3 => ?_) (fun wh3 => ?_)
    · refine aw_ine dX0_install_12 (tgt := 16) (by decide) ⟨by omega, by omega⟩ (fun wh4 => ?_) (fun wh4 => absurd wh4 (by decide))
      refine aw_b kX0_ok bX0_install_16_ok (Cs := [c < 3, c < 3, 0 ≤ p ∧ p < 8]) (pc' := 23) (L' := [some (aR 1 c), some (aI f), some (aI p)]) (st' := [aI (σ 6 c p), aR 1 c]) (σ' := σ) rfl (show (c < 3) ∧ (c < 3) ∧ (0 ≤ p ∧ p < 8) from ⟨by omega, by omega, by omega⟩) ?_
      refine aw_callV lX0_53 (as := [aI (σ 6 c p)]) (rest := []) (t := 1) (c := c) (by decide) (by decide) (show c < 3 by omega) rfl rfl (Nat.le_of_ble_eq_true rfl) rfl dX0_install_23 (cC_vacate l (σ 6 c p) c hc σ r hR hw ⟨by omega, by omega⟩) ?_
      rintro _ τ1 ⟨rfl, hR1, hF1, h31⟩
      rw [rp.2.2.2.2] at hR1
      refine aw_b kX0_ok bX0_install_26_ok (Cs := []) (pc' := 28) (L' := [some (aR 1 c), some (aI f), some (aI p)]) (st' := [aI f, aR 1 c]) (σ' := τ1) rfl trivial ?_
      refine aw_callV lX0_53 (as := [aI f]) (rest := []) (t := 1) (c := c) (by decide) (by decide) (show c < 3 by omega) rfl rfl (Nat.le_of_ble_eq_true rfl) rfl dX0_install_28 (cC_vacate l f c hc τ1 (emR r (nb (off r p))) hR1 hw1 ⟨by omega, by omega⟩) ?_
      rintro _ τ2 ⟨rfl, hR2, hF2, h32⟩
      refine aw_b kX0_ok bX0_install_31_ok (Cs := [c < 3, c < 3, 0 ≤ f ∧ f < 5, c < 3, c < 3, 0 ≤ p ∧ p < 8]) (pc' := 45) (L' := [some (aR 1 c), some (aI f), some (aI p)]) (st' := []) (σ' := aUp (aUp τ2 8 c f p) 6 c p f) rfl (show (c < 3) ∧ (c < 3) ∧ (0 ≤ f ∧ f < 5) ∧ (c < 3) ∧ (c < 3) ∧ (0 ≤ p ∧ p < 8) from ⟨by omega, by omega, by omega, by omega, by omega, by omega⟩) ?_
      exact aw_vret dX0_install_45 rfl ⟨rfl, by unfold hoR; exact Rep_ho hR2 hw2 f0 f1 h0 (by rw [emR_at (by omega), emR_at (by omega)]; exact h1) (by rw [emR_self ⟨f0, f1⟩]; decide) (emR_keep hw1 h0 (emR_home hw h0)), aFr_tr (aFr_tr hF1 hF2) (aFr_tr (aFr_up (cb (by decide))) (aFr_up (cb (by decide)))), by rw [aUp_tag (by decide), aUp_tag (by decide), h32, h31]⟩
    · exfalso; omega
  · exfalso; omega
