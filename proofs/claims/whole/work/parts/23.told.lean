/-! ===== the class: told lists ===== -/
/-- the same shelves -/
def shE (σ0 σ : aS) : Prop := ∀ (t : Nat) (i : Int), 10 ≤ t → t ≤ 15 → σ t 0 i = σ0 t 0 i
theorem shE_rf {σ : aS} : shE σ σ := fun _ _ _ _ => rfl
theorem shE_fr {σ0 σ σ' : aS} (h : shE σ0 σ) (h2 : aFr CScr σ σ') : shE σ0 σ' := fun t i h0 h1 => (h2 t 0 i (fun q => by rcases q with q | q <;> omega)).trans (h t i h0 h1)
theorem SH.eq {σ0 σ : aS} (hs : SH σ0) (h : shE σ0 σ) : SH σ := by
  refine ⟨fun d h0 h1 => ?_, fun i h0 h1 => ?_⟩
  · rw [h 10 d (by decide) (by decide), h 11 d (by decide) (by decide), h 12 d (by decide) (by decide), h 13 d (by decide) (by decide), h 14 d (by decide) (by decide)]
    exact hs.1 d h0 h1
  · rw [h 15 i (by decide) (by decide)]
    exact hs.2 i h0 h1
theorem vaF_eq {σ0 σ : aS} (h : shE σ0 σ) (d i : Int) : vaF σ d i = vaF σ0 d i := by
  unfold vaF
  rw [h 14 d (by decide) (by decide), h 15 _ (by decide) (by decide)]
/-- the first day on which it isn't as told -/
def fuF (E : Int → Int) (m : Int) (g : Nat → Int) : Nat → Nat → Int
  | 0, _ => -4
  | k + 1, i => if E i = m ∨ E i = g i then fuF E m g k (i + 1) else (i : Int)
theorem fuF_rng (E : Int → Int) (m : Int) (g : Nat → Int) : ∀ k i : Nat, -4 ≤ fuF E m g k i ∧ fuF E m g k i ≤ i + k
  | 0, i => ⟨Int.le_refl _, by show (-4 : Int) ≤ _; omega⟩
  | k + 1, i => by
    have h := fuF_rng E m g k (i + 1)
    rw [fuF]
    split <;> omega
def mzR (w q : Int) (r : aRw) : Int := if w = 0 then (if 0 ≤ q ∧ q < r 0 then r (aOf q 2) else 0) else if w = 1 then (if (0 ≤ q ∧ q < 5) ∧ 0 ≤ r (8 + q) then 1 else 0) else hcR r
def mzD (w q : Int) (r : aRw) : Nat → Int := fun i => mzR w q (dysR r i)
theorem mzR_rng {r : aRw} (hw : WF r) (w q : Int) : 0 ≤ mzR w q r ∧ mzR w q r ≤ 99 := by
  have b := hcR_rng r
  unfold mzR
  split
  · split
    · rename_i h; have := hw.pe h.1 h.2; omega
    · omega
  · split
    · split <;> omega
    · omega
set_option maxRecDepth 10000 in
theorem cC_measured (l : Launch) (w q : Int) (σ : aS) (r : aRw) (hR : Rep σ 1 r) (hw : WF r) (hv : 0 ≤ w ∧ w ≤ 2) (hq : aIr q) : AM l 2 mX6_measured [aR 0 0, aI w, aI q] σ (aF (some (aI (mzR w q r))) σ) := by
  have bn := hw.1
  have en := hR.n
  refine am_of (by decide) (Nat.le_of_ble_eq_true rfl) (L := [some (aR 0 0), some (aI w), some (aI q)]) rfl ?_
  refine aw_b kX6_ok bX6_measured_0_ok (Cs := []) (pc' := 1) (L' := [some (aR 0 0), some (aI w), some (aI q)]) (st' := [aI w]) (σ' := σ) rfl trivial ?_
  rcases (show w = 0 ∨ w = 1 ∨ (¬ w = 0 ∧ ¬ w = 1) by omega) with wh1 | wh1 | wh1
  · refine aw_lsw dX6_measured_1 (tgt := 28) (by decide +kernel) ⟨by omega, by omega⟩ (off := 27) (by rw [wh1]; decide +kernel) (by decide) ?_
    refine aw_b kX6_ok bX6_measured_28_ok (Cs := [0 < 1]) (pc' := 33) (L' := [some (aR 0 0), some (aI w), some (aI q)]) (st' := [aI q, aR 1 1]) (σ' := σ) rfl (show 0 < 1 from by omega) ?_
    refine aw_bV lX6_76 (as := [aI q]) (rest := []) (t := 1) (c := 1) (by decide) (by decide) (by decide) rfl rfl (Nat.le_of_ble_eq_true rfl) rfl dX6_measured_33 (cC_isThere l q 1 (by decide) σ r hR hw hq) (fun wh2 => ?_) (fun wh2 => ?_)
    · have bp := hw.pe (p := q) (by omega) (by omega)
      have rp := hR.pe (p := q) (by omega) (by omega)
      have bo := off_rng r q
      have no := nb_cases (off r q)
      refine aw_ieq dX6_measured_36 (tgt := 51) (by decide) ⟨by omega, by omega⟩ (fun wh3 => absurd wh3 (by decide)) (fun wh3 => ?_)
      refine aw_b kX6_ok bX6_measured_39_ok (Cs := [0 < 1, 1 < 3, 1 < 3, 0 ≤ q ∧ q < 8]) (pc' := 52) (L' := [some (aR 0 0), some (aI w), some (aI q)]) (st' := [aI (σ 4 1 q)]) (σ' := σ) rfl (show (0 < 1) ∧ (1 < 3) ∧ (1 < 3) ∧ (0 ≤ q ∧ q < 8) from ⟨by omega, by omega, by omega, by omega⟩) ?_
      exact aw_iret dX6_measured_52 rfl ⟨aret (by unfold mzR; (repeat' split) <;> first | omega | rfl), rfl⟩
    · refine aw_ieq dX6_measured_36 (tgt := 51) (by decide) ⟨by omega, by omega⟩ (fun wh4 => ?_) (fun wh4 => absurd wh4 (by decide))
      refine aw_b kX6_ok bX6_measured_51_ok (Cs := []) (pc' := 52) (L' := [some (aR 0 0), some (aI w), some (aI q)]) (st' := [aI 0]) (σ' := σ) rfl trivial ?_
      exact aw_iret dX6_measured_52 rfl ⟨aret (by unfold mzR; (repeat' split) <;> first | omega | rfl), rfl⟩
  · refine aw_lsw dX6_measured_1 (tgt := 53) (by decide +kernel) ⟨by omega, by omega⟩ (off := 52) (by rw [wh1]; decide +kernel) (by decide) ?_
    refine aw_b kX6_ok bX6_measured_53_ok (Cs := []) (pc' := 54) (L' := [some (aR 0 0), some (aI w), some (aI q)]) (st' := [aI q]) (σ' := σ) rfl trivial ?_
    refine aw_bS lX6_109 (as := [aI q]) (rest := []) (by decide) rfl (Nat.le_of_ble_eq_true rfl) rfl dX6_measured_54 (cC_isOffice l q σ ⟨by omega, by omega⟩) (fun wh5 => ?_) (fun wh5 => ?_)
    · have bc := hw.co (f := q) (by omega) (by omega)
      have bh := hw.ho (f := q) (by omega) (by omega)
      have ro := hR.of (f := q) (by omega) (by omega)
      have nh := nb_cases (r (8 + q))
      refine aw_ieq dX6_measured_57 (tgt := 77) (by decide) ⟨by omega, by omega⟩ (fun wh6 => absurd wh6 (by decide)) (fun wh6 => ?_)
      refine aw_b kX6_ok bX6_measured_60_ok (Cs := [0 < 1, 1 < 3, 1 < 3, 0 ≤ q ∧ q < 5]) (pc' := 70) (L' := [some (aR 0 0), some (aI w), some (aI q)]) (st' := [aI (-1), aI (σ 8 1 q)]) (σ' := σ) rfl (show (0 < 1) ∧ (1 < 3) ∧ (1 < 3) ∧ (0 ≤ q ∧ q < 5) from ⟨by omega, by omega, by omega, by omega⟩) ?_
      refine aw_ceq dX6_measured_70 (tgt := 77) (by decide) ⟨by omega, by omega⟩ ⟨by omega, by omega⟩ (fun wh7 => ?_) (fun wh7 => ?_)
      · refine aw_b kX6_ok bX6_measured_77_ok (Cs := []) (pc' := 78) (L' := [some (aR 0 0), some (aI w), some (aI q)]) (st' := [aI 0]) (σ' := σ) rfl trivial ?_
        exact aw_iret dX6_measured_78 rfl ⟨aret (by unfold mzR; (repeat' split) <;> first | omega | rfl), rfl⟩
      · refine aw_b kX6_ok bX6_measured_73_ok (Cs := []) (pc' := 78) (L' := [some (aR 0 0), some (aI w), some (aI q)]) (st' := [aI 1]) (σ' := σ) rfl trivial ?_
        exact aw_iret dX6_measured_78 rfl ⟨aret (by unfold mzR; (repeat' split) <;> first | omega | rfl), rfl⟩
    · refine aw_ieq dX6_measured_57 (tgt := 77) (by decide) ⟨by omega, by omega⟩ (fun wh8 => ?_) (fun wh8 => absurd wh8 (by decide))
      refine aw_b kX6_ok bX6_measured_77_ok (Cs := []) (pc' := 78) (L' := [some (aR 0 0), some (aI w), some (aI q)]) (st' := [aI 0]) (σ' := σ) rfl trivial ?_
      exact aw_iret dX6_measured_78 rfl ⟨aret (by unfold mzR; (repeat' split) <;> first | omega | rfl), rfl⟩
  · refine aw_lsw dX6_measured_1 (tgt := 79) (by decide +kernel) ⟨by omega, by omega⟩ (off := 78) (by simp [Op.lookupswitch.offset, List.find?, wh1, eq_comm]) (by decide) ?_
    refine aw_b kX6_ok bX6_measured_79_ok (Cs := [0 < 1]) (pc' := 83) (L' := [some (aR 0 0), some (aI w), some (aI q)]) (st' := [aR 1 1]) (σ' := σ) rfl (show 0 < 1 from by omega) ?_
    refine aw_fV lX6_205 (as := []) (rest := []) (t := 1) (c := 1) (by decide) (by decide) (by decide) rfl rfl (Nat.le_of_ble_eq_true rfl) rfl dX6_measured_83 (cC_heldCount l 1 (by decide) σ r hR hw) ?_
    have bhc := hcR_rng r
    exact aw_iret dX6_measured_86 rfl ⟨aret (by unfold mzR; (repeat' split) <;> first | omega | rfl), rfl⟩
set_option maxRecDepth 10000 in
theorem cC_firstUnlike (l : Launch) (d w q : Int) (σ0 σ : aS) (hs : SH σ0) (hsh : shE σ0 σ) (r : aRw) (hR : Rep σ 1 r) (hw : WF r) (hd : r 1 ≤ 9999) (h0 : 0 ≤ d) (h1 : d < 8) (hv : 0 ≤ w ∧ w ≤ 2) (hq : aIr q) : AM l 5 mX6_firstUnlike [aR 0 0, aI d, aI w, aI q] σ (QC (fuF (vaF σ0 d) (leF (σ0 13 0 d)) (mzD w q r) (σ0 14 0 d).toNat 0) σ) := by
  have bn := hw.1
  have en := hR.n
  have b1 := hw.2.1
  have e1 := hR.1.2.1
  have b2 := hw.2.2.1
  have e2 := hR.1.2.2
  have hs1 := hs.eq hsh
  have bs := hs.1 d h0 h1
  have es := hsh 14 d (by decide) (by decide)
  refine am_of (by decide) (Nat.le_of_ble_eq_true rfl) (L := [some (aR 0 0), some (aI d), some (aI w), some (aI q), none, none]) rfl ?_
  refine aw_b kX6_ok bX6_firstUnlike_0_ok (Cs := [0 < 1]) (pc' := 5) (L' := [some (aR 0 0), some (aI d), some (aI w), some (aI q), none, none]) (st' := [aI d, aR 9 0]) (σ' := σ) rfl (show 0 < 1 from by omega) ?_
  refine aw_fV lX6_245 (as := [aI d]) (rest := []) (t := 9) (c := 0) (by decide) (by decide) (by decide) rfl rfl (Nat.le_of_ble_eq_true rfl) rfl dX6_firstUnlike_5 (cS_lengthOf l d σ hs1 h0 h1) ?_
  refine aw_b kX6_ok bX6_firstUnlike_8_ok (Cs := []) (pc' := 13) (L' := [some (aR 0 0), some (aI d), some (aI w), some (aI q), some (aI (σ 14 0 d)), some (aI 0)]) (st' := []) (σ' := σ) rfl trivial ?_
  refine aloop (P := fun n : Nat => ∀ (ρ : aS) (hQ : Rep ρ 1 (dysR r (n - 1))) (hG : aFr (Cb 1) σ ρ) (hA : fuF (vaF σ0 d) (leF (σ0 13 0 d)) (mzD w q r) (σ0 14 0 d).toNat 0 = fuF (vaF σ0 d) (leF (σ0 13 0 d)) (mzD w q r) ((σ0 14 0 d).toNat - n) n), AW l 5 mX6_firstUnlike _ 13 [some (aR 0 0), some (aI d), some (aI w), some (aI q), some (aI (σ 14 0 d)), some (aI (n : Int))] [] ρ) ((σ0 14 0 d).toNat) (fun n hn ihn ρ hQ hG hA => ?_) σ hR aFr_rf rfl
  refine aw_b kX6_ok bX6_firstUnlike_13_ok (Cs := []) (pc' := 17) (L' := [some (aR 0 0), some (aI d), some (aI w), some (aI q), some (aI (σ 14 0 d)), some (aI (n : Int))]) (st' := [aI (σ 14 0 d), aI (n : Int)]) (σ' := ρ) rfl trivial ?_
  refine aw_cge dX6_firstUnlike_17 (tgt := 73) (by decide) ⟨by omega, by omega⟩ ⟨by omega, by omega⟩ (fun wh1 => ?_) (fun wh1 => ?_)
  · refine aw_b kX6_ok bX6_firstUnlike_73_ok (Cs := []) (pc' := 75) (L' := [some (aR 0 0), some (aI d), some (aI w), some (aI q), some (aI (σ 14 0 d)), some (aI (n : Int))]) (st' := [aI (-4)]) (σ' := ρ) rfl trivial ?_
    exact aw_iret dX6_firstUnlike_75 rfl ⟨aret (by rw [hA, show (σ0 14 0 d).toNat - n = 0 by omega]; rfl), aFrC hG⟩
  · refine aw_b kX6_ok bX6_firstUnlike_20_ok (Cs := []) (pc' := 22) (L' := [some (aR 0 0), some (aI d), some (aI w), some (aI q), some (aI (σ 14 0 d)), some (aI (n : Int))]) (st' := [aI (n : Int)]) (σ' := ρ) rfl trivial ?_
    refine aw_ile dX6_firstUnlike_22 (tgt := 32) (by decide) ⟨by omega, by omega⟩ (fun wh2 => ?_) (fun wh2 => ?_)
    · have hQn : Rep ρ 1 (dysR r n) := by have z := hQ; rw [show n - 1 = n by omega] at z; exact z
      have hGn := hG
      have hsn := shE_fr hsh (aFrC hGn)
      have hsS := hs.eq hsn
      have ev := vaF_eq hsn d (n : Int)
      have el : leF (ρ 13 0 d) = leF (σ0 13 0 d) := by rw [hsn 13 d (by decide) (by decide)]
      have hwn := dysR_wf hw n
      have bva := vaF_rng hs (i := (n : Int)) h0 h1
      have hg : mzD w q r n = mzR w q (dysR r n) := rfl
      have hB : fuF (vaF σ0 d) (leF (σ0 13 0 d)) (mzD w q r) (σ0 14 0 d).toNat 0 = (if vaF σ0 d (n : Int) = leF (σ0 13 0 d) ∨ vaF σ0 d (n : Int) = mzD w q r n then fuF (vaF σ0 d) (leF (σ0 13 0 d)) (mzD w q r) ((σ0 14 0 d).toNat - (n + 1)) (n + 1) else (n : Int)) := by
        rw [hA, show (σ0 14 0 d).toNat - n = ((σ0 14 0 d).toNat - (n + 1)) + 1 by omega]; rfl
      refine aw_b kX6_ok bX6_firstUnlike_32_ok (Cs := [0 < 1]) (pc' := 39) (L' := [some (aR 0 0), some (aI d), some (aI w), some (aI q), some (aI (σ 14 0 d)), some (aI (n : Int))]) (st' := [aI (n : Int), aI d, aR 9 0]) (σ' := ρ) rfl (show 0 < 1 from by omega) ?_
      refine aw_bV lX6_315 (as := [aI d, aI (n : Int)]) (rest := []) (t := 9) (c := 0) (by decide) (by decide) (by decide) rfl rfl (Nat.le_of_ble_eq_true rfl) rfl dX6_firstUnlike_39 (cS_isSkipped l d (n : Int) ρ hsS h0 h1 ⟨by omega, by omega⟩) (fun wh3 => ?_) (fun wh3 => ?_)
      · refine aw_ine dX6_firstUnlike_42 (tgt := 67) (by decide) ⟨by omega, by omega⟩ (fun wh4 => ?_) (fun wh4 => absurd wh4 (by decide))
        refine aw_b kX6_ok bX6_firstUnlike_67_ok (Cs := []) (pc' := 13) (L' := [some (aR 0 0), some (aI d), some (aI w), some (aI q), some (aI (σ 14 0 d)), some (aI ((n : Int) + 1))]) (st' := []) (σ' := ρ) rfl trivial ?_
        exact ihn (by omega) ρ hQn hGn (hB.trans (if_pos (by omega)))
      · refine aw_ine dX6_firstUnlike_42 (tgt := 67) (by decide) ⟨by omega, by omega⟩ (fun wh5 => absurd wh5 (by decide)) (fun wh5 => ?_)
        refine aw_b kX6_ok bX6_firstUnlike_45_ok (Cs := [0 < 1]) (pc' := 52) (L' := [some (aR 0 0), some (aI d), some (aI w), some (aI q), some (aI (σ 14 0 d)), some (aI (n : Int))]) (st' := [aI (n : Int), aI d, aR 9 0]) (σ' := ρ) rfl (show 0 < 1 from by omega) ?_
        refine aw_fV lX6_248 (as := [aI d, aI (n : Int)]) (rest := []) (t := 9) (c := 0) (by decide) (by decide) (by decide) rfl rfl (Nat.le_of_ble_eq_true rfl) rfl dX6_firstUnlike_52 (cS_valueAt l d (n : Int) ρ hsS h0 h1 ⟨by omega, by omega⟩) ?_
        refine aw_b kX6_ok bX6_firstUnlike_55_ok (Cs := []) (pc' := 58) (L' := [some (aR 0 0), some (aI d), some (aI w), some (aI q), some (aI (σ 14 0 d)), some (aI (n : Int))]) (st' := [aI q, aI w, aR 0 0, aI (vaF ρ d (n : Int))]) (σ' := ρ) rfl trivial ?_
        refine aw_fV lX6_318 (as := [aI w, aI q]) (rest := [aI (vaF ρ d (n : Int))]) (t := 0) (c := 0) (by decide) (by decide) (by decide) rfl rfl (Nat.le_of_ble_eq_true rfl) rfl dX6_firstUnlike_58 (cC_measured l w q ρ _ hQn hwn hv hq) ?_
        have bmz := mzR_rng hwn w q
        refine aw_ceq dX6_firstUnlike_61 (tgt := 67) (by decide) ⟨by omega, by omega⟩ ⟨by omega, by omega⟩ (fun wh6 => ?_) (fun wh6 => ?_)
        · refine aw_b kX6_ok bX6_firstUnlike_67_ok (Cs := []) (pc' := 13) (L' := [some (aR 0 0), some (aI d), some (aI w), some (aI q), some (aI (σ 14 0 d)), some (aI ((n : Int) + 1))]) (st' := []) (σ' := ρ) rfl trivial ?_
          exact ihn (by omega) ρ hQn hGn (hB.trans (if_pos (by omega)))
        · refine aw_b kX6_ok bX6_firstUnlike_64_ok (Cs := []) (pc' := 66) (L' := [some (aR 0 0), some (aI d), some (aI w), some (aI q), some (aI (σ 14 0 d)), some (aI (n : Int))]) (st' := [aI (n : Int)]) (σ' := ρ) rfl trivial ?_
          exact aw_iret dX6_firstUnlike_66 rfl ⟨aret (hB.trans (if_neg (by omega))).symm, aFrC hGn⟩
    · refine aw_b kX6_ok bX6_firstUnlike_25_ok (Cs := [0 < 1]) (pc' := 29) (L' := [some (aR 0 0), some (aI d), some (aI w), some (aI q), some (aI (σ 14 0 d)), some (aI (n : Int))]) (st' := [aR 1 1]) (σ' := ρ) rfl (show 0 < 1 from by omega) ?_
      have eD := dysR_0 r (n - 1)
      refine aw_callV lX6_178 (as := []) (rest := []) (t := 1) (c := 1) (by decide) (by decide) (by decide) rfl rfl (Nat.le_of_ble_eq_true rfl) rfl dX6_firstUnlike_29 (cC_oneDay l 1 (by decide) ρ (dysR r (n - 1)) hQ (dysR_wf hw _) (by omega)) ?_
      rintro _ τ9 ⟨rfl, hT9, hF9, h39⟩
      have hQn : Rep τ9 1 (dysR r n) := by have z : Rep τ9 1 (dysR r (n - 1 + 1)) := hT9; rw [show n - 1 + 1 = n by omega] at z; exact z
      have hGn := aFr_tr hG hF9
      have hsn := shE_fr hsh (aFrC hGn)
      have hsS := hs.eq hsn
      have ev := vaF_eq hsn d (n : Int)
      have el : leF (τ9 13 0 d) = leF (σ0 13 0 d) := by rw [hsn 13 d (by decide) (by decide)]
      have hwn := dysR_wf hw n
      have bva := vaF_rng hs (i := (n : Int)) h0 h1
      have hg : mzD w q r n = mzR w q (dysR r n) := rfl
      have hB : fuF (vaF σ0 d) (leF (σ0 13 0 d)) (mzD w q r) (σ0 14 0 d).toNat 0 = (if vaF σ0 d (n : Int) = leF (σ0 13 0 d) ∨ vaF σ0 d (n : Int) = mzD w q r n then fuF (vaF σ0 d) (leF (σ0 13 0 d)) (mzD w q r) ((σ0 14 0 d).toNat - (n + 1)) (n + 1) else (n : Int)) := by
        rw [hA, show (σ0 14 0 d).toNat - n = ((σ0 14 0 d).toNat - (n + 1)) + 1 by omega]; rfl
      refine aw_b kX6_ok bX6_firstUnlike_32_ok (Cs := [0 < 1]) (pc' := 39) (L' := [some (aR 0 0), some (aI d), some (aI w), some (aI q), some (aI (σ 14 0 d)), some (aI (n : Int))]) (st' := [aI (n : Int), aI d, aR 9 0]) (σ' := τ9) rfl (show 0 < 1 from by omega) ?_
      refine aw_bV lX6_315 (as := [aI d, aI (n : Int)]) (rest := []) (t := 9) (c := 0) (by decide) (by decide) (by decide) rfl rfl (Nat.le_of_ble_eq_true rfl) rfl dX6_firstUnlike_39 (cS_isSkipped l d (n : Int) τ9 hsS h0 h1 ⟨by omega, by omega⟩) (fun wh7 => ?_) (fun wh7 => ?_)
      · refine aw_ine dX6_firstUnlike_42 (tgt := 67) (by decide) ⟨by omega, by omega⟩ (fun wh8 => ?_) (fun wh8 => absurd wh8 (by decide))
        refine aw_b kX6_ok bX6_firstUnlike_67_ok (Cs := []) (pc' := 13) (L' := [some (aR 0 0), some (aI d), some (aI w), some (aI q), some (aI (σ 14 0 d)), some (aI ((n : Int) + 1))]) (st' := []) (σ' := τ9) rfl trivial ?_
        exact ihn (by omega) τ9 hQn hGn (hB.trans (if_pos (by omega)))
      · refine aw_ine dX6_firstUnlike_42 (tgt := 67) (by decide) ⟨by omega, by omega⟩ (fun wh9 => absurd wh9 (by decide)) (fun wh9 => ?_)
        refine aw_b kX6_ok bX6_firstUnlike_45_ok (Cs := [0 < 1]) (pc' := 52) (L' := [some (aR 0 0), some (aI d), some (aI w), some (aI q), some (aI (σ 14 0 d)), some (aI (n : Int))]) (st' := [aI (n : Int), aI d, aR 9 0]) (σ' := τ9) rfl (show 0 < 1 from by omega) ?_
        refine aw_fV lX6_248 (as := [aI d, aI (n : Int)]) (rest := []) (t := 9) (c := 0) (by decide) (by decide) (by decide) rfl rfl (Nat.le_of_ble_eq_true rfl) rfl dX6_firstUnlike_52 (cS_valueAt l d (n : Int) τ9 hsS h0 h1 ⟨by omega, by omega⟩) ?_
        refine aw_b kX6_ok bX6_firstUnlike_55_ok (Cs := []) (pc' := 58) (L' := [some (aR 0 0), some (aI d), some (aI w), some (aI q), some (aI (σ 14 0 d)), some (aI (n : Int))]) (st' := [aI q, aI w, aR 0 0, aI (vaF τ9 d (n : Int))]) (σ' := τ9) rfl trivial ?_
        refine aw_fV lX6_318 (as := [aI w, aI q]) (rest := [aI (vaF τ9 d (n : Int))]) (t := 0) (c := 0) (by decide) (by decide) (by decide) rfl rfl (Nat.le_of_ble_eq_true rfl) rfl dX6_firstUnlike_58 (cC_measured l w q τ9 _ hQn hwn hv hq) ?_
        have bmz := mzR_rng hwn w q
        refine aw_ceq dX6_firstUnlike_61 (tgt := 67) (by decide) ⟨by omega, by omega⟩ ⟨by omega, by omega⟩ (fun wh10 => ?_) (fun wh10 => ?_)
        · refine aw_b kX6_ok bX6_firstUnlike_67_ok (Cs := []) (pc' := 13) (L' := [some (aR 0 0), some (aI d), some (aI w), some (aI q), some (aI (σ 14 0 d)), some (aI ((n : Int) + 1))]) (st' := []) (σ' := τ9) rfl trivial ?_
          exact ihn (by omega) τ9 hQn hGn (hB.trans (if_pos (by omega)))
        · refine aw_b kX6_ok bX6_firstUnlike_64_ok (Cs := []) (pc' := 66) (L' := [some (aR 0 0), some (aI d), some (aI w), some (aI q), some (aI (σ 14 0 d)), some (aI (n : Int))]) (st' := [aI (n : Int)]) (σ' := τ9) rfl trivial ?_
          exact aw_iret dX6_firstUnlike_66 rfl ⟨aret (hB.trans (if_neg (by omega))).symm, aFrC hGn⟩
def A_judge (r : aRw) (E : Int → Int) (ct so ln d : Int) : Int := if lkF ct d 2 = 0 then fuF E (leF so) (mzD 2 0 r) ln.toNat 0 else lkF ct d 2
set_option maxRecDepth 10000 in
theorem cC_judge (l : Launch) (d : Int) (σ : aS) (r : aRw) (hR : Rep σ 0 r) (hw : WF r) (hd : r 1 ≤ 999) (hs : SH σ) (hd2 : aIr d) : AM l 6 mX6_judge [aR 0 0, aI d] σ (QC (A_judge r (vaF σ d) (σ 10 0 d) (σ 13 0 d) (σ 14 0 d) d) σ) := by
  have bn := hw.1
  have en := hR.n
  have b1 := hw.2.1
  have e1 := hR.1.2.1
  have b2 := hw.2.2.1
  have e2 := hR.1.2.2
  refine am_of (by decide) (Nat.le_of_ble_eq_true rfl) (L := [some (aR 0 0), some (aI d), none]) rfl ?_
  refine aw_b kX6_ok bX6_judge_0_ok (Cs := [0 < 1]) (pc' := 5) (L' := [some (aR 0 0), some (aI d), none]) (st' := [aI d, aR 9 0]) (σ' := σ) rfl (show 0 < 1 from by omega) ?_
  refine aw_fV lX6_54 (as := [aI d]) (rest := []) (t := 9) (c := 0) (by decide) (by decide) (by decide) rfl rfl (Nat.le_of_ble_eq_true rfl) rfl dX6_judge_5 (cS_lackOfRow l d σ hs ⟨by omega, by omega⟩) ?_
  have blk := lkF_rng (σ 10 0 d) d 2
  refine aw_b kX6_ok bX6_judge_8_ok (Cs := []) (pc' := 10) (L' := [some (aR 0 0), some (aI d), some (aI (lkF (σ 10 0 d) d 2))]) (st' := [aI (lkF (σ 10 0 d) d 2)]) (σ' := σ) rfl trivial ?_
  refine aw_ieq dX6_judge_10 (tgt := 15) (by decide) ⟨by omega, by omega⟩ (fun wh1 => ?_) (fun wh1 => ?_)
  · have hl := lkF_d (show lkF (σ 10 0 d) d 2 = 0 by omega)
    have bs := hs.1 d hl.1.1 hl.1.2
    have bf := fuF_rng (vaF σ d) (leF (σ 13 0 d)) (mzD 2 0 r) (σ 14 0 d).toNat 0
    refine aw_b kX6_ok bX6_judge_15_ok (Cs := [0 < 1, 0 < 1]) (pc' := 23) (L' := [some (aR 0 0), some (aI d), some (aI (lkF (σ 10 0 d) d 2))]) (st' := [aR 1 0, aR 1 1]) (σ' := σ) rfl (show (0 < 1) ∧ (0 < 1) from ⟨by omega, by omega⟩) ?_
    refine aw_callV lX6_68 (as := [aR 1 0]) (rest := []) (t := 1) (c := 1) (by decide) (by decide) (by decide) rfl rfl (Nat.le_of_ble_eq_true rfl) rfl dX6_judge_23 (cC_becomes l 0 1 (by decide) (by decide) (by decide) σ r hR hw) ?_
    rintro _ τ1 ⟨rfl, hT1, hF1⟩
    refine aw_b kX6_ok bX6_judge_26_ok (Cs := []) (pc' := 30) (L' := [some (aR 0 0), some (aI d), some (aI (lkF (σ 10 0 d) d 2))]) (st' := [aI 0, aI 2, aI d, aR 0 0]) (σ' := τ1) rfl trivial ?_
    refine aw_callV lX6_221 (as := [aI d, aI 2, aI 0]) (rest := []) (t := 0) (c := 0) (by decide) (by decide) (by decide) rfl rfl (Nat.le_of_ble_eq_true rfl) rfl dX6_judge_30 (cC_firstUnlike l d 2 0 σ τ1 hs (shE_fr shE_rf (aFrC hF1)) r hT1 hw (by omega) (by omega) (by omega) (by decide) (by decide)) ?_
    rintro _ τ2 ⟨rfl, hF2⟩
    exact aw_iret dX6_judge_33 rfl ⟨aret (by unfold A_judge; rw [if_pos (by omega)]), aFr_tr (aFrC hF1) hF2⟩
  · refine aw_b kX6_ok bX6_judge_13_ok (Cs := []) (pc' := 14) (L' := [some (aR 0 0), some (aI d), some (aI (lkF (σ 10 0 d) d 2))]) (st' := [aI (lkF (σ 10 0 d) d 2)]) (σ' := σ) rfl trivial ?_
    exact aw_iret dX6_judge_14 rfl ⟨aret (by unfold A_judge; rw [if_neg (by omega)]), aFr_rf⟩
def toF (r : aRw) (f : Int) : Int := if (0 ≤ f ∧ f < 5) ∧ 0 ≤ r (8 + f) then r (8 + f) else 9
def fgF (E : Int → Int) (r : aRw) : Nat → Nat → Int
  | 0, _ => -4
  | k + 1, i => if (i : Int) < 5 ∧ E i = toF r i then fgF E r k (i + 1) else (i : Int)
theorem fgF_rng (E : Int → Int) (r : aRw) : ∀ k i : Nat, -4 ≤ fgF E r k i ∧ fgF E r k i ≤ i + k
  | 0, i => ⟨Int.le_refl _, by show (-4 : Int) ≤ _; omega⟩
  | k + 1, i => by
    have h := fgF_rng E r k (i + 1)
    rw [fgF]
    split <;> omega
def A_forged (r : aRw) (E : Int → Int) (ct ln d : Int) : Int := if lkF ct d 2 = 0 then fgF E r ln.toNat 0 else lkF ct d 2
set_option maxRecDepth 10000 in
theorem cC_holderAsTold (l : Launch) (f : Int) (σ : aS) (r : aRw) (hR : Rep σ 0 r) (hw : WF r) (hd : r 1 ≤ 999) (hf : aIr f) : AM l 1 mX6_holderAsTold [aR 0 0, aI f] σ (aF (some (aI (toF r f))) σ) := by
  have bn := hw.1
  have en := hR.n
  have b1 := hw.2.1
  have e1 := hR.1.2.1
  have b2 := hw.2.2.1
  have e2 := hR.1.2.2
  refine am_of (by decide) (Nat.le_of_ble_eq_true rfl) (L := [some (aR 0 0), some (aI f)]) rfl ?_
  refine aw_b kX6_ok bX6_holderAsTold_0_ok (Cs := []) (pc' := 1) (L' := [some (aR 0 0), some (aI f)]) (st' := [aI f]) (σ' := σ) rfl trivial ?_
  refine aw_bS lX6_109 (as := [aI f]) (rest := []) (by decide) rfl (Nat.le_of_ble_eq_true rfl) rfl dX6_holderAsTold_1 (cC_isOffice l f σ ⟨by omega, by omega⟩) (fun wh1 => ?_) (fun wh1 => ?_)
  · have bc := hw.co (f := f) (by omega) (by omega)
    have bh := hw.ho (f := f) (by omega) (by omega)
    have ro := hR.of (f := f) (by omega) (by omega)
    have nh := nb_cases (r (8 + f))
    refine aw_ieq dX6_holderAsTold_4 (tgt := 20) (by decide) ⟨by omega, by omega⟩ (fun wh2 => absurd wh2 (by decide)) (fun wh2 => ?_)
    refine aw_b kX6_ok bX6_holderAsTold_7_ok (Cs := [0 < 1, 0 < 3, 0 < 3, 0 ≤ f ∧ f < 5]) (pc' := 17) (L' := [some (aR 0 0), some (aI f)]) (st' := [aI (-1), aI (σ 8 0 f)]) (σ' := σ) rfl (show (0 < 1) ∧ (0 < 3) ∧ (0 < 3) ∧ (0 ≤ f ∧ f < 5) from ⟨by omega, by omega, by omega, by omega⟩) ?_
    refine aw_cne dX6_holderAsTold_17 (tgt := 23) (by decide) ⟨by omega, by omega⟩ ⟨by omega, by omega⟩ (fun wh3 => ?_) (fun wh3 => ?_)
    · refine aw_b kX6_ok bX6_holderAsTold_23_ok (Cs := [0 < 1, 0 < 3, 0 < 3, 0 ≤ f ∧ f < 5]) (pc' := 32) (L' := [some (aR 0 0), some (aI f)]) (st' := [aI (σ 8 0 f)]) (σ' := σ) rfl (show (0 < 1) ∧ (0 < 3) ∧ (0 < 3) ∧ (0 ≤ f ∧ f < 5) from ⟨by omega, by omega, by omega, by omega⟩) ?_
      exact aw_iret dX6_holderAsTold_32 rfl ⟨aret (by unfold toF; first | rw [if_pos (by omega)]; omega | rw [if_neg (by omega)]), rfl⟩
    · refine aw_b kX6_ok bX6_holderAsTold_20_ok (Cs := []) (pc' := 22) (L' := [some (aR 0 0), some (aI f)]) (st' := [aI 9]) (σ' := σ) rfl trivial ?_
      exact aw_iret dX6_holderAsTold_22 rfl ⟨aret (by unfold toF; first | rw [if_pos (by omega)]; omega | rw [if_neg (by omega)]), rfl⟩
  · refine aw_ieq dX6_holderAsTold_4 (tgt := 20) (by decide) ⟨by omega, by omega⟩ (fun wh4 => ?_) (fun wh4 => absurd wh4 (by decide))
    refine aw_b kX6_ok bX6_holderAsTold_20_ok (Cs := []) (pc' := 22) (L' := [some (aR 0 0), some (aI f)]) (st' := [aI 9]) (σ' := σ) rfl trivial ?_
    exact aw_iret dX6_holderAsTold_22 rfl ⟨aret (by unfold toF; first | rw [if_pos (by omega)]; omega | rw [if_neg (by omega)]), rfl⟩
set_option maxRecDepth 10000 in
theorem cC_forged (l : Launch) (d : Int) (σ : aS) (r : aRw) (hR : Rep σ 0 r) (hw : WF r) (hd : r 1 ≤ 999) (hs : SH σ) (hd2 : aIr d) : AM l 4 mX6_forged [aR 0 0, aI d] σ (QC (A_forged r (vaF σ d) (σ 10 0 d) (σ 14 0 d) d) σ) := by
  have bn := hw.1
  have en := hR.n
  have b1 := hw.2.1
  have e1 := hR.1.2.1
  have b2 := hw.2.2.1
  have e2 := hR.1.2.2
  refine am_of (by decide) (Nat.le_of_ble_eq_true rfl) (L := [some (aR 0 0), some (aI d), none, none, none]) rfl ?_
  refine aw_b kX6_ok bX6_forged_0_ok (Cs := [0 < 1]) (pc' := 5) (L' := [some (aR 0 0), some (aI d), none, none, none]) (st' := [aI d, aR 9 0]) (σ' := σ) rfl (show 0 < 1 from by omega) ?_
  refine aw_fV lX6_54 (as := [aI d]) (rest := []) (t := 9) (c := 0) (by decide) (by decide) (by decide) rfl rfl (Nat.le_of_ble_eq_true rfl) rfl dX6_forged_5 (cS_lackOfRow l d σ hs ⟨by omega, by omega⟩) ?_
  have blk := lkF_rng (σ 10 0 d) d 2
  refine aw_b kX6_ok bX6_forged_8_ok (Cs := []) (pc' := 10) (L' := [some (aR 0 0), some (aI d), some (aI (lkF (σ 10 0 d) d 2)), none, none]) (st' := [aI (lkF (σ 10 0 d) d 2)]) (σ' := σ) rfl trivial ?_
  refine aw_ieq dX6_forged_10 (tgt := 15) (by decide) ⟨by omega, by omega⟩ (fun wh1 => ?_) (fun wh1 => ?_)
  · have hl := lkF_d (show lkF (σ 10 0 d) d 2 = 0 by omega)
    have bs := hs.1 d hl.1.1 hl.1.2
    refine aw_b kX6_ok bX6_forged_15_ok (Cs := [0 < 1]) (pc' := 20) (L' := [some (aR 0 0), some (aI d), some (aI (lkF (σ 10 0 d) d 2)), none, none]) (st' := [aI d, aR 9 0]) (σ' := σ) rfl (show 0 < 1 from by omega) ?_
    refine aw_fV lX6_245 (as := [aI d]) (rest := []) (t := 9) (c := 0) (by decide) (by decide) (by decide) rfl rfl (Nat.le_of_ble_eq_true rfl) rfl dX6_forged_20 (cS_lengthOf l d σ hs (by omega) (by omega)) ?_
    refine aw_b kX6_ok bX6_forged_23_ok (Cs := []) (pc' := 27) (L' := [some (aR 0 0), some (aI d), some (aI (lkF (σ 10 0 d) d 2)), some (aI (σ 14 0 d)), some (aI 0)]) (st' := []) (σ' := σ) rfl trivial ?_
    refine aloop (P := fun n : Nat => ∀ (hA : fgF (vaF σ d) r (σ 14 0 d).toNat 0 = fgF (vaF σ d) r ((σ 14 0 d).toNat - n) n), AW l 4 mX6_forged _ 27 [some (aR 0 0), some (aI d), some (aI (lkF (σ 10 0 d) d 2)), some (aI (σ 14 0 d)), some (aI (n : Int))] [] σ) ((σ 14 0 d).toNat) (fun n hn ihn hA => ?_) rfl
    refine aw_b kX6_ok bX6_forged_27_ok (Cs := []) (pc' := 30) (L' := [some (aR 0 0), some (aI d), some (aI (lkF (σ 10 0 d) d 2)), some (aI (σ 14 0 d)), some (aI (n : Int))]) (st' := [aI (σ 14 0 d), aI (n : Int)]) (σ' := σ) rfl trivial ?_
    refine aw_cge dX6_forged_30 (tgt := 69) (by decide) ⟨by omega, by omega⟩ ⟨by omega, by omega⟩ (fun wh2 => ?_) (fun wh2 => ?_)
    · refine aw_b kX6_ok bX6_forged_69_ok (Cs := []) (pc' := 71) (L' := [some (aR 0 0), some (aI d), some (aI (lkF (σ 10 0 d) d 2)), some (aI (σ 14 0 d)), some (aI (n : Int))]) (st' := [aI (-4)]) (σ' := σ) rfl trivial ?_
      exact aw_iret dX6_forged_71 rfl ⟨aret (by unfold A_forged; rw [if_pos (by omega), hA, show (σ 14 0 d).toNat - n = 0 by omega]; rfl), aFr_rf⟩
    · have bh5 : n < 5 → (r (8 + (n : Int)) = -4 ∨ (0 ≤ r (8 + (n : Int)) ∧ r (8 + (n : Int)) < r 0)) := fun q => hw.ho (by omega) (by omega)
      have bto : 0 ≤ toF r (n : Int) ∧ toF r (n : Int) ≤ 9 := by unfold toF; split <;> omega
      have hB : fgF (vaF σ d) r (σ 14 0 d).toNat 0 = (if (n : Int) < 5 ∧ vaF σ d (n : Int) = toF r (n : Int) then fgF (vaF σ d) r ((σ 14 0 d).toNat - (n + 1)) (n + 1) else (n : Int)) := by
        rw [hA, show (σ 14 0 d).toNat - n = ((σ 14 0 d).toNat - (n + 1)) + 1 by omega]; rfl
      refine aw_b kX6_ok bX6_forged_33_ok (Cs := []) (pc' := 35) (L' := [some (aR 0 0), some (aI d), some (aI (lkF (σ 10 0 d) d 2)), some (aI (σ 14 0 d)), some (aI (n : Int))]) (st' := [aI (n : Int)]) (σ' := σ) rfl trivial ?_
      refine aw_bS lX6_109 (as := [aI (n : Int)]) (rest := []) (by decide) rfl (Nat.le_of_ble_eq_true rfl) rfl dX6_forged_35 (cC_isOffice l (n : Int) σ ⟨by omega, by omega⟩) (fun wh3 => ?_) (fun wh3 => ?_)
      · refine aw_ieq dX6_forged_38 (tgt := 60) (by decide) ⟨by omega, by omega⟩ (fun wh4 => absurd wh4 (by decide)) (fun wh4 => ?_)
        refine aw_b kX6_ok bX6_forged_41_ok (Cs := [0 < 1]) (pc' := 48) (L' := [some (aR 0 0), some (aI d), some (aI (lkF (σ 10 0 d) d 2)), some (aI (σ 14 0 d)), some (aI (n : Int))]) (st' := [aI (n : Int), aI d, aR 9 0]) (σ' := σ) rfl (show 0 < 1 from by omega) ?_
        refine aw_fV lX6_248 (as := [aI d, aI (n : Int)]) (rest := []) (t := 9) (c := 0) (by decide) (by decide) (by decide) rfl rfl (Nat.le_of_ble_eq_true rfl) rfl dX6_forged_48 (cS_valueAt l d (n : Int) σ hs (by omega) (by omega) ⟨by omega, by omega⟩) ?_
        have bv := vaF_rng (i := (n : Int)) hs (d := d) (by omega) (by omega)
        refine aw_b kX6_ok bX6_forged_51_ok (Cs := []) (pc' := 54) (L' := [some (aR 0 0), some (aI d), some (aI (lkF (σ 10 0 d) d 2)), some (aI (σ 14 0 d)), some (aI (n : Int))]) (st' := [aI (n : Int), aR 0 0, aI (vaF σ d (n : Int))]) (σ' := σ) rfl trivial ?_
        refine aw_fV lX6_251 (as := [aI (n : Int)]) (rest := [aI (vaF σ d (n : Int))]) (t := 0) (c := 0) (by decide) (by decide) (by decide) rfl rfl (Nat.le_of_ble_eq_true rfl) rfl dX6_forged_54 (cC_holderAsTold l (n : Int) σ r hR hw hd ⟨by omega, by omega⟩) ?_
        refine aw_ceq dX6_forged_57 (tgt := 63) (by decide) ⟨by omega, by omega⟩ ⟨by omega, by omega⟩ (fun wh5 => ?_) (fun wh5 => ?_)
        · refine aw_b kX6_ok bX6_forged_63_ok (Cs := []) (pc' := 27) (L' := [some (aR 0 0), some (aI d), some (aI (lkF (σ 10 0 d) d 2)), some (aI (σ 14 0 d)), some (aI ((n : Int) + 1))]) (st' := []) (σ' := σ) rfl trivial ?_
          exact ihn (by omega) (hB.trans (if_pos (by omega)))
        · refine aw_b kX6_ok bX6_forged_60_ok (Cs := []) (pc' := 62) (L' := [some (aR 0 0), some (aI d), some (aI (lkF (σ 10 0 d) d 2)), some (aI (σ 14 0 d)), some (aI (n : Int))]) (st' := [aI (n : Int)]) (σ' := σ) rfl trivial ?_
          exact aw_iret dX6_forged_62 rfl ⟨aret (by unfold A_forged; rw [if_pos (by omega)]; exact (hB.trans (if_neg (by omega))).symm), aFr_rf⟩
      · refine aw_ieq dX6_forged_38 (tgt := 60) (by decide) ⟨by omega, by omega⟩ (fun wh6 => ?_) (fun wh6 => absurd wh6 (by decide))
        refine aw_b kX6_ok bX6_forged_60_ok (Cs := []) (pc' := 62) (L' := [some (aR 0 0), some (aI d), some (aI (lkF (σ 10 0 d) d 2)), some (aI (σ 14 0 d)), some (aI (n : Int))]) (st' := [aI (n : Int)]) (σ' := σ) rfl trivial ?_
        exact aw_iret dX6_forged_62 rfl ⟨aret (by unfold A_forged; rw [if_pos (by omega)]; exact (hB.trans (if_neg (by omega))).symm), aFr_rf⟩
  · refine aw_b kX6_ok bX6_forged_13_ok (Cs := []) (pc' := 14) (L' := [some (aR 0 0), some (aI d), some (aI (lkF (σ 10 0 d) d 2)), none, none]) (st' := [aI (lkF (σ 10 0 d) d 2)]) (σ' := σ) rfl trivial ?_
    exact aw_iret dX6_forged_14 rfl ⟨aret (by unfold A_forged; rw [if_neg (by omega)]), aFr_rf⟩
def wiB (r : aRw) (E : Int → Int) (m ln p w : Int) : Nat → Bool := fun v => decide (fuF E m (mzD 0 p (rUp r (aOf p w) (v : Int))) ln.toNat 0 = -4)
def whB (r : aRw) (E : Int → Int) (m ln f : Int) : Nat → Bool := fun p => decide (fuF E m (mzD 1 f (hoR r f (p : Int))) ln.toNat 0 = -4)
def A_whatIs (r : aRw) (E : Int → Int) (ct so ln d p w : Int) : Int := if (0 ≤ d ∧ d < 8) ∧ (0 ≤ p ∧ p < r 0) ∧ (w = 0 ∨ w = 1) then (if lkF ct d 2 = 0 then btN (wiB r E (leF so) ln p w) (if w = 0 then 8 else 10) else lkF ct d 2) else -1
def A_whoHeld (r : aRw) (E : Int → Int) (ct so ln d f : Int) : Int := if (0 ≤ d ∧ d < 8) ∧ (0 ≤ f ∧ f < 5) then (if lkF ct d 2 = 0 then btN (whB r E (leF so) ln f) (r 0).toNat else lkF ct d 2) else -1
theorem hoR_1 (r : aRw) {f p : Int} (f0 : 0 ≤ f) (f1 : f < 5) : hoR r f p 0 = r 0 ∧ hoR r f p 1 = r 1 := by
  unfold hoR
  rw [rUp_ne (by omega), rUp_ne (by omega), emR_at (by omega), emR_at (by omega), emR_at (by omega), emR_at (by omega)]
  exact ⟨rfl, rfl⟩
set_option maxRecDepth 10000 in
theorem cC_whatIs (l : Launch) (d p w : Int) (σ : aS) (r : aRw) (hR : Rep σ 0 r) (hw : WF r) (hd : r 1 ≤ 999) (hs : SH σ) (hd2 : aIr d) (hp : aIr p) (hv : aIr w) : AM l 6 mX6_whatIs [aR 0 0, aI d, aI p, aI w] σ (QC (A_whatIs r (vaF σ d) (σ 10 0 d) (σ 13 0 d) (σ 14 0 d) d p w) σ) := by
  have bn := hw.1
  have en := hR.n
  have b1 := hw.2.1
  have e1 := hR.1.2.1
  have b2 := hw.2.2.1
  have e2 := hR.1.2.2
  refine am_of (by decide) (Nat.le_of_ble_eq_true rfl) (L := [some (aR 0 0), some (aI d), some (aI p), some (aI w), none, none, none, none]) rfl ?_
  refine aw_b kX6_ok bX6_whatIs_0_ok (Cs := []) (pc' := 1) (L' := [some (aR 0 0), some (aI d), some (aI p), some (aI w), none, none, none, none]) (st' := [aI d]) (σ' := σ) rfl trivial ?_
  refine aw_bS lX6_132 (as := [aI d]) (rest := []) (by decide) rfl (Nat.le_of_ble_eq_true rfl) rfl dX6_whatIs_1 (cC_isShelf l d σ ⟨by omega, by omega⟩) (fun wh1 => ?_) (fun wh1 => ?_)
  · refine aw_ieq dX6_whatIs_4 (tgt := 25) (by decide) ⟨by omega, by omega⟩ (fun wh2 => absurd wh2 (by decide)) (fun wh2 => ?_)
    refine aw_b kX6_ok bX6_whatIs_7_ok (Cs := [0 < 1]) (pc' := 12) (L' := [some (aR 0 0), some (aI d), some (aI p), some (aI w), none, none, none, none]) (st' := [aI p, aR 1 0]) (σ' := σ) rfl (show 0 < 1 from by omega) ?_
    refine aw_bV lX6_76 (as := [aI p]) (rest := []) (t := 1) (c := 0) (by decide) (by decide) (by decide) rfl rfl (Nat.le_of_ble_eq_true rfl) rfl dX6_whatIs_12 (cC_isThere l p 0 (by omega) σ r hR hw ⟨by omega, by omega⟩) (fun wh3 => ?_) (fun wh3 => ?_)
    · refine aw_ieq dX6_whatIs_15 (tgt := 25) (by decide) ⟨by omega, by omega⟩ (fun wh4 => absurd wh4 (by decide)) (fun wh4 => ?_)
      refine aw_b kX6_ok bX6_whatIs_18_ok (Cs := []) (pc' := 19) (L' := [some (aR 0 0), some (aI d), some (aI p), some (aI w), none, none, none, none]) (st' := [aI w]) (σ' := σ) rfl trivial ?_
      refine aw_bS lX6_171 (as := [aI w]) (rest := []) (by decide) rfl (Nat.le_of_ble_eq_true rfl) rfl dX6_whatIs_19 (cC_isChoice l w σ ⟨by omega, by omega⟩) (fun wh5 => ?_) (fun wh5 => ?_)
      · refine aw_ine dX6_whatIs_22 (tgt := 27) (by decide) ⟨by omega, by omega⟩ (fun wh6 => ?_) (fun wh6 => absurd wh6 (by decide))
        refine aw_b kX6_ok bX6_whatIs_27_ok (Cs := [0 < 1]) (pc' := 32) (L' := [some (aR 0 0), some (aI d), some (aI p), some (aI w), none, none, none, none]) (st' := [aI d, aR 9 0]) (σ' := σ) rfl (show 0 < 1 from by omega) ?_
        refine aw_fV lX6_54 (as := [aI d]) (rest := []) (t := 9) (c := 0) (by decide) (by decide) (by decide) rfl rfl (Nat.le_of_ble_eq_true rfl) rfl dX6_whatIs_32 (cS_lackOfRow l d σ hs ⟨by omega, by omega⟩) ?_
        have blk := lkF_rng (σ 10 0 d) d 2
        refine aw_b kX6_ok bX6_whatIs_35_ok (Cs := []) (pc' := 39) (L' := [some (aR 0 0), some (aI d), some (aI p), some (aI w), some (aI (lkF (σ 10 0 d) d 2)), none, none, none]) (st' := [aI (lkF (σ 10 0 d) d 2)]) (σ' := σ) rfl trivial ?_
        refine aw_ieq dX6_whatIs_39 (tgt := 45) (by decide) ⟨by omega, by omega⟩ (fun wh7 => ?_) (fun wh7 => ?_)
        · have hl := lkF_d (show lkF (σ 10 0 d) d 2 = 0 by omega)
          have bs := hs.1 d hl.1.1 hl.1.2
          refine aw_b kX6_ok bX6_whatIs_45_ok (Cs := []) (pc' := 46) (L' := [some (aR 0 0), some (aI d), some (aI p), some (aI w), some (aI (lkF (σ 10 0 d) d 2)), none, none, none]) (st' := [aI w]) (σ' := σ) rfl trivial ?_
          refine aw_ine dX6_whatIs_46 (tgt := 54) (by decide) ⟨by omega, by omega⟩ (fun wh8 => ?_) (fun wh8 => ?_)
          · refine aw_b kX6_ok bX6_whatIs_54_ok (Cs := []) (pc' := 56) (L' := [some (aR 0 0), some (aI d), some (aI p), some (aI w), some (aI (lkF (σ 10 0 d) d 2)), none, none, none]) (st' := [aI 10]) (σ' := σ) rfl trivial ?_
            refine aw_b kX6_ok bX6_whatIs_56_ok (Cs := []) (pc' := 64) (L' := [some (aR 0 0), some (aI d), some (aI p), some (aI w), some (aI (lkF (σ 10 0 d) d 2)), some (aI 10), some (aI 0), some (aI 0)]) (st' := []) (σ' := σ) rfl trivial ?_
            refine aloop (P := fun v : Nat => ∀ (ρ : aS) (hQ : Rep ρ 0 r) (hG : aFr CScr σ ρ), AW l 6 mX6_whatIs _ 64 [some (aR 0 0), some (aI d), some (aI p), some (aI w), some (aI (lkF (σ 10 0 d) d 2)), some (aI 10), some (aI (btN (wiB r (vaF σ d) (leF (σ 13 0 d)) (σ 14 0 d) p w) v)), some (aI (v : Int))] [] ρ) (10) (fun v hv ihv ρ hQ hG => ?_) σ hR aFr_rf
            refine aw_b kX6_ok bX6_whatIs_64_ok (Cs := []) (pc' := 68) (L' := [some (aR 0 0), some (aI d), some (aI p), some (aI w), some (aI (lkF (σ 10 0 d) d 2)), some (aI 10), some (aI (btN (wiB r (vaF σ d) (leF (σ 13 0 d)) (σ 14 0 d) p w) v)), some (aI (v : Int))]) (st' := [aI 10, aI (v : Int)]) (σ' := ρ) rfl trivial ?_
            refine aw_cge dX6_whatIs_68 (tgt := 138) (by decide) ⟨by omega, by omega⟩ ⟨by omega, by omega⟩ (fun wh9 => ?_) (fun wh9 => ?_)
            · refine aw_b kX6_ok bX6_whatIs_138_ok (Cs := []) (pc' := 140) (L' := [some (aR 0 0), some (aI d), some (aI p), some (aI w), some (aI (lkF (σ 10 0 d) d 2)), some (aI 10), some (aI (btN (wiB r (vaF σ d) (leF (σ 13 0 d)) (σ 14 0 d) p w) v)), some (aI (v : Int))]) (st' := [aI (btN (wiB r (vaF σ d) (leF (σ 13 0 d)) (σ 14 0 d) p w) v)]) (σ' := ρ) rfl trivial ?_
              exact aw_iret dX6_whatIs_140 rfl ⟨aret (by unfold A_whatIs; rw [if_pos (by omega), if_pos (by omega), if_neg (by omega), show v = 10 by omega]), hG⟩
            · refine aw_b kX6_ok bX6_whatIs_71_ok (Cs := [0 < 1, 0 < 1]) (pc' := 79) (L' := [some (aR 0 0), some (aI d), some (aI p), some (aI w), some (aI (lkF (σ 10 0 d) d 2)), some (aI 10), some (aI (btN (wiB r (vaF σ d) (leF (σ 13 0 d)) (σ 14 0 d) p w) v)), some (aI (v : Int))]) (st' := [aR 1 0, aR 1 1]) (σ' := ρ) rfl (show (0 < 1) ∧ (0 < 1) from ⟨by omega, by omega⟩) ?_
              refine aw_callV lX6_68 (as := [aR 1 0]) (rest := []) (t := 1) (c := 1) (by decide) (by decide) (by decide) rfl rfl (Nat.le_of_ble_eq_true rfl) rfl dX6_whatIs_79 (cC_becomes l 0 1 (by decide) (by decide) (by decide) ρ r hQ hw) ?_
              rintro _ τ1 ⟨rfl, hT1, hF1⟩
              refine aw_b kX6_ok bX6_whatIs_82_ok (Cs := []) (pc' := 83) (L' := [some (aR 0 0), some (aI d), some (aI p), some (aI w), some (aI (lkF (σ 10 0 d) d 2)), some (aI 10), some (aI (btN (wiB r (vaF σ d) (leF (σ 13 0 d)) (σ 14 0 d) p w) v)), some (aI (v : Int))]) (st' := [aI w]) (σ' := τ1) rfl trivial ?_
              refine aw_ine dX6_whatIs_83 (tgt := 100) (by decide) ⟨by omega, by omega⟩ (fun wh10 => ?_) (fun wh10 => False.elim (by omega))
              refine aw_b kX6_ok bX6_whatIs_100_ok (Cs := [0 < 1, 1 < 3, 1 < 3, 0 ≤ p ∧ p < 8]) (pc' := 111) (L' := [some (aR 0 0), some (aI d), some (aI p), some (aI w), some (aI (lkF (σ 10 0 d) d 2)), some (aI 10), some (aI (btN (wiB r (vaF σ d) (leF (σ 13 0 d)) (σ 14 0 d) p w) v)), some (aI (v : Int))]) (st' := []) (σ' := aUp τ1 3 1 p (v : Int)) rfl (show (0 < 1) ∧ (1 < 3) ∧ (1 < 3) ∧ (0 ≤ p ∧ p < 8) from ⟨by omega, by omega, by omega, by omega⟩) ?_
              refine aw_b kX6_ok bX6_whatIs_111_ok (Cs := []) (pc' := 115) (L' := [some (aR 0 0), some (aI d), some (aI p), some (aI w), some (aI (lkF (σ 10 0 d) d 2)), some (aI 10), some (aI (btN (wiB r (vaF σ d) (leF (σ 13 0 d)) (σ 14 0 d) p w) v)), some (aI (v : Int))]) (st' := [aI p, aI 0, aI d, aR 0 0]) (σ' := aUp τ1 3 1 p (v : Int)) rfl trivial ?_
              have hP : Rep (aUp τ1 3 1 p (v : Int)) 1 (rUp r (aOf p w) (v : Int)) := by rw [show w = 1 by omega]; exact Rep_fig hT1 hw (by omega) (by omega) _
              have hwP : WF (rUp r (aOf p w) (v : Int)) := by rw [show w = 1 by omega]; exact WF_fig hw (by omega) (by omega) (by omega)
              have eP : rUp r (aOf p w) (v : Int) 1 = r 1 := rUp_ne (by unfold aOf; omega)
              have hF3 : aFr CScr ρ (aUp τ1 3 1 p (v : Int)) := aFr_tr (aFrC hF1) (aFrC (aFr_up (cb (by decide))))
              have bf := fuF_rng (vaF σ d) (leF (σ 13 0 d)) (mzD 0 p (rUp r (aOf p w) (v : Int))) (σ 14 0 d).toNat 0
              refine aw_callV lX6_221 (as := [aI d, aI 0, aI p]) (rest := []) (t := 0) (c := 0) (by decide) (by decide) (by decide) rfl rfl (Nat.le_of_ble_eq_true rfl) rfl dX6_whatIs_115 (cC_firstUnlike l d 0 p σ (aUp τ1 3 1 p (v : Int)) hs (shE_fr shE_rf (aFr_tr hG hF3)) _ hP hwP (by omega) (by omega) (by omega) (by decide) ⟨by omega, by omega⟩) ?_
              rintro _ τ2 ⟨rfl, hF2⟩
              have hF9 := aFr_tr hF3 hF2
              refine aw_b kX6_ok bX6_whatIs_118_ok (Cs := []) (pc' := 120) (L' := [some (aR 0 0), some (aI d), some (aI p), some (aI w), some (aI (lkF (σ 10 0 d) d 2)), some (aI 10), some (aI (btN (wiB r (vaF σ d) (leF (σ 13 0 d)) (σ 14 0 d) p w) v)), some (aI (v : Int))]) (st' := [aI (-4), aI (fuF (vaF σ d) (leF (σ 13 0 d)) (mzD 0 p (rUp r (aOf p w) (v : Int))) (σ 14 0 d).toNat 0)]) (σ' := τ2) rfl trivial ?_
              refine aw_cne dX6_whatIs_120 (tgt := 132) (by decide) ⟨by omega, by omega⟩ ⟨by omega, by omega⟩ (fun wh11 => ?_) (fun wh11 => ?_)
              · have hno := wh11
                refine aw_b kX6_ok bX6_whatIs_132_ok (Cs := []) (pc' := 64) (L' := [some (aR 0 0), some (aI d), some (aI p), some (aI w), some (aI (lkF (σ 10 0 d) d 2)), some (aI 10), some (aI (btN (wiB r (vaF σ d) (leF (σ 13 0 d)) (σ 14 0 d) p w) v)), some (aI ((v : Int) + 1))]) (st' := []) (σ' := τ2) rfl trivial ?_
                exact aw_eq (by rw [btN_f (show ¬ (wiB r (vaF σ d) (leF (σ 13 0 d)) (σ 14 0 d) p w) v = true from fun q => hno (of_decide_eq_true q))]; rfl) rfl rfl (ihv (by omega) τ2 (hQ.scr (by decide) hF9) (aFr_tr hG hF9))
              · have hyes := wh11
                refine aw_b kX6_ok bX6_whatIs_123_ok (Cs := [0 ≤ (v : Int) ∧ (v : Int) < 32]) (pc' := 132) (L' := [some (aR 0 0), some (aI d), some (aI p), some (aI w), some (aI (lkF (σ 10 0 d) d 2)), some (aI 10), some (aI (aOr (btN (wiB r (vaF σ d) (leF (σ 13 0 d)) (σ 14 0 d) p w) v) (1 * 2 ^ (Int.toNat (v : Int))))), some (aI (v : Int))]) (st' := []) (σ' := τ2) rfl (show 0 ≤ (v : Int) ∧ (v : Int) < 32 from by omega) ?_
                refine aw_b kX6_ok bX6_whatIs_132_ok (Cs := []) (pc' := 64) (L' := [some (aR 0 0), some (aI d), some (aI p), some (aI w), some (aI (lkF (σ 10 0 d) d 2)), some (aI 10), some (aI (aOr (btN (wiB r (vaF σ d) (leF (σ 13 0 d)) (σ 14 0 d) p w) v) (1 * 2 ^ (Int.toNat (v : Int))))), some (aI ((v : Int) + 1))]) (st' := []) (σ' := τ2) rfl trivial ?_
                exact aw_eq (by rw [btN_t (by omega) (show (wiB r (vaF σ d) (leF (σ 13 0 d)) (σ 14 0 d) p w) v = true from decide_eq_true hyes)]; rfl) rfl rfl (ihv (by omega) τ2 (hQ.scr (by decide) hF9) (aFr_tr hG hF9))
          · refine aw_b kX6_ok bX6_whatIs_49_ok (Cs := []) (pc' := 56) (L' := [some (aR 0 0), some (aI d), some (aI p), some (aI w), some (aI (lkF (σ 10 0 d) d 2)), none, none, none]) (st' := [aI 8]) (σ' := σ) rfl trivial ?_
            refine aw_b kX6_ok bX6_whatIs_56_ok (Cs := []) (pc' := 64) (L' := [some (aR 0 0), some (aI d), some (aI p), some (aI w), some (aI (lkF (σ 10 0 d) d 2)), some (aI 8), some (aI 0), some (aI 0)]) (st' := []) (σ' := σ) rfl trivial ?_
            refine aloop (P := fun v : Nat => ∀ (ρ : aS) (hQ : Rep ρ 0 r) (hG : aFr CScr σ ρ), AW l 6 mX6_whatIs _ 64 [some (aR 0 0), some (aI d), some (aI p), some (aI w), some (aI (lkF (σ 10 0 d) d 2)), some (aI 8), some (aI (btN (wiB r (vaF σ d) (leF (σ 13 0 d)) (σ 14 0 d) p w) v)), some (aI (v : Int))] [] ρ) (8) (fun v hv ihv ρ hQ hG => ?_) σ hR aFr_rf
            refine aw_b kX6_ok bX6_whatIs_64_ok (Cs := []) (pc' := 68) (L' := [some (aR 0 0), some (aI d), some (aI p), some (aI w), some (aI (lkF (σ 10 0 d) d 2)), some (aI 8), some (aI (btN (wiB r (vaF σ d) (leF (σ 13 0 d)) (σ 14 0 d) p w) v)), some (aI (v : Int))]) (st' := [aI 8, aI (v : Int)]) (σ' := ρ) rfl trivial ?_
            refine aw_cge dX6_whatIs_68 (tgt := 138) (by decide) ⟨by omega, by omega⟩ ⟨by omega, by omega⟩ (fun wh12 => ?_) (fun wh12 => ?_)
            · refine aw_b kX6_ok bX6_whatIs_138_ok (Cs := []) (pc' := 140) (L' := [some (aR 0 0), some (aI d), some (aI p), some (aI w), some (aI (lkF (σ 10 0 d) d 2)), some (aI 8), some (aI (btN (wiB r (vaF σ d) (leF (σ 13 0 d)) (σ 14 0 d) p w) v)), some (aI (v : Int))]) (st' := [aI (btN (wiB r (vaF σ d) (leF (σ 13 0 d)) (σ 14 0 d) p w) v)]) (σ' := ρ) rfl trivial ?_
              exact aw_iret dX6_whatIs_140 rfl ⟨aret (by unfold A_whatIs; rw [if_pos (by omega), if_pos (by omega), if_pos (by omega), show v = 8 by omega]), hG⟩
            · refine aw_b kX6_ok bX6_whatIs_71_ok (Cs := [0 < 1, 0 < 1]) (pc' := 79) (L' := [some (aR 0 0), some (aI d), some (aI p), some (aI w), some (aI (lkF (σ 10 0 d) d 2)), some (aI 8), some (aI (btN (wiB r (vaF σ d) (leF (σ 13 0 d)) (σ 14 0 d) p w) v)), some (aI (v : Int))]) (st' := [aR 1 0, aR 1 1]) (σ' := ρ) rfl (show (0 < 1) ∧ (0 < 1) from ⟨by omega, by omega⟩) ?_
              refine aw_callV lX6_68 (as := [aR 1 0]) (rest := []) (t := 1) (c := 1) (by decide) (by decide) (by decide) rfl rfl (Nat.le_of_ble_eq_true rfl) rfl dX6_whatIs_79 (cC_becomes l 0 1 (by decide) (by decide) (by decide) ρ r hQ hw) ?_
              rintro _ τ1 ⟨rfl, hT1, hF1⟩
              refine aw_b kX6_ok bX6_whatIs_82_ok (Cs := []) (pc' := 83) (L' := [some (aR 0 0), some (aI d), some (aI p), some (aI w), some (aI (lkF (σ 10 0 d) d 2)), some (aI 8), some (aI (btN (wiB r (vaF σ d) (leF (σ 13 0 d)) (σ 14 0 d) p w) v)), some (aI (v : Int))]) (st' := [aI w]) (σ' := τ1) rfl trivial ?_
              refine aw_ine dX6_whatIs_83 (tgt := 100) (by decide) ⟨by omega, by omega⟩ (fun wh13 => False.elim (by omega)) (fun wh13 => ?_)
              refine aw_b kX6_ok bX6_whatIs_86_ok (Cs := [0 < 1, 1 < 3, 1 < 3, 0 ≤ p ∧ p < 8]) (pc' := 111) (L' := [some (aR 0 0), some (aI d), some (aI p), some (aI w), some (aI (lkF (σ 10 0 d) d 2)), some (aI 8), some (aI (btN (wiB r (vaF σ d) (leF (σ 13 0 d)) (σ 14 0 d) p w) v)), some (aI (v : Int))]) (st' := []) (σ' := aUp τ1 2 1 p (v : Int)) rfl (show (0 < 1) ∧ (1 < 3) ∧ (1 < 3) ∧ (0 ≤ p ∧ p < 8) from ⟨by omega, by omega, by omega, by omega⟩) ?_
              refine aw_b kX6_ok bX6_whatIs_111_ok (Cs := []) (pc' := 115) (L' := [some (aR 0 0), some (aI d), some (aI p), some (aI w), some (aI (lkF (σ 10 0 d) d 2)), some (aI 8), some (aI (btN (wiB r (vaF σ d) (leF (σ 13 0 d)) (σ 14 0 d) p w) v)), some (aI (v : Int))]) (st' := [aI p, aI 0, aI d, aR 0 0]) (σ' := aUp τ1 2 1 p (v : Int)) rfl trivial ?_
              have hP : Rep (aUp τ1 2 1 p (v : Int)) 1 (rUp r (aOf p w) (v : Int)) := by rw [show w = 0 by omega]; exact Rep_kind hT1 hw (by omega) (by omega) _
              have hwP : WF (rUp r (aOf p w) (v : Int)) := by rw [show w = 0 by omega]; exact WF_kind hw (by omega) (by omega) (by omega)
              have eP : rUp r (aOf p w) (v : Int) 1 = r 1 := rUp_ne (by unfold aOf; omega)
              have hF3 : aFr CScr ρ (aUp τ1 2 1 p (v : Int)) := aFr_tr (aFrC hF1) (aFrC (aFr_up (cb (by decide))))
              have bf := fuF_rng (vaF σ d) (leF (σ 13 0 d)) (mzD 0 p (rUp r (aOf p w) (v : Int))) (σ 14 0 d).toNat 0
              refine aw_callV lX6_221 (as := [aI d, aI 0, aI p]) (rest := []) (t := 0) (c := 0) (by decide) (by decide) (by decide) rfl rfl (Nat.le_of_ble_eq_true rfl) rfl dX6_whatIs_115 (cC_firstUnlike l d 0 p σ (aUp τ1 2 1 p (v : Int)) hs (shE_fr shE_rf (aFr_tr hG hF3)) _ hP hwP (by omega) (by omega) (by omega) (by decide) ⟨by omega, by omega⟩) ?_
              rintro _ τ2 ⟨rfl, hF2⟩
              have hF9 := aFr_tr hF3 hF2
              refine aw_b kX6_ok bX6_whatIs_118_ok (Cs := []) (pc' := 120) (L' := [some (aR 0 0), some (aI d), some (aI p), some (aI w), some (aI (lkF (σ 10 0 d) d 2)), some (aI 8), some (aI (btN (wiB r (vaF σ d) (leF (σ 13 0 d)) (σ 14 0 d) p w) v)), some (aI (v : Int))]) (st' := [aI (-4), aI (fuF (vaF σ d) (leF (σ 13 0 d)) (mzD 0 p (rUp r (aOf p w) (v : Int))) (σ 14 0 d).toNat 0)]) (σ' := τ2) rfl trivial ?_
              refine aw_cne dX6_whatIs_120 (tgt := 132) (by decide) ⟨by omega, by omega⟩ ⟨by omega, by omega⟩ (fun wh14 => ?_) (fun wh14 => ?_)
              · have hno := wh14
                refine aw_b kX6_ok bX6_whatIs_132_ok (Cs := []) (pc' := 64) (L' := [some (aR 0 0), some (aI d), some (aI p), some (aI w), some (aI (lkF (σ 10 0 d) d 2)), some (aI 8), some (aI (btN (wiB r (vaF σ d) (leF (σ 13 0 d)) (σ 14 0 d) p w) v)), some (aI ((v : Int) + 1))]) (st' := []) (σ' := τ2) rfl trivial ?_
                exact aw_eq (by rw [btN_f (show ¬ (wiB r (vaF σ d) (leF (σ 13 0 d)) (σ 14 0 d) p w) v = true from fun q => hno (of_decide_eq_true q))]; rfl) rfl rfl (ihv (by omega) τ2 (hQ.scr (by decide) hF9) (aFr_tr hG hF9))
              · have hyes := wh14
                refine aw_b kX6_ok bX6_whatIs_123_ok (Cs := [0 ≤ (v : Int) ∧ (v : Int) < 32]) (pc' := 132) (L' := [some (aR 0 0), some (aI d), some (aI p), some (aI w), some (aI (lkF (σ 10 0 d) d 2)), some (aI 8), some (aI (aOr (btN (wiB r (vaF σ d) (leF (σ 13 0 d)) (σ 14 0 d) p w) v) (1 * 2 ^ (Int.toNat (v : Int))))), some (aI (v : Int))]) (st' := []) (σ' := τ2) rfl (show 0 ≤ (v : Int) ∧ (v : Int) < 32 from by omega) ?_
                refine aw_b kX6_ok bX6_whatIs_132_ok (Cs := []) (pc' := 64) (L' := [some (aR 0 0), some (aI d), some (aI p), some (aI w), some (aI (lkF (σ 10 0 d) d 2)), some (aI 8), some (aI (aOr (btN (wiB r (vaF σ d) (leF (σ 13 0 d)) (σ 14 0 d) p w) v) (1 * 2 ^ (Int.toNat (v : Int))))), some (aI ((v : Int) + 1))]) (st' := []) (σ' := τ2) rfl trivial ?_
                exact aw_eq (by rw [btN_t (by omega) (show (wiB r (vaF σ d) (leF (σ 13 0 d)) (σ 14 0 d) p w) v = true from decide_eq_true hyes)]; rfl) rfl rfl (ihv (by omega) τ2 (hQ.scr (by decide) hF9) (aFr_tr hG hF9))
        · refine aw_b kX6_ok bX6_whatIs_42_ok (Cs := []) (pc' := 44) (L' := [some (aR 0 0), some (aI d), some (aI p), some (aI w), some (aI (lkF (σ 10 0 d) d 2)), none, none, none]) (st' := [aI (lkF (σ 10 0 d) d 2)]) (σ' := σ) rfl trivial ?_
          exact aw_iret dX6_whatIs_44 rfl ⟨aret (by unfold A_whatIs; rw [if_pos (by omega), if_neg (by omega)]), aFr_rf⟩
      · refine aw_ine dX6_whatIs_22 (tgt := 27) (by decide) ⟨by omega, by omega⟩ (fun wh15 => absurd wh15 (by decide)) (fun wh15 => ?_)
        refine aw_b kX6_ok bX6_whatIs_25_ok (Cs := []) (pc' := 26) (L' := [some (aR 0 0), some (aI d), some (aI p), some (aI w), none, none, none, none]) (st' := [aI (-1)]) (σ' := σ) rfl trivial ?_
        exact aw_iret dX6_whatIs_26 rfl ⟨aret (by unfold A_whatIs; rw [if_neg (by omega)]), aFr_rf⟩
    · refine aw_ieq dX6_whatIs_15 (tgt := 25) (by decide) ⟨by omega, by omega⟩ (fun wh16 => ?_) (fun wh16 => absurd wh16 (by decide))
      refine aw_b kX6_ok bX6_whatIs_25_ok (Cs := []) (pc' := 26) (L' := [some (aR 0 0), some (aI d), some (aI p), some (aI w), none, none, none, none]) (st' := [aI (-1)]) (σ' := σ) rfl trivial ?_
      exact aw_iret dX6_whatIs_26 rfl ⟨aret (by unfold A_whatIs; rw [if_neg (by omega)]), aFr_rf⟩
  · refine aw_ieq dX6_whatIs_4 (tgt := 25) (by decide) ⟨by omega, by omega⟩ (fun wh17 => ?_) (fun wh17 => absurd wh17 (by decide))
    refine aw_b kX6_ok bX6_whatIs_25_ok (Cs := []) (pc' := 26) (L' := [some (aR 0 0), some (aI d), some (aI p), some (aI w), none, none, none, none]) (st' := [aI (-1)]) (σ' := σ) rfl trivial ?_
    exact aw_iret dX6_whatIs_26 rfl ⟨aret (by unfold A_whatIs; rw [if_neg (by omega)]), aFr_rf⟩
set_option maxRecDepth 10000 in
theorem cC_whoHeld (l : Launch) (d f : Int) (σ : aS) (r : aRw) (hR : Rep σ 0 r) (hw : WF r) (hd : r 1 ≤ 999) (hs : SH σ) (hd2 : aIr d) (hf : aIr f) : AM l 6 mX6_whoHeld [aR 0 0, aI d, aI f] σ (QC (A_whoHeld r (vaF σ d) (σ 10 0 d) (σ 13 0 d) (σ 14 0 d) d f) σ) := by
  have bn := hw.1
  have en := hR.n
  have b1 := hw.2.1
  have e1 := hR.1.2.1
  have b2 := hw.2.2.1
  have e2 := hR.1.2.2
  refine am_of (by decide) (Nat.le_of_ble_eq_true rfl) (L := [some (aR 0 0), some (aI d), some (aI f), none, none, none]) rfl ?_
  refine aw_b kX6_ok bX6_whoHeld_0_ok (Cs := []) (pc' := 1) (L' := [some (aR 0 0), some (aI d), some (aI f), none, none, none]) (st' := [aI d]) (σ' := σ) rfl trivial ?_
  refine aw_bS lX6_132 (as := [aI d]) (rest := []) (by decide) rfl (Nat.le_of_ble_eq_true rfl) rfl dX6_whoHeld_1 (cC_isShelf l d σ ⟨by omega, by omega⟩) (fun wh1 => ?_) (fun wh1 => ?_)
  · refine aw_ieq dX6_whoHeld_4 (tgt := 14) (by decide) ⟨by omega, by omega⟩ (fun wh2 => absurd wh2 (by decide)) (fun wh2 => ?_)
    refine aw_b kX6_ok bX6_whoHeld_7_ok (Cs := []) (pc' := 8) (L' := [some (aR 0 0), some (aI d), some (aI f), none, none, none]) (st' := [aI f]) (σ' := σ) rfl trivial ?_
    refine aw_bS lX6_109 (as := [aI f]) (rest := []) (by decide) rfl (Nat.le_of_ble_eq_true rfl) rfl dX6_whoHeld_8 (cC_isOffice l f σ ⟨by omega, by omega⟩) (fun wh3 => ?_) (fun wh3 => ?_)
    · refine aw_ine dX6_whoHeld_11 (tgt := 16) (by decide) ⟨by omega, by omega⟩ (fun wh4 => ?_) (fun wh4 => absurd wh4 (by decide))
      refine aw_b kX6_ok bX6_whoHeld_16_ok (Cs := [0 < 1]) (pc' := 21) (L' := [some (aR 0 0), some (aI d), some (aI f), none, none, none]) (st' := [aI d, aR 9 0]) (σ' := σ) rfl (show 0 < 1 from by omega) ?_
      refine aw_fV lX6_54 (as := [aI d]) (rest := []) (t := 9) (c := 0) (by decide) (by decide) (by decide) rfl rfl (Nat.le_of_ble_eq_true rfl) rfl dX6_whoHeld_21 (cS_lackOfRow l d σ hs ⟨by omega, by omega⟩) ?_
      have blk := lkF_rng (σ 10 0 d) d 2
      refine aw_b kX6_ok bX6_whoHeld_24_ok (Cs := []) (pc' := 26) (L' := [some (aR 0 0), some (aI d), some (aI f), some (aI (lkF (σ 10 0 d) d 2)), none, none]) (st' := [aI (lkF (σ 10 0 d) d 2)]) (σ' := σ) rfl trivial ?_
      refine aw_ieq dX6_whoHeld_26 (tgt := 31) (by decide) ⟨by omega, by omega⟩ (fun wh5 => ?_) (fun wh5 => ?_)
      · have hl := lkF_d (show lkF (σ 10 0 d) d 2 = 0 by omega)
        have bs := hs.1 d hl.1.1 hl.1.2
        refine aw_b kX6_ok bX6_whoHeld_31_ok (Cs := []) (pc' := 37) (L' := [some (aR 0 0), some (aI d), some (aI f), some (aI (lkF (σ 10 0 d) d 2)), some (aI 0), some (aI 0)]) (st' := []) (σ' := σ) rfl trivial ?_
        refine aloop (P := fun v : Nat => ∀ (ρ : aS) (hQ : Rep ρ 0 r) (hG : aFr CScr σ ρ), AW l 6 mX6_whoHeld _ 37 [some (aR 0 0), some (aI d), some (aI f), some (aI (lkF (σ 10 0 d) d 2)), some (aI (btN (whB r (vaF σ d) (leF (σ 13 0 d)) (σ 14 0 d) f) v)), some (aI (v : Int))] [] ρ) ((r 0).toNat) (fun v hv ihv ρ hQ hG => ?_) σ hR aFr_rf
        have enQ := hQ.n
        refine aw_b kX6_ok bX6_whoHeld_37_ok (Cs := [0 < 1, 0 < 3]) (pc' := 46) (L' := [some (aR 0 0), some (aI d), some (aI f), some (aI (lkF (σ 10 0 d) d 2)), some (aI (btN (whB r (vaF σ d) (leF (σ 13 0 d)) (σ 14 0 d) f) v)), some (aI (v : Int))]) (st' := [aI (ρ 1 0 0), aI (v : Int)]) (σ' := ρ) rfl (show (0 < 1) ∧ (0 < 3) from ⟨by omega, by omega⟩) ?_
        refine aw_cge dX6_whoHeld_46 (tgt := 97) (by decide) ⟨by omega, by omega⟩ ⟨by omega, by omega⟩ (fun wh6 => ?_) (fun wh6 => ?_)
        · refine aw_b kX6_ok bX6_whoHeld_97_ok (Cs := []) (pc' := 99) (L' := [some (aR 0 0), some (aI d), some (aI f), some (aI (lkF (σ 10 0 d) d 2)), some (aI (btN (whB r (vaF σ d) (leF (σ 13 0 d)) (σ 14 0 d) f) v)), some (aI (v : Int))]) (st' := [aI (btN (whB r (vaF σ d) (leF (σ 13 0 d)) (σ 14 0 d) f) v)]) (σ' := ρ) rfl trivial ?_
          exact aw_iret dX6_whoHeld_99 rfl ⟨aret (by unfold A_whoHeld; rw [if_pos (by omega), if_pos (by omega), show v = (r 0).toNat by omega]), hG⟩
        · refine aw_b kX6_ok bX6_whoHeld_49_ok (Cs := [0 < 1, 0 < 1]) (pc' := 57) (L' := [some (aR 0 0), some (aI d), some (aI f), some (aI (lkF (σ 10 0 d) d 2)), some (aI (btN (whB r (vaF σ d) (leF (σ 13 0 d)) (σ 14 0 d) f) v)), some (aI (v : Int))]) (st' := [aR 1 0, aR 1 1]) (σ' := ρ) rfl (show (0 < 1) ∧ (0 < 1) from ⟨by omega, by omega⟩) ?_
          refine aw_callV lX6_68 (as := [aR 1 0]) (rest := []) (t := 1) (c := 1) (by decide) (by decide) (by decide) rfl rfl (Nat.le_of_ble_eq_true rfl) rfl dX6_whoHeld_57 (cC_becomes l 0 1 (by decide) (by decide) (by decide) ρ r hQ hw) ?_
          rintro _ τ1 ⟨rfl, hT1, hF1⟩
          refine aw_b kX6_ok bX6_whoHeld_60_ok (Cs := [0 < 1]) (pc' := 67) (L' := [some (aR 0 0), some (aI d), some (aI f), some (aI (lkF (σ 10 0 d) d 2)), some (aI (btN (whB r (vaF σ d) (leF (σ 13 0 d)) (σ 14 0 d) f) v)), some (aI (v : Int))]) (st' := [aI (v : Int), aI f, aR 1 1]) (σ' := τ1) rfl (show 0 < 1 from by omega) ?_
          refine aw_callV lX6_151 (as := [aI f, aI (v : Int)]) (rest := []) (t := 1) (c := 1) (by decide) (by decide) (by decide) rfl rfl (Nat.le_of_ble_eq_true rfl) rfl dX6_whoHeld_67 (cC_install l f (v : Int) 1 (by decide) τ1 r hT1 hw (by omega) (by omega) (by omega) (by omega)) ?_
          rintro _ τ3 ⟨rfl, hP, hF4, h34⟩
          have hwP := hoR_wf hw (f := f) (p := (v : Int)) (by omega) (by omega) (by omega) (by omega)
          have eP := hoR_1 r (f := f) (p := (v : Int)) (by omega) (by omega)
          have hF3 : aFr CScr ρ τ3 := aFr_tr (aFrC hF1) (aFrC hF4)
          have bf := fuF_rng (vaF σ d) (leF (σ 13 0 d)) (mzD 1 f (hoR r f (v : Int))) (σ 14 0 d).toNat 0
          refine aw_b kX6_ok bX6_whoHeld_70_ok (Cs := []) (pc' := 74) (L' := [some (aR 0 0), some (aI d), some (aI f), some (aI (lkF (σ 10 0 d) d 2)), some (aI (btN (whB r (vaF σ d) (leF (σ 13 0 d)) (σ 14 0 d) f) v)), some (aI (v : Int))]) (st' := [aI f, aI 1, aI d, aR 0 0]) (σ' := τ3) rfl trivial ?_
          refine aw_callV lX6_221 (as := [aI d, aI 1, aI f]) (rest := []) (t := 0) (c := 0) (by decide) (by decide) (by decide) rfl rfl (Nat.le_of_ble_eq_true rfl) rfl dX6_whoHeld_74 (cC_firstUnlike l d 1 f σ τ3 hs (shE_fr shE_rf (aFr_tr hG hF3)) _ hP hwP (by omega) (by omega) (by omega) (by decide) ⟨by omega, by omega⟩) ?_
          rintro _ τ2 ⟨rfl, hF2⟩
          have hF9 := aFr_tr hF3 hF2
          refine aw_b kX6_ok bX6_whoHeld_77_ok (Cs := []) (pc' := 79) (L' := [some (aR 0 0), some (aI d), some (aI f), some (aI (lkF (σ 10 0 d) d 2)), some (aI (btN (whB r (vaF σ d) (leF (σ 13 0 d)) (σ 14 0 d) f) v)), some (aI (v : Int))]) (st' := [aI (-4), aI (fuF (vaF σ d) (leF (σ 13 0 d)) (mzD 1 f (hoR r f (v : Int))) (σ 14 0 d).toNat 0)]) (σ' := τ2) rfl trivial ?_
          refine aw_cne dX6_whoHeld_79 (tgt := 91) (by decide) ⟨by omega, by omega⟩ ⟨by omega, by omega⟩ (fun wh7 => ?_) (fun wh7 => ?_)
          · have hno := wh7
            refine aw_b kX6_ok bX6_whoHeld_91_ok (Cs := []) (pc' := 37) (L' := [some (aR 0 0), some (aI d), some (aI f), some (aI (lkF (σ 10 0 d) d 2)), some (aI (btN (whB r (vaF σ d) (leF (σ 13 0 d)) (σ 14 0 d) f) v)), some (aI ((v : Int) + 1))]) (st' := []) (σ' := τ2) rfl trivial ?_
            exact aw_eq (by rw [btN_f (show ¬ (whB r (vaF σ d) (leF (σ 13 0 d)) (σ 14 0 d) f) v = true from fun q => hno (of_decide_eq_true q))]; rfl) rfl rfl (ihv (by omega) τ2 (hQ.scr (by decide) hF9) (aFr_tr hG hF9))
          · have hyes := wh7
            refine aw_b kX6_ok bX6_whoHeld_82_ok (Cs := [0 ≤ (v : Int) ∧ (v : Int) < 32]) (pc' := 91) (L' := [some (aR 0 0), some (aI d), some (aI f), some (aI (lkF (σ 10 0 d) d 2)), some (aI (aOr (btN (whB r (vaF σ d) (leF (σ 13 0 d)) (σ 14 0 d) f) v) (1 * 2 ^ (Int.toNat (v : Int))))), some (aI (v : Int))]) (st' := []) (σ' := τ2) rfl (show 0 ≤ (v : Int) ∧ (v : Int) < 32 from by omega) ?_
            refine aw_b kX6_ok bX6_whoHeld_91_ok (Cs := []) (pc' := 37) (L' := [some (aR 0 0), some (aI d), some (aI f), some (aI (lkF (σ 10 0 d) d 2)), some (aI (aOr (btN (whB r (vaF σ d) (leF (σ 13 0 d)) (σ 14 0 d) f) v) (1 * 2 ^ (Int.toNat (v : Int))))), some (aI ((v : Int) + 1))]) (st' := []) (σ' := τ2) rfl trivial ?_
            exact aw_eq (by rw [btN_t (by omega) (show (whB r (vaF σ d) (leF (σ 13 0 d)) (σ 14 0 d) f) v = true from decide_eq_true hyes)]; rfl) rfl rfl (ihv (by omega) τ2 (hQ.scr (by decide) hF9) (aFr_tr hG hF9))
      · refine aw_b kX6_ok bX6_whoHeld_29_ok (Cs := []) (pc' := 30) (L' := [some (aR 0 0), some (aI d), some (aI f), some (aI (lkF (σ 10 0 d) d 2)), none, none]) (st' := [aI (lkF (σ 10 0 d) d 2)]) (σ' := σ) rfl trivial ?_
        exact aw_iret dX6_whoHeld_30 rfl ⟨aret (by unfold A_whoHeld; rw [if_pos (by omega), if_neg (by omega)]), aFr_rf⟩
    · refine aw_ine dX6_whoHeld_11 (tgt := 16) (by decide) ⟨by omega, by omega⟩ (fun wh8 => absurd wh8 (by decide)) (fun wh8 => ?_)
      refine aw_b kX6_ok bX6_whoHeld_14_ok (Cs := []) (pc' := 15) (L' := [some (aR 0 0), some (aI d), some (aI f), none, none, none]) (st' := [aI (-1)]) (σ' := σ) rfl trivial ?_
      exact aw_iret dX6_whoHeld_15 rfl ⟨aret (by unfold A_whoHeld; rw [if_neg (by omega)]), aFr_rf⟩
  · refine aw_ieq dX6_whoHeld_4 (tgt := 14) (by decide) ⟨by omega, by omega⟩ (fun wh9 => ?_) (fun wh9 => absurd wh9 (by decide))
    refine aw_b kX6_ok bX6_whoHeld_14_ok (Cs := []) (pc' := 15) (L' := [some (aR 0 0), some (aI d), some (aI f), none, none, none]) (st' := [aI (-1)]) (σ' := σ) rfl trivial ?_
    exact aw_iret dX6_whoHeld_15 rfl ⟨aret (by unfold A_whoHeld; rw [if_neg (by omega)]), aFr_rf⟩
