/-! ===== the class: a day, days, becomes ===== -/
theorem Rep_known' {σ : aS} {c : Nat} {r : aRw} (h : Rep σ c r) (hw : WF r) {p : Int} (p0 : 0 ≤ p) (p1 : p < r 0) {x y : Int} (hx : x = y) : Rep (aUp σ 4 c p x) c (rUp r (aOf p 2) y) := by
  subst hx; exact Rep_known h hw p0 p1 x
def PR (c : Nat) (σ : aS) (r' : aRw) : Option aV → aS → Prop := fun v σ' => v = none ∧ Rep σ' c r' ∧ aFr (Cb c) σ σ'
set_option maxRecDepth 10000 in
theorem cC_oneDay (l : Launch) (c : Nat) (hc : c < 3) (σ : aS) (r : aRw) (hR : Rep σ c r) (hw : WF r) (hd : r 1 ≤ 999999) : AM l 3 mX0_oneDay [aR 1 c] σ (PQ c σ (dayR r) (feD r)) := by
  have bn := hw.1
  have en := hR.n
  have b1 := hw.2.1
  have e1 := hR.1.2.1
  refine am_of (by decide) (Nat.le_of_ble_eq_true rfl) (L := [some (aR 1 c), none, none]) rfl ?_
  refine aw_b kX0_ok bX0_oneDay_0_ok (Cs := [c < 3, c < 3, c < 3]) (pc' := 17) (L' := [some (aR 1 c), some (aI 0), none]) (st' := []) (σ' := aUp (aUp σ 1 c 1 ((σ 1 c 1) + 1)) 1 c 3 0) rfl (show (c < 3) ∧ (c < 3) ∧ (c < 3) from ⟨by omega, by omega, by omega⟩) ?_
  have hT0 : Rep (aUp (aUp σ 1 c 1 (σ 1 c 1 + 1)) 1 c 3 0) c (seN r 0) := by
    have z := Rep_fell (Rep_day hR hw (σ 1 c 1 + 1)) 0
    rw [hR.1.2.1] at z ⊢
    exact z
  refine aloop (P := fun n : Nat => ∀ (τ : aS) (hT : Rep τ c (seN r n)) (hF : aFr (Cb c) σ τ) (h3 : τ 1 c 3 = 0), AW l 3 mX0_oneDay _ 17 [some (aR 1 c), some (aI (n : Int)), none] [] τ) ((r 0).toNat) (fun n hn ihn τ hT hF h3 => ?_) _ hT0 (aFr_tr (aFr_up (cb (by decide))) (aFr_up (cb (by decide)))) aUp_same
  have e0 := seN_0 r n
  have hwn := seN_wf hw n (by omega)
  have en := hT.n
  refine aw_b kX0_ok bX0_oneDay_17_ok (Cs := [c < 3]) (pc' := 22) (L' := [some (aR 1 c), some (aI (n : Int)), none]) (st' := [aI (τ 1 c 0), aI (n : Int)]) (σ' := τ) rfl (show c < 3 from by omega) ?_
  refine aw_cge dX0_oneDay_22 (tgt := 99) (by decide) ⟨by omega, by omega⟩ ⟨by omega, by omega⟩ (fun wh1 => ?_) (fun wh1 => ?_)
  · refine aw_b kX0_ok bX0_oneDay_99_ok (Cs := []) (pc' := 101) (L' := [some (aR 1 c), some (aI 0), none]) (st' := []) (σ' := τ) rfl trivial ?_
    have eN : n = (r 0).toNat := by omega
    refine aloop (P := fun k : Nat => ∀ (ρ : aS) (hT2 : Rep ρ c (faN (seN r (r 0).toNat) k)) (hF2 : aFr (Cb c) σ ρ) (h32 : ρ 1 c 3 = feN (seN r (r 0).toNat) k), AW l 3 mX0_oneDay _ 101 [some (aR 1 c), some (aI (k : Int)), none] [] ρ) (5) (fun k hk ihk ρ hT2 hF2 h32 => ?_) τ (by rw [← eN]; exact hT) hF h3
    have hwk := faN_wf (seN_wf hw (r 0).toNat (by omega)) k hk
    have ek := faN_0 (seN r (r 0).toNat) k
    have ek0 := seN_0 r (r 0).toNat
    have en2 := hT2.n
    have bfe := feN_rng (seN r (r 0).toNat) k
    refine aw_b kX0_ok bX0_oneDay_101_ok (Cs := []) (pc' := 103) (L' := [some (aR 1 c), some (aI (k : Int)), none]) (st' := [aI 5, aI (k : Int)]) (σ' := ρ) rfl trivial ?_
    refine aw_cge dX0_oneDay_103 (tgt := 147) (by decide) ⟨by omega, by omega⟩ ⟨by omega, by omega⟩ (fun wh2 => ?_) (fun wh2 => ?_)
    · exact aw_vret dX0_oneDay_147 rfl ⟨rfl, by rw [show k = 5 by omega] at hT2; exact hT2, hF2, by rw [show k = 5 by omega] at h32; exact h32⟩
    · have bh := hwk.ho (f := (k : Int)) (by omega) (by omega)
      have ro := hT2.of (f := (k : Int)) (by omega) (by omega)
      have nh := nb_cases ((faN (seN r (r 0).toNat) k) (8 + (k : Int)))
      refine aw_b kX0_ok bX0_oneDay_106_ok (Cs := [c < 3, c < 3, 0 ≤ (k : Int) ∧ (k : Int) < 5]) (pc' := 115) (L' := [some (aR 1 c), some (aI (k : Int)), some (aI (ρ 8 c (k : Int)))]) (st' := [aI (ρ 8 c (k : Int)), aR 1 c]) (σ' := ρ) rfl (show (c < 3) ∧ (c < 3) ∧ (0 ≤ (k : Int) ∧ (k : Int) < 5) from ⟨by omega, by omega, by omega⟩) ?_
      refine aw_bV lX0_50 (as := [aI (ρ 8 c (k : Int))]) (rest := []) (t := 1) (c := c) (by decide) (by decide) (show c < 3 by omega) rfl rfl (Nat.le_of_ble_eq_true rfl) rfl dX0_oneDay_115 (cC_isThere l (ρ 8 c (k : Int)) c (by omega) ρ (faN (seN r (r 0).toNat) k) hT2 hwk ⟨by omega, by omega⟩) (fun wh3 => ?_) (fun wh3 => ?_)
      · have ep : (faN (seN r (r 0).toNat) k) (8 + (k : Int)) = (ρ 8 c (k : Int)) := by omega
        have bp2 := hwk.pe (p := (ρ 8 c (k : Int))) (by omega) (by omega)
        have rp2 := hT2.pe (p := (ρ 8 c (k : Int))) (by omega) (by omega)
        have bb2 := beR_rng hwk (p := (ρ 8 c (k : Int))) (by omega) (by omega)
        have ep1 : (faN (seN r (r 0).toNat) k) (aOf ((faN (seN r (r 0).toNat) k) (8 + (k : Int))) 2) = (faN (seN r (r 0).toNat) k) (aOf (ρ 8 c (k : Int)) 2) := by rw [ep]
        have ep2 : beR (faN (seN r (r 0).toNat) k) ((faN (seN r (r 0).toNat) k) (8 + (k : Int))) = beR (faN (seN r (r 0).toNat) k) (ρ 8 c (k : Int)) := by rw [ep]
        refine aw_ieq dX0_oneDay_118 (tgt := 141) (by decide) ⟨by omega, by omega⟩ (fun wh4 => absurd wh4 (by decide)) (fun wh4 => ?_)
        refine aw_b kX0_ok bX0_oneDay_121_ok (Cs := [c < 3, c < 3, 0 ≤ ρ 8 c (k : Int) ∧ ρ 8 c (k : Int) < 8]) (pc' := 129) (L' := [some (aR 1 c), some (aI (k : Int)), some (aI (ρ 8 c (k : Int)))]) (st' := [aI (ρ 8 c (k : Int)), aR 1 c, aI (ρ 4 c (ρ 8 c (k : Int)))]) (σ' := ρ) rfl (show (c < 3) ∧ (c < 3) ∧ (0 ≤ ρ 8 c (k : Int) ∧ ρ 8 c (k : Int) < 8) from ⟨by omega, by omega, by omega⟩) ?_
        refine aw_fV lX0_81 (as := [aI (ρ 8 c (k : Int))]) (rest := [aI (ρ 4 c (ρ 8 c (k : Int)))]) (t := 1) (c := c) (by decide) (by decide) (show c < 3 by omega) rfl rfl (Nat.le_of_ble_eq_true rfl) rfl dX0_oneDay_129 (cC_bearing l (ρ 8 c (k : Int)) c (by omega) ρ (faN (seN r (r 0).toNat) k) hT2 hwk (by omega) (by omega)) ?_
        refine aw_clt dX0_oneDay_132 (tgt := 141) (by decide) ⟨by omega, by omega⟩ ⟨by omega, by omega⟩ (fun wh5 => ?_) (fun wh5 => ?_)
        · refine aw_b kX0_ok bX0_oneDay_141_ok (Cs := []) (pc' := 101) (L' := [some (aR 1 c), some (aI ((k : Int) + 1)), some (aI (ρ 8 c (k : Int)))]) (st' := []) (σ' := ρ) rfl trivial ?_
          refine aw_drop [2] (L' := [some (aR 1 c), some (aI ((k : Int) + 1)), none]) rfl ?_
          exact ihk (by omega) _ (by rw [faN_row]; unfold faR; rw [if_pos (by omega)]; exact hT2) hF2 (by rw [h32]; simp only [feN]; rw [if_pos (by omega), Int.add_zero])
        · refine aw_b kX0_ok bX0_oneDay_135_ok (Cs := []) (pc' := 138) (L' := [some (aR 1 c), some (aI (k : Int)), some (aI (ρ 8 c (k : Int)))]) (st' := [aI (ρ 8 c (k : Int)), aI (k : Int), aR 1 c]) (σ' := ρ) rfl trivial ?_
          refine aw_callV lX0_84 (as := [aI (k : Int), aI (ρ 8 c (k : Int))]) (rest := []) (t := 1) (c := c) (by decide) (by decide) (show c < 3 by omega) rfl rfl (Nat.le_of_ble_eq_true rfl) rfl dX0_oneDay_138 (cC_fall l (k : Int) (ρ 8 c (k : Int)) c hc ρ (faN (seN r (r 0).toNat) k) hT2 hwk (by omega) (by omega) (by omega) ep (by omega) (by omega)) ?_
          rintro _ ρ9 ⟨rfl, hR9, hF9, h39⟩
          refine aw_b kX0_ok bX0_oneDay_141_ok (Cs := []) (pc' := 101) (L' := [some (aR 1 c), some (aI ((k : Int) + 1)), some (aI (ρ 8 c (k : Int)))]) (st' := []) (σ' := ρ9) rfl trivial ?_
          refine aw_drop [2] (L' := [some (aR 1 c), some (aI ((k : Int) + 1)), none]) rfl ?_
          exact ihk (by omega) _ (by rw [faN_row]; exact hR9) (aFr_tr hF2 hF9) (by rw [h39, h32]; simp only [feN]; rw [if_neg (by omega)])
      · refine aw_ieq dX0_oneDay_118 (tgt := 141) (by decide) ⟨by omega, by omega⟩ (fun wh6 => ?_) (fun wh6 => absurd wh6 (by decide))
        refine aw_b kX0_ok bX0_oneDay_141_ok (Cs := []) (pc' := 101) (L' := [some (aR 1 c), some (aI ((k : Int) + 1)), some (aI (ρ 8 c (k : Int)))]) (st' := []) (σ' := ρ) rfl trivial ?_
        refine aw_drop [2] (L' := [some (aR 1 c), some (aI ((k : Int) + 1)), none]) rfl ?_
        exact ihk (by omega) _ (by rw [faN_row]; unfold faR; rw [if_pos (by omega)]; exact hT2) hF2 (by rw [h32]; simp only [feN]; rw [if_pos (by omega), Int.add_zero])
  · have bp := hwn.pe (p := (n : Int)) (by omega) (by omega)
    have rp := hT.pe (p := (n : Int)) (by omega) (by omega)
    have bo := off_rng (seN r n) (n : Int)
    have no := nb_cases (off (seN r n) (n : Int))
    have bf := foF_rng (kind := τ 2 c (n : Int)) (f := τ 3 c (n : Int)) (by omega)
    have bsw := swR_rng hwn (p := (n : Int)) (by omega) (by omega)
    refine aw_b kX0_ok bX0_oneDay_25_ok (Cs := [c < 3, c < 3, 0 ≤ (n : Int) ∧ (n : Int) < 8]) (pc' := 32) (L' := [some (aR 1 c), some (aI (n : Int)), none]) (st' := [aI (-1), aI (τ 6 c (n : Int))]) (σ' := τ) rfl (show (c < 3) ∧ (c < 3) ∧ (0 ≤ (n : Int) ∧ (n : Int) < 8) from ⟨by omega, by omega, by omega⟩) ?_
    refine aw_cne dX0_oneDay_32 (tgt := 70) (by decide) ⟨by omega, by omega⟩ ⟨by omega, by omega⟩ (fun wh7 => ?_) (fun wh7 => ?_)
    · refine aw_b kX0_ok bX0_oneDay_70_ok (Cs := [c < 3, c < 3, c < 3, 0 ≤ (n : Int) ∧ (n : Int) < 8]) (pc' := 85) (L' := [some (aR 1 c), some (aI (n : Int)), none]) (st' := [aI (n : Int), aR 1 c, aI (τ 4 c (n : Int)), aI 99, aI (n : Int), aR 4 c]) (σ' := τ) rfl (show (c < 3) ∧ (c < 3) ∧ (c < 3) ∧ (0 ≤ (n : Int) ∧ (n : Int) < 8) from ⟨by omega, by omega, by omega, by omega⟩) ?_
      refine aw_fV lX0_74 (as := [aI (n : Int)]) (rest := [aI (τ 4 c (n : Int)), aI 99, aI (n : Int), aR 4 c]) (t := 1) (c := c) (by decide) (by decide) (show c < 3 by omega) rfl rfl (Nat.le_of_ble_eq_true rfl) rfl dX0_oneDay_85 (cC_showing l (n : Int) c hc τ (seN r n) hT hwn (by omega) (by omega) (by omega)) ?_
      refine aw_b kX0_ok bX0_oneDay_88_ok (Cs := []) (pc' := 89) (L' := [some (aR 1 c), some (aI (n : Int)), none]) (st' := [aI ((τ 4 c (n : Int)) + (swR (seN r n) (n : Int))), aI 99, aI (n : Int), aR 4 c]) (σ' := τ) rfl trivial ?_
      refine aw_min lX0_78 (rest := [aI (n : Int), aR 4 c]) (by decide) (Nat.le_of_ble_eq_true rfl) dX0_oneDay_89 (x := 99) (y := (τ 4 c (n : Int)) + (swR (seN r n) (n : Int))) ⟨by omega, by omega⟩ ⟨by omega, by omega⟩ ?_
      refine aw_b kX0_ok bX0_oneDay_92_ok (Cs := [c < 3, 0 ≤ (n : Int) ∧ (n : Int) < 8]) (pc' := 93) (L' := [some (aR 1 c), some (aI (n : Int)), none]) (st' := []) (σ' := aUp τ 4 c (n : Int) (if (τ 4 c (n : Int)) + (swR (seN r n) (n : Int)) < 99 then (τ 4 c (n : Int)) + (swR (seN r n) (n : Int)) else 99)) rfl (show (c < 3) ∧ (0 ≤ (n : Int) ∧ (n : Int) < 8) from ⟨by omega, by omega⟩) ?_
      refine aw_b kX0_ok bX0_oneDay_93_ok (Cs := []) (pc' := 17) (L' := [some (aR 1 c), some (aI ((n : Int) + 1)), none]) (st' := []) (σ' := aUp τ 4 c (n : Int) (if (τ 4 c (n : Int)) + (swR (seN r n) (n : Int)) < 99 then (τ 4 c (n : Int)) + (swR (seN r n) (n : Int)) else 99)) rfl trivial ?_
      exact ihn (by omega) _ (by rw [seN_row, seR_in (by omega)]; exact Rep_known' hT hwn (by omega) (by omega) (by rw [rp.2.2.1]; split <;> split <;> omega)) (aFr_tr hF (aFr_up (cb (by decide)))) (by rw [aUp_tag (by decide)]; exact h3)
    · refine aw_b kX0_ok bX0_oneDay_35_ok (Cs := [c < 3, c < 3, c < 3, 0 ≤ (n : Int) ∧ (n : Int) < 8, c < 3, c < 3, 0 ≤ (n : Int) ∧ (n : Int) < 8, c < 3, c < 3, 0 ≤ (n : Int) ∧ (n : Int) < 8]) (pc' := 59) (L' := [some (aR 1 c), some (aI (n : Int)), none]) (st' := [aI (τ 3 c (n : Int)), aI (τ 2 c (n : Int)), aI (τ 4 c (n : Int)), aI 0, aI (n : Int), aR 4 c]) (σ' := τ) rfl (show (c < 3) ∧ (c < 3) ∧ (c < 3) ∧ (0 ≤ (n : Int) ∧ (n : Int) < 8) ∧ (c < 3) ∧ (c < 3) ∧ (0 ≤ (n : Int) ∧ (n : Int) < 8) ∧ (c < 3) ∧ (c < 3) ∧ (0 ≤ (n : Int) ∧ (n : Int) < 8) from ⟨by omega, by omega, by omega, by omega, by omega, by omega, by omega, by omega, by omega, by omega⟩) ?_
      refine aw_fS lX0_66 (as := [aI (τ 2 c (n : Int)), aI (τ 3 c (n : Int))]) (rest := [aI (τ 4 c (n : Int)), aI 0, aI (n : Int), aR 4 c]) (by decide) rfl (Nat.le_of_ble_eq_true rfl) rfl dX0_oneDay_59 (cC_forgotten l (τ 2 c (n : Int)) (τ 3 c (n : Int)) τ ⟨by omega, by omega⟩ ⟨by omega, by omega⟩) ?_
      refine aw_b kX0_ok bX0_oneDay_62_ok (Cs := []) (pc' := 63) (L' := [some (aR 1 c), some (aI (n : Int)), none]) (st' := [aI ((τ 4 c (n : Int)) - (foF (τ 2 c (n : Int)) (τ 3 c (n : Int)))), aI 0, aI (n : Int), aR 4 c]) (σ' := τ) rfl trivial ?_
      refine aw_max lX0_69 (rest := [aI (n : Int), aR 4 c]) (by decide) (Nat.le_of_ble_eq_true rfl) dX0_oneDay_63 (x := 0) (y := (τ 4 c (n : Int)) - (foF (τ 2 c (n : Int)) (τ 3 c (n : Int)))) ⟨by omega, by omega⟩ ⟨by omega, by omega⟩ ?_
      refine aw_b kX0_ok bX0_oneDay_66_ok (Cs := [c < 3, 0 ≤ (n : Int) ∧ (n : Int) < 8]) (pc' := 93) (L' := [some (aR 1 c), some (aI (n : Int)), none]) (st' := []) (σ' := aUp τ 4 c (n : Int) (if 0 < (τ 4 c (n : Int)) - (foF (τ 2 c (n : Int)) (τ 3 c (n : Int))) then (τ 4 c (n : Int)) - (foF (τ 2 c (n : Int)) (τ 3 c (n : Int))) else 0)) rfl (show (c < 3) ∧ (0 ≤ (n : Int) ∧ (n : Int) < 8) from ⟨by omega, by omega⟩) ?_
      refine aw_b kX0_ok bX0_oneDay_93_ok (Cs := []) (pc' := 17) (L' := [some (aR 1 c), some (aI ((n : Int) + 1)), none]) (st' := []) (σ' := aUp τ 4 c (n : Int) (if 0 < (τ 4 c (n : Int)) - (foF (τ 2 c (n : Int)) (τ 3 c (n : Int))) then (τ 4 c (n : Int)) - (foF (τ 2 c (n : Int)) (τ 3 c (n : Int))) else 0)) rfl trivial ?_
      exact ihn (by omega) _ (by rw [seN_row, seR_home (by omega)]; exact Rep_known' hT hwn (by omega) (by omega) (by rw [rp.1, rp.2.1, rp.2.2.1]; split <;> split <;> omega)) (aFr_tr hF (aFr_up (cb (by decide)))) (by rw [aUp_tag (by decide)]; exact h3)
set_option maxRecDepth 10000 in
theorem cC_pass (l : Launch) (m : Nat) (c : Nat) (hc : c < 3) (σ : aS) (r : aRw) (hR : Rep σ c r) (hw : WF r) (hm : m ≤ 200) (hd : r 1 + m ≤ 999999) : AM l 4 mX0_pass [aR 1 c, aI (m : Int)] σ (PR c σ (dysR r m)) := by
  have bn := hw.1
  have en := hR.n
  refine am_of (by decide) (Nat.le_of_ble_eq_true rfl) (L := [some (aR 1 c), some (aI (m : Int)), none]) rfl ?_
  refine aw_b kX0_ok bX0_pass_0_ok (Cs := []) (pc' := 2) (L' := [some (aR 1 c), some (aI (m : Int)), some (aI 0)]) (st' := []) (σ' := σ) rfl trivial ?_
  refine aloop (P := fun n : Nat => ∀ (τ : aS) (hT : Rep τ c (dysR r n)) (hF : aFr (Cb c) σ τ), AW l 4 mX0_pass _ 2 [some (aR 1 c), some (aI (m : Int)), some (aI (n : Int))] [] τ) m (fun n hn ihn τ hT hF => ?_) σ hR aFr_rf
  have e0 := dysR_0 r n
  refine aw_b kX0_ok bX0_pass_2_ok (Cs := []) (pc' := 4) (L' := [some (aR 1 c), some (aI (m : Int)), some (aI (n : Int))]) (st' := [aI (m : Int), aI (n : Int)]) (σ' := τ) rfl trivial ?_
  refine aw_cge dX0_pass_4 (tgt := 17) (by decide) ⟨by omega, by omega⟩ ⟨by omega, by omega⟩ (fun wh1 => ?_) (fun wh1 => ?_)
  · exact aw_vret dX0_pass_17 rfl ⟨rfl, by rw [show n = m by omega] at hT; exact hT, hF⟩
  · refine aw_b kX0_ok bX0_pass_7_ok (Cs := []) (pc' := 8) (L' := [some (aR 1 c), some (aI (m : Int)), some (aI (n : Int))]) (st' := [aR 1 c]) (σ' := τ) rfl trivial ?_
    refine aw_callV lX0_63 (as := []) (rest := []) (t := 1) (c := c) (by decide) (by decide) (show c < 3 by omega) rfl rfl (Nat.le_of_ble_eq_true rfl) rfl dX0_pass_8 (cC_oneDay l c hc τ (dysR r n) hT (dysR_wf hw n) (by omega)) ?_
    rintro _ ρ9 ⟨rfl, hR9, hF9, h39⟩
    refine aw_b kX0_ok bX0_pass_11_ok (Cs := []) (pc' := 2) (L' := [some (aR 1 c), some (aI (m : Int)), some (aI ((n : Int) + 1))]) (st' := []) (σ' := ρ9) rfl trivial ?_
    exact ihn (by omega) _ hR9 (aFr_tr hF hF9)
theorem cbn {c b t : Nat} (h : c ≠ b) : ¬ Cb c t b := fun q => h q.2.2.symm
/-- a place of a row, behind an update -/
theorem aUp_at {σ : aS} {t c t' : Nat} {i x j : Int} : aUp σ t c i x t' c j = if t' = t ∧ j = i then x else σ t' c j := by
  unfold aUp
  by_cases h : t' = t ∧ j = i
  · rw [if_pos ⟨h.1, rfl, h.2⟩, if_pos h]
  · rw [if_neg (fun q => h ⟨q.1, q.2.2⟩), if_neg h]
set_option maxRecDepth 10000 in
theorem cC_becomes (l : Launch) (b c : Nat) (hb : b < 3) (hc : c < 3) (hne : c ≠ b) (σ : aS) (r : aRw) (hR : Rep σ b r) (hw : WF r) : AM l 0 mX0_becomes [aR 1 c, aR 1 b] σ (PR c σ r) := by
  have bn := hw.1
  refine am_of (by decide) (Nat.le_of_ble_eq_true rfl) (L := [some (aR 1 c), some (aR 1 b), none]) rfl ?_
  refine aw_b kX0_ok bX0_becomes_0_ok (Cs := [b < 3, c < 3, b < 3, c < 3, b < 3, c < 3]) (pc' := 26) (L' := [some (aR 1 c), some (aR 1 b), some (aI 0)]) (st' := []) (σ' := aUp (aUp (aUp σ 1 c 0 (σ 1 b 0)) 1 c 1 ((aUp σ 1 c 0 (σ 1 b 0)) 1 b 1)) 1 c 2 ((aUp (aUp σ 1 c 0 (σ 1 b 0)) 1 c 1 ((aUp σ 1 c 0 (σ 1 b 0)) 1 b 1)) 1 b 2)) rfl (show (b < 3) ∧ (c < 3) ∧ (b < 3) ∧ (c < 3) ∧ (b < 3) ∧ (c < 3) from ⟨by omega, by omega, by omega, by omega, by omega, by omega⟩) ?_
  refine aloop (P := fun n : Nat => ∀ (τ : aS) (hF : aFr (Cb c) σ τ) (g1 : τ 1 c 0 = σ 1 b 0 ∧ τ 1 c 1 = σ 1 b 1 ∧ τ 1 c 2 = σ 1 b 2) (g2 : ∀ (t : Nat) (i : Int), 2 ≤ t → t ≤ 6 → 0 ≤ i → i < (n : Int) → τ t c i = σ t b i), AW l 0 mX0_becomes _ 26 [some (aR 1 c), some (aR 1 b), some (aI (n : Int))] [] τ) (8) (fun n hn ihn τ hF g1 g2 => ?_) _ (aFr_tr (aFr_tr (aFr_up (cb (by decide))) (aFr_up (cb (by decide)))) (aFr_up (cb (by decide)))) (by simp [aUp, hne, Ne.symm hne]) (fun t i _ _ _ h => by omega)
  refine aw_b kX0_ok bX0_becomes_26_ok (Cs := []) (pc' := 29) (L' := [some (aR 1 c), some (aR 1 b), some (aI (n : Int))]) (st' := [aI 8, aI (n : Int)]) (σ' := τ) rfl trivial ?_
  refine aw_cge dX0_becomes_29 (tgt := 98) (by decide) ⟨by omega, by omega⟩ ⟨by omega, by omega⟩ (fun wh1 => ?_) (fun wh1 => ?_)
  · refine aw_b kX0_ok bX0_becomes_98_ok (Cs := []) (pc' := 100) (L' := [some (aR 1 c), some (aR 1 b), some (aI 0)]) (st' := []) (σ' := τ) rfl trivial ?_
    have e8 : n = 8 := by omega
    subst e8
    refine aloop (P := fun k : Nat => ∀ (ρ : aS) (hF2 : aFr (Cb c) σ ρ) (g1 : ρ 1 c 0 = σ 1 b 0 ∧ ρ 1 c 1 = σ 1 b 1 ∧ ρ 1 c 2 = σ 1 b 2) (g3 : ∀ (t : Nat) (i : Int), 2 ≤ t → t ≤ 6 → 0 ≤ i → i < 8 → ρ t c i = σ t b i) (g4 : ∀ (t : Nat) (i : Int), 7 ≤ t → t ≤ 8 → 0 ≤ i → i < (k : Int) → ρ t c i = σ t b i), AW l 0 mX0_becomes _ 100 [some (aR 1 c), some (aR 1 b), some (aI (k : Int))] [] ρ) (5) (fun k hk ihk ρ hF2 g1 g3 g4 => ?_) τ hF g1 (fun t i t0 t1 i0 i1 => g2 t i t0 t1 i0 i1) (fun t i _ _ _ h => by omega)
    refine aw_b kX0_ok bX0_becomes_100_ok (Cs := []) (pc' := 102) (L' := [some (aR 1 c), some (aR 1 b), some (aI (k : Int))]) (st' := [aI 5, aI (k : Int)]) (σ' := ρ) rfl trivial ?_
    refine aw_cge dX0_becomes_102 (tgt := 135) (by decide) ⟨by omega, by omega⟩ ⟨by omega, by omega⟩ (fun wh2 => ?_) (fun wh2 => ?_)
    · exact aw_vret dX0_becomes_135 rfl ⟨rfl, ⟨by rw [g1.1, g1.2.1, g1.2.2]; exact hR.1, fun p h0 h1 => by rw [g3 2 p (by decide) (by decide) h0 (by omega), g3 3 p (by decide) (by decide) h0 (by omega), g3 4 p (by decide) (by decide) h0 (by omega), g3 5 p (by decide) (by decide) h0 (by omega), g3 6 p (by decide) (by decide) h0 (by omega)]; exact hR.pe h0 h1, fun f h0 h1 => by rw [g4 7 f (by decide) (by decide) h0 (by omega), g4 8 f (by decide) (by decide) h0 (by omega)]; exact hR.of h0 h1⟩, hF2⟩
    · refine aw_b kX0_ok bX0_becomes_105_ok (Cs := [c < 3, b < 3, b < 3, 0 ≤ (k : Int) ∧ (k : Int) < 5, c < 3, 0 ≤ (k : Int) ∧ (k : Int) < 5, c < 3, b < 3, b < 3, 0 ≤ (k : Int) ∧ (k : Int) < 5, c < 3, 0 ≤ (k : Int) ∧ (k : Int) < 5]) (pc' := 100) (L' := [some (aR 1 c), some (aR 1 b), some (aI ((k : Int) + 1))]) (st' := []) (σ' := aUp (aUp ρ 7 c (k : Int) (ρ 7 b (k : Int))) 8 c (k : Int) ((aUp ρ 7 c (k : Int) (ρ 7 b (k : Int))) 8 b (k : Int))) rfl (show (c < 3) ∧ (b < 3) ∧ (b < 3) ∧ (0 ≤ (k : Int) ∧ (k : Int) < 5) ∧ (c < 3) ∧ (0 ≤ (k : Int) ∧ (k : Int) < 5) ∧ (c < 3) ∧ (b < 3) ∧ (b < 3) ∧ (0 ≤ (k : Int) ∧ (k : Int) < 5) ∧ (c < 3) ∧ (0 ≤ (k : Int) ∧ (k : Int) < 5) from ⟨by omega, by omega, by omega, by omega, by omega, by omega, by omega, by omega, by omega, by omega, by omega, by omega⟩) ?_
      exact ihk (by omega) _ (aFr_tr (aFr_tr hF2 (aFr_up (cb (by decide)))) (aFr_up (cb (by decide)))) (by simp only [aUp_at]; simp; exact g1) (fun t i t0 t1 i0 i1 => by
        rw [aUp_tag (by omega), aUp_tag (by omega)]; exact g3 t i t0 t1 i0 i1) (fun t i t0 t1 i0 i1 => by
        have e := g4 t i t0 t1 i0
        have f7 := hF2 7 b (k : Int) (cbn hne)
        have f8 := hF2 8 b (k : Int) (cbn hne)
        rcases (show t = 7 ∨ t = 8 by omega) with rfl | rfl <;> by_cases hi : i = (k : Int) <;> simp [aUp, hi, hne, Ne.symm hne, f7, f8] <;> exact e (by omega))
  · refine aw_b kX0_ok bX0_becomes_32_ok (Cs := [c < 3, b < 3, b < 3, 0 ≤ (n : Int) ∧ (n : Int) < 8, c < 3, 0 ≤ (n : Int) ∧ (n : Int) < 8, c < 3, b < 3, b < 3, 0 ≤ (n : Int) ∧ (n : Int) < 8, c < 3, 0 ≤ (n : Int) ∧ (n : Int) < 8, c < 3, b < 3, b < 3, 0 ≤ (n : Int) ∧ (n : Int) < 8, c < 3, 0 ≤ (n : Int) ∧ (n : Int) < 8, c < 3, b < 3, b < 3, 0 ≤ (n : Int) ∧ (n : Int) < 8, c < 3, 0 ≤ (n : Int) ∧ (n : Int) < 8, c < 3, b < 3, b < 3, 0 ≤ (n : Int) ∧ (n : Int) < 8, c < 3, 0 ≤ (n : Int) ∧ (n : Int) < 8]) (pc' := 26) (L' := [some (aR 1 c), some (aR 1 b), some (aI ((n : Int) + 1))]) (st' := []) (σ' := aUp (aUp (aUp (aUp (aUp τ 2 c (n : Int) (τ 2 b (n : Int))) 3 c (n : Int) ((aUp τ 2 c (n : Int) (τ 2 b (n : Int))) 3 b (n : Int))) 4 c (n : Int) ((aUp (aUp τ 2 c (n : Int) (τ 2 b (n : Int))) 3 c (n : Int) ((aUp τ 2 c (n : Int) (τ 2 b (n : Int))) 3 b (n : Int))) 4 b (n : Int))) 5 c (n : Int) ((aUp (aUp (aUp τ 2 c (n : Int) (τ 2 b (n : Int))) 3 c (n : Int) ((aUp τ 2 c (n : Int) (τ 2 b (n : Int))) 3 b (n : Int))) 4 c (n : Int) ((aUp (aUp τ 2 c (n : Int) (τ 2 b (n : Int))) 3 c (n : Int) ((aUp τ 2 c (n : Int) (τ 2 b (n : Int))) 3 b (n : Int))) 4 b (n : Int))) 5 b (n : Int))) 6 c (n : Int) ((aUp (aUp (aUp (aUp τ 2 c (n : Int) (τ 2 b (n : Int))) 3 c (n : Int) ((aUp τ 2 c (n : Int) (τ 2 b (n : Int))) 3 b (n : Int))) 4 c (n : Int) ((aUp (aUp τ 2 c (n : Int) (τ 2 b (n : Int))) 3 c (n : Int) ((aUp τ 2 c (n : Int) (τ 2 b (n : Int))) 3 b (n : Int))) 4 b (n : Int))) 5 c (n : Int) ((aUp (aUp (aUp τ 2 c (n : Int) (τ 2 b (n : Int))) 3 c (n : Int) ((aUp τ 2 c (n : Int) (τ 2 b (n : Int))) 3 b (n : Int))) 4 c (n : Int) ((aUp (aUp τ 2 c (n : Int) (τ 2 b (n : Int))) 3 c (n : Int) ((aUp τ 2 c (n : Int) (τ 2 b (n : Int))) 3 b (n : Int))) 4 b (n : Int))) 5 b (n : Int))) 6 b (n : Int))) rfl (show (c < 3) ∧ (b < 3) ∧ (b < 3) ∧ (0 ≤ (n : Int) ∧ (n : Int) < 8) ∧ (c < 3) ∧ (0 ≤ (n : Int) ∧ (n : Int) < 8) ∧ (c < 3) ∧ (b < 3) ∧ (b < 3) ∧ (0 ≤ (n : Int) ∧ (n : Int) < 8) ∧ (c < 3) ∧ (0 ≤ (n : Int) ∧ (n : Int) < 8) ∧ (c < 3) ∧ (b < 3) ∧ (b < 3) ∧ (0 ≤ (n : Int) ∧ (n : Int) < 8) ∧ (c < 3) ∧ (0 ≤ (n : Int) ∧ (n : Int) < 8) ∧ (c < 3) ∧ (b < 3) ∧ (b < 3) ∧ (0 ≤ (n : Int) ∧ (n : Int) < 8) ∧ (c < 3) ∧ (0 ≤ (n : Int) ∧ (n : Int) < 8) ∧ (c < 3) ∧ (b < 3) ∧ (b < 3) ∧ (0 ≤ (n : Int) ∧ (n : Int) < 8) ∧ (c < 3) ∧ (0 ≤ (n : Int) ∧ (n : Int) < 8) from ⟨by omega, by omega, by omega, by omega, by omega, by omega, by omega, by omega, by omega, by omega, by omega, by omega, by omega, by omega, by omega, by omega, by omega, by omega, by omega, by omega, by omega, by omega, by omega, by omega, by omega, by omega, by omega, by omega, by omega, by omega⟩) ?_
    exact ihn (by omega) _ (aFr_tr (aFr_tr (aFr_tr (aFr_tr (aFr_tr hF (aFr_up (cb (by decide)))) (aFr_up (cb (by decide)))) (aFr_up (cb (by decide)))) (aFr_up (cb (by decide)))) (aFr_up (cb (by decide)))) (by simp only [aUp_at]; simp; exact g1) (fun t i t0 t1 i0 i1 => by
      have e := g2 t i t0 t1 i0
      have f2 := hF 2 b (n : Int) (cbn hne)
      have f3 := hF 3 b (n : Int) (cbn hne)
      have f4 := hF 4 b (n : Int) (cbn hne)
      have f5 := hF 5 b (n : Int) (cbn hne)
      have f6 := hF 6 b (n : Int) (cbn hne)
      rcases (show t = 2 ∨ t = 3 ∨ t = 4 ∨ t = 5 ∨ t = 6 by omega) with rfl | rfl | rfl | rfl | rfl <;> by_cases hi : i = (n : Int) <;> simp [aUp, hi, hne, Ne.symm hne, f2, f3, f4, f5, f6] <;> exact e (by omega))
