/-! ===== the class: falls, a day ===== -/
theorem Rep_day {σ : aS} {c : Nat} {r : aRw} (h : Rep σ c r) (hw : WF r) (x : Int) : Rep (aUp σ 1 c 1 x) c (rUp r 1 x) := by
  obtain ⟨⟨a, b, d⟩, e, k⟩ := h
  have bn := hw.1
  refine ⟨⟨by rw [aUp_idx (by decide), rUp_ne (by decide)]; exact a, by rw [aUp_same, rUp_eq], by rw [aUp_idx (by decide), rUp_ne (by decide)]; exact d⟩, fun p h0 h1 => ?_, fun g h0 h1 => ?_⟩
  · rw [rUp_ne (by decide)] at h1
    have z := e p h0 h1
    have b0 := aOf_rng (p := p) (w := 0) h0 (by omega) (by decide) (by decide)
    have b1 := aOf_rng (p := p) (w := 1) h0 (by omega) (by decide) (by decide)
    have b2 := aOf_rng (p := p) (w := 2) h0 (by omega) (by decide) (by decide)
    have b3 := aOf_rng (p := p) (w := 3) h0 (by omega) (by decide) (by decide)
    rw [aUp_tag (by decide), aUp_tag (by decide), aUp_tag (by decide), aUp_tag (by decide), aUp_tag (by decide), rUp_ne (by omega), rUp_ne (by omega), rUp_ne (by omega), rUp_ne (by omega), off_cong (r := r) (r' := rUp r 1 x) (fun f f0 f1 => rUp_ne (by omega))]
    exact z
  · rw [aUp_tag (by decide), aUp_tag (by decide), rUp_ne (by omega), rUp_ne (by omega)]; exact k g h0 h1
theorem Rep_falls {σ : aS} {c : Nat} {r : aRw} (h : Rep σ c r) (hw : WF r) (x : Int) : Rep (aUp σ 1 c 2 x) c (rUp r 2 x) := by
  obtain ⟨⟨a, b, d⟩, e, k⟩ := h
  have bn := hw.1
  refine ⟨⟨by rw [aUp_idx (by decide), rUp_ne (by decide)]; exact a, by rw [aUp_idx (by decide), rUp_ne (by decide)]; exact b, by rw [aUp_same, rUp_eq]⟩, fun p h0 h1 => ?_, fun g h0 h1 => ?_⟩
  · rw [rUp_ne (by decide)] at h1
    have z := e p h0 h1
    have b0 := aOf_rng (p := p) (w := 0) h0 (by omega) (by decide) (by decide)
    have b1 := aOf_rng (p := p) (w := 1) h0 (by omega) (by decide) (by decide)
    have b2 := aOf_rng (p := p) (w := 2) h0 (by omega) (by decide) (by decide)
    have b3 := aOf_rng (p := p) (w := 3) h0 (by omega) (by decide) (by decide)
    rw [aUp_tag (by decide), aUp_tag (by decide), aUp_tag (by decide), aUp_tag (by decide), aUp_tag (by decide), rUp_ne (by omega), rUp_ne (by omega), rUp_ne (by omega), rUp_ne (by omega), off_cong (r := r) (r' := rUp r 2 x) (fun f f0 f1 => rUp_ne (by omega))]
    exact z
  · rw [aUp_tag (by decide), aUp_tag (by decide), rUp_ne (by omega), rUp_ne (by omega)]; exact k g h0 h1
theorem Rep_kind {σ : aS} {c : Nat} {r : aRw} (h : Rep σ c r) (hw : WF r) {p : Int} (p0 : 0 ≤ p) (p1 : p < r 0) (x : Int) : Rep (aUp σ 2 c p x) c (rUp r (aOf p 0) x) := by
  obtain ⟨⟨a, b, d⟩, e, k⟩ := h
  have bn := hw.1
  have b9 := aOf_rng (p := p) (w := 0) p0 (by omega) (by decide) (by decide)
  refine ⟨⟨by rw [aUp_tag (by decide), rUp_ne (by omega)]; exact a, by rw [aUp_tag (by decide), rUp_ne (by omega)]; exact b, by rw [aUp_tag (by decide), rUp_ne (by omega)]; exact d⟩, fun q h0 h1 => ?_, fun g h0 h1 => ?_⟩
  · rw [rUp_ne (by omega)] at h1
    have z := e q h0 h1
    rw [off_cong (r := r) (r' := rUp r (aOf p 0) x) (fun f f0 f1 => rUp_ne (by omega))]
    refine ⟨?_, ?_, ?_, ?_, ?_⟩
    · by_cases hq : q = p
      · rw [hq, aUp_same, rUp_eq]
      · rw [aUp_idx hq, rUp_ne (by unfold aOf; omega)]; exact z.1
    · rw [aUp_tag (by decide), rUp_ne (by unfold aOf; omega)]; exact z.2.1
    · rw [aUp_tag (by decide), rUp_ne (by unfold aOf; omega)]; exact z.2.2.1
    · rw [aUp_tag (by decide), rUp_ne (by unfold aOf; omega)]; exact z.2.2.2.1
    · rw [aUp_tag (by decide)]; exact z.2.2.2.2
  · rw [aUp_tag (by decide), aUp_tag (by decide), rUp_ne (by omega), rUp_ne (by omega)]; exact k g h0 h1
theorem Rep_fig {σ : aS} {c : Nat} {r : aRw} (h : Rep σ c r) (hw : WF r) {p : Int} (p0 : 0 ≤ p) (p1 : p < r 0) (x : Int) : Rep (aUp σ 3 c p x) c (rUp r (aOf p 1) x) := by
  obtain ⟨⟨a, b, d⟩, e, k⟩ := h
  have bn := hw.1
  have b9 := aOf_rng (p := p) (w := 1) p0 (by omega) (by decide) (by decide)
  refine ⟨⟨by rw [aUp_tag (by decide), rUp_ne (by omega)]; exact a, by rw [aUp_tag (by decide), rUp_ne (by omega)]; exact b, by rw [aUp_tag (by decide), rUp_ne (by omega)]; exact d⟩, fun q h0 h1 => ?_, fun g h0 h1 => ?_⟩
  · rw [rUp_ne (by omega)] at h1
    have z := e q h0 h1
    rw [off_cong (r := r) (r' := rUp r (aOf p 1) x) (fun f f0 f1 => rUp_ne (by omega))]
    refine ⟨?_, ?_, ?_, ?_, ?_⟩
    · rw [aUp_tag (by decide), rUp_ne (by unfold aOf; omega)]; exact z.1
    · by_cases hq : q = p
      · rw [hq, aUp_same, rUp_eq]
      · rw [aUp_idx hq, rUp_ne (by unfold aOf; omega)]; exact z.2.1
    · rw [aUp_tag (by decide), rUp_ne (by unfold aOf; omega)]; exact z.2.2.1
    · rw [aUp_tag (by decide), rUp_ne (by unfold aOf; omega)]; exact z.2.2.2.1
    · rw [aUp_tag (by decide)]; exact z.2.2.2.2
  · rw [aUp_tag (by decide), aUp_tag (by decide), rUp_ne (by omega), rUp_ne (by omega)]; exact k g h0 h1
theorem Rep_known {σ : aS} {c : Nat} {r : aRw} (h : Rep σ c r) (hw : WF r) {p : Int} (p0 : 0 ≤ p) (p1 : p < r 0) (x : Int) : Rep (aUp σ 4 c p x) c (rUp r (aOf p 2) x) := by
  obtain ⟨⟨a, b, d⟩, e, k⟩ := h
  have bn := hw.1
  have b9 := aOf_rng (p := p) (w := 2) p0 (by omega) (by decide) (by decide)
  refine ⟨⟨by rw [aUp_tag (by decide), rUp_ne (by omega)]; exact a, by rw [aUp_tag (by decide), rUp_ne (by omega)]; exact b, by rw [aUp_tag (by decide), rUp_ne (by omega)]; exact d⟩, fun q h0 h1 => ?_, fun g h0 h1 => ?_⟩
  · rw [rUp_ne (by omega)] at h1
    have z := e q h0 h1
    rw [off_cong (r := r) (r' := rUp r (aOf p 2) x) (fun f f0 f1 => rUp_ne (by omega))]
    refine ⟨?_, ?_, ?_, ?_, ?_⟩
    · rw [aUp_tag (by decide), rUp_ne (by unfold aOf; omega)]; exact z.1
    · rw [aUp_tag (by decide), rUp_ne (by unfold aOf; omega)]; exact z.2.1
    · by_cases hq : q = p
      · rw [hq, aUp_same, rUp_eq]
      · rw [aUp_idx hq, rUp_ne (by unfold aOf; omega)]; exact z.2.2.1
    · rw [aUp_tag (by decide), rUp_ne (by unfold aOf; omega)]; exact z.2.2.2.1
    · rw [aUp_tag (by decide)]; exact z.2.2.2.2
  · rw [aUp_tag (by decide), aUp_tag (by decide), rUp_ne (by omega), rUp_ne (by omega)]; exact k g h0 h1
theorem Rep_mate {σ : aS} {c : Nat} {r : aRw} (h : Rep σ c r) (hw : WF r) {p : Int} (p0 : 0 ≤ p) (p1 : p < r 0) (x : Int) : Rep (aUp σ 5 c p x) c (rUp r (aOf p 3) x) := by
  obtain ⟨⟨a, b, d⟩, e, k⟩ := h
  have bn := hw.1
  have b9 := aOf_rng (p := p) (w := 3) p0 (by omega) (by decide) (by decide)
  refine ⟨⟨by rw [aUp_tag (by decide), rUp_ne (by omega)]; exact a, by rw [aUp_tag (by decide), rUp_ne (by omega)]; exact b, by rw [aUp_tag (by decide), rUp_ne (by omega)]; exact d⟩, fun q h0 h1 => ?_, fun g h0 h1 => ?_⟩
  · rw [rUp_ne (by omega)] at h1
    have z := e q h0 h1
    rw [off_cong (r := r) (r' := rUp r (aOf p 3) x) (fun f f0 f1 => rUp_ne (by omega))]
    refine ⟨?_, ?_, ?_, ?_, ?_⟩
    · rw [aUp_tag (by decide), rUp_ne (by unfold aOf; omega)]; exact z.1
    · rw [aUp_tag (by decide), rUp_ne (by unfold aOf; omega)]; exact z.2.1
    · rw [aUp_tag (by decide), rUp_ne (by unfold aOf; omega)]; exact z.2.2.1
    · by_cases hq : q = p
      · rw [hq, aUp_same, rUp_eq]
      · rw [aUp_idx hq, rUp_ne (by unfold aOf; omega)]; exact z.2.2.2.1
    · rw [aUp_tag (by decide)]; exact z.2.2.2.2
  · rw [aUp_tag (by decide), aUp_tag (by decide), rUp_ne (by omega), rUp_ne (by omega)]; exact k g h0 h1
theorem Rep_cost {σ : aS} {c : Nat} {r : aRw} (h : Rep σ c r) (hw : WF r) {f : Int} (f0 : 0 ≤ f) (f1 : f < 5) (x : Int) : Rep (aUp σ 7 c f x) c (rUp r (3 + f) x) := by
  obtain ⟨⟨a, b, d⟩, e, k⟩ := h
  have bn := hw.1
  refine ⟨⟨by rw [aUp_tag (by decide), rUp_ne (by omega)]; exact a, by rw [aUp_tag (by decide), rUp_ne (by omega)]; exact b, by rw [aUp_tag (by decide), rUp_ne (by omega)]; exact d⟩, fun p h0 h1 => ?_, fun g h0 h1 => ?_⟩
  · rw [rUp_ne (by omega)] at h1
    have z := e p h0 h1
    have b0 := aOf_rng (p := p) (w := 0) h0 (by omega) (by decide) (by decide)
    have b1 := aOf_rng (p := p) (w := 1) h0 (by omega) (by decide) (by decide)
    have b2 := aOf_rng (p := p) (w := 2) h0 (by omega) (by decide) (by decide)
    have b3 := aOf_rng (p := p) (w := 3) h0 (by omega) (by decide) (by decide)
    rw [aUp_tag (by decide), aUp_tag (by decide), aUp_tag (by decide), aUp_tag (by decide), aUp_tag (by decide), rUp_ne (by omega), rUp_ne (by omega), rUp_ne (by omega), rUp_ne (by omega), off_cong (r := r) (r' := rUp r (3 + f) x) (fun g g0 g1 => rUp_ne (by omega))]
    exact z
  · refine ⟨?_, by rw [aUp_tag (by decide), rUp_ne (by omega)]; exact (k g h0 h1).2⟩
    by_cases hg : g = f
    · rw [hg, aUp_same, rUp_eq]
    · rw [aUp_idx hg, rUp_ne (by omega)]; exact (k g h0 h1).1
theorem Rep_fell {σ : aS} {c : Nat} {r : aRw} (h : Rep σ c r) (x : Int) : Rep (aUp σ 1 c 3 x) c r := h.fr (fun t i h1 h2 h3 => by
  by_cases ht : t = 1
  · subst ht; exact aUp_idx (fun q => h3 ⟨rfl, q⟩)
  · exact aUp_tag ht)
theorem seR_home {r : aRw} {p : Int} (h : off r p < 0) : seR r p = rUp r (aOf p 2) (if r (aOf p 2) < foF (r (aOf p 0)) (r (aOf p 1)) then 0 else r (aOf p 2) - foF (r (aOf p 0)) (r (aOf p 1))) := by
  unfold seR; rw [if_pos h]
theorem seR_in {r : aRw} {p : Int} (h : ¬ off r p < 0) : seR r p = rUp r (aOf p 2) (if 99 < r (aOf p 2) + swR r p then 99 else r (aOf p 2) + swR r p) := by
  unfold seR swR; rw [if_neg h, if_neg h]
theorem swR_rng {r : aRw} (hw : WF r) {p : Int} (h0 : 0 ≤ p) (h1 : p < r 0) : 0 ≤ swR r p ∧ swR r p ≤ 15 := by
  unfold swR
  split
  · decide
  · rename_i ho
    have hc := hw.co (f := off r p) (by omega) (by have := off_rng r p; omega)
    exact shCut (hw.pe h0 h1).2.1 hc _
/-- how many fall on a day -/
def feN (r : aRw) : Nat → Int
  | 0 => 0
  | n + 1 => feN r n + (if faN r n (8 + n) < 0 ∨ faN r n (aOf (faN r n (8 + n)) 2) < beR (faN r n) (faN r n (8 + n)) then 0 else 1)
theorem feN_rng (r : aRw) : ∀ n : Nat, 0 ≤ feN r n ∧ feN r n ≤ n
  | 0 => ⟨Int.le_refl 0, Int.le_refl 0⟩
  | n + 1 => by
    have h := feN_rng r n
    unfold feN
    split <;> omega
def feD (r : aRw) : Int := feN (seN r (r 0).toNat) 5
theorem feD_rng (r : aRw) : 0 ≤ feD r ∧ feD r ≤ 5 := feN_rng _ 5
set_option maxRecDepth 10000 in
theorem cC_fall (l : Launch) (f p : Int) (c : Nat) (hc : c < 3) (σ : aS) (r : aRw) (hR : Rep σ c r) (hw : WF r) (f0 : 0 ≤ f) (f1 : f < 5) (h0 : 0 ≤ p) (hp : r (8 + f) = p) (hk : ¬ r (aOf p 2) < beR r p) (h3 : 0 ≤ σ 1 c 3 ∧ σ 1 c 3 ≤ 1000) : AM l 2 mX0_fall [aR 1 c, aI f, aI p] σ (PQ c σ (faR r f) (σ 1 c 3 + 1)) := by
  have bn := hw.1
  have b2 := hw.2.2.1
  have g0 := hw.ho f0 f1
  have bp := hw.pe (p := p) h0 (by omega)
  have bpm := aOf_rng (p := p) (w := 3) h0 (by omega) (by decide) (by decide)
  refine am_of (by decide) (Nat.le_of_ble_eq_true rfl) (L := [some (aR 1 c), some (aI f), some (aI p), none]) rfl ?_
  refine aw_b kX0_ok bX0_fall_0_ok (Cs := [c < 3, c < 3, c < 3]) (pc' := 20) (L' := [some (aR 1 c), some (aI f), some (aI p), none]) (st' := [aI (((aUp σ 1 c 3 ((σ 1 c 3) + 1)) 1 c 2) + 1), aI 999, aR 1 c]) (σ' := aUp σ 1 c 3 ((σ 1 c 3) + 1)) rfl (show (c < 3) ∧ (c < 3) ∧ (c < 3) from ⟨by omega, by omega, by omega⟩) ?_
  have e2 : (aUp σ 1 c 3 (σ 1 c 3 + 1)) 1 c 2 = r 2 := by rw [aUp_idx (by decide)]; exact hR.1.2.2
  refine aw_min lX0_78 (rest := [aR 1 c]) (by decide) (Nat.le_of_ble_eq_true rfl) dX0_fall_20 (x := 999) (y := ((aUp σ 1 c 3 ((σ 1 c 3) + 1)) 1 c 2) + 1) ⟨by omega, by omega⟩ ⟨by omega, by omega⟩ ?_
  refine aw_b kX0_ok bX0_fall_23_ok (Cs := [c < 3]) (pc' := 28) (L' := [some (aR 1 c), some (aI f), some (aI p), none]) (st' := [aI f, aR 1 c]) (σ' := aUp (aUp σ 1 c 3 ((σ 1 c 3) + 1)) 1 c 2 (if ((aUp σ 1 c 3 ((σ 1 c 3) + 1)) 1 c 2) + 1 < 999 then ((aUp σ 1 c 3 ((σ 1 c 3) + 1)) 1 c 2) + 1 else 999)) rfl (show c < 3 from by omega) ?_
  have hRf : Rep (aUp (aUp σ 1 c 3 (σ 1 c 3 + 1)) 1 c 2 (if (aUp σ 1 c 3 (σ 1 c 3 + 1)) 1 c 2 + 1 < 999 then (aUp σ 1 c 3 (σ 1 c 3 + 1)) 1 c 2 + 1 else 999)) c (rUp r 2 (if 999 < r 2 + 1 then 999 else r 2 + 1)) := by
    have z := Rep_falls (Rep_fell hR (σ 1 c 3 + 1)) hw (if (aUp σ 1 c 3 (σ 1 c 3 + 1)) 1 c 2 + 1 < 999 then (aUp σ 1 c 3 (σ 1 c 3 + 1)) 1 c 2 + 1 else 999)
    rw [e2] at z ⊢
    rw [show (if 999 < r 2 + 1 then (999 : Int) else r 2 + 1) = (if r 2 + 1 < 999 then r 2 + 1 else 999) by split <;> split <;> omega]
    exact z
  have hwf := WF_falls hw (x := (if 999 < r 2 + 1 then 999 else r 2 + 1)) (by split <;> omega)
  have h1R := f1R_wf hw f0 f1
  have e0 : f1R r f 0 = r 0 := f1R_at _ _ (by decide) (by omega)
  have em : f1R r f (aOf p 3) = r (aOf p 3) := f1R_at _ _ (by omega) (by omega)
  refine aw_callV lX0_53 (as := [aI f]) (rest := []) (t := 1) (c := c) (by decide) (by decide) (show c < 3 by omega) rfl rfl (Nat.le_of_ble_eq_true rfl) rfl dX0_fall_28 (cC_vacate l f c hc (aUp (aUp σ 1 c 3 ((σ 1 c 3) + 1)) 1 c 2 (if ((aUp σ 1 c 3 ((σ 1 c 3) + 1)) 1 c 2) + 1 < 999 then ((aUp σ 1 c 3 ((σ 1 c 3) + 1)) 1 c 2) + 1 else 999)) _ hRf hwf ⟨by omega, by omega⟩) ?_
  rintro _ τ ⟨rfl, hRt, hFt, h3t⟩
  have hRτ : Rep τ c (f1R r f) := by have z := hRt; unfold emR at z; rw [if_pos ⟨f0, f1⟩] at z; exact z
  have e3 : τ 1 c 3 = σ 1 c 3 + 1 := by rw [h3t, aUp_idx (by decide), aUp_same]
  have eF : aFr (Cb c) σ τ := aFr_tr (aFr_tr (aFr_up (cb (by decide))) (aFr_up (cb (by decide)))) hFt
  have et := hRτ.pe (p := p) h0 (by omega)
  have en := hRτ.n
  refine aw_b kX0_ok bX0_fall_31_ok (Cs := [c < 3, c < 3, 0 ≤ p ∧ p < 8]) (pc' := 40) (L' := [some (aR 1 c), some (aI f), some (aI p), some (aI (τ 5 c p))]) (st' := [aI (τ 5 c p), aR 1 c]) (σ' := τ) rfl (show (c < 3) ∧ (c < 3) ∧ (0 ≤ p ∧ p < 8) from ⟨by omega, by omega, by omega⟩) ?_
  refine aw_bV lX0_50 (as := [aI (τ 5 c p)]) (rest := []) (t := 1) (c := c) (by decide) (by decide) (show c < 3 by omega) rfl rfl (Nat.le_of_ble_eq_true rfl) rfl dX0_fall_40 (cC_isThere l (τ 5 c p) c (by omega) τ (f1R r f) hRτ h1R ⟨by omega, by omega⟩) (fun wh1 => ?_) (fun wh1 => ?_)
  · have ez := hRτ.pe (p := (τ 5 c p)) (by omega) (by omega)
    have bo := off_rng (f1R r f) (τ 5 c p)
    have no := nb_cases (off (f1R r f) (τ 5 c p))
    have bz := hw.pe (p := (τ 5 c p)) (by omega) (by omega)
    have bw := beR_rng hw (p := (τ 5 c p)) (by omega) (by omega)
    have c0 := aOf_rng (p := (τ 5 c p)) (w := 0) (by omega) (by omega) (by decide) (by decide)
    have c1 := aOf_rng (p := (τ 5 c p)) (w := 1) (by omega) (by omega) (by decide) (by decide)
    have c2 := aOf_rng (p := (τ 5 c p)) (w := 2) (by omega) (by omega) (by decide) (by decide)
    have ek : f1R r f (aOf (τ 5 c p) 2) = r (aOf (τ 5 c p) 2) := f1R_at _ _ (by omega) (by omega)
    have eb : beR (f1R r f) (τ 5 c p) = beR r (τ 5 c p) := by unfold beR; rw [f1R_at _ _ (by omega) (by omega), f1R_at _ _ (by omega) (by omega)]
    refine aw_ieq dX0_fall_43 (tgt := 84) (by decide) ⟨by omega, by omega⟩ (fun wh2 => absurd wh2 (by decide)) (fun wh2 => ?_)
    refine aw_b kX0_ok bX0_fall_46_ok (Cs := [c < 3, c < 3, 0 ≤ τ 5 c p ∧ τ 5 c p < 8]) (pc' := 53) (L' := [some (aR 1 c), some (aI f), some (aI p), some (aI (τ 5 c p))]) (st' := [aI (-1), aI (τ 6 c (τ 5 c p))]) (σ' := τ) rfl (show (c < 3) ∧ (c < 3) ∧ (0 ≤ τ 5 c p ∧ τ 5 c p < 8) from ⟨by omega, by omega, by omega⟩) ?_
    refine aw_cne dX0_fall_53 (tgt := 84) (by decide) ⟨by omega, by omega⟩ ⟨by omega, by omega⟩ (fun wh3 => ?_) (fun wh3 => ?_)
    · exact aw_vret dX0_fall_84 rfl ⟨rfl, by have ex : r (aOf (r (8 + f)) 3) = τ 5 c p := (by rw [hp]; omega); unfold faR; rw [if_neg (by rw [hp]; omega), if_neg (by rw [ex]; omega)]; exact hRτ, eF, e3⟩
    · refine aw_b kX0_ok bX0_fall_56_ok (Cs := [c < 3, c < 3, 0 ≤ τ 5 c p ∧ τ 5 c p < 8]) (pc' := 64) (L' := [some (aR 1 c), some (aI f), some (aI p), some (aI (τ 5 c p))]) (st' := [aI (τ 5 c p), aR 1 c, aI (τ 4 c (τ 5 c p))]) (σ' := τ) rfl (show (c < 3) ∧ (c < 3) ∧ (0 ≤ τ 5 c p ∧ τ 5 c p < 8) from ⟨by omega, by omega, by omega⟩) ?_
      refine aw_fV lX0_81 (as := [aI (τ 5 c p)]) (rest := [aI (τ 4 c (τ 5 c p))]) (t := 1) (c := c) (by decide) (by decide) (show c < 3 by omega) rfl rfl (Nat.le_of_ble_eq_true rfl) rfl dX0_fall_64 (cC_bearing l (τ 5 c p) c (by omega) τ (f1R r f) hRτ h1R (by omega) (by omega)) ?_
      refine aw_cge dX0_fall_67 (tgt := 84) (by decide) ⟨by omega, by omega⟩ ⟨by omega, by omega⟩ (fun wh4 => ?_) (fun wh4 => ?_)
      · exact aw_vret dX0_fall_84 rfl ⟨rfl, by have ex : r (aOf (r (8 + f)) 3) = τ 5 c p := (by rw [hp]; omega); unfold faR; rw [if_neg (by rw [hp]; omega), if_neg (by rw [ex]; omega)]; exact hRτ, eF, e3⟩
      · refine aw_b kX0_ok bX0_fall_70_ok (Cs := [c < 3, c < 3, 0 ≤ f ∧ f < 5, c < 3, c < 3, 0 ≤ τ 5 c p ∧ τ 5 c p < 8]) (pc' := 84) (L' := [some (aR 1 c), some (aI f), some (aI p), some (aI (τ 5 c p))]) (st' := []) (σ' := aUp (aUp τ 8 c f (τ 5 c p)) 6 c (τ 5 c p) f) rfl (show (c < 3) ∧ (c < 3) ∧ (0 ≤ f ∧ f < 5) ∧ (c < 3) ∧ (c < 3) ∧ (0 ≤ τ 5 c p ∧ τ 5 c p < 8) from ⟨by omega, by omega, by omega, by omega, by omega, by omega⟩) ?_
        exact aw_vret dX0_fall_84 rfl ⟨rfl, by have ex : r (aOf (r (8 + f)) 3) = τ 5 c p := (by rw [hp]; omega); unfold faR; rw [if_neg (by rw [hp]; omega), if_pos (by rw [ex]; omega), ex]; exact Rep_ho hRτ h1R f0 f1 (by omega) (by omega) (by rw [show f1R r f (8 + f) = -4 from rUp_eq]; decide) (by omega), aFr_tr eF (aFr_tr (aFr_up (cb (by decide))) (aFr_up (cb (by decide)))), by rw [aUp_tag (by decide), aUp_tag (by decide)]; exact e3⟩
  · refine aw_ieq dX0_fall_43 (tgt := 84) (by decide) ⟨by omega, by omega⟩ (fun wh5 => ?_) (fun wh5 => absurd wh5 (by decide))
    exact aw_vret dX0_fall_84 rfl ⟨rfl, by have ex : r (aOf (r (8 + f)) 3) = τ 5 c p := (by rw [hp]; omega); unfold faR; rw [if_neg (by rw [hp]; omega), if_neg (by rw [ex]; omega)]; exact hRτ, eF, e3⟩
