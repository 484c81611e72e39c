/-! ===== both sides say the same: what stands between the calls ===== -/
def LQ (σ : aS) : Prop := ∀ d : Int, 0 ≤ d → d < 8 → σ 26 0 d = σ 10 0 d ∧ (σ 10 0 d = 1 → σ 27 0 d = σ 11 0 d ∧ σ 28 0 d = σ 12 0 d) ∧ (σ 10 0 d = 2 → σ 29 0 d = σ 13 0 d ∧ σ 30 0 d = σ 14 0 d ∧ ∀ i : Int, 0 ≤ i → i < σ 14 0 d → σ 31 0 (100 * d + i) = σ 15 0 (d * 100 + i))
def MB (σ : aS) : Prop := (∀ d : Int, ¬ (0 ≤ d ∧ d < 8) → σ 30 0 d = 0) ∧ ∀ d : Int, 0 ≤ d → d < 8 → σ 29 0 d = 0 → ∀ j : Int, 0 ≤ j → j < σ 30 0 d → -128 ≤ σ 31 0 (100 * d + j) ∧ σ 31 0 (100 * d + j) ≤ 127
def IvS (σ : aS) : Prop := SH σ ∧ MSH σ ∧ LQ σ ∧ MB σ
def IvI (σ : aS) : Prop := OZ (σ 22 1) ∧ OZ (σ 22 2) ∧ OZ (σ 22 3) ∧ (σ 0 0 3 = 0 ∨ σ 0 0 3 = 1) ∧ σ 21 0 4 = σ 0 0 3 ∧ (σ 0 0 3 = 1 → Rep σ 2 (σ 22 2) ∧ WF (σ 22 2) ∧ σ 22 2 1 ≤ 999)
def IvC (σ : aS) : Prop := Rep σ 0 (σ 22 0) ∧ WF (σ 22 0) ∧ σ 22 0 1 ≤ 999
def IvB (σ : aS) : Prop := ∀ i : Int, 1280 ≤ i → σ 18 0 i = 0
def Inv (σ : aS) : Prop := IvC σ ∧ IvI σ ∧ IvS σ ∧ IvB σ
theorem IvS_fr {σ σ' : aS} (h : IvS σ) (hs : ∀ t : Nat, (10 ≤ t ∧ t ≤ 15) ∨ (26 ≤ t ∧ t ≤ 31) → σ' t 0 = σ t 0) : IvS σ' := by
  have e10 := hs 10 (by decide)
  have e11 := hs 11 (by decide)
  have e12 := hs 12 (by decide)
  have e13 := hs 13 (by decide)
  have e14 := hs 14 (by decide)
  have e15 := hs 15 (by decide)
  have e26 := hs 26 (by decide)
  have e27 := hs 27 (by decide)
  have e28 := hs 28 (by decide)
  have e29 := hs 29 (by decide)
  have e30 := hs 30 (by decide)
  have e31 := hs 31 (by decide)
  unfold IvS SH MSH LQ MB at h ⊢
  rw [e10, e11, e12, e13, e14, e15, e26, e27, e28, e29, e30, e31]
  exact h
theorem IvI_fr {σ σ' : aS} (h : IvI σ) (h2 : ∀ (t : Nat) (i : Int), 1 ≤ t → t ≤ 8 → σ' t 2 i = σ t 2 i) (h0 : σ' 0 0 3 = σ 0 0 3) (h4 : σ' 21 0 4 = σ 21 0 4) (hr : σ' 22 2 = σ 22 2) (z1 : OZ (σ' 22 1)) (z3 : OZ (σ' 22 3)) : IvI σ' := by
  obtain ⟨a, b, c, d, e, f⟩ := h
  refine ⟨z1, by rw [hr]; exact b, z3, by rw [h0]; exact d, by rw [h4, h0]; exact e, fun q => ?_⟩
  rw [h0] at q
  obtain ⟨f1, f2, f3⟩ := f q
  rw [hr]
  exact ⟨f1.fr (fun t i q1 q2 _ => h2 t i q1 q2), f2, f3⟩
theorem IvC_fr {σ σ' : aS} (h : IvC σ) (h2 : ∀ (t : Nat) (i : Int), 1 ≤ t → t ≤ 8 → σ' t 0 i = σ t 0 i) (hr : σ' 22 0 = σ 22 0) : IvC σ' := by
  obtain ⟨a, b, c⟩ := h
  unfold IvC
  rw [hr]
  exact ⟨a.fr (fun t i q1 q2 _ => h2 t i q1 q2), b, c⟩
/-- only scratch has changed -/
def kFr (σ σ' : aS) : Prop := ∀ (t c : Nat) (i : Int), ¬ CScr t c → ¬ (t = 18 ∧ 0 ≤ i ∧ i < 1280) → ¬ (t = 22 ∧ (c = 1 ∨ c = 3) ∧ 0 ≤ i ∧ i < 45) → ¬ (t = 23 ∨ t = 24 ∨ t = 25) → ¬ (t = 21 ∧ (i = 5 ∨ i = 6 ∨ i = 7 ∨ i = 11 ∨ i = 18)) → σ' t c i = σ t c i
theorem kFr_C {σ σ' : aS} (h : aFr CScr σ σ') : kFr σ σ' := fun t c i a _ _ _ _ => h t c i a
theorem kFr_M {σ σ' : aS} (h : mFr σ σ') : kFr σ σ' := fun t c i _ _ a b d => h t c i (fun q => by
  rcases q with q | q | q
  · exact a q
  · exact b q
  · exact d ⟨q.1, by omega⟩)
theorem kFr.t {σ σ' : aS} (h : kFr σ σ') {t c : Nat} (h1 : ¬ CScr t c) (h2 : t ≠ 18) (h3 : ¬ (t = 22 ∧ (c = 1 ∨ c = 3))) (h4 : ¬ (t = 23 ∨ t = 24 ∨ t = 25)) (h5 : t ≠ 21) : σ' t c = σ t c := by
  funext i
  exact h t c i h1 (fun q => h2 q.1) (fun q => h3 ⟨q.1, q.2.1⟩) h4 (fun q => h5 q.1)
theorem kFr.oz {σ σ' : aS} (h : kFr σ σ') {c : Nat} (hz : OZ (σ 22 c)) : OZ (σ' 22 c) := fun i hi => by
  rw [h 22 c i (by unfold CScr; omega) (by omega) (by omega) (by omega) (by omega)]
  exact hz i hi
theorem Inv_k {σ σ' : aS} (h : Inv σ) (k : kFr σ σ') : Inv σ' := by
  obtain ⟨a, b, c, d⟩ := h
  refine ⟨IvC_fr a (fun t i h1 h2 => by rw [k.t (by unfold CScr; omega) (by omega) (by omega) (by omega) (by omega)]) (k.t (by unfold CScr; omega) (by omega) (by omega) (by omega) (by omega)), IvI_fr b (fun t i h1 h2 => by rw [k.t (by unfold CScr; omega) (by omega) (by omega) (by omega) (by omega)]) (k 0 0 3 (by unfold CScr; omega) (by omega) (by omega) (by omega) (by omega)) (k 21 0 4 (by unfold CScr; omega) (by omega) (by omega) (by omega) (by omega)) (k.t (by unfold CScr; omega) (by omega) (by omega) (by omega) (by omega)) (k.oz b.1) (k.oz b.2.2.1), IvS_fr c (fun t ht => k.t (by unfold CScr; omega) (by omega) (by omega) (by omega) (by omega)), fun i hi => ?_⟩
  rw [k 18 0 i (by unfold CScr; omega) (by omega) (by omega) (by omega) (by omega)]
  exact d i hi
/-- the class's cabinet has become another, and the model's row with it -/
theorem Inv_R {σ σ' : aS} {R : aRw} (h : Inv σ) (hf : aFr CCb σ σ') (hR : Rep σ' 0 R) (hw : WF R) (h9 : R 1 ≤ 999) {τ : aS} (e : τ 22 0 = R) (hm : mFr0 σ' τ) : Inv τ := by
  obtain ⟨a, b, c, d⟩ := h
  have k : ∀ (t c : Nat) (i : Int), ¬ (1 ≤ t ∧ t ≤ 8 ∧ c = 0) → ¬ CScr t c → ¬ (t = 22 ∧ (c = 1 ∨ c = 3) ∧ 0 ≤ i ∧ i < 45) → ¬ (t = 23 ∨ t = 24 ∨ t = 25) → ¬ (t = 21 ∧ (i = 5 ∨ i = 6 ∨ i = 7 ∨ i = 11)) → ¬ (t = 22 ∧ c = 0) → τ t c i = σ t c i := by
    intro t c i h1 h2 h3 h4 h5 h6
    rw [hm t c i (by omega) h6]
    exact hf t c i (fun q => by
      rcases q with q | q
      · exact h1 q
      · exact h2 q)
  have k2 : ∀ (t : Nat) (i : Int), 1 ≤ t → t ≤ 8 → τ t 0 i = σ' t 0 i := fun t i h1 h2 => hm t 0 i (by omega) (by omega)
  have oz : ∀ c : Nat, c ≠ 0 → OZ (σ 22 c) → OZ (τ 22 c) := fun c hc hz i hi => by
    rw [k 22 c i (by omega) (by unfold CScr; omega) (by omega) (by omega) (by omega) (by omega)]
    exact hz i hi
  refine ⟨⟨by rw [e]; exact hR.fr (fun t i q1 q2 _ => k2 t i q1 q2), by rw [e]; exact hw, by rw [e]; exact h9⟩, IvI_fr b (fun t i h1 h2 => k t 2 i (by omega) (by unfold CScr; omega) (by omega) (by omega) (by omega) (by omega)) (k 0 0 3 (by omega) (by unfold CScr; omega) (by omega) (by omega) (by omega) (by omega)) (k 21 0 4 (by omega) (by unfold CScr; omega) (by omega) (by omega) (by omega) (by omega)) (by funext i; exact k 22 2 i (by omega) (by unfold CScr; omega) (by omega) (by omega) (by omega) (by omega)) (oz 1 (by decide) b.1) (oz 3 (by decide) b.2.2.1), IvS_fr c (fun t ht => by funext i; exact k t 0 i (by omega) (by unfold CScr; omega) (by omega) (by omega) (by omega) (by omega)), fun i hi => ?_⟩
  rw [k 18 0 i (by omega) (by unfold CScr; omega) (by omega) (by omega) (by omega) (by omega)]
  exact d i hi
/-- a call of the class, then the same call of the model: the same answer -/
def Pair (l : Launch) (f : Int → aV) (M M' : aMt) (as : List aV) (σ : aS) : Prop := ∃ (d d' : Nat) (a : Int), d ≤ 8 ∧ d' ≤ 8 ∧ AM l d M (aR 0 0 :: as) σ (fun r σ' => r = some (f a) ∧ AM l d' M' (aR 21 0 :: as) σ' (fun r' σ'' => r' = some (f a) ∧ Inv σ''))
theorem pr_q {l : Launch} {d d' : Nat} {M M' : aMt} {as : List aV} {σ : aS} {a : Int} (h : Inv σ) (hd : d ≤ 8) (hd' : d' ≤ 8) (hc : AM l d M (aR 0 0 :: as) σ (QC a σ)) (hm : ∀ σ' : aS, aFr CScr σ σ' → Inv σ' → AM l d' M' (aR 21 0 :: as) σ' (QM a σ')) : Pair l aI M M' as σ :=
  ⟨d, d', a, hd, hd', am_post (fun r σ' q => ⟨q.1, am_post (fun r' σ'' q' => ⟨q'.1, Inv_k (Inv_k h (kFr_C q.2)) (kFr_M q'.2)⟩) (hm σ' q.2 (Inv_k h (kFr_C q.2)))⟩) hc⟩
theorem pr_l {l : Launch} {d d' : Nat} {M M' : aMt} {as : List aV} {σ : aS} {a : Int} (h : Inv σ) (hd : d ≤ 8) (hd' : d' ≤ 8) (hc : AM l d M (aR 0 0 :: as) σ (QCL a σ)) (hm : ∀ σ' : aS, aFr CScr σ σ' → Inv σ' → AM l d' M' (aR 21 0 :: as) σ' (QML a σ')) : Pair l aL M M' as σ :=
  ⟨d, d', a, hd, hd', am_post (fun r σ' q => ⟨q.1, am_post (fun r' σ'' q' => ⟨q'.1, Inv_k (Inv_k h (kFr_C q.2)) (kFr_M q'.2)⟩) (hm σ' q.2 (Inv_k h (kFr_C q.2)))⟩) hc⟩
theorem pr_R {l : Launch} {d d' : Nat} {M M' : aMt} {as : List aV} {σ : aS} {a : Int} {R : aRw} (h : Inv σ) (hd : d ≤ 8) (hd' : d' ≤ 8) (hc : AM l d M (aR 0 0 :: as) σ (PM a R σ)) (hR : WF R ∧ R 1 ≤ 999) (hm : ∀ σ' : aS, aFr (Cb 0) σ σ' → AM l d' M' (aR 21 0 :: as) σ' (aF (some (aI a)) (aRow σ' 0 R))) : Pair l aI M M' as σ :=
  ⟨d, d', a, hd, hd', am_post (fun r σ' q => ⟨q.1, am_post (fun r' σ'' q' => ⟨q'.1, by rw [q'.2]; exact Inv_R h (aFr_mono q.2.2 (fun t c z => Or.inl z)) q.2.1 hR.1 hR.2 aRow_self mFr0_row⟩) (hm σ' q.2.2)⟩) hc⟩
theorem sc22 {σ σ' : aS} (h : aFr CScr σ σ') {t c : Nat} (ht : ¬ CScr t c) : σ' t c = σ t c := by
  funext i
  exact h t c i ht
theorem cb22 {σ σ' : aS} (h : aFr (Cb 0) σ σ') {t c : Nat} (ht : ¬ Cb 0 t c) : σ' t c = σ t c := by
  funext i
  exact h t c i ht
theorem pr_heldThen (l : Launch) (f n : Int) (σ : aS) (h : Inv σ) (hf : aIr f) (hn : aIr n) : Pair l aI mX6_heldThen mX7_heldThen [aI f, aI n] σ := by
  refine pr_q (d' := 6) h (by decide) (by decide) (cC_heldThen l f n σ (σ 22 0) h.1.1 h.1.2.1 h.1.2.2 hf hn) (fun σ' hfr h' => ?_)
  have z := cM_heldThen l f n σ' h'.1.2.1 h'.1.2.2 h'.2.1.1 hf hn
  rw [sc22 hfr (t := 22) (c := 0) (by unfold CScr; omega)] at z
  exact am_post (fun v σ'' q => QR.m h'.2.1.1 q) z
theorem pr_knownThen (l : Launch) (p n : Int) (σ : aS) (h : Inv σ) (hp : aIr p) (hn : aIr n) : Pair l aI mX6_knownThen mX7_knownThen [aI p, aI n] σ := by
  refine pr_q (d' := 6) h (by decide) (by decide) (cC_knownThen l p n σ (σ 22 0) h.1.1 h.1.2.1 h.1.2.2 hp hn) (fun σ' hfr h' => ?_)
  have z := cM_knownThen l p n σ' h'.1.2.1 h'.1.2.2 h'.2.1.1 hp hn
  rw [sc22 hfr (t := 22) (c := 0) (by unfold CScr; omega)] at z
  exact am_post (fun v σ'' q => QR.m h'.2.1.1 q) z
theorem pr_then (l : Launch) (n w : Int) (σ : aS) (h : Inv σ) (hn : aIr n) (hw : aIr w) : Pair l aI mX6_then mX7_then [aI n, aI w] σ := by
  refine pr_q (d' := 6) h (by decide) (by decide) (cC_then l n w σ (σ 22 0) h.1.1 h.1.2.1 h.1.2.2 hn hw) (fun σ' hfr h' => ?_)
  have z := cM_then l n w σ' h'.1.2.1 h'.1.2.2 h'.2.1.1 hn hw
  rw [sc22 hfr (t := 22) (c := 0) (by unfold CScr; omega)] at z
  exact am_post (fun v σ'' q => QR.m h'.2.1.1 q) z
theorem pr_count (l : Launch) (w : Int) (σ : aS) (h : Inv σ) (hw : aIr w) : Pair l aI mX6_count mX7_count [aI w] σ := by
  refine pr_q (d' := 2) h (by decide) (by decide) (cC_count l w σ (σ 22 0) h.1.1 h.1.2.1 h.1.2.2 hw) (fun σ' hfr h' => ?_)
  have z := cM_count l w σ' h'.1.2.1 h'.1.2.2 h'.2.1.1 hw
  rw [sc22 hfr (t := 22) (c := 0) (by unfold CScr; omega)] at z
  exact am_post (fun v σ'' q => QR.m h'.2.1.1 q) z
theorem pr_shows (l : Launch) (p k : Int) (σ : aS) (h : Inv σ) (hp : aIr p) (hk : aIr k) : Pair l aI mX6_shows mX7_shows [aI p, aI k] σ := by
  refine pr_q (d' := 3) h (by decide) (by decide) (cC_shows l p k σ (σ 22 0) h.1.1 h.1.2.1 h.1.2.2 hp hk) (fun σ' hfr h' => ?_)
  have z := cM_shows l p k σ' h'.1.2.1 h'.1.2.2 h'.2.1.1 hp hk
  rw [sc22 hfr (t := 22) (c := 0) (by unfold CScr; omega)] at z
  exact am_post (fun v σ'' q => QR.m h'.2.1.1 q) z
theorem pr_office (l : Launch) (f w : Int) (σ : aS) (h : Inv σ) (hf : aIr f) (hw : aIr w) : Pair l aI mX6_office mX7_office [aI f, aI w] σ := by
  refine pr_q (d' := 2) h (by decide) (by decide) (cC_office l f w σ (σ 22 0) h.1.1 h.1.2.1 h.1.2.2 hf hw) (fun σ' hfr h' => ?_)
  have z := cM_office l f w σ' h'.1.2.1 h'.1.2.2 h'.2.1.1 hf hw
  rw [sc22 hfr (t := 22) (c := 0) (by unfold CScr; omega)] at z
  exact am_post (fun v σ'' q => QR.m h'.2.1.1 q) z
theorem pr_bestCostume (l : Launch) (f n w : Int) (σ : aS) (h : Inv σ) (hf : aIr f) (hn : aIr n) (hw : aIr w) : Pair l aI mX6_bestCostume mX7_bestCostume [aI f, aI n, aI w] σ := by
  refine pr_q (d' := 5) h (by decide) (by decide) (cC_bestCostume l f n w σ (σ 22 0) h.1.1 h.1.2.1 h.1.2.2 hf hn hw) (fun σ' hfr h' => ?_)
  have z := cM_bestCostume l f n w σ' h'.1.2.1 h'.1.2.2 h'.2.1.1 hf hn hw
  rw [sc22 hfr (t := 22) (c := 0) (by unfold CScr; omega)] at z
  exact am_post (fun v σ'' q => QR.m h'.2.1.1 q) z
theorem pr_send (l : Launch) (n : Int) (σ : aS) (h : Inv σ) (hn : aIr n) : Pair l aI mX6_send mX7_send [aI n] σ := by
  refine pr_q (d' := 6) h (by decide) (by decide) (cC_send l n σ (σ 22 0) h.1.1 h.1.2.1 h.1.2.2 hn) (fun σ' hfr h' => ?_)
  have z := cM_send l n σ' h'.1.2.1 h'.1.2.2 h'.2.1.1 hn
  rw [sc22 hfr (t := 22) (c := 0) (by unfold CScr; omega)] at z
  exact am_post (fun v σ'' q => QR.m h'.2.1.1 q) z
theorem pr_change (l : Launch) (n : Int) (σ : aS) (h : Inv σ) (hn : aIr n) : Pair l aI mX6_change mX7_change [aI n] σ := by
  refine pr_q (d' := 6) h (by decide) (by decide) (cC_change l n σ (σ 22 0) h.1.1 h.1.2.1 h.1.2.2 hn) (fun σ' hfr h' => ?_)
  have z := cM_change l n σ' h'.1.2.1 h'.1.2.2 h'.2.1.1 hn
  rw [sc22 hfr (t := 22) (c := 0) (by unfold CScr; omega)] at z
  exact am_post (fun v σ'' q => QR.m h'.2.1.1 q) z
theorem pr_falls (l : Launch) (p : Int) (σ : aS) (h : Inv σ) (hp : aIr p) : Pair l aI mX6_falls mX7_falls [aI p] σ := by
  refine pr_q (d' := 5) h (by decide) (by decide) (cC_falls l p σ (σ 22 0) h.1.1 h.1.2.1 h.1.2.2 hp) (fun σ' hfr h' => ?_)
  have z := cM_falls l p σ' h'.1.2.1 h'.1.2.2 h'.2.1.1 hp
  rw [sc22 hfr (t := 22) (c := 0) (by unfold CScr; omega)] at z
  exact am_post (fun v σ'' q => QR.m h'.2.1.1 q) z
theorem pr_empty (l : Launch) (f : Int) (σ : aS) (h : Inv σ) (hf : aIr f) : Pair l aI mX6_empty mX7_empty [aI f] σ := by
  refine pr_q (d' := 4) h (by decide) (by decide) (cC_empty l f σ (σ 22 0) h.1.1 h.1.2.1 h.1.2.2 hf) (fun σ' hfr h' => ?_)
  have z := cM_empty l f σ' h'.1.2.1 h'.1.2.2 h'.2.1.1 hf
  rw [sc22 hfr (t := 22) (c := 0) (by unfold CScr; omega)] at z
  exact am_post (fun v σ'' q => QR.m h'.2.1.1 q) z
theorem pr_one (l : Launch) (p w : Int) (σ : aS) (h : Inv σ) (hp : aIr p) (hw : aIr w) : Pair l aI mX6_one mX7_one [aI p, aI w] σ := by
  refine pr_q (d' := 3) h (by decide) (by decide) (cC_one l p w σ (σ 22 0) h.1.1 h.1.2.1 h.1.2.2 hp hw) (fun σ' hfr h' => ?_)
  have z := cM_one l p w σ' h'.1.2.1 h'.1.2.2 h'.2.1.1 hp hw
  rw [sc22 hfr (t := 22) (c := 0) (by unfold CScr; omega)] at z
  exact am_post (fun v σ'' q => QR.m h'.2.1.1 q) z
theorem pr_lasts (l : Launch) (f p : Int) (σ : aS) (h : Inv σ) (hf : aIr f) (hp : aIr p) : Pair l aI mX6_lasts mX7_lasts [aI f, aI p] σ := by
  refine pr_q (d' := 6) h (by decide) (by decide) (cC_lasts l f p σ (σ 22 0) h.1.1 h.1.2.1 h.1.2.2 hf hp) (fun σ' hfr h' => ?_)
  have z := cM_lasts l f p σ' h'.1.2.1 h'.1.2.2 h'.2.1.1 hf hp
  rw [sc22 hfr (t := 22) (c := 0) (by unfold CScr; omega)] at z
  exact am_post (fun v σ'' q => QR.m h'.2.1.1 q) z
theorem pr_over (l : Launch) (w : Int) (σ : aS) (h : Inv σ) (hw : aIr w) : Pair l aI mX6_over mX7_over [aI w] σ := by
  refine pr_q (d' := 5) h (by decide) (by decide) (cC_over l w σ (σ 22 0) h.1.1 h.1.2.1 h.1.2.2 hw) (fun σ' hfr h' => ?_)
  have z := cM_over l w σ' h'.1.2.1 h'.1.2.2 h'.2.1.1 hw
  rw [sc22 hfr (t := 22) (c := 0) (by unfold CScr; omega)] at z
  exact am_post (fun v σ'' q => QR.m h'.2.1.1 q) z
theorem pr_two (l : Launch) (a b n : Int) (σ : aS) (h : Inv σ) (ha : aIr a) (hb : aIr b) (hn : aIr n) : Pair l aI mX6_two mX7_two [aI a, aI b, aI n] σ := by
  refine pr_q (d' := 5) h (by decide) (by decide) (cC_two l a b n σ (σ 22 0) h.1.1 h.1.2.1 h.1.2.2 ha hb hn) (fun σ' hfr h' => ?_)
  have z := cM_two l a b n σ' h'.1.2.1 h'.1.2.2 h'.2.1.1 ha hb hn
  rw [sc22 hfr (t := 22) (c := 0) (by unfold CScr; omega)] at z
  exact am_post (fun v σ'' q => QR.m h'.2.1.1 q) z
theorem pr_mean (l : Launch) (w : Int) (σ : aS) (h : Inv σ) (hw : aIr w) : Pair l aL mX6_mean mX7_mean [aI w] σ := by
  refine pr_l (d' := 2) h (by decide) (by decide) (cC_mean l w σ (σ 22 0) h.1.1 h.1.2.1 h.1.2.2 hw) (fun σ' hfr h' => ?_)
  have z := cM_mean l w σ' h'.1.2.1 h'.1.2.2 h'.2.1.1 hw
  rw [sc22 hfr (t := 22) (c := 0) (by unfold CScr; omega)] at z
  exact am_post (fun v σ'' q => QRL.m h'.2.1.1 q) z
theorem pr_scandals (l : Launch) (f n t w : Int) (σ : aS) (h : Inv σ) (hf : aIr f) (hn : aIr n) (ht : aIr t) (hw : aIr w) : Pair l aL mX6_scandals mX7_scandals [aI f, aI n, aI t, aI w] σ := by
  refine pr_l (d' := 4) h (by decide) (by decide) (cC_scandals l f n t w σ (σ 22 0) h.1.1 h.1.2.1 h.1.2.2 hf hn ht hw) (fun σ' hfr h' => ?_)
  have z := cM_scandals l f n t w σ' h'.1.2.1 h'.1.2.2 h'.2.1.1 hf hn ht hw
  rw [sc22 hfr (t := 22) (c := 0) (by unfold CScr; omega)] at z
  exact am_post (fun v σ'' q => QRL.m h'.2.1.1 q) z
theorem pr_years (l : Launch) (n z w : Int) (σ : aS) (h : Inv σ) (hn : aIr n) (hz : aIr z) (hw : aIr w) : Pair l aI mX6_years mX7_years [aI n, aI z, aI w] σ := by
  refine pr_q (d' := 5) h (by decide) (by decide) (cC_years l n z w σ (σ 22 0) h.1.1 h.1.2.1 h.1.2.2 hn hz hw) (fun σ' hfr h' => ?_)
  have z := cM_years l n z w σ' h'.1.2.1 h'.1.2.2 h'.2.1.1 hn hz hw
  rw [sc22 hfr (t := 22) (c := 0) (by unfold CScr; omega)] at z
  exact z
theorem pr_casts (l : Launch) (f : Int) (σ : aS) (h : Inv σ) (hf : aIr f) : Pair l aI mX6_casts mX7_casts [aI f] σ := by
  refine ⟨4, 7, _, by decide, by decide, am_post (fun r σ' q => ⟨q.1, ?_⟩) (cC_casts l f σ (σ 22 0) h.1.1 h.1.2.1 h.1.2.2 hf h.2.2.2)⟩
  have k : kFr σ σ' := fun t c i a b _ _ _ => q.2 t c i a b
  have h' := Inv_k h k
  have z := cM_casts l f σ' h'.1.2.1 h'.1.2.2 h'.2.1.1 hf
  rw [show σ' 22 0 = σ 22 0 from k.t (by unfold CScr; omega) (by omega) (by omega) (by omega) (by omega)] at z
  exact am_post (fun r' σ'' q' => ⟨q'.1, Inv_k h' (kFr_M q'.2)⟩) z
theorem bt_cong {g g' : Nat → Bool} (h : ∀ n, g n = g' n) : ∀ n : Nat, btN g n = btN g' n
  | 0 => rfl
  | n + 1 => by rw [btN, btN, h n, bt_cong h n]
/-- the elements of a told row are the same -/
theorem IvS.el {σ : aS} (h : IvS σ) {d : Int} (hl : lkF (σ 10 0 d) d 2 = 0) : σ 29 0 d = σ 13 0 d ∧ σ 30 0 d = σ 14 0 d ∧ (0 ≤ σ 14 0 d ∧ σ 14 0 d ≤ 100) ∧ ∀ j : Nat, (j : Int) < σ 14 0 d → mE σ d j = vaF σ d j := by
  obtain ⟨h1, h2⟩ := lkF_d hl
  obtain ⟨a, b, c⟩ := h.2.2.1 d h1.1 h1.2
  obtain ⟨c1, c2, c3⟩ := c h2
  refine ⟨c1, c2, (h.1.1 d h1.1 h1.2).2.2.2.2, fun j hj => ?_⟩
  unfold mE vaF
  rw [if_pos ⟨by omega, hj⟩]
  exact c3 j (by omega) hj
theorem IvS.ct {σ : aS} (h : IvS σ) (d w : Int) : lkF (σ 26 0 d) d w = lkF (σ 10 0 d) d w := by
  unfold lkF
  by_cases hd : 0 ≤ d ∧ d < 8
  · rw [(h.2.2.1 d hd.1 hd.2).1]
  · rw [if_neg hd, if_neg hd]
theorem eq_judge {σ : aS} (h : IvS σ) (r : aRw) (d : Int) : A_judge r (mE σ d) (σ 26 0 d) (σ 29 0 d) (σ 30 0 d) d = A_judge r (vaF σ d) (σ 10 0 d) (σ 13 0 d) (σ 14 0 d) d := by
  unfold A_judge
  rw [h.ct]
  by_cases hl : lkF (σ 10 0 d) d 2 = 0
  · obtain ⟨a, b, c, e⟩ := h.el hl
    rw [if_pos hl, if_pos hl, a, b]
    exact fu_cong _ _ _ _ (fun j _ h2 => e j (by omega))
  · rw [if_neg hl, if_neg hl]
theorem eq_forged {σ : aS} (h : IvS σ) (r : aRw) (d : Int) : A_forged r (mE σ d) (σ 26 0 d) (σ 30 0 d) d = A_forged r (vaF σ d) (σ 10 0 d) (σ 14 0 d) d := by
  unfold A_forged
  rw [h.ct]
  by_cases hl : lkF (σ 10 0 d) d 2 = 0
  · obtain ⟨a, b, c, e⟩ := h.el hl
    rw [if_pos hl, if_pos hl, b]
    exact fg_cong _ _ _ (fun j _ h2 => e j (by omega))
  · rw [if_neg hl, if_neg hl]
theorem eq_whatIs {σ : aS} (h : IvS σ) (r : aRw) (d p w : Int) : A_whatIs r (mE σ d) (σ 26 0 d) (σ 29 0 d) (σ 30 0 d) d p w = A_whatIs r (vaF σ d) (σ 10 0 d) (σ 13 0 d) (σ 14 0 d) d p w := by
  unfold A_whatIs
  rw [h.ct]
  by_cases hl : lkF (σ 10 0 d) d 2 = 0
  · obtain ⟨a, b, c, e⟩ := h.el hl
    rw [if_pos hl, if_pos hl, a, b]
    rw [bt_cong (g := wiB r (mE σ d) (leF (σ 13 0 d)) (σ 14 0 d) p w) (g' := wiB r (vaF σ d) (leF (σ 13 0 d)) (σ 14 0 d) p w) (fun n => by
      unfold wiB
      rw [fu_cong _ _ _ _ (fun j _ h2 => e j (by omega))])]
  · rw [if_neg hl, if_neg hl]
theorem eq_whoHeld {σ : aS} (h : IvS σ) (r : aRw) (d f : Int) : A_whoHeld r (mE σ d) (σ 26 0 d) (σ 29 0 d) (σ 30 0 d) d f = A_whoHeld r (vaF σ d) (σ 10 0 d) (σ 13 0 d) (σ 14 0 d) d f := by
  unfold A_whoHeld
  rw [h.ct]
  by_cases hl : lkF (σ 10 0 d) d 2 = 0
  · obtain ⟨a, b, c, e⟩ := h.el hl
    rw [if_pos hl, if_pos hl, a, b]
    rw [bt_cong (g := whB r (mE σ d) (leF (σ 13 0 d)) (σ 14 0 d) f) (g' := whB r (vaF σ d) (leF (σ 13 0 d)) (σ 14 0 d) f) (fun n => by
      unfold whB
      rw [fu_cong _ _ _ _ (fun j _ h2 => e j (by omega))])]
  · rw [if_neg hl, if_neg hl]
theorem va_fr {σ σ' : aS} (h : aFr CScr σ σ') (d : Int) : vaF σ' d = vaF σ d := by
  funext i
  unfold vaF
  rw [sc22 h (t := 14) (c := 0) (by unfold CScr; omega), sc22 h (t := 15) (c := 0) (by unfold CScr; omega)]
theorem pr_judge (l : Launch) (d : Int) (σ : aS) (h : Inv σ) (hd : aIr d) : Pair l aI mX6_judge mX7_judge [aI d] σ := by
  refine pr_q (d' := 4) h (by decide) (by decide) (cC_judge l d σ (σ 22 0) h.1.1 h.1.2.1 h.1.2.2 h.2.2.1.1 hd) (fun σ' hfr h' => ?_)
  have z := cM_judge l d σ' h'.1.2.1 h'.1.2.2 h'.2.1.1 h'.2.2.1.2.1 hd
  rw [eq_judge h'.2.2.1, va_fr hfr, sc22 hfr (t := 22) (c := 0) (by unfold CScr; omega), sc22 hfr (t := 10) (c := 0) (by unfold CScr; omega), sc22 hfr (t := 13) (c := 0) (by unfold CScr; omega), sc22 hfr (t := 14) (c := 0) (by unfold CScr; omega)] at z
  exact am_post (fun v σ'' q => QR.m h'.2.1.1 q) z
theorem pr_forged (l : Launch) (d : Int) (σ : aS) (h : Inv σ) (hd : aIr d) : Pair l aI mX6_forged mX7_forged [aI d] σ := by
  refine pr_q (d' := 3) h (by decide) (by decide) (cC_forged l d σ (σ 22 0) h.1.1 h.1.2.1 h.1.2.2 h.2.2.1.1 hd) (fun σ' hfr h' => ?_)
  have z := cM_forged l d σ' h'.1.2.1 h'.1.2.2 h'.2.1.1 h'.2.2.1.2.1 hd
  rw [eq_forged h'.2.2.1, va_fr hfr, sc22 hfr (t := 22) (c := 0) (by unfold CScr; omega), sc22 hfr (t := 10) (c := 0) (by unfold CScr; omega), sc22 hfr (t := 14) (c := 0) (by unfold CScr; omega)] at z
  exact am_post (fun v σ'' q => QR.m h'.2.1.1 q) z
theorem pr_whatIs (l : Launch) (d p w : Int) (σ : aS) (h : Inv σ) (hd : aIr d) (hp : aIr p) (hw : aIr w) : Pair l aI mX6_whatIs mX7_whatIs [aI d, aI p, aI w] σ := by
  refine pr_q (d' := 4) h (by decide) (by decide) (cC_whatIs l d p w σ (σ 22 0) h.1.1 h.1.2.1 h.1.2.2 h.2.2.1.1 hd hp hw) (fun σ' hfr h' => ?_)
  have z := cM_whatIs l d p w σ' h'.1.2.1 h'.1.2.2 h'.2.1.1 h'.2.2.1.2.1 hd hp hw
  rw [eq_whatIs h'.2.2.1, va_fr hfr, sc22 hfr (t := 22) (c := 0) (by unfold CScr; omega), sc22 hfr (t := 10) (c := 0) (by unfold CScr; omega), sc22 hfr (t := 13) (c := 0) (by unfold CScr; omega), sc22 hfr (t := 14) (c := 0) (by unfold CScr; omega)] at z
  exact am_post (fun v σ'' q => QR.m h'.2.1.1 q) z
theorem pr_whoHeld (l : Launch) (d f : Int) (σ : aS) (h : Inv σ) (hd : aIr d) (hf : aIr f) : Pair l aI mX6_whoHeld mX7_whoHeld [aI d, aI f] σ := by
  refine pr_q (d' := 4) h (by decide) (by decide) (cC_whoHeld l d f σ (σ 22 0) h.1.1 h.1.2.1 h.1.2.2 h.2.2.1.1 hd hf) (fun σ' hfr h' => ?_)
  have z := cM_whoHeld l d f σ' h'.1.2.1 h'.1.2.2 h'.2.1.1 h'.2.2.1.2.1 hd hf
  rw [eq_whoHeld h'.2.2.1, va_fr hfr, sc22 hfr (t := 22) (c := 0) (by unfold CScr; omega), sc22 hfr (t := 10) (c := 0) (by unfold CScr; omega), sc22 hfr (t := 13) (c := 0) (by unfold CScr; omega), sc22 hfr (t := 14) (c := 0) (by unfold CScr; omega)] at z
  exact am_post (fun v σ'' q => QR.m h'.2.1.1 q) z
theorem ok_days {r : aRw} (hw : WF r) (hd : r 1 ≤ 999) (n : Int) : WF (R_days r n) ∧ R_days r n 1 ≤ 999 := by
  unfold R_days
  split
  · rename_i h
    have e := (dysR_0 r n.toNat).2
    exact ⟨dysR_wf hw _, by omega⟩
  · exact ⟨hw, hd⟩
theorem ok_holds {r : aRw} (hw : WF r) (hd : r 1 ≤ 999) (f p : Int) : WF (R_holds r f p) ∧ R_holds r f p 1 ≤ 999 := by
  unfold R_holds
  split
  · rename_i h
    exact ⟨hoR_wf hw h.1.1 h.1.2 h.2.1 h.2.2, by rw [(hoR_1 r h.1.1 h.1.2).2]; exact hd⟩
  · exact ⟨hw, hd⟩
theorem ok_empties {r : aRw} (hw : WF r) (hd : r 1 ≤ 999) (f : Int) : WF (R_empties r f) ∧ R_empties r f 1 ≤ 999 := by
  unfold R_empties
  split
  · exact ⟨emR_wf hw f, by rw [emR_at (by omega)]; exact hd⟩
  · exact ⟨hw, hd⟩
theorem ok_wears {r : aRw} (hw : WF r) (hd : r 1 ≤ 999) (f k : Int) : WF (R_wears r f k) ∧ R_wears r f k 1 ≤ 999 := by
  unfold R_wears
  split
  · rename_i h
    exact ⟨WF_cost hw h.1.1 h.1.2 (by omega), by rw [rUp_ne (by omega)]; exact hd⟩
  · exact ⟨hw, hd⟩
theorem ok_knows {r : aRw} (hw : WF r) (hd : r 1 ≤ 999) (p k : Int) : WF (R_knows r p k) ∧ R_knows r p k 1 ≤ 999 := by
  unfold R_knows
  split
  · rename_i h
    exact ⟨WF_known hw h.1.1 h.1.2 (by omega), by rw [rUp_ne (by unfold aOf; omega)]; exact hd⟩
  · exact ⟨hw, hd⟩
theorem ok_marries {r : aRw} (hw : WF r) (hd : r 1 ≤ 999) (p k : Int) : WF (R_marries r p k) ∧ R_marries r p k 1 ≤ 999 := by
  unfold R_marries
  split
  · rename_i h
    exact ⟨WF_mate hw h.1.1 h.1.2 (by omega), by rw [rUp_ne (by unfold aOf; omega)]; exact hd⟩
  · exact ⟨hw, hd⟩
theorem ok_comes {r : aRw} (hw : WF r) (hd : r 1 ≤ 999) {ct kd fg : Int} (d m : Int) (hk : lkF ct d 1 = 0 → (0 ≤ kd ∧ kd ≤ 7) ∧ (0 ≤ fg ∧ fg ≤ 9)) : WF (R_comes r ct kd fg d m) ∧ R_comes r ct kd fg d m 1 ≤ 999 := by
  unfold R_comes
  split
  · rename_i h
    obtain ⟨⟨h1, h2⟩, h3, h4⟩ := h
    have bn := hw.1
    exact ⟨adR_wf hw h4 (hk h3).1 (hk h3).2 (by omega), by rw [adR_old hw h4 (by decide) (Or.inl (by unfold aOf; omega))]; exact hd⟩
  · exact ⟨hw, hd⟩
theorem pr_days (l : Launch) (n : Int) (σ : aS) (h : Inv σ) (hn : aIr n) : Pair l aI mX6_days mX7_days [aI n] σ := by
  refine pr_R (d' := 5) h (by decide) (by decide) (cC_days l n σ (σ 22 0) h.1.1 h.1.2.1 h.1.2.2 hn) (ok_days h.1.2.1 h.1.2.2 n) (fun σ' hfr => ?_)
  have e : σ' 22 0 = σ 22 0 := cb22 hfr (by unfold Cb; omega)
  have z := cM_days l n σ' (by rw [e]; exact h.1.2.1) (by rw [e]; exact h.1.2.2) hn
  rw [e] at z
  exact z
theorem pr_holds (l : Launch) (f p : Int) (σ : aS) (h : Inv σ) (hf : aIr f) (hp : aIr p) : Pair l aI mX6_holds mX7_holds [aI f, aI p] σ := by
  refine pr_R (d' := 2) h (by decide) (by decide) (cC_holds l f p σ (σ 22 0) h.1.1 h.1.2.1 h.1.2.2 hf hp) (ok_holds h.1.2.1 h.1.2.2 f p) (fun σ' hfr => ?_)
  have e : σ' 22 0 = σ 22 0 := cb22 hfr (by unfold Cb; omega)
  have z := cM_holds l f p σ' (by rw [e]; exact h.1.2.1) hf hp
  rw [e] at z
  exact z
theorem pr_empties (l : Launch) (f : Int) (σ : aS) (h : Inv σ) (hf : aIr f) : Pair l aI mX6_empties mX7_empties [aI f] σ := by
  refine pr_R (d' := 2) h (by decide) (by decide) (cC_empties l f σ (σ 22 0) h.1.1 h.1.2.1 h.1.2.2 hf) (ok_empties h.1.2.1 h.1.2.2 f) (fun σ' hfr => ?_)
  have e : σ' 22 0 = σ 22 0 := cb22 hfr (by unfold Cb; omega)
  have z := cM_empties l f σ' (by rw [e]; exact h.1.2.1) hf
  rw [e] at z
  exact z
theorem pr_wears (l : Launch) (f k : Int) (σ : aS) (h : Inv σ) (hf : aIr f) (hk : aIr k) : Pair l aI mX6_wears mX7_wears [aI f, aI k] σ := by
  refine pr_R (d' := 2) h (by decide) (by decide) (cC_wears l f k σ (σ 22 0) h.1.1 h.1.2.1 h.1.2.2 hf hk) (ok_wears h.1.2.1 h.1.2.2 f k) (fun σ' hfr => ?_)
  have e : σ' 22 0 = σ 22 0 := cb22 hfr (by unfold Cb; omega)
  have z := cM_wears l f k σ' (by rw [e]; exact h.1.2.1) hf hk
  rw [e] at z
  exact z
theorem pr_knows (l : Launch) (p k : Int) (σ : aS) (h : Inv σ) (hp : aIr p) (hk : aIr k) : Pair l aI mX6_knows mX7_knows [aI p, aI k] σ := by
  refine pr_R (d' := 2) h (by decide) (by decide) (cC_knows l p k σ (σ 22 0) h.1.1 h.1.2.1 h.1.2.2 hp hk) (ok_knows h.1.2.1 h.1.2.2 p k) (fun σ' hfr => ?_)
  have e : σ' 22 0 = σ 22 0 := cb22 hfr (by unfold Cb; omega)
  have z := cM_knows l p k σ' (by rw [e]; exact h.1.2.1) hp hk
  rw [e] at z
  exact z
theorem pr_marries (l : Launch) (p k : Int) (σ : aS) (h : Inv σ) (hp : aIr p) (hk : aIr k) : Pair l aI mX6_marries mX7_marries [aI p, aI k] σ := by
  refine pr_R (d' := 2) h (by decide) (by decide) (cC_marries l p k σ (σ 22 0) h.1.1 h.1.2.1 h.1.2.2 hp hk) (ok_marries h.1.2.1 h.1.2.2 p k) (fun σ' hfr => ?_)
  have e : σ' 22 0 = σ 22 0 := cb22 hfr (by unfold Cb; omega)
  have z := cM_marries l p k σ' (by rw [e]; exact h.1.2.1) hp hk
  rw [e] at z
  exact z
theorem pr_restore (l : Launch) (σ : aS) (h : Inv σ) : Pair l aI mX6_restore mX7_restore [] σ := by
  obtain ⟨i1, i2, i3, i4, i5, i6⟩ := h.2.1
  refine pr_R (d' := 1) h (by decide) (by decide) (cC_restore l σ (σ 22 0) (σ 22 2) h.1.1 h.1.2.1 i4 (fun q => ⟨(i6 q).1, (i6 q).2.1⟩)) ?_ (fun σ' hfr => ?_)
  · by_cases q : σ 0 0 3 = 0
    · rw [if_pos q]; exact ⟨h.1.2.1, h.1.2.2⟩
    · rw [if_neg q]; exact (i6 (by omega)).2
  · have e : σ' 22 0 = σ 22 0 := cb22 hfr (by unfold Cb; omega)
    have e2 : σ' 22 2 = σ 22 2 := cb22 hfr (by unfold Cb; omega)
    have e3 : σ' 21 0 = σ 21 0 := cb22 hfr (by unfold Cb; omega)
    have z := cM_restore l σ' (by rw [e]; exact h.1.2.1) (by rw [e2]; exact i2) (by rw [e3, i5]; exact i4)
    rw [e, e2, e3, i5] at z
    exact z
theorem pr_comes (l : Launch) (d m : Int) (σ : aS) (h : Inv σ) (hd : aIr d) (hm : aIr m) : Pair l aI mX6_comes mX7_comes [aI d, aI m] σ := by
  have hS := h.2.2.1
  refine pr_R (d' := 3) h (by decide) (by decide) (cC_comes l d m σ (σ 22 0) h.1.1 h.1.2.1 h.1.2.2 hS.1 hd hm) (ok_comes h.1.2.1 h.1.2.2 d m (fun q => ?_)) (fun σ' hfr => ?_)
  · obtain ⟨h1, h2⟩ := lkF_d q
    have b := hS.1.1 d h1.1 h1.2
    exact ⟨b.2.1, b.2.2.1⟩
  · have e : σ' 22 0 = σ 22 0 := cb22 hfr (by unfold Cb; omega)
    have hS' : IvS σ' := IvS_fr hS (fun t ht => cb22 hfr (by unfold Cb; omega))
    have z := cM_comes l d m σ' (by rw [e]; exact h.1.2.1) hS'.2.1 hd hm
    rw [e, cb22 hfr (t := 26) (c := 0) (by unfold Cb; omega), cb22 hfr (t := 27) (c := 0) (by unfold Cb; omega), cb22 hfr (t := 28) (c := 0) (by unfold Cb; omega)] at z
    refine am_eq z (aret ?_) ?_
    · unfold A_comes
      rw [hS.ct]
    · congr 1
      unfold R_comes
      rw [hS.ct]
      by_cases q : lkF (σ 10 0 d) d 1 = 0
      · obtain ⟨h1, h2⟩ := lkF_d q
        have b := (hS.2.2.1 d h1.1 h1.2).2.1 h2
        rw [b.1, b.2]
      · rw [if_neg (fun z => q z.2.1), if_neg (fun z => q z.2.1)]
theorem pr_image (l : Launch) (σ : aS) (h : Inv σ) : Pair l aI mX6_image mX7_image [] σ := by
  obtain ⟨i1, i2, i3, i4, i5, i6⟩ := h.2.1
  refine ⟨1, 1, _, by decide, by decide, am_post (fun r σ' q => ⟨q.1, ?_⟩) (cC_image l σ (σ 22 0) h.1.1 h.1.2.1 h.1.2.2)⟩
  obtain ⟨q1, q2, q3, q4⟩ := q
  have k : ∀ t c : Nat, ¬ Cp t c → σ' t c = σ t c := fun t c hn => by
    funext i
    exact q4 t c i hn
  have e : σ' 22 0 = σ 22 0 := k 22 0 (by unfold Cp; omega)
  have z := cM_image l σ' (by rw [e]; exact h.1.2.1) (by rw [k 22 2 (by unfold Cp; omega)]; exact i2)
  rw [e] at z
  refine am_post (fun r' τ q' => ⟨q'.1, ?_⟩) z
  rw [q'.2]
  have t0 : ∀ (t c : Nat) (i : Int), t ≠ 21 → t ≠ 22 → aUp (aRow σ' 2 (σ 22 0)) 21 0 4 1 t c i = σ' t c i := fun t c i h1 h2 => by
    rw [aUp_tag h1, aRow_off h2]
  have r22 : ∀ c : Nat, c ≠ 2 → aUp (aRow σ' 2 (σ 22 0)) 21 0 4 1 22 c = σ 22 c := fun c h2 => by
    funext i
    rw [aUp_tag (by decide), aRow_ne h2, k 22 c (by unfold Cp; omega)]
  have r2 : aUp (aRow σ' 2 (σ 22 0)) 21 0 4 1 22 2 = σ 22 0 := by
    funext i
    rw [aUp_tag (by decide), aRow_self]
  refine ⟨IvC_fr h.1 (fun t i h1 h2 => ?_) (r22 0 (by decide)), ⟨?_, ?_, ?_, ?_, ?_, fun _ => ⟨?_, ?_, ?_⟩⟩, IvS_fr h.2.2.1 (fun t ht => ?_), fun i hi => ?_⟩
  · rw [t0 t 0 i (by omega) (by omega), k t 0 (by unfold Cp; omega)]
  · rw [r22 1 (by decide)]; exact i1
  · rw [r2]; exact h.1.2.1.2.2.2.2.2.2.2
  · rw [r22 3 (by decide)]; exact i3
  · rw [t0 0 0 3 (by decide) (by decide)]; exact Or.inr q3
  · rw [aUp_same, t0 0 0 3 (by decide) (by decide)]; exact q3.symm
  · rw [r2]
    exact q2.fr (fun t i h1 h2 _ => t0 t 2 i (by omega) (by omega))
  · rw [r2]; exact h.1.2.1
  · rw [r2]; exact h.1.2.2
  · funext i
    rw [t0 t 0 i (by omega) (by omega), k t 0 (by unfold Cp; omega)]
  · rw [t0 18 0 i (by omega) (by omega), k 18 0 (by unfold Cp; omega)]
    exact h.2.2.2 i hi
