/-! ===== pairs: the shelves, a cabinet told ===== -/
theorem Inv_S {σ τ : aS} (h : Inv σ) (k : ∀ (t c : Nat) (i : Int), ¬ (((10 ≤ t ∧ t ≤ 15) ∨ (26 ≤ t ∧ t ≤ 31)) ∧ c = 0) → τ t c i = σ t c i) (hS : IvS τ) : Inv τ := by
  obtain ⟨a, b, c, d⟩ := h
  have k2 : ∀ t c : Nat, ¬ (((10 ≤ t ∧ t ≤ 15) ∨ (26 ≤ t ∧ t ≤ 31)) ∧ c = 0) → τ t c = σ t c := fun t c h => by
    funext i
    exact k t c i h
  refine ⟨IvC_fr a (fun t i h1 h2 => k t 0 i (by omega)) (k2 22 0 (by omega)), IvI_fr b (fun t i h1 h2 => k t 2 i (by omega)) (k 0 0 3 (by omega)) (k 21 0 4 (by omega)) (k2 22 2 (by omega)) (by rw [k2 22 1 (by omega)]; exact b.1) (by rw [k2 22 3 (by omega)]; exact b.2.2.1), hS, fun i hi => ?_⟩
  rw [k 18 0 i (by omega)]
  exact d i hi
theorem IvS.mk' {τ : aS}
    (h1 : ∀ d : Int, 0 ≤ d → d < 8 → ((τ 10 0 d = 0 ∨ τ 10 0 d = 1 ∨ τ 10 0 d = 2) ∧ (0 ≤ τ 11 0 d ∧ τ 11 0 d ≤ 7) ∧ (0 ≤ τ 12 0 d ∧ τ 12 0 d ≤ 9) ∧ (0 ≤ τ 13 0 d ∧ τ 13 0 d ≤ 2) ∧ (0 ≤ τ 14 0 d ∧ τ 14 0 d ≤ 100)) ∧ (τ 26 0 d = τ 10 0 d ∧ (0 ≤ τ 29 0 d ∧ τ 29 0 d ≤ 2) ∧ (0 ≤ τ 30 0 d ∧ τ 30 0 d ≤ 100)) ∧ (τ 10 0 d = 1 → τ 27 0 d = τ 11 0 d ∧ τ 28 0 d = τ 12 0 d) ∧ (τ 10 0 d = 2 → τ 29 0 d = τ 13 0 d ∧ τ 30 0 d = τ 14 0 d))
    (h2 : ∀ d i : Int, 0 ≤ d → d < 8 → 0 ≤ i → i < 100 → aIr (τ 15 0 (d * 100 + i)) ∧ aIr (τ 31 0 (100 * d + i)) ∧ (τ 10 0 d = 2 → i < τ 14 0 d → τ 31 0 (100 * d + i) = τ 15 0 (d * 100 + i)) ∧ (τ 29 0 d = 0 → i < τ 30 0 d → -128 ≤ τ 31 0 (100 * d + i) ∧ τ 31 0 (100 * d + i) ≤ 127))
    (h3 : ∀ d : Int, ¬ (0 ≤ d ∧ d < 8) → τ 30 0 d = 0) : IvS τ := by
  refine ⟨⟨fun d a b => (h1 d a b).1, fun i a b => ?_⟩, ⟨fun d a b => ?_, fun i a b => ?_⟩, fun d a b => ⟨(h1 d a b).2.1.1, (h1 d a b).2.2.1, fun q => ⟨((h1 d a b).2.2.2 q).1, ((h1 d a b).2.2.2 q).2, fun i x y => ?_⟩⟩, h3, fun d a b q j x y => ?_⟩
  · have z := (h2 (i / 100) (i % 100) (by omega) (by omega) (by omega) (by omega)).1
    rw [show i / 100 * 100 + i % 100 = i by omega] at z
    exact z
  · obtain ⟨⟨a1, a2, a3, a4, a5⟩, ⟨b1, b2, b3⟩, c, d1⟩ := h1 d a b
    refine ⟨by rw [b1]; exact a1, fun q => ?_, b2, b3⟩
    rw [b1] at q
    rw [(c q).1, (c q).2]
    exact ⟨a2, a3⟩
  · have z := (h2 (i / 100) (i % 100) (by omega) (by omega) (by omega) (by omega)).2.1
    rw [show 100 * (i / 100) + i % 100 = i by omega] at z
    exact z
  · have w := (h1 d a b).1.2.2.2.2
    exact (h2 d i a b x (by omega)).2.2.1 q y
  · have w := (h1 d a b).2.1.2.2
    exact (h2 d j a b x (by omega)).2.2.2 q y
theorem IvS.un {σ : aS} (h : IvS σ) :
    (∀ d : Int, 0 ≤ d → d < 8 → ((σ 10 0 d = 0 ∨ σ 10 0 d = 1 ∨ σ 10 0 d = 2) ∧ (0 ≤ σ 11 0 d ∧ σ 11 0 d ≤ 7) ∧ (0 ≤ σ 12 0 d ∧ σ 12 0 d ≤ 9) ∧ (0 ≤ σ 13 0 d ∧ σ 13 0 d ≤ 2) ∧ (0 ≤ σ 14 0 d ∧ σ 14 0 d ≤ 100)) ∧ (σ 26 0 d = σ 10 0 d ∧ (0 ≤ σ 29 0 d ∧ σ 29 0 d ≤ 2) ∧ (0 ≤ σ 30 0 d ∧ σ 30 0 d ≤ 100)) ∧ (σ 10 0 d = 1 → σ 27 0 d = σ 11 0 d ∧ σ 28 0 d = σ 12 0 d) ∧ (σ 10 0 d = 2 → σ 29 0 d = σ 13 0 d ∧ σ 30 0 d = σ 14 0 d)) ∧
    (∀ d i : Int, 0 ≤ d → d < 8 → 0 ≤ i → i < 100 → aIr (σ 15 0 (d * 100 + i)) ∧ aIr (σ 31 0 (100 * d + i)) ∧ (σ 10 0 d = 2 → i < σ 14 0 d → σ 31 0 (100 * d + i) = σ 15 0 (d * 100 + i)) ∧ (σ 29 0 d = 0 → i < σ 30 0 d → -128 ≤ σ 31 0 (100 * d + i) ∧ σ 31 0 (100 * d + i) ≤ 127)) ∧
    (∀ d : Int, ¬ (0 ≤ d ∧ d < 8) → σ 30 0 d = 0) := by
  obtain ⟨⟨a1, a2⟩, ⟨b1, b2⟩, c, ⟨d1, d2⟩⟩ := h
  refine ⟨fun d x y => ⟨a1 d x y, ⟨(c d x y).1, (b1 d x y).2.2⟩, (c d x y).2.1, fun q => ⟨((c d x y).2.2 q).1, ((c d x y).2.2 q).2.1⟩⟩, fun d i x y z w => ⟨a2 _ (by omega) (by omega), b2 _ (by omega) (by omega), fun q u => ((c d x y).2.2 q).2.2 i z u, fun q u => d2 d x y q i z u⟩, d1⟩
theorem aUp_rd {σ : aS} {t c t' c' : Nat} {i x j : Int} : aUp σ t c i x t' c' j = if t' = t ∧ c' = c ∧ j = i then x else σ t' c' j := rfl
theorem cuF_b {v : Int} : -128 ≤ cuF 0 v ∧ cuF 0 v ≤ 127 := by
  unfold cuF
  rw [if_pos rfl]
  have a := Int.le_bmod (x := v) (m := 256) (by decide)
  have b := Int.bmod_lt (x := v) (m := 256) (by decide)
  omega
theorem pr_keep (l : Launch) (d w k f : Int) (σ : aS) (h : Inv σ) (hd : aIr d) (hw : aIr w) (hk : aIr k) (hf : aIr f) : Pair l aI mX6_keep mX7_keep [aI d, aI w, aI k, aI f] σ := by
  refine ⟨2, 2, _, by decide, by decide, am_post (fun r σ' q => ⟨q.1, ?_⟩) (cC_keep l d w k f σ hd hw hk hf)⟩
  refine am_post (fun r' τ q' => ⟨q'.1, ?_⟩) (cM_keep l d w k f σ' hd hw hk hf)
  rw [q'.2, q.2]
  obtain ⟨u1, u2, u3⟩ := h.2.2.1.un
  unfold S_keep MS_keep
  by_cases g : (0 ≤ d ∧ d < 8) ∧ (w = 0 ∨ (w = 1 ∧ (0 ≤ k ∧ k < 8) ∧ (0 ≤ f ∧ f < 10)))
  · rw [if_pos g, if_pos g]
    by_cases g0 : w = 0
    · rw [if_pos g0]
      refine Inv_S h (fun t c i hn => ?_) (IvS.mk' (fun e e0 e1 => ?_) (fun e i e0 e1 i0 i1 => ?_) (fun e he => ?_))
      · simp only [aUp_rd]
        (repeat' split) <;> first | rfl | omega
      · have z := u1 e e0 e1
        simp only [aUp_rd, true_and, Nat.reduceEqDiff, false_and, if_false]
        by_cases q : e = d
        · simp only [q, if_true]; subst q; exact ⟨(by first | omega | (simp only [true_or, or_true, true_and, and_true, Int.reduceEq] <;> omega)), (by first | omega | (simp only [true_or, or_true, true_and, and_true, Int.reduceEq] <;> omega)), fun _ => (by first | omega | (simp only [true_or, or_true, true_and, and_true, Int.reduceEq] <;> omega)), fun _ => (by first | omega | (simp only [true_or, or_true, true_and, and_true, Int.reduceEq] <;> omega))⟩
        · simp only [q, if_false]; exact z
      · have z := u2 e i e0 e1 i0 i1
        simp only [aUp_rd, true_and, Nat.reduceEqDiff, false_and, if_false]
        by_cases q : e = d
        · simp only [q, if_true]; subst q; exact ⟨z.1, z.2.1, fun q => by omega, z.2.2.2⟩
        · simp only [q, if_false]; exact z
      · simp only [aUp_rd, true_and, Nat.reduceEqDiff, false_and, if_false]
        exact u3 e he
    · rw [if_neg g0]
      refine Inv_S h (fun t c i hn => ?_) (IvS.mk' (fun e e0 e1 => ?_) (fun e i e0 e1 i0 i1 => ?_) (fun e he => ?_))
      · simp only [aUp_rd]
        (repeat' split) <;> first | rfl | omega
      · have z := u1 e e0 e1
        simp only [aUp_rd, true_and, Nat.reduceEqDiff, false_and, if_false]
        by_cases q : e = d
        · simp only [q, if_true]; subst q; exact ⟨(by first | omega | (simp only [true_or, or_true, true_and, and_true, Int.reduceEq] <;> omega)), (by first | omega | (simp only [true_or, or_true, true_and, and_true, Int.reduceEq] <;> omega)), fun _ => (by first | omega | (simp only [true_or, or_true, true_and, and_true, Int.reduceEq] <;> omega)), fun _ => (by first | omega | (simp only [true_or, or_true, true_and, and_true, Int.reduceEq] <;> omega))⟩
        · simp only [q, if_false]; exact z
      · have z := u2 e i e0 e1 i0 i1
        simp only [aUp_rd, true_and, Nat.reduceEqDiff, false_and, if_false]
        by_cases q : e = d
        · simp only [q, if_true]; subst q; exact ⟨z.1, z.2.1, fun q => by omega, z.2.2.2⟩
        · simp only [q, if_false]; exact z
      · simp only [aUp_rd, true_and, Nat.reduceEqDiff, false_and, if_false]
        exact u3 e he
  · rw [if_neg g, if_neg g]
    exact h
theorem pr_row (l : Launch) (d s n : Int) (σ : aS) (h : Inv σ) (hd : aIr d) (hs : aIr s) (hn : aIr n) : Pair l aI mX6_row mX7_row [aI d, aI s, aI n] σ := by
  refine ⟨2, 2, _, by decide, by decide, am_post (fun r σ' q => ⟨q.1, ?_⟩) (cC_row l d s n σ hd hs hn)⟩
  refine am_post (fun r' τ q' => ⟨q'.1, ?_⟩) (cM_row l d s n σ' hd hs hn)
  rw [q'.2, q.2]
  obtain ⟨u1, u2, u3⟩ := h.2.2.1.un
  unfold S_row MS_row
  by_cases g : (0 ≤ d ∧ d < 8) ∧ (0 ≤ s ∧ s ≤ 2) ∧ n ≤ 100 ∧ 0 ≤ n
  · rw [if_pos g, if_pos g]
    unfold mplR plR
    refine Inv_S h (fun t c i hn => ?_) (IvS.mk' (fun e e0 e1 => ?_) (fun e i e0 e1 i0 i1 => ?_) (fun e he => ?_))
    · simp only [aUp_rd]
      (repeat' split) <;> first | rfl | omega
    · have z := u1 e e0 e1
      simp only [aUp_rd, true_and, Nat.reduceEqDiff, false_and, if_false]
      by_cases q : e = d
      · simp only [q, if_true]; subst q; exact ⟨(by first | omega | (simp only [true_or, or_true, true_and, and_true, Int.reduceEq] <;> omega)), (by first | omega | (simp only [true_or, or_true, true_and, and_true, Int.reduceEq] <;> omega)), fun _ => (by first | omega | (simp only [true_or, or_true, true_and, and_true, Int.reduceEq] <;> omega)), fun _ => (by first | omega | (simp only [true_or, or_true, true_and, and_true, Int.reduceEq] <;> omega))⟩
      · simp only [q, if_false]; exact z
    · have z := u2 e i e0 e1 i0 i1
      simp only [aUp_rd, true_and, Nat.reduceEqDiff, false_and, if_false]
      by_cases q : e = d
      · subst q
        simp only [if_true]
        rw [if_pos (show 100 * e ≤ 100 * e + i ∧ 100 * e + i < 100 * e + ((100 : Nat) : Int) by omega)]
        refine ⟨?_, ⟨by decide, by decide⟩, fun _ u => ?_, fun _ _ => ⟨by decide, by decide⟩⟩
        · split
          · exact ⟨by decide, by decide⟩
          · exact z.1
        · rw [if_pos (by omega)]
      · simp only [q, if_false]
        rw [if_neg (show ¬ (100 * d ≤ 100 * e + i ∧ 100 * e + i < 100 * d + ((100 : Nat) : Int)) by omega), if_neg (show ¬ (d * 100 ≤ e * 100 + i ∧ e * 100 + i < d * 100 + (n.toNat : Int)) by omega)]
        exact z
    · simp only [aUp_rd, true_and, Nat.reduceEqDiff, false_and, if_false]
      rw [if_neg (by omega)]
      exact u3 e he
  · rw [if_neg g, if_neg g]
    exact h
theorem pr_put (l : Launch) (d i v : Int) (σ : aS) (h : Inv σ) (hd : aIr d) (hi : aIr i) (hv : aIr v) : Pair l aI mX6_put mX7_put [aI d, aI i, aI v] σ := by
  obtain ⟨u1, u2, u3⟩ := h.2.2.1.un
  refine ⟨4, 3, _, by decide, by decide, am_post (fun r σ' q => ⟨q.1, ?_⟩) (cC_put l d i v σ h.2.2.1.1 hd hi hv)⟩
  have e : ∀ t : Nat, t ≠ 15 → σ' t 0 = σ t 0 := fun t ht => by
    rw [q.2]
    unfold S_put
    split
    · funext j; exact aUp_tag ht
    · rfl
  have hm : MSH σ' := by
    have z := h.2.2.1.2.1
    unfold MSH at z ⊢
    rw [e 26 (by decide), e 27 (by decide), e 28 (by decide), e 29 (by decide), e 30 (by decide), e 31 (by decide)]
    exact z
  have c := cM_put l d i v σ' hm hd hi hv
  rw [e 26 (by decide), e 30 (by decide)] at c
  have key : MA_put (σ 26 0 d) (σ 30 0 d) d i = A_put σ d i := by
    unfold MA_put A_put
    rw [h.2.2.1.ct]
    by_cases hl : lkF (σ 10 0 d) d 2 = 0
    · rw [if_pos hl, if_pos hl, (h.2.2.1.el hl).2.1]
    · rw [if_neg hl, if_neg hl]
  rw [key] at c
  refine am_post (fun r' τ q' => ⟨q'.1, ?_⟩) c
  rw [q'.2]
  unfold MS_put
  rw [e 26 (by decide), e 30 (by decide), e 29 (by decide), h.2.2.1.ct, q.2]
  unfold S_put
  by_cases hl : lkF (σ 10 0 d) d 2 = 0
  · obtain ⟨hl1, hl2⟩ := lkF_d hl
    have el := h.2.2.1.el hl
    have bs := (u1 d hl1.1 hl1.2).1.2.2.2.2
    rw [el.2.1, el.1]
    by_cases g : 0 ≤ i ∧ i < σ 14 0 d
    · rw [if_pos ⟨hl, g⟩, if_pos ⟨hl, g⟩]
      have hc := cuF_rng (s := σ 13 0 d) hv
      refine Inv_S h (fun t c j hn => ?_) (IvS.mk' (fun b b0 b1 => ?_) (fun b j b0 b1 j0 j1 => ?_) (fun b he => ?_))
      · simp only [aUp_rd]
        (repeat' split) <;> first | rfl | omega
      · simp only [aUp_rd, true_and, Nat.reduceEqDiff, false_and, if_false]
        exact u1 b b0 b1
      · have z := u2 b j b0 b1 j0 j1
        simp only [aUp_rd, true_and, Nat.reduceEqDiff, false_and, if_false]
        by_cases q : b = d ∧ j = i
        · obtain ⟨q1, q2⟩ := q
          subst q1
          subst q2
          simp only [if_true]
          refine ⟨hc, hc, fun _ _ => trivial, fun q _ => ?_⟩
          rw [← el.1, q]
          exact cuF_b
        · rw [if_neg (show ¬ (b * 100 + j = d * 100 + i) by omega), if_neg (show ¬ (100 * b + j = 100 * d + i) by omega)]
          exact z
      · simp only [aUp_rd, true_and, Nat.reduceEqDiff, false_and, if_false]
        exact u3 b he
    · rw [if_neg (fun z => g z.2), if_neg (fun z => g z.2)]
      exact h
  · rw [if_neg (fun z => hl z.1), if_neg (fun z => hl z.1)]
    exact h
theorem pr_cost (l : Launch) (d : Int) (σ : aS) (h : Inv σ) (hd : aIr d) : Pair l aI mX6_cost mX7_cost [aI d] σ := by
  refine ⟨3, 3, _, by decide, by decide, am_post (fun r σ' q => ⟨q.1, ?_⟩) (cC_cost l d σ h.2.2.1.1 hd)⟩
  rw [q.2]
  refine am_post (fun r' τ q' => ⟨?_, by rw [q'.2]; exact h⟩) (cM_cost l d σ h.2.2.1.2.1 hd)
  rw [q'.1]
  refine aret ?_
  unfold A_cost
  rw [h.2.2.1.ct]
  by_cases hl : lkF (σ 10 0 d) d 1 = 0
  · obtain ⟨h1, h2⟩ := lkF_d hl
    have b := (h.2.2.1.2.2.1 d h1.1 h1.2).2.1 h2
    rw [b.1, b.2]
  · rw [if_neg hl, if_neg hl]
theorem eq_copy {σ : aS} (h : IvS σ) (d i e j n : Int) : A_copy (σ 26 0 d) (σ 26 0 e) (σ 29 0 d) (σ 29 0 e) (σ 30 0 d) (σ 30 0 e) d i e j n = A_copy (σ 10 0 d) (σ 10 0 e) (σ 13 0 d) (σ 13 0 e) (σ 14 0 d) (σ 14 0 e) d i e j n := by
  obtain ⟨u1, u2, u3⟩ := h.un
  unfold A_copy
  by_cases g : (0 ≤ d ∧ d < 8) ∧ (0 ≤ e ∧ e < 8)
  · rw [if_pos g, if_pos g, (u1 d g.1.1 g.1.2).2.1.1, (u1 e g.2.1 g.2.2).2.1.1]
    by_cases c : σ 10 0 d = 2 ∧ σ 10 0 e = 2
    · have a := (u1 d g.1.1 g.1.2).2.2.2 c.1
      have b := (u1 e g.2.1 g.2.2).2.2.2 c.2
      rw [a.1, a.2, b.1, b.2]
    · by_cases c0 : σ 10 0 d = 0 ∨ σ 10 0 e = 0
      · rw [if_pos c0, if_pos c0]
      · rw [if_neg c0, if_neg c0, if_pos (by omega), if_pos (by omega)]
  · rw [if_neg g, if_neg g]
theorem pr_copy (l : Launch) (d i e j n : Int) (σ : aS) (h : Inv σ) (hd : aIr d) (hi : aIr i) (he : aIr e) (hj : aIr j) (hn : aIr n) : Pair l aI mX6_copy mX7_copy [aI d, aI i, aI e, aI j, aI n] σ := by
  obtain ⟨u1, u2, u3⟩ := h.2.2.1.un
  refine ⟨4, 2, _, by decide, by decide, am_post (fun r σ' q => ⟨q.1, ?_⟩) (cC_copy l d i e j n σ h.2.2.1.1 hd hi he hj hn)⟩
  have k : ∀ t : Nat, t ≠ 15 → σ' t 0 = σ t 0 := fun t ht => by
    rw [q.2]
    unfold S_copy
    split
    · funext x; exact if_neg (fun z => ht z.1)
    · rfl
  have hm : MSH σ' := by
    have z := h.2.2.1.2.1
    unfold MSH at z ⊢
    rw [k 26 (by decide), k 27 (by decide), k 28 (by decide), k 29 (by decide), k 30 (by decide), k 31 (by decide)]
    exact z
  have c := cM_copy l d i e j n σ' hm hd hi he hj hn
  rw [k 26 (by decide), k 29 (by decide), k 30 (by decide), eq_copy h.2.2.1] at c
  refine am_post (fun r' τ q' => ⟨q'.1, ?_⟩) c
  rw [q'.2]
  unfold MS_copy
  rw [k 26 (by decide), k 29 (by decide), k 30 (by decide), q.2]
  unfold S_copy
  by_cases g : ((0 ≤ d ∧ d < 8) ∧ (0 ≤ e ∧ e < 8)) ∧ (σ 10 0 d = 2 ∧ σ 10 0 e = 2 ∧ σ 13 0 d = σ 13 0 e) ∧ (0 ≤ n ∧ 0 ≤ i ∧ 0 ≤ j ∧ i ≤ σ 14 0 d - n ∧ j ≤ σ 14 0 e - n)
  · have g2 := g
    obtain ⟨⟨⟨d0, d1⟩, ⟨e0, e1⟩⟩, ⟨c1, c2, c3⟩, n0, i0, j0, i1, j1⟩ := g2
    have a := (u1 d d0 d1).2.2.2 c1
    have b := (u1 e e0 e1).2.2.2 c2
    have ba := (u1 d d0 d1).1.2.2.2.2
    have bb := (u1 e e0 e1).1.2.2.2.2
    rw [if_pos g, if_pos (show ((0 ≤ d ∧ d < 8) ∧ (0 ≤ e ∧ e < 8)) ∧ (σ 26 0 d = 2 ∧ σ 26 0 e = 2 ∧ σ 29 0 d = σ 29 0 e) ∧ (0 ≤ n ∧ 0 ≤ i ∧ 0 ≤ j ∧ i ≤ σ 30 0 d - n ∧ j ≤ σ 30 0 e - n) by rw [(u1 d d0 d1).2.1.1, (u1 e e0 e1).2.1.1, a.1, a.2, b.1, b.2]; exact g)]
    unfold aCp
    refine Inv_S h (fun t c x hx => ?_) (IvS.mk' (fun y b0 b1 => ?_) (fun y x b0 b1 x0 x1 => ?_) (fun y he => ?_))
    · (repeat' split) <;> first | rfl | omega
    · simp only [true_and, Nat.reduceEqDiff, false_and, if_false]
      exact u1 y b0 b1
    · have z := u2 y x b0 b1 x0 x1
      simp only [true_and, Nat.reduceEqDiff, false_and, if_false]
      by_cases q : y = e ∧ j ≤ x ∧ x < j + n
      · obtain ⟨q1, q2, q3⟩ := q
        subst q1
        have w1 := u2 d (i + (x - j)) d0 d1 (by omega) (by omega)
        rw [if_pos (show y * 100 + j ≤ y * 100 + x ∧ y * 100 + x < y * 100 + j + n by omega), if_pos (show 100 * y + j ≤ 100 * y + x ∧ 100 * y + x < 100 * y + j + n by omega), show d * 100 + i + (y * 100 + x - (y * 100 + j)) = d * 100 + (i + (x - j)) by omega, show 100 * d + i + (100 * y + x - (100 * y + j)) = 100 * d + (i + (x - j)) by omega]
        exact ⟨w1.1, w1.2.1, fun _ _ => w1.2.2.1 c1 (by omega), fun w _ => w1.2.2.2 (by omega) (by omega)⟩
      · rw [if_neg (show ¬ (e * 100 + j ≤ y * 100 + x ∧ y * 100 + x < e * 100 + j + n) by omega), if_neg (show ¬ (100 * e + j ≤ 100 * y + x ∧ 100 * y + x < 100 * e + j + n) by omega)]
        exact z
    · simp only [true_and, Nat.reduceEqDiff, false_and, if_false]
      exact u3 y he
  · rw [if_neg g, if_neg (fun z => ?_)]
    · exact h
    · obtain ⟨⟨⟨d0, d1⟩, ⟨e0, e1⟩⟩, ⟨c1, c2, c3⟩, r⟩ := z
      rw [(u1 d d0 d1).2.1.1] at c1
      rw [(u1 e e0 e1).2.1.1] at c2
      have a := (u1 d d0 d1).2.2.2 c1
      have b := (u1 e e0 e1).2.2.2 c2
      rw [a.1, b.1] at c3
      rw [a.2, b.2] at r
      exact g ⟨⟨⟨d0, d1⟩, ⟨e0, e1⟩⟩, ⟨c1, c2, c3⟩, r⟩
/-! a cabinet told -/
theorem bk_cong {E E' : Int → Int} (n : Int) : ∀ (k i : Nat) (due : Int), (∀ j : Nat, i ≤ j → j < i + k → E j = E' j) → bkF E n k i due = bkF E' n k i due
  | 0, _, _, _ => rfl
  | k + 1, i, due, h => by
    rw [bkF, bkF, h i (Nat.le_refl i) (by omega), bk_cong n k (i + 1) _ (fun j h1 h2 => h j (by omega) (by omega)), bk_cong n k (i + 1) (-1) (fun j h1 h2 => h j (by omega) (by omega)), bk_cong n k (i + 1) (due - 1) (fun j h1 h2 => h j (by omega) (by omega))]
theorem st_cong {r : aRw} {x a b e a' b' e' : Int} (hx : dgF x ≠ 0) (h1 : 1 ≤ dgF x → a = a') (h2 : 2 ≤ dgF x → b = b') (h3 : 3 ≤ dgF x → e = e') : okB r x a b e = okB r x a' b' e' ∧ doS r x a b e = doS r x a' b' e' := by
  rcases dgF_x hx with rfl | rfl | rfl | rfl | rfl | rfl
  · cases h1 (by decide); cases h2 (by decide); exact ⟨rfl, rfl⟩
  · cases h1 (by decide); exact ⟨rfl, rfl⟩
  · cases h1 (by decide); cases h2 (by decide); exact ⟨rfl, rfl⟩
  · cases h1 (by decide); cases h2 (by decide); cases h3 (by decide); exact ⟨rfl, rfl⟩
  · cases h1 (by decide); cases h2 (by decide); exact ⟨rfl, rfl⟩
  · cases h1 (by decide); cases h2 (by decide); cases h3 (by decide); exact ⟨rfl, rfl⟩
theorem ob_ok {E E' : Int → Int} {n : Int} (hn : 0 ≤ n) (hE : ∀ j : Nat, (j : Int) < n → E j = E' j) : ∀ (k i : Nat) (s : Int) (r : aRw), WF r → r 1 ≤ 999 → ((i : Int) < n → bkF E n (n.toNat - i) i (-1) = -1) → obF E n k i s r = obF E' n k i s r ∧ WF (obF E n k i s r).2 ∧ (obF E n k i s r).2 1 ≤ 999
  | 0, _, _, _, hw, hd, _ => ⟨rfl, hw, hd⟩
  | k + 1, i, s, r, hw, hd, hb => by
    by_cases hi : (i : Int) < n
    · obtain ⟨b1, b2, b3, b4, b5, b6⟩ := bk_st hn (k := n.toNat - i) (by omega) (hb hi)
      have hr := dgF_rng (E i)
      have c1 : ((i + 1 : Nat) : Int) = (i : Int) + 1 := rfl
      have c2 : ((i + 2 : Nat) : Int) = (i : Int) + 2 := rfl
      have c3 : ((i + 3 : Nat) : Int) = (i : Int) + 3 := rfl
      have e1 : 1 ≤ dgF (E i) → E ((i : Int) + 1) - 48 = E' ((i : Int) + 1) - 48 := fun q => by rw [← c1, hE (i + 1) (by omega)]
      have e2 : 2 ≤ dgF (E i) → E ((i : Int) + 2) - 48 = E' ((i : Int) + 2) - 48 := fun q => by rw [← c2, hE (i + 2) (by omega)]
      have e3 : 3 ≤ dgF (E i) → E ((i : Int) + 3) - 48 = E' ((i : Int) + 3) - 48 := fun q => by rw [← c3, hE (i + 3) (by omega)]
      obtain ⟨s1, s2⟩ := st_cong (r := r) b1 e1 e2 e3
      rw [obF, obF, if_pos hi, if_pos hi, ← hE i hi, ← s1, ← s2]
      by_cases ok : okB r (E i) (E ((i : Int) + 1) - 48) (E ((i : Int) + 2) - 48) (E ((i : Int) + 3) - 48) = true
      · rw [if_pos ok, if_pos ok]
        have hdo := doS_ok hw hd b1 b4 b5 b6 ok
        exact ob_ok hn hE k (i + (dgF (E i)).toNat + 2) (s + 1) _ hdo.1 hdo.2 (fun q => by rw [show n.toNat - (i + (dgF (E i)).toNat + 2) = n.toNat - i - ((dgF (E i)).toNat + 2) by omega]; exact b3)
      · rw [if_neg ok, if_neg ok]
        exact ⟨rfl, hw, hd⟩
    · rw [obF_end hi, obF_end hi]
      exact ⟨rfl, hw, hd⟩
theorem eq_cabinet {σ : aS} (h : IvS σ) {r : aRw} (hw : WF r) (h9 : r 1 ≤ 999) (d : Int) : A_cabinet r (mE σ d) (σ 26 0 d) (σ 29 0 d) (σ 30 0 d) d = A_cabinet r (vaF σ d) (σ 10 0 d) (σ 13 0 d) (σ 14 0 d) d ∧ R_cabinet r (mE σ d) (σ 26 0 d) (σ 29 0 d) (σ 30 0 d) d = R_cabinet r (vaF σ d) (σ 10 0 d) (σ 13 0 d) (σ 14 0 d) d ∧ WF (R_cabinet r (vaF σ d) (σ 10 0 d) (σ 13 0 d) (σ 14 0 d) d) ∧ R_cabinet r (vaF σ d) (σ 10 0 d) (σ 13 0 d) (σ 14 0 d) d 1 ≤ 999 := by
  unfold A_cabinet R_cabinet
  rw [h.ct]
  by_cases hl : lkF (σ 10 0 d) d 2 = 0
  · obtain ⟨a, b, c, e⟩ := h.el hl
    rw [if_pos hl, if_pos hl, a, b]
    have hb : bkF (mE σ d) (σ 14 0 d) (σ 14 0 d).toNat 0 (-1) = bkF (vaF σ d) (σ 14 0 d) (σ 14 0 d).toNat 0 (-1) := bk_cong _ _ _ _ (fun j _ h2 => e j (by omega))
    rw [hb]
    by_cases hk : bkF (vaF σ d) (σ 14 0 d) (σ 14 0 d).toNat 0 (-1) = -1
    · obtain ⟨o1, o2, o3⟩ := ob_ok (E := mE σ d) (E' := vaF σ d) c.1 e (σ 14 0 d).toNat 0 0 r hw h9 (fun _ => by rw [Nat.sub_zero, hb]; exact hk)
      have o1' : oCb (mE σ d) (σ 14 0 d) r = oCb (vaF σ d) (σ 14 0 d) r := o1
      rw [o1']
      rw [o1] at o2 o3
      refine ⟨rfl, rfl, ?_⟩
      split
      · exact ⟨o2, o3⟩
      · exact ⟨hw, h9⟩
    · have nc : ∀ X : Int, ¬ ((lkF (σ 10 0 d) d 2 = 0 ∧ σ 13 0 d = 0 ∧ bkF (vaF σ d) (σ 14 0 d) (σ 14 0 d).toNat 0 (-1) = -1) ∧ 0 ≤ X) := fun X z => hk z.1.2.2
      rw [if_neg hk, if_neg hk, if_neg (nc _), if_neg (nc _)]
      exact ⟨rfl, rfl, hw, h9⟩
  · have nc : ∀ (X Y : Int) (E : Int → Int), ¬ ((lkF (σ 10 0 d) d 2 = 0 ∧ X = 0 ∧ bkF E Y Y.toNat 0 (-1) = -1) ∧ 0 ≤ (oCb E Y r).1) := fun X Y E z => hl z.1.1
    rw [if_neg hl, if_neg hl, if_neg (nc _ _ _), if_neg (nc _ _ _)]
    exact ⟨rfl, rfl, hw, h9⟩
theorem pr_cabinet (l : Launch) (d : Int) (σ : aS) (h : Inv σ) (hd : aIr d) : Pair l aI mX6_cabinet mX7_cabinet [aI d] σ := by
  have hS := h.2.2.1
  obtain ⟨e1, e2, e3, e4⟩ := eq_cabinet hS h.1.2.1 h.1.2.2 d
  refine ⟨7, 6, _, by decide, by decide, am_post (fun r σ' q => ⟨q.1, ?_⟩) (cC_cabinet l d σ (σ 22 0) h.1.1 h.1.2.1 h.1.2.2 hS.1 hd)⟩
  obtain ⟨q1, q2, q3⟩ := q
  have k : ∀ t c : Nat, ¬ CCb t c → σ' t c = σ t c := fun t c hn => by
    funext i
    exact q3 t c i hn
  have n22 : ∀ t c : Nat, (10 ≤ t ∧ t ≤ 15) ∨ 21 ≤ t → ¬ CCb t c := fun t c ht z => by
    unfold CCb Cb CScr at z
    omega
  have hS' : IvS σ' := IvS_fr hS (fun t ht => k t 0 (n22 t 0 (by omega)))
  have k22 : ∀ c : Nat, σ' 22 c = σ 22 c := fun c => k 22 c (n22 22 c (by omega))
  have hmE : mE σ' d = mE σ d := by
    funext i
    unfold mE
    rw [k 31 0 (n22 31 0 (by omega))]
  have z := cM_cabinet l d σ' (by rw [k22]; exact h.1.2.1) (by rw [k22]; exact h.1.2.2) (by rw [k22]; exact h.2.1.2.2.1) hS'.2.1 hd (fun q j j0 j1 => by
    by_cases g : 0 ≤ d ∧ d < 8
    · exact hS'.2.2.2.2 d g.1 g.2 q j j0 j1
    · rw [hS'.2.2.2.1 d g] at j1; omega)
  rw [k22, hmE, k 26 0 (n22 26 0 (by omega)), k 29 0 (n22 29 0 (by omega)), k 30 0 (n22 30 0 (by omega)), e1, e2] at z
  exact am_post (fun r' τ q' => ⟨q'.1, Inv_R h q3 q2 e3 e4 q'.2.1 q'.2.2⟩) z
