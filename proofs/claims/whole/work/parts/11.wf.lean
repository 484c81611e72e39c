/-! ===== rows stay as they must be ===== -/
theorem WF_kind {r : aRw} (h : WF r) {p x : Int} (hp0 : 0 ≤ p) (hp1 : p < r 0) (hx : 0 ≤ x ∧ x ≤ 7) : WF (rUp r (aOf p 0) (x)) := by
  obtain ⟨a0, a1, a2, a3, a4, a5, a6, a7⟩ := h
  have hp8 : p < 8 := by omega
  refine ⟨?_, ?_, ?_, ?_, ?_, ?_, ?_, ?_⟩
  · rw [rUp_ne (by (try unfold aOf); omega)]; exact a0
  · rw [rUp_ne (by (try unfold aOf); omega)]; exact a1
  · rw [rUp_ne (by (try unfold aOf); omega)]; exact a2
  · intro g g0 g1; rw [rUp_ne (by (try unfold aOf); omega)]; exact a3 g g0 g1
  · intro g g0 g1; rw [rUp_ne (j := 8 + g) (by (try unfold aOf); omega), rUp_ne (j := 0) (by (try unfold aOf); omega)]; exact a4 g g0 g1
  · intro g g2 g0 g1 g3 g4; rw [rUp_ne (j := 8 + g) (by (try unfold aOf); omega), rUp_ne (j := 8 + g2) (by (try unfold aOf); omega)]; exact a5 g g2 g0 g1 g3 g4
  · intro q q0 q1; rw [rUp_ne (j := 0) (by (try unfold aOf); omega)] at q1
    have b := a6 q q0 q1
    by_cases hq : q = p
    · subst hq; rw [show rUp r (aOf q 0) x (aOf q 0) = x from rUp_eq, rUp_ne (j := aOf q 1) (by (try unfold aOf); omega), rUp_ne (j := aOf q 2) (by (try unfold aOf); omega), rUp_ne (j := aOf q 3) (by (try unfold aOf); omega)]; exact ⟨hx, b.2.1, b.2.2.1, b.2.2.2⟩
    · rw [rUp_ne (j := aOf q 0) (by (try unfold aOf); omega), rUp_ne (j := aOf q 1) (by (try unfold aOf); omega), rUp_ne (j := aOf q 2) (by (try unfold aOf); omega), rUp_ne (j := aOf q 3) (by (try unfold aOf); omega)]; exact b
  · intro i hi; rw [rUp_ne (by (try unfold aOf); omega)]; exact a7 i hi
theorem WF_fig {r : aRw} (h : WF r) {p x : Int} (hp0 : 0 ≤ p) (hp1 : p < r 0) (hx : 0 ≤ x ∧ x ≤ 9) : WF (rUp r (aOf p 1) (x)) := by
  obtain ⟨a0, a1, a2, a3, a4, a5, a6, a7⟩ := h
  have hp8 : p < 8 := by omega
  refine ⟨?_, ?_, ?_, ?_, ?_, ?_, ?_, ?_⟩
  · rw [rUp_ne (by (try unfold aOf); omega)]; exact a0
  · rw [rUp_ne (by (try unfold aOf); omega)]; exact a1
  · rw [rUp_ne (by (try unfold aOf); omega)]; exact a2
  · intro g g0 g1; rw [rUp_ne (by (try unfold aOf); omega)]; exact a3 g g0 g1
  · intro g g0 g1; rw [rUp_ne (j := 8 + g) (by (try unfold aOf); omega), rUp_ne (j := 0) (by (try unfold aOf); omega)]; exact a4 g g0 g1
  · intro g g2 g0 g1 g3 g4; rw [rUp_ne (j := 8 + g) (by (try unfold aOf); omega), rUp_ne (j := 8 + g2) (by (try unfold aOf); omega)]; exact a5 g g2 g0 g1 g3 g4
  · intro q q0 q1; rw [rUp_ne (j := 0) (by (try unfold aOf); omega)] at q1
    have b := a6 q q0 q1
    by_cases hq : q = p
    · subst hq; rw [show rUp r (aOf q 1) x (aOf q 1) = x from rUp_eq, rUp_ne (j := aOf q 0) (by (try unfold aOf); omega), rUp_ne (j := aOf q 2) (by (try unfold aOf); omega), rUp_ne (j := aOf q 3) (by (try unfold aOf); omega)]; exact ⟨b.1, hx, b.2.2.1, b.2.2.2⟩
    · rw [rUp_ne (j := aOf q 0) (by (try unfold aOf); omega), rUp_ne (j := aOf q 1) (by (try unfold aOf); omega), rUp_ne (j := aOf q 2) (by (try unfold aOf); omega), rUp_ne (j := aOf q 3) (by (try unfold aOf); omega)]; exact b
  · intro i hi; rw [rUp_ne (by (try unfold aOf); omega)]; exact a7 i hi
theorem WF_known {r : aRw} (h : WF r) {p x : Int} (hp0 : 0 ≤ p) (hp1 : p < r 0) (hx : 0 ≤ x ∧ x ≤ 99) : WF (rUp r (aOf p 2) (x)) := by
  obtain ⟨a0, a1, a2, a3, a4, a5, a6, a7⟩ := h
  have hp8 : p < 8 := by omega
  refine ⟨?_, ?_, ?_, ?_, ?_, ?_, ?_, ?_⟩
  · rw [rUp_ne (by (try unfold aOf); omega)]; exact a0
  · rw [rUp_ne (by (try unfold aOf); omega)]; exact a1
  · rw [rUp_ne (by (try unfold aOf); omega)]; exact a2
  · intro g g0 g1; rw [rUp_ne (by (try unfold aOf); omega)]; exact a3 g g0 g1
  · intro g g0 g1; rw [rUp_ne (j := 8 + g) (by (try unfold aOf); omega), rUp_ne (j := 0) (by (try unfold aOf); omega)]; exact a4 g g0 g1
  · intro g g2 g0 g1 g3 g4; rw [rUp_ne (j := 8 + g) (by (try unfold aOf); omega), rUp_ne (j := 8 + g2) (by (try unfold aOf); omega)]; exact a5 g g2 g0 g1 g3 g4
  · intro q q0 q1; rw [rUp_ne (j := 0) (by (try unfold aOf); omega)] at q1
    have b := a6 q q0 q1
    by_cases hq : q = p
    · subst hq; rw [show rUp r (aOf q 2) x (aOf q 2) = x from rUp_eq, rUp_ne (j := aOf q 0) (by (try unfold aOf); omega), rUp_ne (j := aOf q 1) (by (try unfold aOf); omega), rUp_ne (j := aOf q 3) (by (try unfold aOf); omega)]; exact ⟨b.1, b.2.1, hx, b.2.2.2⟩
    · rw [rUp_ne (j := aOf q 0) (by (try unfold aOf); omega), rUp_ne (j := aOf q 1) (by (try unfold aOf); omega), rUp_ne (j := aOf q 2) (by (try unfold aOf); omega), rUp_ne (j := aOf q 3) (by (try unfold aOf); omega)]; exact b
  · intro i hi; rw [rUp_ne (by (try unfold aOf); omega)]; exact a7 i hi
theorem WF_mate {r : aRw} (h : WF r) {p x : Int} (hp0 : 0 ≤ p) (hp1 : p < r 0) (hx : 0 ≤ x ∧ x ≤ 9 ∧ x ≠ 8) : WF (rUp r (aOf p 3) (x)) := by
  obtain ⟨a0, a1, a2, a3, a4, a5, a6, a7⟩ := h
  have hp8 : p < 8 := by omega
  refine ⟨?_, ?_, ?_, ?_, ?_, ?_, ?_, ?_⟩
  · rw [rUp_ne (by (try unfold aOf); omega)]; exact a0
  · rw [rUp_ne (by (try unfold aOf); omega)]; exact a1
  · rw [rUp_ne (by (try unfold aOf); omega)]; exact a2
  · intro g g0 g1; rw [rUp_ne (by (try unfold aOf); omega)]; exact a3 g g0 g1
  · intro g g0 g1; rw [rUp_ne (j := 8 + g) (by (try unfold aOf); omega), rUp_ne (j := 0) (by (try unfold aOf); omega)]; exact a4 g g0 g1
  · intro g g2 g0 g1 g3 g4; rw [rUp_ne (j := 8 + g) (by (try unfold aOf); omega), rUp_ne (j := 8 + g2) (by (try unfold aOf); omega)]; exact a5 g g2 g0 g1 g3 g4
  · intro q q0 q1; rw [rUp_ne (j := 0) (by (try unfold aOf); omega)] at q1
    have b := a6 q q0 q1
    by_cases hq : q = p
    · subst hq; rw [show rUp r (aOf q 3) x (aOf q 3) = x from rUp_eq, rUp_ne (j := aOf q 0) (by (try unfold aOf); omega), rUp_ne (j := aOf q 1) (by (try unfold aOf); omega), rUp_ne (j := aOf q 2) (by (try unfold aOf); omega)]; exact ⟨b.1, b.2.1, b.2.2.1, hx⟩
    · rw [rUp_ne (j := aOf q 0) (by (try unfold aOf); omega), rUp_ne (j := aOf q 1) (by (try unfold aOf); omega), rUp_ne (j := aOf q 2) (by (try unfold aOf); omega), rUp_ne (j := aOf q 3) (by (try unfold aOf); omega)]; exact b
  · intro i hi; rw [rUp_ne (by (try unfold aOf); omega)]; exact a7 i hi
theorem WF_day {r : aRw} (h : WF r) {x : Int} (hx : 0 ≤ x) : WF (rUp r (1) (x)) := by
  obtain ⟨a0, a1, a2, a3, a4, a5, a6, a7⟩ := h
  refine ⟨?_, ?_, ?_, ?_, ?_, ?_, ?_, ?_⟩
  · rw [rUp_ne (by (try unfold aOf); omega)]; exact a0
  · rw [rUp_eq]; exact hx
  · rw [rUp_ne (by (try unfold aOf); omega)]; exact a2
  · intro g g0 g1; rw [rUp_ne (by (try unfold aOf); omega)]; exact a3 g g0 g1
  · intro g g0 g1; rw [rUp_ne (j := 8 + g) (by (try unfold aOf); omega), rUp_ne (j := 0) (by (try unfold aOf); omega)]; exact a4 g g0 g1
  · intro g g2 g0 g1 g3 g4; rw [rUp_ne (j := 8 + g) (by (try unfold aOf); omega), rUp_ne (j := 8 + g2) (by (try unfold aOf); omega)]; exact a5 g g2 g0 g1 g3 g4
  · intro q q0 q1; rw [rUp_ne (j := 0) (by (try unfold aOf); omega)] at q1; rw [rUp_ne (j := aOf q 0) (by (try unfold aOf); omega), rUp_ne (j := aOf q 1) (by (try unfold aOf); omega), rUp_ne (j := aOf q 2) (by (try unfold aOf); omega), rUp_ne (j := aOf q 3) (by (try unfold aOf); omega)]; exact a6 q q0 q1
  · intro i hi; rw [rUp_ne (by (try unfold aOf); omega)]; exact a7 i hi
theorem WF_falls {r : aRw} (h : WF r) {x : Int} (hx : 0 ≤ x ∧ x ≤ 999) : WF (rUp r (2) (x)) := by
  obtain ⟨a0, a1, a2, a3, a4, a5, a6, a7⟩ := h
  refine ⟨?_, ?_, ?_, ?_, ?_, ?_, ?_, ?_⟩
  · rw [rUp_ne (by (try unfold aOf); omega)]; exact a0
  · rw [rUp_ne (by (try unfold aOf); omega)]; exact a1
  · rw [rUp_eq]; exact hx
  · intro g g0 g1; rw [rUp_ne (by (try unfold aOf); omega)]; exact a3 g g0 g1
  · intro g g0 g1; rw [rUp_ne (j := 8 + g) (by (try unfold aOf); omega), rUp_ne (j := 0) (by (try unfold aOf); omega)]; exact a4 g g0 g1
  · intro g g2 g0 g1 g3 g4; rw [rUp_ne (j := 8 + g) (by (try unfold aOf); omega), rUp_ne (j := 8 + g2) (by (try unfold aOf); omega)]; exact a5 g g2 g0 g1 g3 g4
  · intro q q0 q1; rw [rUp_ne (j := 0) (by (try unfold aOf); omega)] at q1; rw [rUp_ne (j := aOf q 0) (by (try unfold aOf); omega), rUp_ne (j := aOf q 1) (by (try unfold aOf); omega), rUp_ne (j := aOf q 2) (by (try unfold aOf); omega), rUp_ne (j := aOf q 3) (by (try unfold aOf); omega)]; exact a6 q q0 q1
  · intro i hi; rw [rUp_ne (by (try unfold aOf); omega)]; exact a7 i hi
theorem WF_cost {r : aRw} (h : WF r) {f x : Int} (f0 : 0 ≤ f) (f1 : f < 5) (hx : 0 ≤ x ∧ x ≤ 9) : WF (rUp r (3 + f) (x)) := by
  obtain ⟨a0, a1, a2, a3, a4, a5, a6, a7⟩ := h
  refine ⟨?_, ?_, ?_, ?_, ?_, ?_, ?_, ?_⟩
  · rw [rUp_ne (by (try unfold aOf); omega)]; exact a0
  · rw [rUp_ne (by (try unfold aOf); omega)]; exact a1
  · rw [rUp_ne (by (try unfold aOf); omega)]; exact a2
  · intro g g0 g1
    by_cases hg : g = f
    · subst hg; rw [rUp_eq]; exact hx
    · rw [rUp_ne (by omega)]; exact a3 g g0 g1
  · intro g g0 g1; rw [rUp_ne (j := 8 + g) (by (try unfold aOf); omega), rUp_ne (j := 0) (by (try unfold aOf); omega)]; exact a4 g g0 g1
  · intro g g2 g0 g1 g3 g4; rw [rUp_ne (j := 8 + g) (by (try unfold aOf); omega), rUp_ne (j := 8 + g2) (by (try unfold aOf); omega)]; exact a5 g g2 g0 g1 g3 g4
  · intro q q0 q1; rw [rUp_ne (j := 0) (by (try unfold aOf); omega)] at q1; rw [rUp_ne (j := aOf q 0) (by (try unfold aOf); omega), rUp_ne (j := aOf q 1) (by (try unfold aOf); omega), rUp_ne (j := aOf q 2) (by (try unfold aOf); omega), rUp_ne (j := aOf q 3) (by (try unfold aOf); omega)]; exact a6 q q0 q1
  · intro i hi; rw [rUp_ne (by (try unfold aOf); omega)]; exact a7 i hi
theorem WF_empty {r : aRw} (h : WF r) {f : Int} (f0 : 0 ≤ f) (f1 : f < 5) : WF (rUp r (8 + f) (-4)) := by
  obtain ⟨a0, a1, a2, a3, a4, a5, a6, a7⟩ := h
  refine ⟨?_, ?_, ?_, ?_, ?_, ?_, ?_, ?_⟩
  · rw [rUp_ne (by (try unfold aOf); omega)]; exact a0
  · rw [rUp_ne (by (try unfold aOf); omega)]; exact a1
  · rw [rUp_ne (by (try unfold aOf); omega)]; exact a2
  · intro g g0 g1; rw [rUp_ne (by (try unfold aOf); omega)]; exact a3 g g0 g1
  · intro g g0 g1; rw [rUp_ne (j := 0) (by omega)]
    by_cases hg : g = f
    · subst hg; rw [rUp_eq]; exact Or.inl rfl
    · rw [rUp_ne (by omega)]; exact a4 g g0 g1
  · intro g g2 g0 g1 g3 g4 k1 k2
    by_cases hg : g = f
    · subst hg; rw [rUp_eq] at k1; omega
    · rw [rUp_ne (j := 8 + g) (by omega)] at k1 k2
      by_cases hg2 : g2 = f
      · subst hg2; rw [rUp_eq] at k2; omega
      · rw [rUp_ne (j := 8 + g2) (by omega)] at k2; exact a5 g g2 g0 g1 g3 g4 k1 k2
  · intro q q0 q1; rw [rUp_ne (j := 0) (by (try unfold aOf); omega)] at q1; rw [rUp_ne (j := aOf q 0) (by (try unfold aOf); omega), rUp_ne (j := aOf q 1) (by (try unfold aOf); omega), rUp_ne (j := aOf q 2) (by (try unfold aOf); omega), rUp_ne (j := aOf q 3) (by (try unfold aOf); omega)]; exact a6 q q0 q1
  · intro i hi; rw [rUp_ne (by (try unfold aOf); omega)]; exact a7 i hi
theorem WF_hold {r : aRw} (h : WF r) {f p : Int} (f0 : 0 ≤ f) (f1 : f < 5) (hp0 : 0 ≤ p) (hp1 : p < r 0) (hn : ∀ g : Int, 0 ≤ g → g < 5 → g ≠ f → r (8 + g) ≠ p) : WF (rUp r (8 + f) (p)) := by
  obtain ⟨a0, a1, a2, a3, a4, a5, a6, a7⟩ := h
  refine ⟨?_, ?_, ?_, ?_, ?_, ?_, ?_, ?_⟩
  · rw [rUp_ne (by (try unfold aOf); omega)]; exact a0
  · rw [rUp_ne (by (try unfold aOf); omega)]; exact a1
  · rw [rUp_ne (by (try unfold aOf); omega)]; exact a2
  · intro g g0 g1; rw [rUp_ne (by (try unfold aOf); omega)]; exact a3 g g0 g1
  · intro g g0 g1; rw [rUp_ne (j := 0) (by omega)]
    by_cases hg : g = f
    · subst hg; rw [rUp_eq]; exact Or.inr ⟨hp0, hp1⟩
    · rw [rUp_ne (by omega)]; exact a4 g g0 g1
  · intro g g2 g0 g1 g3 g4 k1 k2
    by_cases hg : g = f
    · subst hg; rw [rUp_eq] at k1 k2
      by_cases hg2 : g2 = g
      · exact hg2.symm
      · rw [rUp_ne (j := 8 + g2) (by omega)] at k2; exact absurd k2.symm (hn g2 g3 g4 hg2)
    · rw [rUp_ne (j := 8 + g) (by omega)] at k1 k2
      by_cases hg2 : g2 = f
      · subst hg2; rw [rUp_eq] at k2; exact absurd k2 (hn g g0 g1 hg)
      · rw [rUp_ne (j := 8 + g2) (by omega)] at k2; exact a5 g g2 g0 g1 g3 g4 k1 k2
  · intro q q0 q1; rw [rUp_ne (j := 0) (by (try unfold aOf); omega)] at q1; rw [rUp_ne (j := aOf q 0) (by (try unfold aOf); omega), rUp_ne (j := aOf q 1) (by (try unfold aOf); omega), rUp_ne (j := aOf q 2) (by (try unfold aOf); omega), rUp_ne (j := aOf q 3) (by (try unfold aOf); omega)]; exact a6 q q0 q1
  · intro i hi; rw [rUp_ne (by (try unfold aOf); omega)]; exact a7 i hi
theorem shCut {kind f k day : Int} (h2 : 0 ≤ f ∧ f ≤ 9) (h3 : 0 ≤ k ∧ k ≤ 9) (b : Prop) [Decidable b] : 0 ≤ (shF kind f k day).tdiv (if b then 2 else 1) ∧ (shF kind f k day).tdiv (if b then 2 else 1) ≤ 15 := by
  have e := shF_rng (kind := kind) (day := day) h2 h3
  rw [Int.tdiv_eq_ediv_of_nonneg e.1]
  split <;> omega
theorem seR_wf {r : aRw} (h : WF r) {p : Int} (hp0 : 0 ≤ p) (hp1 : p < r 0) : WF (seR r p) := by
  have b := h.pe hp0 hp1
  unfold seR
  split
  · have q := foF_rng (kind := r (aOf p 0)) b.2.1
    exact WF_known h hp0 hp1 (by split <;> omega)
  · rename_i ho
    have hc := h.co (f := off r p) (by omega) (by have := off_rng r p; omega)
    have q := shCut (kind := r (aOf p 0)) (day := r 1) b.2.1 hc (1 < cntC r (r (3 + off r p)) 5)
    generalize (shF (r (aOf p 0)) (r (aOf p 1)) (r (3 + off r p)) (r 1)).tdiv (if 1 < cntC r (r (3 + off r p)) 5 then 2 else 1) = z at q ⊢
    exact WF_known h hp0 hp1 (by split <;> omega)
theorem seR_at (r : aRw) (p : Int) {j : Int} (h : j ≠ aOf p 2) : seR r p j = r j := by
  unfold seR
  split <;> exact rUp_ne h
theorem f1R_wf {r : aRw} (h : WF r) {f : Int} (f0 : 0 ≤ f) (f1 : f < 5) : WF (f1R r f) := by
  unfold f1R
  have b := h.2.2.1
  exact WF_empty (WF_falls h (by split <;> omega)) f0 f1
theorem f1R_at (r : aRw) (f : Int) {j : Int} (h2 : j ≠ 2) (h : j ≠ 8 + f) : f1R r f j = r j := by
  unfold f1R
  rw [rUp_ne h, rUp_ne h2]
theorem faR_wf {r : aRw} (h : WF r) {f : Int} (f0 : 0 ≤ f) (f1 : f < 5) : WF (faR r f) := by
  unfold faR
  split
  · exact h
  · rename_i hh
    have ho := h.ho f0 f1
    have b := h.pe (p := r (8 + f)) (by omega) (by omega)
    split
    · rename_i hm
      refine WF_hold (f1R_wf h f0 f1) f0 f1 (by omega) ?_ (fun g g0 g1 _ => off_neg hm.2.1 g g0 g1)
      rw [f1R_at r f (by decide) (by omega)]; exact hm.1
    · exact f1R_wf h f0 f1
theorem faR_at (r : aRw) (f : Int) {j : Int} (h2 : j ≠ 2) (h : j ≠ 8 + f) : faR r f j = r j := by
  unfold faR
  split
  · rfl
  · split
    · rw [rUp_ne h, f1R_at r f h2 h]
    · exact f1R_at r f h2 h
theorem seN_0 (r : aRw) : ∀ n : Nat, seN r n 0 = r 0 ∧ seN r n 1 = r 1 + 1 ∧ seN r n 2 = r 2
  | 0 => ⟨rUp_ne (by decide), rUp_eq, rUp_ne (by decide)⟩
  | n + 1 => by
    have h := seN_0 r n
    unfold seN
    rw [seR_at _ _ (by (try unfold aOf); omega), seR_at _ _ (by (try unfold aOf); omega), seR_at _ _ (by (try unfold aOf); omega)]
    exact h
theorem seN_wf {r : aRw} (h : WF r) : ∀ n : Nat, (n : Int) ≤ r 0 → WF (seN r n)
  | 0, _ => WF_day h (by have := h.2.1; omega)
  | n + 1, hn => by
    unfold seN
    exact seR_wf (seN_wf h n (by omega)) (by omega) (by rw [(seN_0 r n).1]; omega)
theorem faN_0 (r : aRw) : ∀ n : Nat, faN r n 0 = r 0 ∧ faN r n 1 = r 1
  | 0 => ⟨rfl, rfl⟩
  | n + 1 => by
    have h := faN_0 r n
    unfold faN
    rw [faR_at _ _ (by decide) (by omega), faR_at _ _ (by decide) (by omega)]
    exact h
theorem faN_wf {r : aRw} (h : WF r) : ∀ n : Nat, n ≤ 5 → WF (faN r n)
  | 0, _ => h
  | n + 1, hn => faR_wf (faN_wf h n (by omega)) (by omega) (by omega)
theorem dayR_wf {r : aRw} (h : WF r) : WF (dayR r) := faN_wf (seN_wf h _ (by have := h.1; omega)) 5 (by decide)
theorem dayR_0 (r : aRw) : dayR r 0 = r 0 ∧ dayR r 1 = r 1 + 1 := by
  unfold dayR
  rw [(faN_0 _ 5).1, (faN_0 _ 5).2]
  exact ⟨(seN_0 r _).1, (seN_0 r _).2.1⟩
theorem dysR_wf {r : aRw} (h : WF r) : ∀ n : Nat, WF (dysR r n)
  | 0 => h
  | n + 1 => dayR_wf (dysR_wf h n)
theorem dysR_0 (r : aRw) : ∀ n : Nat, dysR r n 0 = r 0 ∧ dysR r n 1 = r 1 + n
  | 0 => ⟨rfl, (Int.add_zero _).symm⟩
  | n + 1 => by
    have h := dysR_0 r n
    unfold dysR
    rw [(dayR_0 _).1, (dayR_0 _).2, h.1, h.2]
    exact ⟨rfl, by omega⟩
