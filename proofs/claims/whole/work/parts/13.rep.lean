/-! ===== the class's cabinet, and the row that it stands for ===== -/
def nb (x : Int) : Int := if x < 0 then -1 else x
def Rep (σ : aS) (c : Nat) (r : aRw) : Prop :=
  (σ 1 c 0 = r 0 ∧ σ 1 c 1 = r 1 ∧ σ 1 c 2 = r 2) ∧
  (∀ p : Int, 0 ≤ p → p < r 0 → σ 2 c p = r (aOf p 0) ∧ σ 3 c p = r (aOf p 1) ∧ σ 4 c p = r (aOf p 2) ∧ σ 5 c p = r (aOf p 3) ∧ σ 6 c p = nb (off r p)) ∧
  (∀ f : Int, 0 ≤ f → f < 5 → σ 7 c f = r (3 + f) ∧ σ 8 c f = nb (r (8 + f)))
/-- nothing else has changed than places of a kind -/
def aFr (S : Nat → Nat → Prop) (σ σ' : aS) : Prop := ∀ (t c : Nat) (i : Int), ¬ S t c → σ' t c i = σ t c i
def Cb (c : Nat) : Nat → Nat → Prop := fun t c' => 1 ≤ t ∧ t ≤ 8 ∧ c' = c
theorem aFr_rf {S : Nat → Nat → Prop} {σ : aS} : aFr S σ σ := fun _ _ _ _ => rfl
theorem aFr_tr {S : Nat → Nat → Prop} {σ σ' σ'' : aS} (h : aFr S σ σ') (h' : aFr S σ' σ'') : aFr S σ σ'' := fun t c i hn => (h' t c i hn).trans (h t c i hn)
theorem aFr_up {S : Nat → Nat → Prop} {σ : aS} {t c : Nat} {i x : Int} (h : S t c) : aFr S σ (aUp σ t c i x) := fun t' c' i' hn => by
  unfold aUp
  rw [if_neg (fun q => hn (by rw [q.1, q.2.1]; exact h))]
theorem aFr_mono {S S' : Nat → Nat → Prop} {σ σ' : aS} (h : aFr S σ σ') (hs : ∀ t c, S t c → S' t c) : aFr S' σ σ' := fun t c i hn => h t c i (fun q => hn (hs t c q))
theorem aUp_same {σ : aS} {t c : Nat} {i x : Int} : aUp σ t c i x t c i = x := by unfold aUp; rw [if_pos ⟨rfl, rfl, rfl⟩]
theorem aUp_idx {σ : aS} {t c : Nat} {i x j : Int} (h : j ≠ i) : aUp σ t c i x t c j = σ t c j := by unfold aUp; rw [if_neg (fun q => h q.2.2)]
theorem aUp_tag {σ : aS} {t c t' c' : Nat} {i x j : Int} (h : t' ≠ t) : aUp σ t c i x t' c' j = σ t' c' j := by unfold aUp; rw [if_neg (fun q => h q.1)]
theorem Rep.n {σ : aS} {c : Nat} {r : aRw} (h : Rep σ c r) : σ 1 c 0 = r 0 := h.1.1
theorem Rep.pe {σ : aS} {c : Nat} {r : aRw} (h : Rep σ c r) {p : Int} (h0 : 0 ≤ p) (h1 : p < r 0) : σ 2 c p = r (aOf p 0) ∧ σ 3 c p = r (aOf p 1) ∧ σ 4 c p = r (aOf p 2) ∧ σ 5 c p = r (aOf p 3) ∧ σ 6 c p = nb (off r p) := h.2.1 p h0 h1
theorem Rep.of {σ : aS} {c : Nat} {r : aRw} (h : Rep σ c r) {f : Int} (h0 : 0 ≤ f) (h1 : f < 5) : σ 7 c f = r (3 + f) ∧ σ 8 c f = nb (r (8 + f)) := h.2.2 f h0 h1
/-- another store that is the same there -/
theorem Rep.fr {σ σ' : aS} {c : Nat} {r : aRw} (h : Rep σ c r) (hs : ∀ (t : Nat) (i : Int), 1 ≤ t → t ≤ 8 → ¬ (t = 1 ∧ i = 3) → σ' t c i = σ t c i) : Rep σ' c r := by
  obtain ⟨⟨a, b, d⟩, e, f⟩ := h
  refine ⟨⟨by rw [hs 1 0 (by decide) (by decide) (by decide)]; exact a, by rw [hs 1 1 (by decide) (by decide) (by decide)]; exact b, by rw [hs 1 2 (by decide) (by decide) (by decide)]; exact d⟩, fun p h0 h1 => ?_, fun g h0 h1 => ?_⟩
  · rw [hs 2 p (by decide) (by decide) (by omega), hs 3 p (by decide) (by decide) (by omega), hs 4 p (by decide) (by decide) (by omega), hs 5 p (by decide) (by decide) (by omega), hs 6 p (by decide) (by decide) (by omega)]
    exact e p h0 h1
  · rw [hs 7 g (by decide) (by decide) (by omega), hs 8 g (by decide) (by decide) (by omega)]
    exact f g h0 h1
theorem nb_cases (x : Int) : (x < 0 ∧ nb x = -1) ∨ (0 ≤ x ∧ nb x = x) := by
  unfold nb
  split <;> omega
theorem off_empty {r : aRw} (h : WF r) {f q : Int} (f0 : 0 ≤ f) (f1 : f < 5) (hq : 0 ≤ q) : off (rUp r (8 + f) (-4)) q = if q = r (8 + f) then -4 else off r q := by
  have h' := WF_empty h f0 f1
  split
  · rename_i e
    refine off_none (fun g g0 g1 hg => ?_)
    by_cases hgf : g = f
    · subst hgf; rw [rUp_eq] at hg; omega
    · rw [rUp_ne (by omega)] at hg
      exact hgf (h.2.2.2.2.2.1 g f g0 g1 f0 f1 (by omega) (hg.trans e))
  · rename_i e
    rcases off_cases r q with k | ⟨k1, k2, k3⟩
    · rw [k]
      refine off_none (fun g g0 g1 hg => ?_)
      by_cases hgf : g = f
      · subst hgf; rw [rUp_eq] at hg; omega
      · rw [rUp_ne (by omega)] at hg
        exact off_neg (by rw [k]; decide) g g0 g1 hg
    · refine off_of h' k1 k2 hq ?_
      rw [rUp_ne (fun z => e (by rw [show f = off r q by omega]; exact k3.symm))]
      exact k3
theorem off_hold {r : aRw} (h : WF r) {f p q : Int} (f0 : 0 ≤ f) (f1 : f < 5) (hp0 : 0 ≤ p) (hp1 : p < r 0) (he : r (8 + f) < 0) (hn : off r p < 0) (hq : 0 ≤ q) : off (rUp r (8 + f) p) q = if q = p then f else off r q := by
  have h' := WF_hold h f0 f1 hp0 hp1 (fun g g0 g1 _ => off_neg hn g g0 g1)
  split
  · rename_i e
    exact off_of h' f0 f1 hq (by rw [rUp_eq]; exact e.symm)
  · rename_i e
    rcases off_cases r q with k | ⟨k1, k2, k3⟩
    · rw [k]
      refine off_none (fun g g0 g1 hg => ?_)
      by_cases hgf : g = f
      · subst hgf; rw [rUp_eq] at hg; exact e hg.symm
      · rw [rUp_ne (by omega)] at hg
        exact off_neg (by rw [k]; decide) g g0 g1 hg
    · refine off_of h' k1 k2 hq ?_
      rw [rUp_ne (fun z => by rw [show off r q = f by omega] at k3; omega)]
      exact k3
/-- a change of the row that no office and no person sees but this one -/
theorem Rep_empty {σ σ' : aS} {c : Nat} {r : aRw} (h : Rep σ c r) (hw : WF r) {f : Int} (f0 : 0 ≤ f) (f1 : f < 5)
    (h8 : σ' 8 c f = -1) (h6 : ∀ p : Int, 0 ≤ p → p < r 0 → σ' 6 c p = if p = r (8 + f) then -1 else σ 6 c p)
    (ho : ∀ g : Int, g ≠ f → σ' 8 c g = σ 8 c g) (hs : ∀ (t : Nat) (i : Int), 1 ≤ t → t ≤ 8 → t ≠ 6 → t ≠ 8 → ¬ (t = 1 ∧ i = 3) → σ' t c i = σ t c i) : Rep σ' c (rUp r (8 + f) (-4)) := by
  obtain ⟨⟨a, b, d⟩, e, k⟩ := h
  refine ⟨⟨by rw [hs 1 0 (by decide) (by decide) (by decide) (by decide) (by decide), rUp_ne (by omega)]; exact a, by rw [hs 1 1 (by decide) (by decide) (by decide) (by decide) (by decide), rUp_ne (by omega)]; exact b, by rw [hs 1 2 (by decide) (by decide) (by decide) (by decide) (by decide), rUp_ne (by omega)]; exact d⟩, fun p h0 h1 => ?_, fun g h0 h1 => ?_⟩
  · rw [rUp_ne (by omega)] at h1
    have q := e p h0 h1
    have ba := aOf_rng (p := p) (w := 0) h0 (by have := hw.1; omega) (by decide) (by decide)
    have bb := aOf_rng (p := p) (w := 1) h0 (by have := hw.1; omega) (by decide) (by decide)
    have bc := aOf_rng (p := p) (w := 2) h0 (by have := hw.1; omega) (by decide) (by decide)
    have bd := aOf_rng (p := p) (w := 3) h0 (by have := hw.1; omega) (by decide) (by decide)
    rw [hs 2 p (by decide) (by decide) (by decide) (by decide) (by omega), hs 3 p (by decide) (by decide) (by decide) (by decide) (by omega), hs 4 p (by decide) (by decide) (by decide) (by decide) (by omega), hs 5 p (by decide) (by decide) (by decide) (by decide) (by omega), rUp_ne (by omega), rUp_ne (by omega), rUp_ne (by omega), rUp_ne (by omega), h6 p h0 h1, off_empty hw f0 f1 h0]
    refine ⟨q.1, q.2.1, q.2.2.1, q.2.2.2.1, ?_⟩
    split
    · rfl
    · exact q.2.2.2.2
  · rw [hs 7 g (by decide) (by decide) (by decide) (by decide) (by omega), rUp_ne (by omega)]
    refine ⟨(k g h0 h1).1, ?_⟩
    by_cases hg : g = f
    · subst hg; rw [h8, rUp_eq]; rfl
    · rw [ho g hg, rUp_ne (by omega)]; exact (k g h0 h1).2
theorem Rep_hold {σ σ' : aS} {c : Nat} {r : aRw} (h : Rep σ c r) (hw : WF r) {f p : Int} (f0 : 0 ≤ f) (f1 : f < 5) (p0 : 0 ≤ p) (p1 : p < r 0) (he : r (8 + f) < 0) (hn : off r p < 0)
    (h8 : σ' 8 c f = p) (h6 : ∀ q : Int, 0 ≤ q → q < r 0 → σ' 6 c q = if q = p then f else σ 6 c q)
    (ho : ∀ g : Int, g ≠ f → σ' 8 c g = σ 8 c g) (hs : ∀ (t : Nat) (i : Int), 1 ≤ t → t ≤ 8 → t ≠ 6 → t ≠ 8 → ¬ (t = 1 ∧ i = 3) → σ' t c i = σ t c i) : Rep σ' c (rUp r (8 + f) p) := by
  obtain ⟨⟨a, b, d⟩, e, k⟩ := h
  refine ⟨⟨by rw [hs 1 0 (by decide) (by decide) (by decide) (by decide) (by decide), rUp_ne (by omega)]; exact a, by rw [hs 1 1 (by decide) (by decide) (by decide) (by decide) (by decide), rUp_ne (by omega)]; exact b, by rw [hs 1 2 (by decide) (by decide) (by decide) (by decide) (by decide), rUp_ne (by omega)]; exact d⟩, fun q h0 h1 => ?_, fun g h0 h1 => ?_⟩
  · rw [rUp_ne (by omega)] at h1
    have z := e q h0 h1
    have ba := aOf_rng (p := q) (w := 0) h0 (by have := hw.1; omega) (by decide) (by decide)
    have bb := aOf_rng (p := q) (w := 1) h0 (by have := hw.1; omega) (by decide) (by decide)
    have bc := aOf_rng (p := q) (w := 2) h0 (by have := hw.1; omega) (by decide) (by decide)
    have bd := aOf_rng (p := q) (w := 3) h0 (by have := hw.1; omega) (by decide) (by decide)
    rw [hs 2 q (by decide) (by decide) (by decide) (by decide) (by omega), hs 3 q (by decide) (by decide) (by decide) (by decide) (by omega), hs 4 q (by decide) (by decide) (by decide) (by decide) (by omega), hs 5 q (by decide) (by decide) (by decide) (by decide) (by omega), rUp_ne (by omega), rUp_ne (by omega), rUp_ne (by omega), rUp_ne (by omega), h6 q h0 h1, off_hold hw f0 f1 p0 p1 he hn h0]
    refine ⟨z.1, z.2.1, z.2.2.1, z.2.2.2.1, ?_⟩
    split
    · unfold nb; rw [if_neg (by omega)]
    · exact z.2.2.2.2
  · rw [hs 7 g (by decide) (by decide) (by decide) (by decide) (by omega), rUp_ne (by omega)]
    refine ⟨(k g h0 h1).1, ?_⟩
    by_cases hg : g = f
    · subst hg; rw [h8, rUp_eq]; unfold nb; rw [if_neg (by omega)]
    · rw [ho g hg, rUp_ne (by omega)]; exact (k g h0 h1).2
