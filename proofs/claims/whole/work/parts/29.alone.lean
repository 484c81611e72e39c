/-! ===== who holds an office alone: how long he lasts ===== -/
def laW (r : aRw) (f p : Int) : aRw := fun j => if 8 ≤ j ∧ j < 13 then (if j = 8 + f then p else -4) else r j
theorem laW_off (r : aRw) (f p : Int) {j : Int} (h : j < 8 ∨ 13 ≤ j) : laW r f p j = r j := if_neg (by omega)
theorem laW_at (r : aRw) (f p : Int) {g : Int} (g0 : 0 ≤ g) (g1 : g < 5) : laW r f p (8 + g) = if g = f then p else -4 := by
  unfold laW
  rw [if_pos (by omega)]
  by_cases h : g = f
  · rw [if_pos (by omega), if_pos h]
  · rw [if_neg (by omega), if_neg h]
theorem laW_wf {r : aRw} (hw : WF r) {f p : Int} (f0 : 0 ≤ f) (f1 : f < 5) (p0 : 0 ≤ p) (p1 : p < r 0) : WF (laW r f p) := by
  obtain ⟨a0, a1, a2, a3, a4, a5, a6, a7⟩ := hw
  have o : ∀ j : Int, (j < 8 ∨ 13 ≤ j) → laW r f p j = r j := fun j h => laW_off r f p h
  refine ⟨by rw [o 0 (by omega)]; exact a0, by rw [o 1 (by omega)]; exact a1, by rw [o 2 (by omega)]; exact a2, fun g g0 g1 => by rw [o (3 + g) (by omega)]; exact a3 g g0 g1, fun g g0 g1 => ?_, fun g h g0 g1 h0 h1 k1 k2 => ?_, fun q q0 q1 => ?_, fun i hi => by rw [o i (by omega)]; exact a7 i hi⟩
  · rw [laW_at r f p g0 g1, o 0 (by omega)]
    split
    · exact Or.inr ⟨p0, p1⟩
    · exact Or.inl rfl
  · rw [laW_at r f p g0 g1] at k1 k2
    rw [laW_at r f p h0 h1] at k2
    by_cases e1 : g = f
    · by_cases e2 : h = f
      · omega
      · rw [if_pos e1, if_neg e2] at k2; omega
    · rw [if_neg e1] at k1; omega
  · rw [o 0 (by omega)] at q1
    rw [o (aOf q 0) (by unfold aOf; omega), o (aOf q 1) (by unfold aOf; omega), o (aOf q 2) (by unfold aOf; omega), o (aOf q 3) (by unfold aOf; omega)]
    exact a6 q q0 q1
/-- he alone holds one -/
def ALN (R : aRw) (f p : Int) : Prop := ∀ g : Int, 0 ≤ g → g < 5 → R (8 + g) = if g = f then p else -4
theorem ALN.at {R : aRw} {f p : Int} (h : ALN R f p) (f0 : 0 ≤ f) (f1 : f < 5) : R (8 + f) = p := by rw [h f f0 f1, if_pos rfl]
theorem ALN.off {R : aRw} {f p q : Int} (h : ALN R f p) (hq : q ≠ p) (h0 : 0 ≤ q) : off R q = -4 := off_none (fun g g0 g1 => by
  rw [h g g0 g1]
  split <;> omega)
theorem ALN.cnt {R : aRw} {f p : Int} (h : ALN R f p) (f0 : 0 ≤ f) (f1 : f < 5) (p0 : 0 ≤ p) : cntC R (R (3 + f)) 5 = 1 := by
  have e0 : R (8 + ((0 : Nat) : Int)) = if (0 : Int) = f then p else -4 := h 0 (by decide) (by decide)
  have e1 : R (8 + ((1 : Nat) : Int)) = if (1 : Int) = f then p else -4 := h 1 (by decide) (by decide)
  have e2 : R (8 + ((2 : Nat) : Int)) = if (2 : Int) = f then p else -4 := h 2 (by decide) (by decide)
  have e3 : R (8 + ((3 : Nat) : Int)) = if (3 : Int) = f then p else -4 := h 3 (by decide) (by decide)
  have e4 : R (8 + ((4 : Nat) : Int)) = if (4 : Int) = f then p else -4 := h 4 (by decide) (by decide)
  have hn : ∀ k : Int, ¬ (0 ≤ (-4 : Int) ∧ k = R (3 + f)) := fun k q => absurd q.1 (by decide)
  simp only [cntC, e0, e1, e2, e3, e4]
  rcases (show f = 0 ∨ f = 1 ∨ f = 2 ∨ f = 3 ∨ f = 4 by omega) with rfl | rfl | rfl | rfl | rfl <;> simp [p0]
/-- known, a day on -/
def kn1 (R : aRw) (f p : Int) : Int := if R (aOf p 2) + shF (R (aOf p 0)) (R (aOf p 1)) (R (3 + f)) (R 1 + 1) < 99 then R (aOf p 2) + shF (R (aOf p 0)) (R (aOf p 1)) (R (3 + f)) (R 1 + 1) else 99
theorem seN_al {R : aRw} (hw : WF R) {f p : Int} (h : ALN R f p) (f0 : 0 ≤ f) (f1 : f < 5) (p0 : 0 ≤ p) (p1 : p < R 0) : ∀ n : Nat, (n : Int) ≤ R 0 → (∀ j : Int, 3 ≤ j → j < 13 → seN R n j = R j) ∧ (∀ w : Int, w = 0 ∨ w = 1 ∨ w = 3 → ∀ q : Int, seN R n (aOf q w) = R (aOf q w) ∨ (aOf q w < 13)) ∧ seN R n (aOf p 2) = (if (n : Int) ≤ p then R (aOf p 2) else kn1 R f p)
  | 0, _ => by
    refine ⟨fun j j0 j1 => rUp_ne (by omega), fun w hw2 q => ?_, ?_⟩
    · by_cases hq : aOf q w < 13
      · exact Or.inr hq
      · exact Or.inl (rUp_ne (by omega))
    · rw [if_pos (by omega)]
      exact rUp_ne (by unfold aOf; omega)
  | n + 1, hn => by
    obtain ⟨i1, i2, i3⟩ := seN_al hw h f0 f1 p0 p1 n (by omega)
    have e01 := seN_0 R n
    have ho : ∀ q : Int, off (seN R n) q = off R q := fun q => off_cong (fun g g0 g1 => i1 (8 + g) (by omega) (by omega)) q
    refine ⟨fun j j0 j1 => ?_, fun w hw2 q => ?_, ?_⟩
    · rw [seN_row, seR_at _ _ (by unfold aOf; omega)]; exact i1 j j0 j1
    · rw [seN_row, seR_at _ _ (by unfold aOf; omega)]; exact i2 w hw2 q
    · rw [seN_row]
      by_cases hp : (n : Int) = p
      · rw [hp]
        rw [hp, if_pos (Int.le_refl p)] at i3
        have hal : ALN (seN R n) f p := fun g g0 g1 => by rw [i1 (8 + g) (by omega) (by omega)]; exact h g g0 g1
        have hof : off (seN R n) p = f := off_of (seN_wf hw n (by omega)) f0 f1 p0 (hal.at f0 f1)
        have hc : seN R n (3 + f) = R (3 + f) := i1 (3 + f) (by omega) (by omega)
        have hcn := hal.cnt f0 f1 p0
        have k0 : seN R n (aOf p 0) = R (aOf p 0) := (i2 0 (Or.inl rfl) p).resolve_right (by unfold aOf; omega)
        have k1 : seN R n (aOf p 1) = R (aOf p 1) := (i2 1 (Or.inr (Or.inl rfl)) p).resolve_right (by unfold aOf; omega)
        have hs : swR (seN R n) p = shF (R (aOf p 0)) (R (aOf p 1)) (R (3 + f)) (R 1 + 1) := by
          unfold swR
          rw [hof, if_neg (by omega), hcn, if_neg (by decide), Int.tdiv_one, k0, k1, hc, e01.2.1]
        rw [seR_in (by rw [hof]; omega), rUp_eq, i3, hs, if_neg (show ¬ ((n + 1 : Nat) : Int) ≤ p by omega)]
        unfold kn1
        split <;> split <;> omega
      · rw [seR_at _ _ (by unfold aOf; omega), i3]
        by_cases h2 : (n : Int) ≤ p
        · rw [if_pos h2, if_pos (by omega)]
        · rw [if_neg h2, if_neg (by omega)]
theorem faN_pre {R : aRw} {f p : Int} (h : ALN R f p) (f1 : f < 5) : ∀ n : Nat, (n : Int) ≤ f → faN R n = R
  | 0, _ => rfl
  | n + 1, hn => by
    rw [faN_row, faN_pre h f1 n (by omega)]
    unfold faR
    rw [if_pos (Or.inl (by rw [h n (by omega) (by omega), if_neg (by omega)]; decide))]
theorem faN_post {R : aRw} {f p : Int} (h : ALN R f p) (f0 : 0 ≤ f) (f1 : f < 5) : ∀ n : Nat, f < (n : Int) → n ≤ 5 → faN R n (8 + f) = faR R f (8 + f)
  | 0, hn, _ => by omega
  | n + 1, hn, h5 => by
    rw [faN_row]
    by_cases e : (n : Int) = f
    · rw [e, faN_pre h f1 n (by omega)]
    · rw [faR_at _ _ (by omega) (by omega)]
      exact faN_post h f0 f1 n (by omega) (by omega)
theorem faN_all {R : aRw} {f p : Int} (h : ALN R f p) (f0 : 0 ≤ f) (f1 : f < 5) (hk : R (aOf p 2) < beR R p) : ∀ n : Nat, n ≤ 5 → faN R n = R
  | 0, _ => rfl
  | n + 1, hn => by
    rw [faN_row, faN_all h f0 f1 hk n (by omega)]
    unfold faR
    by_cases e : (n : Int) = f
    · rw [e, h.at f0 f1, if_pos (Or.inr hk)]
    · rw [if_pos (Or.inl (by rw [h n (by omega) (by omega), if_neg e]; decide))]
/-- a day of one who holds an office alone -/
theorem day_al {R : aRw} (hw : WF R) {f p : Int} (h : ALN R f p) (f0 : 0 ≤ f) (f1 : f < 5) (p0 : 0 ≤ p) (p1 : p < R 0) :
    (kn1 R f p < beR R p → ALN (dayR R) f p ∧ dayR R (aOf p 2) = kn1 R f p ∧ dayR R (aOf p 0) = R (aOf p 0) ∧ dayR R (aOf p 1) = R (aOf p 1) ∧ dayR R (3 + f) = R (3 + f)) ∧ (¬ kn1 R f p < beR R p → dayR R (8 + f) ≠ p) := by
  have bn := hw.1
  have eN : (((R 0).toNat : Nat) : Int) = R 0 := by omega
  obtain ⟨i1, i2, i3⟩ := seN_al hw h f0 f1 p0 p1 (R 0).toNat (by omega)
  rw [if_neg (by omega)] at i3
  have hal : ALN (seN R (R 0).toNat) f p := fun g g0 g1 => by rw [i1 (8 + g) (by omega) (by omega)]; exact h g g0 g1
  have k0 : seN R (R 0).toNat (aOf p 0) = R (aOf p 0) := (i2 0 (Or.inl rfl) p).resolve_right (by unfold aOf; omega)
  have k1 : seN R (R 0).toNat (aOf p 1) = R (aOf p 1) := (i2 1 (Or.inr (Or.inl rfl)) p).resolve_right (by unfold aOf; omega)
  have hb : beR (seN R (R 0).toNat) p = beR R p := by unfold beR; rw [k0, k1]
  have w1 := seN_wf hw (R 0).toNat (by omega)
  refine ⟨fun hk => ?_, fun hk => ?_⟩
  · have e : dayR R = seN R (R 0).toNat := faN_all hal f0 f1 (by rw [i3, hb]; exact hk) 5 (by decide)
    rw [e]
    exact ⟨hal, i3, k0, k1, i1 (3 + f) (by omega) (by omega)⟩
  · have e : dayR R (8 + f) = faR (seN R (R 0).toNat) f (8 + f) := faN_post hal f0 f1 5 (by omega) (by decide)
    rw [e]
    have hat := hal.at f0 f1
    unfold faR
    rw [hat, if_neg (by rw [i3, hb]; omega)]
    split
    · rename_i hm
      rw [rUp_eq]
      intro he
      rw [he, i3, hb] at hm
      omega
    · have : f1R (seN R (R 0).toNat) f (8 + f) = -4 := rUp_eq
      omega
theorem wn_al {r R : aRw} {f p : Int} (hw : WF R) (f0 : 0 ≤ f) (f1 : f < 5) (p0 : 0 ≤ p) (p1 : p < R 0) (hk0 : ∀ n : Nat, WF (dysR R n)) : ∀ (k n : Nat), ALN (dysR R n) f p → dysR R n (aOf p 0) = r (aOf p 0) → dysR R n (aOf p 1) = r (aOf p 1) → dysR R n (3 + f) = r (3 + f) → R 1 = r 1 → n + k = 59 →
    (if wnF R f p (k + 1) (n + 1) < 0 then 60 else wnF R f p (k + 1) (n + 1)) = lsF r f p k (n + 1) (dysR R n (aOf p 2)) := by
  intro k
  induction k with
  | zero =>
    intro n h a0 a1 a3 a4 hn
    show (if wnF R f p 1 (n + 1) < 0 then 60 else wnF R f p 1 (n + 1)) = 60
    have e : wnF R f p 1 (n + 1) = (if dysR R (n + 1) (8 + f) = p then -4 else ((n + 1 : Nat) : Int)) := rfl
    rw [e]
    by_cases h2 : dysR R (n + 1) (8 + f) = p
    · rw [if_pos h2]; rfl
    · rw [if_neg h2]
      split <;> omega
  | succ k ih =>
    intro n h a0 a1 a3 a4 hn
    have hd := day_al (hk0 n) h f0 f1 p0 (by rw [(dysR_0 R n).1]; exact p1)
    have e1 : kn1 (dysR R n) f p = (if dysR R n (aOf p 2) + shF (r (aOf p 0)) (r (aOf p 1)) (r (3 + f)) (r 1 + ((n + 1 : Nat) : Int)) < 99 then dysR R n (aOf p 2) + shF (r (aOf p 0)) (r (aOf p 1)) (r (3 + f)) (r 1 + ((n + 1 : Nat) : Int)) else 99) := by
      unfold kn1
      rw [a0, a1, a3, (dysR_0 R n).2, a4, show r 1 + (n : Int) + 1 = r 1 + ((n + 1 : Nat) : Int) by omega]
    have e2 : beR (dysR R n) p = beR r p := by unfold beR; rw [a0, a1]
    have e3 : wnF R f p (k + 1 + 1) (n + 1) = (if dysR R (n + 1) (8 + f) = p then wnF R f p (k + 1) (n + 1 + 1) else ((n + 1 : Nat) : Int)) := rfl
    rw [lsF, ← e1, ← e2, e3]
    by_cases hb : kn1 (dysR R n) f p < beR (dysR R n) p
    · obtain ⟨d1, d2, d3, d4, d5⟩ := hd.1 hb
      rw [if_neg (show ¬ beR (dysR R n) p ≤ kn1 (dysR R n) f p by omega), if_pos (show dysR R (n + 1) (8 + f) = p from d1.at f0 f1)]
      have z := ih (n + 1) d1 (d3.trans a0) (d4.trans a1) (d5.trans a3) a4 (by omega)
      rw [z]
      exact congrArg _ d2
    · have d := hd.2 hb
      rw [if_pos (show beR (dysR R n) p ≤ kn1 (dysR R n) f p by omega), if_neg (show ¬ dysR R (n + 1) (8 + f) = p from d)]
      rw [if_neg (by omega)]
/-- LASTS, looked at day by day -/
theorem la_eq {r : aRw} (hw : WF r) {f p : Int} (f0 : 0 ≤ f) (f1 : f < 5) (p0 : 0 ≤ p) (p1 : p < r 0) : (if wnF (laW r f p) f p 61 0 < 0 then 60 else wnF (laW r f p) f p 61 0) = laF r f p := by
  have hW := laW_wf hw f0 f1 p0 p1
  have e0 : wnF (laW r f p) f p 61 0 = wnF (laW r f p) f p 60 1 := by
    show (if dysR (laW r f p) 0 (8 + f) = p then wnF (laW r f p) f p 60 (0 + 1) else ((0 : Nat) : Int)) = _
    exact if_pos (by show laW r f p (8 + f) = p; rw [laW_at r f p f0 f1, if_pos rfl])
  have z := wn_al (r := r) hW f0 f1 p0 (by rw [laW_off r f p (by omega)]; exact p1) (fun n => dysR_wf hW n) 59 0 (fun g g0 g1 => laW_at r f p g0 g1) (laW_off r f p (by unfold aOf; omega)) (laW_off r f p (by unfold aOf; omega)) (laW_off r f p (by omega)) (laW_off r f p (by omega)) rfl
  rw [e0]
  unfold laF
  rw [show lsF r f p 59 1 (r (aOf p 2)) = lsF r f p 59 (0 + 1) (dysR (laW r f p) 0 (aOf p 2)) by rw [show dysR (laW r f p) 0 (aOf p 2) = r (aOf p 2) from laW_off r f p (by unfold aOf; omega)]]
  exact z
