/-! ===== the cabinet as a row of numbers: 0 people, 1 day, 2 falls, 3.. costumes, 8.. holders, 13.. people (kind, figure, known, mate) ===== -/
def aOf (p w : Int) : Int := 13 + 4 * p + w
abbrev aRw : Type := Int → Int
def rUp (r : aRw) (i x : Int) : aRw := fun j => if j = i then x else r j
theorem rUp_eq {r : aRw} {i x : Int} : rUp r i x i = x := by unfold rUp; rw [if_pos rfl]
theorem rUp_ne {r : aRw} {i x j : Int} (h : j ≠ i) : rUp r i x j = r j := by unfold rUp; rw [if_neg h]
/-- the row of a number in the store -/
def aRow (σ : aS) (c : Nat) (r : aRw) : aS := fun t c' i => if t = 22 ∧ c' = c then r i else σ t c' i
theorem aRow_self {σ : aS} {c : Nat} {r : aRw} : aRow σ c r 22 c = r := by funext i; unfold aRow; rw [if_pos ⟨rfl, rfl⟩]
theorem aRow_ne {σ : aS} {c c' : Nat} {r : aRw} (h : c' ≠ c) : aRow σ c r 22 c' = σ 22 c' := by funext i; unfold aRow; rw [if_neg (fun q => h q.2)]
theorem aRow_off {σ : aS} {c t : Nat} {r : aRw} (h : t ≠ 22) (c' : Nat) : aRow σ c r t c' = σ t c' := by funext i; unfold aRow; rw [if_neg (fun q => h q.1)]
theorem aRow_id {σ : aS} {c : Nat} : aRow σ c (σ 22 c) = σ := by
  funext t c' i; unfold aRow
  split
  · rename_i h; rw [h.1, h.2]
  · rfl
theorem aRow_two {σ : aS} {c : Nat} {r r' : aRw} : aRow (aRow σ c r) c r' = aRow σ c r' := by
  funext t c' i; unfold aRow
  split <;> rfl
theorem aUp_row {σ : aS} {c : Nat} {i x : Int} : aUp σ 22 c i x = aRow σ c (rUp (σ 22 c) i x) := by
  funext t c' j; unfold aUp aRow rUp
  by_cases h : t = 22 ∧ c' = c
  · obtain ⟨rfl, rfl⟩ := h
    by_cases h2 : j = i
    · simp [h2]
    · simp [h2]
  · rw [if_neg (fun q => h ⟨q.1, q.2.1⟩), if_neg h]
theorem aUp_row2 {σ : aS} {c : Nat} {r : aRw} {i x : Int} : aUp (aRow σ c r) 22 c i x = aRow σ c (rUp r i x) := by
  rw [aUp_row, aRow_self, aRow_two]
def off (r : aRw) (p : Int) : Int := if r 8 = p then 0 else if r 9 = p then 1 else if r 10 = p then 2 else if r 11 = p then 3 else if r 12 = p then 4 else -4
def cntC (r : aRw) (k : Int) : Nat → Int
  | 0 => 0
  | n + 1 => cntC r k n + (if 0 ≤ r (8 + n) ∧ r (3 + n) = k then 1 else 0)
theorem cntC_le (r : aRw) (k : Int) : ∀ n : Nat, 0 ≤ cntC r k n ∧ cntC r k n ≤ n
  | 0 => ⟨Int.le_refl 0, Int.le_refl 0⟩
  | n + 1 => by
    have h := cntC_le r k n
    unfold cntC
    split <;> omega
def shF (kind f k day : Int) : Int :=
  if kind = 1 then 6 else if kind = 2 then 1 + (if k - f < 0 then -(k - f) else k - f).tdiv 3 else if kind = 3 then (if day.tmod 2 = 1 then 6 + f else 6)
  else if kind = 4 then (if k = f then 0 else 1 + (if k - f < 0 then -(k - f) else k - f).tdiv 3) else if kind = 5 then (if k < 2 then 3 - k else 1)
  else if kind = 6 then (if k < f then 9 else 6) else if kind = 7 then 0 else 3
def beF (kind f : Int) : Int := if kind = 1 ∨ kind = 3 then 15 else if kind = 2 then 20 + f else if kind = 4 then 2 * (20 + f) else if kind = 5 then 20 + 2 * f else if kind = 6 then 7 else if kind = 7 then 99 else 20
def foF (kind f : Int) : Int := if kind = 1 ∨ kind = 6 then 1 else if kind = 2 ∨ kind = 4 then 3 else if kind = 3 then 0 else if kind = 5 then f else if kind = 7 then 9 else 2
def beR (r : aRw) (p : Int) : Int := beF (r (aOf p 0)) (r (aOf p 1))
def seR (r : aRw) (p : Int) : aRw :=
  if off r p < 0 then rUp r (aOf p 2) (if r (aOf p 2) < foF (r (aOf p 0)) (r (aOf p 1)) then 0 else r (aOf p 2) - foF (r (aOf p 0)) (r (aOf p 1)))
  else rUp r (aOf p 2) (if 99 < r (aOf p 2) + (shF (r (aOf p 0)) (r (aOf p 1)) (r (3 + off r p)) (r 1)).tdiv (if 1 < cntC r (r (3 + off r p)) 5 then 2 else 1) then 99 else r (aOf p 2) + (shF (r (aOf p 0)) (r (aOf p 1)) (r (3 + off r p)) (r 1)).tdiv (if 1 < cntC r (r (3 + off r p)) 5 then 2 else 1))
def f1R (r : aRw) (f : Int) : aRw := rUp (rUp r 2 (if 999 < r 2 + 1 then 999 else r 2 + 1)) (8 + f) (-4)
def faR (r : aRw) (f : Int) : aRw :=
  if r (8 + f) < 0 ∨ r (aOf (r (8 + f)) 2) < beR r (r (8 + f)) then r
  else if r (aOf (r (8 + f)) 3) < r 0 ∧ off (f1R r f) (r (aOf (r (8 + f)) 3)) < 0 ∧ r (aOf (r (aOf (r (8 + f)) 3)) 2) < beR r (r (aOf (r (8 + f)) 3)) then rUp (f1R r f) (8 + f) (r (aOf (r (8 + f)) 3))
  else f1R r f
def seN (r : aRw) : Nat → aRw
  | 0 => rUp r 1 (r 1 + 1)
  | n + 1 => seR (seN r n) n
def faN (r : aRw) : Nat → aRw
  | 0 => r
  | n + 1 => faR (faN r n) n
def dayR (r : aRw) : aRw := faN (seN r (r 0).toNat) 5
def dysR (r : aRw) : Nat → aRw
  | 0 => r
  | n + 1 => dayR (dysR r n)
def WF (r : aRw) : Prop :=
  (0 ≤ r 0 ∧ r 0 ≤ 8) ∧ (0 ≤ r 1) ∧ (0 ≤ r 2 ∧ r 2 ≤ 999) ∧
  (∀ f : Int, 0 ≤ f → f < 5 → 0 ≤ r (3 + f) ∧ r (3 + f) ≤ 9) ∧
  (∀ f : Int, 0 ≤ f → f < 5 → r (8 + f) = -4 ∨ (0 ≤ r (8 + f) ∧ r (8 + f) < r 0)) ∧
  (∀ f g : Int, 0 ≤ f → f < 5 → 0 ≤ g → g < 5 → 0 ≤ r (8 + f) → r (8 + f) = r (8 + g) → f = g) ∧
  (∀ p : Int, 0 ≤ p → p < r 0 → (0 ≤ r (aOf p 0) ∧ r (aOf p 0) ≤ 7) ∧ (0 ≤ r (aOf p 1) ∧ r (aOf p 1) ≤ 9) ∧ (0 ≤ r (aOf p 2) ∧ r (aOf p 2) ≤ 99) ∧ (0 ≤ r (aOf p 3) ∧ r (aOf p 3) ≤ 9 ∧ r (aOf p 3) ≠ 8)) ∧
  (∀ i : Int, i < 0 ∨ 45 ≤ i → r i = 0)
theorem WF.ho {r : aRw} (h : WF r) {f : Int} (h0 : 0 ≤ f) (h1 : f < 5) : r (8 + f) = -4 ∨ (0 ≤ r (8 + f) ∧ r (8 + f) < r 0) := h.2.2.2.2.1 f h0 h1
theorem WF.co {r : aRw} (h : WF r) {f : Int} (h0 : 0 ≤ f) (h1 : f < 5) : 0 ≤ r (3 + f) ∧ r (3 + f) ≤ 9 := h.2.2.2.1 f h0 h1
theorem WF.pe {r : aRw} (h : WF r) {p : Int} (h0 : 0 ≤ p) (h1 : p < r 0) : (0 ≤ r (aOf p 0) ∧ r (aOf p 0) ≤ 7) ∧ (0 ≤ r (aOf p 1) ∧ r (aOf p 1) ≤ 9) ∧ (0 ≤ r (aOf p 2) ∧ r (aOf p 2) ≤ 99) ∧ (0 ≤ r (aOf p 3) ∧ r (aOf p 3) ≤ 9 ∧ r (aOf p 3) ≠ 8) := h.2.2.2.2.2.2.1 p h0 h1
theorem WF.r8 {r : aRw} (h : WF r) : (r 8 = -4 ∨ (0 ≤ r 8 ∧ r 8 < r 0)) ∧ (r 9 = -4 ∨ (0 ≤ r 9 ∧ r 9 < r 0)) ∧ (r 10 = -4 ∨ (0 ≤ r 10 ∧ r 10 < r 0)) ∧ (r 11 = -4 ∨ (0 ≤ r 11 ∧ r 11 < r 0)) ∧ (r 12 = -4 ∨ (0 ≤ r 12 ∧ r 12 < r 0)) :=
  ⟨h.ho (f := 0) (by decide) (by decide), h.ho (f := 1) (by decide) (by decide), h.ho (f := 2) (by decide) (by decide), h.ho (f := 3) (by decide) (by decide), h.ho (f := 4) (by decide) (by decide)⟩
theorem off_cases (r : aRw) (p : Int) : off r p = -4 ∨ (0 ≤ off r p ∧ off r p < 5 ∧ r (8 + off r p) = p) := by
  unfold off
  split
  · rename_i h; exact Or.inr ⟨by decide, by decide, h⟩
  · split
    · rename_i h; exact Or.inr ⟨by decide, by decide, h⟩
    · split
      · rename_i h; exact Or.inr ⟨by decide, by decide, h⟩
      · split
        · rename_i h; exact Or.inr ⟨by decide, by decide, h⟩
        · split
          · rename_i h; exact Or.inr ⟨by decide, by decide, h⟩
          · exact Or.inl rfl
theorem off_none {r : aRw} {p : Int} (h : ∀ f : Int, 0 ≤ f → f < 5 → r (8 + f) ≠ p) : off r p = -4 := by
  rcases off_cases r p with q | ⟨q1, q2, q3⟩
  · exact q
  · exact absurd q3 (h _ q1 q2)
theorem off_neg {r : aRw} {p : Int} (h : off r p < 0) : ∀ f : Int, 0 ≤ f → f < 5 → r (8 + f) ≠ p := by
  unfold off at h
  intro f h0 h1
  split at h
  · omega
  · split at h
    · omega
    · split at h
      · omega
      · split at h
        · omega
        · split at h
          · omega
          · rename_i a b c d e
            rcases (show f = 0 ∨ f = 1 ∨ f = 2 ∨ f = 3 ∨ f = 4 by omega) with rfl | rfl | rfl | rfl | rfl
            · exact a
            · exact b
            · exact c
            · exact d
            · exact e
/-- in a row that is as it must be, who holds an office is found there -/
theorem off_of {r : aRw} (h : WF r) {f p : Int} (h0 : 0 ≤ f) (h1 : f < 5) (hp : 0 ≤ p) (hf : r (8 + f) = p) : off r p = f := by
  rcases off_cases r p with q | ⟨q1, q2, q3⟩
  · exact absurd hf (off_neg (by rw [q]; decide) f h0 h1)
  · exact h.2.2.2.2.2.1 _ _ q1 q2 h0 h1 (by rw [q3]; exact hp) (q3.trans hf.symm)
theorem off_rng (r : aRw) (p : Int) : -4 ≤ off r p ∧ off r p ≤ 4 := by
  rcases off_cases r p with q | ⟨q1, q2, -⟩ <;> omega
theorem off_cong {r r' : aRw} (h : ∀ f : Int, 0 ≤ f → f < 5 → r' (8 + f) = r (8 + f)) (p : Int) : off r' p = off r p := by
  unfold off
  rw [show r' 8 = r 8 from h 0 (by decide) (by decide), show r' 9 = r 9 from h 1 (by decide) (by decide), show r' 10 = r 10 from h 2 (by decide) (by decide), show r' 11 = r 11 from h 3 (by decide) (by decide), show r' 12 = r 12 from h 4 (by decide) (by decide)]
theorem shF_rng {kind f k day : Int} (h2 : 0 ≤ f ∧ f ≤ 9) (h3 : 0 ≤ k ∧ k ≤ 9) : 0 ≤ shF kind f k day ∧ shF kind f k day ≤ 15 := by
  have e : ∀ x : Int, 0 ≤ x → x ≤ 9 → 0 ≤ x.tdiv 3 ∧ x.tdiv 3 ≤ 3 := by
    intro x h0 h9
    rw [Int.tdiv_eq_ediv_of_nonneg h0]
    omega
  unfold shF
  have e1 := e (if k - f < 0 then -(k - f) else k - f) (by split <;> omega) (by split <;> omega)
  generalize (if k - f < 0 then -(k - f) else k - f).tdiv 3 = z at e1 ⊢
  repeat' split
  all_goals omega
theorem beF_rng {kind f : Int} (h2 : 0 ≤ f ∧ f ≤ 9) : 7 ≤ beF kind f ∧ beF kind f ≤ 99 := by
  unfold beF
  repeat' split
  all_goals omega
theorem foF_rng {kind f : Int} (h2 : 0 ≤ f ∧ f ≤ 9) : 0 ≤ foF kind f ∧ foF kind f ≤ 9 := by
  unfold foF
  repeat' split
  all_goals omega
theorem aOf_rng {p w : Int} (h0 : 0 ≤ p) (h1 : p < 8) (h2 : 0 ≤ w) (h3 : w < 4) : 13 ≤ aOf p w ∧ aOf p w < 45 := by unfold aOf; omega
theorem aOf_inj {p w p' w' : Int} (h2 : 0 ≤ w) (h3 : w < 4) (h4 : 0 ≤ w') (h5 : w' < 4) (h : aOf p w = aOf p' w') : p = p' ∧ w = w' := by unfold aOf at h; omega
