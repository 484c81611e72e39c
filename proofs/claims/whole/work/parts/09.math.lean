/-! ===== Math.max, min, abs ===== -/
theorem cd_max : mJ9_max_7cf53.2.1 = Lib.Math.max.code := by decide +kernel
theorem cd_min : mJ9_min_7cf53.2.1 = Lib.Math.min.code := by decide +kernel
theorem cd_abs : mJ9_abs_0f7a4.2.1 = Lib.Math.abs.code := by decide +kernel
section MathRules
variable {l : Launch} {d : Nat} {M : aMt} {Q : Option aV → aS → Prop} {pc : Nat} {L : aLs} {rest : List aV} {σ : aS}
theorem aw_max {idx : Nat} {x y : Int} (lk : aLS M.1.cls idx mJ9_max_7cf53 2) (hd : 1 ≤ d) (hr : aCat rest ≤ 8) (hdg : decode M.2.1 pc = .ok (.invokestatic idx, 3)) (hx : aIr x) (hy : aIr y) (k : AW l d M Q (pc + 3) L (aI (if x < y then y else x) :: rest) σ) : AW l d M Q pc L (aI y :: aI x :: rest) σ := by
  intro p e s m args below meth c2 D cA ad H locs ls C0 C1 hl
  obtain ⟨hx1, hb, hml, hr0, hlk, hown, hts, hK, hN⟩ := id C0
  obtain ⟨⟨l1, l2, l4, l5⟩, l6, l7⟩ := lk
  have hws : ∀ w ∈ aTbl, w.before args s = true := fun w hw => hts w (List.mem_cons_of_mem _ hw)
  have h5 : (Cond.code Lib.Math.max.name Lib.Math.max.code 2 (some .int)).before args s = true := by rw [← cd_max]; exact hws _ l5
  have K := k p e s m args below meth c2 D cA ad H locs ls C0 C1 hl
  have e1 : cV ad (aI (if x < y then y else x)) = .int (if Int32.ofInt x < Int32.ofInt y then Int32.ofInt y else Int32.ofInt x) := by
    have hi := aIn_lt hx hy
    by_cases h : x < y
    · rw [if_pos h, if_pos (hi.mpr h)]; rfl
    · rw [if_neg h, if_neg (fun q => h (hi.mp q))]; rfl
  rw [List.map_cons, e1] at K
  exact va_mmax hx1 hb (by rw [hml]; exact hl.2.1.symm) hown (hws _ l1) (hws _ l2) (hws _ l4) h5 hd (by rw [aCat_eq]; show _ + 13 ≤ 38 * d; omega) (Nat.zero_le _) (Nat.zero_le _) hdg K
theorem aw_min {idx : Nat} {x y : Int} (lk : aLS M.1.cls idx mJ9_min_7cf53 2) (hd : 1 ≤ d) (hr : aCat rest ≤ 8) (hdg : decode M.2.1 pc = .ok (.invokestatic idx, 3)) (hx : aIr x) (hy : aIr y) (k : AW l d M Q (pc + 3) L (aI (if y < x then y else x) :: rest) σ) : AW l d M Q pc L (aI y :: aI x :: rest) σ := by
  intro p e s m args below meth c2 D cA ad H locs ls C0 C1 hl
  obtain ⟨hx1, hb, hml, hr0, hlk, hown, hts, hK, hN⟩ := id C0
  obtain ⟨⟨l1, l2, l4, l5⟩, l6, l7⟩ := lk
  have hws : ∀ w ∈ aTbl, w.before args s = true := fun w hw => hts w (List.mem_cons_of_mem _ hw)
  have h5 : (Cond.code Lib.Math.min.name Lib.Math.min.code 2 (some .int)).before args s = true := by rw [← cd_min]; exact hws _ l5
  have K := k p e s m args below meth c2 D cA ad H locs ls C0 C1 hl
  have e1 : cV ad (aI (if y < x then y else x)) = .int (if Int32.ofInt y < Int32.ofInt x then Int32.ofInt y else Int32.ofInt x) := by
    have hi := aIn_lt hy hx
    by_cases h : y < x
    · rw [if_pos h, if_pos (hi.mpr h)]; rfl
    · rw [if_neg h, if_neg (fun q => h (hi.mp q))]; rfl
  rw [List.map_cons, e1] at K
  exact va_mmin hx1 hb (by rw [hml]; exact hl.2.1.symm) hown (hws _ l1) (hws _ l2) (hws _ l4) h5 hd (by rw [aCat_eq]; show _ + 13 ≤ 38 * d; omega) (Nat.zero_le _) (Nat.zero_le _) hdg K
theorem aw_abs {idx : Nat} {x : Int} (lk : aLS M.1.cls idx mJ9_abs_0f7a4 1) (hd : 1 ≤ d) (hr : aCat rest ≤ 8) (hdg : decode M.2.1 pc = .ok (.invokestatic idx, 3)) (hx : aIr x) (k : AW l d M Q (pc + 3) L (aI (if x < 0 then -x else x) :: rest) σ) : AW l d M Q pc L (aI x :: rest) σ := by
  intro p e s m args below meth c2 D cA ad H locs ls C0 C1 hl
  obtain ⟨hx1, hb, hml, hr0, hlk, hown, hts, hK, hN⟩ := id C0
  obtain ⟨⟨l1, l2, l4, l5⟩, l6, l7⟩ := lk
  have hws : ∀ w ∈ aTbl, w.before args s = true := fun w hw => hts w (List.mem_cons_of_mem _ hw)
  have h5 : (Cond.code Lib.Math.abs.name Lib.Math.abs.code 1 (some .int)).before args s = true := by rw [← cd_abs]; exact hws _ l5
  have K := k p e s m args below meth c2 D cA ad H locs ls C0 C1 hl
  have e1 : cV ad (aI (if x < 0 then -x else x)) = .int (if 0 ≤ Int32.ofInt x then Int32.ofInt x else 0 - Int32.ofInt x) := by
    have hi : (0 : Int32) ≤ Int32.ofInt x ↔ 0 ≤ x := aIn_le (x := 0) (by decide) hx
    by_cases h : x < 0
    · rw [if_pos h, if_neg (fun q => by have := hi.mp q; omega)]
      show Value.int (Int32.ofInt (-x)) = _
      rw [Int32.ofInt_neg, Int32.zero_sub]
    · rw [if_neg h, if_pos (hi.mpr (by omega))]; rfl
  rw [List.map_cons, e1] at K
  exact va_mabs hx1 hb (by rw [hml]; exact hl.2.1.symm) hown (hws _ l1) (hws _ l2) (hws _ l4) h5 hd (by rw [aCat_eq]; show _ + 13 ≤ 38 * d; omega) (Nat.zero_le _) (Nat.zero_le _) hdg K
end MathRules
