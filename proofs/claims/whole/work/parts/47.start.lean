/-! ===== the store at the start ===== -/
def s0 : aS := fun t c i => if t = 7 then cz i else if t = 8 then hz i else if t = 22 ∧ c = 0 then szF i else 0
theorem s0_z {t c : Nat} (h7 : t ≠ 7) (h8 : t ≠ 8) (h22 : ¬ (t = 22 ∧ c = 0)) (i : Int) : s0 t c i = 0 := by
  unfold s0
  rw [if_neg h7, if_neg h8, if_neg h22]
theorem s0_22 (i : Int) : s0 22 0 i = szF i := rfl
theorem szF_o {i : Int} (h : i < 3 ∨ 13 ≤ i) : szF i = 0 := by
  unfold szF
  rw [if_neg (by omega), if_neg (by omega)]
theorem szF_c {f : Int} (h0 : 0 ≤ f) (h1 : f < 5) : szF (3 + f) = f := by
  unfold szF
  rw [if_pos (by omega)]
  omega
theorem szF_h {f : Int} (h0 : 0 ≤ f) (h1 : f < 5) : szF (8 + f) = -4 := by
  unfold szF
  rw [if_neg (by omega), if_pos (by omega)]
theorem s0_C : IvC s0 := by
  have e : s0 22 0 = szF := rfl
  have z0 : szF 0 = 0 := szF_o (by omega)
  have z1 : szF 1 = 0 := szF_o (by omega)
  have z2 : szF 2 = 0 := szF_o (by omega)
  unfold IvC
  rw [e]
  refine ⟨⟨⟨by rw [z0]; exact s0_z (by decide) (by decide) (by omega) 0, by rw [z1]; exact s0_z (by decide) (by decide) (by omega) 1, by rw [z2]; exact s0_z (by decide) (by decide) (by omega) 2⟩, fun p h0 h1 => by rw [z0] at h1; omega, fun f h0 h1 => ?_⟩, ⟨by rw [z0]; decide, by rw [z1]; decide, by rw [z2]; decide, fun f h0 h1 => ?_, fun f h0 h1 => Or.inl (szF_h h0 h1), fun f g f0 f1 g0 g1 hp => ?_, fun p h0 h1 => by rw [z0] at h1; omega, fun i hi => szF_o (by omega)⟩, by rw [z1]; decide⟩
  · rw [szF_c h0 h1, szF_h h0 h1]
    refine ⟨?_, ?_⟩
    · show cz f = f
      unfold cz
      rw [if_pos ⟨h0, h1⟩]
    · show hz f = nb (-4)
      unfold hz
      rw [if_pos ⟨h0, h1⟩]
      rfl
  · rw [szF_c h0 h1]
    omega
  · rw [szF_h f0 f1] at hp
    omega
theorem s0_I : IvI s0 := by
  refine ⟨fun i _ => s0_z (by decide) (by decide) (by omega) i, fun i _ => s0_z (by decide) (by decide) (by omega) i, fun i _ => s0_z (by decide) (by decide) (by omega) i, Or.inl (s0_z (by decide) (by decide) (by omega) 3), ?_, fun h => ?_⟩
  · rw [s0_z (t := 21) (c := 0) (by decide) (by decide) (by omega) 4, s0_z (t := 0) (c := 0) (by decide) (by decide) (by omega) 3]
  · rw [s0_z (t := 0) (c := 0) (by decide) (by decide) (by omega) 3] at h
    exact absurd h (by decide)
theorem s0_S : IvS s0 := by
  have z : ∀ t : Nat, (10 ≤ t ∧ t ≤ 15) ∨ (26 ≤ t ∧ t ≤ 31) → ∀ i : Int, s0 t 0 i = 0 := fun t ht i => s0_z (by omega) (by omega) (by omega) i
  have z10 := z 10 (by omega)
  have z11 := z 11 (by omega)
  have z12 := z 12 (by omega)
  have z13 := z 13 (by omega)
  have z14 := z 14 (by omega)
  have z15 := z 15 (by omega)
  have z26 := z 26 (by omega)
  have z27 := z 27 (by omega)
  have z28 := z 28 (by omega)
  have z29 := z 29 (by omega)
  have z30 := z 30 (by omega)
  have z31 := z 31 (by omega)
  refine ⟨⟨fun d _ _ => ?_, fun i _ _ => ?_⟩, ⟨fun d _ _ => ?_, fun i _ _ => ?_⟩, fun d _ _ => ?_, fun d _ => z30 d, fun d _ _ _ j _ hj => ?_⟩
  · rw [z10, z11, z12, z13, z14]
    decide
  · rw [z15]
    decide
  · rw [z26, z27, z28, z29, z30]
    decide
  · rw [z31]
    decide
  · rw [z10, z26]
    exact ⟨rfl, fun q => absurd q (by decide), fun q => absurd q (by decide)⟩
  · rw [z31]
    decide
theorem s0_Inv : Inv s0 := ⟨s0_C, s0_I, s0_S, fun i _ => s0_z (by decide) (by decide) (by omega) i⟩
theorem aPl_eq : aPl = [(0, 0), (1, 0), (1, 1), (1, 2), (2, 0), (2, 1), (2, 2), (3, 0), (3, 1), (3, 2), (4, 0), (4, 1), (4, 2), (5, 0), (5, 1), (5, 2), (6, 0), (6, 1), (6, 2), (7, 0), (7, 1), (7, 2), (8, 0), (8, 1), (8, 2), (9, 0), (10, 0), (11, 0), (12, 0), (13, 0), (14, 0), (15, 0), (16, 0), (17, 0), (18, 0), (19, 0), (20, 0), (20, 1), (21, 0), (22, 0), (22, 1), (22, 2), (22, 3), (23, 0), (24, 0), (25, 0), (26, 0), (27, 0), (28, 0), (29, 0), (30, 0), (31, 0)] := by decide +kernel
def w0 (ad : Nat → Nat → Nat) (cA : ClassId) (z : Int32) : va_W := [(ad 0 0, .inr (4, [.ref (ad 1 0), .ref (ad 1 1), .ref (ad 1 2), .int z, .ref (ad 9 0), .ref (ad 16 0), .ref (ad 19 0), .ref (ad 20 0), .ref (ad 20 1)])), (ad 1 0, .inr (0, [.int z, .int z, .int z, .int z, .ref (ad 2 0), .ref (ad 3 0), .ref (ad 4 0), .ref (ad 5 0), .ref (ad 6 0), .ref (ad 7 0), .ref (ad 8 0)])), (ad 1 1, .inr (0, [.int z, .int z, .int z, .int z, .ref (ad 2 1), .ref (ad 3 1), .ref (ad 4 1), .ref (ad 5 1), .ref (ad 6 1), .ref (ad 7 1), .ref (ad 8 1)])), (ad 1 2, .inr (0, [.int z, .int z, .int z, .int z, .ref (ad 2 2), .ref (ad 3 2), .ref (ad 4 2), .ref (ad 5 2), .ref (ad 6 2), .ref (ad 7 2), .ref (ad 8 2)])), (ad 2 0, zA cA 8), (ad 2 1, zA cA 8), (ad 2 2, zA cA 8), (ad 3 0, zA cA 8), (ad 3 1, zA cA 8), (ad 3 2, zA cA 8), (ad 4 0, zA cA 8), (ad 4 1, zA cA 8), (ad 4 2, zA cA 8), (ad 5 0, zA cA 8), (ad 5 1, zA cA 8), (ad 5 2, zA cA 8), (ad 6 0, zA cA 8), (ad 6 1, zA cA 8), (ad 6 2, zA cA 8), (ad 7 0, fA cA 5 cz), (ad 7 1, fA cA 5 cz), (ad 7 2, fA cA 5 cz), (ad 8 0, fA cA 5 hz), (ad 8 1, fA cA 5 hz), (ad 8 2, fA cA 5 hz), (ad 9 0, .inr (3, [.ref (ad 10 0), .ref (ad 11 0), .ref (ad 12 0), .ref (ad 13 0), .ref (ad 14 0), .ref (ad 15 0)])), (ad 10 0, zA cA 8), (ad 11 0, zA cA 8), (ad 12 0, zA cA 8), (ad 13 0, zA cA 8), (ad 14 0, zA cA 8), (ad 15 0, zA cA 800), (ad 16 0, .inr (1, [.ref (ad 17 0), .ref (ad 18 0), .int z])), (ad 17 0, zA cA 40), (ad 18 0, zA cA 1536), (ad 19 0, .inr (2, [.int z])), (ad 20 0, zA cA 4), (ad 20 1, zA cA 4), (ad 21 0, .inr (5, [.ref (ad 22 0), .ref (ad 22 1), .ref (ad 22 2), .ref (ad 22 3), .int z, .int z, .int z, .int z, .ref (ad 23 0), .ref (ad 24 0), .ref (ad 25 0), .int z, .ref (ad 26 0), .ref (ad 27 0), .ref (ad 28 0), .ref (ad 29 0), .ref (ad 30 0), .ref (ad 31 0), .int z])), (ad 22 0, fA cA 45 szF), (ad 22 1, zA cA 45), (ad 22 2, zA cA 45), (ad 22 3, zA cA 45), (ad 23 0, zA cA 3), (ad 24 0, zA cA 40), (ad 25 0, zA cA 1536), (ad 26 0, zA cA 8), (ad 27 0, zA cA 8), (ad 28 0, zA cA 8), (ad 29 0, zA cA 8), (ad 30 0, zA cA 8), (ad 31 0, zA cA 800)]
set_option maxRecDepth 20000 in
theorem w0_eq (ad : Nat → Nat → Nat) (cA : ClassId) : aWo ad cA s0 = w0 ad cA 0 := by
  have e : aWo ad cA s0 = w0 ad cA (Int32.ofInt 0) := by
    unfold aWo
    rw [aPl_eq]
    rfl
  rw [e]
  rfl
