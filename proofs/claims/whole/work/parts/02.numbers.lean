/-! ===== numbers: ints of the machine as mathematical ones ===== -/
theorem aIn_toInt {x : Int} (h : -2147483648 ≤ x ∧ x < 2147483648) : (Int32.ofInt x).toInt = x := Int32.toInt_ofInt_of_le (by omega) (by omega)
theorem aIn_toInt64 {x : Int} (h : -9223372036854775808 ≤ x ∧ x < 9223372036854775808) : (Int64.ofInt x).toInt = x := Int64.toInt_ofInt_of_le (by omega) (by omega)
theorem aIn_lt {x y : Int} (hx : -2147483648 ≤ x ∧ x < 2147483648) (hy : -2147483648 ≤ y ∧ y < 2147483648) : Int32.ofInt x < Int32.ofInt y ↔ x < y := by
  rw [Int32.lt_iff_toInt_lt, aIn_toInt hx, aIn_toInt hy]
theorem aIn_le {x y : Int} (hx : -2147483648 ≤ x ∧ x < 2147483648) (hy : -2147483648 ≤ y ∧ y < 2147483648) : Int32.ofInt x ≤ Int32.ofInt y ↔ x ≤ y := by
  rw [Int32.le_iff_toInt_le, aIn_toInt hx, aIn_toInt hy]
theorem aIn_eq {x y : Int} (hx : -2147483648 ≤ x ∧ x < 2147483648) (hy : -2147483648 ≤ y ∧ y < 2147483648) : Int32.ofInt x = Int32.ofInt y ↔ x = y := by
  rw [← Int32.toInt_inj, aIn_toInt hx, aIn_toInt hy]
theorem aIn_lt64 {x y : Int} (hx : -9223372036854775808 ≤ x ∧ x < 9223372036854775808) (hy : -9223372036854775808 ≤ y ∧ y < 9223372036854775808) : Int64.ofInt x < Int64.ofInt y ↔ x < y := by
  rw [Int64.lt_iff_toInt_lt, aIn_toInt64 hx, aIn_toInt64 hy]
theorem aIn_eq64 {x y : Int} (hx : -9223372036854775808 ≤ x ∧ x < 9223372036854775808) (hy : -9223372036854775808 ≤ y ∧ y < 9223372036854775808) : Int64.ofInt x = Int64.ofInt y ↔ x = y := by
  rw [← Int64.toInt_inj, aIn_toInt64 hx, aIn_toInt64 hy]
theorem aIn_nat {x : Int} (h : 0 ≤ x ∧ x < 2147483648) : (Int32.ofInt x).toNatClampNeg = x.toNat := Int32.toNatClampNeg_ofInt_of_le (by omega) (by omega)
theorem aIn_vp {x : Int} {n : Nat} (hn : n < 2147483648) (h : 0 ≤ x ∧ x < (n : Int)) : vp_in (Int32.ofInt x) n := by
  rw [vp_in_iff, aIn_toInt (by omega)]
  exact h
theorem aIn_byte {n : Int} (h : -128 ≤ n ∧ n ≤ 127) : (Int8.ofInt n).toInt32 = Int32.ofInt n := Int8.toInt32_ofInt h.1 h.2
theorem aIn_short {n : Int} (h : -32768 ≤ n ∧ n ≤ 32767) : (Int16.ofInt n).toInt32 = Int32.ofInt n := Int16.toInt32_ofInt h.1 h.2
theorem aIn_i2b (x : Int) : (Int32.ofInt x).toInt8.toInt32 = Int32.ofInt (x.bmod 256) := by
  rw [Int32.toInt8_ofInt, ← Int32.toInt_inj]
  have h1 : (Int8.ofInt x).toInt = x.bmod 256 := by rw [Int8.toInt_ofInt]
  have h2 : (Int8.ofInt x).toInt32 = Int32.ofInt (x.bmod 256) := by rw [← h1]; exact (Int32.ofInt_int8ToInt _).symm
  rw [h2]
theorem aIn_i2s (x : Int) : (Int32.ofInt x).toInt16.toInt32 = Int32.ofInt (x.bmod 65536) := by
  rw [Int32.toInt16_ofInt, ← Int32.toInt_inj]
  have h1 : (Int16.ofInt x).toInt = x.bmod 65536 := by rw [Int16.toInt_ofInt]
  have h2 : (Int16.ofInt x).toInt32 = Int32.ofInt (x.bmod 65536) := by rw [← h1]; exact (Int32.ofInt_int16ToInt _).symm
  rw [h2]
theorem aIn_i2l {x : Int} (h : -2147483648 ≤ x ∧ x < 2147483648) : (Int32.ofInt x).toInt64 = Int64.ofInt x := by
  rw [← Int64.ofInt_int32ToInt, aIn_toInt h]
theorem aIn_div {x y : Int} (hx : -2147483648 ≤ x ∧ x < 2147483648) (hy : 0 < y ∧ y < 2147483648) : Int32.ofInt (x.tdiv y) = Int32.ofInt x / Int32.ofInt y :=
  Int32.ofInt_tdiv hx.1 (by show x ≤ 2147483647; omega) (by show -2147483648 ≤ y; omega) (by show y ≤ 2147483647; omega)
theorem aIn_div64 {x y : Int} (hx : -9223372036854775808 ≤ x ∧ x < 9223372036854775808) (hy : 0 < y ∧ y < 9223372036854775808) : Int64.ofInt (x.tdiv y) = Int64.ofInt x / Int64.ofInt y :=
  Int64.ofInt_tdiv hx.1 (by show x ≤ 9223372036854775807; omega) (by show -9223372036854775808 ≤ y; omega) (by show y ≤ 9223372036854775807; omega)
theorem aIn_rem {x y : Int} (hx : -2147483648 ≤ x ∧ x < 2147483648) (hy : 0 < y ∧ y < 2147483648) : Int32.ofInt (x.tmod y) = Int32.ofInt x - Int32.ofInt x / Int32.ofInt y * Int32.ofInt y := by
  rw [← aIn_div hx hy, ← Int32.ofInt_mul, ← Int32.ofInt_sub]
  congr 1
  have := Int.mul_tdiv_add_tmod x y
  rw [Int.mul_comm] at this
  omega
theorem aIn_rem64 {x y : Int} (hx : -9223372036854775808 ≤ x ∧ x < 9223372036854775808) (hy : 0 < y ∧ y < 9223372036854775808) : Int64.ofInt (x.tmod y) = Int64.ofInt x - Int64.ofInt x / Int64.ofInt y * Int64.ofInt y := by
  rw [← aIn_div64 hx hy, ← Int64.ofInt_mul, ← Int64.ofInt_sub]
  congr 1
  have := Int.mul_tdiv_add_tmod x y
  rw [Int.mul_comm] at this
  omega
theorem aIn_ne0 {y : Int} (hy : 0 < y ∧ y < 2147483648) : ¬ Int32.ofInt y = 0 := fun h => by
  have h2 : Int32.ofInt y = Int32.ofInt 0 := h
  rw [aIn_eq (by omega) (by omega)] at h2
  omega
theorem aIn_ne064 {y : Int} (hy : 0 < y ∧ y < 9223372036854775808) : ¬ Int64.ofInt y = 0 := fun h => by
  have h2 : Int64.ofInt y = Int64.ofInt 0 := h
  rw [aIn_eq64 (by omega) (by omega)] at h2
  omega
def aAnd (x y : Int) : Int := (Int32.ofInt x &&& Int32.ofInt y).toInt
def aOr (x y : Int) : Int := (Int32.ofInt x ||| Int32.ofInt y).toInt
def aXor (x y : Int) : Int := (Int32.ofInt x ^^^ Int32.ofInt y).toInt
theorem aAnd_eq (x y : Int) : Int32.ofInt (aAnd x y) = Int32.ofInt x &&& Int32.ofInt y := Int32.ofInt_toInt _
theorem aOr_eq (x y : Int) : Int32.ofInt (aOr x y) = Int32.ofInt x ||| Int32.ofInt y := Int32.ofInt_toInt _
theorem aXor_eq (x y : Int) : Int32.ofInt (aXor x y) = Int32.ofInt x ^^^ Int32.ofInt y := Int32.ofInt_toInt _
theorem aSh_small : ∀ n : Nat, n < 32 → (Int32.ofNat n &&& 31) = Int32.ofNat n ∧ ((Int32.ofNat n).toBitVec.smod 32).toNat = n ∧ (((Int32.ofNat n).toUInt32 &&& Int32.toUInt32 31).toBitVec % 32).toNat = n ∧ (Int32.ofNat (2 ^ n)).toBitVec.toNat = 2 ^ n := by decide +kernel
theorem aIn_shl {x y : Int} (hy : 0 ≤ y ∧ y < 32) : Int32.ofInt (x * 2 ^ y.toNat) = Int32.ofInt x <<< (Int32.ofInt y &&& 31) := by
  obtain ⟨n, rfl⟩ := Int.eq_ofNat_of_zero_le hy.1
  have hn : n < 32 := by omega
  obtain ⟨h1, h2, -, h4⟩ := aSh_small n hn
  have e : Int32.ofInt (n : Int) = Int32.ofNat n := Int32.ofInt_eq_ofNat
  rw [e, h1, Int32.ofInt_mul, Int.toNat_natCast]
  have e2 : Int32.ofInt ((2 : Int) ^ n) = Int32.ofNat (2 ^ n) := by
    rw [← Int32.ofInt_eq_ofNat]; simp
  rw [e2]
  apply Int32.toBitVec.inj
  apply BitVec.eq_of_toNat_eq
  rw [pk_shl _ _ n h2, Int32.toBitVec_mul, BitVec.toNat_mul, h4]
theorem aIn_shr {x y : Int} (hy : 0 ≤ y ∧ y < 32) (hx : -2147483648 ≤ x ∧ x < 2147483648) : Int32.ofInt (x / 2 ^ y.toNat) = Int32.ofInt x >>> (Int32.ofInt y &&& 31) := by
  obtain ⟨n, rfl⟩ := Int.eq_ofNat_of_zero_le hy.1
  have hn : n < 32 := by omega
  obtain ⟨h1, h2, -, -⟩ := aSh_small n hn
  have e : Int32.ofInt (n : Int) = Int32.ofNat n := Int32.ofInt_eq_ofNat
  rw [e, h1, ← Int32.toInt_inj, pk_shr _ _ n h2, aIn_toInt hx, Int.shiftRight_eq_div_pow, Int.toNat_natCast]
  have hp : (0 : Int) < 2 ^ n := Int.pow_pos (by decide)
  have hq : (1 : Int) ≤ 2 ^ n := hp
  rw [aIn_toInt]
  · simp
  · constructor
    · rcases Int.le_total 0 x with h | h
      · have := Int.ediv_nonneg h (Int.le_of_lt hp); omega
      · have h3 : x ≤ x / 2 ^ n := by
          rw [Int.le_ediv_iff_mul_le hp]
          have : (-x) * 1 ≤ (-x) * 2 ^ n := Int.mul_le_mul_of_nonneg_left hq (by omega)
          rw [Int.neg_mul, Int.neg_mul] at this
          omega
        omega
    · have h3 : x / 2 ^ n ≤ 2147483647 := by
        rw [Int.ediv_le_iff_le_mul hp]
        have : (2147483647 : Int) * 1 ≤ 2147483647 * 2 ^ n := Int.mul_le_mul_of_nonneg_left hq (by omega)
        omega
      omega
theorem aIn_ushr {x y : Int} (hy : 0 ≤ y ∧ y < 32) (hx : 0 ≤ x ∧ x < 2147483648) : ((Int32.ofInt x).toUInt32 >>> ((Int32.ofInt y).toUInt32 &&& Int32.toUInt32 31)).toInt32 = Int32.ofInt (x / 2 ^ y.toNat) := by
  obtain ⟨n, rfl⟩ := Int.eq_ofNat_of_zero_le hy.1
  obtain ⟨k, rfl⟩ := Int.eq_ofNat_of_zero_le hx.1
  have hn : n < 32 := by omega
  obtain ⟨-, -, h3, -⟩ := aSh_small n hn
  have e : Int32.ofInt (n : Int) = Int32.ofNat n := Int32.ofInt_eq_ofNat
  have e1 : Int32.ofInt (k : Int) = nI k := Int32.ofInt_eq_ofNat
  rw [e, e1, pk_ushrN (by omega) _ n h3, Int.toNat_natCast]
  have e2 : ((k : Int) / 2 ^ n) = ((k / 2 ^ n : Nat) : Int) := by simp
  rw [e2]
  exact Int32.ofInt_eq_ofNat.symm
theorem aIn_lcmp {x y : Int} (hx : -9223372036854775808 ≤ x ∧ x < 9223372036854775808) (hy : -9223372036854775808 ≤ y ∧ y < 9223372036854775808) : lg_cmp (Int64.ofInt x) (Int64.ofInt y) = Int32.ofInt (if y < x then 1 else if x = y then 0 else -1) := by
  unfold lg_cmp
  have h1 : (Int64.ofInt x > Int64.ofInt y) ↔ y < x := aIn_lt64 hy hx
  have h2 := aIn_eq64 hx hy
  by_cases c1 : y < x
  · rw [if_pos (h1.mpr c1), if_pos c1]; rfl
  · rw [if_neg (fun h => c1 (h1.mp h)), if_neg c1]
    by_cases c2 : x = y
    · rw [if_pos (h2.mpr c2), if_pos c2]; rfl
    · rw [if_neg (fun h => c2 (h2.mp h)), if_neg c2]; rfl
