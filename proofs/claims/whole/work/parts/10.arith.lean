/-! Int64 and Int32 seen as whole numbers (their toInt). -/
theorem fk_add {x y : Int64} (h1 : -9223372036854775808 ≤ x.toInt + y.toInt) (h2 : x.toInt + y.toInt < 9223372036854775808) : (x + y).toInt = x.toInt + y.toInt := by
  rw [Int64.toInt_add]
  exact Int.bmod_eq_of_le (by omega) (by omega)
theorem fk_sub {x y : Int64} (h1 : -9223372036854775808 ≤ x.toInt - y.toInt) (h2 : x.toInt - y.toInt < 9223372036854775808) : (x - y).toInt = x.toInt - y.toInt := by
  rw [Int64.toInt_sub]
  exact Int.bmod_eq_of_le (by omega) (by omega)
theorem fk_mul {x y : Int64} (h1 : -9223372036854775808 ≤ x.toInt * y.toInt) (h2 : x.toInt * y.toInt < 9223372036854775808) : (x * y).toInt = x.toInt * y.toInt := by
  rw [Int64.toInt_mul]
  exact Int.bmod_eq_of_le (by omega) (by omega)
theorem fk_neg {x : Int64} (h1 : -9223372036854775808 < x.toInt) : (-x).toInt = -x.toInt := by
  have := x.toInt_lt
  rw [Int64.toInt_neg]
  exact Int.bmod_eq_of_le (by omega) (by omega)
theorem fk_nat (x : Int64) : (x.toBitVec.toNat : Int) = x.toInt % 18446744073709551616 := by
  have h : x.toInt = if 2 * x.toBitVec.toNat < 2 ^ 64 then (x.toBitVec.toNat : Int) else (x.toBitVec.toNat : Int) - ((2 ^ 64 : Nat) : Int) := BitVec.toInt_eq_toNat_cond _
  have h2 := x.toBitVec.isLt
  split at h <;> omega
theorem fk_ofnat {x : Int64} {n : Nat} (h : n < 9223372036854775808) (e : x.toBitVec.toNat = n) : x.toInt = n := by
  have h1 := fk_nat x
  have h2 := x.toInt_lt
  have h3 := x.le_toInt
  omega
theorem fk_and {x m : Int64} (k : Nat) (hk : k < 63) (hm : m.toBitVec.toNat = 2 ^ k - 1) : (x &&& m).toInt = x.toInt % ((2 ^ k : Nat) : Int) := by
  have e : (x &&& m).toBitVec.toNat = x.toBitVec.toNat % 2 ^ k := by
    rw [Int64.toBitVec_and, BitVec.toNat_and, hm, Nat.and_two_pow_sub_one_eq_mod]
  have hp : 2 ^ k < 2 ^ 63 := Nat.pow_lt_pow_right (by omega) hk
  have hl : x.toBitVec.toNat % 2 ^ k < 2 ^ k := Nat.mod_lt _ (Nat.two_pow_pos k)
  rw [fk_ofnat (n := x.toBitVec.toNat % 2 ^ k) (by omega) e, Int.natCast_emod, fk_nat]
  exact Int.emod_emod_of_dvd _ (by
    have : (18446744073709551616 : Int) = ((2 ^ k : Nat) : Int) * ((2 ^ (64 - k) : Nat) : Int) := by
      rw [← Int.natCast_mul, ← Nat.pow_add, show k + (64 - k) = 64 by omega]; rfl
    exact ⟨_, this⟩)
theorem fk_m16 (x : Int64) : (x &&& 65535).toInt = x.toInt % 65536 := fk_and 16 (by omega) (by decide)
theorem fk_shr {x y : Int64} (k : Nat) (hy : (y.toBitVec.smod 64).toNat = k) : (x >>> y).toInt = x.toInt / ((2 ^ k : Nat) : Int) := by
  have e : (x >>> y).toInt = x.toInt >>> k := by
    rw [← hy]
    exact BitVec.toInt_sshiftRight ..
  rw [e, Int.shiftRight_eq_div_pow]
theorem fk_s16 (x : Int64) : (x >>> ((16 : Int32).toInt64 &&& 63)).toInt = x.toInt / 65536 := fk_shr 16 (by decide)
theorem fk_divT {x y : Int64} (hx : 0 ≤ x.toInt) (hy : 0 < y.toInt) : (x / y).toInt = x.toInt / y.toInt := by
  rw [Int64.toInt_div_of_ne_right x y (by intro h; rw [h] at hy; revert hy; decide)]
  exact Int.tdiv_eq_ediv_of_nonneg hx
theorem fk_remT {x y : Int64} (hx : 0 ≤ x.toInt) (hy : 0 < y.toInt) : (x - x / y * y).toInt = x.toInt % y.toInt := by
  have h1 := fk_divT hx hy
  have h2 := x.toInt_lt
  have h3 : x.toInt / y.toInt * y.toInt + x.toInt % y.toInt = x.toInt := Int.mul_comm y.toInt _ ▸ Int.mul_ediv_add_emod x.toInt y.toInt
  have h4 := Int.emod_nonneg x.toInt (show y.toInt ≠ 0 by omega)
  have h5 : 0 ≤ x.toInt / y.toInt := Int.ediv_nonneg hx (by omega)
  have h6 : 0 ≤ x.toInt / y.toInt * y.toInt := Int.mul_nonneg h5 (by omega)
  have h7 : (x / y * y).toInt = x.toInt / y.toInt * y.toInt := by
    rw [fk_mul (by rw [h1]; omega) (by rw [h1]; omega), h1]
  rw [fk_sub (by rw [h7]; omega) (by rw [h7]; omega), h7]
  omega
