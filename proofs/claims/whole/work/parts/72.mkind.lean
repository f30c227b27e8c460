/-! The reference's kinds: masks, bringing in, bounds. -/
theorem fk_and63 {x m : Int64} (k : Nat) (hk : k ≤ 63) (hm : m.toBitVec.toNat = 2 ^ k - 1) : (x &&& m).toInt = x.toInt % 2 ^ k := by
  have e : (x &&& m).toBitVec.toNat = x.toBitVec.toNat % 2 ^ k := by
    rw [Int64.toBitVec_and, BitVec.toNat_and, hm, Nat.and_two_pow_sub_one_eq_mod]
  have hp : 2 ^ k ≤ 2 ^ 63 := Nat.pow_le_pow_right (by omega) hk
  have hl : x.toBitVec.toNat % 2 ^ k < 2 ^ k := Nat.mod_lt _ (Nat.two_pow_pos k)
  rw [fk_ofnat (n := x.toBitVec.toNat % 2 ^ k) (by omega) e, Int.natCast_emod, fk_nat, fk_2n]
  exact Int.emod_emod_of_dvd _ (by
    have : (18446744073709551616 : Int) = 2 ^ k * 2 ^ (64 - k) := by
      rw [← fk_2a, show k + (64 - k) = 64 by omega]; decide
    exact ⟨_, this⟩)
theorem fk_mask : ∀ w, w < 64 → 8 ≤ w → ((1 : Int64) <<< ((nI w).toInt64 &&& 63) - 1).toBitVec.toNat = 2 ^ w - 1 := by decide +kernel
theorem fk_neg_sh : ∀ w, w < 64 → 8 ≤ w → (-((1 : Int64) <<< ((nI (w - 1)).toInt64 &&& 63))).toInt = -(2 ^ (w - 1)) := by decide +kernel
theorem fk_most_sg : ∀ w, w < 64 → 8 ≤ w → ((1 : Int64) <<< ((nI (w - 1)).toInt64 &&& 63) - 1).toInt = 2 ^ (w - 1) - 1 := by decide +kernel
theorem fk_pow63 {w : Nat} (h : w ≤ 63) : (2 : Int) ^ w ≤ 9223372036854775808 := by
  have e : (9223372036854775808 : Int) = 2 ^ w * 2 ^ (63 - w) := by rw [← fk_2a, show w + (63 - w) = 63 by omega]; decide
  have q := fk_2p (63 - w)
  have p := fk_2p w
  have : 2 ^ w * 1 ≤ (2 : Int) ^ w * 2 ^ (63 - w) := Int.mul_le_mul_of_nonneg_left (by omega) (by omega)
  omega
/-- a difference of longs, whatever overflows, if it is in range -/
theorem fk_sub_in {x y : Int64} {a b : Int} (hx : x.toInt = a) (hy : ∃ z : Int, y.toInt = b + z * 18446744073709551616) (h1 : -9223372036854775808 ≤ a - b) (h2 : a - b < 9223372036854775808) : (x - y).toInt = a - b := by
  obtain ⟨z, hz⟩ := hy
  rw [Int64.toInt_sub, hx, hz]
  have e : a - (b + z * 18446744073709551616) = (a - b) + (-z) * ((2 ^ 64 : Nat) : Int) := by
    show _ = (a - b) + (-z) * 18446744073709551616
    omega
  rw [e, Int.add_mul_bmod_self_right]
  exact Int.bmod_eq_of_le (by omega) (by omega)
theorem fk_bit_top {U : Int} {w : Nat} (hw : 1 ≤ w) (h0 : 0 ≤ U) (h1 : U < 2 ^ w) : U / 2 ^ (w - 1) % 2 = 1 ↔ 2 ^ (w - 1) ≤ U := by
  have e := fk_2h hw
  have p := fk_2p (w - 1)
  constructor
  · intro h
    rcases Int.lt_or_le U (2 ^ (w - 1)) with q | q
    · rw [Int.ediv_eq_zero_of_lt h0 q] at h; omega
    · exact q
  · intro h
    have a : 1 ≤ U / 2 ^ (w - 1) := (Int.le_ediv_iff_mul_le p).mpr (by omega)
    have b : U / 2 ^ (w - 1) < 2 := (Int.ediv_lt_iff_lt_mul p).mpr (by omega)
    omega
theorem fk_bring_sg {w : Nat} (hw : 1 ≤ w) (v : Int) : (v + 2 ^ (w - 1)) % 2 ^ w - 2 ^ (w - 1) = if 2 ^ (w - 1) ≤ v % 2 ^ w then v % 2 ^ w - 2 ^ w else v % 2 ^ w := by
  have e := fk_2h hw
  have p := fk_2p (w - 1)
  have a := Int.emod_nonneg v (show (2 : Int) ^ w ≠ 0 by omega)
  have b := Int.emod_lt_of_pos v (show (0 : Int) < 2 ^ w by omega)
  have c := Int.mul_ediv_add_emod v (2 ^ w)
  have d : v + 2 ^ (w - 1) = (v % 2 ^ w + 2 ^ (w - 1)) + v / 2 ^ w * 2 ^ w := by rw [Int.mul_comm (v / 2 ^ w)]; omega
  rw [d, Int.add_mul_emod_self_right]
  split
  · have z : (v % 2 ^ w + 2 ^ (w - 1)) = (v % 2 ^ w + 2 ^ (w - 1) - 2 ^ w) + 1 * 2 ^ w := by omega
    rw [z, Int.add_mul_emod_self_right, Int.emod_eq_of_lt (by omega) (by omega)]
    omega
  · rw [Int.emod_eq_of_lt (by omega) (by omega)]
    omega
theorem fk_bring_64 (v : Int64) : (v.toInt + 2 ^ (64 - 1)) % 2 ^ 64 - 2 ^ (64 - 1) = v.toInt := by
  have := v.toInt_lt
  have := v.le_toInt
  rw [show (2 : Int) ^ 64 = 18446744073709551616 by decide, show (2 : Int) ^ (64 - 1) = 9223372036854775808 by decide]
  omega
/-- the table of the reference's kinds -/
def fk_MT (n : Nat) (kf : Nat → fk_K) (wd sg : Nat → Int32) (up dn of : Nat → Int64) (bey rnd : Nat → Int32) : Prop := n ≤ 40 ∧ (∀ j, j < n → wd (j + 1) = nI (kf j).1 ∧ sg (j + 1) = (kf j).2.1 ∧ up (j + 1) = (kf j).2.2.1 ∧ dn (j + 1) = (kf j).2.2.2.1 ∧ of (j + 1) = (kf j).2.2.2.2.1 ∧ bey (j + 1) = (kf j).2.2.2.2.2.1 ∧ rnd (j + 1) = (kf j).2.2.2.2.2.2 ∧ fk_ok (kf j)) ∧ ∀ i, n < i → i < 41 → bey i = 0 ∧ rnd i = 0
