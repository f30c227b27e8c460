/-! Bits of long numbers: shifts and ors of limbs, the 64 bits from a limb on. -/
theorem fk_ofInt_nat (n : Int) : (Int64.ofInt n).toBitVec.toNat = (n % 18446744073709551616).toNat := by
  rw [Int64.toBitVec_ofInt, BitVec.toNat_ofInt]
  rfl
theorem fk_ofInt_mod (n : Int) : Int64.ofInt (n % 18446744073709551616) = Int64.ofInt n := by
  apply Int64.toBitVec_inj.mp
  apply BitVec.eq_of_toNat_eq
  rw [fk_ofInt_nat, fk_ofInt_nat, Int.emod_emod_of_dvd _ (Int.dvd_refl _)]
theorem fk_or16 {b y : Int64} (h0 : 0 ≤ y.toInt) (h1 : y.toInt < 65536) : (b <<< ((16 : Int32).toInt64 &&& 63)) ||| y = Int64.ofInt (b.toInt * 65536 + y.toInt) := by
  apply Int64.toBitVec_inj.mp
  apply BitVec.eq_of_toNat_eq
  rw [fk_ofInt_nat, Int64.toBitVec_or, BitVec.toNat_or, Int64.toBitVec_shiftLeft]
  have e : (((16 : Int32).toInt64 &&& 63).toBitVec.smod 64) = 16#64 := by decide
  rw [e]
  have hy := fk_nat y
  have hb := fk_nat b
  have e2 : (b.toBitVec <<< 16#64).toNat = (b.toBitVec.toNat % 281474976710656) <<< 16 := by
    rw [BitVec.shiftLeft_eq', BitVec.toNat_shiftLeft]
    simp only [BitVec.toNat_ofNat, Nat.shiftLeft_eq, show 16 % 2 ^ 64 = 16 from rfl]
    omega
  have hy2 : y.toBitVec.toNat < 2 ^ 16 := by omega
  rw [e2, ← Nat.shiftLeft_add_eq_or_of_lt hy2, Nat.shiftLeft_eq]
  omega
theorem fk_or16' {V : Int} {y : Int64} (h0 : 0 ≤ y.toInt) (h1 : y.toInt < 65536) : (Int64.ofInt V <<< ((16 : Int32).toInt64 &&& 63)) ||| y = Int64.ofInt (V * 65536 + y.toInt) := by
  rw [fk_or16 h0 h1, Int64.ofInt_add, Int64.ofInt_mul, Int64.ofInt_toInt, Int64.ofInt_toInt, Int64.ofInt_add, Int64.ofInt_mul, Int64.ofInt_toInt]
/-- a limb, 0 outside -/
def fk_lb (f : Nat → Int64) (k : Int) : Int64 := if 0 ≤ k ∧ k < 12 then f k.toNat else 0
theorem fk_lb_in {f : Nat → Int64} {k : Int} {j : Nat} (hj : j < 12) (e : k = j) : fk_lb f k = f j := by
  subst e
  rw [fk_lb, if_pos ⟨by omega, by omega⟩]; rfl
theorem fk_lb_out {f : Nat → Int64} {k : Int} (h : k < 0 ∨ 12 ≤ k) : fk_lb f k = 0 := by
  rw [fk_lb, if_neg (by omega)]
theorem fk_dg_shift (x : Int) (s k : Nat) : fk_dg x (s + k) = fk_dg (x / 65536 ^ s) k := by
  rw [fk_dg, fk_dg, Int.pow_add, Int.ediv_ediv_of_nonneg (Int.le_of_lt (fk_pp s))]
theorem fk_bits4 {x : Int} {f : Nat → Int64} (h : fk_R x f) {s : Nat} (hs : s ≤ 8) : Int64.ofInt ((((fk_lb f (nI (s + 3)).toInt).toInt * 65536 + (fk_lb f (nI (s + 2)).toInt).toInt) * 65536 + (fk_lb f (nI (s + 1)).toInt).toInt) * 65536 + (fk_lb f (nI s).toInt).toInt) = Int64.ofInt (x / 65536 ^ s) := by
  have e : ∀ k, k < 4 → (fk_lb f (nI (s + k)).toInt).toInt = fk_dg (x / 65536 ^ s) k := by
    intro k hk
    rw [fk_lb_in (j := s + k) (by omega) (nI_toInt (by omega)), fk_R_dg h (by omega), fk_dg_shift]
  rw [e 3 (by omega), e 2 (by omega), e 1 (by omega), show nI s = nI (s + 0) from rfl, e 0 (by omega)]
  have t := fk_dg_T (x / 65536 ^ s) 4
  rw [← fk_ofInt_mod (x / 65536 ^ s), show (18446744073709551616 : Int) = 65536 ^ 4 by decide, ← t]
  congr 1
  simp only [fk_T]
  omega
theorem fk_lb_bd {x : Int} {f : Nat → Int64} (h : fk_R x f) (k : Int) : 0 ≤ (fk_lb f k).toInt ∧ (fk_lb f k).toInt < 65536 := by
  rw [fk_lb]
  split
  · rename_i q
    exact h.1 k.toNat (by omega)
  · decide
theorem fk_bit0 (x : Int64) : (x &&& 1).toInt = x.toInt % 2 := fk_and 1 (by omega) (by decide)
theorem fk_s15 (x : Int64) : (x >>> ((15 : Int32).toInt64 &&& 63)).toInt = x.toInt / 32768 := fk_shr 15 (by decide)
theorem fk_z64 : (0 : Int64).toInt = 0 := by decide
