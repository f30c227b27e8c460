/-! A kind's numbers as whole numbers: least, greatest, brought in, bits. -/
def fk_h (w : Nat) : Int := 2 ^ (w - 1)
def fk_least (w : Nat) (sg : Int32) : Int := if sg = 0 then 0 else -(2 ^ (w - 1))
def fk_most (w : Nat) (sg : Int32) : Int := if sg = 0 then 2 ^ w - 1 else 2 ^ (w - 1) - 1
/-- the RAW number with the same lowest w bits -/
def fk_bring (w : Nat) (sg : Int32) (v : Int) : Int := if sg = 0 then v % 2 ^ w else (v + 2 ^ (w - 1)) % 2 ^ w - 2 ^ (w - 1)
/-- a width that there is, with or without sign -/
def fk_wd (w : Nat) (sg : Int32) : Prop := 8 ≤ w ∧ w ≤ 64 ∧ (sg = 0 ∨ sg = 1) ∧ (w = 64 → sg = 1)
theorem fk_cnt : ∀ k, k < 64 → (((nI k).toInt64 &&& 63).toBitVec.smod 64).toNat = k := by decide +kernel
theorem fk_cntu : ∀ k, k < 64 → (((nI k).toInt64.toUInt64 &&& Int64.toUInt64 63).toBitVec % 64).toNat = k := by decide +kernel
theorem fk_2p (k : Nat) : (0 : Int) < 2 ^ k := Int.pow_pos (by decide)
theorem fk_2n (k : Nat) : ((2 ^ k : Nat) : Int) = 2 ^ k := by push_cast; rfl
theorem fk_2a (a b : Nat) : (2 : Int) ^ (a + b) = 2 ^ a * 2 ^ b := Int.pow_add _ _ _
theorem fk_2h {w : Nat} (h : 1 ≤ w) : (2 : Int) ^ w = 2 * 2 ^ (w - 1) := by
  obtain ⟨k, rfl⟩ : ∃ k, w = k + 1 := ⟨w - 1, by omega⟩
  rw [Int.pow_succ, Nat.add_sub_cancel, Int.mul_comm]
theorem fk_shl (x : Int64) {u : Nat} (hu : u < 64) : ∃ z : Int, (x <<< ((nI u).toInt64 &&& 63)).toInt = x.toInt * 2 ^ u + z * 18446744073709551616 := by
  have e : (x <<< ((nI u).toInt64 &&& 63)).toBitVec.toNat = x.toBitVec.toNat * 2 ^ u % 2 ^ 64 := by
    rw [Int64.toBitVec_shiftLeft, BitVec.shiftLeft_eq', fk_cnt u hu, BitVec.toNat_shiftLeft, Nat.shiftLeft_eq]
  have h1 := fk_nat (x <<< ((nI u).toInt64 &&& 63))
  have h2 := fk_nat x
  have h3 : ((x.toBitVec.toNat * 2 ^ u : Nat) : Int) = (x.toBitVec.toNat : Int) * 2 ^ u := by push_cast; rfl
  have h4 : ∃ q : Int, (x.toBitVec.toNat : Int) = x.toInt + q * 18446744073709551616 := ⟨-(x.toInt / 18446744073709551616), by omega⟩
  obtain ⟨q, hq⟩ := h4
  rw [hq] at h3
  rw [e] at h1
  refine ⟨(x <<< ((nI u).toInt64 &&& 63)).toInt / 18446744073709551616 - ((x.toBitVec.toNat * 2 ^ u / 2 ^ 64 : Nat) : Int) + q * 2 ^ u, ?_⟩
  have h5 : ((x.toInt + q * 18446744073709551616) * 2 ^ u : Int) = x.toInt * 2 ^ u + q * 2 ^ u * 18446744073709551616 := by grind
  rw [h5] at h3
  generalize x.toInt * 2 ^ u = X at *
  generalize q * 2 ^ u = Y at *
  generalize x.toBitVec.toNat * 2 ^ u = N at *
  omega
theorem fk_shrk (x : Int64) {u : Nat} (hu : u < 64) : (x >>> ((nI u).toInt64 &&& 63)).toInt = x.toInt / 2 ^ u := by
  rw [fk_shr u (fk_cnt u hu), fk_2n]
theorem fk_ushrk (x : Int64) {u : Nat} (hu : u < 64) : (x.toUInt64 >>> ((nI u).toInt64.toUInt64 &&& Int64.toUInt64 63)).toInt64.toInt % 18446744073709551616 = x.toInt % 18446744073709551616 / 2 ^ u := by
  have e : (x.toUInt64 >>> ((nI u).toInt64.toUInt64 &&& Int64.toUInt64 63)).toInt64.toBitVec.toNat = x.toBitVec.toNat / 2 ^ u := by
    show (x.toUInt64 >>> ((nI u).toInt64.toUInt64 &&& Int64.toUInt64 63)).toBitVec.toNat = _
    rw [UInt64.toBitVec_shiftRight, BitVec.ushiftRight_eq', fk_cntu u hu, BitVec.toNat_ushiftRight, Nat.shiftRight_eq_div_pow]; rfl
  rw [← fk_nat, ← fk_nat, e, Int.natCast_ediv, fk_2n]
theorem fk_emm (a b : Int) {c : Int} (hc : 0 < c) : a * c % (b * c) = (a % b) * c := by
  rw [Int.mul_comm a, Int.mul_comm b, Int.mul_emod_mul_of_pos _ _ hc, Int.mul_comm]
/-- left and back again with sign -/
theorem fk_bs (v : Int64) {w : Nat} (h8 : 1 ≤ w) (h64 : w ≤ 64) : ((v <<< ((nI (64 - w)).toInt64 &&& 63)) >>> ((nI (64 - w)).toInt64 &&& 63)).toInt = (v.toInt + 2 ^ (w - 1)) % 2 ^ w - 2 ^ (w - 1) := by
  rw [fk_shrk _ (by omega)]
  obtain ⟨z, hz⟩ := fk_shl v (u := 64 - w) (by omega)
  have hl := (v <<< ((nI (64 - w)).toInt64 &&& 63)).toInt_lt
  have hg := (v <<< ((nI (64 - w)).toInt64 &&& 63)).le_toInt
  generalize (v <<< ((nI (64 - w)).toInt64 &&& 63)).toInt = t at *
  have hc := fk_2p (64 - w)
  have hh := fk_2p (w - 1)
  have e1 : (2 : Int) ^ w = 2 * 2 ^ (w - 1) := fk_2h h8
  have e2 : (18446744073709551616 : Int) = 2 * 2 ^ (w - 1) * 2 ^ (64 - w) := by
    rw [← e1, ← fk_2a, show w + (64 - w) = 64 by omega]; decide
  have e3 : (9223372036854775808 : Int) = 2 ^ (w - 1) * 2 ^ (64 - w) := by
    rw [← fk_2a, show w - 1 + (64 - w) = 63 by omega]; decide
  rw [e1]
  generalize (2 : Int) ^ (w - 1) = h at *
  generalize (2 : Int) ^ (64 - w) = c at *
  have e4 : t + h * c = ((v.toInt + h) % (2 * h)) * c := by
    have a1 : ((v.toInt + h) % (2 * h)) * c = ((v.toInt + h) * c) % (2 * h * c) := (fk_emm _ _ hc).symm
    rw [a1]
    have a2 : (v.toInt + h) * c = (t + h * c) + (-z) * (2 * h * c) := by rw [hz, e2]; grind
    rw [a2, Int.add_mul_emod_self_right]
    exact (Int.emod_eq_of_lt (by omega) (by rw [← e2]; omega)).symm
  have e5 : t = ((v.toInt + h) % (2 * h) - h) * c := by rw [Int.sub_mul]; omega
  rw [e5, Int.mul_ediv_cancel _ (by omega)]
/-- left and back again without sign, as 64 bits -/
theorem fk_bu (v : Int64) {w : Nat} (h8 : 1 ≤ w) (h64 : w ≤ 64) : ((v <<< ((nI (64 - w)).toInt64 &&& 63)).toUInt64 >>> ((nI (64 - w)).toInt64.toUInt64 &&& Int64.toUInt64 63)).toInt64.toInt % 18446744073709551616 = v.toInt % 2 ^ w := by
  rw [fk_ushrk _ (by omega)]
  obtain ⟨z, hz⟩ := fk_shl v (u := 64 - w) (by omega)
  have hc := fk_2p (64 - w)
  have hw := fk_2p w
  have e2 : (18446744073709551616 : Int) = 2 ^ w * 2 ^ (64 - w) := by
    rw [← fk_2a, show w + (64 - w) = 64 by omega]; decide
  rw [hz, Int.add_mul_emod_self_right, e2, fk_emm _ _ hc, Int.mul_ediv_cancel _ (by omega)]
/-- an unsigned number below 2 ^ 63 is itself -/
theorem fk_small {x : Int64} {n : Int} (h : x.toInt % 18446744073709551616 = n) (h2 : n < 9223372036854775808) : x.toInt = n := by
  have := x.toInt_lt
  have := x.le_toInt
  omega
theorem fk_nIsub {a b : Nat} (h : b ≤ a) : nI a - nI b = nI (a - b) := pk_sub h
theorem fk_least_sh : ∀ w, w < 65 → 8 ≤ w → ((-1 : Int64) <<< ((nI (w - 1)).toInt64 &&& 63)).toInt = -(2 ^ (w - 1)) := by decide +kernel
theorem fk_most_un : ∀ w, w < 64 → 8 ≤ w → ((1 : Int64) <<< ((nI w).toInt64 &&& 63) - 1).toInt = 2 ^ w - 1 := by decide +kernel
theorem fk_not (x : Int64) : (x ^^^ (-1)).toInt = -x.toInt - 1 := by
  have e : x ^^^ (-1) = ~~~x := by
    apply Int64.toBitVec_inj.mp
    rw [Int64.toBitVec_xor, Int64.toBitVec_not, show (-1 : Int64).toBitVec = BitVec.allOnes 64 by decide, BitVec.xor_allOnes]
  have h1 := x.toInt_lt
  have h2 := x.le_toInt
  rw [e, Int64.toInt_not]
  exact Int.bmod_eq_of_le (by omega) (by omega)
theorem fk_lm {w : Nat} {sg : Int32} (h : fk_wd w sg) : fk_least w sg ≤ 0 ∧ 0 ≤ fk_most w sg ∧ -9223372036854775808 ≤ fk_least w sg ∧ fk_most w sg < 9223372036854775808 ∧ fk_most w sg - fk_least w sg = 2 ^ w - 1 := by
  obtain ⟨h8, h64, h01, hs⟩ := h
  have hp := fk_2p (w - 1)
  have hq := fk_2p w
  have e := fk_2h (w := w) (by omega)
  have m1 : (2 : Int) ^ (w - 1) ≤ 2 ^ 63 := by
    have : (2 : Int) ^ 63 = 2 ^ (w - 1) * 2 ^ (63 - (w - 1)) := by rw [← fk_2a]; congr 1; omega
    have k := fk_2p (63 - (w - 1))
    have : 2 ^ (w - 1) * 1 ≤ (2 : Int) ^ (w - 1) * 2 ^ (63 - (w - 1)) := Int.mul_le_mul_of_nonneg_left (by omega) (by omega)
    omega
  rw [fk_least, fk_most]
  by_cases q : sg = 0
  · rw [if_pos q, if_pos q]
    have hw : w ≤ 63 := by
      rcases Nat.lt_or_ge w 64 with a | a
      · omega
      · have := hs (by omega); rw [q] at this; exact absurd this (by decide)
    have m2 : (2 : Int) ^ w ≤ 2 ^ 63 := by
      have : (2 : Int) ^ 63 = 2 ^ w * 2 ^ (63 - w) := by rw [← fk_2a]; congr 1; omega
      have k := fk_2p (63 - w)
      have : 2 ^ w * 1 ≤ (2 : Int) ^ w * 2 ^ (63 - w) := Int.mul_le_mul_of_nonneg_left (by omega) (by omega)
      omega
    omega
  · rw [if_neg q, if_neg q]
    omega
theorem fk_bring_bd {w : Nat} {sg : Int32} (h : fk_wd w sg) (v : Int) : fk_least w sg ≤ fk_bring w sg v ∧ fk_bring w sg v ≤ fk_most w sg := by
  have hq := fk_2p w
  have e := fk_2h (w := w) (by have := h.1; omega)
  rw [fk_least, fk_most, fk_bring]
  by_cases q : sg = 0
  · rw [if_pos q, if_pos q, if_pos q]
    have := Int.emod_nonneg v (show (2 : Int) ^ w ≠ 0 by omega)
    have := Int.emod_lt_of_pos v hq
    omega
  · rw [if_neg q, if_neg q, if_neg q]
    have := Int.emod_nonneg (v + 2 ^ (w - 1)) (show (2 : Int) ^ w ≠ 0 by omega)
    have := Int.emod_lt_of_pos (v + 2 ^ (w - 1)) hq
    omega
