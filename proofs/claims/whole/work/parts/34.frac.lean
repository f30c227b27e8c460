/-! Fractions: a kind's value, rounding; the cells of a FixedKinds. -/
theorem fk_R_T {x : Int} {f : Nat → Int64} (h : fk_R x f) : fk_T (fk_I f) 12 % 65536 ^ 12 = x % 65536 ^ 12 := by
  rw [h.2, Int.emod_emod_of_dvd _ (Int.dvd_refl _)]
theorem fk_R_F {x : Int} {f : Nat → Int64} (h : fk_R x f) : ∀ i, i < 12 → 0 ≤ (f i).toInt ∧ (f i).toInt < 1099511627776 := fun i hi => by
  have q := h.1 i hi
  rw [fk_I_def] at q
  omega
/-- a kind's numbers are such as the document allows -/
def fk_kd (w : Nat) (sg : Int32) (up dn of : Int64) : Prop := fk_wd w sg ∧ (1 ≤ up.toInt ∧ up.toInt ≤ 1000) ∧ (1 ≤ dn.toInt ∧ dn.toInt ≤ 1000) ∧ (-1000000 ≤ of.toInt ∧ of.toInt ≤ 1000000)
/-- a value's numerator, over the kind's 'down' -/
def fk_vn (w : Nat) (sg : Int32) (up dn of v : Int64) : Int := fk_bring w sg v.toInt * up.toInt + of.toInt * dn.toInt
theorem fk_pbd {a b A B : Int} (h1 : -A ≤ a) (h2 : a ≤ A) (h3 : -B ≤ b) (h4 : b ≤ B) (hA : 0 ≤ A) : -(A * B) ≤ a * b ∧ a * b ≤ A * B := by
  have hB : 0 ≤ B := by omega
  rcases Int.le_total 0 a with q | q
  · have a1 : a * b ≤ a * B := Int.mul_le_mul_of_nonneg_left h4 q
    have a2 : a * B ≤ A * B := Int.mul_le_mul_of_nonneg_right h2 hB
    have a3 : a * (-B) ≤ a * b := Int.mul_le_mul_of_nonneg_left h3 q
    have a4 : a * (-B) = -(a * B) := Int.mul_neg _ _
    omega
  · have a1 : (-a) * b ≤ (-a) * B := Int.mul_le_mul_of_nonneg_left h4 (by omega)
    have a2 : (-a) * B ≤ A * B := Int.mul_le_mul_of_nonneg_right (by omega) hB
    have a3 : (-a) * (-B) ≤ (-a) * b := Int.mul_le_mul_of_nonneg_left h3 (by omega)
    have a4 : (-a) * (-B) = -((-a) * B) := Int.mul_neg _ _
    have a5 : (-a) * b = -(a * b) := Int.neg_mul _ _
    omega
theorem fk_vn_bd {w : Nat} {sg : Int32} {up dn of : Int64} (h : fk_kd w sg up dn of) (v : Int64) : -18889465931478580854784 ≤ fk_vn w sg up dn of v ∧ fk_vn w sg up dn of v ≤ 18889465931478580854784 := by
  obtain ⟨hw, hu, hd, ho⟩ := h
  have b1 := fk_bring_bd hw v.toInt
  have b2 := fk_lm hw
  have c1 := fk_pbd (a := fk_bring w sg v.toInt) (b := up.toInt) (A := 9223372036854775808) (B := 1000) (by omega) (by omega) (by omega) (by omega) (by omega)
  have c2 := fk_pbd (a := of.toInt) (b := dn.toInt) (A := 1000000) (B := 1000) (by omega) (by omega) (by omega) (by omega) (by omega)
  rw [fk_vn]
  omega
def fk_abs (a : Int) : Int := if a < 0 then -a else a
/-- whether what remains takes a number one step away from 0: 0 or 1 -/
def fk_aw (rd neg od : Int32) (r b : Int) : Int32 := if rd = 0 then 0 else if rd = 1 then neg else if 2 * r - b = 0 then (if rd = 2 ∨ od ≠ 0 then 1 else 0) else if 2 * r - b < 0 then 0 else 1
def fk_up (rd : Int32) (a b : Int) : Int32 := if a % b = 0 then 0 else fk_aw rd (if a < 0 then 1 else 0) (if fk_abs a / b % 2 = 0 then 0 else 1) (fk_abs a % b) b
/-- a / b rounded to a whole number by rule rd -/
def fk_round (rd : Int32) (a b : Int) : Int := (fk_abs a / b + (fk_up rd a b).toInt) * (if a < 0 then -1 else 1)
theorem fk_abs_mod (a : Int) {b : Int} (hb : 0 < b) : fk_abs a % b = 0 ↔ a % b = 0 := by
  rw [fk_abs]
  split
  · rw [← Int.dvd_iff_emod_eq_zero, ← Int.dvd_iff_emod_eq_zero, Int.dvd_neg]
  · exact Iff.rfl
/-- the cells of a FixedKinds, in the order in which its constructor makes them -/
abbrev fk_wx (cJ cC cK : ClassId) (ad : Nat → Nat) (kd : Nat → Option Nat) (kc lo : Int32) (ch : Nat → Int32) (ts : Int32) (f1 f2 f3 f4 f5 : Nat → Int64) : va_W :=
  [(ad 0, .inr (4, [.ref (ad 1), .int kc, .int lo, .ref (ad 2), .int ts, .ref (ad 3), .ref (ad 8), .ref (ad 13)])), (ad 1, .inl (cK, 40, .inr (.inr (.inr (.inr kd))))), (ad 2, .inl (cC, 40, .inl ch)),
   (ad 3, .inr (1, [.ref (ad 4), .ref (ad 6)])), (ad 4, .inr (3, [.ref (ad 5)])), (ad 5, .inl (cJ, 12, .inr (.inl f1))), (ad 6, .inr (3, [.ref (ad 7)])), (ad 7, .inl (cJ, 12, .inr (.inl f2))),
   (ad 8, .inr (1, [.ref (ad 9), .ref (ad 11)])), (ad 9, .inr (3, [.ref (ad 10)])), (ad 10, .inl (cJ, 12, .inr (.inl f3))), (ad 11, .inr (3, [.ref (ad 12)])), (ad 12, .inl (cJ, 12, .inr (.inl f4))),
   (ad 13, .inr (3, [.ref (ad 14)])), (ad 14, .inl (cJ, 12, .inr (.inl f5)))]
