/-! Common divisors and lowest terms. -/
theorem fk_lrem {a b : Nat} (ha : a < 9223372036854775808) (h0 : 0 < b) (hb : b < 9223372036854775808) : lN a - lN a / lN b * lN b = lN (a % b) := pk_lRem (by omega) h0 (by omega)
theorem fk_eu {g l s : Nat} (hl : 0 < l) (hlg : l < g) (h : g * l * 2 ^ s ≤ 1000000) : l * (g % l) * 2 ^ (s + 1) ≤ 1000000 := by
  have h1 := Nat.mod_lt g hl
  have h2 : 2 * (g % l) ≤ g := by
    have := Nat.div_add_mod g l
    have h3 : 1 ≤ g / l := (Nat.one_le_div_iff hl).mpr (by omega)
    have : l * 1 ≤ l * (g / l) := Nat.mul_le_mul_left l h3
    omega
  have h4 : l * (g % l) * 2 ^ (s + 1) = l * (2 * (g % l)) * 2 ^ s := by rw [Nat.pow_succ]; grind
  rw [h4]
  have h5 : l * (2 * (g % l)) ≤ l * g := Nat.mul_le_mul_left l h2
  have h6 : l * (2 * (g % l)) * 2 ^ s ≤ l * g * 2 ^ s := Nat.mul_le_mul_right _ h5
  rw [Nat.mul_comm l g] at h6
  omega
theorem fk_eu64 {g l : Nat} (hl : 0 < l) (hlg : l < g) (h : g * l * 2 ^ 64 ≤ 1000000) : False := by
  have : 1 * 1 ≤ g * l := Nat.mul_le_mul (by omega) (by omega)
  omega
/-- the greatest common divisor of a numerator and a denominator above 0 -/
def fk_gc (a b : Int) : Int := ((Nat.gcd b.toNat (fk_abs a % b).toNat : Nat) : Int)
theorem fk_gc_bd (a : Int) {b : Int} (hb : 0 < b) : 1 ≤ fk_gc a b ∧ fk_gc a b ≤ b := by
  have h1 : 0 < Nat.gcd b.toNat (fk_abs a % b).toNat := Nat.gcd_pos_of_pos_left _ (by omega)
  have h2 : Nat.gcd b.toNat (fk_abs a % b).toNat ≤ b.toNat := Nat.gcd_le_left _ (by omega)
  rw [fk_gc]
  omega
theorem fk_abs_bd {a A : Int} (h1 : -A ≤ a) (h2 : a ≤ A) : 0 ≤ fk_abs a ∧ fk_abs a ≤ A := by
  rw [fk_abs]; split <;> omega
