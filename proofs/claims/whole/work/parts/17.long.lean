/-! Long division: the guess from three limbs over two, and a step of it. -/
theorem fk_gd {x y : Int} {f o : Nat → Int64} {n sh : Nat} (hR : fk_R x f) (hx0 : 0 ≤ x) (hI : fk_In x) (hRo : fk_R y o) (hy0 : 0 < y) (hIy : fk_In y) (hs : fk_Sz (fk_I o) n) (hn1 : n ≠ 0) (hns : n + sh ≤ 12) (hxy : x < y * 65536 ^ sh * 65536) :
    65536 ≤ (fk_lb o ((n : Int) - 1)).toInt * 65536 + (fk_lb o ((n : Int) - 2)).toInt ∧
    x / (y * 65536 ^ sh) ≤ (((fk_lb f ((n + sh : Nat) : Int)).toInt * 65536 + (fk_lb f (((n + sh : Nat) : Int) - 1)).toInt) * 65536 + (fk_lb f (((n + sh : Nat) : Int) - 2)).toInt) / ((fk_lb o ((n : Int) - 1)).toInt * 65536 + (fk_lb o ((n : Int) - 2)).toInt) ∧
    (((fk_lb f ((n + sh : Nat) : Int)).toInt * 65536 + (fk_lb f (((n + sh : Nat) : Int) - 1)).toInt) * 65536 + (fk_lb f (((n + sh : Nat) : Int) - 2)).toInt) / ((fk_lb o ((n : Int) - 1)).toInt * 65536 + (fk_lb o ((n : Int) - 2)).toInt) ≤ x / (y * 65536 ^ sh) + 1 := by
  have i1 : (fk_lb o ((n : Int) - 1)).toInt = fk_e o (n - 1) := by rw [fk_e]; congr 2; omega
  have i2 : (fk_lb f (((n + sh : Nat) : Int) - 1)).toInt = fk_e f (n + sh - 1) := by rw [fk_e]; congr 2; omega
  have i3 : (fk_lb f ((n + sh : Nat) : Int)).toInt = fk_e f (n + sh) := rfl
  have hyT12 : fk_T (fk_e o) 12 = y := fk_e_T hRo (by omega) hIy 12 (Nat.le_refl _)
  have hyT : fk_T (fk_e o) n = y := by
    rw [← hyT12]
    exact (fk_T_trunc hs.1 (fun j h1 h2 => by rw [fk_e_in h2]; exact hs.2.1 j h1 h2)).symm
  have hyB : y < 65536 ^ n := by rw [← hyT]; exact (fk_T_bd (fun i _ => fk_e_bd hRo i)).2
  have hp := fk_pp sh
  have hxB : x < 65536 ^ (n + sh + 1) := by
    have a1 : y * 65536 ^ sh ≤ 65536 ^ n * 65536 ^ sh := Int.mul_le_mul_of_nonneg_right (by omega) (by omega)
    rw [Int.pow_succ, Int.pow_add]
    omega
  have hxT : fk_T (fk_e f) (n + sh + 1) = x := by
    have q := fk_e_T hR hx0 hI 13 (by omega)
    rw [← q]
    exact (fk_high (fk_e_bd hR) (by rw [q]; exact hxB) (by omega)).symm
  obtain ⟨l2, e2, h3, h4⟩ := fk_top2 hRo (k := n) (by omega)
  obtain ⟨l1, e1, h1, h2⟩ := fk_top2 hR (k := n + sh) (by omega)
  rw [hyT] at e2
  have hpw : (65536 : Int) ^ (n + sh - 1) = 65536 ^ (n - 1) * 65536 ^ sh := by rw [← Int.pow_add]; congr 1; omega
  have hpw2 : (65536 : Int) ^ (n + sh) = 65536 ^ (n - 1) * 65536 ^ sh * 65536 := by rw [← hpw, ← Int.pow_succ]; congr 1; omega
  have e3 : x * 65536 = ((fk_e f (n + sh) * 65536 + fk_e f (n + sh - 1)) * 65536 + (fk_lb f (((n + sh : Nat) : Int) - 2)).toInt) * (65536 ^ (n - 1) * 65536 ^ sh) + l1 := by
    rw [← hxT, fk_T, Int.add_mul, e1, hpw2, hpw]
    grind
  rw [i1, i2, i3]
  have hO : 65536 ≤ fk_e o (n - 1) * 65536 + (fk_lb o ((n : Int) - 2)).toInt := by
    have b1 := fk_e_bd hRo (n - 1)
    have b2 := fk_lb_bd hRo ((n : Int) - 2)
    have hne : fk_e o (n - 1) ≠ 0 := by
      rw [fk_e_in (by have := hs.1; omega)]
      rcases hs.2.2 with q | q
      · exact absurd q hn1
      · exact q
    omega
  refine ⟨hO, ?_⟩
  exact fk_guess (fk_pp (n - 1)) hp hy0 e3 h1 (by rw [← hpw]; exact h2) e2 h3 h4 hO rfl hx0 hxy
/-- the guess was the digit: what remains is there -/
theorem fk_d1 {u c1 M r q z Z : Int} (hu : 0 ≤ u) (hz : 0 ≤ z) (hzM : z < M) (hZ : 0 < Z) (e : u + c1 * M = z + -r * Z) (hq : q = z / Z) (hr : q ≤ r) (hr2 : r ≤ q + 1) (hc : 0 ≤ c1) (huM : u < M) : r = q ∧ u = z - q * Z := by
  have a1 := Int.mul_ediv_add_emod z Z
  have a2 := Int.emod_nonneg z (show Z ≠ 0 by omega)
  have a3 := Int.emod_lt_of_pos z hZ
  rw [← hq] at a1
  have hM : 0 < M := by omega
  have b1 : 0 ≤ c1 * M := Int.mul_nonneg hc (by omega)
  have hrq : r = q := by
    rcases Int.lt_or_le q r with h | h
    · have : r = q + 1 := by omega
      subst this
      have : -(q + 1) * Z = -(Z * q) - Z := by grind
      omega
    · omega
  subst hrq
  refine ⟨rfl, ?_⟩
  have e2 : -r * Z = -(Z * r) := by grind
  have e3 : r * Z = Z * r := Int.mul_comm _ _
  have hc0 : c1 = 0 := by
    rcases Int.lt_or_le 0 c1 with h | h
    · have : 1 * M ≤ c1 * M := Int.mul_le_mul_of_nonneg_right (by omega) (by omega)
      have : 0 ≤ r := by rw [hq]; exact Int.ediv_nonneg hz (by omega)
      have : 0 ≤ Z * r := Int.mul_nonneg (by omega) this
      omega
    · omega
  rw [hc0] at e
  omega
/-- the guess was one too great, and the divisor was added again -/
theorem fk_d2 {u u2 c1 c2 M r q z Z : Int} (hz : 0 ≤ z) (hzM : z < M) (hZ : 0 < Z) (hZM : Z ≤ M) (hu : 0 ≤ u) (huM : u < M) (e : u + c1 * M = z + -r * Z) (hq : q = z / Z) (hr : q ≤ r) (hr2 : r ≤ q + 1) (hc : c1 < 0) (hu2 : 0 ≤ u2) (hu2M : u2 < M) (e2 : u2 + c2 * M = u + 1 * Z) : r - 1 = q ∧ u2 = z - q * Z := by
  have a1 := Int.mul_ediv_add_emod z Z
  have a2 := Int.emod_nonneg z (show Z ≠ 0 by omega)
  have a3 := Int.emod_lt_of_pos z hZ
  rw [← hq] at a1
  have hM : 0 < M := by omega
  have hrq : r = q + 1 := by
    rcases Int.lt_or_le q r with h | h
    · omega
    · have : r = q := by omega
      subst this
      have b1 : c1 * M ≤ (-1) * M := Int.mul_le_mul_of_nonneg_right (by omega) (by omega)
      have : -r * Z = -(Z * r) := by grind
      omega
  subst hrq
  refine ⟨by omega, ?_⟩
  have e3 : -(q + 1) * Z = -(Z * q) - Z := by grind
  have e4 : q * Z = Z * q := Int.mul_comm _ _
  have e5 : (c1 + c2) * M = c1 * M + c2 * M := Int.add_mul _ _ _
  have e6 : u2 + (c1 + c2) * M = z - q * Z := by omega
  have e7 := fk_mod hu2 hu2M e6
  rw [← e7]
  exact Int.emod_eq_of_lt (by omega) (by omega)
