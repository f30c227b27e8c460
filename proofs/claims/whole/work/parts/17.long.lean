/-! Long division: the guess from three limbs over two, and a step of it. -/
theorem fk_gd {x y : Int} {f o : Nat → Int64} {n sh : Nat} (hR : fk_R x f) (hx0 : 0 ≤ x) (hI : fk_In x) (hRo : fk_R y o) (hy0 : 0 < y) (hIy : fk_In y) (hs : fk_Sz (fk_I o) n) (hn1 : n ≠ 0) (hns : n + sh ≤ 12) (hxy : x < y * 65536 ^ sh * 65536) :
    65536 ≤ (fk_lb o ((n : Int) - 1)).toInt * 65536 + (fk_lb o ((n : Int) - 2)).toInt ∧
    x / (y * 65536 ^ sh) ≤ (((fk_lb f ((n + sh : Nat) : Int)).toInt * 65536 + (fk_lb f (((n + sh : Nat) : Int) - 1)).toInt) * 65536 + (fk_lb f (((n + sh : Nat) : Int) - 2)).toInt) / ((fk_lb o ((n : Int) - 1)).toInt * 65536 + (fk_lb o ((n : Int) - 2)).toInt) ∧
    (((fk_lb f ((n + sh : Nat) : Int)).toInt * 65536 + (fk_lb f (((n + sh : Nat) : Int) - 1)).toInt) * 65536 + (fk_lb f (((n + sh : Nat) : Int) - 2)).toInt) / ((fk_lb o ((n : Int) - 1)).toInt * 65536 + (fk_lb o ((n : Int) - 2)).toInt) ≤ x / (y * 65536 ^ sh) + 1 := by
  have i1 : (fk_lb o ((n : Int) - 1)).toInt = fk_e o (n - 1) := by rw [fk_e]; congr 2; omega
  have i2 : (fk_lb f (((n + sh : Nat) : Int) - 1)).toInt = fk_e f (n + sh - 1) := by rw [fk_e]; congr 2; omega
  have i3 : (fk_lb f ((n + sh : Nat) : Int)).toInt = fk_e f (n + sh) := rfl
  have hyT12 : fk_T (fk_e o) 12 = y := fk_e_T hRo (by omega) hIy 12 (Nat.le_refl _)
  have hyT : fk_T (fk_e o) n = y := by
    rw [← hyT12]
    exact (fk_T_trunc hs.1 (fun j h1 h2 => by rw [fk_e_in h2]; exact hs.2.1 j h1 h2)).symm
  have hyB : y < 65536 ^ n := by rw [← hyT]; exact (fk_T_bd (fun i _ => fk_e_bd hRo i)).2
  have hp := fk_pp sh
  have hxB : x < 65536 ^ (n + sh + 1) := by
    have a1 : y * 65536 ^ sh ≤ 65536 ^ n * 65536 ^ sh := Int.mul_le_mul_of_nonneg_right (by omega) (by omega)
    rw [Int.pow_succ, Int.pow_add]
    omega
  have hxT : fk_T (fk_e f) (n + sh + 1) = x := by
    have q := fk_e_T hR hx0 hI 13 (by omega)
    rw [← q]
    exact (fk_high (fk_e_bd hR) (by rw [q]; exact hxB) (by omega)).symm
  obtain ⟨l2, e2, h3, h4⟩ := fk_top2 hRo (k := n) (by omega)
  obtain ⟨l1, e1, h1, h2⟩ := fk_top2 hR (k := n + sh) (by omega)
  rw [hyT] at e2
  have hpw : (65536 : Int) ^ (n + sh - 1) = 65536 ^ (n - 1) * 65536 ^ sh := by rw [← Int.pow_add]; congr 1; omega
  have hpw2 : (65536 : Int) ^ (n + sh) = 65536 ^ (n - 1) * 65536 ^ sh * 65536 := by rw [← hpw, ← Int.pow_succ]; congr 1; omega
  have e3 : x * 65536 = ((fk_e f (n + sh) * 65536 + fk_e f (n + sh - 1)) * 65536 + (fk_lb f (((n + sh : Nat) : Int) - 2)).toInt) * (65536 ^ (n - 1) * 65536 ^ sh) + l1 := by
    rw [← hxT, fk_T, Int.add_mul, e1, hpw2, hpw]
    grind
  rw [i1, i2, i3]
  have hO : 65536 ≤ fk_e o (n - 1) * 65536 + (fk_lb o ((n : Int) - 2)).toInt := by
    have b1 := fk_e_bd hRo (n - 1)
    have b2 := fk_lb_bd hRo ((n : Int) - 2)
    have hne : fk_e o (n - 1) ≠ 0 := by
      rw [fk_e_in (by have := hs.1; omega)]
      rcases hs.2.2 with q | q
      · exact absurd q hn1
      · exact q
    omega
  refine ⟨hO, ?_⟩
  exact fk_guess (fk_pp (n - 1)) hp hy0 e3 h1 (by rw [← hpw]; exact h2) e2 h3 h4 hO rfl hx0 hxy
/-- the guess was the digit: what remains is there -/
theorem fk_d1 {u c1 M r q z Z : Int} (hu : 0 ≤ u) (hz : 0 ≤ z) (hzM : z < M) (hZ : 0 < Z) (e : u + c1 * M = z + -r * Z) (hq : q = z / Z) (hr : q ≤ r) (hr2 : r ≤ q + 1) (hc : 0 ≤ c1) (huM : u < M) : r = q ∧ u = z - q * Z := by
  have a1 := Int.mul_ediv_add_emod z Z
  have a2 := Int.emod_nonneg z (show Z ≠ 0 by omega)
  have a3 := Int.emod_lt_of_pos z hZ
  rw [← hq] at a1
  have hM : 0 < M := by omega
  have b1 : 0 ≤ c1 * M := Int.mul_nonneg hc (by omega)
  have hrq : r = q := by
    rcases Int.lt_or_le q r with h | h
    · have : r = q + 1 := by omega
      subst this
      have : -(q + 1) * Z = -(Z * q) - Z := by grind
      omega
    · omega
  subst hrq
  refine ⟨rfl, ?_⟩
  have e2 : -r * Z = -(Z * r) := by grind
  have e3 : r * Z = Z * r := Int.mul_comm _ _
  have hc0 : c1 = 0 := by
    rcases Int.lt_or_le 0 c1 with h | h
    · have : 1 * M ≤ c1 * M := Int.mul_le_mul_of_nonneg_right (by omega) (by omega)
      have : 0 ≤ r := by rw [hq]; exact Int.ediv_nonneg hz (by omega)
      have : 0 ≤ Z * r := Int.mul_nonneg (by omega) this
      omega
    · omega
  rw [hc0] at e
  omega
/-- the guess was one too great, and the divisor was added again -/
theorem fk_d2 {u u2 c1 c2 M r q z Z : Int} (hz : 0 ≤ z) (hzM : z < M) (hZ : 0 < Z) (hZM : Z ≤ M) (hu : 0 ≤ u) (huM : u < M) (e : u + c1 * M = z + -r * Z) (hq : q = z / Z) (hr : q ≤ r) (hr2 : r ≤ q + 1) (hc : c1 < 0) (hu2 : 0 ≤ u2) (hu2M : u2 < M) (e2 : u2 + c2 * M = u + 1 * Z) : r - 1 = q ∧ u2 = z - q * Z := by
  have a1 := Int.mul_ediv_add_emod z Z
  have a2 := Int.emod_nonneg z (show Z ≠ 0 by omega)
  have a3 := Int.emod_lt_of_pos z hZ
  rw [← hq] at a1
  have hM : 0 < M := by omega
  have hrq : r = q + 1 := by
    rcases Int.lt_or_le q r with h | h
    · omega
    · have : r = q := by omega
      subst this
      have b1 : c1 * M ≤ (-1) * M := Int.mul_le_mul_of_nonneg_right (by omega) (by omega)
      have : -r * Z = -(Z * r) := by grind
      omega
  subst hrq
  refine ⟨by omega, ?_⟩
  have e3 : -(q + 1) * Z = -(Z * q) - Z := by grind
  have e4 : q * Z = Z * q := Int.mul_comm _ _
  have e5 : (c1 + c2) * M = c1 * M + c2 * M := Int.add_mul _ _ _
  have e6 : u2 + (c1 + c2) * M = z - q * Z := by omega
  have e7 := fk_mod hu2 hu2M e6
  rw [← e7]
  exact Int.emod_eq_of_lt (by omega) (by omega)
theorem fk_T_upd {w : Nat → Int64} {d : Int64} {sh : Nat} (hw : fk_I w sh = 0) (n : Nat) (hn : sh < n) : fk_T (fk_I (vp_updL w sh d)) n = fk_T (fk_I w) n + d.toInt * 65536 ^ sh := by
  induction n with
  | zero => omega
  | succ n ih =>
    rw [fk_T, fk_T]
    by_cases q : n = sh
    · subst q
      rw [fk_T_congr (u := fk_I w) (fun i hi => by rw [fk_I, fk_I, pk_uLn (by omega)]), hw, fk_I, pk_uLs]
      omega
    · rw [ih (by omega), fk_I_def (vp_updL w sh d), pk_uLn q, ← fk_I_def]
      omega
theorem fk_dstep {x y z : Int} {w : Nat → Int64} {d : Int64} {sh : Nat} (hsh : sh < 12) (hy : 0 < y) (hz0 : 0 ≤ z) (hI : fk_In z) (hzk : z < y * 65536 ^ (sh + 1)) (hwN : fk_N (fk_I w) 12) (hw0 : ∀ j, j < sh + 1 → fk_I w j = 0) (hsum : x = z + y * fk_T (fk_I w) 12) (hd : d.toInt = z / (y * 65536 ^ sh)) :
    0 ≤ z - z / (y * 65536 ^ sh) * (y * 65536 ^ sh) ∧ fk_In (z - z / (y * 65536 ^ sh) * (y * 65536 ^ sh)) ∧ z - z / (y * 65536 ^ sh) * (y * 65536 ^ sh) < y * 65536 ^ sh ∧ fk_N (fk_I (vp_updL w sh d)) 12 ∧ (∀ j, j < sh → fk_I (vp_updL w sh d) j = 0) ∧ x = z - z / (y * 65536 ^ sh) * (y * 65536 ^ sh) + y * fk_T (fk_I (vp_updL w sh d)) 12 := by
  have hZ : 0 < y * 65536 ^ sh := Int.mul_pos hy (fk_pp sh)
  have a1 := Int.mul_ediv_add_emod z (y * 65536 ^ sh)
  have a2 := Int.emod_nonneg z (show y * 65536 ^ sh ≠ 0 by omega)
  have a3 := Int.emod_lt_of_pos z hZ
  have a4 : z / (y * 65536 ^ sh) * (y * 65536 ^ sh) = y * 65536 ^ sh * (z / (y * 65536 ^ sh)) := Int.mul_comm _ _
  have q0 : 0 ≤ z / (y * 65536 ^ sh) := Int.ediv_nonneg hz0 (by omega)
  have q1 : z / (y * 65536 ^ sh) < 65536 := by
    rw [Int.ediv_lt_iff_lt_mul hZ]
    rw [Int.pow_succ] at hzk
    have : 65536 * (y * 65536 ^ sh) = y * (65536 ^ sh * 65536) := by grind
    omega
  have q2 : 0 ≤ z / (y * 65536 ^ sh) * (y * 65536 ^ sh) := Int.mul_nonneg q0 (by omega)
  obtain ⟨i1, i2⟩ := hI
  refine ⟨by omega, ⟨by omega, by omega⟩, by omega, fun j hj => ?_, fun j hj => ?_, ?_⟩
  · by_cases q : j = sh
    · subst q; rw [fk_I, pk_uLs, hd]; exact ⟨q0, q1⟩
    · rw [fk_I, pk_uLn q]; exact hwN j hj
  · rw [fk_I, pk_uLn (by omega)]; exact hw0 j (by omega)
  · rw [fk_T_upd (hw0 sh (by omega)) 12 hsh, hd, hsum]
    grind
theorem fk_dend {x y z : Int} {g w : Nat → Int64} (hy : 0 < y) (hz0 : 0 ≤ z) (hzk : z < y) (hR : fk_R z g) (hwN : fk_N (fk_I w) 12) (hsum : x = z + y * fk_T (fk_I w) 12) : fk_R (x % y) g ∧ fk_R (x / y) w := by
  have e1 : x % y = z := by rw [hsum, Int.add_mul_emod_self_left]; exact Int.emod_eq_of_lt hz0 hzk
  have e2 : x / y = fk_T (fk_I w) 12 := by rw [hsum, Int.add_mul_ediv_left _ _ (by omega), Int.ediv_eq_zero_of_lt hz0 hzk]; simp
  exact ⟨by rw [e1]; exact hR, fk_R_of hwN e2.symm⟩
/-- the same, of limbs that may fill all twelve -/
theorem fk_as2 {x Y : Int} {f o g : Nat → Int64} {n sh m : Nat} {k c : Int} (hf : fk_N (fk_I f) 12) (hfx : fk_T (fk_I f) 12 = x) (hx : x < 65536 ^ m) (hRo : fk_R Y o) (hY : 0 ≤ Y) (hIY : fk_In Y) (hs : fk_Sz (fk_I o) n) (hm : m ≤ 12) (hm1 : n + sh ≤ m) (hC : fk_C (fk_at f o sh k) 0 m g c) (hg : ∀ j, m ≤ j → g j = f j) : fk_N (fk_I g) 12 ∧ fk_T (fk_I g) 12 + c * 65536 ^ m = x + k * (Y * 65536 ^ sh) ∧ fk_T (fk_I g) 12 < 65536 ^ m := by
  have hR : fk_R x f := fk_R_of hf hfx
  have hz : ∀ j, m ≤ j → j < 12 → fk_I f j = 0 := fun j h1 h2 => by
    rw [← fk_e_in h2]
    exact fk_high0 (fk_e_bd hR) (n := 12) (k := m) (by rw [fk_T_congr (fun i hi => fk_e_in hi), hfx]; exact hx) h1 h2
  have hgz : ∀ j, m ≤ j → j < 12 → fk_I g j = 0 := fun j h1 h2 => by rw [fk_I, hg j h1]; exact hz j h1 h2
  have hfm : fk_T (fk_I f) m = x := by rw [← hfx]; exact (fk_T_trunc hm hz).symm
  have hgm : fk_T (fk_I g) 12 = fk_T (fk_I g) m := fk_T_trunc hm hgz
  have e := fk_at_T f o sh k (m - sh)
  rw [show sh + (m - sh) = m by omega] at e
  have eo : fk_T (fk_e o) (m - sh) = Y := by
    have q := fk_e_T hRo hY hIY 12 (Nat.le_refl _)
    rw [← q]
    refine (fk_T_trunc (t := fk_e o) (by omega) (fun j h1 h2 => ?_)).symm
    rw [fk_e_in h2]
    exact hs.2.1 j (by omega) h2
  rw [eo, hfm] at e
  have hN : fk_N (fk_I g) 12 := fun i hi => by
    rcases Nat.lt_or_ge i m with q | q
    · exact hC.1 i q
    · rw [hgz i q hi]; decide
  refine ⟨hN, ?_, ?_⟩
  · rw [hgm, hC.2, e]; grind
  · rw [hgm]; exact (fk_T_bd hC.1).2
