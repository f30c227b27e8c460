/-! Signs, digits, sizes, short and long division in limbs. -/
theorem fk_p11 : (65536 : Int) ^ 11 = 95780971304118053647396689196894323976171195136475136 := by decide
theorem fk_p12 : (65536 : Int) ^ 12 = 6277101735386680763835789423207666416102355444464034512896 := by decide
def fk_In (x : Int) : Prop := -3138550867693340381917894711603833208051177722232017256448 ≤ x ∧ x < 3138550867693340381917894711603833208051177722232017256448
theorem fk_R_set {v c : Int} {g : Nat → Int64} (h : fk_C (fun _ => 0) v 12 g c) : fk_R v g := by
  refine ⟨h.1, ?_⟩
  rw [fk_C_end h, fk_T_zero (fun _ _ => rfl), Int.add_zero]
theorem fk_R_val {x : Int} {f : Nat → Int64} (h : fk_R x f) (h0 : 0 ≤ x) (hi : fk_In x) : fk_T (fk_I f) 12 = x := by
  rw [h.2, fk_p12]
  obtain ⟨h1, h2⟩ := hi
  omega
theorem fk_R_of {x : Int} {f : Nat → Int64} (hn : fk_N (fk_I f) 12) (e : fk_T (fk_I f) 12 = x) : fk_R x f := by
  refine ⟨hn, ?_⟩
  obtain ⟨h1, h2⟩ := fk_T_bd hn
  rw [← e]
  exact (Int.emod_eq_of_lt h1 h2).symm
theorem fk_R_neg {x : Int} {f : Nat → Int64} (h : fk_R x f) (hi : fk_In x) : x < 0 ↔ 32768 ≤ (f 11).toInt := by
  obtain ⟨b1, b2⟩ := fk_T_bd (t := fk_I f) (n := 11) (fun i hi => h.1 i (by omega))
  have e : fk_T (fk_I f) 12 = fk_T (fk_I f) 11 + fk_I f 11 * 65536 ^ 11 := rfl
  obtain ⟨c1, c2⟩ := h.1 11 (by omega)
  obtain ⟨h1, h2⟩ := hi
  rw [h.2, fk_p11, fk_p12] at e
  rw [fk_p11] at b2
  rw [fk_I_def] at e c1 c2
  omega
theorem fk_R_odd {x : Int} {f : Nat → Int64} (h : fk_R x f) : x % 2 = (f 0).toInt % 2 := by
  have e := fk_T_low (fk_I f) 11
  rw [h.2, fk_p12, fk_I_def] at e
  omega
theorem fk_T_trunc {t : Nat → Int} {s n : Nat} (hs : s ≤ n) (h : ∀ j, s ≤ j → j < n → t j = 0) : fk_T t n = fk_T t s := by
  have e := fk_T_split t s (n - s)
  rw [show s + (n - s) = n by omega, fk_T_zero (t := fun i => t (s + i)) (fun i hi => h (s + i) (by omega) (by omega))] at e
  rw [e]; simp
/-- how many limbs there are up to the highest one that is not 0 -/
def fk_Sz (t : Nat → Int) (s : Nat) : Prop := s ≤ 12 ∧ (∀ j, s ≤ j → j < 12 → t j = 0) ∧ (s = 0 ∨ t (s - 1) ≠ 0)
theorem fk_Sz_bd {t : Nat → Int} {s : Nat} (hn : fk_N t 12) (h : fk_Sz t s) : fk_T t 12 < 65536 ^ s ∧ (s ≠ 0 → 65536 ^ (s - 1) ≤ fk_T t 12) := by
  obtain ⟨h1, h2, h3⟩ := h
  rw [fk_T_trunc h1 h2]
  refine ⟨(fk_T_bd (fun i hi => hn i (by omega))).2, fun hs => ?_⟩
  obtain ⟨k, rfl⟩ : ∃ k, s = k + 1 := ⟨s - 1, by omega⟩
  have hk : t k ≠ 0 := by simpa using h3
  obtain ⟨b1, b2⟩ := hn k (by omega)
  have hp := fk_pp k
  have : 1 * 65536 ^ k ≤ t k * 65536 ^ k := Int.mul_le_mul_of_nonneg_right (by omega) (by omega)
  have := (fk_T_bd (t := t) (n := k) (fun i hi => hn i (by omega))).1
  rw [fk_T, Nat.add_sub_cancel]
  omega
theorem fk_Sz_zero {x : Int} {f : Nat → Int64} {s : Nat} (h : fk_R x f) (hi : fk_In x) (hs : fk_Sz (fk_I f) s) : x = 0 ↔ s = 0 := by
  obtain ⟨b1, b2⟩ := fk_Sz_bd h.1 hs
  obtain ⟨h1, h2⟩ := hi
  rw [h.2, fk_p12] at b1 b2
  constructor
  · intro hx
    subst hx
    rcases Nat.eq_zero_or_pos s with q | q
    · exact q
    · have := b2 (by omega)
      have := fk_pp (s - 1)
      omega
  · intro hx
    subst hx
    simp only [Int.pow_zero] at b1
    omega
theorem fk_uniq {t u : Nat → Int} (n : Nat) : ∀ (t u : Nat → Int), fk_N t n → fk_N u n → fk_T t n = fk_T u n → ∀ i, i < n → t i = u i := by
  induction n with
  | zero => intro t u _ _ _ i hi; omega
  | succ n ih =>
    intro t u ht hu e i hi
    rw [fk_T_low, fk_T_low] at e
    obtain ⟨a1, a2⟩ := ht 0 (by omega)
    obtain ⟨b1, b2⟩ := hu 0 (by omega)
    have e0 : t 0 = u 0 := by omega
    have e1 : fk_T (fun i => t (i + 1)) n = fk_T (fun i => u (i + 1)) n := by omega
    cases i with
    | zero => exact e0
    | succ i => exact ih (fun i => t (i + 1)) (fun i => u (i + 1)) (fun j hj => ht (j + 1) (by omega)) (fun j hj => hu (j + 1) (by omega)) e1 i (by omega)
/-- the limbs of a whole number -/
def fk_dg (y : Int) (i : Nat) : Int := y / 65536 ^ i % 65536
theorem fk_dg_T (y : Int) (n : Nat) : fk_T (fk_dg y) n = y % 65536 ^ n := by
  have key : ∀ n, fk_T (fk_dg y) n + y / 65536 ^ n * 65536 ^ n = y := by
    intro n
    induction n with
    | zero => simp [fk_T]
    | succ n ih =>
      rw [fk_T, fk_dg, Int.pow_succ, ← Int.ediv_ediv_of_nonneg (Int.le_of_lt (fk_pp n))]
      have h3 : y / 65536 ^ n % 65536 = y / 65536 ^ n - 65536 * (y / 65536 ^ n / 65536) := by omega
      rw [h3]
      grind
  have hb := fk_T_bd (t := fk_dg y) (n := n) (fun i _ => by rw [fk_dg]; omega)
  exact (fk_mod hb.1 hb.2 (key n)).symm
theorem fk_R_dg {x : Int} {f : Nat → Int64} (h : fk_R x f) {i : Nat} (hi : i < 12) : (f i).toInt = fk_dg x i :=
  fk_uniq (t := fk_I f) (u := fk_I f) 12 (fk_I f) (fk_dg x) h.1 (fun i _ => by rw [fk_dg]; omega) (by rw [h.2, fk_dg_T]) i hi
theorem fk_R_eq {x : Int} {f : Nat → Int64} (h : ∀ i, i < 12 → (f i).toInt = fk_dg x i) : fk_R x f := by
  refine ⟨fun i hi => ?_, ?_⟩
  · rw [fk_I, h i hi, fk_dg]; omega
  · rw [← fk_dg_T]
    exact fk_T_congr (fun i hi => h i hi)
theorem fk_R_inj {x y : Int} {f : Nat → Int64} (h : fk_R x f) (h2 : fk_R y f) (hx : fk_In x) (hy : fk_In y) : x = y := by
  have e : x % 65536 ^ 12 = y % 65536 ^ 12 := by rw [← h.2, h2.2]
  obtain ⟨a1, a2⟩ := hx
  obtain ⟨b1, b2⟩ := hy
  rw [fk_p12] at e
  omega
/-- short division, from the highest limb down: limbs from i on are done -/
def fk_Sd (t : Nat → Int) (d : Int) (i : Nat) (g : Nat → Int) (r : Int) : Prop := (∀ j, j < i → g j = t j) ∧ (∀ j, i ≤ j → j < 12 → 0 ≤ g j ∧ g j < 65536) ∧ 0 ≤ r ∧ r < d ∧ fk_T t 12 - fk_T t i = d * (fk_T g 12 - fk_T g i) + r * 65536 ^ i
theorem fk_Sd_0 {t : Nat → Int} {d : Int} (hd : 0 < d) : fk_Sd t d 12 t 0 := ⟨fun _ _ => rfl, fun j h1 h2 => by omega, by omega, hd, by simp⟩
theorem fk_Sd_step {t g : Nat → Int} {d r : Int} {i : Nat} (hi : i < 12) (ht : 0 ≤ t i ∧ t i < 65536) (h : fk_Sd t d (i + 1) g r) {g' : Nat → Int} (hg : ∀ j, j ≠ i → g' j = g j) (hgi : g' i = (r * 65536 + t i) / d) : fk_Sd t d i g' ((r * 65536 + t i) % d) := by
  obtain ⟨h1, h2, h3, h4, h5⟩ := h
  have hd : 0 < d := by omega
  have q1 := Int.mul_ediv_add_emod (r * 65536 + t i) d
  have q2 := Int.emod_nonneg (r * 65536 + t i) (show d ≠ 0 by omega)
  have q3 := Int.emod_lt_of_pos (r * 65536 + t i) hd
  have q4 : 0 ≤ (r * 65536 + t i) / d := Int.ediv_nonneg (by omega) (by omega)
  have q5 : (r * 65536 + t i) / d < 65536 := by
    rw [Int.ediv_lt_iff_lt_mul hd]
    have : (r + 1) * 65536 ≤ 65536 * d := by omega
    omega
  refine ⟨fun j hj => ?_, fun j ha hb => ?_, q2, q3, ?_⟩
  · rw [hg j (by omega)]; exact h1 j (by omega)
  · by_cases e : j = i
    · subst e; rw [hgi]; exact ⟨q4, q5⟩
    · rw [hg j e]; exact h2 j (by omega) hb
  · have e1 : fk_T g' 12 - fk_T g' (i + 1) = fk_T g 12 - fk_T g (i + 1) := by
      have a1 := fk_T_split g' (i + 1) (12 - (i + 1))
      have a2 := fk_T_split g (i + 1) (12 - (i + 1))
      rw [show i + 1 + (12 - (i + 1)) = 12 by omega] at a1 a2
      rw [fk_T_congr (t := fun k => g' (i + 1 + k)) (u := fun k => g (i + 1 + k)) (fun k _ => hg _ (by omega))] at a1
      omega
    have e2 : fk_T g' (i + 1) = fk_T g' i + g' i * 65536 ^ i := rfl
    have e3 : fk_T t (i + 1) = fk_T t i + t i * 65536 ^ i := rfl
    have e4 : fk_T t 12 - fk_T t (i + 1) = d * (fk_T g' 12 - fk_T g' (i + 1)) + r * (65536 ^ i * 65536) := by rw [e1, h5, Int.pow_succ]
    rw [e2, e3] at e4
    rw [hgi] at e4
    generalize (r * 65536 + t i) / d = q at *
    generalize (r * 65536 + t i) % d = w at *
    generalize (65536 : Int) ^ i = P at *
    grind
theorem fk_Sd_end {x d r : Int} {f g : Nat → Int64} (h : fk_R x f) (h0 : 0 ≤ x) (hi : fk_In x) (hs : fk_Sd (fk_I f) d 0 (fk_I g) r) : fk_R (x / d) g ∧ r = x % d := by
  obtain ⟨-, h2, h3, h4, h5⟩ := hs
  have e : fk_T (fk_I f) 12 = x := fk_R_val h h0 hi
  have z : ∀ t : Nat → Int, fk_T t 0 = 0 := fun _ => rfl
  rw [z, z, e] at h5
  simp only [Int.sub_zero, Int.pow_zero, Int.mul_one] at h5
  have hd : 0 < d := by omega
  have e2 : x / d = fk_T (fk_I g) 12 := by
    rw [h5, Int.add_comm, Int.add_mul_ediv_left _ _ (by omega), Int.ediv_eq_zero_of_lt h3 h4]; simp
  have e3 : x % d = r := by
    rw [h5, Int.add_comm, Int.add_mul_emod_self_left]
    exact Int.emod_eq_of_lt h3 h4
  exact ⟨fk_R_of (fun i hi => h2 i (by omega) hi) e2.symm, e3.symm⟩
/-- long division: the guess is the digit, or one more -/
theorem fk_guess {X Y T O P P' l1 l2 q : Int} (hP : 0 < P) (hP' : 0 < P') (hY : 0 < Y) (hX : X * 65536 = T * (P * P') + l1) (h1 : 0 ≤ l1) (h2 : l1 < P * P') (hO : Y * 65536 = O * P + l2) (h3 : 0 ≤ l2) (h4 : l2 < P) (hO2 : 65536 ≤ O) (hq : q = X / (Y * P')) (hq0 : 0 ≤ X) (hqB : X < Y * P' * 65536) : q ≤ T / O ∧ T / O ≤ q + 1 := by
  have hYP : 0 < Y * P' := Int.mul_pos hY hP'
  have a1 := Int.mul_ediv_add_emod X (Y * P')
  have a2 := Int.emod_nonneg X (show Y * P' ≠ 0 by omega)
  have a3 := Int.emod_lt_of_pos X hYP
  rw [← hq] at a1
  have hq1 : 0 ≤ q := by rw [hq]; exact Int.ediv_nonneg hq0 (by omega)
  have hq2 : q < 65536 := by
    rw [hq, Int.ediv_lt_iff_lt_mul hYP, Int.mul_comm 65536]; exact hqB
  have hPP : 0 < P * P' := Int.mul_pos hP hP'
  have hO0 : 0 < O := by omega
  constructor
  · rw [Int.le_ediv_iff_mul_le hO0]
    have : q * O * (P * P') < (T + 1) * (P * P') := by
      have e1 : Y * P' * q * 65536 ≤ X * 65536 := by omega
      have e2 : Y * P' * q * 65536 = (O * P + l2) * (P' * q) := by rw [← hO]; grind
      have e3 : 0 ≤ l2 * (P' * q) := Int.mul_nonneg h3 (Int.mul_nonneg (by omega) hq1)
      have e4 : (O * P + l2) * (P' * q) = q * O * (P * P') + l2 * (P' * q) := by grind
      have e5 : (T + 1) * (P * P') = T * (P * P') + P * P' := by grind
      omega
    have := Int.lt_of_mul_lt_mul_right this (by omega)
    omega
  · have h5 : T < (q + 1) * (O + 1) := by
      have : T * (P * P') < (q + 1) * (O + 1) * (P * P') := by
        have e1 : X * 65536 < Y * P' * (q + 1) * 65536 := by
          have : Y * P' * (q + 1) = Y * P' * q + Y * P' := by grind
          omega
        have e2 : Y * P' * (q + 1) * 65536 = (O * P + l2) * (P' * (q + 1)) := by rw [← hO]; grind
        have e3 : (O * P + l2) * (P' * (q + 1)) ≤ (O * P + P) * (P' * (q + 1)) := Int.mul_le_mul_of_nonneg_right (by omega) (Int.mul_nonneg (by omega) (by omega))
        have e4 : (O * P + P) * (P' * (q + 1)) = (q + 1) * (O + 1) * (P * P') := by grind
        omega
      exact Int.lt_of_mul_lt_mul_right this (by omega)
    have h6 : T < (q + 2) * O := by
      have : (q + 1) * (O + 1) = (q + 1) * O + q + 1 := by grind
      have : (q + 2) * O = (q + 1) * O + O := by grind
      omega
    have : T / O < q + 2 := (Int.ediv_lt_iff_lt_mul hO0).mpr h6
    omega
