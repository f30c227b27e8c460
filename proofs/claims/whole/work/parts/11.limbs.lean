/-! Numbers in limbs of 16 bits: sums, carries, products, all modulo 65536 ^ n. -/
def fk_T (t : Nat → Int) : Nat → Int
  | 0 => 0
  | n + 1 => fk_T t n + t n * 65536 ^ n
def fk_I (f : Nat → Int64) : Nat → Int := fun i => (f i).toInt
def fk_N (t : Nat → Int) (n : Nat) : Prop := ∀ i, i < n → 0 ≤ t i ∧ t i < 65536
theorem fk_I_def (f : Nat → Int64) (i : Nat) : fk_I f i = (f i).toInt := rfl
theorem fk_T_congr {t u : Nat → Int} {n : Nat} (h : ∀ i, i < n → t i = u i) : fk_T t n = fk_T u n := by
  induction n with
  | zero => rfl
  | succ n ih =>
    rw [fk_T, fk_T, ih (fun i hi => h i (by omega)), h n (by omega)]
theorem fk_pp (n : Nat) : (0 : Int) < 65536 ^ n := Int.pow_pos (by decide)
theorem fk_T_bd {t : Nat → Int} {n : Nat} (h : fk_N t n) : 0 ≤ fk_T t n ∧ fk_T t n < 65536 ^ n := by
  induction n with
  | zero => exact ⟨Int.le_refl _, by simp [fk_T]⟩
  | succ n ih =>
    obtain ⟨h1, h2⟩ := ih (fun i hi => h i (by omega))
    obtain ⟨h3, h4⟩ := h n (by omega)
    have hp := fk_pp n
    have h5 : 0 ≤ t n * 65536 ^ n := Int.mul_nonneg h3 (by omega)
    have h6 : t n * 65536 ^ n ≤ 65535 * 65536 ^ n := Int.mul_le_mul_of_nonneg_right (by omega) (by omega)
    rw [fk_T, Int.pow_succ]
    omega
theorem fk_T_mul (t : Nat → Int) (k : Int) (n : Nat) : fk_T (fun i => t i * k) n = fk_T t n * k := by
  induction n with
  | zero => simp [fk_T]
  | succ n ih => rw [fk_T, fk_T, ih]; grind
theorem fk_T_add (t u : Nat → Int) (n : Nat) : fk_T (fun i => t i + u i) n = fk_T t n + fk_T u n := by
  induction n with
  | zero => simp [fk_T]
  | succ n ih => rw [fk_T, fk_T, fk_T, ih]; grind
/-- from the lowest limb -/
theorem fk_T_low (t : Nat → Int) (n : Nat) : fk_T t (n + 1) = t 0 + 65536 * fk_T (fun i => t (i + 1)) n := by
  induction n with
  | zero => simp [fk_T]
  | succ n ih =>
    rw [fk_T, ih, fk_T]
    rw [Int.pow_succ]
    grind
theorem fk_T_zero {t : Nat → Int} {n : Nat} (h : ∀ i, i < n → t i = 0) : fk_T t n = 0 := by
  induction n with
  | zero => rfl
  | succ n ih => rw [fk_T, ih (fun i hi => h i (by omega)), h n (by omega)]; simp
/-- limbs above: a number is its lower limbs and those above -/
theorem fk_T_split (t : Nat → Int) (k n : Nat) : fk_T t (k + n) = fk_T t k + 65536 ^ k * fk_T (fun i => t (k + i)) n := by
  induction n with
  | zero => simp [fk_T]
  | succ n ih =>
    rw [← Nat.add_assoc, fk_T, ih, fk_T, Int.pow_add]
    grind
/-- carries: after i limbs -/
def fk_C (t : Nat → Int) (c0 : Int) (i : Nat) (g : Nat → Int64) (c : Int) : Prop := fk_N (fk_I g) i ∧ fk_T (fk_I g) i + c * 65536 ^ i = c0 + fk_T t i
theorem fk_C_0 (t : Nat → Int) (c0 : Int) (g : Nat → Int64) : fk_C t c0 0 g c0 := ⟨fun i h => absurd h (Nat.not_lt_zero i), by simp [fk_T]⟩
theorem fk_C_step {t : Nat → Int} {c0 c : Int} {i : Nat} {g : Nat → Int64} {y : Int64} (h : fk_C t c0 i g c) (hy : y.toInt = (c + t i) % 65536) : fk_C t c0 (i + 1) (vp_updL g i y) ((c + t i) / 65536) := by
  obtain ⟨h1, h2⟩ := h
  have e : ∀ j, j < i → fk_I (vp_updL g i y) j = fk_I g j := fun j hj => by rw [fk_I, fk_I, pk_uLn (by omega)]
  have e2 : fk_I (vp_updL g i y) i = y.toInt := by rw [fk_I, pk_uLs]
  refine ⟨fun j hj => ?_, ?_⟩
  · by_cases hji : j = i
    · subst hji
      rw [e2, hy]
      omega
    · rw [e j (by omega)]
      exact h1 j (by omega)
  · rw [fk_T, fk_T, fk_T_congr e, e2, hy, Int.pow_succ]
    have h3 : (c + t i) % 65536 = (c + t i) - 65536 * ((c + t i) / 65536) := by omega
    rw [h3]
    grind
theorem fk_mod {u c M X : Int} (h1 : 0 ≤ u) (h2 : u < M) (h : u + c * M = X) : X % M = u := by
  rw [← h, Int.add_mul_emod_self_right]
  exact Int.emod_eq_of_lt h1 h2
theorem fk_C_end {t : Nat → Int} {c0 c : Int} {n : Nat} {g : Nat → Int64} (h : fk_C t c0 n g c) : fk_T (fk_I g) n = (c0 + fk_T t n) % 65536 ^ n := by
  obtain ⟨b1, b2⟩ := fk_T_bd h.1
  exact (fk_mod b1 b2 h.2).symm
/-- products -/
def fk_cs (t u : Nat → Int) (i : Nat) : Nat → Int
  | 0 => 0
  | k + 1 => fk_cs t u i k + t k * u (i - k)
theorem fk_cs_low (t u : Nat → Int) (i k : Nat) (hk : k ≤ i + 1) : fk_cs t u (i + 1) (k + 1) = t 0 * u (i + 1) + fk_cs (fun j => t (j + 1)) u i k := by
  induction k with
  | zero => simp [fk_cs]
  | succ k ih =>
    rw [fk_cs, ih (by omega), fk_cs]
    have : i + 1 - (k + 1) = i - k := by omega
    rw [this]
    grind
theorem fk_conv (n : Nat) : ∀ (t u : Nat → Int), ∃ k : Int, fk_T (fun i => fk_cs t u i (i + 1)) n = fk_T t n * fk_T u n + k * 65536 ^ n := by
  induction n with
  | zero => intro t u; exact ⟨0, by simp [fk_T]⟩
  | succ n ih =>
    intro t u
    obtain ⟨k, hk⟩ := ih (fun j => t (j + 1)) u
    have e1 : fk_T (fun i => fk_cs t u i (i + 1)) (n + 1) = t 0 * fk_T u (n + 1) + 65536 * fk_T (fun i => fk_cs (fun j => t (j + 1)) u i (i + 1)) n := by
      rw [fk_T_low, fk_T_low u]
      have e2 : fk_T (fun i => fk_cs t u (i + 1) (i + 1 + 1)) n = fk_T (fun i => u (i + 1) * t 0 + fk_cs (fun j => t (j + 1)) u i (i + 1)) n := by
        refine fk_T_congr (fun i _ => ?_)
        rw [fk_cs_low t u i (i + 1) (by omega)]
        grind
      rw [e2, fk_T_add, fk_T_mul (fun i => u (i + 1)) (t 0) n]
      have e3 : fk_cs t u 0 (0 + 1) = t 0 * u 0 := by simp [fk_cs]
      rw [e3]
      grind
    rw [e1, hk, fk_T_low t n]
    refine ⟨k - fk_T (fun i => t (i + 1)) n * u n, ?_⟩
    rw [show fk_T u (n + 1) = fk_T u n + u n * 65536 ^ n from rfl, Int.pow_succ]
    grind
/-- limbs that stand for a whole number, modulo 2 ^ 192 -/
def fk_R (x : Int) (f : Nat → Int64) : Prop := fk_N (fk_I f) 12 ∧ fk_T (fk_I f) 12 = x % 65536 ^ 12
theorem fk_R_congr {x : Int} {f g : Nat → Int64} (h : fk_R x f) (e : ∀ i, i < 12 → g i = f i) : fk_R x g := by
  have e' : ∀ i, i < 12 → fk_I g i = fk_I f i := fun i hi => by rw [fk_I, fk_I, e i hi]
  exact ⟨fun i hi => by rw [e' i hi]; exact h.1 i hi, by rw [fk_T_congr e']; exact h.2⟩
theorem fk_R_mod {x y : Int} {f : Nat → Int64} (h : fk_R x f) (e : x % 65536 ^ 12 = y % 65536 ^ 12) : fk_R y f := ⟨h.1, by rw [h.2, e]⟩
theorem fk_R_scale {x k c : Int} {f g : Nat → Int64} (h : fk_R x f) (hc : fk_C (fun i => fk_I f i * k) 0 12 g c) : fk_R (x * k) g := by
  refine ⟨hc.1, ?_⟩
  rw [fk_C_end hc, fk_T_mul, h.2, Int.zero_add, Int.mul_emod, Int.emod_emod_of_dvd _ (Int.dvd_refl _), ← Int.mul_emod]
theorem fk_R_grow {x v c : Int} {f g : Nat → Int64} (h : fk_T (fk_I f) 12 % 65536 ^ 12 = x % 65536 ^ 12) (hc : fk_C (fk_I f) v 12 g c) : fk_R (x + v) g := by
  refine ⟨hc.1, ?_⟩
  rw [fk_C_end hc, Int.add_comm x v, Int.add_emod, h, ← Int.add_emod]
theorem fk_R_addt {x y k c : Int} {f o g : Nat → Int64} (h : fk_R x f) (ho : fk_R y o) (hc : fk_C (fun i => fk_I f i + fk_I o i * k) 0 12 g c) : fk_R (x + y * k) g := by
  refine ⟨hc.1, ?_⟩
  rw [fk_C_end hc, fk_T_add, fk_T_mul, h.2, ho.2, Int.zero_add, Int.add_emod, Int.mul_emod, Int.emod_emod_of_dvd _ (Int.dvd_refl _), Int.emod_emod_of_dvd _ (Int.dvd_refl _), ← Int.mul_emod, ← Int.add_emod]
theorem fk_R_mulr {x y : Int} {f o : Nat → Int64} (h : fk_R x f) (ho : fk_R y o) : fk_T (fun i => fk_cs (fk_I f) (fk_I o) i (i + 1)) 12 % 65536 ^ 12 = (x * y) % 65536 ^ 12 := by
  obtain ⟨k, hk⟩ := fk_conv 12 (fk_I f) (fk_I o)
  rw [hk, Int.add_mul_emod_self_right, h.2, ho.2, ← Int.mul_emod]
