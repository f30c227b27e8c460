/-! Steps of the loops over limbs. -/
theorem fk_C_stp {t : Nat → Int} {c0 : Int} {i : Nat} {g : Nat → Int64} {cy x x1 x2 : Int64} (h : fk_C t c0 i g cy.toInt) (e : x.toInt = cy.toInt + t i) (e1 : x1 = x &&& 65535) (e2 : x2 = x >>> ((16 : Int32).toInt64 &&& 63)) : fk_C t c0 (i + 1) (vp_updL g i x1) x2.toInt := by
  rw [e2, fk_s16, e]
  exact fk_C_step h (by rw [e1, fk_m16, e])
theorem fk_mbd {a k K : Int} (h0 : 0 ≤ a) (h1 : a < 65536) (hk : -K ≤ k) (hk2 : k ≤ K) : -(65536 * K) ≤ a * k ∧ a * k ≤ 65536 * K := by
  have a1 : a * k ≤ a * K := Int.mul_le_mul_of_nonneg_left hk2 h0
  have a2 : a * K ≤ 65536 * K := Int.mul_le_mul_of_nonneg_right (by omega) (by omega)
  have a3 : a * (-K) ≤ a * k := Int.mul_le_mul_of_nonneg_left hk h0
  have a4 : a * (-K) = -(a * K) := Int.mul_neg _ _
  omega
/-- what is added, limb by limb, when k times o comes to f, sh limbs higher -/
def fk_at (f o : Nat → Int64) (sh : Nat) (k : Int) (j : Nat) : Int := fk_I f j + (if j < sh then 0 else (fk_lb o ((j - sh : Nat) : Int)).toInt * k)
def fk_e (f : Nat → Int64) (j : Nat) : Int := (fk_lb f (j : Int)).toInt
theorem fk_e_in {f : Nat → Int64} {j : Nat} (h : j < 12) : fk_e f j = fk_I f j := by rw [fk_e, fk_lb_in h rfl]; rfl
theorem fk_e_out {f : Nat → Int64} {j : Nat} (h : 12 ≤ j) : fk_e f j = 0 := by rw [fk_e, fk_lb_out (by omega)]; decide
theorem fk_at_T (f o : Nat → Int64) (sh : Nat) (k : Int) (n : Nat) : fk_T (fk_at f o sh k) (sh + n) = fk_T (fk_I f) (sh + n) + k * fk_T (fk_e o) n * 65536 ^ sh := by
  induction n with
  | zero =>
    have e : fk_T (fk_at f o sh k) sh = fk_T (fk_I f) sh := fk_T_congr (fun i hi => by rw [fk_at, if_pos hi, Int.add_zero])
    simp only [Nat.add_zero, e, fk_T]; simp
  | succ n ih =>
    rw [← Nat.add_assoc, fk_T, ih, fk_T, fk_T]
    have e : fk_at f o sh k (sh + n) = fk_I f (sh + n) + fk_e o n * k := by
      rw [fk_at, if_neg (by omega), show sh + n - sh = n by omega]; rfl
    rw [e, Int.pow_add]
    grind
theorem fk_at_0 {f o : Nat → Int64} {sh : Nat} {k : Int} (hn : fk_N (fk_I f) 12) (hs : sh ≤ 12) : fk_C (fk_at f o sh k) 0 sh f 0 := by
  refine ⟨fun i hi => hn i (by omega), ?_⟩
  have e := fk_at_T f o sh k 0
  simp only [Nat.add_zero, fk_T] at e
  rw [e]; simp
theorem fk_e_T {x : Int} {f : Nat → Int64} (h : fk_R x f) (h0 : 0 ≤ x) (hi : fk_In x) (n : Nat) (hn : 12 ≤ n) : fk_T (fk_e f) n = x := by
  rw [fk_T_trunc (s := 12) hn (fun j h1 _ => fk_e_out h1), fk_T_congr (fun i hi => fk_e_in hi)]
  exact fk_R_val h h0 hi
theorem fk_e_bd {x : Int} {f : Nat → Int64} (h : fk_R x f) (j : Nat) : 0 ≤ fk_e f j ∧ fk_e f j < 65536 := fk_lb_bd h _
theorem fk_pow_le {a b : Nat} (h : a ≤ b) : (65536 : Int) ^ a ≤ 65536 ^ b := by
  obtain ⟨d, rfl⟩ : ∃ d, b = a + d := ⟨b - a, by omega⟩
  rw [Int.pow_add]
  have h1 := fk_pp a
  have h2 := fk_pp d
  have : 65536 ^ a * 1 ≤ (65536 : Int) ^ a * 65536 ^ d := Int.mul_le_mul_of_nonneg_left (by omega) (by omega)
  omega
/-- a number below 65536 ^ k has no limbs from k on -/
theorem fk_high {t : Nat → Int} {n k : Nat} (hn : ∀ j, 0 ≤ t j ∧ t j < 65536) (h : fk_T t n < 65536 ^ k) (hk : k ≤ n) : fk_T t n = fk_T t k := by
  have e := fk_T_split t k (n - k)
  rw [show k + (n - k) = n by omega] at e
  have b1 := fk_T_bd (t := fun i => t (k + i)) (n := n - k) (fun i _ => hn _)
  have b2 := fk_T_bd (t := t) (n := k) (fun i _ => hn _)
  have hp := fk_pp k
  have : fk_T (fun i => t (k + i)) (n - k) = 0 := by
    rcases Int.lt_or_le 0 (fk_T (fun i => t (k + i)) (n - k)) with q | q
    · have : 65536 ^ k * 1 ≤ (65536 : Int) ^ k * fk_T (fun i => t (k + i)) (n - k) := Int.mul_le_mul_of_nonneg_left (by omega) (by omega)
      omega
    · omega
  rw [e, this]; simp
theorem fk_high0 {t : Nat → Int} {n k : Nat} (hn : ∀ j, 0 ≤ t j ∧ t j < 65536) (h : fk_T t n < 65536 ^ k) {j : Nat} (hj : k ≤ j) (hjn : j < n) : t j = 0 := by
  have e1 : fk_T t n = fk_T t (j + 1) := fk_high hn (Int.lt_of_lt_of_le h (fk_pow_le (by omega))) (by omega)
  have e2 : fk_T t n = fk_T t j := fk_high hn (Int.lt_of_lt_of_le h (fk_pow_le (by omega))) (by omega)
  rw [e2, fk_T] at e1
  have h0 : t j * 65536 ^ j = 0 := by omega
  rcases Int.mul_eq_zero.mp h0 with q | q
  · exact q
  · have := fk_pp j; omega
/-- the upper two limbs and what is below them -/
theorem fk_top2 {f : Nat → Int64} {x : Int} (h : fk_R x f) {k : Nat} (hk : 1 ≤ k) : ∃ l : Int, fk_T (fk_e f) k * 65536 = (fk_e f (k - 1) * 65536 + (fk_lb f ((k : Int) - 2)).toInt) * 65536 ^ (k - 1) + l ∧ 0 ≤ l ∧ l < 65536 ^ (k - 1) := by
  obtain ⟨j, rfl⟩ : ∃ j, k = j + 1 := ⟨k - 1, by omega⟩
  rw [Nat.add_sub_cancel]
  cases j with
  | zero =>
    refine ⟨0, ?_, by omega, by simp⟩
    rw [fk_lb_out (by omega)]
    simp [fk_T]
  | succ i =>
    have e : (fk_lb f (((i + 1 + 1 : Nat) : Int) - 2)).toInt = fk_e f i := by
      rw [fk_e]; congr 2; omega
    have b := fk_T_bd (t := fk_e f) (n := i) (fun i _ => fk_e_bd h i)
    refine ⟨fk_T (fk_e f) i * 65536, ?_, by omega, ?_⟩
    · rw [e, fk_T, fk_T, Int.pow_succ]; grind
    · rw [Int.pow_succ]; omega
theorem fk_as {x Y : Int} {f o g : Nat → Int64} {n sh m : Nat} {k c : Int} (hR : fk_R x f) (h0 : 0 ≤ x) (hI : fk_In x) (hRo : fk_R Y o) (hY : 0 ≤ Y) (hIY : fk_In Y) (hs : fk_Sz (fk_I o) n) (hm : m ≤ 12) (hm1 : n + sh ≤ m) (hx : x < 65536 ^ m) (hC : fk_C (fk_at f o sh k) 0 m g c) (hg : ∀ j, m ≤ j → g j = f j) : fk_N (fk_I g) 12 ∧ fk_T (fk_I g) 12 + c * 65536 ^ m = x + k * (Y * 65536 ^ sh) ∧ fk_T (fk_I g) 12 < 65536 ^ m := by
  have hfx : fk_T (fk_I f) 12 = x := fk_R_val hR h0 hI
  have hz : ∀ j, m ≤ j → j < 12 → fk_I f j = 0 := fun j h1 h2 => by
    rw [← fk_e_in h2]
    exact fk_high0 (fk_e_bd hR) (n := 12) (k := m) (by rw [fk_T_congr (fun i hi => fk_e_in hi), hfx]; exact hx) h1 h2
  have hgz : ∀ j, m ≤ j → j < 12 → fk_I g j = 0 := fun j h1 h2 => by rw [fk_I, hg j h1]; exact hz j h1 h2
  have hfm : fk_T (fk_I f) m = x := by rw [← hfx]; exact (fk_T_trunc hm hz).symm
  have hgm : fk_T (fk_I g) 12 = fk_T (fk_I g) m := fk_T_trunc hm hgz
  have e := fk_at_T f o sh k (m - sh)
  rw [show sh + (m - sh) = m by omega] at e
  have eo : fk_T (fk_e o) (m - sh) = Y := by
    have q := fk_e_T hRo hY hIY 12 (Nat.le_refl _)
    rw [← q]
    refine (fk_T_trunc (t := fk_e o) (by omega) (fun j h1 h2 => ?_)).symm
    rw [fk_e_in h2]
    exact hs.2.1 j (by omega) h2
  rw [eo, hfm] at e
  have hN : fk_N (fk_I g) 12 := fun i hi => by
    rcases Nat.lt_or_ge i m with q | q
    · exact hC.1 i q
    · rw [hgz i q hi]; decide
  refine ⟨hN, ?_, ?_⟩
  · rw [hgm, hC.2, e]; grind
  · rw [hgm]; exact (fk_T_bd hC.1).2
theorem fk_or16n {b y : Int64} (hb0 : 0 ≤ b.toInt) (hb1 : b.toInt < 70368744177664) (h0 : 0 ≤ y.toInt) (h1 : y.toInt < 65536) : ((b <<< ((16 : Int32).toInt64 &&& 63)) ||| y).toInt = b.toInt * 65536 + y.toInt := by
  rw [fk_or16 h0 h1]
  exact Int64.toInt_ofInt_of_le (by omega) (by omega)
theorem fk_cs_bd {t u : Nat → Int} (j : Nat) (hj : j < 12) (ht : fk_N t 12) (hu : fk_N u 12) : ∀ i, i ≤ j + 1 → 0 ≤ fk_cs t u j i ∧ fk_cs t u j i ≤ i * 4294967296 := by
  intro i
  induction i with
  | zero => intro _; simp [fk_cs]
  | succ i ih =>
    intro hi
    obtain ⟨a1, a2⟩ := ih (by omega)
    obtain ⟨b1, b2⟩ := ht i (by omega)
    obtain ⟨c1, c2⟩ := hu (j - i) (by omega)
    have d1 : 0 ≤ t i * u (j - i) := Int.mul_nonneg b1 c1
    have d2 : t i * u (j - i) ≤ 65536 * u (j - i) := Int.mul_le_mul_of_nonneg_right (by omega) c1
    rw [fk_cs]
    push_cast
    omega
