/-! The reference's numbers: registers of 16 limbs in rows of ints, sizes and signs. -/
theorem fi_add {x y : Int32} (h1 : -2147483648 ≤ x.toInt + y.toInt) (h2 : x.toInt + y.toInt < 2147483648) : (x + y).toInt = x.toInt + y.toInt := by
  rw [Int32.toInt_add]
  exact Int.bmod_eq_of_le (by omega) (by omega)
theorem fi_sub {x y : Int32} (h1 : -2147483648 ≤ x.toInt - y.toInt) (h2 : x.toInt - y.toInt < 2147483648) : (x - y).toInt = x.toInt - y.toInt := by
  rw [Int32.toInt_sub]
  exact Int.bmod_eq_of_le (by omega) (by omega)
theorem fi_nat (x : Int32) : (x.toBitVec.toNat : Int) = x.toInt % 4294967296 := by
  have h : x.toInt = if 2 * x.toBitVec.toNat < 2 ^ 32 then (x.toBitVec.toNat : Int) else (x.toBitVec.toNat : Int) - ((2 ^ 32 : Nat) : Int) := BitVec.toInt_eq_toNat_cond _
  have h2 := x.toBitVec.isLt
  split at h <;> omega
theorem fi_m16 (x : Int32) : (x &&& 65535).toInt = x.toInt % 65536 := by
  have e := pk_and x (m := 65535) 16 (by decide)
  have h := fi_nat x
  rw [e, nI_toInt (by omega)]
  omega
theorem fi_s16 (x : Int32) : (x >>> ((16 : Int32) &&& 31)).toInt = x.toInt / 65536 := by
  rw [pk_shr x _ 16 (by decide), Int.shiftRight_eq_div_pow]
  rfl
theorem fi_of {x : Int32} (h : 0 ≤ x.toInt) : ∃ m : Nat, x = nI m ∧ (m : Int) = x.toInt := by
  have hl := x.toInt_lt
  exact ⟨x.toInt.toNat, by apply Int32.toInt_inj.mp; rw [nI_toInt (by omega)]; omega, by omega⟩
theorem fi_or15 : ∀ (m : Nat), m < 32768 → nI m ||| 32768 = nI (m + 32768) := by
  intro m hm
  apply Int32.toBitVec_inj.mp
  apply BitVec.eq_of_toNat_eq
  rw [Int32.toBitVec_or, BitVec.toNat_or, pk_tn (by omega), pk_tn (by omega), show (32768 : Int32).toBitVec.toNat = 2 ^ 15 * 1 by decide, Nat.or_comm, ← Nat.two_pow_add_eq_or_of_lt (by omega)]
  omega
theorem fi_half {x y : Int32} (hx : 0 ≤ x.toInt ∧ x.toInt < 65536) (hy : 0 ≤ y.toInt ∧ y.toInt < 65536) : ((x >>> ((1 : Int32) &&& 31)) ||| ((y &&& 1) <<< ((15 : Int32) &&& 31))).toInt = x.toInt / 2 + y.toInt % 2 * 32768 := by
  obtain ⟨m, rfl, hm⟩ := fi_of hx.1
  obtain ⟨n, rfl, hn⟩ := fi_of hy.1
  rw [pk_shrN (by omega) _ 1 (by decide), pk_andN (by omega) (m := 1) 1 (by decide)]
  rcases (show n % 2 = 0 ∨ n % 2 = 1 by omega) with q | q
  · rw [show n % 2 ^ 1 = 0 by omega, show (nI 0 <<< ((15 : Int32) &&& 31)) = 0 by decide, Int32.or_zero, nI_toInt (by omega), ← hm, ← hn]
    omega
  · rw [show n % 2 ^ 1 = 1 by omega, show (nI 1 <<< ((15 : Int32) &&& 31)) = 32768 by decide, fi_or15 _ (by omega), nI_toInt (by omega), ← hm, ← hn]
    omega
/-- limb k of register p -/
def fk_M (pt : Nat → Int32) (p : Nat) : Nat → Int := fun k => (pt (16 * p + k)).toInt
theorem fk_M_def (pt : Nat → Int32) (p k : Nat) : fk_M pt p k = (pt (16 * p + k)).toInt := rfl
/-- register p holds the size x -/
def fk_rg (x : Int) (p : Nat) (pt : Nat → Int32) : Prop := fk_N (fk_M pt p) 16 ∧ fk_T (fk_M pt p) 16 = x
def fk_G (x : Int) (p : Nat) (pt sn : Nat → Int32) : Prop := fk_rg (fk_abs x) p pt ∧ sn p = fk_cmp x
/-- nothing but register p has changed -/
def fk_fp (p : Nat) (pt pt' : Nat → Int32) : Prop := ∀ i, (i < 16 * p ∨ 16 * p + 16 ≤ i) → pt' i = pt i
def fk_fs (p : Nat) (sn sn' : Nat → Int32) : Prop := ∀ i, i ≠ p → sn' i = sn i
theorem fk_fp_0 (p : Nat) (pt : Nat → Int32) : fk_fp p pt pt := fun _ _ => rfl
theorem fk_fs_0 (p : Nat) (sn : Nat → Int32) : fk_fs p sn sn := fun _ _ => rfl
theorem fk_fp_t {p : Nat} {a b c : Nat → Int32} (h1 : fk_fp p a b) (h2 : fk_fp p b c) : fk_fp p a c := fun i hi => (h2 i hi).trans (h1 i hi)
theorem fk_fs_t {p : Nat} {a b c : Nat → Int32} (h1 : fk_fs p a b) (h2 : fk_fs p b c) : fk_fs p a c := fun i hi => (h2 i hi).trans (h1 i hi)
theorem fk_fs_u (p : Nat) (sn : Nat → Int32) (v : Int32) : fk_fs p sn (upd sn p v) := fun i hi => pk_un hi
theorem fk_rg_keep {x : Int} {p q : Nat} {pt pt' : Nat → Int32} (h : fk_rg x q pt) (hf : fk_fp p pt pt') (hq : q ≠ p) : fk_rg x q pt' := by
  have e : ∀ k, k < 16 → fk_M pt' q k = fk_M pt q k := fun k hk => by rw [fk_M, fk_M, hf _ (by omega)]
  exact ⟨fun k hk => by rw [e k hk]; exact h.1 k hk, by rw [fk_T_congr e]; exact h.2⟩
theorem fk_G_keep {x : Int} {p q : Nat} {pt pt' sn sn' : Nat → Int32} (h : fk_G x q pt sn) (hf : fk_fp p pt pt') (hs : fk_fs p sn sn') (hq : q ≠ p) : fk_G x q pt' sn' := ⟨fk_rg_keep h.1 hf hq, by rw [hs q hq]; exact h.2⟩
theorem fk_rg_bd {x : Int} {p : Nat} {pt : Nat → Int32} (h : fk_rg x p pt) : 0 ≤ x ∧ x < 65536 ^ 16 := by rw [← h.2]; exact fk_T_bd h.1
/-- carries into register p -/
def fk_D (t : Nat → Int) (k p : Nat) (pt : Nat → Int32) (c : Int) : Prop := fk_N (fk_M pt p) k ∧ fk_T (fk_M pt p) k + c * 65536 ^ k = fk_T t k
theorem fk_D_0 (t : Nat → Int) (p : Nat) (pt : Nat → Int32) : fk_D t 0 p pt 0 := ⟨fun i h => absurd h (Nat.not_lt_zero i), by simp [fk_T]⟩
theorem fk_D_step {t : Nat → Int} {c : Int} {k p : Nat} {pt : Nat → Int32} {y : Int32} (h : fk_D t k p pt c) (hy : y.toInt = (c + t k) % 65536) : fk_D t (k + 1) p (upd pt (16 * p + k) y) ((c + t k) / 65536) := by
  obtain ⟨h1, h2⟩ := h
  have e : ∀ j, j < k → fk_M (upd pt (16 * p + k) y) p j = fk_M pt p j := fun j hj => by rw [fk_M, fk_M, pk_un (by omega)]
  have e2 : fk_M (upd pt (16 * p + k) y) p k = y.toInt := by rw [fk_M, pk_us]
  refine ⟨fun j hj => ?_, ?_⟩
  · by_cases hjk : j = k
    · subst hjk; rw [e2, hy]; omega
    · rw [e j (by omega)]; exact h1 j (by omega)
  · rw [fk_T, fk_T, fk_T_congr e, e2, hy, Int.pow_succ]
    have h3 : (c + t k) % 65536 = (c + t k) - 65536 * ((c + t k) / 65536) := by omega
    rw [h3]
    grind
theorem fk_D_stp {t : Nat → Int} {k p : Nat} {pt : Nat → Int32} {c x x1 x2 : Int32} (h : fk_D t k p pt c.toInt) (e : x.toInt = c.toInt + t k) (e1 : x1 = x &&& 65535) (e2 : x2 = x >>> ((16 : Int32) &&& 31)) : fk_D t (k + 1) p (upd pt (16 * p + k) x1) x2.toInt := by
  rw [e2, fi_s16, e]
  exact fk_D_step h (by rw [e1, fi_m16, e])
theorem fk_D_end {t : Nat → Int} {p : Nat} {pt : Nat → Int32} {c x : Int} (h : fk_D t 16 p pt c) (e : fk_T t 16 = x) (h0 : 0 ≤ x) (h1 : x < 65536 ^ 16) : fk_rg x p pt := by
  refine ⟨h.1, ?_⟩
  obtain ⟨b1, b2⟩ := fk_T_bd h.1
  have q := fk_mod b1 b2 (h.2.trans e)
  rw [← q]
  exact Int.emod_eq_of_lt h0 h1
theorem fk_fp_u {p k : Nat} {pt : Nat → Int32} {y : Int32} (hk : k < 16) : fk_fp p pt (upd pt (16 * p + k) y) := fun i hi => pk_un (by omega)
theorem fk_T_sub (t u : Nat → Int) (n : Nat) : fk_T (fun i => t i - u i) n = fk_T t n - fk_T u n := by
  induction n with
  | zero => simp [fk_T]
  | succ n ih => rw [fk_T, fk_T, fk_T, ih]; grind
theorem fk_p16 : (65536 : Int) ^ 16 = 115792089237316195423570985008687907853269984665640564039457584007913129639936 := by decide
theorem fk_T_zero_iff {t : Nat → Int} {n : Nat} (h : fk_N t n) : fk_T t n = 0 ↔ ∀ k, k < n → t k = 0 := by
  constructor
  · intro e
    exact fk_uniq (t := t) (u := t) n t (fun _ => 0) h (fun _ _ => (by decide : (0 : Int) ≤ 0 ∧ (0 : Int) < 65536)) (by rw [e, fk_T_zero (fun _ _ => rfl)])
  · intro e
    exact fk_T_zero e
/-- comparing from the lowest limb up -/
theorem fk_cmp_step {A B : Nat → Int} {k : Nat} (hA : fk_N A (k + 1)) (hB : fk_N B (k + 1)) {c c' : Int} (h : (0 < c ↔ fk_T B k < fk_T A k) ∧ (c < 0 ↔ fk_T A k < fk_T B k)) (h' : (A k - B k = 0 ∧ c' = c) ∨ (A k - B k ≠ 0 ∧ c' = A k - B k)) : (0 < c' ↔ fk_T B (k + 1) < fk_T A (k + 1)) ∧ (c' < 0 ↔ fk_T A (k + 1) < fk_T B (k + 1)) := by
  have a := fk_T_bd (t := A) (n := k) (fun i hi => hA i (by omega))
  have b := fk_T_bd (t := B) (n := k) (fun i hi => hB i (by omega))
  have hp := fk_pp k
  have e : fk_T A (k + 1) - fk_T B (k + 1) = (fk_T A k - fk_T B k) + (A k - B k) * 65536 ^ k := by rw [fk_T, fk_T]; grind
  rcases h' with ⟨z, rfl⟩ | ⟨z, rfl⟩
  · rw [z] at e; simp at e; omega
  · rcases Int.lt_or_le 0 (A k - B k) with q | q
    · have : 1 * 65536 ^ k ≤ (A k - B k) * 65536 ^ k := Int.mul_le_mul_of_nonneg_right (by omega) (by omega)
      omega
    · have : (A k - B k) * 65536 ^ k ≤ (-1) * 65536 ^ k := Int.mul_le_mul_of_nonneg_right (by omega) (by omega)
      omega
/-- the cells of a FixedKindsModel, in the order in which its constructor makes them -/
abbrev fk_wm (cJ cI cZ : ClassId) (am : Nat → Nat) (cd kn lo tn : Int32) (wd sg : Nat → Int32) (up dn of : Nat → Int64) (bey rnd tx pt sn : Nat → Int32) : va_W :=
  [(am 0, .inr (5, [.int cd, .int kn, .ref (am 1), .ref (am 2), .ref (am 3), .ref (am 4), .ref (am 5), .ref (am 6), .ref (am 7), .int lo, .int tn, .ref (am 8), .ref (am 9), .ref (am 10)])),
   (am 1, .inl (cI, 41, .inl wd)), (am 2, .inl (cZ, 41, .inl sg)), (am 3, .inl (cJ, 41, .inr (.inl up))), (am 4, .inl (cJ, 41, .inr (.inl dn))), (am 5, .inl (cJ, 41, .inr (.inl of))),
   (am 6, .inl (cI, 41, .inl bey)), (am 7, .inl (cI, 41, .inl rnd)), (am 8, .inl (cI, 80, .inl tx)), (am 9, .inl (cI, 384, .inl pt)), (am 10, .inl (cI, 24, .inl sn))]
