/-! Several registers at once: what is kept; steps of the reference's division. -/
def fk_kr (S : List Nat) (pt sn pt' sn' : Nat → Int32) : Prop := ∀ r, r ∉ S → (∀ k, k < 16 → pt' (16 * r + k) = pt (16 * r + k)) ∧ sn' r = sn r
theorem fk_kr_1 {p : Nat} {pt sn pt' sn' : Nat → Int32} (h1 : fk_fp p pt pt') (h2 : fk_fs p sn sn') : fk_kr [p] pt sn pt' sn' := fun r hr => by
  have hn : r ≠ p := fun q => hr (by rw [q]; exact List.mem_singleton.mpr rfl)
  exact ⟨fun k hk => h1 _ (by omega), h2 r hn⟩
theorem fk_kr_0 (pt sn : Nat → Int32) : fk_kr [] pt sn pt sn := fun _ _ => ⟨fun _ _ => rfl, rfl⟩
theorem fk_kr_t {S1 S2 S : List Nat} {a b a' b' a'' b'' : Nat → Int32} (h1 : fk_kr S1 a b a' b') (h2 : fk_kr S2 a' b' a'' b'') (hS : ∀ r, r ∉ S → r ∉ S1 ∧ r ∉ S2) : fk_kr S a b a'' b'' := fun r hr => by
  obtain ⟨n1, n2⟩ := hS r hr
  obtain ⟨x1, y1⟩ := h1 r n1
  obtain ⟨x2, y2⟩ := h2 r n2
  exact ⟨fun k hk => (x2 k hk).trans (x1 k hk), y2.trans y1⟩
theorem fk_rg_kr {x : Int} {q : Nat} {S : List Nat} {pt sn pt' sn' : Nat → Int32} (h : fk_rg x q pt) (hk : fk_kr S pt sn pt' sn') (hq : q ∉ S) : fk_rg x q pt' := by
  have e : ∀ k, k < 16 → fk_M pt' q k = fk_M pt q k := fun k hk2 => by rw [fk_M, fk_M, (hk q hq).1 k hk2]
  exact ⟨fun k hk2 => by rw [e k hk2]; exact h.1 k hk2, by rw [fk_T_congr e]; exact h.2⟩
theorem fk_G_kr {x : Int} {q : Nat} {S : List Nat} {pt sn pt' sn' : Nat → Int32} (h : fk_G x q pt sn) (hk : fk_kr S pt sn pt' sn') (hq : q ∉ S) : fk_G x q pt' sn' := ⟨fk_rg_kr h.1 hk hq, by rw [(hk q hq).2]; exact h.2⟩
theorem fi_or1 {x : Int32} (h0 : 0 ≤ x.toInt) (he : x.toInt % 2 = 0) (h1 : x.toInt < 65536) : (x ||| 1).toInt = x.toInt + 1 := by
  obtain ⟨m, rfl, hm⟩ := fi_of h0
  obtain ⟨t, ht⟩ : ∃ t, m = 2 * t := ⟨m / 2, by omega⟩
  subst ht
  have e : nI (2 * t) ||| 1 = nI (2 * t + 1) := by
    apply Int32.toBitVec_inj.mp
    apply BitVec.eq_of_toNat_eq
    rw [Int32.toBitVec_or, BitVec.toNat_or, pk_tn (by omega), pk_tn (by omega), show (1 : Int32).toBitVec.toNat = 1 by decide]
    exact (Nat.two_pow_add_eq_or_of_lt (i := 1) (b := 1) (by omega) t).symm
  rw [e, nI_toInt (by omega), ← hm]
  omega
theorem fk_rg_or1 {z : Int} {q : Nat} {pt : Nat → Int32} (h : fk_rg (2 * z) q pt) : fk_rg (2 * z + 1) q (upd pt (16 * q) (pt (16 * q) ||| 1)) := by
  have l := fk_T_low (fk_M pt q) 15
  rw [show fk_T (fk_M pt q) (15 + 1) = 2 * z from h.2] at l
  have b := h.1 0 (by omega)
  have m0 : fk_M pt q 0 = (pt (16 * q)).toInt := rfl
  rw [m0] at l b
  have o := fi_or1 b.1 (by omega) b.2
  have e0 : fk_M (upd pt (16 * q) (pt (16 * q) ||| 1)) q 0 = (pt (16 * q)).toInt + 1 := by rw [fk_M, Nat.add_zero, pk_us]; exact o
  have e : ∀ k, k < 15 → fk_M (upd pt (16 * q) (pt (16 * q) ||| 1)) q (k + 1) = fk_M pt q (k + 1) := fun k hk => by rw [fk_M, fk_M, pk_un (by omega)]
  refine ⟨fun k hk => ?_, ?_⟩
  · cases k with
    | zero => rw [e0]; omega
    | succ k => rw [e k (by omega)]; exact h.1 (k + 1) hk
  · rw [show (16 : Nat) = 15 + 1 from rfl, fk_T_low, e0, fk_T_congr e]
    omega
/-- the reference's quotient, with sign -/
def fk_dq (x y : Int) : Int := fk_abs x / fk_abs y * (fk_cmp (x * y)).toInt
theorem fk_dq_G {x y : Int} (hy : y ≠ 0) : fk_abs (fk_dq x y) = fk_abs x / fk_abs y ∧ fk_cmp (fk_dq x y) = if fk_abs x / fk_abs y = 0 then 0 else fk_cmp (x * y) := by
  have hx := (fk_abs_cases x)
  have hyy := (fk_abs_cases y)
  have q0 : 0 ≤ fk_abs x / fk_abs y := Int.ediv_nonneg (by omega) (by omega)
  rw [fk_dq]
  generalize hq : fk_abs x / fk_abs y = Q at *
  have c := fk_cmp_cases (x * y)
  by_cases z : Q = 0
  · rw [if_pos z, z]; simp [fk_abs, fk_cmp]
  · rw [if_neg z]
    rcases c with ⟨a, b⟩ | ⟨a, b⟩ | ⟨a, b⟩
    · exfalso
      rcases Int.mul_eq_zero.mp a with w | w
      · have : fk_abs x = 0 := by omega
        rw [this] at hq; simp at hq; omega
      · exact hy w
    · rw [b, show (-1 : Int32).toInt = -1 by decide]
      have d := fk_abs_cases (Q * -1)
      have e := fk_cmp_cases (Q * -1)
      refine ⟨by omega, ?_⟩
      rcases e with ⟨i, j⟩ | ⟨i, j⟩ | ⟨i, j⟩
      · omega
      · exact j
      · omega
    · rw [b, show (1 : Int32).toInt = 1 by decide]
      have d := fk_abs_cases (Q * 1)
      have e := fk_cmp_cases (Q * 1)
      refine ⟨by omega, ?_⟩
      rcases e with ⟨i, j⟩ | ⟨i, j⟩ | ⟨i, j⟩
      · omega
      · omega
      · exact j
theorem fk_2d {y x : Int} {d : Nat} (hy : 1 ≤ y) (h : y * 2 ^ d ≤ x) (hx : x < 28948022309329048855892746252171976963317496166410141009864396001978282409984) : d < 254 := by
  rcases Nat.lt_or_ge d 254 with q | q
  · exact q
  · exfalso
    have p : (2 : Int) ^ 254 ≤ 2 ^ d := by
      have e : (2 : Int) ^ d = 2 ^ 254 * 2 ^ (d - 254) := by have z := fk_2a 254 (d - 254); rw [show 254 + (d - 254) = d by omega] at z; exact z
      have k := fk_2p (d - 254)
      have : (2 : Int) ^ 254 * 1 ≤ 2 ^ 254 * 2 ^ (d - 254) := Int.mul_le_mul_of_nonneg_left (by omega) (by decide)
      omega
    have e : (2 : Int) ^ 254 = 28948022309329048855892746252171976963317496166410141009864396001978282409984 := by decide
    have : 1 * 2 ^ d ≤ y * 2 ^ d := Int.mul_le_mul_of_nonneg_right hy (Int.le_of_lt (fk_2p d))
    omega
