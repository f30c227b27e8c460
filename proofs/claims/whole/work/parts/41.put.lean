/-! PUTting a value into a kind; the table of kinds. -/
/-- the number before it is rounded: fk_pN / fk_pD -/
def fk_pN (dn of : Int64) (a b : Int) : Int := (a + b * (-of.toInt)) * dn.toInt
def fk_pD (up : Int64) (b : Int) : Int := b * up.toInt
def fk_pR (rd : Int32) (up dn of : Int64) (a b : Int) : Int := fk_round rd (fk_pN dn of a b) (fk_pD up b)
def fk_wi (w : Nat) (sg : Int32) (r : Int) : Prop := fk_least w sg ≤ r ∧ r ≤ fk_most w sg
/-- what comes when a rounded number is beyond the RAW ones -/
def fk_by (w : Nat) (sg ov : Int32) (r : Int) : Int := if ov = 0 then (if r < 0 then fk_least w sg else fk_most w sg) else if ov = 1 then fk_bring w sg r else 0
noncomputable def fk_put (w : Nat) (sg ov rd : Int32) (up dn of : Int64) (a b : Int) : Int :=
  haveI := Classical.propDecidable (fk_wi w sg (fk_pR rd up dn of a b)); if fk_wi w sg (fk_pR rd up dn of a b) then fk_pR rd up dn of a b else fk_by w sg ov (fk_pR rd up dn of a b)
noncomputable def fk_lst (w : Nat) (sg rd : Int32) (up dn of : Int64) (a b : Int) : Int32 :=
  haveI := Classical.propDecidable (fk_pN dn of a b % fk_pD up b = 0 ∧ fk_wi w sg (fk_pR rd up dn of a b)); if fk_pN dn of a b % fk_pD up b = 0 ∧ fk_wi w sg (fk_pR rd up dn of a b) then 0 else 1
/-- numbers that may be PUT -/
def fk_pB (a b : Int) : Prop := (-1427247692705959881058285969449495136382746624 ≤ a ∧ a ≤ 1427247692705959881058285969449495136382746624) ∧ 0 < b ∧ b ≤ 1237940039285380274899124224
theorem fk_pN_bd {w : Nat} {sg : Int32} {up dn of : Int64} (h : fk_kd w sg up dn of) {a b : Int} (hb : fk_pB a b) : (-1427247692707200000000000000000000000000000000000 ≤ fk_pN dn of a b ∧ fk_pN dn of a b ≤ 1427247692707200000000000000000000000000000000000) ∧ 0 < fk_pD up b ∧ fk_pD up b ≤ 1237940039285380274899124224000 := by
  obtain ⟨hw, hu, hd, ho⟩ := h
  obtain ⟨ha, hb0, hb1⟩ := hb
  have c1 := fk_pbd (a := b) (b := -of.toInt) (A := 1237940039285380274899124224) (B := 1000000) (by omega) (by omega) (by omega) (by omega) (by omega)
  have c2 := fk_pbd (a := a + b * (-of.toInt)) (b := dn.toInt) (A := 1427247692707200000000000000000000000000000000) (B := 1000) (by omega) (by omega) (by omega) (by omega) (by omega)
  have c3 := fk_pbd (a := b) (b := up.toInt) (A := 1237940039285380274899124224) (B := 1000) (by omega) (by omega) (by omega) (by omega) (by omega)
  have c4 : 0 < b * up.toInt := Int.mul_pos hb0 (by omega)
  rw [fk_pN, fk_pD]
  omega
theorem fk_round_bd {rd : Int32} {n d A : Int} (hd : 0 < d) (h1 : -A ≤ n) (h2 : n ≤ A) : -(A + 1) ≤ fk_round rd n d ∧ fk_round rd n d ≤ A + 1 := by
  have ha := fk_abs_bd h1 h2
  have q0 : 0 ≤ fk_abs n / d := Int.ediv_nonneg ha.1 (by omega)
  have q1 : fk_abs n / d ≤ fk_abs n := Int.ediv_le_self _ ha.1
  have u : (fk_up rd n d).toInt = 0 ∨ (fk_up rd n d).toInt = 1 := by
    rcases fk_up01 rd n d with q | q <;> rw [q]
    · exact Or.inl (by decide)
    · exact Or.inr (by decide)
  rw [fk_round]
  split <;> omega
theorem fk_wi_long {w : Nat} {sg : Int32} (h : fk_wd w sg) {r : Int} (hr : fk_wi w sg r) : -9223372036854775808 ≤ r ∧ r < 9223372036854775808 := by
  have := fk_lm h
  obtain ⟨h1, h2⟩ := hr
  omega
/-- bringing in goes by the lowest 64 bits -/
theorem fk_bring_mod {w : Nat} {sg : Int32} (h : fk_wd w sg) (r : Int) : fk_bring w sg (Int64.ofInt r).toInt = fk_bring w sg r := by
  have h64 := h.2.1
  have e : ∃ k : Int, (Int64.ofInt r).toInt = r + k * 2 ^ w := by
    have q : (Int64.ofInt r).toInt % 18446744073709551616 = r % 18446744073709551616 := by
      rw [← fk_nat, fk_ofInt_nat]
      omega
    have e2 : (18446744073709551616 : Int) = 2 ^ (64 - w) * 2 ^ w := by
      rw [← fk_2a, show 64 - w + w = 64 by omega]; decide
    refine ⟨((Int64.ofInt r).toInt / 18446744073709551616 - r / 18446744073709551616) * 2 ^ (64 - w), ?_⟩
    rw [Int.mul_assoc, ← e2]
    omega
  obtain ⟨k, hk⟩ := e
  rw [fk_bring, fk_bring, hk]
  split
  · rw [Int.add_mul_emod_self_right]
  · rw [show r + k * 2 ^ w + 2 ^ (w - 1) = r + 2 ^ (w - 1) + k * 2 ^ w by omega, Int.add_mul_emod_self_right]
abbrev fk_K : Type := Nat × Int32 × Int64 × Int64 × Int64 × Int32 × Int32
abbrev fk_ke (K : fk_K) : va_E := .inr (2, [.int (nI K.1), .int K.2.1, .long K.2.2.1, .long K.2.2.2.1, .long K.2.2.2.2.1, .int K.2.2.2.2.2.1, .int K.2.2.2.2.2.2])
def fk_ok (K : fk_K) : Prop := fk_kd K.1 K.2.1 K.2.2.1 K.2.2.2.1 K.2.2.2.2.1 ∧ (K.2.2.2.2.2.1 = 0 ∨ K.2.2.2.2.2.1 = 1 ∨ K.2.2.2.2.2.1 = 2) ∧ (K.2.2.2.2.2.2 = 0 ∨ K.2.2.2.2.2.2 = 1 ∨ K.2.2.2.2.2.2 = 2 ∨ K.2.2.2.2.2.2 = 3)
/-- the table of the kinds: n of them, kind j + 1 is kf j, an object at ka j, at place kp j of the world's tail -/
def fk_KT (n : Nat) (kf : Nat → fk_K) (kd : Nat → Option Nat) (ka kp : Nat → Nat) (tl : va_W) : Prop := n ≤ 40 ∧ (∀ j, j < n → kd j = some (ka j) ∧ tl[kp j]? = some (ka j, fk_ke (kf j)) ∧ fk_ok (kf j)) ∧ ∀ i j, i < n → j < n → kp i = kp j → i = j
/-- a kind's number that there is not -/
def fk_no (n : Nat) (k : Int32) : Prop := k.toInt < 1 ∨ (n : Int) < k.toInt
