/-! What physical and text tell; how a text stands in its row. -/
def fk_num (a b : Int) : Int := fk_abs a / fk_gc a b * (if a < 0 then -1 else 1)
def fk_ph (a b : Int) (side : Int32) : Int := if side = 0 then b / fk_gc a b else if side = 1 then fk_num a b % 4294967296 else if side = 2 then fk_num a b / 4294967296 % 4294967296 else fk_num a b / 18446744073709551616
noncomputable def fk_sPhy (n : Nat) (kf : Nat → fk_K) (k : Int32) (v : Int64) (side : Int32) : Int :=
  haveI := Classical.propDecidable (fk_no n k ∨ side.toInt < 0 ∨ 3 < side.toInt); if fk_no n k ∨ side.toInt < 0 ∨ 3 < side.toInt then 0 else fk_ph (fk_v (kf (fk_ix k)) v) (fk_dn (kf (fk_ix k))) side
theorem fk_low32 (y : Int) : (Int64.ofInt y &&& 4294967295).toInt = y % 4294967296 := by
  rw [fk_and 32 (by omega) (by decide)]
  have q : (Int64.ofInt y).toInt % 18446744073709551616 = y % 18446744073709551616 := by
    rw [← fk_nat, fk_ofInt_nat]; omega
  show (Int64.ofInt y).toInt % 4294967296 = y % 4294967296
  omega
theorem fk_num_bd {a b : Int} (ha : -18889465931478580854784 ≤ a ∧ a ≤ 18889465931478580854784) (hb : 0 < b) : -18889465931478580854784 ≤ fk_num a b ∧ fk_num a b ≤ 18889465931478580854784 := by
  have h1 := fk_abs_bd ha.1 ha.2
  have h2 := fk_gc_bd a hb
  have h3 : 0 ≤ fk_abs a / fk_gc a b := Int.ediv_nonneg h1.1 (by omega)
  have h4 : fk_abs a / fk_gc a b ≤ fk_abs a := Int.ediv_le_self _ h1.1
  rw [fk_num]
  split <;> omega
/-- the characters of a text, the last one first -/
def fk_dc (m : Int) : Int32 := nI (48 + (m % 10).toNat)
def fk_pl : Nat → Int → List Int32 → List Int32
  | 0, _, L => L
  | k + 1, m, L => fk_pl k (m / 10) (if m % 10 ≠ 0 ∨ L ≠ [] then L ++ [fk_dc m] else L)
def fk_wl : Nat → Int → List Int32 → List Int32
  | 0, _, L => L
  | k + 1, m, L => if m = 0 then L else fk_wl k (m / 10) (L ++ [fk_dc m])
def fk_pt (L : List Int32) : List Int32 := if L ≠ [] then L ++ [46] else L
def fk_ms (a b : Int) : Int := (fk_abs a * 2000000 + b) / (2 * b)
def fk_tl4 (a b : Int) : List Int32 := fk_wl 39 (fk_ms a b / 1000000 / 10) (fk_pt (fk_pl 6 (fk_ms a b) []) ++ [fk_dc (fk_ms a b / 1000000)])
def fk_txt (a b : Int) : List Int32 := if a < 0 ∧ fk_ms a b ≠ 0 then fk_tl4 a b ++ [45] else fk_tl4 a b
theorem fk_pl_len (k : Nat) : ∀ (m : Int) (L : List Int32), (fk_pl k m L).length ≤ L.length + k := by
  induction k with
  | zero => intro m L; exact Nat.le_refl _
  | succ k ih =>
    intro m L
    rw [fk_pl]
    split
    · have := ih (m / 10) (L ++ [fk_dc m])
      simp only [List.length_append, List.length_singleton] at this
      omega
    · have := ih (m / 10) L
      omega
theorem fk_wl_len (c : Nat) : ∀ (k : Nat) (m : Int) (L : List Int32), 0 ≤ m → m < 10 ^ c → (fk_wl k m L).length ≤ L.length + c := by
  induction c with
  | zero =>
    intro k m L h0 h1
    have : m = 0 := by simp at h1; omega
    subst this
    cases k <;> simp [fk_wl]
  | succ c ih =>
    intro k m L h0 h1
    cases k with
    | zero => simp [fk_wl]
    | succ k =>
      rw [fk_wl]
      split
      · omega
      · have := ih k (m / 10) (L ++ [fk_dc m]) (by omega) (by rw [Int.pow_succ] at h1; omega)
        simp only [List.length_append, List.length_singleton] at this
        omega
theorem fk_wl_0 (k : Nat) (L : List Int32) : fk_wl k 0 L = L := by cases k <;> simp [fk_wl]
theorem fk_wl_s {k : Nat} {m : Int} (L : List Int32) (h : m ≠ 0) : fk_wl (k + 1) m L = fk_wl k (m / 10) (L ++ [fk_dc m]) := by rw [fk_wl, if_neg h]
/-- a text L (its last character first) stands at the end of a row of 40 -/
def fk_Tx (L : List Int32) (ch : Nat → Int32) (t : Nat) : Prop := t + L.length = 40 ∧ ∀ i, i < L.length → ch (39 - i) = L.getD i 0
theorem fk_Tx_0 (ch : Nat → Int32) : fk_Tx [] ch 40 := ⟨rfl, fun i h => absurd h (Nat.not_lt_zero i)⟩
theorem fk_Tx_add {L : List Int32} {ch : Nat → Int32} {t : Nat} (c : Int32) (h : fk_Tx L ch t) (ht : 0 < t) : fk_Tx (L ++ [c]) (upd ch (t - 1) c) (t - 1) := by
  obtain ⟨h1, h2⟩ := h
  refine ⟨by simp only [List.length_append, List.length_singleton]; omega, fun i hi => ?_⟩
  simp only [List.length_append, List.length_singleton] at hi
  by_cases q : i = L.length
  · subst q
    rw [show 39 - L.length = t - 1 by omega, pk_us]
    simp
  · rw [pk_un (by omega), h2 i (by omega)]
    simp only [List.getD_eq_getElem?_getD]
    rw [List.getElem?_append_left (by omega)]
theorem fk_nch : ∀ q, q < 256 → vp_nar .char (nI q) = nI q ∧ narrow .char (.int (nI q)) = .int (nI q) := by decide +kernel
theorem fk_dch {d : Int64} {m : Int} (hd : d.toInt = m % 10) : (((48 + d).toInt32).toUInt32 % 65536).toInt32 = fk_dc m := by
  have h0 := Int.emod_nonneg m (show (10 : Int) ≠ 0 by decide)
  have h1 := Int.emod_lt_of_pos m (show (0 : Int) < 10 by decide)
  have e : d = lN (m % 10).toNat := by apply Int64.toInt_inj.mp; rw [pk_lT (by omega), hd]; omega
  rw [fk_dc, e]
  generalize hk : (m % 10).toNat = k
  have hk10 : k < 10 := by omega
  have key : ∀ k, k < 10 → (((48 + lN k).toInt32).toUInt32 % 65536).toInt32 = nI (48 + k) := by decide +kernel
  exact key k hk10
theorem fk_dc_lt (m : Int) : ∃ q, q < 256 ∧ fk_dc m = nI q := by
  have h1 := Int.emod_lt_of_pos m (show (0 : Int) < 10 by decide)
  exact ⟨48 + (m % 10).toNat, by omega, rfl⟩
theorem fk_ms_bd {a b : Int} (ha : -18889465931478580854784 ≤ a ∧ a ≤ 18889465931478580854784) (hb : 1 ≤ b ∧ b ≤ 1000) : 0 ≤ fk_ms a b ∧ fk_ms a b < 1000000000000000000000000000000 := by
  have h1 := fk_abs_bd ha.1 ha.2
  rw [fk_ms]
  refine ⟨Int.ediv_nonneg (by omega) (by omega), ?_⟩
  rw [Int.ediv_lt_iff_lt_mul (by omega)]
  omega
