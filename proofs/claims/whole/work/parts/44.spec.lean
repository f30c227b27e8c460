/-! What the calls answer, in whole numbers, over n kinds kf. -/
def fk_ix (k : Int32) : Nat := k.toInt.toNat - 1
theorem fk_no_j {n j : Nat} (hj : j < n) (hn : n ≤ 40) : ¬ fk_no n (nI (j + 1)) := by
  rw [fk_no, nI_toInt (by omega)]; omega
theorem fk_ix_j {n j : Nat} (hj : j < n) (hn : n ≤ 40) : fk_ix (nI (j + 1)) = j := by
  rw [fk_ix, nI_toInt (by omega)]; omega
def fk_v (K : fk_K) (v : Int64) : Int := fk_vn K.1 K.2.1 K.2.2.1 K.2.2.2.1 K.2.2.2.2.1 v
def fk_dn (K : fk_K) : Int := K.2.2.2.1.toInt
noncomputable def fk_P (K : fk_K) (a b : Int) : Int := fk_put K.1 K.2.1 K.2.2.2.2.2.1 K.2.2.2.2.2.2 K.2.2.1 K.2.2.2.1 K.2.2.2.2.1 a b
noncomputable def fk_L (K : fk_K) (a b : Int) : Int32 := fk_lst K.1 K.2.1 K.2.2.2.2.2.2 K.2.2.1 K.2.2.2.1 K.2.2.2.2.1 a b
theorem fk_v_bd {K : fk_K} (h : fk_ok K) (v : Int64) : -18889465931478580854784 ≤ fk_v K v ∧ fk_v K v ≤ 18889465931478580854784 := fk_vn_bd h.1 v
theorem fk_dn_bd {K : fk_K} (h : fk_ok K) : 1 ≤ fk_dn K ∧ fk_dn K ≤ 1000 := h.1.2.2.1
/-- numerator and denominator of a op b -/
def fk_sg (x : Int) : Int := if x < 0 then -1 else 1
def fk_cN (op : Int32) (a b c d : Int) : Int := if op = 0 then a * d + c * b * 1 else if op = 1 then a * d + c * b * (-1) else if op = 2 then a * c else a * d * fk_sg (b * c)
def fk_cD (op : Int32) (b c d : Int) : Int := if op = 3 then b * c * fk_sg (b * c) else b * d
theorem fk_c_B {op : Int32} (hop : op = 0 ∨ op = 1 ∨ op = 2 ∨ op = 3) {a b c d : Int} (ha : -18889465931478580854784 ≤ a ∧ a ≤ 18889465931478580854784) (hb : 1 ≤ b ∧ b ≤ 1000) (hc : -18889465931478580854784 ≤ c ∧ c ≤ 18889465931478580854784) (hd : 1 ≤ d ∧ d ≤ 1000) (hz : op = 3 → c ≠ 0) : fk_pB (fk_cN op a b c d) (fk_cD op b c d) := by
  have m1 := fk_pbd (a := a) (b := d) (A := 18889465931478580854784) (B := 1000) ha.1 ha.2 (by omega) (by omega) (by omega)
  have m2 := fk_pbd (a := c) (b := b) (A := 18889465931478580854784) (B := 1000) hc.1 hc.2 (by omega) (by omega) (by omega)
  have m3 := fk_pbd (a := a) (b := c) (A := 18889465931478580854784) (B := 18889465931478580854784) ha.1 ha.2 hc.1 hc.2 (by omega)
  have m4 : 1 * 1 ≤ b * d := Int.mul_le_mul hb.1 hd.1 (by omega) (by omega)
  have m5 : b * d ≤ 1000 * 1000 := Int.mul_le_mul hb.2 hd.2 (by omega) (by omega)
  have m6 : b * c = c * b := Int.mul_comm _ _
  rcases hop with rfl | rfl | rfl | rfl
  · rw [fk_cN, fk_cD, if_pos rfl, if_neg (by decide)]; exact ⟨⟨by omega, by omega⟩, by omega, by omega⟩
  · rw [fk_cN, fk_cD, if_neg (by decide), if_pos rfl, if_neg (by decide)]; exact ⟨⟨by omega, by omega⟩, by omega, by omega⟩
  · rw [fk_cN, fk_cD, if_neg (by decide), if_neg (by decide), if_pos rfl, if_neg (by decide)]; exact ⟨⟨by omega, by omega⟩, by omega, by omega⟩
  · have hbc : b * c ≠ 0 := fun q => by
      rcases Int.mul_eq_zero.mp q with z | z
      · omega
      · exact hz rfl z
    rw [fk_cN, fk_cD, if_neg (by decide), if_neg (by decide), if_neg (by decide), if_pos rfl, fk_sg]
    split
    · exact ⟨⟨by omega, by omega⟩, by omega, by omega⟩
    · exact ⟨⟨by omega, by omega⟩, by omega, by omega⟩
theorem fk_v_B {K : fk_K} (h : fk_ok K) (v : Int64) {b : Int} (hb : 1 ≤ b ∧ b ≤ 1000) : fk_pB (fk_v K v) b := by
  have := fk_v_bd h v
  exact ⟨⟨by omega, by omega⟩, by omega, by omega⟩
/-- a quotient by 0, SATURATEd -/
noncomputable def fk_q0 (K : fk_K) (a b : Int) : Int := if 0 < a then fk_most K.1 K.2.1 else if a < 0 then fk_least K.1 K.2.1 else fk_P K a b
noncomputable def fk_sConv (n : Nat) (kf : Nat → fk_K) (k : Int32) (v : Int64) (j : Int32) : Int :=
  haveI := Classical.propDecidable (fk_no n k ∨ fk_no n j); if fk_no n k ∨ fk_no n j then 0 else fk_P (kf (fk_ix j)) (fk_v (kf (fk_ix k)) v) (fk_dn (kf (fk_ix k)))
noncomputable def fk_lConv (n : Nat) (kf : Nat → fk_K) (lo : Int32) (k : Int32) (v : Int64) (j : Int32) : Int32 :=
  haveI := Classical.propDecidable (fk_no n k ∨ fk_no n j); if fk_no n k ∨ fk_no n j then lo else fk_L (kf (fk_ix j)) (fk_v (kf (fk_ix k)) v) (fk_dn (kf (fk_ix k)))
/-- whether apply is done: an op and kinds that there are -/
def fk_nap (n : Nat) (op k j : Int32) : Prop := fk_no n k ∨ fk_no n j ∨ op.toInt < 0 ∨ 3 < op.toInt
/-- apply throws -/
def fk_thr (n : Nat) (kf : Nat → fk_K) (op k j : Int32) (y : Int64) : Prop := ¬ fk_nap n op k j ∧ op = 3 ∧ fk_v (kf (fk_ix j)) y = 0 ∧ (kf (fk_ix k)).2.2.2.2.2.1 ≠ 0
def fk_qz (kf : Nat → fk_K) (op j : Int32) (y : Int64) : Prop := op = 3 ∧ fk_v (kf (fk_ix j)) y = 0
noncomputable def fk_sApp (n : Nat) (kf : Nat → fk_K) (op k : Int32) (x : Int64) (j : Int32) (y : Int64) : Int :=
  haveI := Classical.propDecidable (fk_nap n op k j); haveI := Classical.propDecidable (fk_qz kf op j y)
  if fk_nap n op k j then 0 else if fk_qz kf op j y then fk_q0 (kf (fk_ix k)) (fk_v (kf (fk_ix k)) x) 1
  else fk_P (kf (fk_ix k)) (fk_cN op (fk_v (kf (fk_ix k)) x) (fk_dn (kf (fk_ix k))) (fk_v (kf (fk_ix j)) y) (fk_dn (kf (fk_ix j)))) (fk_cD op (fk_dn (kf (fk_ix k))) (fk_v (kf (fk_ix j)) y) (fk_dn (kf (fk_ix j))))
noncomputable def fk_lApp (n : Nat) (kf : Nat → fk_K) (lo op k : Int32) (x : Int64) (j : Int32) (y : Int64) : Int32 :=
  haveI := Classical.propDecidable (fk_nap n op k j); haveI := Classical.propDecidable (fk_qz kf op j y)
  if fk_nap n op k j then lo else if fk_qz kf op j y then 1
  else fk_L (kf (fk_ix k)) (fk_cN op (fk_v (kf (fk_ix k)) x) (fk_dn (kf (fk_ix k))) (fk_v (kf (fk_ix j)) y) (fk_dn (kf (fk_ix j)))) (fk_cD op (fk_dn (kf (fk_ix k))) (fk_v (kf (fk_ix j)) y) (fk_dn (kf (fk_ix j))))
noncomputable def fk_sBnd (n : Nat) (kf : Nat → fk_K) (k side : Int32) : Int :=
  haveI := Classical.propDecidable (fk_no n k); if fk_no n k then 0 else if side = 0 then fk_least (kf (fk_ix k)).1 (kf (fk_ix k)).2.1 else fk_most (kf (fk_ix k)).1 (kf (fk_ix k)).2.1
def fk_cmp (x : Int) : Int32 := if x = 0 then 0 else if x < 0 then -1 else 1
noncomputable def fk_sCmp (n : Nat) (kf : Nat → fk_K) (k : Int32) (x : Int64) (j : Int32) (y : Int64) : Int32 :=
  haveI := Classical.propDecidable (fk_no n k ∨ fk_no n j); if fk_no n k ∨ fk_no n j then -2 else fk_cmp (fk_v (kf (fk_ix k)) x * fk_dn (kf (fk_ix j)) + fk_v (kf (fk_ix j)) y * fk_dn (kf (fk_ix k)) * (-1))
/-- octets and halves of the lowest w bits -/
def fk_oc (w : Nat) (v : Int64) (i : Nat) : Int32 := (Int32.ofInt (v.toInt % 2 ^ w / 2 ^ (8 * i))).toInt8.toInt32
noncomputable def fk_sOct (n : Nat) (kf : Nat → fk_K) (k : Int32) (v : Int64) (i : Int32) : Int32 :=
  haveI := Classical.propDecidable (fk_no n k); if fk_no n k ∨ i.toInt < 0 ∨ (((kf (fk_ix k)).1 + 7) / 8 : Nat) ≤ i.toInt then 0 else fk_oc (kf (fk_ix k)).1 v i.toInt.toNat
noncomputable def fk_sHlf (n : Nat) (kf : Nat → fk_K) (k : Int32) (v : Int64) : Int32 :=
  haveI := Classical.propDecidable (fk_no n k); if fk_no n k then 0 else (Int32.ofInt (v.toInt % 2 ^ (kf (fk_ix k)).1 / 2 ^ ((kf (fk_ix k)).1 - (kf (fk_ix k)).1 / 2))).toInt16.toInt32
/-- the lowest bits of a long that is shifted right, as an int of 8 or 16 bits -/
theorem fk_l2i {x : Int64} {y : Int} (h : x.toInt % 18446744073709551616 = y % 18446744073709551616) : x.toInt32 = Int32.ofInt y := by
  apply Int32.toInt_inj.mp
  rw [Int64.toInt_toInt32, Int32.toInt_ofInt]
  apply Int.bmod_eq_bmod_iff_bmod_sub_eq_zero.mpr
  have : ∃ k : Int, x.toInt - y = k * 18446744073709551616 := ⟨x.toInt / 18446744073709551616 - y / 18446744073709551616, by omega⟩
  obtain ⟨k, hk⟩ := this
  rw [hk]
  show Int.bmod (k * 18446744073709551616) 4294967296 = 0
  rw [Int.bmod_def]
  split <;> omega
