/-! Reference: text, by program -/
theorem fk_half1 {r b : Int} (h0 : 0 ≤ r) (h1 : r < b) : (2 * r + b) / (2 * b) = if 2 * r < b then 0 else 1 := by
  split
  · exact Int.ediv_eq_zero_of_lt (by omega) (by omega)
  · have e : 2 * r + b = (2 * r - b) + 1 * (2 * b) := by omega
    rw [e, Int.add_mul_ediv_right _ _ (by omega), Int.ediv_eq_zero_of_lt (by omega) (by omega)]
    rfl
theorem fk_msR (a : Int) {b : Int} (hb : 0 < b) : fk_abs (a * 1000000) / b + (fk_up 2 (a * 1000000) b).toInt = fk_ms a b := by
  have ea : fk_abs (a * 1000000) = fk_abs a * 1000000 := by rw [fk_abs, fk_abs]; split <;> split <;> omega
  have h0 : 0 ≤ fk_abs (a * 1000000) := by have := fk_abs_cases (a * 1000000); omega
  have r0 := Int.emod_nonneg (fk_abs (a * 1000000)) (show b ≠ 0 by omega)
  have r1 := Int.emod_lt_of_pos (fk_abs (a * 1000000)) hb
  have dm := Int.emod_add_mul_ediv (fk_abs (a * 1000000)) b
  have ems : fk_ms a b = (fk_abs (a * 1000000) * 2 + b) / (2 * b) := by rw [fk_ms, ea]; congr 2; omega
  rw [ems]
  have e2 : fk_abs (a * 1000000) * 2 + b = (2 * (fk_abs (a * 1000000) % b) + b) + fk_abs (a * 1000000) / b * (2 * b) := by
    have : fk_abs (a * 1000000) / b * (2 * b) = 2 * (b * (fk_abs (a * 1000000) / b)) := by grind
    omega
  rw [e2, Int.add_mul_ediv_right _ _ (by omega), fk_half1 r0 r1, Int.add_comm]
  congr 1
  rw [fk_up]
  by_cases z : a * 1000000 % b = 0
  · have := (fk_abs_mod (a * 1000000) hb).mpr z
    rw [if_pos z, if_pos (by omega)]; rfl
  · rw [if_neg z, fk_aw, if_neg (by decide), if_neg (by decide)]
    by_cases q : 2 * (fk_abs (a * 1000000) % b) - b = 0
    · rw [if_pos q, if_pos (Or.inl rfl), if_neg (by omega)]; rfl
    · rw [if_neg q]
      by_cases q2 : 2 * (fk_abs (a * 1000000) % b) - b < 0
      · rw [if_pos q2, if_pos (by omega)]; rfl
      · rw [if_neg q2, if_neg (by omega)]; rfl
theorem fk_msA {a b : Int} (hb : 0 < b) (ha : -18889465931478580854784 ≤ a ∧ a ≤ 18889465931478580854784) (hb2 : b ≤ 1000) : fk_abs (fk_round 2 (a * 1000000) b) = fk_ms a b ∧ (fk_round 2 (a * 1000000) b < 0 ↔ a < 0 ∧ fk_ms a b ≠ 0) := by
  have m := fk_ms_bd ha (b := b) (by omega)
  rw [fk_round, fk_msR a hb]
  rcases fk_sgn_cases (a * 1000000) with ⟨x, y⟩ | ⟨x, y⟩
  · rw [y]
    have := fk_abs_cases (fk_ms a b * -1)
    exact ⟨by omega, by omega⟩
  · rw [y]
    have := fk_abs_cases (fk_ms a b * 1)
    exact ⟨by omega, by omega⟩
/-- what comes of a number of which k digits are told, L being the characters so far -/
def fk_rest (k : Nat) (m : Int) (L : List Int32) : List Int32 := if k ≤ 6 then fk_wl 39 (m / 10 ^ (6 - k) / 10) (fk_pt (fk_pl (6 - k) m L) ++ [fk_dc (m / 10 ^ (6 - k))]) else fk_wl (46 - k) m L
theorem fk_rest_0 (a b : Int) : fk_rest 0 (fk_ms a b) [] = fk_tl4 a b := by
  rw [fk_rest, if_pos (by omega), fk_tl4]; rfl
theorem fk_d10 (m : Int) {k : Nat} (h : k < 6) : m / 10 / 10 ^ (6 - (k + 1)) = m / 10 ^ (6 - k) := by
  rw [show 6 - k = 6 - (k + 1) + 1 by omega, Int.pow_succ, Int.mul_comm, Int.ediv_ediv_of_nonneg (by omega)]
theorem fk_rest_n {k : Nat} {m : Int} {L : List Int32} (hk : k < 6) (h : ¬ (m % 10 ≠ 0 ∨ L ≠ [])) : fk_rest (k + 1) (m / 10) L = fk_rest k m L := by
  rw [fk_rest, fk_rest, if_pos (by omega), if_pos (by omega), fk_d10 m hk, show 6 - k = 6 - (k + 1) + 1 by omega, fk_pl, if_neg h]
theorem fk_rest_p {k : Nat} {m : Int} {L : List Int32} (h6 : k ≠ 6) (h1 : k < 6 → m % 10 ≠ 0 ∨ L ≠ []) (h2 : 6 < k → m ≠ 0) (hk : k < 46) : fk_rest (k + 1) (m / 10) (L ++ [fk_dc m]) = fk_rest k m L := by
  rcases Nat.lt_or_ge k 6 with q | q
  · rw [fk_rest, fk_rest, if_pos (by omega), if_pos (by omega), fk_d10 m q, show 6 - k = 6 - (k + 1) + 1 by omega, fk_pl, if_pos (h1 q)]
  · rw [fk_rest, fk_rest, if_neg (by omega), if_neg (by omega), show 46 - k = 46 - (k + 1) + 1 by omega, fk_wl_s _ (h2 (by omega))]
theorem fk_rest_6 (m : Int) (L : List Int32) : fk_rest 7 (m / 10) (fk_pt L ++ [fk_dc m]) = fk_rest 6 m L := by
  rw [fk_rest, fk_rest, if_neg (by omega), if_pos (by omega), Nat.sub_self, Int.pow_zero, Int.ediv_one, fk_pl]
theorem fk_rest_e {k : Nat} {L : List Int32} (h : 7 ≤ k) : fk_rest k 0 L = L := by
  rw [fk_rest, if_neg (by omega), fk_wl_0]
/-- characters L stand at the beginning of a row -/
def fk_Lx (L : List Int32) (tx : Nat → Int32) : Prop := ∀ i, i < L.length → tx i = L.getD i 0
theorem fk_Lx_0 (tx : Nat → Int32) : fk_Lx [] tx := fun i h => absurd h (Nat.not_lt_zero i)
theorem fk_Lx_add {L : List Int32} {tx : Nat → Int32} (c : Int32) (h : fk_Lx L tx) : fk_Lx (L ++ [c]) (upd tx L.length c) := by
  intro i hi
  simp only [List.length_append, List.length_singleton] at hi
  by_cases q : i = L.length
  · subst q
    rw [pk_us]; simp
  · rw [pk_un (by omega), h i (by omega)]
    simp only [List.getD_eq_getElem?_getD]
    rw [List.getElem?_append_left (by omega)]
theorem fk_len1 (L : List Int32) (c : Int32) : (L ++ [c]).length = L.length + 1 := by simp
/-- characters L, the last one first, turned round -/
def fk_Rx (L : List Int32) (tx : Nat → Int32) : Prop := ∀ i, i < L.length → tx i = L.getD (L.length - 1 - i) 0
def fk_Tu (L : List Int32) (i : Nat) (tx : Nat → Int32) : Prop := ∀ j, j < L.length → tx j = if j < i ∨ L.length ≤ j + i then L.getD (L.length - 1 - j) 0 else L.getD j 0
theorem fk_Tu_0 {L : List Int32} {tx : Nat → Int32} (h : fk_Lx L tx) : fk_Tu L 0 tx := fun j hj => by rw [if_neg (by omega)]; exact h j hj
theorem fk_Tu_e {L : List Int32} {i : Nat} {tx : Nat → Int32} (h : fk_Tu L i tx) (hi : L.length ≤ 2 * i + 1) : fk_Rx L tx := fun j hj => by
  rw [h j hj]
  by_cases q : j < i ∨ L.length ≤ j + i
  · rw [if_pos q]
  · rw [if_neg q, show L.length - 1 - j = j by omega]
theorem fk_Tu_s {L : List Int32} {i : Nat} {tx : Nat → Int32} (h : fk_Tu L i tx) (hi : 2 * i + 1 < L.length) : fk_Tu L (i + 1) (upd (upd tx i (tx (L.length - 1 - i))) (L.length - 1 - i) (tx i)) := fun j hj => by
  by_cases q1 : j = L.length - 1 - i
  · subst q1
    rw [pk_us, if_pos (by omega), h i (by omega), if_neg (by omega), show L.length - 1 - (L.length - 1 - i) = i by omega]
  · rw [pk_un q1]
    by_cases q2 : j = i
    · subst q2
      rw [pk_us, if_pos (by omega), h _ (by omega), if_neg (by omega)]
    · rw [pk_un q2, h j hj]
      by_cases q3 : j < i ∨ L.length ≤ j + i
      · rw [if_pos q3, if_pos (by omega)]
      · rw [if_neg q3, if_neg (by omega)]
theorem fk_10k {m : Int} {k : Nat} (h : m < 10 ^ (30 - k)) (hm : 1 ≤ m) : k < 30 := by
  rcases Nat.lt_or_ge k 30 with q | q
  · exact q
  · rw [show 30 - k = 0 by omega, Int.pow_zero] at h; omega
theorem fk_10s {m : Int} {k : Nat} (h : m < 10 ^ (30 - k)) (hk : k < 30) : m / 10 < 10 ^ (30 - (k + 1)) := by
  rw [show 30 - k = 30 - (k + 1) + 1 by omega, Int.pow_succ] at h; omega
theorem fk_10le {k : Nat} (h : k ≤ 30) : (10 : Int) ^ (30 - k) ≤ 10 ^ 30 := by
  have e : (10 : Int) ^ 30 = 10 ^ (30 - k) * 10 ^ k := by rw [← Int.pow_add, show 30 - k + k = 30 by omega]
  have p : (0 : Int) < 10 ^ k := Int.pow_pos (by decide)
  have p2 : (0 : Int) < 10 ^ (30 - k) := Int.pow_pos (by decide)
  have : (10 : Int) ^ (30 - k) * 1 ≤ 10 ^ (30 - k) * 10 ^ k := Int.mul_le_mul_of_nonneg_left (by omega) (by omega)
  omega
theorem fk_dq10 (x : Int) : fk_abs (fk_dq x 10) = fk_abs x / 10 := (fk_dq_G (x := x) (y := 10) (by decide)).1
abbrev rmX4_text : Room := { frames := 4, cells := 0, slots := 0, locals := 97 }
set_option maxHeartbeats 4000000 in
set_option maxRecDepth 100000 in
/-- text -/
theorem kX4_text {l : Launch} {D : va_G} {cJ cC cI cZ cK : ClassId} (sz : Nat) (am : Nat → Nat) (tl : va_W) (cd lo tn : Int32) (wd sg : Nat → Int32) (up dn of : Nat → Int64) (bey rnd tx pt sn : Nat → Int32) (n : Nat) (kf : Nat → fk_K) (num : Int32) (v : Int64) (hMT : fk_MT n kf wd sg up dn of bey rnd) (hlo : lo = 0 ∨ lo = 1) : Met l yX4_text wsX4_text rmX4_text (va_Pc [.ref (am 0), .int num, .long v] (fk_pre D (fk_ty cJ cC cI cZ cK) (fk_wm cJ cI cZ am cd (nI n) lo tn wd sg up dn of bey rnd tx pt sn ++ tl) sz)) (va_Qi (fun (r : Int32) (u : Int32 × (Nat → Int32) × (Nat → Int32) × (Nat → Int32)) => (fk_no n num ∧ r = -1 ∧ u.1 = tn ∧ u.2.1 = tx) ∨ ∃ j, j < n ∧ num = nI (j + 1) ∧ r = nI (fk_txt (fk_v (kf j) v) (fk_dn (kf j))).length ∧ u.1 = nI (fk_txt (fk_v (kf j) v) (fk_dn (kf j))).length ∧ (fk_txt (fk_v (kf j) v) (fk_dn (kf j))).length ≤ 36 ∧ fk_Rx (fk_txt (fk_v (kf j) v) (fk_dn (kf j))) u.2.1) (fk_Bd D (fk_ty cJ cC cI cZ cK) (va_A (fk_wm cJ cI cZ am cd (nI n) lo tn wd sg up dn of bey rnd tx pt sn ++ tl) sz) (fun u : Int32 × (Nat → Int32) × (Nat → Int32) × (Nat → Int32) => fk_wm cJ cI cZ am 0 (nI n) lo u.1 wd sg up dn of bey rnd u.2.1 u.2.2.1 u.2.2.2 ++ tl)) (va_A (fk_wm cJ cI cZ am cd (nI n) lo tn wd sg up dn of bey rnd tx pt sn ++ tl) sz)) 0 0 (va_A (fk_wm cJ cI cZ am cd (nI n) lo tn wd sg up dn of bey rnd tx pt sn ++ tl) sz) := by
  refine fk_ofW cX4_text 10 (some .int) (fun A => va_Qi (fun (r : Int32) (u : Int32 × (Nat → Int32) × (Nat → Int32) × (Nat → Int32)) => (fk_no n num ∧ r = -1 ∧ u.1 = tn ∧ u.2.1 = tx) ∨ ∃ j, j < n ∧ num = nI (j + 1) ∧ r = nI (fk_txt (fk_v (kf j) v) (fk_dn (kf j))).length ∧ u.1 = nI (fk_txt (fk_v (kf j) v) (fk_dn (kf j))).length ∧ (fk_txt (fk_v (kf j) v) (fk_dn (kf j))).length ≤ 36 ∧ fk_Rx (fk_txt (fk_v (kf j) v) (fk_dn (kf j))) u.2.1) (fk_Bd D (fk_ty cJ cC cI cZ cK) A (fun u : Int32 × (Nat → Int32) × (Nat → Int32) × (Nat → Int32) => fk_wm cJ cI cZ am 0 (nI n) lo u.1 wd sg up dn of bey rnd u.2.1 u.2.2.1 u.2.2.2 ++ tl)) A) rfl (by decide) (Nat.le_of_ble_eq_true rfl) ?_
  intro p e s m below meth c A ls args QQ hQQ hAt hP hK hN hD hA hS hl
  obtain ⟨⟨hx, hb, hml, hown, hts⟩, hr, hlocks, hin⟩ := hAt
  have hl : lv_has ls 10 [(0, .ref (am 0)), (1, .int num), (2, .long v)] := hl
  have k1 := hts (.fieldLink RX4 113 "FixedKindsModel" "lost" "Z") (by decide +kernel)
  have k2 := (by decide +kernel : ∀ w ∈ u_ws RX4 TX4 14, w ∈ wsX4_text)
  have k3 := hts (.constantLong RX4 86 1000000) (by decide +kernel)
  have k4 := hts (.fieldLink RX4 143 "FixedKindsModel" "textLength" "I") (by decide +kernel)
  have k5 := hts (.fieldLink RX4 39 "FixedKindsModel" "sign" "[I") (by decide +kernel)
  have k6 := hts (.constantLong RX4 146 10) (by decide +kernel)
  have k7 := hts (.fieldLink RX4 36 "FixedKindsModel" "part" "[I") (by decide +kernel)
  have k8 := hts (.fieldLink RX4 33 "FixedKindsModel" "text" "[I") (by decide +kernel)
  have hn40 := hMT.1
  refine lv_aload_n hx hb dX4_text_0 rfl (lv_at hl 0 rfl) ?_
  refine lv_iload_n hx hb dX4_text_1 rfl (lv_at hl 1 rfl) ?_
  refine fk_ci hD hS hA (va_runV (As := [.int num]) (rest := []) ⟨hx, hb, hml, hown, hts⟩ (kX4_none _ am tl cd lo tn wd sg up dn of bey rnd tx pt sn n num hn40) (cwV 1 hts gX4_text_X4_none rfl rfl rfl (by decide +kernel) ⟨Nat.le_of_ble_eq_true rfl, Nat.le_of_ble_eq_true rfl⟩) (fk_preV 0 5 hK hN hP hD rfl rfl) rfl rfl hl.1 rfl (lv_room (Nat.le_of_ble_eq_true rfl)) dX4_text_2 ⟨Nat.le_of_ble_eq_true rfl, Nat.le_of_ble_eq_true rfl⟩) (fun r1 u H locs hw hP hD hS => ?_)
  have hP : va_P D vwCl (fk_wm cJ cI cZ am 0 (nI n) lo tn wd sg up dn of bey rnd tx pt sn ++ tl) H := hP
  have hD : va_D A (fk_wm cJ cI cZ am 0 (nI n) lo tn wd sg up dn of bey rnd tx pt sn ++ tl) := hD
  have zn_jk := hw
  refine lv_if_eq (tgt := 10) hx hb dX4_text_5 (by decide) (fun c_5 => ?_) (fun c_5 => ?_)
  · have hyes_jk : ¬ (num.toInt < 1 ∨ (n : Int) < num.toInt) := by intro q; rw [zn_jk, if_pos q] at c_5; exact absurd c_5 (by decide)
    obtain ⟨jk, hjk, hn_jk⟩ : ∃ j : Nat, j < n ∧ num = nI (j + 1) := ⟨num.toInt.toNat - 1, by omega, by apply Int32.toInt_inj.mp; rw [nI_toInt (by omega)]; omega⟩
    subst hn_jk
    obtain ⟨e1_jk, e2_jk, e3_jk, e4_jk, e5_jk, e6_jk, e7_jk, ok_jk⟩ := hMT.2.1 jk hjk
    have okw_jk := ok_jk.1.1
    refine lv_aload_n hx hb dX4_text_10 rfl (lv_at hl 0 rfl) ?_
    refine va_get (D := D) (ci := 5) (v := .int lo) (C := RX4) (T := TX4) (N := 14) hx hb hts k2 hown hK hP 0 rfl rfl 9 (by decide) k1 (fun _ h9 => h9) rfl dX4_text_11 ?_
    refine lv_istore (lv' := [(4, .int lo), (0, .ref (am 0)), (1, .int (nI (jk + 1))), (2, .long v)]) hx hb dX4_text_14 hl (by decide) rfl (fun ls hl => ?_)
    refine lv_aload_n hx hb dX4_text_16 rfl (lv_at hl 1 rfl) ?_
    refine lv_iconst (v := 0) hx hb dX4_text_17 (by decide) ?_
    refine lv_iload_n hx hb dX4_text_18 rfl (lv_at hl 2 rfl) ?_
    refine lv_lload_n hx hb dX4_text_19 rfl (lv_at hl 3 rfl) ?_
    refine fk_cv hD hS hA (va_runV (As := [.int 0, .int (nI (jk + 1)), .long v]) (rest := []) ⟨hx, hb, hml, hown, hts⟩ (kX4_value _ am tl 0 (nI n) lo tn wd sg up dn of bey rnd tx pt sn 0 (jk + 1) (kf jk).1 (kf jk).2.1 (kf jk).2.2.1 (kf jk).2.2.2.1 (kf jk).2.2.2.2.1 v (by omega) (by omega) ok_jk.1 e1_jk e2_jk e3_jk e4_jk e5_jk) (cwV 3 hts gX4_text_X4_value rfl rfl rfl (by decide +kernel) ⟨Nat.le_of_ble_eq_true rfl, Nat.le_of_ble_eq_true rfl⟩) (fk_preV 0 5 hK hN hP hD rfl rfl) rfl rfl hl.1 rfl (lv_room (Nat.le_of_ble_eq_true rfl)) dX4_text_20 ⟨Nat.le_of_ble_eq_true rfl, Nat.le_of_ble_eq_true rfl⟩) (fun u2 H locs hw hP hD hS => ?_)
    have hP : va_P D vwCl (fk_wm cJ cI cZ am 0 (nI n) lo tn wd sg up dn of bey rnd tx u2.1 u2.2 ++ tl) H := hP
    have hD : va_D A (fk_wm cJ cI cZ am 0 (nI n) lo tn wd sg up dn of bey rnd tx u2.1 u2.2 ++ tl) := hD
    obtain ⟨ga_jk, gb_jk, kv_jk⟩ := hw
    have ga_jk : fk_G (fk_v (kf jk) v) 0 u2.1 u2.2 := ga_jk
    have gb_jk : fk_G (fk_dn (kf jk)) 1 u2.1 u2.2 := gb_jk
    have bv_jk := fk_v_bd ok_jk v
    have bd_jk := fk_dn_bd ok_jk
    have KK4 : fk_kr [0, 1, 13, 14, 15, 16, 17, 18, 20, 22, 23] pt sn u2.1 u2.2 := fk_kr_t (fk_kr_0 pt sn) kv_jk (fun r hr => by simp at hr ⊢; omega)
    refine lv_aload_n hx hb dX4_text_23 rfl (lv_at hl 1 rfl) ?_
    refine lv_bipush (v := 14) hx hb dX4_text_24 (by decide) ?_
    refine lv_iconst (v := 0) hx hb dX4_text_26 (by decide) ?_
    refine lv_ldc2 (v := 1000000) hx hb hown k3 dX4_text_27 ?_
    have am1 := fk_absT (a := fk_v (kf jk) v) (A := 18889465931478580854784) (by omega) (by omega)
    have hmil : fk_abs (1000000 : Int64).toInt = 1000000 := by decide
    refine fk_cv hD hS hA (va_runV (As := [.int 14, .int 0, .long 1000000]) (rest := []) ⟨hx, hb, hml, hown, hts⟩ (kX4_multiplyBy _ am tl 0 (nI n) lo tn wd sg up dn of bey rnd tx u2.1 u2.2 14 0 1000000 _ (by omega) (by omega) (by omega) (by omega) (by omega) ga_jk (by rw [hmil, fk_p16]; omega)) (cwV 3 hts gX4_text_X4_multiplyBy rfl rfl rfl (by decide +kernel) ⟨Nat.le_of_ble_eq_true rfl, Nat.le_of_ble_eq_true rfl⟩) (fk_preV 0 5 hK hN hP hD rfl rfl) rfl rfl hl.1 rfl (lv_room (Nat.le_of_ble_eq_true rfl)) dX4_text_30 ⟨Nat.le_of_ble_eq_true rfl, Nat.le_of_ble_eq_true rfl⟩) (fun u5 H locs hw hP hD hS => ?_)
    have hP : va_P D vwCl (fk_wm cJ cI cZ am 0 (nI n) lo tn wd sg up dn of bey rnd tx u5.1 u5.2 ++ tl) H := hP
    have hD : va_D A (fk_wm cJ cI cZ am 0 (nI n) lo tn wd sg up dn of bey rnd tx u5.1 u5.2 ++ tl) := hD
    obtain ⟨gr6, kx7⟩ := hw
    have gg9 := fk_G_kr ga_jk kx7 (by simp <;> omega)
    have gg10 := fk_G_kr gb_jk kx7 (by simp <;> omega)
    have KK11 : fk_kr [0, 1, 13, 14, 15, 16, 17, 18, 20, 22, 23] pt sn u5.1 u5.2 := fk_kr_t KK4 kx7 (fun r hr => by simp at hr ⊢; omega)
    rw [show (1000000 : Int64).toInt = 1000000 by decide] at gr6
    refine lv_aload_n hx hb dX4_text_33 rfl (lv_at hl 1 rfl) ?_
    refine lv_bipush (v := 15) hx hb dX4_text_34 (by decide) ?_
    refine lv_iconst (v := 1) hx hb dX4_text_36 (by decide) ?_
    refine fk_cv hD hS hA (va_runV (As := [.int 15, .int 1]) (rest := []) ⟨hx, hb, hml, hown, hts⟩ (kX4_copy _ am tl 0 (nI n) lo tn wd sg up dn of bey rnd tx u5.1 u5.2 15 1 _ (by omega) (by omega) (by omega) gg10) (cwV 2 hts gX4_text_X4_copy rfl rfl rfl (by decide +kernel) ⟨Nat.le_of_ble_eq_true rfl, Nat.le_of_ble_eq_true rfl⟩) (fk_preV 0 5 hK hN hP hD rfl rfl) rfl rfl hl.1 rfl (lv_room (Nat.le_of_ble_eq_true rfl)) dX4_text_37 ⟨Nat.le_of_ble_eq_true rfl, Nat.le_of_ble_eq_true rfl⟩) (fun u12 H locs hw hP hD hS => ?_)
    have hP : va_P D vwCl (fk_wm cJ cI cZ am 0 (nI n) lo tn wd sg up dn of bey rnd tx u12.1 u12.2 ++ tl) H := hP
    have hD : va_D A (fk_wm cJ cI cZ am 0 (nI n) lo tn wd sg up dn of bey rnd tx u12.1 u12.2 ++ tl) := hD
    obtain ⟨gr13, kx14a, kx14b⟩ := hw
    have kx14 := fk_kr_1 kx14a kx14b
    have gg16 := fk_G_kr gg9 kx14 (by simp <;> omega)
    have gg17 := fk_G_kr gg10 kx14 (by simp <;> omega)
    have gg18 := fk_G_kr gr6 kx14 (by simp <;> omega)
    have KK19 : fk_kr [0, 1, 13, 14, 15, 16, 17, 18, 20, 22, 23] pt sn u12.1 u12.2 := fk_kr_t KK11 kx14 (fun r hr => by simp at hr ⊢; omega)
    refine lv_aload_n hx hb dX4_text_40 rfl (lv_at hl 1 rfl) ?_
    refine lv_bipush (v := 14) hx hb dX4_text_41 (by decide) ?_
    refine lv_iconst (v := 2) hx hb dX4_text_43 (by decide) ?_
    refine fk_cv hD hS hA (va_runV (As := [.int 14, .int 2]) (rest := []) ⟨hx, hb, hml, hown, hts⟩ (kX4_round _ am tl 0 (nI n) lo tn wd sg up dn of bey rnd tx u12.1 u12.2 14 2 _ _ (by omega) gg18 gr13 (by omega) (by rw [fk_abs_mul, show fk_abs 1000000 = 1000000 by decide]; omega) (Or.inr (Or.inr (Or.inl rfl))) (by omega)) (cwV 2 hts gX4_text_X4_round rfl rfl rfl (by decide +kernel) ⟨Nat.le_of_ble_eq_true rfl, Nat.le_of_ble_eq_true rfl⟩) (fk_preV 0 5 hK hN hP hD rfl rfl) rfl rfl hl.1 rfl (lv_room (Nat.le_of_ble_eq_true rfl)) dX4_text_44 ⟨Nat.le_of_ble_eq_true rfl, Nat.le_of_ble_eq_true rfl⟩) (fun u20 H locs hw hP hD hS => ?_)
    have hP : va_P D vwCl (fk_wm cJ cI cZ am 0 (nI n) u20.1 tn wd sg up dn of bey rnd tx u20.2.1 u20.2.2 ++ tl) H := hP
    have hD : va_D A (fk_wm cJ cI cZ am 0 (nI n) u20.1 tn wd sg up dn of bey rnd tx u20.2.1 u20.2.2 ++ tl) := hD
    obtain ⟨-, g16, kx9⟩ := hw
    obtain ⟨hRm, hRn⟩ := fk_msA (b := fk_dn (kf jk)) (by omega) bv_jk bd_jk.2
    have hmb := fk_ms_bd bv_jk (b := fk_dn (kf jk)) (by omega)
    have gg22 := fk_G_kr gg16 kx9 (by simp <;> omega)
    have gg23 := fk_G_kr gg17 kx9 (by simp <;> omega)
    have KK24 : fk_kr [0, 1, 13, 14, 15, 16, 17, 18, 20, 22, 23] pt sn u20.2.1 u20.2.2 := fk_kr_t KK19 kx9 (fun r hr => by simp at hr ⊢; omega)
    refine lv_aload_n hx hb dX4_text_47 rfl (lv_at hl 1 rfl) ?_
    refine lv_iload hx hb dX4_text_48 (lv_at hl 0 rfl) ?_
    refine va_put (D := D) (ci := 5) (v := .int lo) (ty := (.boolean)) (C := RX4) (T := TX4) (N := 14) hx hb hts k2 tyX4 tyX4_ok nmX4 hown hK hP hD hS 0 rfl rfl 9 (by decide) k1 (fun _ h9 => h9) rfl (by decide +kernel) (by rcases hlo with q | q <;> rw [q] <;> rfl) (by rcases hlo with q | q <;> rw [q] <;> rfl) (Nat.le_of_ble_eq_true rfl) dX4_text_50 (fun H locs hP hD hS => ?_)
    have hP : va_P D vwCl (fk_wm cJ cI cZ am 0 (nI n) lo tn wd sg up dn of bey rnd tx u20.2.1 u20.2.2 ++ tl) H := hP
    have hD : va_D A (fk_wm cJ cI cZ am 0 (nI n) lo tn wd sg up dn of bey rnd tx u20.2.1 u20.2.2 ++ tl) := hD
    refine lv_aload_n hx hb dX4_text_53 rfl (lv_at hl 1 rfl) ?_
    refine lv_iconst (v := 0) hx hb dX4_text_54 (by decide) ?_
    refine va_put (D := D) (ci := 5) (v := .int 0) (ty := (.int)) (C := RX4) (T := TX4) (N := 14) hx hb hts k2 tyX4 tyX4_ok nmX4 hown hK hP hD hS 0 rfl rfl 10 (by decide) k4 (fun _ h9 => h9) rfl (by decide +kernel) rfl rfl (Nat.le_of_ble_eq_true rfl) dX4_text_55 (fun H locs hP hD hS => ?_)
    have hP : va_P D vwCl (fk_wm cJ cI cZ am 0 (nI n) lo 0 wd sg up dn of bey rnd tx u20.2.1 u20.2.2 ++ tl) H := hP
    have hD : va_D A (fk_wm cJ cI cZ am 0 (nI n) lo 0 wd sg up dn of bey rnd tx u20.2.1 u20.2.2 ++ tl) := hD
    refine lv_aload_n hx hb dX4_text_58 rfl (lv_at hl 1 rfl) ?_
    refine va_get (D := D) (ci := 5) (v := .ref (am 10)) (C := RX4) (T := TX4) (N := 14) hx hb hts k2 hown hK hP 0 rfl rfl 13 (by decide) k5 (fun _ h9 => h9) rfl dX4_text_59 ?_
    refine lv_bipush (v := 16) hx hb dX4_text_62 (by decide) ?_
    refine fk_iald hx hb hK hP 10 2 rfl rfl (i := 16) (by decide) (by decide) dX4_text_64 ?_
    rw [g16.2]
    refine lv_istore (lv' := [(5, .int (fk_cmp (fk_round 2 (fk_v (kf jk) v * 1000000) (fk_dn (kf jk))))), (4, .int lo), (0, .ref (am 0)), (1, .int (nI (jk + 1))), (2, .long v)]) hx hb dX4_text_65 hl (by decide) rfl (fun ls hl => ?_)
    refine lv_iconst (v := 0) hx hb dX4_text_67 (by decide) ?_
    refine lv_istore (lv' := [(6, .int 0), (5, .int (fk_cmp (fk_round 2 (fk_v (kf jk) v * 1000000) (fk_dn (kf jk))))), (4, .int lo), (0, .ref (am 0)), (1, .int (nI (jk + 1))), (2, .long v)]) hx hb dX4_text_68 hl (by decide) rfl (fun ls hl => ?_)
    refine lv_aload_n hx hb dX4_text_70 rfl (lv_at hl 3 rfl) ?_
    refine lv_bipush (v := 15) hx hb dX4_text_71 (by decide) ?_
    refine lv_ldc2 (v := 10) hx hb hown k6 dX4_text_73 ?_
    refine fk_cv hD hS hA (va_runV (As := [.int 15, .long 10]) (rest := []) ⟨hx, hb, hml, hown, hts⟩ (kX4_set _ am tl 0 (nI n) lo 0 wd sg up dn of bey rnd tx u20.2.1 u20.2.2 15 10 (by omega)) (cwV 2 hts gX4_text_X4_set rfl rfl rfl (by decide +kernel) ⟨Nat.le_of_ble_eq_true rfl, Nat.le_of_ble_eq_true rfl⟩) (fk_preV 0 5 hK hN hP hD rfl rfl) rfl rfl hl.1 rfl (lv_room (Nat.le_of_ble_eq_true rfl)) dX4_text_76 ⟨Nat.le_of_ble_eq_true rfl, Nat.le_of_ble_eq_true rfl⟩) (fun u25 H locs hw hP hD hS => ?_)
    have hP : va_P D vwCl (fk_wm cJ cI cZ am 0 (nI n) lo 0 wd sg up dn of bey rnd tx u25.1 u25.2 ++ tl) H := hP
    have hD : va_D A (fk_wm cJ cI cZ am 0 (nI n) lo 0 wd sg up dn of bey rnd tx u25.1 u25.2 ++ tl) := hD
    obtain ⟨gr26, kx27a, kx27b⟩ := hw
    have kx27 := fk_kr_1 kx27a kx27b
    have gg29 := fk_G_kr gg22 kx27 (by simp <;> omega)
    have gg30 := fk_G_kr gg23 kx27 (by simp <;> omega)
    have gg31 := fk_G_kr g16 kx27 (by simp <;> omega)
    have KK32 : fk_kr [0, 1, 13, 14, 15, 16, 17, 18, 20, 22, 23] pt sn u25.1 u25.2 := fk_kr_t KK24 kx27 (fun r hr => by simp at hr ⊢; omega)
    rw [show (10 : Int64).toInt = 10 by decide] at gr26
    refine lv_iconst (v := 0) hx hb dX4_text_79 (by decide) ?_
    refine lv_istore (lv' := [(7, .int 0), (6, .int 0), (5, .int (fk_cmp (fk_round 2 (fk_v (kf jk) v * 1000000) (fk_dn (kf jk))))), (4, .int lo), (0, .ref (am 0)), (1, .int (nI (jk + 1))), (2, .long v)]) hx hb dX4_text_80 hl (by decide) rfl (fun ls hl => ?_)
    have L82 : ∀ (fu82 : Nat) (k : Nat) (cu : Int) (L : List Int32) (so : Int32) (tv : Nat → Int32) (pv : Nat → Int32) (sv : Nat → Int32), 40 - k < fu82 → (fk_G cu 16 pv sv) → (fk_G 10 15 pv sv) → (fk_abs cu < 10 ^ (30 - k)) → (fk_rest k (fk_abs cu) L = fk_tl4 (fk_v (kf jk) v) (fk_dn (kf jk))) → ((L = [] ∧ so = 0) ∨ (L ≠ [] ∧ so = 1)) → (fk_Lx L tv) → (k ≤ 30) → (L.length ≤ k + k / 7) → (7 ≤ k → L ≠ []) → ∀ (H : Heap) (locs : List Loc) (ls : Array Slot), va_P D vwCl (fk_wm cJ cI cZ am 0 (nI n) lo (nI L.length) wd sg up dn of bey rnd tv pv sv ++ tl) H → va_D A (fk_wm cJ cI cZ am 0 (nI n) lo (nI L.length) wd sg up dn of bey rnd tv pv sv ++ tl) → va_S A s.heap H locs → lv_has ls 10 [(0, .ref (am 0)), (1, .int (nI (jk + 1))), (2, .long v), (4, .int lo), (5, .int (fk_cmp (fk_round 2 (fk_v (kf jk) v * 1000000) (fk_dn (kf jk))))), (6, .int (nI k)), (7, .int so)] → W p l e rmX4_text s m args below meth c H locs 0 0 QQ (F0 m 82 ls []) := by
      intro fu82
      induction fu82 with
      | zero => intro k cu L so tv pv sv hfu; exact absurd hfu (Nat.not_lt_zero _)
      | succ fu82 ih82 =>
        intro k cu L so tv pv sv hfu82 i16 i15 ib ir iso ix ik il i7 H locs ls hP hD hS hl
        refine lv_aload_n hx hb dX4_text_82 rfl (lv_at hl 0 rfl) ?_
        refine va_get (D := D) (ci := 5) (v := .ref (am 10)) (C := RX4) (T := TX4) (N := 14) hx hb hts k2 hown hK hP 0 rfl rfl 13 (by decide) k5 (fun _ h9 => h9) rfl dX4_text_83 ?_
        refine lv_bipush (v := 16) hx hb dX4_text_86 (by decide) ?_
        refine fk_iald hx hb hK hP 10 2 rfl rfl (i := 16) (by decide) (by decide) dX4_text_88 ?_
        refine lv_if_ne (tgt := 99) hx hb dX4_text_89 (by decide) (fun c_89 => ?_) (fun c_89 => ?_)
        · rw [i16.2, fk_cmp_ne] at c_89
          have habs := fk_abs_cases cu
          have hgo : 6 < k → fk_abs cu ≠ 0 := fun _ => by omega
          have hk30 := fk_10k ib (by omega)
          refine lv_aload_n hx hb dX4_text_99 rfl (lv_at hl 0 rfl) ?_
          refine lv_bipush (v := 14) hx hb dX4_text_100 (by decide) ?_
          refine lv_bipush (v := 13) hx hb dX4_text_102 (by decide) ?_
          refine lv_bipush (v := 16) hx hb dX4_text_104 (by decide) ?_
          refine lv_bipush (v := 15) hx hb dX4_text_106 (by decide) ?_
          refine fk_cv hD hS hA (va_runV (As := [.int 14, .int 13, .int 16, .int 15]) (rest := []) ⟨hx, hb, hml, hown, hts⟩ (kX4_divide _ am tl 0 (nI n) lo (nI L.length) wd sg up dn of bey rnd tv pv sv 14 13 16 15 cu 10 (by omega) (by omega) (by omega) (by omega) i16 i15 (by decide) (by have e : (10 : Int) ^ (30 - k) ≤ 10 ^ 30 := fk_10le ik; have e2 : (10 : Int) ^ 30 = 1000000000000000000000000000000 := (by decide); omega)) (cwV 4 hts gX4_text_X4_divide rfl rfl rfl (by decide +kernel) ⟨Nat.le_of_ble_eq_true rfl, Nat.le_of_ble_eq_true rfl⟩) (fk_preV 0 5 hK hN hP hD rfl rfl) rfl rfl hl.1 rfl (lv_room (Nat.le_of_ble_eq_true rfl)) dX4_text_108 ⟨Nat.le_of_ble_eq_true rfl, Nat.le_of_ble_eq_true rfl⟩) (fun u33 H locs hw hP hD hS => ?_)
          have hP : va_P D vwCl (fk_wm cJ cI cZ am 0 (nI n) lo (nI L.length) wd sg up dn of bey rnd tv u33.1 u33.2 ++ tl) H := hP
          have hD : va_D A (fk_wm cJ cI cZ am 0 (nI n) lo (nI L.length) wd sg up dn of bey rnd tv u33.1 u33.2 ++ tl) := hD
          obtain ⟨g14, g13, kd1⟩ := hw
          rw [show fk_abs 10 = 10 by decide] at g13
          have j15 := fk_G_kr i15 kd1 (by simp)
          refine lv_aload_n hx hb dX4_text_111 rfl (lv_at hl 0 rfl) ?_
          refine va_get (D := D) (ci := 5) (v := .ref (am 9)) (C := RX4) (T := TX4) (N := 14) hx hb hts k2 hown hK hP 0 rfl rfl 12 (by decide) k7 (fun _ h9 => h9) rfl dX4_text_112 ?_
          refine lv_sipush (v := 208) hx hb dX4_text_115 (by decide) ?_
          refine fk_iald hx hb hK hP 9 2 rfl rfl (i := 208) (by decide) (by decide) dX4_text_118 ?_
          have hab0 : 0 ≤ fk_abs cu := by have := fk_abs_cases cu; omega
          have hd : u33.1 208 = nI (fk_abs cu % 10).toNat := by
            have q := fk_rlimb g13.1 (j := 0) (by omega)
            rw [Int.pow_zero, Int.ediv_one, show fk_abs (fk_abs cu % 10) = fk_abs cu % 10 by rw [fk_abs, if_neg (by omega)]] at q
            have q2 : (u33.1 208).toInt = fk_abs cu % 10 % 65536 := q
            apply Int32.toInt_inj.mp
            rw [q2, nI_toInt (by omega)]
            omega
          rw [hd]
          have b3 : fk_abs (fk_dq cu 10) < 10 ^ (30 - (k + 1)) := by rw [fk_dq10]; exact fk_10s ib hk30
          have b7 : k + 1 ≤ 30 := by omega
          refine lv_istore (lv' := [(8, .int (nI (fk_abs cu % 10).toNat)), (0, .ref (am 0)), (1, .int (nI (jk + 1))), (2, .long v), (4, .int lo), (5, .int (fk_cmp (fk_round 2 (fk_v (kf jk) v * 1000000) (fk_dn (kf jk))))), (6, .int (nI k)), (7, .int so)]) hx hb dX4_text_119 hl (by decide) rfl (fun ls hl => ?_)
          refine lv_iload hx hb dX4_text_121 (lv_at hl 7 rfl) ?_
          refine lv_if_ne (tgt := 138) hx hb dX4_text_123 (by decide) (fun c_123 => ?_) (fun c_123 => ?_)
          · have hL : L ≠ [] := by rcases iso with q | q; exact absurd q.2 c_123; exact q.1
            refine lv_iconst (v := 1) hx hb dX4_text_138 (by decide) ?_
            refine lv_goto (tgt := 143) hx hb dX4_text_139 (by decide) ?_
            refine lv_istore (lv' := [(7, .int 1), (8, .int (nI (fk_abs cu % 10).toNat)), (0, .ref (am 0)), (1, .int (nI (jk + 1))), (2, .long v), (4, .int lo), (5, .int (fk_cmp (fk_round 2 (fk_v (kf jk) v * 1000000) (fk_dn (kf jk))))), (6, .int (nI k))]) hx hb dX4_text_143 hl (by decide) rfl (fun ls hl => ?_)
            refine lv_iload hx hb dX4_text_145 (lv_at hl 7 rfl) ?_
            refine lv_bipush (v := 6) hx hb dX4_text_147 (by decide) ?_
            refine lv_icmp_ne (tgt := 165) hx hb dX4_text_149 (by decide) (fun c_149 => ?_) (fun c_149 => ?_)
            · have hn6 : k ≠ 6 := fun q => c_149 (by rw [q]; rfl)
              refine lv_iload hx hb dX4_text_165 (lv_at hl 0 rfl) ?_
              refine lv_if_eq (tgt := 179) hx hb dX4_text_167 (by decide) (fun c_167 => False.elim (absurd c_167 (by decide))) (fun c_167 => ?_)
              refine lv_aload_n hx hb dX4_text_170 rfl (lv_at hl 2 rfl) ?_
              refine lv_bipush (v := 48) hx hb dX4_text_171 (by decide) ?_
              refine lv_iload hx hb dX4_text_173 (lv_at hl 1 rfl) ?_
              refine lv_iadd hx hb dX4_text_175 ?_
              refine lv_topi (fun x35 ex35 => ?_)
              have ex35q : x35 = fk_dc (fk_abs cu) := by
                rw [ex35]; exact nI_add 48 (fk_abs cu % 10).toNat
              subst ex35q
              refine fk_cv hD hS hA (va_runV (As := [.int (fk_dc (fk_abs cu))]) (rest := []) ⟨hx, hb, hml, hown, hts⟩ (kX4_letter _ am tl 0 (nI n) lo wd sg up dn of bey rnd tv u33.1 u33.2 ((L).length) (fk_dc (fk_abs cu)) (by omega)) (cwV 1 hts gX4_text_X4_letter rfl rfl rfl (by decide +kernel) ⟨Nat.le_of_ble_eq_true rfl, Nat.le_of_ble_eq_true rfl⟩) (fk_preV 0 5 hK hN hP hD rfl rfl) rfl rfl hl.1 rfl (lv_room (Nat.le_of_ble_eq_true rfl)) dX4_text_176 ⟨Nat.le_of_ble_eq_true rfl, Nat.le_of_ble_eq_true rfl⟩) (fun u H locs hw hP hD hS => ?_)
              have hP : va_P D vwCl (fk_wm cJ cI cZ am 0 (nI n) lo (nI ((L).length + 1)) wd sg up dn of bey rnd (upd tv ((L).length) (fk_dc (fk_abs cu))) u33.1 u33.2 ++ tl) H := hP
              have hD : va_D A (fk_wm cJ cI cZ am 0 (nI n) lo (nI ((L).length + 1)) wd sg up dn of bey rnd (upd tv ((L).length) (fk_dc (fk_abs cu))) u33.1 u33.2 ++ tl) := hD
              rw [← fk_len1 L (fk_dc (fk_abs cu))] at hP hD
              have hx37 := fk_Lx_add (fk_dc (fk_abs cu)) ix
              have hP : va_P D vwCl (fk_wm cJ cI cZ am 0 (nI n) lo (nI (L ++ [(fk_dc (fk_abs cu))]).length) wd sg up dn of bey rnd (upd tv ((L).length) (fk_dc (fk_abs cu))) u33.1 u33.2 ++ tl) H := hP
              have hD : va_D A (fk_wm cJ cI cZ am 0 (nI n) lo (nI (L ++ [(fk_dc (fk_abs cu))]).length) wd sg up dn of bey rnd (upd tv ((L).length) (fk_dc (fk_abs cu))) u33.1 u33.2 ++ tl) := hD
              have hr : fk_rest (k + 1) (fk_abs (fk_dq cu 10)) (L ++ [(fk_dc (fk_abs cu))]) = fk_tl4 (fk_v (kf jk) v) (fk_dn (kf jk)) := by rw [fk_dq10, fk_rest_p hn6 (fun _ => Or.inr hL) hgo (by omega)]; exact ir
              have hso : ((L ++ [(fk_dc (fk_abs cu))]) = [] ∧ (1 : Int32) = 0) ∨ ((L ++ [(fk_dc (fk_abs cu))]) ≠ [] ∧ (1 : Int32) = 1) := Or.inr ⟨by simp, rfl⟩
              refine lv_aload_n hx hb dX4_text_179 rfl (lv_at hl 2 rfl) ?_
              refine lv_bipush (v := 16) hx hb dX4_text_180 (by decide) ?_
              refine lv_bipush (v := 14) hx hb dX4_text_182 (by decide) ?_
              refine fk_cv hD hS hA (va_runV (As := [.int 16, .int 14]) (rest := []) ⟨hx, hb, hml, hown, hts⟩ (kX4_copy _ am tl 0 (nI n) lo (nI (L ++ [(fk_dc (fk_abs cu))]).length) wd sg up dn of bey rnd (upd tv ((L).length) (fk_dc (fk_abs cu))) u33.1 u33.2 16 14 _ (by omega) (by omega) (by omega) g14) (cwV 2 hts gX4_text_X4_copy rfl rfl rfl (by decide +kernel) ⟨Nat.le_of_ble_eq_true rfl, Nat.le_of_ble_eq_true rfl⟩) (fk_preV 0 5 hK hN hP hD rfl rfl) rfl rfl hl.1 rfl (lv_room (Nat.le_of_ble_eq_true rfl)) dX4_text_184 ⟨Nat.le_of_ble_eq_true rfl, Nat.le_of_ble_eq_true rfl⟩) (fun u38 H locs hw hP hD hS => ?_)
              have hP : va_P D vwCl (fk_wm cJ cI cZ am 0 (nI n) lo (nI (L ++ [(fk_dc (fk_abs cu))]).length) wd sg up dn of bey rnd (upd tv ((L).length) (fk_dc (fk_abs cu))) u38.1 u38.2 ++ tl) H := hP
              have hD : va_D A (fk_wm cJ cI cZ am 0 (nI n) lo (nI (L ++ [(fk_dc (fk_abs cu))]).length) wd sg up dn of bey rnd (upd tv ((L).length) (fk_dc (fk_abs cu))) u38.1 u38.2 ++ tl) := hD
              obtain ⟨n16, f1, f2⟩ := hw
              have n15 := fk_G_keep j15 f1 f2 (by omega)
              refine lv_iinc (v := nI (k + 1)) (lv' := [(6, .int (nI (k + 1))), (7, .int 1), (8, .int (nI (fk_abs cu % 10).toNat)), (0, .ref (am 0)), (1, .int (nI (jk + 1))), (2, .long v), (4, .int lo), (5, .int (fk_cmp (fk_round 2 (fk_v (kf jk) v * 1000000) (fk_dn (kf jk)))))]) hx hb dX4_text_187 hl (k := 7) rfl (by exact nI_1 k) (by decide) rfl (fun ls hl => ?_)
              refine lv_goto (tgt := 82) hx hb dX4_text_190 (by decide) ?_
              exact ih82 (k + 1) (fk_dq cu 10) (L ++ [(fk_dc (fk_abs cu))]) 1 (upd tv ((L).length) (fk_dc (fk_abs cu))) u38.1 u38.2 (by omega) n16 n15 b3 hr hso hx37 b7 (by simp only [List.length_append, List.length_singleton]; omega) (by intro _; simp) _ _ _ hP hD hS (lv_sub hl [3, 4, 5, 6, 7, 0, 1] rfl)
            · have he6 : k = 6 := (nI_eq (a := k) (b := 6) (by omega) (by omega)).mp c_149
              refine lv_aload_n hx hb dX4_text_152 rfl (lv_at hl 2 rfl) ?_
              refine va_get (D := D) (ci := 5) (v := .int (nI L.length)) (C := RX4) (T := TX4) (N := 14) hx hb hts k2 hown hK hP 0 rfl rfl 10 (by decide) k4 (fun _ h9 => h9) rfl dX4_text_153 ?_
              refine lv_if_le (tgt := 165) hx hb dX4_text_156 (by decide) (fun c_156 => ?_) (fun c_156 => ?_)
              · rw [Int32.le_iff_toInt_le, show (0 : Int32).toInt = 0 by decide, nI_toInt (by omega)] at c_156
                have hLe : L = [] := List.eq_nil_of_length_eq_zero (by omega)
                refine lv_iload hx hb dX4_text_165 (lv_at hl 0 rfl) ?_
                refine lv_if_eq (tgt := 179) hx hb dX4_text_167 (by decide) (fun c_167 => False.elim (absurd c_167 (by decide))) (fun c_167 => ?_)
                refine lv_aload_n hx hb dX4_text_170 rfl (lv_at hl 2 rfl) ?_
                refine lv_bipush (v := 48) hx hb dX4_text_171 (by decide) ?_
                refine lv_iload hx hb dX4_text_173 (lv_at hl 1 rfl) ?_
                refine lv_iadd hx hb dX4_text_175 ?_
                refine lv_topi (fun x40 ex40 => ?_)
                have ex40q : x40 = fk_dc (fk_abs cu) := by
                  rw [ex40]; exact nI_add 48 (fk_abs cu % 10).toNat
                subst ex40q
                refine fk_cv hD hS hA (va_runV (As := [.int (fk_dc (fk_abs cu))]) (rest := []) ⟨hx, hb, hml, hown, hts⟩ (kX4_letter _ am tl 0 (nI n) lo wd sg up dn of bey rnd tv u33.1 u33.2 ((L).length) (fk_dc (fk_abs cu)) (by omega)) (cwV 1 hts gX4_text_X4_letter rfl rfl rfl (by decide +kernel) ⟨Nat.le_of_ble_eq_true rfl, Nat.le_of_ble_eq_true rfl⟩) (fk_preV 0 5 hK hN hP hD rfl rfl) rfl rfl hl.1 rfl (lv_room (Nat.le_of_ble_eq_true rfl)) dX4_text_176 ⟨Nat.le_of_ble_eq_true rfl, Nat.le_of_ble_eq_true rfl⟩) (fun u H locs hw hP hD hS => ?_)
                have hP : va_P D vwCl (fk_wm cJ cI cZ am 0 (nI n) lo (nI ((L).length + 1)) wd sg up dn of bey rnd (upd tv ((L).length) (fk_dc (fk_abs cu))) u33.1 u33.2 ++ tl) H := hP
                have hD : va_D A (fk_wm cJ cI cZ am 0 (nI n) lo (nI ((L).length + 1)) wd sg up dn of bey rnd (upd tv ((L).length) (fk_dc (fk_abs cu))) u33.1 u33.2 ++ tl) := hD
                rw [← fk_len1 L (fk_dc (fk_abs cu))] at hP hD
                have hx42 := fk_Lx_add (fk_dc (fk_abs cu)) ix
                have hP : va_P D vwCl (fk_wm cJ cI cZ am 0 (nI n) lo (nI (L ++ [(fk_dc (fk_abs cu))]).length) wd sg up dn of bey rnd (upd tv ((L).length) (fk_dc (fk_abs cu))) u33.1 u33.2 ++ tl) H := hP
                have hD : va_D A (fk_wm cJ cI cZ am 0 (nI n) lo (nI (L ++ [(fk_dc (fk_abs cu))]).length) wd sg up dn of bey rnd (upd tv ((L).length) (fk_dc (fk_abs cu))) u33.1 u33.2 ++ tl) := hD
                have hr : fk_rest (k + 1) (fk_abs (fk_dq cu 10)) (L ++ [(fk_dc (fk_abs cu))]) = fk_tl4 (fk_v (kf jk) v) (fk_dn (kf jk)) := by
                  have q := fk_rest_6 (fk_abs cu) L
                  rw [fk_pt, if_neg (fun q => q hLe)] at q
                  subst he6
                  rw [fk_dq10]; exact q.trans ir
                have hso : ((L ++ [(fk_dc (fk_abs cu))]) = [] ∧ (1 : Int32) = 0) ∨ ((L ++ [(fk_dc (fk_abs cu))]) ≠ [] ∧ (1 : Int32) = 1) := Or.inr ⟨by simp, rfl⟩
                refine lv_aload_n hx hb dX4_text_179 rfl (lv_at hl 2 rfl) ?_
                refine lv_bipush (v := 16) hx hb dX4_text_180 (by decide) ?_
                refine lv_bipush (v := 14) hx hb dX4_text_182 (by decide) ?_
                refine fk_cv hD hS hA (va_runV (As := [.int 16, .int 14]) (rest := []) ⟨hx, hb, hml, hown, hts⟩ (kX4_copy _ am tl 0 (nI n) lo (nI (L ++ [(fk_dc (fk_abs cu))]).length) wd sg up dn of bey rnd (upd tv ((L).length) (fk_dc (fk_abs cu))) u33.1 u33.2 16 14 _ (by omega) (by omega) (by omega) g14) (cwV 2 hts gX4_text_X4_copy rfl rfl rfl (by decide +kernel) ⟨Nat.le_of_ble_eq_true rfl, Nat.le_of_ble_eq_true rfl⟩) (fk_preV 0 5 hK hN hP hD rfl rfl) rfl rfl hl.1 rfl (lv_room (Nat.le_of_ble_eq_true rfl)) dX4_text_184 ⟨Nat.le_of_ble_eq_true rfl, Nat.le_of_ble_eq_true rfl⟩) (fun u43 H locs hw hP hD hS => ?_)
                have hP : va_P D vwCl (fk_wm cJ cI cZ am 0 (nI n) lo (nI (L ++ [(fk_dc (fk_abs cu))]).length) wd sg up dn of bey rnd (upd tv ((L).length) (fk_dc (fk_abs cu))) u43.1 u43.2 ++ tl) H := hP
                have hD : va_D A (fk_wm cJ cI cZ am 0 (nI n) lo (nI (L ++ [(fk_dc (fk_abs cu))]).length) wd sg up dn of bey rnd (upd tv ((L).length) (fk_dc (fk_abs cu))) u43.1 u43.2 ++ tl) := hD
                obtain ⟨n16, f1, f2⟩ := hw
                have n15 := fk_G_keep j15 f1 f2 (by omega)
                refine lv_iinc (v := nI (k + 1)) (lv' := [(6, .int (nI (k + 1))), (7, .int 1), (8, .int (nI (fk_abs cu % 10).toNat)), (0, .ref (am 0)), (1, .int (nI (jk + 1))), (2, .long v), (4, .int lo), (5, .int (fk_cmp (fk_round 2 (fk_v (kf jk) v * 1000000) (fk_dn (kf jk)))))]) hx hb dX4_text_187 hl (k := 7) rfl (by exact nI_1 k) (by decide) rfl (fun ls hl => ?_)
                refine lv_goto (tgt := 82) hx hb dX4_text_190 (by decide) ?_
                exact ih82 (k + 1) (fk_dq cu 10) (L ++ [(fk_dc (fk_abs cu))]) 1 (upd tv ((L).length) (fk_dc (fk_abs cu))) u43.1 u43.2 (by omega) n16 n15 b3 hr hso hx42 b7 (by simp only [List.length_append, List.length_singleton]; omega) (by intro _; simp) _ _ _ hP hD hS (lv_sub hl [3, 4, 5, 6, 7, 0, 1] rfl)
              · rw [Int32.le_iff_toInt_le, show (0 : Int32).toInt = 0 by decide, nI_toInt (by omega)] at c_156
                have hLn : L ≠ [] := fun q => by rw [q] at c_156; exact c_156 (by decide)
                refine lv_aload_n hx hb dX4_text_159 rfl (lv_at hl 2 rfl) ?_
                refine lv_bipush (v := 46) hx hb dX4_text_160 (by decide) ?_
                refine fk_cv hD hS hA (va_runV (As := [.int 46]) (rest := []) ⟨hx, hb, hml, hown, hts⟩ (kX4_letter _ am tl 0 (nI n) lo wd sg up dn of bey rnd tv u33.1 u33.2 ((L).length) 46 (by omega)) (cwV 1 hts gX4_text_X4_letter rfl rfl rfl (by decide +kernel) ⟨Nat.le_of_ble_eq_true rfl, Nat.le_of_ble_eq_true rfl⟩) (fk_preV 0 5 hK hN hP hD rfl rfl) rfl rfl hl.1 rfl (lv_room (Nat.le_of_ble_eq_true rfl)) dX4_text_162 ⟨Nat.le_of_ble_eq_true rfl, Nat.le_of_ble_eq_true rfl⟩) (fun u H locs hw hP hD hS => ?_)
                have hP : va_P D vwCl (fk_wm cJ cI cZ am 0 (nI n) lo (nI ((L).length + 1)) wd sg up dn of bey rnd (upd tv ((L).length) 46) u33.1 u33.2 ++ tl) H := hP
                have hD : va_D A (fk_wm cJ cI cZ am 0 (nI n) lo (nI ((L).length + 1)) wd sg up dn of bey rnd (upd tv ((L).length) 46) u33.1 u33.2 ++ tl) := hD
                rw [← fk_len1 L 46] at hP hD
                have hx46 := fk_Lx_add 46 ix
                have hP : va_P D vwCl (fk_wm cJ cI cZ am 0 (nI n) lo (nI (L ++ [46]).length) wd sg up dn of bey rnd (upd tv ((L).length) 46) u33.1 u33.2 ++ tl) H := hP
                have hD : va_D A (fk_wm cJ cI cZ am 0 (nI n) lo (nI (L ++ [46]).length) wd sg up dn of bey rnd (upd tv ((L).length) 46) u33.1 u33.2 ++ tl) := hD
                refine lv_iload hx hb dX4_text_165 (lv_at hl 0 rfl) ?_
                refine lv_if_eq (tgt := 179) hx hb dX4_text_167 (by decide) (fun c_167 => False.elim (absurd c_167 (by decide))) (fun c_167 => ?_)
                refine lv_aload_n hx hb dX4_text_170 rfl (lv_at hl 2 rfl) ?_
                refine lv_bipush (v := 48) hx hb dX4_text_171 (by decide) ?_
                refine lv_iload hx hb dX4_text_173 (lv_at hl 1 rfl) ?_
                refine lv_iadd hx hb dX4_text_175 ?_
                refine lv_topi (fun x47 ex47 => ?_)
                have ex47q : x47 = fk_dc (fk_abs cu) := by
                  rw [ex47]; exact nI_add 48 (fk_abs cu % 10).toNat
                subst ex47q
                refine fk_cv hD hS hA (va_runV (As := [.int (fk_dc (fk_abs cu))]) (rest := []) ⟨hx, hb, hml, hown, hts⟩ (kX4_letter _ am tl 0 (nI n) lo wd sg up dn of bey rnd (upd tv ((L).length) 46) u33.1 u33.2 (((L ++ [46])).length) (fk_dc (fk_abs cu)) (by rw [fk_len1]; omega)) (cwV 1 hts gX4_text_X4_letter rfl rfl rfl (by decide +kernel) ⟨Nat.le_of_ble_eq_true rfl, Nat.le_of_ble_eq_true rfl⟩) (fk_preV 0 5 hK hN hP hD rfl rfl) rfl rfl hl.1 rfl (lv_room (Nat.le_of_ble_eq_true rfl)) dX4_text_176 ⟨Nat.le_of_ble_eq_true rfl, Nat.le_of_ble_eq_true rfl⟩) (fun u H locs hw hP hD hS => ?_)
                have hP : va_P D vwCl (fk_wm cJ cI cZ am 0 (nI n) lo (nI (((L ++ [46])).length + 1)) wd sg up dn of bey rnd (upd (upd tv ((L).length) 46) (((L ++ [46])).length) (fk_dc (fk_abs cu))) u33.1 u33.2 ++ tl) H := hP
                have hD : va_D A (fk_wm cJ cI cZ am 0 (nI n) lo (nI (((L ++ [46])).length + 1)) wd sg up dn of bey rnd (upd (upd tv ((L).length) 46) (((L ++ [46])).length) (fk_dc (fk_abs cu))) u33.1 u33.2 ++ tl) := hD
                rw [← fk_len1 (L ++ [46]) (fk_dc (fk_abs cu))] at hP hD
                have hx49 := fk_Lx_add (fk_dc (fk_abs cu)) hx46
                have hP : va_P D vwCl (fk_wm cJ cI cZ am 0 (nI n) lo (nI ((L ++ [46]) ++ [(fk_dc (fk_abs cu))]).length) wd sg up dn of bey rnd (upd (upd tv ((L).length) 46) (((L ++ [46])).length) (fk_dc (fk_abs cu))) u33.1 u33.2 ++ tl) H := hP
                have hD : va_D A (fk_wm cJ cI cZ am 0 (nI n) lo (nI ((L ++ [46]) ++ [(fk_dc (fk_abs cu))]).length) wd sg up dn of bey rnd (upd (upd tv ((L).length) 46) (((L ++ [46])).length) (fk_dc (fk_abs cu))) u33.1 u33.2 ++ tl) := hD
                have hr : fk_rest (k + 1) (fk_abs (fk_dq cu 10)) ((L ++ [46]) ++ [(fk_dc (fk_abs cu))]) = fk_tl4 (fk_v (kf jk) v) (fk_dn (kf jk)) := by
                  have q := fk_rest_6 (fk_abs cu) L
                  rw [fk_pt, if_pos hLn] at q
                  subst he6
                  rw [fk_dq10]; exact q.trans ir
                have hso : (((L ++ [46]) ++ [(fk_dc (fk_abs cu))]) = [] ∧ (1 : Int32) = 0) ∨ (((L ++ [46]) ++ [(fk_dc (fk_abs cu))]) ≠ [] ∧ (1 : Int32) = 1) := Or.inr ⟨by simp, rfl⟩
                refine lv_aload_n hx hb dX4_text_179 rfl (lv_at hl 2 rfl) ?_
                refine lv_bipush (v := 16) hx hb dX4_text_180 (by decide) ?_
                refine lv_bipush (v := 14) hx hb dX4_text_182 (by decide) ?_
                refine fk_cv hD hS hA (va_runV (As := [.int 16, .int 14]) (rest := []) ⟨hx, hb, hml, hown, hts⟩ (kX4_copy _ am tl 0 (nI n) lo (nI ((L ++ [46]) ++ [(fk_dc (fk_abs cu))]).length) wd sg up dn of bey rnd (upd (upd tv ((L).length) 46) (((L ++ [46])).length) (fk_dc (fk_abs cu))) u33.1 u33.2 16 14 _ (by omega) (by omega) (by omega) g14) (cwV 2 hts gX4_text_X4_copy rfl rfl rfl (by decide +kernel) ⟨Nat.le_of_ble_eq_true rfl, Nat.le_of_ble_eq_true rfl⟩) (fk_preV 0 5 hK hN hP hD rfl rfl) rfl rfl hl.1 rfl (lv_room (Nat.le_of_ble_eq_true rfl)) dX4_text_184 ⟨Nat.le_of_ble_eq_true rfl, Nat.le_of_ble_eq_true rfl⟩) (fun u50 H locs hw hP hD hS => ?_)
                have hP : va_P D vwCl (fk_wm cJ cI cZ am 0 (nI n) lo (nI ((L ++ [46]) ++ [(fk_dc (fk_abs cu))]).length) wd sg up dn of bey rnd (upd (upd tv ((L).length) 46) (((L ++ [46])).length) (fk_dc (fk_abs cu))) u50.1 u50.2 ++ tl) H := hP
                have hD : va_D A (fk_wm cJ cI cZ am 0 (nI n) lo (nI ((L ++ [46]) ++ [(fk_dc (fk_abs cu))]).length) wd sg up dn of bey rnd (upd (upd tv ((L).length) 46) (((L ++ [46])).length) (fk_dc (fk_abs cu))) u50.1 u50.2 ++ tl) := hD
                obtain ⟨n16, f1, f2⟩ := hw
                have n15 := fk_G_keep j15 f1 f2 (by omega)
                refine lv_iinc (v := nI (k + 1)) (lv' := [(6, .int (nI (k + 1))), (7, .int 1), (8, .int (nI (fk_abs cu % 10).toNat)), (0, .ref (am 0)), (1, .int (nI (jk + 1))), (2, .long v), (4, .int lo), (5, .int (fk_cmp (fk_round 2 (fk_v (kf jk) v * 1000000) (fk_dn (kf jk)))))]) hx hb dX4_text_187 hl (k := 7) rfl (by exact nI_1 k) (by decide) rfl (fun ls hl => ?_)
                refine lv_goto (tgt := 82) hx hb dX4_text_190 (by decide) ?_
                exact ih82 (k + 1) (fk_dq cu 10) ((L ++ [46]) ++ [(fk_dc (fk_abs cu))]) 1 (upd (upd tv ((L).length) 46) (((L ++ [46])).length) (fk_dc (fk_abs cu))) u50.1 u50.2 (by omega) n16 n15 b3 hr hso hx49 b7 (by simp only [List.length_append, List.length_singleton]; omega) (by intro _; simp) _ _ _ hP hD hS (lv_sub hl [3, 4, 5, 6, 7, 0, 1] rfl)
          · have hL : L = [] := by rcases iso with q | q; exact q.1; exact absurd (q.2.symm.trans c_123) (by decide)
            refine lv_iload hx hb dX4_text_126 (lv_at hl 0 rfl) ?_
            refine lv_if_gt (tgt := 138) hx hb dX4_text_128 (by decide) (fun c_128 => ?_) (fun c_128 => ?_)
            · rw [Int32.lt_iff_toInt_lt, show (0 : Int32).toInt = 0 by decide, nI_toInt (by omega)] at c_128
              have hdg : fk_abs cu % 10 ≠ 0 := by omega
              refine lv_iconst (v := 1) hx hb dX4_text_138 (by decide) ?_
              refine lv_goto (tgt := 143) hx hb dX4_text_139 (by decide) ?_
              refine lv_istore (lv' := [(7, .int 1), (8, .int (nI (fk_abs cu % 10).toNat)), (0, .ref (am 0)), (1, .int (nI (jk + 1))), (2, .long v), (4, .int lo), (5, .int (fk_cmp (fk_round 2 (fk_v (kf jk) v * 1000000) (fk_dn (kf jk))))), (6, .int (nI k))]) hx hb dX4_text_143 hl (by decide) rfl (fun ls hl => ?_)
              refine lv_iload hx hb dX4_text_145 (lv_at hl 7 rfl) ?_
              refine lv_bipush (v := 6) hx hb dX4_text_147 (by decide) ?_
              refine lv_icmp_ne (tgt := 165) hx hb dX4_text_149 (by decide) (fun c_149 => ?_) (fun c_149 => ?_)
              · have hn6 : k ≠ 6 := fun q => c_149 (by rw [q]; rfl)
                refine lv_iload hx hb dX4_text_165 (lv_at hl 0 rfl) ?_
                refine lv_if_eq (tgt := 179) hx hb dX4_text_167 (by decide) (fun c_167 => False.elim (absurd c_167 (by decide))) (fun c_167 => ?_)
                refine lv_aload_n hx hb dX4_text_170 rfl (lv_at hl 2 rfl) ?_
                refine lv_bipush (v := 48) hx hb dX4_text_171 (by decide) ?_
                refine lv_iload hx hb dX4_text_173 (lv_at hl 1 rfl) ?_
                refine lv_iadd hx hb dX4_text_175 ?_
                refine lv_topi (fun x52 ex52 => ?_)
                have ex52q : x52 = fk_dc (fk_abs cu) := by
                  rw [ex52]; exact nI_add 48 (fk_abs cu % 10).toNat
                subst ex52q
                refine fk_cv hD hS hA (va_runV (As := [.int (fk_dc (fk_abs cu))]) (rest := []) ⟨hx, hb, hml, hown, hts⟩ (kX4_letter _ am tl 0 (nI n) lo wd sg up dn of bey rnd tv u33.1 u33.2 ((L).length) (fk_dc (fk_abs cu)) (by omega)) (cwV 1 hts gX4_text_X4_letter rfl rfl rfl (by decide +kernel) ⟨Nat.le_of_ble_eq_true rfl, Nat.le_of_ble_eq_true rfl⟩) (fk_preV 0 5 hK hN hP hD rfl rfl) rfl rfl hl.1 rfl (lv_room (Nat.le_of_ble_eq_true rfl)) dX4_text_176 ⟨Nat.le_of_ble_eq_true rfl, Nat.le_of_ble_eq_true rfl⟩) (fun u H locs hw hP hD hS => ?_)
                have hP : va_P D vwCl (fk_wm cJ cI cZ am 0 (nI n) lo (nI ((L).length + 1)) wd sg up dn of bey rnd (upd tv ((L).length) (fk_dc (fk_abs cu))) u33.1 u33.2 ++ tl) H := hP
                have hD : va_D A (fk_wm cJ cI cZ am 0 (nI n) lo (nI ((L).length + 1)) wd sg up dn of bey rnd (upd tv ((L).length) (fk_dc (fk_abs cu))) u33.1 u33.2 ++ tl) := hD
                rw [← fk_len1 L (fk_dc (fk_abs cu))] at hP hD
                have hx54 := fk_Lx_add (fk_dc (fk_abs cu)) ix
                have hP : va_P D vwCl (fk_wm cJ cI cZ am 0 (nI n) lo (nI (L ++ [(fk_dc (fk_abs cu))]).length) wd sg up dn of bey rnd (upd tv ((L).length) (fk_dc (fk_abs cu))) u33.1 u33.2 ++ tl) H := hP
                have hD : va_D A (fk_wm cJ cI cZ am 0 (nI n) lo (nI (L ++ [(fk_dc (fk_abs cu))]).length) wd sg up dn of bey rnd (upd tv ((L).length) (fk_dc (fk_abs cu))) u33.1 u33.2 ++ tl) := hD
                have hr : fk_rest (k + 1) (fk_abs (fk_dq cu 10)) (L ++ [(fk_dc (fk_abs cu))]) = fk_tl4 (fk_v (kf jk) v) (fk_dn (kf jk)) := by rw [fk_dq10, fk_rest_p hn6 (fun _ => Or.inl hdg) hgo (by omega)]; exact ir
                have hso : ((L ++ [(fk_dc (fk_abs cu))]) = [] ∧ (1 : Int32) = 0) ∨ ((L ++ [(fk_dc (fk_abs cu))]) ≠ [] ∧ (1 : Int32) = 1) := Or.inr ⟨by simp, rfl⟩
                refine lv_aload_n hx hb dX4_text_179 rfl (lv_at hl 2 rfl) ?_
                refine lv_bipush (v := 16) hx hb dX4_text_180 (by decide) ?_
                refine lv_bipush (v := 14) hx hb dX4_text_182 (by decide) ?_
                refine fk_cv hD hS hA (va_runV (As := [.int 16, .int 14]) (rest := []) ⟨hx, hb, hml, hown, hts⟩ (kX4_copy _ am tl 0 (nI n) lo (nI (L ++ [(fk_dc (fk_abs cu))]).length) wd sg up dn of bey rnd (upd tv ((L).length) (fk_dc (fk_abs cu))) u33.1 u33.2 16 14 _ (by omega) (by omega) (by omega) g14) (cwV 2 hts gX4_text_X4_copy rfl rfl rfl (by decide +kernel) ⟨Nat.le_of_ble_eq_true rfl, Nat.le_of_ble_eq_true rfl⟩) (fk_preV 0 5 hK hN hP hD rfl rfl) rfl rfl hl.1 rfl (lv_room (Nat.le_of_ble_eq_true rfl)) dX4_text_184 ⟨Nat.le_of_ble_eq_true rfl, Nat.le_of_ble_eq_true rfl⟩) (fun u55 H locs hw hP hD hS => ?_)
                have hP : va_P D vwCl (fk_wm cJ cI cZ am 0 (nI n) lo (nI (L ++ [(fk_dc (fk_abs cu))]).length) wd sg up dn of bey rnd (upd tv ((L).length) (fk_dc (fk_abs cu))) u55.1 u55.2 ++ tl) H := hP
                have hD : va_D A (fk_wm cJ cI cZ am 0 (nI n) lo (nI (L ++ [(fk_dc (fk_abs cu))]).length) wd sg up dn of bey rnd (upd tv ((L).length) (fk_dc (fk_abs cu))) u55.1 u55.2 ++ tl) := hD
                obtain ⟨n16, f1, f2⟩ := hw
                have n15 := fk_G_keep j15 f1 f2 (by omega)
                refine lv_iinc (v := nI (k + 1)) (lv' := [(6, .int (nI (k + 1))), (7, .int 1), (8, .int (nI (fk_abs cu % 10).toNat)), (0, .ref (am 0)), (1, .int (nI (jk + 1))), (2, .long v), (4, .int lo), (5, .int (fk_cmp (fk_round 2 (fk_v (kf jk) v * 1000000) (fk_dn (kf jk)))))]) hx hb dX4_text_187 hl (k := 7) rfl (by exact nI_1 k) (by decide) rfl (fun ls hl => ?_)
                refine lv_goto (tgt := 82) hx hb dX4_text_190 (by decide) ?_
                exact ih82 (k + 1) (fk_dq cu 10) (L ++ [(fk_dc (fk_abs cu))]) 1 (upd tv ((L).length) (fk_dc (fk_abs cu))) u55.1 u55.2 (by omega) n16 n15 b3 hr hso hx54 b7 (by simp only [List.length_append, List.length_singleton]; omega) (by intro _; simp) _ _ _ hP hD hS (lv_sub hl [3, 4, 5, 6, 7, 0, 1] rfl)
              · have he6 : k = 6 := (nI_eq (a := k) (b := 6) (by omega) (by omega)).mp c_149
                refine lv_aload_n hx hb dX4_text_152 rfl (lv_at hl 2 rfl) ?_
                refine va_get (D := D) (ci := 5) (v := .int (nI L.length)) (C := RX4) (T := TX4) (N := 14) hx hb hts k2 hown hK hP 0 rfl rfl 10 (by decide) k4 (fun _ h9 => h9) rfl dX4_text_153 ?_
                refine lv_if_le (tgt := 165) hx hb dX4_text_156 (by decide) (fun c_156 => ?_) (fun c_156 => ?_)
                · rw [Int32.le_iff_toInt_le, show (0 : Int32).toInt = 0 by decide, nI_toInt (by omega)] at c_156
                  have hLe : L = [] := List.eq_nil_of_length_eq_zero (by omega)
                  refine lv_iload hx hb dX4_text_165 (lv_at hl 0 rfl) ?_
                  refine lv_if_eq (tgt := 179) hx hb dX4_text_167 (by decide) (fun c_167 => False.elim (absurd c_167 (by decide))) (fun c_167 => ?_)
                  refine lv_aload_n hx hb dX4_text_170 rfl (lv_at hl 2 rfl) ?_
                  refine lv_bipush (v := 48) hx hb dX4_text_171 (by decide) ?_
                  refine lv_iload hx hb dX4_text_173 (lv_at hl 1 rfl) ?_
                  refine lv_iadd hx hb dX4_text_175 ?_
                  refine lv_topi (fun x57 ex57 => ?_)
                  have ex57q : x57 = fk_dc (fk_abs cu) := by
                    rw [ex57]; exact nI_add 48 (fk_abs cu % 10).toNat
                  subst ex57q
                  refine fk_cv hD hS hA (va_runV (As := [.int (fk_dc (fk_abs cu))]) (rest := []) ⟨hx, hb, hml, hown, hts⟩ (kX4_letter _ am tl 0 (nI n) lo wd sg up dn of bey rnd tv u33.1 u33.2 ((L).length) (fk_dc (fk_abs cu)) (by omega)) (cwV 1 hts gX4_text_X4_letter rfl rfl rfl (by decide +kernel) ⟨Nat.le_of_ble_eq_true rfl, Nat.le_of_ble_eq_true rfl⟩) (fk_preV 0 5 hK hN hP hD rfl rfl) rfl rfl hl.1 rfl (lv_room (Nat.le_of_ble_eq_true rfl)) dX4_text_176 ⟨Nat.le_of_ble_eq_true rfl, Nat.le_of_ble_eq_true rfl⟩) (fun u H locs hw hP hD hS => ?_)
                  have hP : va_P D vwCl (fk_wm cJ cI cZ am 0 (nI n) lo (nI ((L).length + 1)) wd sg up dn of bey rnd (upd tv ((L).length) (fk_dc (fk_abs cu))) u33.1 u33.2 ++ tl) H := hP
                  have hD : va_D A (fk_wm cJ cI cZ am 0 (nI n) lo (nI ((L).length + 1)) wd sg up dn of bey rnd (upd tv ((L).length) (fk_dc (fk_abs cu))) u33.1 u33.2 ++ tl) := hD
                  rw [← fk_len1 L (fk_dc (fk_abs cu))] at hP hD
                  have hx59 := fk_Lx_add (fk_dc (fk_abs cu)) ix
                  have hP : va_P D vwCl (fk_wm cJ cI cZ am 0 (nI n) lo (nI (L ++ [(fk_dc (fk_abs cu))]).length) wd sg up dn of bey rnd (upd tv ((L).length) (fk_dc (fk_abs cu))) u33.1 u33.2 ++ tl) H := hP
                  have hD : va_D A (fk_wm cJ cI cZ am 0 (nI n) lo (nI (L ++ [(fk_dc (fk_abs cu))]).length) wd sg up dn of bey rnd (upd tv ((L).length) (fk_dc (fk_abs cu))) u33.1 u33.2 ++ tl) := hD
                  have hr : fk_rest (k + 1) (fk_abs (fk_dq cu 10)) (L ++ [(fk_dc (fk_abs cu))]) = fk_tl4 (fk_v (kf jk) v) (fk_dn (kf jk)) := by
                    have q := fk_rest_6 (fk_abs cu) L
                    rw [fk_pt, if_neg (fun q => q hLe)] at q
                    subst he6
                    rw [fk_dq10]; exact q.trans ir
                  have hso : ((L ++ [(fk_dc (fk_abs cu))]) = [] ∧ (1 : Int32) = 0) ∨ ((L ++ [(fk_dc (fk_abs cu))]) ≠ [] ∧ (1 : Int32) = 1) := Or.inr ⟨by simp, rfl⟩
                  refine lv_aload_n hx hb dX4_text_179 rfl (lv_at hl 2 rfl) ?_
                  refine lv_bipush (v := 16) hx hb dX4_text_180 (by decide) ?_
                  refine lv_bipush (v := 14) hx hb dX4_text_182 (by decide) ?_
                  refine fk_cv hD hS hA (va_runV (As := [.int 16, .int 14]) (rest := []) ⟨hx, hb, hml, hown, hts⟩ (kX4_copy _ am tl 0 (nI n) lo (nI (L ++ [(fk_dc (fk_abs cu))]).length) wd sg up dn of bey rnd (upd tv ((L).length) (fk_dc (fk_abs cu))) u33.1 u33.2 16 14 _ (by omega) (by omega) (by omega) g14) (cwV 2 hts gX4_text_X4_copy rfl rfl rfl (by decide +kernel) ⟨Nat.le_of_ble_eq_true rfl, Nat.le_of_ble_eq_true rfl⟩) (fk_preV 0 5 hK hN hP hD rfl rfl) rfl rfl hl.1 rfl (lv_room (Nat.le_of_ble_eq_true rfl)) dX4_text_184 ⟨Nat.le_of_ble_eq_true rfl, Nat.le_of_ble_eq_true rfl⟩) (fun u60 H locs hw hP hD hS => ?_)
                  have hP : va_P D vwCl (fk_wm cJ cI cZ am 0 (nI n) lo (nI (L ++ [(fk_dc (fk_abs cu))]).length) wd sg up dn of bey rnd (upd tv ((L).length) (fk_dc (fk_abs cu))) u60.1 u60.2 ++ tl) H := hP
                  have hD : va_D A (fk_wm cJ cI cZ am 0 (nI n) lo (nI (L ++ [(fk_dc (fk_abs cu))]).length) wd sg up dn of bey rnd (upd tv ((L).length) (fk_dc (fk_abs cu))) u60.1 u60.2 ++ tl) := hD
                  obtain ⟨n16, f1, f2⟩ := hw
                  have n15 := fk_G_keep j15 f1 f2 (by omega)
                  refine lv_iinc (v := nI (k + 1)) (lv' := [(6, .int (nI (k + 1))), (7, .int 1), (8, .int (nI (fk_abs cu % 10).toNat)), (0, .ref (am 0)), (1, .int (nI (jk + 1))), (2, .long v), (4, .int lo), (5, .int (fk_cmp (fk_round 2 (fk_v (kf jk) v * 1000000) (fk_dn (kf jk)))))]) hx hb dX4_text_187 hl (k := 7) rfl (by exact nI_1 k) (by decide) rfl (fun ls hl => ?_)
                  refine lv_goto (tgt := 82) hx hb dX4_text_190 (by decide) ?_
                  exact ih82 (k + 1) (fk_dq cu 10) (L ++ [(fk_dc (fk_abs cu))]) 1 (upd tv ((L).length) (fk_dc (fk_abs cu))) u60.1 u60.2 (by omega) n16 n15 b3 hr hso hx59 b7 (by simp only [List.length_append, List.length_singleton]; omega) (by intro _; simp) _ _ _ hP hD hS (lv_sub hl [3, 4, 5, 6, 7, 0, 1] rfl)
                · rw [Int32.le_iff_toInt_le, show (0 : Int32).toInt = 0 by decide, nI_toInt (by omega)] at c_156
                  have hLn : L ≠ [] := fun q => by rw [q] at c_156; exact c_156 (by decide)
                  refine lv_aload_n hx hb dX4_text_159 rfl (lv_at hl 2 rfl) ?_
                  refine lv_bipush (v := 46) hx hb dX4_text_160 (by decide) ?_
                  refine fk_cv hD hS hA (va_runV (As := [.int 46]) (rest := []) ⟨hx, hb, hml, hown, hts⟩ (kX4_letter _ am tl 0 (nI n) lo wd sg up dn of bey rnd tv u33.1 u33.2 ((L).length) 46 (by omega)) (cwV 1 hts gX4_text_X4_letter rfl rfl rfl (by decide +kernel) ⟨Nat.le_of_ble_eq_true rfl, Nat.le_of_ble_eq_true rfl⟩) (fk_preV 0 5 hK hN hP hD rfl rfl) rfl rfl hl.1 rfl (lv_room (Nat.le_of_ble_eq_true rfl)) dX4_text_162 ⟨Nat.le_of_ble_eq_true rfl, Nat.le_of_ble_eq_true rfl⟩) (fun u H locs hw hP hD hS => ?_)
                  have hP : va_P D vwCl (fk_wm cJ cI cZ am 0 (nI n) lo (nI ((L).length + 1)) wd sg up dn of bey rnd (upd tv ((L).length) 46) u33.1 u33.2 ++ tl) H := hP
                  have hD : va_D A (fk_wm cJ cI cZ am 0 (nI n) lo (nI ((L).length + 1)) wd sg up dn of bey rnd (upd tv ((L).length) 46) u33.1 u33.2 ++ tl) := hD
                  rw [← fk_len1 L 46] at hP hD
                  have hx63 := fk_Lx_add 46 ix
                  have hP : va_P D vwCl (fk_wm cJ cI cZ am 0 (nI n) lo (nI (L ++ [46]).length) wd sg up dn of bey rnd (upd tv ((L).length) 46) u33.1 u33.2 ++ tl) H := hP
                  have hD : va_D A (fk_wm cJ cI cZ am 0 (nI n) lo (nI (L ++ [46]).length) wd sg up dn of bey rnd (upd tv ((L).length) 46) u33.1 u33.2 ++ tl) := hD
                  refine lv_iload hx hb dX4_text_165 (lv_at hl 0 rfl) ?_
                  refine lv_if_eq (tgt := 179) hx hb dX4_text_167 (by decide) (fun c_167 => False.elim (absurd c_167 (by decide))) (fun c_167 => ?_)
                  refine lv_aload_n hx hb dX4_text_170 rfl (lv_at hl 2 rfl) ?_
                  refine lv_bipush (v := 48) hx hb dX4_text_171 (by decide) ?_
                  refine lv_iload hx hb dX4_text_173 (lv_at hl 1 rfl) ?_
                  refine lv_iadd hx hb dX4_text_175 ?_
                  refine lv_topi (fun x64 ex64 => ?_)
                  have ex64q : x64 = fk_dc (fk_abs cu) := by
                    rw [ex64]; exact nI_add 48 (fk_abs cu % 10).toNat
                  subst ex64q
                  refine fk_cv hD hS hA (va_runV (As := [.int (fk_dc (fk_abs cu))]) (rest := []) ⟨hx, hb, hml, hown, hts⟩ (kX4_letter _ am tl 0 (nI n) lo wd sg up dn of bey rnd (upd tv ((L).length) 46) u33.1 u33.2 (((L ++ [46])).length) (fk_dc (fk_abs cu)) (by rw [fk_len1]; omega)) (cwV 1 hts gX4_text_X4_letter rfl rfl rfl (by decide +kernel) ⟨Nat.le_of_ble_eq_true rfl, Nat.le_of_ble_eq_true rfl⟩) (fk_preV 0 5 hK hN hP hD rfl rfl) rfl rfl hl.1 rfl (lv_room (Nat.le_of_ble_eq_true rfl)) dX4_text_176 ⟨Nat.le_of_ble_eq_true rfl, Nat.le_of_ble_eq_true rfl⟩) (fun u H locs hw hP hD hS => ?_)
                  have hP : va_P D vwCl (fk_wm cJ cI cZ am 0 (nI n) lo (nI (((L ++ [46])).length + 1)) wd sg up dn of bey rnd (upd (upd tv ((L).length) 46) (((L ++ [46])).length) (fk_dc (fk_abs cu))) u33.1 u33.2 ++ tl) H := hP
                  have hD : va_D A (fk_wm cJ cI cZ am 0 (nI n) lo (nI (((L ++ [46])).length + 1)) wd sg up dn of bey rnd (upd (upd tv ((L).length) 46) (((L ++ [46])).length) (fk_dc (fk_abs cu))) u33.1 u33.2 ++ tl) := hD
                  rw [← fk_len1 (L ++ [46]) (fk_dc (fk_abs cu))] at hP hD
                  have hx66 := fk_Lx_add (fk_dc (fk_abs cu)) hx63
                  have hP : va_P D vwCl (fk_wm cJ cI cZ am 0 (nI n) lo (nI ((L ++ [46]) ++ [(fk_dc (fk_abs cu))]).length) wd sg up dn of bey rnd (upd (upd tv ((L).length) 46) (((L ++ [46])).length) (fk_dc (fk_abs cu))) u33.1 u33.2 ++ tl) H := hP
                  have hD : va_D A (fk_wm cJ cI cZ am 0 (nI n) lo (nI ((L ++ [46]) ++ [(fk_dc (fk_abs cu))]).length) wd sg up dn of bey rnd (upd (upd tv ((L).length) 46) (((L ++ [46])).length) (fk_dc (fk_abs cu))) u33.1 u33.2 ++ tl) := hD
                  have hr : fk_rest (k + 1) (fk_abs (fk_dq cu 10)) ((L ++ [46]) ++ [(fk_dc (fk_abs cu))]) = fk_tl4 (fk_v (kf jk) v) (fk_dn (kf jk)) := by
                    have q := fk_rest_6 (fk_abs cu) L
                    rw [fk_pt, if_pos hLn] at q
                    subst he6
                    rw [fk_dq10]; exact q.trans ir
                  have hso : (((L ++ [46]) ++ [(fk_dc (fk_abs cu))]) = [] ∧ (1 : Int32) = 0) ∨ (((L ++ [46]) ++ [(fk_dc (fk_abs cu))]) ≠ [] ∧ (1 : Int32) = 1) := Or.inr ⟨by simp, rfl⟩
                  refine lv_aload_n hx hb dX4_text_179 rfl (lv_at hl 2 rfl) ?_
                  refine lv_bipush (v := 16) hx hb dX4_text_180 (by decide) ?_
                  refine lv_bipush (v := 14) hx hb dX4_text_182 (by decide) ?_
                  refine fk_cv hD hS hA (va_runV (As := [.int 16, .int 14]) (rest := []) ⟨hx, hb, hml, hown, hts⟩ (kX4_copy _ am tl 0 (nI n) lo (nI ((L ++ [46]) ++ [(fk_dc (fk_abs cu))]).length) wd sg up dn of bey rnd (upd (upd tv ((L).length) 46) (((L ++ [46])).length) (fk_dc (fk_abs cu))) u33.1 u33.2 16 14 _ (by omega) (by omega) (by omega) g14) (cwV 2 hts gX4_text_X4_copy rfl rfl rfl (by decide +kernel) ⟨Nat.le_of_ble_eq_true rfl, Nat.le_of_ble_eq_true rfl⟩) (fk_preV 0 5 hK hN hP hD rfl rfl) rfl rfl hl.1 rfl (lv_room (Nat.le_of_ble_eq_true rfl)) dX4_text_184 ⟨Nat.le_of_ble_eq_true rfl, Nat.le_of_ble_eq_true rfl⟩) (fun u67 H locs hw hP hD hS => ?_)
                  have hP : va_P D vwCl (fk_wm cJ cI cZ am 0 (nI n) lo (nI ((L ++ [46]) ++ [(fk_dc (fk_abs cu))]).length) wd sg up dn of bey rnd (upd (upd tv ((L).length) 46) (((L ++ [46])).length) (fk_dc (fk_abs cu))) u67.1 u67.2 ++ tl) H := hP
                  have hD : va_D A (fk_wm cJ cI cZ am 0 (nI n) lo (nI ((L ++ [46]) ++ [(fk_dc (fk_abs cu))]).length) wd sg up dn of bey rnd (upd (upd tv ((L).length) 46) (((L ++ [46])).length) (fk_dc (fk_abs cu))) u67.1 u67.2 ++ tl) := hD
                  obtain ⟨n16, f1, f2⟩ := hw
                  have n15 := fk_G_keep j15 f1 f2 (by omega)
                  refine lv_iinc (v := nI (k + 1)) (lv' := [(6, .int (nI (k + 1))), (7, .int 1), (8, .int (nI (fk_abs cu % 10).toNat)), (0, .ref (am 0)), (1, .int (nI (jk + 1))), (2, .long v), (4, .int lo), (5, .int (fk_cmp (fk_round 2 (fk_v (kf jk) v * 1000000) (fk_dn (kf jk)))))]) hx hb dX4_text_187 hl (k := 7) rfl (by exact nI_1 k) (by decide) rfl (fun ls hl => ?_)
                  refine lv_goto (tgt := 82) hx hb dX4_text_190 (by decide) ?_
                  exact ih82 (k + 1) (fk_dq cu 10) ((L ++ [46]) ++ [(fk_dc (fk_abs cu))]) 1 (upd (upd tv ((L).length) 46) (((L ++ [46])).length) (fk_dc (fk_abs cu))) u67.1 u67.2 (by omega) n16 n15 b3 hr hso hx66 b7 (by simp only [List.length_append, List.length_singleton]; omega) (by intro _; simp) _ _ _ hP hD hS (lv_sub hl [3, 4, 5, 6, 7, 0, 1] rfl)
            · rw [Int32.lt_iff_toInt_lt, show (0 : Int32).toInt = 0 by decide, nI_toInt (by omega)] at c_128
              have hdg : fk_abs cu % 10 = 0 := by omega
              refine lv_iload hx hb dX4_text_131 (lv_at hl 6 rfl) ?_
              refine lv_bipush (v := 6) hx hb dX4_text_133 (by decide) ?_
              refine lv_icmp_lt (tgt := 142) hx hb dX4_text_135 (by decide) (fun c_135 => ?_) (fun c_135 => ?_)
              · have hk6 : k < 6 := by rcases Nat.lt_or_ge k 6 with q | q; exact q; exact absurd c_135 (fun z => by rw [Int32.lt_iff_toInt_lt, nI_toInt (by omega), show (6 : Int32).toInt = 6 by decide] at z; omega)
                refine lv_iconst (v := 0) hx hb dX4_text_142 (by decide) ?_
                refine lv_istore (lv' := [(7, .int 0), (8, .int (nI (fk_abs cu % 10).toNat)), (0, .ref (am 0)), (1, .int (nI (jk + 1))), (2, .long v), (4, .int lo), (5, .int (fk_cmp (fk_round 2 (fk_v (kf jk) v * 1000000) (fk_dn (kf jk))))), (6, .int (nI k))]) hx hb dX4_text_143 hl (by decide) rfl (fun ls hl => ?_)
                refine lv_iload hx hb dX4_text_145 (lv_at hl 7 rfl) ?_
                refine lv_bipush (v := 6) hx hb dX4_text_147 (by decide) ?_
                refine lv_icmp_ne (tgt := 165) hx hb dX4_text_149 (by decide) (fun c_149 => ?_) (fun c_149 => False.elim (absurd ((nI_eq (a := k) (b := 6) (by omega) (by omega)).mp c_149) (by omega)))
                refine lv_iload hx hb dX4_text_165 (lv_at hl 0 rfl) ?_
                refine lv_if_eq (tgt := 179) hx hb dX4_text_167 (by decide) (fun c_167 => ?_) (fun c_167 => False.elim (absurd rfl c_167))
                have hr : fk_rest (k + 1) (fk_abs (fk_dq cu 10)) L = fk_tl4 (fk_v (kf jk) v) (fk_dn (kf jk)) := by rw [fk_dq10, fk_rest_n hk6 (fun q => q.elim (fun z => z hdg) (fun z => z hL))]; exact ir
                have hso : (L = [] ∧ (0 : Int32) = 0) ∨ (L ≠ [] ∧ (0 : Int32) = 1) := Or.inl ⟨hL, rfl⟩
                refine lv_aload_n hx hb dX4_text_179 rfl (lv_at hl 2 rfl) ?_
                refine lv_bipush (v := 16) hx hb dX4_text_180 (by decide) ?_
                refine lv_bipush (v := 14) hx hb dX4_text_182 (by decide) ?_
                refine fk_cv hD hS hA (va_runV (As := [.int 16, .int 14]) (rest := []) ⟨hx, hb, hml, hown, hts⟩ (kX4_copy _ am tl 0 (nI n) lo (nI L.length) wd sg up dn of bey rnd tv u33.1 u33.2 16 14 _ (by omega) (by omega) (by omega) g14) (cwV 2 hts gX4_text_X4_copy rfl rfl rfl (by decide +kernel) ⟨Nat.le_of_ble_eq_true rfl, Nat.le_of_ble_eq_true rfl⟩) (fk_preV 0 5 hK hN hP hD rfl rfl) rfl rfl hl.1 rfl (lv_room (Nat.le_of_ble_eq_true rfl)) dX4_text_184 ⟨Nat.le_of_ble_eq_true rfl, Nat.le_of_ble_eq_true rfl⟩) (fun u69 H locs hw hP hD hS => ?_)
                have hP : va_P D vwCl (fk_wm cJ cI cZ am 0 (nI n) lo (nI L.length) wd sg up dn of bey rnd tv u69.1 u69.2 ++ tl) H := hP
                have hD : va_D A (fk_wm cJ cI cZ am 0 (nI n) lo (nI L.length) wd sg up dn of bey rnd tv u69.1 u69.2 ++ tl) := hD
                obtain ⟨n16, f1, f2⟩ := hw
                have n15 := fk_G_keep j15 f1 f2 (by omega)
                refine lv_iinc (v := nI (k + 1)) (lv' := [(6, .int (nI (k + 1))), (7, .int 0), (8, .int (nI (fk_abs cu % 10).toNat)), (0, .ref (am 0)), (1, .int (nI (jk + 1))), (2, .long v), (4, .int lo), (5, .int (fk_cmp (fk_round 2 (fk_v (kf jk) v * 1000000) (fk_dn (kf jk)))))]) hx hb dX4_text_187 hl (k := 7) rfl (by exact nI_1 k) (by decide) rfl (fun ls hl => ?_)
                refine lv_goto (tgt := 82) hx hb dX4_text_190 (by decide) ?_
                exact ih82 (k + 1) (fk_dq cu 10) L 0 tv u69.1 u69.2 (by omega) n16 n15 b3 hr hso ix b7 (by omega) (by omega) _ _ _ hP hD hS (lv_sub hl [3, 4, 5, 6, 7, 0, 1] rfl)
              · have hk6 : 6 ≤ k := by rw [Int32.lt_iff_toInt_lt, nI_toInt (by omega), show (6 : Int32).toInt = 6 by decide] at c_135; omega
                refine lv_iconst (v := 1) hx hb dX4_text_138 (by decide) ?_
                refine lv_goto (tgt := 143) hx hb dX4_text_139 (by decide) ?_
                refine lv_istore (lv' := [(7, .int 1), (8, .int (nI (fk_abs cu % 10).toNat)), (0, .ref (am 0)), (1, .int (nI (jk + 1))), (2, .long v), (4, .int lo), (5, .int (fk_cmp (fk_round 2 (fk_v (kf jk) v * 1000000) (fk_dn (kf jk))))), (6, .int (nI k))]) hx hb dX4_text_143 hl (by decide) rfl (fun ls hl => ?_)
                refine lv_iload hx hb dX4_text_145 (lv_at hl 7 rfl) ?_
                refine lv_bipush (v := 6) hx hb dX4_text_147 (by decide) ?_
                refine lv_icmp_ne (tgt := 165) hx hb dX4_text_149 (by decide) (fun c_149 => ?_) (fun c_149 => ?_)
                · have hn6 : k ≠ 6 := fun q => c_149 (by rw [q]; rfl)
                  refine lv_iload hx hb dX4_text_165 (lv_at hl 0 rfl) ?_
                  refine lv_if_eq (tgt := 179) hx hb dX4_text_167 (by decide) (fun c_167 => False.elim (absurd c_167 (by decide))) (fun c_167 => ?_)
                  refine lv_aload_n hx hb dX4_text_170 rfl (lv_at hl 2 rfl) ?_
                  refine lv_bipush (v := 48) hx hb dX4_text_171 (by decide) ?_
                  refine lv_iload hx hb dX4_text_173 (lv_at hl 1 rfl) ?_
                  refine lv_iadd hx hb dX4_text_175 ?_
                  refine lv_topi (fun x71 ex71 => ?_)
                  have ex71q : x71 = fk_dc (fk_abs cu) := by
                    rw [ex71]; exact nI_add 48 (fk_abs cu % 10).toNat
                  subst ex71q
                  refine fk_cv hD hS hA (va_runV (As := [.int (fk_dc (fk_abs cu))]) (rest := []) ⟨hx, hb, hml, hown, hts⟩ (kX4_letter _ am tl 0 (nI n) lo wd sg up dn of bey rnd tv u33.1 u33.2 ((L).length) (fk_dc (fk_abs cu)) (by omega)) (cwV 1 hts gX4_text_X4_letter rfl rfl rfl (by decide +kernel) ⟨Nat.le_of_ble_eq_true rfl, Nat.le_of_ble_eq_true rfl⟩) (fk_preV 0 5 hK hN hP hD rfl rfl) rfl rfl hl.1 rfl (lv_room (Nat.le_of_ble_eq_true rfl)) dX4_text_176 ⟨Nat.le_of_ble_eq_true rfl, Nat.le_of_ble_eq_true rfl⟩) (fun u H locs hw hP hD hS => ?_)
                  have hP : va_P D vwCl (fk_wm cJ cI cZ am 0 (nI n) lo (nI ((L).length + 1)) wd sg up dn of bey rnd (upd tv ((L).length) (fk_dc (fk_abs cu))) u33.1 u33.2 ++ tl) H := hP
                  have hD : va_D A (fk_wm cJ cI cZ am 0 (nI n) lo (nI ((L).length + 1)) wd sg up dn of bey rnd (upd tv ((L).length) (fk_dc (fk_abs cu))) u33.1 u33.2 ++ tl) := hD
                  rw [← fk_len1 L (fk_dc (fk_abs cu))] at hP hD
                  have hx73 := fk_Lx_add (fk_dc (fk_abs cu)) ix
                  have hP : va_P D vwCl (fk_wm cJ cI cZ am 0 (nI n) lo (nI (L ++ [(fk_dc (fk_abs cu))]).length) wd sg up dn of bey rnd (upd tv ((L).length) (fk_dc (fk_abs cu))) u33.1 u33.2 ++ tl) H := hP
                  have hD : va_D A (fk_wm cJ cI cZ am 0 (nI n) lo (nI (L ++ [(fk_dc (fk_abs cu))]).length) wd sg up dn of bey rnd (upd tv ((L).length) (fk_dc (fk_abs cu))) u33.1 u33.2 ++ tl) := hD
                  have hr : fk_rest (k + 1) (fk_abs (fk_dq cu 10)) (L ++ [(fk_dc (fk_abs cu))]) = fk_tl4 (fk_v (kf jk) v) (fk_dn (kf jk)) := by rw [fk_dq10, fk_rest_p hn6 (fun q => absurd q (by omega)) hgo (by omega)]; exact ir
                  have hso : ((L ++ [(fk_dc (fk_abs cu))]) = [] ∧ (1 : Int32) = 0) ∨ ((L ++ [(fk_dc (fk_abs cu))]) ≠ [] ∧ (1 : Int32) = 1) := Or.inr ⟨by simp, rfl⟩
                  refine lv_aload_n hx hb dX4_text_179 rfl (lv_at hl 2 rfl) ?_
                  refine lv_bipush (v := 16) hx hb dX4_text_180 (by decide) ?_
                  refine lv_bipush (v := 14) hx hb dX4_text_182 (by decide) ?_
                  refine fk_cv hD hS hA (va_runV (As := [.int 16, .int 14]) (rest := []) ⟨hx, hb, hml, hown, hts⟩ (kX4_copy _ am tl 0 (nI n) lo (nI (L ++ [(fk_dc (fk_abs cu))]).length) wd sg up dn of bey rnd (upd tv ((L).length) (fk_dc (fk_abs cu))) u33.1 u33.2 16 14 _ (by omega) (by omega) (by omega) g14) (cwV 2 hts gX4_text_X4_copy rfl rfl rfl (by decide +kernel) ⟨Nat.le_of_ble_eq_true rfl, Nat.le_of_ble_eq_true rfl⟩) (fk_preV 0 5 hK hN hP hD rfl rfl) rfl rfl hl.1 rfl (lv_room (Nat.le_of_ble_eq_true rfl)) dX4_text_184 ⟨Nat.le_of_ble_eq_true rfl, Nat.le_of_ble_eq_true rfl⟩) (fun u74 H locs hw hP hD hS => ?_)
                  have hP : va_P D vwCl (fk_wm cJ cI cZ am 0 (nI n) lo (nI (L ++ [(fk_dc (fk_abs cu))]).length) wd sg up dn of bey rnd (upd tv ((L).length) (fk_dc (fk_abs cu))) u74.1 u74.2 ++ tl) H := hP
                  have hD : va_D A (fk_wm cJ cI cZ am 0 (nI n) lo (nI (L ++ [(fk_dc (fk_abs cu))]).length) wd sg up dn of bey rnd (upd tv ((L).length) (fk_dc (fk_abs cu))) u74.1 u74.2 ++ tl) := hD
                  obtain ⟨n16, f1, f2⟩ := hw
                  have n15 := fk_G_keep j15 f1 f2 (by omega)
                  refine lv_iinc (v := nI (k + 1)) (lv' := [(6, .int (nI (k + 1))), (7, .int 1), (8, .int (nI (fk_abs cu % 10).toNat)), (0, .ref (am 0)), (1, .int (nI (jk + 1))), (2, .long v), (4, .int lo), (5, .int (fk_cmp (fk_round 2 (fk_v (kf jk) v * 1000000) (fk_dn (kf jk)))))]) hx hb dX4_text_187 hl (k := 7) rfl (by exact nI_1 k) (by decide) rfl (fun ls hl => ?_)
                  refine lv_goto (tgt := 82) hx hb dX4_text_190 (by decide) ?_
                  exact ih82 (k + 1) (fk_dq cu 10) (L ++ [(fk_dc (fk_abs cu))]) 1 (upd tv ((L).length) (fk_dc (fk_abs cu))) u74.1 u74.2 (by omega) n16 n15 b3 hr hso hx73 b7 (by simp only [List.length_append, List.length_singleton]; omega) (by intro _; simp) _ _ _ hP hD hS (lv_sub hl [3, 4, 5, 6, 7, 0, 1] rfl)
                · have he6 : k = 6 := (nI_eq (a := k) (b := 6) (by omega) (by omega)).mp c_149
                  refine lv_aload_n hx hb dX4_text_152 rfl (lv_at hl 2 rfl) ?_
                  refine va_get (D := D) (ci := 5) (v := .int (nI L.length)) (C := RX4) (T := TX4) (N := 14) hx hb hts k2 hown hK hP 0 rfl rfl 10 (by decide) k4 (fun _ h9 => h9) rfl dX4_text_153 ?_
                  refine lv_if_le (tgt := 165) hx hb dX4_text_156 (by decide) (fun c_156 => ?_) (fun c_156 => ?_)
                  · rw [Int32.le_iff_toInt_le, show (0 : Int32).toInt = 0 by decide, nI_toInt (by omega)] at c_156
                    have hLe : L = [] := List.eq_nil_of_length_eq_zero (by omega)
                    refine lv_iload hx hb dX4_text_165 (lv_at hl 0 rfl) ?_
                    refine lv_if_eq (tgt := 179) hx hb dX4_text_167 (by decide) (fun c_167 => False.elim (absurd c_167 (by decide))) (fun c_167 => ?_)
                    refine lv_aload_n hx hb dX4_text_170 rfl (lv_at hl 2 rfl) ?_
                    refine lv_bipush (v := 48) hx hb dX4_text_171 (by decide) ?_
                    refine lv_iload hx hb dX4_text_173 (lv_at hl 1 rfl) ?_
                    refine lv_iadd hx hb dX4_text_175 ?_
                    refine lv_topi (fun x76 ex76 => ?_)
                    have ex76q : x76 = fk_dc (fk_abs cu) := by
                      rw [ex76]; exact nI_add 48 (fk_abs cu % 10).toNat
                    subst ex76q
                    refine fk_cv hD hS hA (va_runV (As := [.int (fk_dc (fk_abs cu))]) (rest := []) ⟨hx, hb, hml, hown, hts⟩ (kX4_letter _ am tl 0 (nI n) lo wd sg up dn of bey rnd tv u33.1 u33.2 ((L).length) (fk_dc (fk_abs cu)) (by omega)) (cwV 1 hts gX4_text_X4_letter rfl rfl rfl (by decide +kernel) ⟨Nat.le_of_ble_eq_true rfl, Nat.le_of_ble_eq_true rfl⟩) (fk_preV 0 5 hK hN hP hD rfl rfl) rfl rfl hl.1 rfl (lv_room (Nat.le_of_ble_eq_true rfl)) dX4_text_176 ⟨Nat.le_of_ble_eq_true rfl, Nat.le_of_ble_eq_true rfl⟩) (fun u H locs hw hP hD hS => ?_)
                    have hP : va_P D vwCl (fk_wm cJ cI cZ am 0 (nI n) lo (nI ((L).length + 1)) wd sg up dn of bey rnd (upd tv ((L).length) (fk_dc (fk_abs cu))) u33.1 u33.2 ++ tl) H := hP
                    have hD : va_D A (fk_wm cJ cI cZ am 0 (nI n) lo (nI ((L).length + 1)) wd sg up dn of bey rnd (upd tv ((L).length) (fk_dc (fk_abs cu))) u33.1 u33.2 ++ tl) := hD
                    rw [← fk_len1 L (fk_dc (fk_abs cu))] at hP hD
                    have hx78 := fk_Lx_add (fk_dc (fk_abs cu)) ix
                    have hP : va_P D vwCl (fk_wm cJ cI cZ am 0 (nI n) lo (nI (L ++ [(fk_dc (fk_abs cu))]).length) wd sg up dn of bey rnd (upd tv ((L).length) (fk_dc (fk_abs cu))) u33.1 u33.2 ++ tl) H := hP
                    have hD : va_D A (fk_wm cJ cI cZ am 0 (nI n) lo (nI (L ++ [(fk_dc (fk_abs cu))]).length) wd sg up dn of bey rnd (upd tv ((L).length) (fk_dc (fk_abs cu))) u33.1 u33.2 ++ tl) := hD
                    have hr : fk_rest (k + 1) (fk_abs (fk_dq cu 10)) (L ++ [(fk_dc (fk_abs cu))]) = fk_tl4 (fk_v (kf jk) v) (fk_dn (kf jk)) := by
                      have q := fk_rest_6 (fk_abs cu) L
                      rw [fk_pt, if_neg (fun q => q hLe)] at q
                      subst he6
                      rw [fk_dq10]; exact q.trans ir
                    have hso : ((L ++ [(fk_dc (fk_abs cu))]) = [] ∧ (1 : Int32) = 0) ∨ ((L ++ [(fk_dc (fk_abs cu))]) ≠ [] ∧ (1 : Int32) = 1) := Or.inr ⟨by simp, rfl⟩
                    refine lv_aload_n hx hb dX4_text_179 rfl (lv_at hl 2 rfl) ?_
                    refine lv_bipush (v := 16) hx hb dX4_text_180 (by decide) ?_
                    refine lv_bipush (v := 14) hx hb dX4_text_182 (by decide) ?_
                    refine fk_cv hD hS hA (va_runV (As := [.int 16, .int 14]) (rest := []) ⟨hx, hb, hml, hown, hts⟩ (kX4_copy _ am tl 0 (nI n) lo (nI (L ++ [(fk_dc (fk_abs cu))]).length) wd sg up dn of bey rnd (upd tv ((L).length) (fk_dc (fk_abs cu))) u33.1 u33.2 16 14 _ (by omega) (by omega) (by omega) g14) (cwV 2 hts gX4_text_X4_copy rfl rfl rfl (by decide +kernel) ⟨Nat.le_of_ble_eq_true rfl, Nat.le_of_ble_eq_true rfl⟩) (fk_preV 0 5 hK hN hP hD rfl rfl) rfl rfl hl.1 rfl (lv_room (Nat.le_of_ble_eq_true rfl)) dX4_text_184 ⟨Nat.le_of_ble_eq_true rfl, Nat.le_of_ble_eq_true rfl⟩) (fun u79 H locs hw hP hD hS => ?_)
                    have hP : va_P D vwCl (fk_wm cJ cI cZ am 0 (nI n) lo (nI (L ++ [(fk_dc (fk_abs cu))]).length) wd sg up dn of bey rnd (upd tv ((L).length) (fk_dc (fk_abs cu))) u79.1 u79.2 ++ tl) H := hP
                    have hD : va_D A (fk_wm cJ cI cZ am 0 (nI n) lo (nI (L ++ [(fk_dc (fk_abs cu))]).length) wd sg up dn of bey rnd (upd tv ((L).length) (fk_dc (fk_abs cu))) u79.1 u79.2 ++ tl) := hD
                    obtain ⟨n16, f1, f2⟩ := hw
                    have n15 := fk_G_keep j15 f1 f2 (by omega)
                    refine lv_iinc (v := nI (k + 1)) (lv' := [(6, .int (nI (k + 1))), (7, .int 1), (8, .int (nI (fk_abs cu % 10).toNat)), (0, .ref (am 0)), (1, .int (nI (jk + 1))), (2, .long v), (4, .int lo), (5, .int (fk_cmp (fk_round 2 (fk_v (kf jk) v * 1000000) (fk_dn (kf jk)))))]) hx hb dX4_text_187 hl (k := 7) rfl (by exact nI_1 k) (by decide) rfl (fun ls hl => ?_)
                    refine lv_goto (tgt := 82) hx hb dX4_text_190 (by decide) ?_
                    exact ih82 (k + 1) (fk_dq cu 10) (L ++ [(fk_dc (fk_abs cu))]) 1 (upd tv ((L).length) (fk_dc (fk_abs cu))) u79.1 u79.2 (by omega) n16 n15 b3 hr hso hx78 b7 (by simp only [List.length_append, List.length_singleton]; omega) (by intro _; simp) _ _ _ hP hD hS (lv_sub hl [3, 4, 5, 6, 7, 0, 1] rfl)
                  · rw [Int32.le_iff_toInt_le, show (0 : Int32).toInt = 0 by decide, nI_toInt (by omega)] at c_156
                    have hLn : L ≠ [] := fun q => by rw [q] at c_156; exact c_156 (by decide)
                    refine lv_aload_n hx hb dX4_text_159 rfl (lv_at hl 2 rfl) ?_
                    refine lv_bipush (v := 46) hx hb dX4_text_160 (by decide) ?_
                    refine fk_cv hD hS hA (va_runV (As := [.int 46]) (rest := []) ⟨hx, hb, hml, hown, hts⟩ (kX4_letter _ am tl 0 (nI n) lo wd sg up dn of bey rnd tv u33.1 u33.2 ((L).length) 46 (by omega)) (cwV 1 hts gX4_text_X4_letter rfl rfl rfl (by decide +kernel) ⟨Nat.le_of_ble_eq_true rfl, Nat.le_of_ble_eq_true rfl⟩) (fk_preV 0 5 hK hN hP hD rfl rfl) rfl rfl hl.1 rfl (lv_room (Nat.le_of_ble_eq_true rfl)) dX4_text_162 ⟨Nat.le_of_ble_eq_true rfl, Nat.le_of_ble_eq_true rfl⟩) (fun u H locs hw hP hD hS => ?_)
                    have hP : va_P D vwCl (fk_wm cJ cI cZ am 0 (nI n) lo (nI ((L).length + 1)) wd sg up dn of bey rnd (upd tv ((L).length) 46) u33.1 u33.2 ++ tl) H := hP
                    have hD : va_D A (fk_wm cJ cI cZ am 0 (nI n) lo (nI ((L).length + 1)) wd sg up dn of bey rnd (upd tv ((L).length) 46) u33.1 u33.2 ++ tl) := hD
                    rw [← fk_len1 L 46] at hP hD
                    have hx82 := fk_Lx_add 46 ix
                    have hP : va_P D vwCl (fk_wm cJ cI cZ am 0 (nI n) lo (nI (L ++ [46]).length) wd sg up dn of bey rnd (upd tv ((L).length) 46) u33.1 u33.2 ++ tl) H := hP
                    have hD : va_D A (fk_wm cJ cI cZ am 0 (nI n) lo (nI (L ++ [46]).length) wd sg up dn of bey rnd (upd tv ((L).length) 46) u33.1 u33.2 ++ tl) := hD
                    refine lv_iload hx hb dX4_text_165 (lv_at hl 0 rfl) ?_
                    refine lv_if_eq (tgt := 179) hx hb dX4_text_167 (by decide) (fun c_167 => False.elim (absurd c_167 (by decide))) (fun c_167 => ?_)
                    refine lv_aload_n hx hb dX4_text_170 rfl (lv_at hl 2 rfl) ?_
                    refine lv_bipush (v := 48) hx hb dX4_text_171 (by decide) ?_
                    refine lv_iload hx hb dX4_text_173 (lv_at hl 1 rfl) ?_
                    refine lv_iadd hx hb dX4_text_175 ?_
                    refine lv_topi (fun x83 ex83 => ?_)
                    have ex83q : x83 = fk_dc (fk_abs cu) := by
                      rw [ex83]; exact nI_add 48 (fk_abs cu % 10).toNat
                    subst ex83q
                    refine fk_cv hD hS hA (va_runV (As := [.int (fk_dc (fk_abs cu))]) (rest := []) ⟨hx, hb, hml, hown, hts⟩ (kX4_letter _ am tl 0 (nI n) lo wd sg up dn of bey rnd (upd tv ((L).length) 46) u33.1 u33.2 (((L ++ [46])).length) (fk_dc (fk_abs cu)) (by rw [fk_len1]; omega)) (cwV 1 hts gX4_text_X4_letter rfl rfl rfl (by decide +kernel) ⟨Nat.le_of_ble_eq_true rfl, Nat.le_of_ble_eq_true rfl⟩) (fk_preV 0 5 hK hN hP hD rfl rfl) rfl rfl hl.1 rfl (lv_room (Nat.le_of_ble_eq_true rfl)) dX4_text_176 ⟨Nat.le_of_ble_eq_true rfl, Nat.le_of_ble_eq_true rfl⟩) (fun u H locs hw hP hD hS => ?_)
                    have hP : va_P D vwCl (fk_wm cJ cI cZ am 0 (nI n) lo (nI (((L ++ [46])).length + 1)) wd sg up dn of bey rnd (upd (upd tv ((L).length) 46) (((L ++ [46])).length) (fk_dc (fk_abs cu))) u33.1 u33.2 ++ tl) H := hP
                    have hD : va_D A (fk_wm cJ cI cZ am 0 (nI n) lo (nI (((L ++ [46])).length + 1)) wd sg up dn of bey rnd (upd (upd tv ((L).length) 46) (((L ++ [46])).length) (fk_dc (fk_abs cu))) u33.1 u33.2 ++ tl) := hD
                    rw [← fk_len1 (L ++ [46]) (fk_dc (fk_abs cu))] at hP hD
                    have hx85 := fk_Lx_add (fk_dc (fk_abs cu)) hx82
                    have hP : va_P D vwCl (fk_wm cJ cI cZ am 0 (nI n) lo (nI ((L ++ [46]) ++ [(fk_dc (fk_abs cu))]).length) wd sg up dn of bey rnd (upd (upd tv ((L).length) 46) (((L ++ [46])).length) (fk_dc (fk_abs cu))) u33.1 u33.2 ++ tl) H := hP
                    have hD : va_D A (fk_wm cJ cI cZ am 0 (nI n) lo (nI ((L ++ [46]) ++ [(fk_dc (fk_abs cu))]).length) wd sg up dn of bey rnd (upd (upd tv ((L).length) 46) (((L ++ [46])).length) (fk_dc (fk_abs cu))) u33.1 u33.2 ++ tl) := hD
                    have hr : fk_rest (k + 1) (fk_abs (fk_dq cu 10)) ((L ++ [46]) ++ [(fk_dc (fk_abs cu))]) = fk_tl4 (fk_v (kf jk) v) (fk_dn (kf jk)) := by
                      have q := fk_rest_6 (fk_abs cu) L
                      rw [fk_pt, if_pos hLn] at q
                      subst he6
                      rw [fk_dq10]; exact q.trans ir
                    have hso : (((L ++ [46]) ++ [(fk_dc (fk_abs cu))]) = [] ∧ (1 : Int32) = 0) ∨ (((L ++ [46]) ++ [(fk_dc (fk_abs cu))]) ≠ [] ∧ (1 : Int32) = 1) := Or.inr ⟨by simp, rfl⟩
                    refine lv_aload_n hx hb dX4_text_179 rfl (lv_at hl 2 rfl) ?_
                    refine lv_bipush (v := 16) hx hb dX4_text_180 (by decide) ?_
                    refine lv_bipush (v := 14) hx hb dX4_text_182 (by decide) ?_
                    refine fk_cv hD hS hA (va_runV (As := [.int 16, .int 14]) (rest := []) ⟨hx, hb, hml, hown, hts⟩ (kX4_copy _ am tl 0 (nI n) lo (nI ((L ++ [46]) ++ [(fk_dc (fk_abs cu))]).length) wd sg up dn of bey rnd (upd (upd tv ((L).length) 46) (((L ++ [46])).length) (fk_dc (fk_abs cu))) u33.1 u33.2 16 14 _ (by omega) (by omega) (by omega) g14) (cwV 2 hts gX4_text_X4_copy rfl rfl rfl (by decide +kernel) ⟨Nat.le_of_ble_eq_true rfl, Nat.le_of_ble_eq_true rfl⟩) (fk_preV 0 5 hK hN hP hD rfl rfl) rfl rfl hl.1 rfl (lv_room (Nat.le_of_ble_eq_true rfl)) dX4_text_184 ⟨Nat.le_of_ble_eq_true rfl, Nat.le_of_ble_eq_true rfl⟩) (fun u86 H locs hw hP hD hS => ?_)
                    have hP : va_P D vwCl (fk_wm cJ cI cZ am 0 (nI n) lo (nI ((L ++ [46]) ++ [(fk_dc (fk_abs cu))]).length) wd sg up dn of bey rnd (upd (upd tv ((L).length) 46) (((L ++ [46])).length) (fk_dc (fk_abs cu))) u86.1 u86.2 ++ tl) H := hP
                    have hD : va_D A (fk_wm cJ cI cZ am 0 (nI n) lo (nI ((L ++ [46]) ++ [(fk_dc (fk_abs cu))]).length) wd sg up dn of bey rnd (upd (upd tv ((L).length) 46) (((L ++ [46])).length) (fk_dc (fk_abs cu))) u86.1 u86.2 ++ tl) := hD
                    obtain ⟨n16, f1, f2⟩ := hw
                    have n15 := fk_G_keep j15 f1 f2 (by omega)
                    refine lv_iinc (v := nI (k + 1)) (lv' := [(6, .int (nI (k + 1))), (7, .int 1), (8, .int (nI (fk_abs cu % 10).toNat)), (0, .ref (am 0)), (1, .int (nI (jk + 1))), (2, .long v), (4, .int lo), (5, .int (fk_cmp (fk_round 2 (fk_v (kf jk) v * 1000000) (fk_dn (kf jk)))))]) hx hb dX4_text_187 hl (k := 7) rfl (by exact nI_1 k) (by decide) rfl (fun ls hl => ?_)
                    refine lv_goto (tgt := 82) hx hb dX4_text_190 (by decide) ?_
                    exact ih82 (k + 1) (fk_dq cu 10) ((L ++ [46]) ++ [(fk_dc (fk_abs cu))]) 1 (upd (upd tv ((L).length) 46) (((L ++ [46])).length) (fk_dc (fk_abs cu))) u86.1 u86.2 (by omega) n16 n15 b3 hr hso hx85 b7 (by simp only [List.length_append, List.length_singleton]; omega) (by intro _; simp) _ _ _ hP hD hS (lv_sub hl [3, 4, 5, 6, 7, 0, 1] rfl)
        · rw [i16.2, fk_cmp_ne] at c_89
          have habs := fk_abs_cases cu
          refine lv_iload hx hb dX4_text_92 (lv_at hl 5 rfl) ?_
          refine lv_bipush (v := 7) hx hb dX4_text_94 (by decide) ?_
          refine lv_icmp_ge (tgt := 193) hx hb dX4_text_96 (by decide) (fun c_96 => ?_) (fun c_96 => ?_)
          · have h7k : 7 ≤ k := (nI_leI (a := 7) (b := k) (by omega) (by omega)).mp c_96
            have hc0 : fk_abs cu = 0 := by omega
            rw [hc0, fk_rest_e h7k] at ir
            refine lv_iload hx hb dX4_text_193 (lv_at hl 4 rfl) ?_
            refine lv_if_ge (tgt := 204) hx hb dX4_text_195 (by decide) (fun c_195 => ?_) (fun c_195 => ?_)
            · rw [Int32.le_iff_toInt_le, show (0 : Int32).toInt = 0 by decide, fk_cmp_ge, hRn] at c_195
              have hT : fk_txt (fk_v (kf jk) v) (fk_dn (kf jk)) = L := by rw [fk_txt, if_neg c_195]; exact ir.symm
              have hTl : (fk_txt (fk_v (kf jk) v) (fk_dn (kf jk))).length ≤ 36 := by rw [hT]; omega
              have hTx : fk_Lx (fk_txt (fk_v (kf jk) v) (fk_dn (kf jk))) tv := by rw [hT]; exact ix
              have hTn : nI (fk_txt (fk_v (kf jk) v) (fk_dn (kf jk))).length = nI (L).length := by rw [hT]
              rw [← hTn] at hP hD
              refine lv_iconst (v := 0) hx hb dX4_text_204 (by decide) ?_
              refine lv_istore (lv' := [(8, .int 0), (0, .ref (am 0)), (1, .int (nI (jk + 1))), (2, .long v), (4, .int lo), (5, .int (fk_cmp (fk_round 2 (fk_v (kf jk) v * 1000000) (fk_dn (kf jk))))), (6, .int (nI k)), (7, .int so)]) hx hb dX4_text_205 hl (by decide) rfl (fun ls hl => ?_)
              have L207 : ∀ (fu207 : Nat) (i : Nat) (tz : Nat → Int32), 40 - i < fu207 → (i ≤ 36) → (fk_Tu (fk_txt (fk_v (kf jk) v) (fk_dn (kf jk))) i tz) → ∀ (H : Heap) (locs : List Loc) (ls : Array Slot), va_P D vwCl (fk_wm cJ cI cZ am 0 (nI n) lo (nI (fk_txt (fk_v (kf jk) v) (fk_dn (kf jk))).length) wd sg up dn of bey rnd tz pv sv ++ tl) H → va_D A (fk_wm cJ cI cZ am 0 (nI n) lo (nI (fk_txt (fk_v (kf jk) v) (fk_dn (kf jk))).length) wd sg up dn of bey rnd tz pv sv ++ tl) → va_S A s.heap H locs → lv_has ls 10 [(0, .ref (am 0)), (8, .int (nI i))] → W p l e rmX4_text s m args below meth c H locs 0 0 QQ (F0 m 207 ls []) := by
                intro fu207
                induction fu207 with
                | zero => intro i tz hfu; exact absurd hfu (Nat.not_lt_zero _)
                | succ fu207 ih207 =>
                  intro i tz hfu207 hi iu H locs ls hP hD hS hl
                  refine lv_iconst (v := 2) hx hb dX4_text_207 (by decide) ?_
                  refine lv_iload hx hb dX4_text_208 (lv_at hl 1 rfl) ?_
                  refine lv_imul hx hb dX4_text_210 ?_
                  refine lv_topi (fun x88 ex88 => ?_)
                  have ex88q : x88 = nI (2 * i) := by
                    rw [ex88]; exact pk_mul 2 i
                  subst ex88q
                  refine lv_aload_n hx hb dX4_text_211 rfl (lv_at hl 0 rfl) ?_
                  refine va_get (D := D) (ci := 5) (v := .int (nI (fk_txt (fk_v (kf jk) v) (fk_dn (kf jk))).length)) (C := RX4) (T := TX4) (N := 14) hx hb hts k2 hown hK hP 0 rfl rfl 10 (by decide) k4 (fun _ h9 => h9) rfl dX4_text_212 ?_
                  refine lv_iconst (v := 1) hx hb dX4_text_215 (by decide) ?_
                  refine lv_isub hx hb dX4_text_216 ?_
                  refine lv_topi (fun x89 ex89 => ?_)
                  refine lv_icmp_ge (tgt := 272) hx hb dX4_text_217 (by decide) (fun c_217 => ?_) (fun c_217 => ?_)
                  · have hsub : x89.toInt = (fk_txt (fk_v (kf jk) v) (fk_dn (kf jk))).length - 1 := by rw [ex89, fi_sub (by rw [nI_toInt (by omega), show (1 : Int32).toInt = 1 by decide]; omega) (by rw [nI_toInt (by omega), show (1 : Int32).toInt = 1 by decide]; omega), nI_toInt (by omega)]; rfl
                    rw [Int32.le_iff_toInt_le, hsub, nI_toInt (by omega)] at c_217
                    refine lv_aload_n hx hb dX4_text_272 rfl (lv_at hl 0 rfl) ?_
                    refine va_get (D := D) (ci := 5) (v := .int (nI (fk_txt (fk_v (kf jk) v) (fk_dn (kf jk))).length)) (C := RX4) (T := TX4) (N := 14) hx hb hts k2 hown hK hP 0 rfl rfl 10 (by decide) k4 (fun _ h9 => h9) rfl dX4_text_273 ?_
                    have hRx := fk_Tu_e iu (by omega)
                    rw [hQQ]
                    exact W.iret (v := (nI (fk_txt (fk_v (kf jk) v) (fk_dn (kf jk))).length)) hx hb hr (fun t ht hW => ⟨⟨(nI (fk_txt (fk_v (kf jk) v) (fk_dn (kf jk))).length), ((nI (fk_txt (fk_v (kf jk) v) (fk_dn (kf jk))).length), tz, pv, sv), rfl, Or.inr ⟨jk, hjk, rfl, rfl, rfl, hTl, hRx⟩, by rw [ht]; exact hP, va_K.moved hW.alike hK, hD⟩, hS.F ht⟩) hS.2.2 dX4_text_276
                  · have hsub : x89.toInt = (fk_txt (fk_v (kf jk) v) (fk_dn (kf jk))).length - 1 := by rw [ex89, fi_sub (by rw [nI_toInt (by omega), show (1 : Int32).toInt = 1 by decide]; omega) (by rw [nI_toInt (by omega), show (1 : Int32).toInt = 1 by decide]; omega), nI_toInt (by omega)]; rfl
                    rw [Int32.le_iff_toInt_le, hsub, nI_toInt (by omega)] at c_217
                    have hlt : 2 * i + 1 < (fk_txt (fk_v (kf jk) v) (fk_dn (kf jk))).length := by omega
                    refine lv_aload_n hx hb dX4_text_220 rfl (lv_at hl 0 rfl) ?_
                    refine va_get (D := D) (ci := 5) (v := .ref (am 8)) (C := RX4) (T := TX4) (N := 14) hx hb hts k2 hown hK hP 0 rfl rfl 11 (by decide) k8 (fun _ h9 => h9) rfl dX4_text_221 ?_
                    refine lv_iload hx hb dX4_text_224 (lv_at hl 1 rfl) ?_
                    refine fk_iald hx hb hK hP 8 2 rfl rfl (i := i) (by omega) (by decide) dX4_text_226 ?_
                    refine lv_istore (lv' := [(9, .int (tz i)), (0, .ref (am 0)), (8, .int (nI i))]) hx hb dX4_text_227 hl (by decide) rfl (fun ls hl => ?_)
                    refine lv_aload_n hx hb dX4_text_229 rfl (lv_at hl 1 rfl) ?_
                    refine va_get (D := D) (ci := 5) (v := .ref (am 8)) (C := RX4) (T := TX4) (N := 14) hx hb hts k2 hown hK hP 0 rfl rfl 11 (by decide) k8 (fun _ h9 => h9) rfl dX4_text_230 ?_
                    refine lv_iload hx hb dX4_text_233 (lv_at hl 2 rfl) ?_
                    refine lv_aload_n hx hb dX4_text_235 rfl (lv_at hl 1 rfl) ?_
                    refine va_get (D := D) (ci := 5) (v := .ref (am 8)) (C := RX4) (T := TX4) (N := 14) hx hb hts k2 hown hK hP 0 rfl rfl 11 (by decide) k8 (fun _ h9 => h9) rfl dX4_text_236 ?_
                    refine lv_aload_n hx hb dX4_text_239 rfl (lv_at hl 1 rfl) ?_
                    refine va_get (D := D) (ci := 5) (v := .int (nI (fk_txt (fk_v (kf jk) v) (fk_dn (kf jk))).length)) (C := RX4) (T := TX4) (N := 14) hx hb hts k2 hown hK hP 0 rfl rfl 10 (by decide) k4 (fun _ h9 => h9) rfl dX4_text_240 ?_
                    refine lv_iconst (v := 1) hx hb dX4_text_243 (by decide) ?_
                    refine lv_isub hx hb dX4_text_244 ?_
                    refine lv_topi (fun x90 ex90 => ?_)
                    have ex90q : x90 = nI ((fk_txt (fk_v (kf jk) v) (fk_dn (kf jk))).length - 1) := by
                      rw [ex90]; apply Int32.toInt_inj.mp; rw [fi_sub (by rw [nI_toInt (by omega), show (1 : Int32).toInt = 1 by decide]; omega) (by rw [nI_toInt (by omega), show (1 : Int32).toInt = 1 by decide]; omega), nI_toInt (by omega), nI_toInt (by omega), show (1 : Int32).toInt = 1 by decide]; omega
                    subst ex90q
                    refine lv_iload hx hb dX4_text_245 (lv_at hl 2 rfl) ?_
                    refine lv_isub hx hb dX4_text_247 ?_
                    refine lv_topi (fun x91 ex91 => ?_)
                    have ex91q : x91 = nI ((fk_txt (fk_v (kf jk) v) (fk_dn (kf jk))).length - 1 - i) := by
                      rw [ex91]; apply Int32.toInt_inj.mp; rw [fi_sub (by rw [nI_toInt (by omega), nI_toInt (by omega)]; omega) (by rw [nI_toInt (by omega), nI_toInt (by omega)]; omega), nI_toInt (by omega), nI_toInt (by omega), nI_toInt (by omega)]; omega
                    subst ex91q
                    refine fk_iald hx hb hK hP 8 2 rfl rfl (i := (fk_txt (fk_v (kf jk) v) (fk_dn (kf jk))).length - 1 - i) (by omega) (by decide) dX4_text_248 ?_
                    refine fk_iast hx hb hK hP hD hS 8 2 rfl rfl (i := i) (by omega) (by decide) dX4_text_249 (fun H locs hP hD hS => ?_)
                    have hP : va_P D vwCl (fk_wm cJ cI cZ am 0 (nI n) lo (nI (fk_txt (fk_v (kf jk) v) (fk_dn (kf jk))).length) wd sg up dn of bey rnd (upd tz i (tz ((fk_txt (fk_v (kf jk) v) (fk_dn (kf jk))).length - 1 - i))) pv sv ++ tl) H := hP
                    have hD : va_D A (fk_wm cJ cI cZ am 0 (nI n) lo (nI (fk_txt (fk_v (kf jk) v) (fk_dn (kf jk))).length) wd sg up dn of bey rnd (upd tz i (tz ((fk_txt (fk_v (kf jk) v) (fk_dn (kf jk))).length - 1 - i))) pv sv ++ tl) := hD
                    refine lv_aload_n hx hb dX4_text_250 rfl (lv_at hl 1 rfl) ?_
                    refine va_get (D := D) (ci := 5) (v := .ref (am 8)) (C := RX4) (T := TX4) (N := 14) hx hb hts k2 hown hK hP 0 rfl rfl 11 (by decide) k8 (fun _ h9 => h9) rfl dX4_text_251 ?_
                    refine lv_aload_n hx hb dX4_text_254 rfl (lv_at hl 1 rfl) ?_
                    refine va_get (D := D) (ci := 5) (v := .int (nI (fk_txt (fk_v (kf jk) v) (fk_dn (kf jk))).length)) (C := RX4) (T := TX4) (N := 14) hx hb hts k2 hown hK hP 0 rfl rfl 10 (by decide) k4 (fun _ h9 => h9) rfl dX4_text_255 ?_
                    refine lv_iconst (v := 1) hx hb dX4_text_258 (by decide) ?_
                    refine lv_isub hx hb dX4_text_259 ?_
                    refine lv_topi (fun x92 ex92 => ?_)
                    have ex92q : x92 = nI ((fk_txt (fk_v (kf jk) v) (fk_dn (kf jk))).length - 1) := by
                      rw [ex92]; apply Int32.toInt_inj.mp; rw [fi_sub (by rw [nI_toInt (by omega), show (1 : Int32).toInt = 1 by decide]; omega) (by rw [nI_toInt (by omega), show (1 : Int32).toInt = 1 by decide]; omega), nI_toInt (by omega), nI_toInt (by omega), show (1 : Int32).toInt = 1 by decide]; omega
                    subst ex92q
                    refine lv_iload hx hb dX4_text_260 (lv_at hl 2 rfl) ?_
                    refine lv_isub hx hb dX4_text_262 ?_
                    refine lv_topi (fun x93 ex93 => ?_)
                    have ex93q : x93 = nI ((fk_txt (fk_v (kf jk) v) (fk_dn (kf jk))).length - 1 - i) := by
                      rw [ex93]; apply Int32.toInt_inj.mp; rw [fi_sub (by rw [nI_toInt (by omega), nI_toInt (by omega)]; omega) (by rw [nI_toInt (by omega), nI_toInt (by omega)]; omega), nI_toInt (by omega), nI_toInt (by omega), nI_toInt (by omega)]; omega
                    subst ex93q
                    refine lv_iload hx hb dX4_text_263 (lv_at hl 0 rfl) ?_
                    refine fk_iast hx hb hK hP hD hS 8 2 rfl rfl (i := (fk_txt (fk_v (kf jk) v) (fk_dn (kf jk))).length - 1 - i) (by omega) (by decide) dX4_text_265 (fun H locs hP hD hS => ?_)
                    have hP : va_P D vwCl (fk_wm cJ cI cZ am 0 (nI n) lo (nI (fk_txt (fk_v (kf jk) v) (fk_dn (kf jk))).length) wd sg up dn of bey rnd (upd (upd tz i (tz ((fk_txt (fk_v (kf jk) v) (fk_dn (kf jk))).length - 1 - i))) ((fk_txt (fk_v (kf jk) v) (fk_dn (kf jk))).length - 1 - i) (tz i)) pv sv ++ tl) H := hP
                    have hD : va_D A (fk_wm cJ cI cZ am 0 (nI n) lo (nI (fk_txt (fk_v (kf jk) v) (fk_dn (kf jk))).length) wd sg up dn of bey rnd (upd (upd tz i (tz ((fk_txt (fk_v (kf jk) v) (fk_dn (kf jk))).length - 1 - i))) ((fk_txt (fk_v (kf jk) v) (fk_dn (kf jk))).length - 1 - i) (tz i)) pv sv ++ tl) := hD
                    have b2 := fk_Tu_s iu hlt
                    refine lv_iinc (v := nI (i + 1)) (lv' := [(8, .int (nI (i + 1))), (9, .int (tz i)), (0, .ref (am 0))]) hx hb dX4_text_266 hl (k := 2) rfl (by exact nI_1 i) (by decide) rfl (fun ls hl => ?_)
                    refine lv_goto (tgt := 207) hx hb dX4_text_269 (by decide) ?_
                    exact ih207 (i + 1) (upd (upd tz i (tz ((fk_txt (fk_v (kf jk) v) (fk_dn (kf jk))).length - 1 - i))) ((fk_txt (fk_v (kf jk) v) (fk_dn (kf jk))).length - 1 - i) (tz i)) (by omega) (by omega) b2 _ _ _ hP hD hS (lv_sub hl [2, 0] rfl)
              exact L207 41 0 tv (by omega) (by omega) (fk_Tu_0 hTx) _ _ _ hP hD hS (lv_sub hl [1, 0] rfl)
            · rw [Int32.le_iff_toInt_le, show (0 : Int32).toInt = 0 by decide, fk_cmp_ge, hRn] at c_195
              have hT : fk_txt (fk_v (kf jk) v) (fk_dn (kf jk)) = L ++ [45] := by rw [fk_txt, if_pos (Classical.not_not.mp c_195), ← ir]
              refine lv_aload_n hx hb dX4_text_198 rfl (lv_at hl 0 rfl) ?_
              refine lv_bipush (v := 45) hx hb dX4_text_199 (by decide) ?_
              refine fk_cv hD hS hA (va_runV (As := [.int 45]) (rest := []) ⟨hx, hb, hml, hown, hts⟩ (kX4_letter _ am tl 0 (nI n) lo wd sg up dn of bey rnd tv pv sv ((L).length) 45 (by omega)) (cwV 1 hts gX4_text_X4_letter rfl rfl rfl (by decide +kernel) ⟨Nat.le_of_ble_eq_true rfl, Nat.le_of_ble_eq_true rfl⟩) (fk_preV 0 5 hK hN hP hD rfl rfl) rfl rfl hl.1 rfl (lv_room (Nat.le_of_ble_eq_true rfl)) dX4_text_201 ⟨Nat.le_of_ble_eq_true rfl, Nat.le_of_ble_eq_true rfl⟩) (fun u H locs hw hP hD hS => ?_)
              have hP : va_P D vwCl (fk_wm cJ cI cZ am 0 (nI n) lo (nI ((L).length + 1)) wd sg up dn of bey rnd (upd tv ((L).length) 45) pv sv ++ tl) H := hP
              have hD : va_D A (fk_wm cJ cI cZ am 0 (nI n) lo (nI ((L).length + 1)) wd sg up dn of bey rnd (upd tv ((L).length) 45) pv sv ++ tl) := hD
              rw [← fk_len1 L 45] at hP hD
              have hx95 := fk_Lx_add 45 ix
              have hP : va_P D vwCl (fk_wm cJ cI cZ am 0 (nI n) lo (nI (L ++ [45]).length) wd sg up dn of bey rnd (upd tv ((L).length) 45) pv sv ++ tl) H := hP
              have hD : va_D A (fk_wm cJ cI cZ am 0 (nI n) lo (nI (L ++ [45]).length) wd sg up dn of bey rnd (upd tv ((L).length) 45) pv sv ++ tl) := hD
              have hTl : (fk_txt (fk_v (kf jk) v) (fk_dn (kf jk))).length ≤ 36 := by rw [hT, fk_len1]; omega
              have hTx : fk_Lx (fk_txt (fk_v (kf jk) v) (fk_dn (kf jk))) (upd tv ((L).length) 45) := by rw [hT]; exact hx95
              have hTn : nI (fk_txt (fk_v (kf jk) v) (fk_dn (kf jk))).length = nI ((L ++ [45])).length := by rw [hT]
              rw [← hTn] at hP hD
              refine lv_iconst (v := 0) hx hb dX4_text_204 (by decide) ?_
              refine lv_istore (lv' := [(8, .int 0), (0, .ref (am 0)), (1, .int (nI (jk + 1))), (2, .long v), (4, .int lo), (5, .int (fk_cmp (fk_round 2 (fk_v (kf jk) v * 1000000) (fk_dn (kf jk))))), (6, .int (nI k)), (7, .int so)]) hx hb dX4_text_205 hl (by decide) rfl (fun ls hl => ?_)
              have L207 : ∀ (fu207 : Nat) (i : Nat) (tz : Nat → Int32), 40 - i < fu207 → (i ≤ 36) → (fk_Tu (fk_txt (fk_v (kf jk) v) (fk_dn (kf jk))) i tz) → ∀ (H : Heap) (locs : List Loc) (ls : Array Slot), va_P D vwCl (fk_wm cJ cI cZ am 0 (nI n) lo (nI (fk_txt (fk_v (kf jk) v) (fk_dn (kf jk))).length) wd sg up dn of bey rnd tz pv sv ++ tl) H → va_D A (fk_wm cJ cI cZ am 0 (nI n) lo (nI (fk_txt (fk_v (kf jk) v) (fk_dn (kf jk))).length) wd sg up dn of bey rnd tz pv sv ++ tl) → va_S A s.heap H locs → lv_has ls 10 [(0, .ref (am 0)), (8, .int (nI i))] → W p l e rmX4_text s m args below meth c H locs 0 0 QQ (F0 m 207 ls []) := by
                intro fu207
                induction fu207 with
                | zero => intro i tz hfu; exact absurd hfu (Nat.not_lt_zero _)
                | succ fu207 ih207 =>
                  intro i tz hfu207 hi iu H locs ls hP hD hS hl
                  refine lv_iconst (v := 2) hx hb dX4_text_207 (by decide) ?_
                  refine lv_iload hx hb dX4_text_208 (lv_at hl 1 rfl) ?_
                  refine lv_imul hx hb dX4_text_210 ?_
                  refine lv_topi (fun x96 ex96 => ?_)
                  have ex96q : x96 = nI (2 * i) := by
                    rw [ex96]; exact pk_mul 2 i
                  subst ex96q
                  refine lv_aload_n hx hb dX4_text_211 rfl (lv_at hl 0 rfl) ?_
                  refine va_get (D := D) (ci := 5) (v := .int (nI (fk_txt (fk_v (kf jk) v) (fk_dn (kf jk))).length)) (C := RX4) (T := TX4) (N := 14) hx hb hts k2 hown hK hP 0 rfl rfl 10 (by decide) k4 (fun _ h9 => h9) rfl dX4_text_212 ?_
                  refine lv_iconst (v := 1) hx hb dX4_text_215 (by decide) ?_
                  refine lv_isub hx hb dX4_text_216 ?_
                  refine lv_topi (fun x97 ex97 => ?_)
                  refine lv_icmp_ge (tgt := 272) hx hb dX4_text_217 (by decide) (fun c_217 => ?_) (fun c_217 => ?_)
                  · have hsub : x97.toInt = (fk_txt (fk_v (kf jk) v) (fk_dn (kf jk))).length - 1 := by rw [ex97, fi_sub (by rw [nI_toInt (by omega), show (1 : Int32).toInt = 1 by decide]; omega) (by rw [nI_toInt (by omega), show (1 : Int32).toInt = 1 by decide]; omega), nI_toInt (by omega)]; rfl
                    rw [Int32.le_iff_toInt_le, hsub, nI_toInt (by omega)] at c_217
                    refine lv_aload_n hx hb dX4_text_272 rfl (lv_at hl 0 rfl) ?_
                    refine va_get (D := D) (ci := 5) (v := .int (nI (fk_txt (fk_v (kf jk) v) (fk_dn (kf jk))).length)) (C := RX4) (T := TX4) (N := 14) hx hb hts k2 hown hK hP 0 rfl rfl 10 (by decide) k4 (fun _ h9 => h9) rfl dX4_text_273 ?_
                    have hRx := fk_Tu_e iu (by omega)
                    rw [hQQ]
                    exact W.iret (v := (nI (fk_txt (fk_v (kf jk) v) (fk_dn (kf jk))).length)) hx hb hr (fun t ht hW => ⟨⟨(nI (fk_txt (fk_v (kf jk) v) (fk_dn (kf jk))).length), ((nI (fk_txt (fk_v (kf jk) v) (fk_dn (kf jk))).length), tz, pv, sv), rfl, Or.inr ⟨jk, hjk, rfl, rfl, rfl, hTl, hRx⟩, by rw [ht]; exact hP, va_K.moved hW.alike hK, hD⟩, hS.F ht⟩) hS.2.2 dX4_text_276
                  · have hsub : x97.toInt = (fk_txt (fk_v (kf jk) v) (fk_dn (kf jk))).length - 1 := by rw [ex97, fi_sub (by rw [nI_toInt (by omega), show (1 : Int32).toInt = 1 by decide]; omega) (by rw [nI_toInt (by omega), show (1 : Int32).toInt = 1 by decide]; omega), nI_toInt (by omega)]; rfl
                    rw [Int32.le_iff_toInt_le, hsub, nI_toInt (by omega)] at c_217
                    have hlt : 2 * i + 1 < (fk_txt (fk_v (kf jk) v) (fk_dn (kf jk))).length := by omega
                    refine lv_aload_n hx hb dX4_text_220 rfl (lv_at hl 0 rfl) ?_
                    refine va_get (D := D) (ci := 5) (v := .ref (am 8)) (C := RX4) (T := TX4) (N := 14) hx hb hts k2 hown hK hP 0 rfl rfl 11 (by decide) k8 (fun _ h9 => h9) rfl dX4_text_221 ?_
                    refine lv_iload hx hb dX4_text_224 (lv_at hl 1 rfl) ?_
                    refine fk_iald hx hb hK hP 8 2 rfl rfl (i := i) (by omega) (by decide) dX4_text_226 ?_
                    refine lv_istore (lv' := [(9, .int (tz i)), (0, .ref (am 0)), (8, .int (nI i))]) hx hb dX4_text_227 hl (by decide) rfl (fun ls hl => ?_)
                    refine lv_aload_n hx hb dX4_text_229 rfl (lv_at hl 1 rfl) ?_
                    refine va_get (D := D) (ci := 5) (v := .ref (am 8)) (C := RX4) (T := TX4) (N := 14) hx hb hts k2 hown hK hP 0 rfl rfl 11 (by decide) k8 (fun _ h9 => h9) rfl dX4_text_230 ?_
                    refine lv_iload hx hb dX4_text_233 (lv_at hl 2 rfl) ?_
                    refine lv_aload_n hx hb dX4_text_235 rfl (lv_at hl 1 rfl) ?_
                    refine va_get (D := D) (ci := 5) (v := .ref (am 8)) (C := RX4) (T := TX4) (N := 14) hx hb hts k2 hown hK hP 0 rfl rfl 11 (by decide) k8 (fun _ h9 => h9) rfl dX4_text_236 ?_
                    refine lv_aload_n hx hb dX4_text_239 rfl (lv_at hl 1 rfl) ?_
                    refine va_get (D := D) (ci := 5) (v := .int (nI (fk_txt (fk_v (kf jk) v) (fk_dn (kf jk))).length)) (C := RX4) (T := TX4) (N := 14) hx hb hts k2 hown hK hP 0 rfl rfl 10 (by decide) k4 (fun _ h9 => h9) rfl dX4_text_240 ?_
                    refine lv_iconst (v := 1) hx hb dX4_text_243 (by decide) ?_
                    refine lv_isub hx hb dX4_text_244 ?_
                    refine lv_topi (fun x98 ex98 => ?_)
                    have ex98q : x98 = nI ((fk_txt (fk_v (kf jk) v) (fk_dn (kf jk))).length - 1) := by
                      rw [ex98]; apply Int32.toInt_inj.mp; rw [fi_sub (by rw [nI_toInt (by omega), show (1 : Int32).toInt = 1 by decide]; omega) (by rw [nI_toInt (by omega), show (1 : Int32).toInt = 1 by decide]; omega), nI_toInt (by omega), nI_toInt (by omega), show (1 : Int32).toInt = 1 by decide]; omega
                    subst ex98q
                    refine lv_iload hx hb dX4_text_245 (lv_at hl 2 rfl) ?_
                    refine lv_isub hx hb dX4_text_247 ?_
                    refine lv_topi (fun x99 ex99 => ?_)
                    have ex99q : x99 = nI ((fk_txt (fk_v (kf jk) v) (fk_dn (kf jk))).length - 1 - i) := by
                      rw [ex99]; apply Int32.toInt_inj.mp; rw [fi_sub (by rw [nI_toInt (by omega), nI_toInt (by omega)]; omega) (by rw [nI_toInt (by omega), nI_toInt (by omega)]; omega), nI_toInt (by omega), nI_toInt (by omega), nI_toInt (by omega)]; omega
                    subst ex99q
                    refine fk_iald hx hb hK hP 8 2 rfl rfl (i := (fk_txt (fk_v (kf jk) v) (fk_dn (kf jk))).length - 1 - i) (by omega) (by decide) dX4_text_248 ?_
                    refine fk_iast hx hb hK hP hD hS 8 2 rfl rfl (i := i) (by omega) (by decide) dX4_text_249 (fun H locs hP hD hS => ?_)
                    have hP : va_P D vwCl (fk_wm cJ cI cZ am 0 (nI n) lo (nI (fk_txt (fk_v (kf jk) v) (fk_dn (kf jk))).length) wd sg up dn of bey rnd (upd tz i (tz ((fk_txt (fk_v (kf jk) v) (fk_dn (kf jk))).length - 1 - i))) pv sv ++ tl) H := hP
                    have hD : va_D A (fk_wm cJ cI cZ am 0 (nI n) lo (nI (fk_txt (fk_v (kf jk) v) (fk_dn (kf jk))).length) wd sg up dn of bey rnd (upd tz i (tz ((fk_txt (fk_v (kf jk) v) (fk_dn (kf jk))).length - 1 - i))) pv sv ++ tl) := hD
                    refine lv_aload_n hx hb dX4_text_250 rfl (lv_at hl 1 rfl) ?_
                    refine va_get (D := D) (ci := 5) (v := .ref (am 8)) (C := RX4) (T := TX4) (N := 14) hx hb hts k2 hown hK hP 0 rfl rfl 11 (by decide) k8 (fun _ h9 => h9) rfl dX4_text_251 ?_
                    refine lv_aload_n hx hb dX4_text_254 rfl (lv_at hl 1 rfl) ?_
                    refine va_get (D := D) (ci := 5) (v := .int (nI (fk_txt (fk_v (kf jk) v) (fk_dn (kf jk))).length)) (C := RX4) (T := TX4) (N := 14) hx hb hts k2 hown hK hP 0 rfl rfl 10 (by decide) k4 (fun _ h9 => h9) rfl dX4_text_255 ?_
                    refine lv_iconst (v := 1) hx hb dX4_text_258 (by decide) ?_
                    refine lv_isub hx hb dX4_text_259 ?_
                    refine lv_topi (fun x100 ex100 => ?_)
                    have ex100q : x100 = nI ((fk_txt (fk_v (kf jk) v) (fk_dn (kf jk))).length - 1) := by
                      rw [ex100]; apply Int32.toInt_inj.mp; rw [fi_sub (by rw [nI_toInt (by omega), show (1 : Int32).toInt = 1 by decide]; omega) (by rw [nI_toInt (by omega), show (1 : Int32).toInt = 1 by decide]; omega), nI_toInt (by omega), nI_toInt (by omega), show (1 : Int32).toInt = 1 by decide]; omega
                    subst ex100q
                    refine lv_iload hx hb dX4_text_260 (lv_at hl 2 rfl) ?_
                    refine lv_isub hx hb dX4_text_262 ?_
                    refine lv_topi (fun x101 ex101 => ?_)
                    have ex101q : x101 = nI ((fk_txt (fk_v (kf jk) v) (fk_dn (kf jk))).length - 1 - i) := by
                      rw [ex101]; apply Int32.toInt_inj.mp; rw [fi_sub (by rw [nI_toInt (by omega), nI_toInt (by omega)]; omega) (by rw [nI_toInt (by omega), nI_toInt (by omega)]; omega), nI_toInt (by omega), nI_toInt (by omega), nI_toInt (by omega)]; omega
                    subst ex101q
                    refine lv_iload hx hb dX4_text_263 (lv_at hl 0 rfl) ?_
                    refine fk_iast hx hb hK hP hD hS 8 2 rfl rfl (i := (fk_txt (fk_v (kf jk) v) (fk_dn (kf jk))).length - 1 - i) (by omega) (by decide) dX4_text_265 (fun H locs hP hD hS => ?_)
                    have hP : va_P D vwCl (fk_wm cJ cI cZ am 0 (nI n) lo (nI (fk_txt (fk_v (kf jk) v) (fk_dn (kf jk))).length) wd sg up dn of bey rnd (upd (upd tz i (tz ((fk_txt (fk_v (kf jk) v) (fk_dn (kf jk))).length - 1 - i))) ((fk_txt (fk_v (kf jk) v) (fk_dn (kf jk))).length - 1 - i) (tz i)) pv sv ++ tl) H := hP
                    have hD : va_D A (fk_wm cJ cI cZ am 0 (nI n) lo (nI (fk_txt (fk_v (kf jk) v) (fk_dn (kf jk))).length) wd sg up dn of bey rnd (upd (upd tz i (tz ((fk_txt (fk_v (kf jk) v) (fk_dn (kf jk))).length - 1 - i))) ((fk_txt (fk_v (kf jk) v) (fk_dn (kf jk))).length - 1 - i) (tz i)) pv sv ++ tl) := hD
                    have b2 := fk_Tu_s iu hlt
                    refine lv_iinc (v := nI (i + 1)) (lv' := [(8, .int (nI (i + 1))), (9, .int (tz i)), (0, .ref (am 0))]) hx hb dX4_text_266 hl (k := 2) rfl (by exact nI_1 i) (by decide) rfl (fun ls hl => ?_)
                    refine lv_goto (tgt := 207) hx hb dX4_text_269 (by decide) ?_
                    exact ih207 (i + 1) (upd (upd tz i (tz ((fk_txt (fk_v (kf jk) v) (fk_dn (kf jk))).length - 1 - i))) ((fk_txt (fk_v (kf jk) v) (fk_dn (kf jk))).length - 1 - i) (tz i)) (by omega) (by omega) b2 _ _ _ hP hD hS (lv_sub hl [2, 0] rfl)
              exact L207 41 0 (upd tv ((L).length) 45) (by omega) (by omega) (fk_Tu_0 hTx) _ _ _ hP hD hS (lv_sub hl [1, 0] rfl)
          · have h7k : k < 7 := by rcases Nat.lt_or_ge k 7 with q | q; exact q; exact absurd ((nI_leI (a := 7) (b := k) (by omega) (by omega)).mpr q) c_96
            have hgo : 6 < k → fk_abs cu ≠ 0 := fun _ => by omega
            have hk30 : k < 30 := by omega
            refine lv_aload_n hx hb dX4_text_99 rfl (lv_at hl 0 rfl) ?_
            refine lv_bipush (v := 14) hx hb dX4_text_100 (by decide) ?_
            refine lv_bipush (v := 13) hx hb dX4_text_102 (by decide) ?_
            refine lv_bipush (v := 16) hx hb dX4_text_104 (by decide) ?_
            refine lv_bipush (v := 15) hx hb dX4_text_106 (by decide) ?_
            refine fk_cv hD hS hA (va_runV (As := [.int 14, .int 13, .int 16, .int 15]) (rest := []) ⟨hx, hb, hml, hown, hts⟩ (kX4_divide _ am tl 0 (nI n) lo (nI L.length) wd sg up dn of bey rnd tv pv sv 14 13 16 15 cu 10 (by omega) (by omega) (by omega) (by omega) i16 i15 (by decide) (by have e : (10 : Int) ^ (30 - k) ≤ 10 ^ 30 := fk_10le ik; have e2 : (10 : Int) ^ 30 = 1000000000000000000000000000000 := (by decide); omega)) (cwV 4 hts gX4_text_X4_divide rfl rfl rfl (by decide +kernel) ⟨Nat.le_of_ble_eq_true rfl, Nat.le_of_ble_eq_true rfl⟩) (fk_preV 0 5 hK hN hP hD rfl rfl) rfl rfl hl.1 rfl (lv_room (Nat.le_of_ble_eq_true rfl)) dX4_text_108 ⟨Nat.le_of_ble_eq_true rfl, Nat.le_of_ble_eq_true rfl⟩) (fun u102 H locs hw hP hD hS => ?_)
            have hP : va_P D vwCl (fk_wm cJ cI cZ am 0 (nI n) lo (nI L.length) wd sg up dn of bey rnd tv u102.1 u102.2 ++ tl) H := hP
            have hD : va_D A (fk_wm cJ cI cZ am 0 (nI n) lo (nI L.length) wd sg up dn of bey rnd tv u102.1 u102.2 ++ tl) := hD
            obtain ⟨g14, g13, kd1⟩ := hw
            rw [show fk_abs 10 = 10 by decide] at g13
            have j15 := fk_G_kr i15 kd1 (by simp)
            refine lv_aload_n hx hb dX4_text_111 rfl (lv_at hl 0 rfl) ?_
            refine va_get (D := D) (ci := 5) (v := .ref (am 9)) (C := RX4) (T := TX4) (N := 14) hx hb hts k2 hown hK hP 0 rfl rfl 12 (by decide) k7 (fun _ h9 => h9) rfl dX4_text_112 ?_
            refine lv_sipush (v := 208) hx hb dX4_text_115 (by decide) ?_
            refine fk_iald hx hb hK hP 9 2 rfl rfl (i := 208) (by decide) (by decide) dX4_text_118 ?_
            have hab0 : 0 ≤ fk_abs cu := by have := fk_abs_cases cu; omega
            have hd : u102.1 208 = nI (fk_abs cu % 10).toNat := by
              have q := fk_rlimb g13.1 (j := 0) (by omega)
              rw [Int.pow_zero, Int.ediv_one, show fk_abs (fk_abs cu % 10) = fk_abs cu % 10 by rw [fk_abs, if_neg (by omega)]] at q
              have q2 : (u102.1 208).toInt = fk_abs cu % 10 % 65536 := q
              apply Int32.toInt_inj.mp
              rw [q2, nI_toInt (by omega)]
              omega
            rw [hd]
            have b3 : fk_abs (fk_dq cu 10) < 10 ^ (30 - (k + 1)) := by rw [fk_dq10]; exact fk_10s ib hk30
            have b7 : k + 1 ≤ 30 := by omega
            refine lv_istore (lv' := [(8, .int (nI (fk_abs cu % 10).toNat)), (0, .ref (am 0)), (1, .int (nI (jk + 1))), (2, .long v), (4, .int lo), (5, .int (fk_cmp (fk_round 2 (fk_v (kf jk) v * 1000000) (fk_dn (kf jk))))), (6, .int (nI k)), (7, .int so)]) hx hb dX4_text_119 hl (by decide) rfl (fun ls hl => ?_)
            refine lv_iload hx hb dX4_text_121 (lv_at hl 7 rfl) ?_
            refine lv_if_ne (tgt := 138) hx hb dX4_text_123 (by decide) (fun c_123 => ?_) (fun c_123 => ?_)
            · have hL : L ≠ [] := by rcases iso with q | q; exact absurd q.2 c_123; exact q.1
              refine lv_iconst (v := 1) hx hb dX4_text_138 (by decide) ?_
              refine lv_goto (tgt := 143) hx hb dX4_text_139 (by decide) ?_
              refine lv_istore (lv' := [(7, .int 1), (8, .int (nI (fk_abs cu % 10).toNat)), (0, .ref (am 0)), (1, .int (nI (jk + 1))), (2, .long v), (4, .int lo), (5, .int (fk_cmp (fk_round 2 (fk_v (kf jk) v * 1000000) (fk_dn (kf jk))))), (6, .int (nI k))]) hx hb dX4_text_143 hl (by decide) rfl (fun ls hl => ?_)
              refine lv_iload hx hb dX4_text_145 (lv_at hl 7 rfl) ?_
              refine lv_bipush (v := 6) hx hb dX4_text_147 (by decide) ?_
              refine lv_icmp_ne (tgt := 165) hx hb dX4_text_149 (by decide) (fun c_149 => ?_) (fun c_149 => ?_)
              · have hn6 : k ≠ 6 := fun q => c_149 (by rw [q]; rfl)
                refine lv_iload hx hb dX4_text_165 (lv_at hl 0 rfl) ?_
                refine lv_if_eq (tgt := 179) hx hb dX4_text_167 (by decide) (fun c_167 => False.elim (absurd c_167 (by decide))) (fun c_167 => ?_)
                refine lv_aload_n hx hb dX4_text_170 rfl (lv_at hl 2 rfl) ?_
                refine lv_bipush (v := 48) hx hb dX4_text_171 (by decide) ?_
                refine lv_iload hx hb dX4_text_173 (lv_at hl 1 rfl) ?_
                refine lv_iadd hx hb dX4_text_175 ?_
                refine lv_topi (fun x104 ex104 => ?_)
                have ex104q : x104 = fk_dc (fk_abs cu) := by
                  rw [ex104]; exact nI_add 48 (fk_abs cu % 10).toNat
                subst ex104q
                refine fk_cv hD hS hA (va_runV (As := [.int (fk_dc (fk_abs cu))]) (rest := []) ⟨hx, hb, hml, hown, hts⟩ (kX4_letter _ am tl 0 (nI n) lo wd sg up dn of bey rnd tv u102.1 u102.2 ((L).length) (fk_dc (fk_abs cu)) (by omega)) (cwV 1 hts gX4_text_X4_letter rfl rfl rfl (by decide +kernel) ⟨Nat.le_of_ble_eq_true rfl, Nat.le_of_ble_eq_true rfl⟩) (fk_preV 0 5 hK hN hP hD rfl rfl) rfl rfl hl.1 rfl (lv_room (Nat.le_of_ble_eq_true rfl)) dX4_text_176 ⟨Nat.le_of_ble_eq_true rfl, Nat.le_of_ble_eq_true rfl⟩) (fun u H locs hw hP hD hS => ?_)
                have hP : va_P D vwCl (fk_wm cJ cI cZ am 0 (nI n) lo (nI ((L).length + 1)) wd sg up dn of bey rnd (upd tv ((L).length) (fk_dc (fk_abs cu))) u102.1 u102.2 ++ tl) H := hP
                have hD : va_D A (fk_wm cJ cI cZ am 0 (nI n) lo (nI ((L).length + 1)) wd sg up dn of bey rnd (upd tv ((L).length) (fk_dc (fk_abs cu))) u102.1 u102.2 ++ tl) := hD
                rw [← fk_len1 L (fk_dc (fk_abs cu))] at hP hD
                have hx106 := fk_Lx_add (fk_dc (fk_abs cu)) ix
                have hP : va_P D vwCl (fk_wm cJ cI cZ am 0 (nI n) lo (nI (L ++ [(fk_dc (fk_abs cu))]).length) wd sg up dn of bey rnd (upd tv ((L).length) (fk_dc (fk_abs cu))) u102.1 u102.2 ++ tl) H := hP
                have hD : va_D A (fk_wm cJ cI cZ am 0 (nI n) lo (nI (L ++ [(fk_dc (fk_abs cu))]).length) wd sg up dn of bey rnd (upd tv ((L).length) (fk_dc (fk_abs cu))) u102.1 u102.2 ++ tl) := hD
                have hr : fk_rest (k + 1) (fk_abs (fk_dq cu 10)) (L ++ [(fk_dc (fk_abs cu))]) = fk_tl4 (fk_v (kf jk) v) (fk_dn (kf jk)) := by rw [fk_dq10, fk_rest_p hn6 (fun _ => Or.inr hL) hgo (by omega)]; exact ir
                have hso : ((L ++ [(fk_dc (fk_abs cu))]) = [] ∧ (1 : Int32) = 0) ∨ ((L ++ [(fk_dc (fk_abs cu))]) ≠ [] ∧ (1 : Int32) = 1) := Or.inr ⟨by simp, rfl⟩
                refine lv_aload_n hx hb dX4_text_179 rfl (lv_at hl 2 rfl) ?_
                refine lv_bipush (v := 16) hx hb dX4_text_180 (by decide) ?_
                refine lv_bipush (v := 14) hx hb dX4_text_182 (by decide) ?_
                refine fk_cv hD hS hA (va_runV (As := [.int 16, .int 14]) (rest := []) ⟨hx, hb, hml, hown, hts⟩ (kX4_copy _ am tl 0 (nI n) lo (nI (L ++ [(fk_dc (fk_abs cu))]).length) wd sg up dn of bey rnd (upd tv ((L).length) (fk_dc (fk_abs cu))) u102.1 u102.2 16 14 _ (by omega) (by omega) (by omega) g14) (cwV 2 hts gX4_text_X4_copy rfl rfl rfl (by decide +kernel) ⟨Nat.le_of_ble_eq_true rfl, Nat.le_of_ble_eq_true rfl⟩) (fk_preV 0 5 hK hN hP hD rfl rfl) rfl rfl hl.1 rfl (lv_room (Nat.le_of_ble_eq_true rfl)) dX4_text_184 ⟨Nat.le_of_ble_eq_true rfl, Nat.le_of_ble_eq_true rfl⟩) (fun u107 H locs hw hP hD hS => ?_)
                have hP : va_P D vwCl (fk_wm cJ cI cZ am 0 (nI n) lo (nI (L ++ [(fk_dc (fk_abs cu))]).length) wd sg up dn of bey rnd (upd tv ((L).length) (fk_dc (fk_abs cu))) u107.1 u107.2 ++ tl) H := hP
                have hD : va_D A (fk_wm cJ cI cZ am 0 (nI n) lo (nI (L ++ [(fk_dc (fk_abs cu))]).length) wd sg up dn of bey rnd (upd tv ((L).length) (fk_dc (fk_abs cu))) u107.1 u107.2 ++ tl) := hD
                obtain ⟨n16, f1, f2⟩ := hw
                have n15 := fk_G_keep j15 f1 f2 (by omega)
                refine lv_iinc (v := nI (k + 1)) (lv' := [(6, .int (nI (k + 1))), (7, .int 1), (8, .int (nI (fk_abs cu % 10).toNat)), (0, .ref (am 0)), (1, .int (nI (jk + 1))), (2, .long v), (4, .int lo), (5, .int (fk_cmp (fk_round 2 (fk_v (kf jk) v * 1000000) (fk_dn (kf jk)))))]) hx hb dX4_text_187 hl (k := 7) rfl (by exact nI_1 k) (by decide) rfl (fun ls hl => ?_)
                refine lv_goto (tgt := 82) hx hb dX4_text_190 (by decide) ?_
                exact ih82 (k + 1) (fk_dq cu 10) (L ++ [(fk_dc (fk_abs cu))]) 1 (upd tv ((L).length) (fk_dc (fk_abs cu))) u107.1 u107.2 (by omega) n16 n15 b3 hr hso hx106 b7 (by simp only [List.length_append, List.length_singleton]; omega) (by intro _; simp) _ _ _ hP hD hS (lv_sub hl [3, 4, 5, 6, 7, 0, 1] rfl)
              · have he6 : k = 6 := (nI_eq (a := k) (b := 6) (by omega) (by omega)).mp c_149
                refine lv_aload_n hx hb dX4_text_152 rfl (lv_at hl 2 rfl) ?_
                refine va_get (D := D) (ci := 5) (v := .int (nI L.length)) (C := RX4) (T := TX4) (N := 14) hx hb hts k2 hown hK hP 0 rfl rfl 10 (by decide) k4 (fun _ h9 => h9) rfl dX4_text_153 ?_
                refine lv_if_le (tgt := 165) hx hb dX4_text_156 (by decide) (fun c_156 => ?_) (fun c_156 => ?_)
                · rw [Int32.le_iff_toInt_le, show (0 : Int32).toInt = 0 by decide, nI_toInt (by omega)] at c_156
                  have hLe : L = [] := List.eq_nil_of_length_eq_zero (by omega)
                  refine lv_iload hx hb dX4_text_165 (lv_at hl 0 rfl) ?_
                  refine lv_if_eq (tgt := 179) hx hb dX4_text_167 (by decide) (fun c_167 => False.elim (absurd c_167 (by decide))) (fun c_167 => ?_)
                  refine lv_aload_n hx hb dX4_text_170 rfl (lv_at hl 2 rfl) ?_
                  refine lv_bipush (v := 48) hx hb dX4_text_171 (by decide) ?_
                  refine lv_iload hx hb dX4_text_173 (lv_at hl 1 rfl) ?_
                  refine lv_iadd hx hb dX4_text_175 ?_
                  refine lv_topi (fun x109 ex109 => ?_)
                  have ex109q : x109 = fk_dc (fk_abs cu) := by
                    rw [ex109]; exact nI_add 48 (fk_abs cu % 10).toNat
                  subst ex109q
                  refine fk_cv hD hS hA (va_runV (As := [.int (fk_dc (fk_abs cu))]) (rest := []) ⟨hx, hb, hml, hown, hts⟩ (kX4_letter _ am tl 0 (nI n) lo wd sg up dn of bey rnd tv u102.1 u102.2 ((L).length) (fk_dc (fk_abs cu)) (by omega)) (cwV 1 hts gX4_text_X4_letter rfl rfl rfl (by decide +kernel) ⟨Nat.le_of_ble_eq_true rfl, Nat.le_of_ble_eq_true rfl⟩) (fk_preV 0 5 hK hN hP hD rfl rfl) rfl rfl hl.1 rfl (lv_room (Nat.le_of_ble_eq_true rfl)) dX4_text_176 ⟨Nat.le_of_ble_eq_true rfl, Nat.le_of_ble_eq_true rfl⟩) (fun u H locs hw hP hD hS => ?_)
                  have hP : va_P D vwCl (fk_wm cJ cI cZ am 0 (nI n) lo (nI ((L).length + 1)) wd sg up dn of bey rnd (upd tv ((L).length) (fk_dc (fk_abs cu))) u102.1 u102.2 ++ tl) H := hP
                  have hD : va_D A (fk_wm cJ cI cZ am 0 (nI n) lo (nI ((L).length + 1)) wd sg up dn of bey rnd (upd tv ((L).length) (fk_dc (fk_abs cu))) u102.1 u102.2 ++ tl) := hD
                  rw [← fk_len1 L (fk_dc (fk_abs cu))] at hP hD
                  have hx111 := fk_Lx_add (fk_dc (fk_abs cu)) ix
                  have hP : va_P D vwCl (fk_wm cJ cI cZ am 0 (nI n) lo (nI (L ++ [(fk_dc (fk_abs cu))]).length) wd sg up dn of bey rnd (upd tv ((L).length) (fk_dc (fk_abs cu))) u102.1 u102.2 ++ tl) H := hP
                  have hD : va_D A (fk_wm cJ cI cZ am 0 (nI n) lo (nI (L ++ [(fk_dc (fk_abs cu))]).length) wd sg up dn of bey rnd (upd tv ((L).length) (fk_dc (fk_abs cu))) u102.1 u102.2 ++ tl) := hD
                  have hr : fk_rest (k + 1) (fk_abs (fk_dq cu 10)) (L ++ [(fk_dc (fk_abs cu))]) = fk_tl4 (fk_v (kf jk) v) (fk_dn (kf jk)) := by
                    have q := fk_rest_6 (fk_abs cu) L
                    rw [fk_pt, if_neg (fun q => q hLe)] at q
                    subst he6
                    rw [fk_dq10]; exact q.trans ir
                  have hso : ((L ++ [(fk_dc (fk_abs cu))]) = [] ∧ (1 : Int32) = 0) ∨ ((L ++ [(fk_dc (fk_abs cu))]) ≠ [] ∧ (1 : Int32) = 1) := Or.inr ⟨by simp, rfl⟩
                  refine lv_aload_n hx hb dX4_text_179 rfl (lv_at hl 2 rfl) ?_
                  refine lv_bipush (v := 16) hx hb dX4_text_180 (by decide) ?_
                  refine lv_bipush (v := 14) hx hb dX4_text_182 (by decide) ?_
                  refine fk_cv hD hS hA (va_runV (As := [.int 16, .int 14]) (rest := []) ⟨hx, hb, hml, hown, hts⟩ (kX4_copy _ am tl 0 (nI n) lo (nI (L ++ [(fk_dc (fk_abs cu))]).length) wd sg up dn of bey rnd (upd tv ((L).length) (fk_dc (fk_abs cu))) u102.1 u102.2 16 14 _ (by omega) (by omega) (by omega) g14) (cwV 2 hts gX4_text_X4_copy rfl rfl rfl (by decide +kernel) ⟨Nat.le_of_ble_eq_true rfl, Nat.le_of_ble_eq_true rfl⟩) (fk_preV 0 5 hK hN hP hD rfl rfl) rfl rfl hl.1 rfl (lv_room (Nat.le_of_ble_eq_true rfl)) dX4_text_184 ⟨Nat.le_of_ble_eq_true rfl, Nat.le_of_ble_eq_true rfl⟩) (fun u112 H locs hw hP hD hS => ?_)
                  have hP : va_P D vwCl (fk_wm cJ cI cZ am 0 (nI n) lo (nI (L ++ [(fk_dc (fk_abs cu))]).length) wd sg up dn of bey rnd (upd tv ((L).length) (fk_dc (fk_abs cu))) u112.1 u112.2 ++ tl) H := hP
                  have hD : va_D A (fk_wm cJ cI cZ am 0 (nI n) lo (nI (L ++ [(fk_dc (fk_abs cu))]).length) wd sg up dn of bey rnd (upd tv ((L).length) (fk_dc (fk_abs cu))) u112.1 u112.2 ++ tl) := hD
                  obtain ⟨n16, f1, f2⟩ := hw
                  have n15 := fk_G_keep j15 f1 f2 (by omega)
                  refine lv_iinc (v := nI (k + 1)) (lv' := [(6, .int (nI (k + 1))), (7, .int 1), (8, .int (nI (fk_abs cu % 10).toNat)), (0, .ref (am 0)), (1, .int (nI (jk + 1))), (2, .long v), (4, .int lo), (5, .int (fk_cmp (fk_round 2 (fk_v (kf jk) v * 1000000) (fk_dn (kf jk)))))]) hx hb dX4_text_187 hl (k := 7) rfl (by exact nI_1 k) (by decide) rfl (fun ls hl => ?_)
                  refine lv_goto (tgt := 82) hx hb dX4_text_190 (by decide) ?_
                  exact ih82 (k + 1) (fk_dq cu 10) (L ++ [(fk_dc (fk_abs cu))]) 1 (upd tv ((L).length) (fk_dc (fk_abs cu))) u112.1 u112.2 (by omega) n16 n15 b3 hr hso hx111 b7 (by simp only [List.length_append, List.length_singleton]; omega) (by intro _; simp) _ _ _ hP hD hS (lv_sub hl [3, 4, 5, 6, 7, 0, 1] rfl)
                · rw [Int32.le_iff_toInt_le, show (0 : Int32).toInt = 0 by decide, nI_toInt (by omega)] at c_156
                  have hLn : L ≠ [] := fun q => by rw [q] at c_156; exact c_156 (by decide)
                  refine lv_aload_n hx hb dX4_text_159 rfl (lv_at hl 2 rfl) ?_
                  refine lv_bipush (v := 46) hx hb dX4_text_160 (by decide) ?_
                  refine fk_cv hD hS hA (va_runV (As := [.int 46]) (rest := []) ⟨hx, hb, hml, hown, hts⟩ (kX4_letter _ am tl 0 (nI n) lo wd sg up dn of bey rnd tv u102.1 u102.2 ((L).length) 46 (by omega)) (cwV 1 hts gX4_text_X4_letter rfl rfl rfl (by decide +kernel) ⟨Nat.le_of_ble_eq_true rfl, Nat.le_of_ble_eq_true rfl⟩) (fk_preV 0 5 hK hN hP hD rfl rfl) rfl rfl hl.1 rfl (lv_room (Nat.le_of_ble_eq_true rfl)) dX4_text_162 ⟨Nat.le_of_ble_eq_true rfl, Nat.le_of_ble_eq_true rfl⟩) (fun u H locs hw hP hD hS => ?_)
                  have hP : va_P D vwCl (fk_wm cJ cI cZ am 0 (nI n) lo (nI ((L).length + 1)) wd sg up dn of bey rnd (upd tv ((L).length) 46) u102.1 u102.2 ++ tl) H := hP
                  have hD : va_D A (fk_wm cJ cI cZ am 0 (nI n) lo (nI ((L).length + 1)) wd sg up dn of bey rnd (upd tv ((L).length) 46) u102.1 u102.2 ++ tl) := hD
                  rw [← fk_len1 L 46] at hP hD
                  have hx115 := fk_Lx_add 46 ix
                  have hP : va_P D vwCl (fk_wm cJ cI cZ am 0 (nI n) lo (nI (L ++ [46]).length) wd sg up dn of bey rnd (upd tv ((L).length) 46) u102.1 u102.2 ++ tl) H := hP
                  have hD : va_D A (fk_wm cJ cI cZ am 0 (nI n) lo (nI (L ++ [46]).length) wd sg up dn of bey rnd (upd tv ((L).length) 46) u102.1 u102.2 ++ tl) := hD
                  refine lv_iload hx hb dX4_text_165 (lv_at hl 0 rfl) ?_
                  refine lv_if_eq (tgt := 179) hx hb dX4_text_167 (by decide) (fun c_167 => False.elim (absurd c_167 (by decide))) (fun c_167 => ?_)
                  refine lv_aload_n hx hb dX4_text_170 rfl (lv_at hl 2 rfl) ?_
                  refine lv_bipush (v := 48) hx hb dX4_text_171 (by decide) ?_
                  refine lv_iload hx hb dX4_text_173 (lv_at hl 1 rfl) ?_
                  refine lv_iadd hx hb dX4_text_175 ?_
                  refine lv_topi (fun x116 ex116 => ?_)
                  have ex116q : x116 = fk_dc (fk_abs cu) := by
                    rw [ex116]; exact nI_add 48 (fk_abs cu % 10).toNat
                  subst ex116q
                  refine fk_cv hD hS hA (va_runV (As := [.int (fk_dc (fk_abs cu))]) (rest := []) ⟨hx, hb, hml, hown, hts⟩ (kX4_letter _ am tl 0 (nI n) lo wd sg up dn of bey rnd (upd tv ((L).length) 46) u102.1 u102.2 (((L ++ [46])).length) (fk_dc (fk_abs cu)) (by rw [fk_len1]; omega)) (cwV 1 hts gX4_text_X4_letter rfl rfl rfl (by decide +kernel) ⟨Nat.le_of_ble_eq_true rfl, Nat.le_of_ble_eq_true rfl⟩) (fk_preV 0 5 hK hN hP hD rfl rfl) rfl rfl hl.1 rfl (lv_room (Nat.le_of_ble_eq_true rfl)) dX4_text_176 ⟨Nat.le_of_ble_eq_true rfl, Nat.le_of_ble_eq_true rfl⟩) (fun u H locs hw hP hD hS => ?_)
                  have hP : va_P D vwCl (fk_wm cJ cI cZ am 0 (nI n) lo (nI (((L ++ [46])).length + 1)) wd sg up dn of bey rnd (upd (upd tv ((L).length) 46) (((L ++ [46])).length) (fk_dc (fk_abs cu))) u102.1 u102.2 ++ tl) H := hP
                  have hD : va_D A (fk_wm cJ cI cZ am 0 (nI n) lo (nI (((L ++ [46])).length + 1)) wd sg up dn of bey rnd (upd (upd tv ((L).length) 46) (((L ++ [46])).length) (fk_dc (fk_abs cu))) u102.1 u102.2 ++ tl) := hD
                  rw [← fk_len1 (L ++ [46]) (fk_dc (fk_abs cu))] at hP hD
                  have hx118 := fk_Lx_add (fk_dc (fk_abs cu)) hx115
                  have hP : va_P D vwCl (fk_wm cJ cI cZ am 0 (nI n) lo (nI ((L ++ [46]) ++ [(fk_dc (fk_abs cu))]).length) wd sg up dn of bey rnd (upd (upd tv ((L).length) 46) (((L ++ [46])).length) (fk_dc (fk_abs cu))) u102.1 u102.2 ++ tl) H := hP
                  have hD : va_D A (fk_wm cJ cI cZ am 0 (nI n) lo (nI ((L ++ [46]) ++ [(fk_dc (fk_abs cu))]).length) wd sg up dn of bey rnd (upd (upd tv ((L).length) 46) (((L ++ [46])).length) (fk_dc (fk_abs cu))) u102.1 u102.2 ++ tl) := hD
                  have hr : fk_rest (k + 1) (fk_abs (fk_dq cu 10)) ((L ++ [46]) ++ [(fk_dc (fk_abs cu))]) = fk_tl4 (fk_v (kf jk) v) (fk_dn (kf jk)) := by
                    have q := fk_rest_6 (fk_abs cu) L
                    rw [fk_pt, if_pos hLn] at q
                    subst he6
                    rw [fk_dq10]; exact q.trans ir
                  have hso : (((L ++ [46]) ++ [(fk_dc (fk_abs cu))]) = [] ∧ (1 : Int32) = 0) ∨ (((L ++ [46]) ++ [(fk_dc (fk_abs cu))]) ≠ [] ∧ (1 : Int32) = 1) := Or.inr ⟨by simp, rfl⟩
                  refine lv_aload_n hx hb dX4_text_179 rfl (lv_at hl 2 rfl) ?_
                  refine lv_bipush (v := 16) hx hb dX4_text_180 (by decide) ?_
                  refine lv_bipush (v := 14) hx hb dX4_text_182 (by decide) ?_
                  refine fk_cv hD hS hA (va_runV (As := [.int 16, .int 14]) (rest := []) ⟨hx, hb, hml, hown, hts⟩ (kX4_copy _ am tl 0 (nI n) lo (nI ((L ++ [46]) ++ [(fk_dc (fk_abs cu))]).length) wd sg up dn of bey rnd (upd (upd tv ((L).length) 46) (((L ++ [46])).length) (fk_dc (fk_abs cu))) u102.1 u102.2 16 14 _ (by omega) (by omega) (by omega) g14) (cwV 2 hts gX4_text_X4_copy rfl rfl rfl (by decide +kernel) ⟨Nat.le_of_ble_eq_true rfl, Nat.le_of_ble_eq_true rfl⟩) (fk_preV 0 5 hK hN hP hD rfl rfl) rfl rfl hl.1 rfl (lv_room (Nat.le_of_ble_eq_true rfl)) dX4_text_184 ⟨Nat.le_of_ble_eq_true rfl, Nat.le_of_ble_eq_true rfl⟩) (fun u119 H locs hw hP hD hS => ?_)
                  have hP : va_P D vwCl (fk_wm cJ cI cZ am 0 (nI n) lo (nI ((L ++ [46]) ++ [(fk_dc (fk_abs cu))]).length) wd sg up dn of bey rnd (upd (upd tv ((L).length) 46) (((L ++ [46])).length) (fk_dc (fk_abs cu))) u119.1 u119.2 ++ tl) H := hP
                  have hD : va_D A (fk_wm cJ cI cZ am 0 (nI n) lo (nI ((L ++ [46]) ++ [(fk_dc (fk_abs cu))]).length) wd sg up dn of bey rnd (upd (upd tv ((L).length) 46) (((L ++ [46])).length) (fk_dc (fk_abs cu))) u119.1 u119.2 ++ tl) := hD
                  obtain ⟨n16, f1, f2⟩ := hw
                  have n15 := fk_G_keep j15 f1 f2 (by omega)
                  refine lv_iinc (v := nI (k + 1)) (lv' := [(6, .int (nI (k + 1))), (7, .int 1), (8, .int (nI (fk_abs cu % 10).toNat)), (0, .ref (am 0)), (1, .int (nI (jk + 1))), (2, .long v), (4, .int lo), (5, .int (fk_cmp (fk_round 2 (fk_v (kf jk) v * 1000000) (fk_dn (kf jk)))))]) hx hb dX4_text_187 hl (k := 7) rfl (by exact nI_1 k) (by decide) rfl (fun ls hl => ?_)
                  refine lv_goto (tgt := 82) hx hb dX4_text_190 (by decide) ?_
                  exact ih82 (k + 1) (fk_dq cu 10) ((L ++ [46]) ++ [(fk_dc (fk_abs cu))]) 1 (upd (upd tv ((L).length) 46) (((L ++ [46])).length) (fk_dc (fk_abs cu))) u119.1 u119.2 (by omega) n16 n15 b3 hr hso hx118 b7 (by simp only [List.length_append, List.length_singleton]; omega) (by intro _; simp) _ _ _ hP hD hS (lv_sub hl [3, 4, 5, 6, 7, 0, 1] rfl)
            · have hL : L = [] := by rcases iso with q | q; exact q.1; exact absurd (q.2.symm.trans c_123) (by decide)
              refine lv_iload hx hb dX4_text_126 (lv_at hl 0 rfl) ?_
              refine lv_if_gt (tgt := 138) hx hb dX4_text_128 (by decide) (fun c_128 => ?_) (fun c_128 => ?_)
              · rw [Int32.lt_iff_toInt_lt, show (0 : Int32).toInt = 0 by decide, nI_toInt (by omega)] at c_128
                have hdg : fk_abs cu % 10 ≠ 0 := by omega
                refine lv_iconst (v := 1) hx hb dX4_text_138 (by decide) ?_
                refine lv_goto (tgt := 143) hx hb dX4_text_139 (by decide) ?_
                refine lv_istore (lv' := [(7, .int 1), (8, .int (nI (fk_abs cu % 10).toNat)), (0, .ref (am 0)), (1, .int (nI (jk + 1))), (2, .long v), (4, .int lo), (5, .int (fk_cmp (fk_round 2 (fk_v (kf jk) v * 1000000) (fk_dn (kf jk))))), (6, .int (nI k))]) hx hb dX4_text_143 hl (by decide) rfl (fun ls hl => ?_)
                refine lv_iload hx hb dX4_text_145 (lv_at hl 7 rfl) ?_
                refine lv_bipush (v := 6) hx hb dX4_text_147 (by decide) ?_
                refine lv_icmp_ne (tgt := 165) hx hb dX4_text_149 (by decide) (fun c_149 => ?_) (fun c_149 => ?_)
                · have hn6 : k ≠ 6 := fun q => c_149 (by rw [q]; rfl)
                  refine lv_iload hx hb dX4_text_165 (lv_at hl 0 rfl) ?_
                  refine lv_if_eq (tgt := 179) hx hb dX4_text_167 (by decide) (fun c_167 => False.elim (absurd c_167 (by decide))) (fun c_167 => ?_)
                  refine lv_aload_n hx hb dX4_text_170 rfl (lv_at hl 2 rfl) ?_
                  refine lv_bipush (v := 48) hx hb dX4_text_171 (by decide) ?_
                  refine lv_iload hx hb dX4_text_173 (lv_at hl 1 rfl) ?_
                  refine lv_iadd hx hb dX4_text_175 ?_
                  refine lv_topi (fun x121 ex121 => ?_)
                  have ex121q : x121 = fk_dc (fk_abs cu) := by
                    rw [ex121]; exact nI_add 48 (fk_abs cu % 10).toNat
                  subst ex121q
                  refine fk_cv hD hS hA (va_runV (As := [.int (fk_dc (fk_abs cu))]) (rest := []) ⟨hx, hb, hml, hown, hts⟩ (kX4_letter _ am tl 0 (nI n) lo wd sg up dn of bey rnd tv u102.1 u102.2 ((L).length) (fk_dc (fk_abs cu)) (by omega)) (cwV 1 hts gX4_text_X4_letter rfl rfl rfl (by decide +kernel) ⟨Nat.le_of_ble_eq_true rfl, Nat.le_of_ble_eq_true rfl⟩) (fk_preV 0 5 hK hN hP hD rfl rfl) rfl rfl hl.1 rfl (lv_room (Nat.le_of_ble_eq_true rfl)) dX4_text_176 ⟨Nat.le_of_ble_eq_true rfl, Nat.le_of_ble_eq_true rfl⟩) (fun u H locs hw hP hD hS => ?_)
                  have hP : va_P D vwCl (fk_wm cJ cI cZ am 0 (nI n) lo (nI ((L).length + 1)) wd sg up dn of bey rnd (upd tv ((L).length) (fk_dc (fk_abs cu))) u102.1 u102.2 ++ tl) H := hP
                  have hD : va_D A (fk_wm cJ cI cZ am 0 (nI n) lo (nI ((L).length + 1)) wd sg up dn of bey rnd (upd tv ((L).length) (fk_dc (fk_abs cu))) u102.1 u102.2 ++ tl) := hD
                  rw [← fk_len1 L (fk_dc (fk_abs cu))] at hP hD
                  have hx123 := fk_Lx_add (fk_dc (fk_abs cu)) ix
                  have hP : va_P D vwCl (fk_wm cJ cI cZ am 0 (nI n) lo (nI (L ++ [(fk_dc (fk_abs cu))]).length) wd sg up dn of bey rnd (upd tv ((L).length) (fk_dc (fk_abs cu))) u102.1 u102.2 ++ tl) H := hP
                  have hD : va_D A (fk_wm cJ cI cZ am 0 (nI n) lo (nI (L ++ [(fk_dc (fk_abs cu))]).length) wd sg up dn of bey rnd (upd tv ((L).length) (fk_dc (fk_abs cu))) u102.1 u102.2 ++ tl) := hD
                  have hr : fk_rest (k + 1) (fk_abs (fk_dq cu 10)) (L ++ [(fk_dc (fk_abs cu))]) = fk_tl4 (fk_v (kf jk) v) (fk_dn (kf jk)) := by rw [fk_dq10, fk_rest_p hn6 (fun _ => Or.inl hdg) hgo (by omega)]; exact ir
                  have hso : ((L ++ [(fk_dc (fk_abs cu))]) = [] ∧ (1 : Int32) = 0) ∨ ((L ++ [(fk_dc (fk_abs cu))]) ≠ [] ∧ (1 : Int32) = 1) := Or.inr ⟨by simp, rfl⟩
                  refine lv_aload_n hx hb dX4_text_179 rfl (lv_at hl 2 rfl) ?_
                  refine lv_bipush (v := 16) hx hb dX4_text_180 (by decide) ?_
                  refine lv_bipush (v := 14) hx hb dX4_text_182 (by decide) ?_
                  refine fk_cv hD hS hA (va_runV (As := [.int 16, .int 14]) (rest := []) ⟨hx, hb, hml, hown, hts⟩ (kX4_copy _ am tl 0 (nI n) lo (nI (L ++ [(fk_dc (fk_abs cu))]).length) wd sg up dn of bey rnd (upd tv ((L).length) (fk_dc (fk_abs cu))) u102.1 u102.2 16 14 _ (by omega) (by omega) (by omega) g14) (cwV 2 hts gX4_text_X4_copy rfl rfl rfl (by decide +kernel) ⟨Nat.le_of_ble_eq_true rfl, Nat.le_of_ble_eq_true rfl⟩) (fk_preV 0 5 hK hN hP hD rfl rfl) rfl rfl hl.1 rfl (lv_room (Nat.le_of_ble_eq_true rfl)) dX4_text_184 ⟨Nat.le_of_ble_eq_true rfl, Nat.le_of_ble_eq_true rfl⟩) (fun u124 H locs hw hP hD hS => ?_)
                  have hP : va_P D vwCl (fk_wm cJ cI cZ am 0 (nI n) lo (nI (L ++ [(fk_dc (fk_abs cu))]).length) wd sg up dn of bey rnd (upd tv ((L).length) (fk_dc (fk_abs cu))) u124.1 u124.2 ++ tl) H := hP
                  have hD : va_D A (fk_wm cJ cI cZ am 0 (nI n) lo (nI (L ++ [(fk_dc (fk_abs cu))]).length) wd sg up dn of bey rnd (upd tv ((L).length) (fk_dc (fk_abs cu))) u124.1 u124.2 ++ tl) := hD
                  obtain ⟨n16, f1, f2⟩ := hw
                  have n15 := fk_G_keep j15 f1 f2 (by omega)
                  refine lv_iinc (v := nI (k + 1)) (lv' := [(6, .int (nI (k + 1))), (7, .int 1), (8, .int (nI (fk_abs cu % 10).toNat)), (0, .ref (am 0)), (1, .int (nI (jk + 1))), (2, .long v), (4, .int lo), (5, .int (fk_cmp (fk_round 2 (fk_v (kf jk) v * 1000000) (fk_dn (kf jk)))))]) hx hb dX4_text_187 hl (k := 7) rfl (by exact nI_1 k) (by decide) rfl (fun ls hl => ?_)
                  refine lv_goto (tgt := 82) hx hb dX4_text_190 (by decide) ?_
                  exact ih82 (k + 1) (fk_dq cu 10) (L ++ [(fk_dc (fk_abs cu))]) 1 (upd tv ((L).length) (fk_dc (fk_abs cu))) u124.1 u124.2 (by omega) n16 n15 b3 hr hso hx123 b7 (by simp only [List.length_append, List.length_singleton]; omega) (by intro _; simp) _ _ _ hP hD hS (lv_sub hl [3, 4, 5, 6, 7, 0, 1] rfl)
                · have he6 : k = 6 := (nI_eq (a := k) (b := 6) (by omega) (by omega)).mp c_149
                  refine lv_aload_n hx hb dX4_text_152 rfl (lv_at hl 2 rfl) ?_
                  refine va_get (D := D) (ci := 5) (v := .int (nI L.length)) (C := RX4) (T := TX4) (N := 14) hx hb hts k2 hown hK hP 0 rfl rfl 10 (by decide) k4 (fun _ h9 => h9) rfl dX4_text_153 ?_
                  refine lv_if_le (tgt := 165) hx hb dX4_text_156 (by decide) (fun c_156 => ?_) (fun c_156 => ?_)
                  · rw [Int32.le_iff_toInt_le, show (0 : Int32).toInt = 0 by decide, nI_toInt (by omega)] at c_156
                    have hLe : L = [] := List.eq_nil_of_length_eq_zero (by omega)
                    refine lv_iload hx hb dX4_text_165 (lv_at hl 0 rfl) ?_
                    refine lv_if_eq (tgt := 179) hx hb dX4_text_167 (by decide) (fun c_167 => False.elim (absurd c_167 (by decide))) (fun c_167 => ?_)
                    refine lv_aload_n hx hb dX4_text_170 rfl (lv_at hl 2 rfl) ?_
                    refine lv_bipush (v := 48) hx hb dX4_text_171 (by decide) ?_
                    refine lv_iload hx hb dX4_text_173 (lv_at hl 1 rfl) ?_
                    refine lv_iadd hx hb dX4_text_175 ?_
                    refine lv_topi (fun x126 ex126 => ?_)
                    have ex126q : x126 = fk_dc (fk_abs cu) := by
                      rw [ex126]; exact nI_add 48 (fk_abs cu % 10).toNat
                    subst ex126q
                    refine fk_cv hD hS hA (va_runV (As := [.int (fk_dc (fk_abs cu))]) (rest := []) ⟨hx, hb, hml, hown, hts⟩ (kX4_letter _ am tl 0 (nI n) lo wd sg up dn of bey rnd tv u102.1 u102.2 ((L).length) (fk_dc (fk_abs cu)) (by omega)) (cwV 1 hts gX4_text_X4_letter rfl rfl rfl (by decide +kernel) ⟨Nat.le_of_ble_eq_true rfl, Nat.le_of_ble_eq_true rfl⟩) (fk_preV 0 5 hK hN hP hD rfl rfl) rfl rfl hl.1 rfl (lv_room (Nat.le_of_ble_eq_true rfl)) dX4_text_176 ⟨Nat.le_of_ble_eq_true rfl, Nat.le_of_ble_eq_true rfl⟩) (fun u H locs hw hP hD hS => ?_)
                    have hP : va_P D vwCl (fk_wm cJ cI cZ am 0 (nI n) lo (nI ((L).length + 1)) wd sg up dn of bey rnd (upd tv ((L).length) (fk_dc (fk_abs cu))) u102.1 u102.2 ++ tl) H := hP
                    have hD : va_D A (fk_wm cJ cI cZ am 0 (nI n) lo (nI ((L).length + 1)) wd sg up dn of bey rnd (upd tv ((L).length) (fk_dc (fk_abs cu))) u102.1 u102.2 ++ tl) := hD
                    rw [← fk_len1 L (fk_dc (fk_abs cu))] at hP hD
                    have hx128 := fk_Lx_add (fk_dc (fk_abs cu)) ix
                    have hP : va_P D vwCl (fk_wm cJ cI cZ am 0 (nI n) lo (nI (L ++ [(fk_dc (fk_abs cu))]).length) wd sg up dn of bey rnd (upd tv ((L).length) (fk_dc (fk_abs cu))) u102.1 u102.2 ++ tl) H := hP
                    have hD : va_D A (fk_wm cJ cI cZ am 0 (nI n) lo (nI (L ++ [(fk_dc (fk_abs cu))]).length) wd sg up dn of bey rnd (upd tv ((L).length) (fk_dc (fk_abs cu))) u102.1 u102.2 ++ tl) := hD
                    have hr : fk_rest (k + 1) (fk_abs (fk_dq cu 10)) (L ++ [(fk_dc (fk_abs cu))]) = fk_tl4 (fk_v (kf jk) v) (fk_dn (kf jk)) := by
                      have q := fk_rest_6 (fk_abs cu) L
                      rw [fk_pt, if_neg (fun q => q hLe)] at q
                      subst he6
                      rw [fk_dq10]; exact q.trans ir
                    have hso : ((L ++ [(fk_dc (fk_abs cu))]) = [] ∧ (1 : Int32) = 0) ∨ ((L ++ [(fk_dc (fk_abs cu))]) ≠ [] ∧ (1 : Int32) = 1) := Or.inr ⟨by simp, rfl⟩
                    refine lv_aload_n hx hb dX4_text_179 rfl (lv_at hl 2 rfl) ?_
                    refine lv_bipush (v := 16) hx hb dX4_text_180 (by decide) ?_
                    refine lv_bipush (v := 14) hx hb dX4_text_182 (by decide) ?_
                    refine fk_cv hD hS hA (va_runV (As := [.int 16, .int 14]) (rest := []) ⟨hx, hb, hml, hown, hts⟩ (kX4_copy _ am tl 0 (nI n) lo (nI (L ++ [(fk_dc (fk_abs cu))]).length) wd sg up dn of bey rnd (upd tv ((L).length) (fk_dc (fk_abs cu))) u102.1 u102.2 16 14 _ (by omega) (by omega) (by omega) g14) (cwV 2 hts gX4_text_X4_copy rfl rfl rfl (by decide +kernel) ⟨Nat.le_of_ble_eq_true rfl, Nat.le_of_ble_eq_true rfl⟩) (fk_preV 0 5 hK hN hP hD rfl rfl) rfl rfl hl.1 rfl (lv_room (Nat.le_of_ble_eq_true rfl)) dX4_text_184 ⟨Nat.le_of_ble_eq_true rfl, Nat.le_of_ble_eq_true rfl⟩) (fun u129 H locs hw hP hD hS => ?_)
                    have hP : va_P D vwCl (fk_wm cJ cI cZ am 0 (nI n) lo (nI (L ++ [(fk_dc (fk_abs cu))]).length) wd sg up dn of bey rnd (upd tv ((L).length) (fk_dc (fk_abs cu))) u129.1 u129.2 ++ tl) H := hP
                    have hD : va_D A (fk_wm cJ cI cZ am 0 (nI n) lo (nI (L ++ [(fk_dc (fk_abs cu))]).length) wd sg up dn of bey rnd (upd tv ((L).length) (fk_dc (fk_abs cu))) u129.1 u129.2 ++ tl) := hD
                    obtain ⟨n16, f1, f2⟩ := hw
                    have n15 := fk_G_keep j15 f1 f2 (by omega)
                    refine lv_iinc (v := nI (k + 1)) (lv' := [(6, .int (nI (k + 1))), (7, .int 1), (8, .int (nI (fk_abs cu % 10).toNat)), (0, .ref (am 0)), (1, .int (nI (jk + 1))), (2, .long v), (4, .int lo), (5, .int (fk_cmp (fk_round 2 (fk_v (kf jk) v * 1000000) (fk_dn (kf jk)))))]) hx hb dX4_text_187 hl (k := 7) rfl (by exact nI_1 k) (by decide) rfl (fun ls hl => ?_)
                    refine lv_goto (tgt := 82) hx hb dX4_text_190 (by decide) ?_
                    exact ih82 (k + 1) (fk_dq cu 10) (L ++ [(fk_dc (fk_abs cu))]) 1 (upd tv ((L).length) (fk_dc (fk_abs cu))) u129.1 u129.2 (by omega) n16 n15 b3 hr hso hx128 b7 (by simp only [List.length_append, List.length_singleton]; omega) (by intro _; simp) _ _ _ hP hD hS (lv_sub hl [3, 4, 5, 6, 7, 0, 1] rfl)
                  · rw [Int32.le_iff_toInt_le, show (0 : Int32).toInt = 0 by decide, nI_toInt (by omega)] at c_156
                    have hLn : L ≠ [] := fun q => by rw [q] at c_156; exact c_156 (by decide)
                    refine lv_aload_n hx hb dX4_text_159 rfl (lv_at hl 2 rfl) ?_
                    refine lv_bipush (v := 46) hx hb dX4_text_160 (by decide) ?_
                    refine fk_cv hD hS hA (va_runV (As := [.int 46]) (rest := []) ⟨hx, hb, hml, hown, hts⟩ (kX4_letter _ am tl 0 (nI n) lo wd sg up dn of bey rnd tv u102.1 u102.2 ((L).length) 46 (by omega)) (cwV 1 hts gX4_text_X4_letter rfl rfl rfl (by decide +kernel) ⟨Nat.le_of_ble_eq_true rfl, Nat.le_of_ble_eq_true rfl⟩) (fk_preV 0 5 hK hN hP hD rfl rfl) rfl rfl hl.1 rfl (lv_room (Nat.le_of_ble_eq_true rfl)) dX4_text_162 ⟨Nat.le_of_ble_eq_true rfl, Nat.le_of_ble_eq_true rfl⟩) (fun u H locs hw hP hD hS => ?_)
                    have hP : va_P D vwCl (fk_wm cJ cI cZ am 0 (nI n) lo (nI ((L).length + 1)) wd sg up dn of bey rnd (upd tv ((L).length) 46) u102.1 u102.2 ++ tl) H := hP
                    have hD : va_D A (fk_wm cJ cI cZ am 0 (nI n) lo (nI ((L).length + 1)) wd sg up dn of bey rnd (upd tv ((L).length) 46) u102.1 u102.2 ++ tl) := hD
                    rw [← fk_len1 L 46] at hP hD
                    have hx132 := fk_Lx_add 46 ix
                    have hP : va_P D vwCl (fk_wm cJ cI cZ am 0 (nI n) lo (nI (L ++ [46]).length) wd sg up dn of bey rnd (upd tv ((L).length) 46) u102.1 u102.2 ++ tl) H := hP
                    have hD : va_D A (fk_wm cJ cI cZ am 0 (nI n) lo (nI (L ++ [46]).length) wd sg up dn of bey rnd (upd tv ((L).length) 46) u102.1 u102.2 ++ tl) := hD
                    refine lv_iload hx hb dX4_text_165 (lv_at hl 0 rfl) ?_
                    refine lv_if_eq (tgt := 179) hx hb dX4_text_167 (by decide) (fun c_167 => False.elim (absurd c_167 (by decide))) (fun c_167 => ?_)
                    refine lv_aload_n hx hb dX4_text_170 rfl (lv_at hl 2 rfl) ?_
                    refine lv_bipush (v := 48) hx hb dX4_text_171 (by decide) ?_
                    refine lv_iload hx hb dX4_text_173 (lv_at hl 1 rfl) ?_
                    refine lv_iadd hx hb dX4_text_175 ?_
                    refine lv_topi (fun x133 ex133 => ?_)
                    have ex133q : x133 = fk_dc (fk_abs cu) := by
                      rw [ex133]; exact nI_add 48 (fk_abs cu % 10).toNat
                    subst ex133q
                    refine fk_cv hD hS hA (va_runV (As := [.int (fk_dc (fk_abs cu))]) (rest := []) ⟨hx, hb, hml, hown, hts⟩ (kX4_letter _ am tl 0 (nI n) lo wd sg up dn of bey rnd (upd tv ((L).length) 46) u102.1 u102.2 (((L ++ [46])).length) (fk_dc (fk_abs cu)) (by rw [fk_len1]; omega)) (cwV 1 hts gX4_text_X4_letter rfl rfl rfl (by decide +kernel) ⟨Nat.le_of_ble_eq_true rfl, Nat.le_of_ble_eq_true rfl⟩) (fk_preV 0 5 hK hN hP hD rfl rfl) rfl rfl hl.1 rfl (lv_room (Nat.le_of_ble_eq_true rfl)) dX4_text_176 ⟨Nat.le_of_ble_eq_true rfl, Nat.le_of_ble_eq_true rfl⟩) (fun u H locs hw hP hD hS => ?_)
                    have hP : va_P D vwCl (fk_wm cJ cI cZ am 0 (nI n) lo (nI (((L ++ [46])).length + 1)) wd sg up dn of bey rnd (upd (upd tv ((L).length) 46) (((L ++ [46])).length) (fk_dc (fk_abs cu))) u102.1 u102.2 ++ tl) H := hP
                    have hD : va_D A (fk_wm cJ cI cZ am 0 (nI n) lo (nI (((L ++ [46])).length + 1)) wd sg up dn of bey rnd (upd (upd tv ((L).length) 46) (((L ++ [46])).length) (fk_dc (fk_abs cu))) u102.1 u102.2 ++ tl) := hD
                    rw [← fk_len1 (L ++ [46]) (fk_dc (fk_abs cu))] at hP hD
                    have hx135 := fk_Lx_add (fk_dc (fk_abs cu)) hx132
                    have hP : va_P D vwCl (fk_wm cJ cI cZ am 0 (nI n) lo (nI ((L ++ [46]) ++ [(fk_dc (fk_abs cu))]).length) wd sg up dn of bey rnd (upd (upd tv ((L).length) 46) (((L ++ [46])).length) (fk_dc (fk_abs cu))) u102.1 u102.2 ++ tl) H := hP
                    have hD : va_D A (fk_wm cJ cI cZ am 0 (nI n) lo (nI ((L ++ [46]) ++ [(fk_dc (fk_abs cu))]).length) wd sg up dn of bey rnd (upd (upd tv ((L).length) 46) (((L ++ [46])).length) (fk_dc (fk_abs cu))) u102.1 u102.2 ++ tl) := hD
                    have hr : fk_rest (k + 1) (fk_abs (fk_dq cu 10)) ((L ++ [46]) ++ [(fk_dc (fk_abs cu))]) = fk_tl4 (fk_v (kf jk) v) (fk_dn (kf jk)) := by
                      have q := fk_rest_6 (fk_abs cu) L
                      rw [fk_pt, if_pos hLn] at q
                      subst he6
                      rw [fk_dq10]; exact q.trans ir
                    have hso : (((L ++ [46]) ++ [(fk_dc (fk_abs cu))]) = [] ∧ (1 : Int32) = 0) ∨ (((L ++ [46]) ++ [(fk_dc (fk_abs cu))]) ≠ [] ∧ (1 : Int32) = 1) := Or.inr ⟨by simp, rfl⟩
                    refine lv_aload_n hx hb dX4_text_179 rfl (lv_at hl 2 rfl) ?_
                    refine lv_bipush (v := 16) hx hb dX4_text_180 (by decide) ?_
                    refine lv_bipush (v := 14) hx hb dX4_text_182 (by decide) ?_
                    refine fk_cv hD hS hA (va_runV (As := [.int 16, .int 14]) (rest := []) ⟨hx, hb, hml, hown, hts⟩ (kX4_copy _ am tl 0 (nI n) lo (nI ((L ++ [46]) ++ [(fk_dc (fk_abs cu))]).length) wd sg up dn of bey rnd (upd (upd tv ((L).length) 46) (((L ++ [46])).length) (fk_dc (fk_abs cu))) u102.1 u102.2 16 14 _ (by omega) (by omega) (by omega) g14) (cwV 2 hts gX4_text_X4_copy rfl rfl rfl (by decide +kernel) ⟨Nat.le_of_ble_eq_true rfl, Nat.le_of_ble_eq_true rfl⟩) (fk_preV 0 5 hK hN hP hD rfl rfl) rfl rfl hl.1 rfl (lv_room (Nat.le_of_ble_eq_true rfl)) dX4_text_184 ⟨Nat.le_of_ble_eq_true rfl, Nat.le_of_ble_eq_true rfl⟩) (fun u136 H locs hw hP hD hS => ?_)
                    have hP : va_P D vwCl (fk_wm cJ cI cZ am 0 (nI n) lo (nI ((L ++ [46]) ++ [(fk_dc (fk_abs cu))]).length) wd sg up dn of bey rnd (upd (upd tv ((L).length) 46) (((L ++ [46])).length) (fk_dc (fk_abs cu))) u136.1 u136.2 ++ tl) H := hP
                    have hD : va_D A (fk_wm cJ cI cZ am 0 (nI n) lo (nI ((L ++ [46]) ++ [(fk_dc (fk_abs cu))]).length) wd sg up dn of bey rnd (upd (upd tv ((L).length) 46) (((L ++ [46])).length) (fk_dc (fk_abs cu))) u136.1 u136.2 ++ tl) := hD
                    obtain ⟨n16, f1, f2⟩ := hw
                    have n15 := fk_G_keep j15 f1 f2 (by omega)
                    refine lv_iinc (v := nI (k + 1)) (lv' := [(6, .int (nI (k + 1))), (7, .int 1), (8, .int (nI (fk_abs cu % 10).toNat)), (0, .ref (am 0)), (1, .int (nI (jk + 1))), (2, .long v), (4, .int lo), (5, .int (fk_cmp (fk_round 2 (fk_v (kf jk) v * 1000000) (fk_dn (kf jk)))))]) hx hb dX4_text_187 hl (k := 7) rfl (by exact nI_1 k) (by decide) rfl (fun ls hl => ?_)
                    refine lv_goto (tgt := 82) hx hb dX4_text_190 (by decide) ?_
                    exact ih82 (k + 1) (fk_dq cu 10) ((L ++ [46]) ++ [(fk_dc (fk_abs cu))]) 1 (upd (upd tv ((L).length) 46) (((L ++ [46])).length) (fk_dc (fk_abs cu))) u136.1 u136.2 (by omega) n16 n15 b3 hr hso hx135 b7 (by simp only [List.length_append, List.length_singleton]; omega) (by intro _; simp) _ _ _ hP hD hS (lv_sub hl [3, 4, 5, 6, 7, 0, 1] rfl)
              · rw [Int32.lt_iff_toInt_lt, show (0 : Int32).toInt = 0 by decide, nI_toInt (by omega)] at c_128
                have hdg : fk_abs cu % 10 = 0 := by omega
                refine lv_iload hx hb dX4_text_131 (lv_at hl 6 rfl) ?_
                refine lv_bipush (v := 6) hx hb dX4_text_133 (by decide) ?_
                refine lv_icmp_lt (tgt := 142) hx hb dX4_text_135 (by decide) (fun c_135 => ?_) (fun c_135 => ?_)
                · have hk6 : k < 6 := by rcases Nat.lt_or_ge k 6 with q | q; exact q; exact absurd c_135 (fun z => by rw [Int32.lt_iff_toInt_lt, nI_toInt (by omega), show (6 : Int32).toInt = 6 by decide] at z; omega)
                  refine lv_iconst (v := 0) hx hb dX4_text_142 (by decide) ?_
                  refine lv_istore (lv' := [(7, .int 0), (8, .int (nI (fk_abs cu % 10).toNat)), (0, .ref (am 0)), (1, .int (nI (jk + 1))), (2, .long v), (4, .int lo), (5, .int (fk_cmp (fk_round 2 (fk_v (kf jk) v * 1000000) (fk_dn (kf jk))))), (6, .int (nI k))]) hx hb dX4_text_143 hl (by decide) rfl (fun ls hl => ?_)
                  refine lv_iload hx hb dX4_text_145 (lv_at hl 7 rfl) ?_
                  refine lv_bipush (v := 6) hx hb dX4_text_147 (by decide) ?_
                  refine lv_icmp_ne (tgt := 165) hx hb dX4_text_149 (by decide) (fun c_149 => ?_) (fun c_149 => False.elim (absurd ((nI_eq (a := k) (b := 6) (by omega) (by omega)).mp c_149) (by omega)))
                  refine lv_iload hx hb dX4_text_165 (lv_at hl 0 rfl) ?_
                  refine lv_if_eq (tgt := 179) hx hb dX4_text_167 (by decide) (fun c_167 => ?_) (fun c_167 => False.elim (absurd rfl c_167))
                  have hr : fk_rest (k + 1) (fk_abs (fk_dq cu 10)) L = fk_tl4 (fk_v (kf jk) v) (fk_dn (kf jk)) := by rw [fk_dq10, fk_rest_n hk6 (fun q => q.elim (fun z => z hdg) (fun z => z hL))]; exact ir
                  have hso : (L = [] ∧ (0 : Int32) = 0) ∨ (L ≠ [] ∧ (0 : Int32) = 1) := Or.inl ⟨hL, rfl⟩
                  refine lv_aload_n hx hb dX4_text_179 rfl (lv_at hl 2 rfl) ?_
                  refine lv_bipush (v := 16) hx hb dX4_text_180 (by decide) ?_
                  refine lv_bipush (v := 14) hx hb dX4_text_182 (by decide) ?_
                  refine fk_cv hD hS hA (va_runV (As := [.int 16, .int 14]) (rest := []) ⟨hx, hb, hml, hown, hts⟩ (kX4_copy _ am tl 0 (nI n) lo (nI L.length) wd sg up dn of bey rnd tv u102.1 u102.2 16 14 _ (by omega) (by omega) (by omega) g14) (cwV 2 hts gX4_text_X4_copy rfl rfl rfl (by decide +kernel) ⟨Nat.le_of_ble_eq_true rfl, Nat.le_of_ble_eq_true rfl⟩) (fk_preV 0 5 hK hN hP hD rfl rfl) rfl rfl hl.1 rfl (lv_room (Nat.le_of_ble_eq_true rfl)) dX4_text_184 ⟨Nat.le_of_ble_eq_true rfl, Nat.le_of_ble_eq_true rfl⟩) (fun u138 H locs hw hP hD hS => ?_)
                  have hP : va_P D vwCl (fk_wm cJ cI cZ am 0 (nI n) lo (nI L.length) wd sg up dn of bey rnd tv u138.1 u138.2 ++ tl) H := hP
                  have hD : va_D A (fk_wm cJ cI cZ am 0 (nI n) lo (nI L.length) wd sg up dn of bey rnd tv u138.1 u138.2 ++ tl) := hD
                  obtain ⟨n16, f1, f2⟩ := hw
                  have n15 := fk_G_keep j15 f1 f2 (by omega)
                  refine lv_iinc (v := nI (k + 1)) (lv' := [(6, .int (nI (k + 1))), (7, .int 0), (8, .int (nI (fk_abs cu % 10).toNat)), (0, .ref (am 0)), (1, .int (nI (jk + 1))), (2, .long v), (4, .int lo), (5, .int (fk_cmp (fk_round 2 (fk_v (kf jk) v * 1000000) (fk_dn (kf jk)))))]) hx hb dX4_text_187 hl (k := 7) rfl (by exact nI_1 k) (by decide) rfl (fun ls hl => ?_)
                  refine lv_goto (tgt := 82) hx hb dX4_text_190 (by decide) ?_
                  exact ih82 (k + 1) (fk_dq cu 10) L 0 tv u138.1 u138.2 (by omega) n16 n15 b3 hr hso ix b7 (by omega) (by omega) _ _ _ hP hD hS (lv_sub hl [3, 4, 5, 6, 7, 0, 1] rfl)
                · have hk6 : 6 ≤ k := by rw [Int32.lt_iff_toInt_lt, nI_toInt (by omega), show (6 : Int32).toInt = 6 by decide] at c_135; omega
                  refine lv_iconst (v := 1) hx hb dX4_text_138 (by decide) ?_
                  refine lv_goto (tgt := 143) hx hb dX4_text_139 (by decide) ?_
                  refine lv_istore (lv' := [(7, .int 1), (8, .int (nI (fk_abs cu % 10).toNat)), (0, .ref (am 0)), (1, .int (nI (jk + 1))), (2, .long v), (4, .int lo), (5, .int (fk_cmp (fk_round 2 (fk_v (kf jk) v * 1000000) (fk_dn (kf jk))))), (6, .int (nI k))]) hx hb dX4_text_143 hl (by decide) rfl (fun ls hl => ?_)
                  refine lv_iload hx hb dX4_text_145 (lv_at hl 7 rfl) ?_
                  refine lv_bipush (v := 6) hx hb dX4_text_147 (by decide) ?_
                  refine lv_icmp_ne (tgt := 165) hx hb dX4_text_149 (by decide) (fun c_149 => ?_) (fun c_149 => ?_)
                  · have hn6 : k ≠ 6 := fun q => c_149 (by rw [q]; rfl)
                    refine lv_iload hx hb dX4_text_165 (lv_at hl 0 rfl) ?_
                    refine lv_if_eq (tgt := 179) hx hb dX4_text_167 (by decide) (fun c_167 => False.elim (absurd c_167 (by decide))) (fun c_167 => ?_)
                    refine lv_aload_n hx hb dX4_text_170 rfl (lv_at hl 2 rfl) ?_
                    refine lv_bipush (v := 48) hx hb dX4_text_171 (by decide) ?_
                    refine lv_iload hx hb dX4_text_173 (lv_at hl 1 rfl) ?_
                    refine lv_iadd hx hb dX4_text_175 ?_
                    refine lv_topi (fun x140 ex140 => ?_)
                    have ex140q : x140 = fk_dc (fk_abs cu) := by
                      rw [ex140]; exact nI_add 48 (fk_abs cu % 10).toNat
                    subst ex140q
                    refine fk_cv hD hS hA (va_runV (As := [.int (fk_dc (fk_abs cu))]) (rest := []) ⟨hx, hb, hml, hown, hts⟩ (kX4_letter _ am tl 0 (nI n) lo wd sg up dn of bey rnd tv u102.1 u102.2 ((L).length) (fk_dc (fk_abs cu)) (by omega)) (cwV 1 hts gX4_text_X4_letter rfl rfl rfl (by decide +kernel) ⟨Nat.le_of_ble_eq_true rfl, Nat.le_of_ble_eq_true rfl⟩) (fk_preV 0 5 hK hN hP hD rfl rfl) rfl rfl hl.1 rfl (lv_room (Nat.le_of_ble_eq_true rfl)) dX4_text_176 ⟨Nat.le_of_ble_eq_true rfl, Nat.le_of_ble_eq_true rfl⟩) (fun u H locs hw hP hD hS => ?_)
                    have hP : va_P D vwCl (fk_wm cJ cI cZ am 0 (nI n) lo (nI ((L).length + 1)) wd sg up dn of bey rnd (upd tv ((L).length) (fk_dc (fk_abs cu))) u102.1 u102.2 ++ tl) H := hP
                    have hD : va_D A (fk_wm cJ cI cZ am 0 (nI n) lo (nI ((L).length + 1)) wd sg up dn of bey rnd (upd tv ((L).length) (fk_dc (fk_abs cu))) u102.1 u102.2 ++ tl) := hD
                    rw [← fk_len1 L (fk_dc (fk_abs cu))] at hP hD
                    have hx142 := fk_Lx_add (fk_dc (fk_abs cu)) ix
                    have hP : va_P D vwCl (fk_wm cJ cI cZ am 0 (nI n) lo (nI (L ++ [(fk_dc (fk_abs cu))]).length) wd sg up dn of bey rnd (upd tv ((L).length) (fk_dc (fk_abs cu))) u102.1 u102.2 ++ tl) H := hP
                    have hD : va_D A (fk_wm cJ cI cZ am 0 (nI n) lo (nI (L ++ [(fk_dc (fk_abs cu))]).length) wd sg up dn of bey rnd (upd tv ((L).length) (fk_dc (fk_abs cu))) u102.1 u102.2 ++ tl) := hD
                    have hr : fk_rest (k + 1) (fk_abs (fk_dq cu 10)) (L ++ [(fk_dc (fk_abs cu))]) = fk_tl4 (fk_v (kf jk) v) (fk_dn (kf jk)) := by rw [fk_dq10, fk_rest_p hn6 (fun q => absurd q (by omega)) hgo (by omega)]; exact ir
                    have hso : ((L ++ [(fk_dc (fk_abs cu))]) = [] ∧ (1 : Int32) = 0) ∨ ((L ++ [(fk_dc (fk_abs cu))]) ≠ [] ∧ (1 : Int32) = 1) := Or.inr ⟨by simp, rfl⟩
                    refine lv_aload_n hx hb dX4_text_179 rfl (lv_at hl 2 rfl) ?_
                    refine lv_bipush (v := 16) hx hb dX4_text_180 (by decide) ?_
                    refine lv_bipush (v := 14) hx hb dX4_text_182 (by decide) ?_
                    refine fk_cv hD hS hA (va_runV (As := [.int 16, .int 14]) (rest := []) ⟨hx, hb, hml, hown, hts⟩ (kX4_copy _ am tl 0 (nI n) lo (nI (L ++ [(fk_dc (fk_abs cu))]).length) wd sg up dn of bey rnd (upd tv ((L).length) (fk_dc (fk_abs cu))) u102.1 u102.2 16 14 _ (by omega) (by omega) (by omega) g14) (cwV 2 hts gX4_text_X4_copy rfl rfl rfl (by decide +kernel) ⟨Nat.le_of_ble_eq_true rfl, Nat.le_of_ble_eq_true rfl⟩) (fk_preV 0 5 hK hN hP hD rfl rfl) rfl rfl hl.1 rfl (lv_room (Nat.le_of_ble_eq_true rfl)) dX4_text_184 ⟨Nat.le_of_ble_eq_true rfl, Nat.le_of_ble_eq_true rfl⟩) (fun u143 H locs hw hP hD hS => ?_)
                    have hP : va_P D vwCl (fk_wm cJ cI cZ am 0 (nI n) lo (nI (L ++ [(fk_dc (fk_abs cu))]).length) wd sg up dn of bey rnd (upd tv ((L).length) (fk_dc (fk_abs cu))) u143.1 u143.2 ++ tl) H := hP
                    have hD : va_D A (fk_wm cJ cI cZ am 0 (nI n) lo (nI (L ++ [(fk_dc (fk_abs cu))]).length) wd sg up dn of bey rnd (upd tv ((L).length) (fk_dc (fk_abs cu))) u143.1 u143.2 ++ tl) := hD
                    obtain ⟨n16, f1, f2⟩ := hw
                    have n15 := fk_G_keep j15 f1 f2 (by omega)
                    refine lv_iinc (v := nI (k + 1)) (lv' := [(6, .int (nI (k + 1))), (7, .int 1), (8, .int (nI (fk_abs cu % 10).toNat)), (0, .ref (am 0)), (1, .int (nI (jk + 1))), (2, .long v), (4, .int lo), (5, .int (fk_cmp (fk_round 2 (fk_v (kf jk) v * 1000000) (fk_dn (kf jk)))))]) hx hb dX4_text_187 hl (k := 7) rfl (by exact nI_1 k) (by decide) rfl (fun ls hl => ?_)
                    refine lv_goto (tgt := 82) hx hb dX4_text_190 (by decide) ?_
                    exact ih82 (k + 1) (fk_dq cu 10) (L ++ [(fk_dc (fk_abs cu))]) 1 (upd tv ((L).length) (fk_dc (fk_abs cu))) u143.1 u143.2 (by omega) n16 n15 b3 hr hso hx142 b7 (by simp only [List.length_append, List.length_singleton]; omega) (by intro _; simp) _ _ _ hP hD hS (lv_sub hl [3, 4, 5, 6, 7, 0, 1] rfl)
                  · have he6 : k = 6 := (nI_eq (a := k) (b := 6) (by omega) (by omega)).mp c_149
                    refine lv_aload_n hx hb dX4_text_152 rfl (lv_at hl 2 rfl) ?_
                    refine va_get (D := D) (ci := 5) (v := .int (nI L.length)) (C := RX4) (T := TX4) (N := 14) hx hb hts k2 hown hK hP 0 rfl rfl 10 (by decide) k4 (fun _ h9 => h9) rfl dX4_text_153 ?_
                    refine lv_if_le (tgt := 165) hx hb dX4_text_156 (by decide) (fun c_156 => ?_) (fun c_156 => ?_)
                    · rw [Int32.le_iff_toInt_le, show (0 : Int32).toInt = 0 by decide, nI_toInt (by omega)] at c_156
                      have hLe : L = [] := List.eq_nil_of_length_eq_zero (by omega)
                      refine lv_iload hx hb dX4_text_165 (lv_at hl 0 rfl) ?_
                      refine lv_if_eq (tgt := 179) hx hb dX4_text_167 (by decide) (fun c_167 => False.elim (absurd c_167 (by decide))) (fun c_167 => ?_)
                      refine lv_aload_n hx hb dX4_text_170 rfl (lv_at hl 2 rfl) ?_
                      refine lv_bipush (v := 48) hx hb dX4_text_171 (by decide) ?_
                      refine lv_iload hx hb dX4_text_173 (lv_at hl 1 rfl) ?_
                      refine lv_iadd hx hb dX4_text_175 ?_
                      refine lv_topi (fun x145 ex145 => ?_)
                      have ex145q : x145 = fk_dc (fk_abs cu) := by
                        rw [ex145]; exact nI_add 48 (fk_abs cu % 10).toNat
                      subst ex145q
                      refine fk_cv hD hS hA (va_runV (As := [.int (fk_dc (fk_abs cu))]) (rest := []) ⟨hx, hb, hml, hown, hts⟩ (kX4_letter _ am tl 0 (nI n) lo wd sg up dn of bey rnd tv u102.1 u102.2 ((L).length) (fk_dc (fk_abs cu)) (by omega)) (cwV 1 hts gX4_text_X4_letter rfl rfl rfl (by decide +kernel) ⟨Nat.le_of_ble_eq_true rfl, Nat.le_of_ble_eq_true rfl⟩) (fk_preV 0 5 hK hN hP hD rfl rfl) rfl rfl hl.1 rfl (lv_room (Nat.le_of_ble_eq_true rfl)) dX4_text_176 ⟨Nat.le_of_ble_eq_true rfl, Nat.le_of_ble_eq_true rfl⟩) (fun u H locs hw hP hD hS => ?_)
                      have hP : va_P D vwCl (fk_wm cJ cI cZ am 0 (nI n) lo (nI ((L).length + 1)) wd sg up dn of bey rnd (upd tv ((L).length) (fk_dc (fk_abs cu))) u102.1 u102.2 ++ tl) H := hP
                      have hD : va_D A (fk_wm cJ cI cZ am 0 (nI n) lo (nI ((L).length + 1)) wd sg up dn of bey rnd (upd tv ((L).length) (fk_dc (fk_abs cu))) u102.1 u102.2 ++ tl) := hD
                      rw [← fk_len1 L (fk_dc (fk_abs cu))] at hP hD
                      have hx147 := fk_Lx_add (fk_dc (fk_abs cu)) ix
                      have hP : va_P D vwCl (fk_wm cJ cI cZ am 0 (nI n) lo (nI (L ++ [(fk_dc (fk_abs cu))]).length) wd sg up dn of bey rnd (upd tv ((L).length) (fk_dc (fk_abs cu))) u102.1 u102.2 ++ tl) H := hP
                      have hD : va_D A (fk_wm cJ cI cZ am 0 (nI n) lo (nI (L ++ [(fk_dc (fk_abs cu))]).length) wd sg up dn of bey rnd (upd tv ((L).length) (fk_dc (fk_abs cu))) u102.1 u102.2 ++ tl) := hD
                      have hr : fk_rest (k + 1) (fk_abs (fk_dq cu 10)) (L ++ [(fk_dc (fk_abs cu))]) = fk_tl4 (fk_v (kf jk) v) (fk_dn (kf jk)) := by
                        have q := fk_rest_6 (fk_abs cu) L
                        rw [fk_pt, if_neg (fun q => q hLe)] at q
                        subst he6
                        rw [fk_dq10]; exact q.trans ir
                      have hso : ((L ++ [(fk_dc (fk_abs cu))]) = [] ∧ (1 : Int32) = 0) ∨ ((L ++ [(fk_dc (fk_abs cu))]) ≠ [] ∧ (1 : Int32) = 1) := Or.inr ⟨by simp, rfl⟩
                      refine lv_aload_n hx hb dX4_text_179 rfl (lv_at hl 2 rfl) ?_
                      refine lv_bipush (v := 16) hx hb dX4_text_180 (by decide) ?_
                      refine lv_bipush (v := 14) hx hb dX4_text_182 (by decide) ?_
                      refine fk_cv hD hS hA (va_runV (As := [.int 16, .int 14]) (rest := []) ⟨hx, hb, hml, hown, hts⟩ (kX4_copy _ am tl 0 (nI n) lo (nI (L ++ [(fk_dc (fk_abs cu))]).length) wd sg up dn of bey rnd (upd tv ((L).length) (fk_dc (fk_abs cu))) u102.1 u102.2 16 14 _ (by omega) (by omega) (by omega) g14) (cwV 2 hts gX4_text_X4_copy rfl rfl rfl (by decide +kernel) ⟨Nat.le_of_ble_eq_true rfl, Nat.le_of_ble_eq_true rfl⟩) (fk_preV 0 5 hK hN hP hD rfl rfl) rfl rfl hl.1 rfl (lv_room (Nat.le_of_ble_eq_true rfl)) dX4_text_184 ⟨Nat.le_of_ble_eq_true rfl, Nat.le_of_ble_eq_true rfl⟩) (fun u148 H locs hw hP hD hS => ?_)
                      have hP : va_P D vwCl (fk_wm cJ cI cZ am 0 (nI n) lo (nI (L ++ [(fk_dc (fk_abs cu))]).length) wd sg up dn of bey rnd (upd tv ((L).length) (fk_dc (fk_abs cu))) u148.1 u148.2 ++ tl) H := hP
                      have hD : va_D A (fk_wm cJ cI cZ am 0 (nI n) lo (nI (L ++ [(fk_dc (fk_abs cu))]).length) wd sg up dn of bey rnd (upd tv ((L).length) (fk_dc (fk_abs cu))) u148.1 u148.2 ++ tl) := hD
                      obtain ⟨n16, f1, f2⟩ := hw
                      have n15 := fk_G_keep j15 f1 f2 (by omega)
                      refine lv_iinc (v := nI (k + 1)) (lv' := [(6, .int (nI (k + 1))), (7, .int 1), (8, .int (nI (fk_abs cu % 10).toNat)), (0, .ref (am 0)), (1, .int (nI (jk + 1))), (2, .long v), (4, .int lo), (5, .int (fk_cmp (fk_round 2 (fk_v (kf jk) v * 1000000) (fk_dn (kf jk)))))]) hx hb dX4_text_187 hl (k := 7) rfl (by exact nI_1 k) (by decide) rfl (fun ls hl => ?_)
                      refine lv_goto (tgt := 82) hx hb dX4_text_190 (by decide) ?_
                      exact ih82 (k + 1) (fk_dq cu 10) (L ++ [(fk_dc (fk_abs cu))]) 1 (upd tv ((L).length) (fk_dc (fk_abs cu))) u148.1 u148.2 (by omega) n16 n15 b3 hr hso hx147 b7 (by simp only [List.length_append, List.length_singleton]; omega) (by intro _; simp) _ _ _ hP hD hS (lv_sub hl [3, 4, 5, 6, 7, 0, 1] rfl)
                    · rw [Int32.le_iff_toInt_le, show (0 : Int32).toInt = 0 by decide, nI_toInt (by omega)] at c_156
                      have hLn : L ≠ [] := fun q => by rw [q] at c_156; exact c_156 (by decide)
                      refine lv_aload_n hx hb dX4_text_159 rfl (lv_at hl 2 rfl) ?_
                      refine lv_bipush (v := 46) hx hb dX4_text_160 (by decide) ?_
                      refine fk_cv hD hS hA (va_runV (As := [.int 46]) (rest := []) ⟨hx, hb, hml, hown, hts⟩ (kX4_letter _ am tl 0 (nI n) lo wd sg up dn of bey rnd tv u102.1 u102.2 ((L).length) 46 (by omega)) (cwV 1 hts gX4_text_X4_letter rfl rfl rfl (by decide +kernel) ⟨Nat.le_of_ble_eq_true rfl, Nat.le_of_ble_eq_true rfl⟩) (fk_preV 0 5 hK hN hP hD rfl rfl) rfl rfl hl.1 rfl (lv_room (Nat.le_of_ble_eq_true rfl)) dX4_text_162 ⟨Nat.le_of_ble_eq_true rfl, Nat.le_of_ble_eq_true rfl⟩) (fun u H locs hw hP hD hS => ?_)
                      have hP : va_P D vwCl (fk_wm cJ cI cZ am 0 (nI n) lo (nI ((L).length + 1)) wd sg up dn of bey rnd (upd tv ((L).length) 46) u102.1 u102.2 ++ tl) H := hP
                      have hD : va_D A (fk_wm cJ cI cZ am 0 (nI n) lo (nI ((L).length + 1)) wd sg up dn of bey rnd (upd tv ((L).length) 46) u102.1 u102.2 ++ tl) := hD
                      rw [← fk_len1 L 46] at hP hD
                      have hx151 := fk_Lx_add 46 ix
                      have hP : va_P D vwCl (fk_wm cJ cI cZ am 0 (nI n) lo (nI (L ++ [46]).length) wd sg up dn of bey rnd (upd tv ((L).length) 46) u102.1 u102.2 ++ tl) H := hP
                      have hD : va_D A (fk_wm cJ cI cZ am 0 (nI n) lo (nI (L ++ [46]).length) wd sg up dn of bey rnd (upd tv ((L).length) 46) u102.1 u102.2 ++ tl) := hD
                      refine lv_iload hx hb dX4_text_165 (lv_at hl 0 rfl) ?_
                      refine lv_if_eq (tgt := 179) hx hb dX4_text_167 (by decide) (fun c_167 => False.elim (absurd c_167 (by decide))) (fun c_167 => ?_)
                      refine lv_aload_n hx hb dX4_text_170 rfl (lv_at hl 2 rfl) ?_
                      refine lv_bipush (v := 48) hx hb dX4_text_171 (by decide) ?_
                      refine lv_iload hx hb dX4_text_173 (lv_at hl 1 rfl) ?_
                      refine lv_iadd hx hb dX4_text_175 ?_
                      refine lv_topi (fun x152 ex152 => ?_)
                      have ex152q : x152 = fk_dc (fk_abs cu) := by
                        rw [ex152]; exact nI_add 48 (fk_abs cu % 10).toNat
                      subst ex152q
                      refine fk_cv hD hS hA (va_runV (As := [.int (fk_dc (fk_abs cu))]) (rest := []) ⟨hx, hb, hml, hown, hts⟩ (kX4_letter _ am tl 0 (nI n) lo wd sg up dn of bey rnd (upd tv ((L).length) 46) u102.1 u102.2 (((L ++ [46])).length) (fk_dc (fk_abs cu)) (by rw [fk_len1]; omega)) (cwV 1 hts gX4_text_X4_letter rfl rfl rfl (by decide +kernel) ⟨Nat.le_of_ble_eq_true rfl, Nat.le_of_ble_eq_true rfl⟩) (fk_preV 0 5 hK hN hP hD rfl rfl) rfl rfl hl.1 rfl (lv_room (Nat.le_of_ble_eq_true rfl)) dX4_text_176 ⟨Nat.le_of_ble_eq_true rfl, Nat.le_of_ble_eq_true rfl⟩) (fun u H locs hw hP hD hS => ?_)
                      have hP : va_P D vwCl (fk_wm cJ cI cZ am 0 (nI n) lo (nI (((L ++ [46])).length + 1)) wd sg up dn of bey rnd (upd (upd tv ((L).length) 46) (((L ++ [46])).length) (fk_dc (fk_abs cu))) u102.1 u102.2 ++ tl) H := hP
                      have hD : va_D A (fk_wm cJ cI cZ am 0 (nI n) lo (nI (((L ++ [46])).length + 1)) wd sg up dn of bey rnd (upd (upd tv ((L).length) 46) (((L ++ [46])).length) (fk_dc (fk_abs cu))) u102.1 u102.2 ++ tl) := hD
                      rw [← fk_len1 (L ++ [46]) (fk_dc (fk_abs cu))] at hP hD
                      have hx154 := fk_Lx_add (fk_dc (fk_abs cu)) hx151
                      have hP : va_P D vwCl (fk_wm cJ cI cZ am 0 (nI n) lo (nI ((L ++ [46]) ++ [(fk_dc (fk_abs cu))]).length) wd sg up dn of bey rnd (upd (upd tv ((L).length) 46) (((L ++ [46])).length) (fk_dc (fk_abs cu))) u102.1 u102.2 ++ tl) H := hP
                      have hD : va_D A (fk_wm cJ cI cZ am 0 (nI n) lo (nI ((L ++ [46]) ++ [(fk_dc (fk_abs cu))]).length) wd sg up dn of bey rnd (upd (upd tv ((L).length) 46) (((L ++ [46])).length) (fk_dc (fk_abs cu))) u102.1 u102.2 ++ tl) := hD
                      have hr : fk_rest (k + 1) (fk_abs (fk_dq cu 10)) ((L ++ [46]) ++ [(fk_dc (fk_abs cu))]) = fk_tl4 (fk_v (kf jk) v) (fk_dn (kf jk)) := by
                        have q := fk_rest_6 (fk_abs cu) L
                        rw [fk_pt, if_pos hLn] at q
                        subst he6
                        rw [fk_dq10]; exact q.trans ir
                      have hso : (((L ++ [46]) ++ [(fk_dc (fk_abs cu))]) = [] ∧ (1 : Int32) = 0) ∨ (((L ++ [46]) ++ [(fk_dc (fk_abs cu))]) ≠ [] ∧ (1 : Int32) = 1) := Or.inr ⟨by simp, rfl⟩
                      refine lv_aload_n hx hb dX4_text_179 rfl (lv_at hl 2 rfl) ?_
                      refine lv_bipush (v := 16) hx hb dX4_text_180 (by decide) ?_
                      refine lv_bipush (v := 14) hx hb dX4_text_182 (by decide) ?_
                      refine fk_cv hD hS hA (va_runV (As := [.int 16, .int 14]) (rest := []) ⟨hx, hb, hml, hown, hts⟩ (kX4_copy _ am tl 0 (nI n) lo (nI ((L ++ [46]) ++ [(fk_dc (fk_abs cu))]).length) wd sg up dn of bey rnd (upd (upd tv ((L).length) 46) (((L ++ [46])).length) (fk_dc (fk_abs cu))) u102.1 u102.2 16 14 _ (by omega) (by omega) (by omega) g14) (cwV 2 hts gX4_text_X4_copy rfl rfl rfl (by decide +kernel) ⟨Nat.le_of_ble_eq_true rfl, Nat.le_of_ble_eq_true rfl⟩) (fk_preV 0 5 hK hN hP hD rfl rfl) rfl rfl hl.1 rfl (lv_room (Nat.le_of_ble_eq_true rfl)) dX4_text_184 ⟨Nat.le_of_ble_eq_true rfl, Nat.le_of_ble_eq_true rfl⟩) (fun u155 H locs hw hP hD hS => ?_)
                      have hP : va_P D vwCl (fk_wm cJ cI cZ am 0 (nI n) lo (nI ((L ++ [46]) ++ [(fk_dc (fk_abs cu))]).length) wd sg up dn of bey rnd (upd (upd tv ((L).length) 46) (((L ++ [46])).length) (fk_dc (fk_abs cu))) u155.1 u155.2 ++ tl) H := hP
                      have hD : va_D A (fk_wm cJ cI cZ am 0 (nI n) lo (nI ((L ++ [46]) ++ [(fk_dc (fk_abs cu))]).length) wd sg up dn of bey rnd (upd (upd tv ((L).length) 46) (((L ++ [46])).length) (fk_dc (fk_abs cu))) u155.1 u155.2 ++ tl) := hD
                      obtain ⟨n16, f1, f2⟩ := hw
                      have n15 := fk_G_keep j15 f1 f2 (by omega)
                      refine lv_iinc (v := nI (k + 1)) (lv' := [(6, .int (nI (k + 1))), (7, .int 1), (8, .int (nI (fk_abs cu % 10).toNat)), (0, .ref (am 0)), (1, .int (nI (jk + 1))), (2, .long v), (4, .int lo), (5, .int (fk_cmp (fk_round 2 (fk_v (kf jk) v * 1000000) (fk_dn (kf jk)))))]) hx hb dX4_text_187 hl (k := 7) rfl (by exact nI_1 k) (by decide) rfl (fun ls hl => ?_)
                      refine lv_goto (tgt := 82) hx hb dX4_text_190 (by decide) ?_
                      exact ih82 (k + 1) (fk_dq cu 10) ((L ++ [46]) ++ [(fk_dc (fk_abs cu))]) 1 (upd (upd tv ((L).length) 46) (((L ++ [46])).length) (fk_dc (fk_abs cu))) u155.1 u155.2 (by omega) n16 n15 b3 hr hso hx154 b7 (by simp only [List.length_append, List.length_singleton]; omega) (by intro _; simp) _ _ _ hP hD hS (lv_sub hl [3, 4, 5, 6, 7, 0, 1] rfl)
    exact L82 41 0 (fk_round 2 (fk_v (kf jk) v * 1000000) (fk_dn (kf jk))) ([]) 0 tx u25.1 u25.2 (by omega) gg31 gr26 (by rw [hRm, show (10 : Int) ^ (30 - 0) = 1000000000000000000000000000000 by decide]; exact hmb.2) (by rw [hRm]; exact fk_rest_0 _ _) (Or.inl ⟨rfl, rfl⟩) (fk_Lx_0 _) (by omega) (by simp) (by omega) _ _ _ hP hD hS (lv_sub hl [4, 5, 6, 3, 2, 1, 0] rfl)
  · have hno_jk : fk_no n num := by by_cases q : (num.toInt < 1 ∨ (n : Int) < num.toInt); exact q; rw [zn_jk, if_neg q] at c_5; exact absurd rfl c_5
    refine lv_iconst (v := (-1)) hx hb dX4_text_8 (by decide) ?_
    rw [hQQ]
    exact W.iret (v := (-1)) hx hb hr (fun t ht hW => ⟨⟨(-1), (tn, tx, pt, sn), rfl, Or.inl ⟨hno_jk, rfl, rfl, rfl⟩, by rw [ht]; exact hP, va_K.moved hW.alike hK, hD⟩, hS.F ht⟩) hS.2.2 dX4_text_9
