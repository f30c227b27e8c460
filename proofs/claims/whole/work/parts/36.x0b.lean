/-! Fraction: add, multiply, divide, toRawScale, by program -/
theorem fk_tl {cJ cC cK : ClassId} {ad : Nat → Nat} {tl : va_W} {kd : Nat → Option Nat} {kc lo : Int32} {ch : Nat → Int32} {ts : Int32} {f1 f2 f3 f4 f5 : Nat → Int64} {j : Nat} {c : Nat × va_E} (h : tl[j]? = some c) : (fk_wx cJ cC cK ad kd kc lo ch ts f1 f2 f3 f4 f5 ++ tl)[j + 15]? = some c := h
abbrev rmX0_add : Room := { frames := 3, cells := 0, slots := 0, locals := 72 }
set_option maxHeartbeats 4000000 in
set_option maxRecDepth 100000 in
/-- Fraction.add -/
theorem kX0_add {l : Launch} {D : va_G} {cJ cC cI cZ cK : ClassId} (sz : Nat) (ad : Nat → Nat) (tl : va_W) (kd : Nat → Option Nat) (kc lo : Int32) (ch : Nat → Int32) (ts : Int32) (f1 f2 f3 f4 f5 : Nat → Int64) (t : Int64) (a b c0 d : Int) (hRa : fk_R a f1) (hRb : fk_R b f2) (hRc : fk_R c0 f3) (hRd : fk_R d f4) (ht : -1 ≤ t.toInt ∧ t.toInt ≤ 1) : Met l yX0_add wsX0_add rmX0_add (va_Pc [.ref (ad 3), .ref (ad 8), .long t] (fk_pre D (fk_ty cJ cC cI cZ cK) (fk_wx cJ cC cK ad kd kc lo ch ts f1 f2 f3 f4 f5 ++ tl) sz)) (va_Qv (fun u : (Nat → Int64) × (Nat → Int64) × (Nat → Int64) => fk_R (a * d + c0 * b * t.toInt) u.1 ∧ fk_R (b * d) u.2.1) (fk_Bd D (fk_ty cJ cC cI cZ cK) (va_A (fk_wx cJ cC cK ad kd kc lo ch ts f1 f2 f3 f4 f5 ++ tl) sz) (fun u : (Nat → Int64) × (Nat → Int64) × (Nat → Int64) => fk_wx cJ cC cK ad kd kc lo ch ts u.1 u.2.1 u.2.2 f4 f5 ++ tl)) (va_A (fk_wx cJ cC cK ad kd kc lo ch ts f1 f2 f3 f4 f5 ++ tl) sz)) 0 0 (va_A (fk_wx cJ cC cK ad kd kc lo ch ts f1 f2 f3 f4 f5 ++ tl) sz) := by
  refine fk_ofW cX0_add 4 none (fun A => va_Qv (fun u : (Nat → Int64) × (Nat → Int64) × (Nat → Int64) => fk_R (a * d + c0 * b * t.toInt) u.1 ∧ fk_R (b * d) u.2.1) (fk_Bd D (fk_ty cJ cC cI cZ cK) A (fun u : (Nat → Int64) × (Nat → Int64) × (Nat → Int64) => fk_wx cJ cC cK ad kd kc lo ch ts u.1 u.2.1 u.2.2 f4 f5 ++ tl)) A) rfl (by decide) (Nat.le_of_ble_eq_true rfl) ?_
  intro p e s m below meth c A ls args QQ hQQ hAt hP hK hN hD hA hS hl
  obtain ⟨⟨hx, hb, hml, hown, hts⟩, hr, hlocks, hin⟩ := hAt
  have hl : lv_has ls 4 [(0, .ref (ad 3)), (1, .ref (ad 8)), (2, .long t)] := hl
  have k1 := hts (.fieldLink RX0 12 "FixedKinds$Fraction" "above" "LFixedKinds$Whole;") (by decide +kernel)
  have k2 := (by decide +kernel : ∀ w ∈ u_ws RX0 TX0 2, w ∈ wsX0_add)
  have k3 := hts (.fieldLink RX0 18 "FixedKinds$Fraction" "below" "LFixedKinds$Whole;") (by decide +kernel)
  have k4 := hN _ fkn_X0_54
  have k5 := hts (.initialized RX2) (by decide +kernel)
  have k6 := hts (.instanceMethod yX2_multiply) (by decide +kernel)
  have k7 := hts (.selects RX2 yX2_multiply yX2_multiply) (by decide +kernel)
  have k8 := hN _ fkn_X0_58
  have k9 := hts (.instanceMethod yX2_addTimes) (by decide +kernel)
  have k10 := hts (.selects RX2 yX2_addTimes yX2_addTimes) (by decide +kernel)
  refine lv_aload_n hx hb dX0_add_0 rfl (lv_at hl 0 rfl) ?_
  refine va_get (D := D) (ci := 1) (v := .ref (ad 4)) (C := RX0) (T := TX0) (N := 2) hx hb hts k2 hown hK hP 3 rfl rfl 0 (by decide) k1 (fun _ h9 => h9) rfl dX0_add_1 ?_
  refine lv_aload_n hx hb dX0_add_4 rfl (lv_at hl 1 rfl) ?_
  refine va_get (D := D) (ci := 1) (v := .ref (ad 11)) (C := RX0) (T := TX0) (N := 2) hx hb hts k2 hown hK hP 8 rfl rfl 1 (by decide) k3 (fun _ h9 => h9) rfl dX0_add_5 ?_
  refine fk_cv hD hS hA (va_runVN (As := [.ref (ad 11)]) (rest := []) ⟨hx, hb, hml, hown, hts⟩ (kX2_multiply _ _ (ad 4) (ad 5) (ad 11) (ad 12) 4 5 11 12 f1 f4 (a) (d) rfl rfl rfl rfl (by decide) hRa hRd) ⟨va_cnB 1 hts gX0_add_X2_multiply_n54 rfl rfl rfl k4 k5 (by decide +kernel) ⟨Nat.le_of_ble_eq_true rfl, Nat.le_of_ble_eq_true rfl⟩, k6, k7⟩ (fk_preV 4 3 hK hN hP hD rfl rfl) rfl rfl hl.1 rfl (lv_room (Nat.le_of_ble_eq_true rfl)) dX0_add_8 ⟨Nat.le_of_ble_eq_true rfl, Nat.le_of_ble_eq_true rfl⟩) (fun g1 H locs hw hP hD hS => ?_)
  have hP : va_P D vwCl (fk_wx cJ cC cK ad kd kc lo ch ts g1 f2 f3 f4 f5 ++ tl) H := hP
  have hD : va_D A (fk_wx cJ cC cK ad kd kc lo ch ts g1 f2 f3 f4 f5 ++ tl) := hD
  have hRg1 := hw
  refine lv_aload_n hx hb dX0_add_11 rfl (lv_at hl 1 rfl) ?_
  refine va_get (D := D) (ci := 1) (v := .ref (ad 9)) (C := RX0) (T := TX0) (N := 2) hx hb hts k2 hown hK hP 8 rfl rfl 0 (by decide) k1 (fun _ h9 => h9) rfl dX0_add_12 ?_
  refine lv_aload_n hx hb dX0_add_15 rfl (lv_at hl 0 rfl) ?_
  refine va_get (D := D) (ci := 1) (v := .ref (ad 6)) (C := RX0) (T := TX0) (N := 2) hx hb hts k2 hown hK hP 3 rfl rfl 1 (by decide) k3 (fun _ h9 => h9) rfl dX0_add_16 ?_
  refine fk_cv hD hS hA (va_runVN (As := [.ref (ad 6)]) (rest := []) ⟨hx, hb, hml, hown, hts⟩ (kX2_multiply _ _ (ad 9) (ad 10) (ad 6) (ad 7) 9 10 6 7 f3 f2 (c0) (b) rfl rfl rfl rfl (by decide) hRc hRb) ⟨va_cnB 1 hts gX0_add_X2_multiply_n54 rfl rfl rfl k4 k5 (by decide +kernel) ⟨Nat.le_of_ble_eq_true rfl, Nat.le_of_ble_eq_true rfl⟩, k6, k7⟩ (fk_preV 9 3 hK hN hP hD rfl rfl) rfl rfl hl.1 rfl (lv_room (Nat.le_of_ble_eq_true rfl)) dX0_add_19 ⟨Nat.le_of_ble_eq_true rfl, Nat.le_of_ble_eq_true rfl⟩) (fun g3 H locs hw hP hD hS => ?_)
  have hP : va_P D vwCl (fk_wx cJ cC cK ad kd kc lo ch ts g1 f2 g3 f4 f5 ++ tl) H := hP
  have hD : va_D A (fk_wx cJ cC cK ad kd kc lo ch ts g1 f2 g3 f4 f5 ++ tl) := hD
  have hRg3 := hw
  refine lv_aload_n hx hb dX0_add_22 rfl (lv_at hl 0 rfl) ?_
  refine va_get (D := D) (ci := 1) (v := .ref (ad 4)) (C := RX0) (T := TX0) (N := 2) hx hb hts k2 hown hK hP 3 rfl rfl 0 (by decide) k1 (fun _ h9 => h9) rfl dX0_add_23 ?_
  refine lv_aload_n hx hb dX0_add_26 rfl (lv_at hl 1 rfl) ?_
  refine va_get (D := D) (ci := 1) (v := .ref (ad 9)) (C := RX0) (T := TX0) (N := 2) hx hb hts k2 hown hK hP 8 rfl rfl 0 (by decide) k1 (fun _ h9 => h9) rfl dX0_add_27 ?_
  refine lv_lload_n hx hb dX0_add_30 rfl (lv_at hl 2 rfl) ?_
  refine fk_cv hD hS hA (va_runVN (As := [.ref (ad 9), .long t]) (rest := []) ⟨hx, hb, hml, hown, hts⟩ (kX2_addTimes _ _ (ad 4) (ad 5) (ad 9) (ad 10) 4 5 9 10 g1 g3 t ((a) * (d)) ((c0) * (b)) rfl rfl rfl rfl (by decide) hRg1 hRg3 (by omega)) ⟨va_cnB 2 hts gX0_add_X2_addTimes_n58 rfl rfl rfl k8 k5 (by decide +kernel) ⟨Nat.le_of_ble_eq_true rfl, Nat.le_of_ble_eq_true rfl⟩, k9, k10⟩ (fk_preV 4 3 hK hN hP hD rfl rfl) rfl rfl hl.1 rfl (lv_room (Nat.le_of_ble_eq_true rfl)) dX0_add_31 ⟨Nat.le_of_ble_eq_true rfl, Nat.le_of_ble_eq_true rfl⟩) (fun g5 H locs hw hP hD hS => ?_)
  have hP : va_P D vwCl (fk_wx cJ cC cK ad kd kc lo ch ts g5 f2 g3 f4 f5 ++ tl) H := hP
  have hD : va_D A (fk_wx cJ cC cK ad kd kc lo ch ts g5 f2 g3 f4 f5 ++ tl) := hD
  have hRg5 := hw
  refine lv_aload_n hx hb dX0_add_34 rfl (lv_at hl 0 rfl) ?_
  refine va_get (D := D) (ci := 1) (v := .ref (ad 6)) (C := RX0) (T := TX0) (N := 2) hx hb hts k2 hown hK hP 3 rfl rfl 1 (by decide) k3 (fun _ h9 => h9) rfl dX0_add_35 ?_
  refine lv_aload_n hx hb dX0_add_38 rfl (lv_at hl 1 rfl) ?_
  refine va_get (D := D) (ci := 1) (v := .ref (ad 11)) (C := RX0) (T := TX0) (N := 2) hx hb hts k2 hown hK hP 8 rfl rfl 1 (by decide) k3 (fun _ h9 => h9) rfl dX0_add_39 ?_
  refine fk_cv hD hS hA (va_runVN (As := [.ref (ad 11)]) (rest := []) ⟨hx, hb, hml, hown, hts⟩ (kX2_multiply _ _ (ad 6) (ad 7) (ad 11) (ad 12) 6 7 11 12 f2 f4 (b) (d) rfl rfl rfl rfl (by decide) hRb hRd) ⟨va_cnB 1 hts gX0_add_X2_multiply_n54 rfl rfl rfl k4 k5 (by decide +kernel) ⟨Nat.le_of_ble_eq_true rfl, Nat.le_of_ble_eq_true rfl⟩, k6, k7⟩ (fk_preV 6 3 hK hN hP hD rfl rfl) rfl rfl hl.1 rfl (lv_room (Nat.le_of_ble_eq_true rfl)) dX0_add_42 ⟨Nat.le_of_ble_eq_true rfl, Nat.le_of_ble_eq_true rfl⟩) (fun g7 H locs hw hP hD hS => ?_)
  have hP : va_P D vwCl (fk_wx cJ cC cK ad kd kc lo ch ts g5 g7 g3 f4 f5 ++ tl) H := hP
  have hD : va_D A (fk_wx cJ cC cK ad kd kc lo ch ts g5 g7 g3 f4 f5 ++ tl) := hD
  have hRg7 := hw
  rw [hQQ]
  exact W.vret hx hb hr (fun t ht hW => ⟨⟨(g5, g7, g3), rfl, ⟨hRg5, hRg7⟩, by rw [ht]; exact hP, va_K.moved hW.alike hK, hD⟩, hS.F ht⟩) hS.2.2 dX0_add_45
abbrev rmX0_multiply : Room := { frames := 2, cells := 0, slots := 0, locals := 50 }
set_option maxHeartbeats 4000000 in
set_option maxRecDepth 100000 in
/-- Fraction.multiply -/
theorem kX0_multiply {l : Launch} {D : va_G} {cJ cC cI cZ cK : ClassId} (sz : Nat) (ad : Nat → Nat) (tl : va_W) (kd : Nat → Option Nat) (kc lo : Int32) (ch : Nat → Int32) (ts : Int32) (f1 f2 f3 f4 f5 : Nat → Int64) (a b c0 d : Int) (hRa : fk_R a f1) (hRb : fk_R b f2) (hRc : fk_R c0 f3) (hRd : fk_R d f4) : Met l yX0_multiply wsX0_multiply rmX0_multiply (va_Pc [.ref (ad 3), .ref (ad 8)] (fk_pre D (fk_ty cJ cC cI cZ cK) (fk_wx cJ cC cK ad kd kc lo ch ts f1 f2 f3 f4 f5 ++ tl) sz)) (va_Qv (fun u : (Nat → Int64) × (Nat → Int64) => fk_R (a * c0) u.1 ∧ fk_R (b * d) u.2) (fk_Bd D (fk_ty cJ cC cI cZ cK) (va_A (fk_wx cJ cC cK ad kd kc lo ch ts f1 f2 f3 f4 f5 ++ tl) sz) (fun u : (Nat → Int64) × (Nat → Int64) => fk_wx cJ cC cK ad kd kc lo ch ts u.1 u.2 f3 f4 f5 ++ tl)) (va_A (fk_wx cJ cC cK ad kd kc lo ch ts f1 f2 f3 f4 f5 ++ tl) sz)) 0 0 (va_A (fk_wx cJ cC cK ad kd kc lo ch ts f1 f2 f3 f4 f5 ++ tl) sz) := by
  refine fk_ofW cX0_multiply 2 none (fun A => va_Qv (fun u : (Nat → Int64) × (Nat → Int64) => fk_R (a * c0) u.1 ∧ fk_R (b * d) u.2) (fk_Bd D (fk_ty cJ cC cI cZ cK) A (fun u : (Nat → Int64) × (Nat → Int64) => fk_wx cJ cC cK ad kd kc lo ch ts u.1 u.2 f3 f4 f5 ++ tl)) A) rfl (by decide) (Nat.le_of_ble_eq_true rfl) ?_
  intro p e s m below meth c A ls args QQ hQQ hAt hP hK hN hD hA hS hl
  obtain ⟨⟨hx, hb, hml, hown, hts⟩, hr, hlocks, hin⟩ := hAt
  have hl : lv_has ls 2 [(0, .ref (ad 3)), (1, .ref (ad 8))] := hl
  have k1 := hts (.fieldLink RX0 12 "FixedKinds$Fraction" "above" "LFixedKinds$Whole;") (by decide +kernel)
  have k2 := (by decide +kernel : ∀ w ∈ u_ws RX0 TX0 2, w ∈ wsX0_multiply)
  have k3 := hN _ fkn_X0_54
  have k4 := hts (.initialized RX2) (by decide +kernel)
  have k5 := hts (.instanceMethod yX2_multiply) (by decide +kernel)
  have k6 := hts (.selects RX2 yX2_multiply yX2_multiply) (by decide +kernel)
  have k7 := hts (.fieldLink RX0 18 "FixedKinds$Fraction" "below" "LFixedKinds$Whole;") (by decide +kernel)
  refine lv_aload_n hx hb dX0_multiply_0 rfl (lv_at hl 0 rfl) ?_
  refine va_get (D := D) (ci := 1) (v := .ref (ad 4)) (C := RX0) (T := TX0) (N := 2) hx hb hts k2 hown hK hP 3 rfl rfl 0 (by decide) k1 (fun _ h9 => h9) rfl dX0_multiply_1 ?_
  refine lv_aload_n hx hb dX0_multiply_4 rfl (lv_at hl 1 rfl) ?_
  refine va_get (D := D) (ci := 1) (v := .ref (ad 9)) (C := RX0) (T := TX0) (N := 2) hx hb hts k2 hown hK hP 8 rfl rfl 0 (by decide) k1 (fun _ h9 => h9) rfl dX0_multiply_5 ?_
  refine fk_cv hD hS hA (va_runVN (As := [.ref (ad 9)]) (rest := []) ⟨hx, hb, hml, hown, hts⟩ (kX2_multiply _ _ (ad 4) (ad 5) (ad 9) (ad 10) 4 5 9 10 f1 f3 (a) (c0) rfl rfl rfl rfl (by decide) hRa hRc) ⟨va_cnB 1 hts gX0_multiply_X2_multiply_n54 rfl rfl rfl k3 k4 (by decide +kernel) ⟨Nat.le_of_ble_eq_true rfl, Nat.le_of_ble_eq_true rfl⟩, k5, k6⟩ (fk_preV 4 3 hK hN hP hD rfl rfl) rfl rfl hl.1 rfl (lv_room (Nat.le_of_ble_eq_true rfl)) dX0_multiply_8 ⟨Nat.le_of_ble_eq_true rfl, Nat.le_of_ble_eq_true rfl⟩) (fun g1 H locs hw hP hD hS => ?_)
  have hP : va_P D vwCl (fk_wx cJ cC cK ad kd kc lo ch ts g1 f2 f3 f4 f5 ++ tl) H := hP
  have hD : va_D A (fk_wx cJ cC cK ad kd kc lo ch ts g1 f2 f3 f4 f5 ++ tl) := hD
  have hRg1 := hw
  refine lv_aload_n hx hb dX0_multiply_11 rfl (lv_at hl 0 rfl) ?_
  refine va_get (D := D) (ci := 1) (v := .ref (ad 6)) (C := RX0) (T := TX0) (N := 2) hx hb hts k2 hown hK hP 3 rfl rfl 1 (by decide) k7 (fun _ h9 => h9) rfl dX0_multiply_12 ?_
  refine lv_aload_n hx hb dX0_multiply_15 rfl (lv_at hl 1 rfl) ?_
  refine va_get (D := D) (ci := 1) (v := .ref (ad 11)) (C := RX0) (T := TX0) (N := 2) hx hb hts k2 hown hK hP 8 rfl rfl 1 (by decide) k7 (fun _ h9 => h9) rfl dX0_multiply_16 ?_
  refine fk_cv hD hS hA (va_runVN (As := [.ref (ad 11)]) (rest := []) ⟨hx, hb, hml, hown, hts⟩ (kX2_multiply _ _ (ad 6) (ad 7) (ad 11) (ad 12) 6 7 11 12 f2 f4 (b) (d) rfl rfl rfl rfl (by decide) hRb hRd) ⟨va_cnB 1 hts gX0_multiply_X2_multiply_n54 rfl rfl rfl k3 k4 (by decide +kernel) ⟨Nat.le_of_ble_eq_true rfl, Nat.le_of_ble_eq_true rfl⟩, k5, k6⟩ (fk_preV 6 3 hK hN hP hD rfl rfl) rfl rfl hl.1 rfl (lv_room (Nat.le_of_ble_eq_true rfl)) dX0_multiply_19 ⟨Nat.le_of_ble_eq_true rfl, Nat.le_of_ble_eq_true rfl⟩) (fun g3 H locs hw hP hD hS => ?_)
  have hP : va_P D vwCl (fk_wx cJ cC cK ad kd kc lo ch ts g1 g3 f3 f4 f5 ++ tl) H := hP
  have hD : va_D A (fk_wx cJ cC cK ad kd kc lo ch ts g1 g3 f3 f4 f5 ++ tl) := hD
  have hRg3 := hw
  rw [hQQ]
  exact W.vret hx hb hr (fun t ht hW => ⟨⟨(g1, g3), rfl, ⟨hRg1, hRg3⟩, by rw [ht]; exact hP, va_K.moved hW.alike hK, hD⟩, hS.F ht⟩) hS.2.2 dX0_multiply_22
abbrev rmX0_divide : Room := { frames := 2, cells := 0, slots := 0, locals := 50 }
set_option maxHeartbeats 4000000 in
set_option maxRecDepth 100000 in
/-- Fraction.divide -/
theorem kX0_divide {l : Launch} {D : va_G} {cJ cC cI cZ cK : ClassId} (sz : Nat) (ad : Nat → Nat) (tl : va_W) (kd : Nat → Option Nat) (kc lo : Int32) (ch : Nat → Int32) (ts : Int32) (f1 f2 f3 f4 f5 : Nat → Int64) (a b c0 d : Int) (hRa : fk_R a f1) (hRb : fk_R b f2) (hRc : fk_R c0 f3) (hRd : fk_R d f4) (hI : fk_In (b * c0)) : Met l yX0_divide wsX0_divide rmX0_divide (va_Pc [.ref (ad 3), .ref (ad 8)] (fk_pre D (fk_ty cJ cC cI cZ cK) (fk_wx cJ cC cK ad kd kc lo ch ts f1 f2 f3 f4 f5 ++ tl) sz)) (va_Qv (fun u : (Nat → Int64) × (Nat → Int64) => fk_R (a * d * (if b * c0 < 0 then -1 else 1)) u.1 ∧ fk_R (b * c0 * (if b * c0 < 0 then -1 else 1)) u.2) (fk_Bd D (fk_ty cJ cC cI cZ cK) (va_A (fk_wx cJ cC cK ad kd kc lo ch ts f1 f2 f3 f4 f5 ++ tl) sz) (fun u : (Nat → Int64) × (Nat → Int64) => fk_wx cJ cC cK ad kd kc lo ch ts u.1 u.2 f3 f4 f5 ++ tl)) (va_A (fk_wx cJ cC cK ad kd kc lo ch ts f1 f2 f3 f4 f5 ++ tl) sz)) 0 0 (va_A (fk_wx cJ cC cK ad kd kc lo ch ts f1 f2 f3 f4 f5 ++ tl) sz) := by
  refine fk_ofW cX0_divide 2 none (fun A => va_Qv (fun u : (Nat → Int64) × (Nat → Int64) => fk_R (a * d * (if b * c0 < 0 then -1 else 1)) u.1 ∧ fk_R (b * c0 * (if b * c0 < 0 then -1 else 1)) u.2) (fk_Bd D (fk_ty cJ cC cI cZ cK) A (fun u : (Nat → Int64) × (Nat → Int64) => fk_wx cJ cC cK ad kd kc lo ch ts u.1 u.2 f3 f4 f5 ++ tl)) A) rfl (by decide) (Nat.le_of_ble_eq_true rfl) ?_
  intro p e s m below meth c A ls args QQ hQQ hAt hP hK hN hD hA hS hl
  obtain ⟨⟨hx, hb, hml, hown, hts⟩, hr, hlocks, hin⟩ := hAt
  have hl : lv_has ls 2 [(0, .ref (ad 3)), (1, .ref (ad 8))] := hl
  have k1 := hts (.fieldLink RX0 12 "FixedKinds$Fraction" "above" "LFixedKinds$Whole;") (by decide +kernel)
  have k2 := (by decide +kernel : ∀ w ∈ u_ws RX0 TX0 2, w ∈ wsX0_divide)
  have k3 := hts (.fieldLink RX0 18 "FixedKinds$Fraction" "below" "LFixedKinds$Whole;") (by decide +kernel)
  have k4 := hN _ fkn_X0_54
  have k5 := hts (.initialized RX2) (by decide +kernel)
  have k6 := hts (.instanceMethod yX2_multiply) (by decide +kernel)
  have k7 := hts (.selects RX2 yX2_multiply yX2_multiply) (by decide +kernel)
  have k8 := hN _ fkn_X0_51
  have k9 := hts (.instanceMethod yX2_isNegative) (by decide +kernel)
  have k10 := hts (.selects RX2 yX2_isNegative yX2_isNegative) (by decide +kernel)
  have k11 := hts (.constantLong RX0 62 (-1)) (by decide +kernel)
  have k12 := hN _ fkn_X0_35
  have k13 := hts (.instanceMethod yX2_scale) (by decide +kernel)
  have k14 := hts (.selects RX2 yX2_scale yX2_scale) (by decide +kernel)
  refine lv_aload_n hx hb dX0_divide_0 rfl (lv_at hl 0 rfl) ?_
  refine va_get (D := D) (ci := 1) (v := .ref (ad 4)) (C := RX0) (T := TX0) (N := 2) hx hb hts k2 hown hK hP 3 rfl rfl 0 (by decide) k1 (fun _ h9 => h9) rfl dX0_divide_1 ?_
  refine lv_aload_n hx hb dX0_divide_4 rfl (lv_at hl 1 rfl) ?_
  refine va_get (D := D) (ci := 1) (v := .ref (ad 11)) (C := RX0) (T := TX0) (N := 2) hx hb hts k2 hown hK hP 8 rfl rfl 1 (by decide) k3 (fun _ h9 => h9) rfl dX0_divide_5 ?_
  refine fk_cv hD hS hA (va_runVN (As := [.ref (ad 11)]) (rest := []) ⟨hx, hb, hml, hown, hts⟩ (kX2_multiply _ _ (ad 4) (ad 5) (ad 11) (ad 12) 4 5 11 12 f1 f4 (a) (d) rfl rfl rfl rfl (by decide) hRa hRd) ⟨va_cnB 1 hts gX0_divide_X2_multiply_n54 rfl rfl rfl k4 k5 (by decide +kernel) ⟨Nat.le_of_ble_eq_true rfl, Nat.le_of_ble_eq_true rfl⟩, k6, k7⟩ (fk_preV 4 3 hK hN hP hD rfl rfl) rfl rfl hl.1 rfl (lv_room (Nat.le_of_ble_eq_true rfl)) dX0_divide_8 ⟨Nat.le_of_ble_eq_true rfl, Nat.le_of_ble_eq_true rfl⟩) (fun g1 H locs hw hP hD hS => ?_)
  have hP : va_P D vwCl (fk_wx cJ cC cK ad kd kc lo ch ts g1 f2 f3 f4 f5 ++ tl) H := hP
  have hD : va_D A (fk_wx cJ cC cK ad kd kc lo ch ts g1 f2 f3 f4 f5 ++ tl) := hD
  have hRg1 := hw
  refine lv_aload_n hx hb dX0_divide_11 rfl (lv_at hl 0 rfl) ?_
  refine va_get (D := D) (ci := 1) (v := .ref (ad 6)) (C := RX0) (T := TX0) (N := 2) hx hb hts k2 hown hK hP 3 rfl rfl 1 (by decide) k3 (fun _ h9 => h9) rfl dX0_divide_12 ?_
  refine lv_aload_n hx hb dX0_divide_15 rfl (lv_at hl 1 rfl) ?_
  refine va_get (D := D) (ci := 1) (v := .ref (ad 9)) (C := RX0) (T := TX0) (N := 2) hx hb hts k2 hown hK hP 8 rfl rfl 0 (by decide) k1 (fun _ h9 => h9) rfl dX0_divide_16 ?_
  refine fk_cv hD hS hA (va_runVN (As := [.ref (ad 9)]) (rest := []) ⟨hx, hb, hml, hown, hts⟩ (kX2_multiply _ _ (ad 6) (ad 7) (ad 9) (ad 10) 6 7 9 10 f2 f3 (b) (c0) rfl rfl rfl rfl (by decide) hRb hRc) ⟨va_cnB 1 hts gX0_divide_X2_multiply_n54 rfl rfl rfl k4 k5 (by decide +kernel) ⟨Nat.le_of_ble_eq_true rfl, Nat.le_of_ble_eq_true rfl⟩, k6, k7⟩ (fk_preV 6 3 hK hN hP hD rfl rfl) rfl rfl hl.1 rfl (lv_room (Nat.le_of_ble_eq_true rfl)) dX0_divide_19 ⟨Nat.le_of_ble_eq_true rfl, Nat.le_of_ble_eq_true rfl⟩) (fun g3 H locs hw hP hD hS => ?_)
  have hP : va_P D vwCl (fk_wx cJ cC cK ad kd kc lo ch ts g1 g3 f3 f4 f5 ++ tl) H := hP
  have hD : va_D A (fk_wx cJ cC cK ad kd kc lo ch ts g1 g3 f3 f4 f5 ++ tl) := hD
  have hRg3 := hw
  refine lv_aload_n hx hb dX0_divide_22 rfl (lv_at hl 0 rfl) ?_
  refine va_get (D := D) (ci := 1) (v := .ref (ad 6)) (C := RX0) (T := TX0) (N := 2) hx hb hts k2 hown hK hP 3 rfl rfl 1 (by decide) k3 (fun _ h9 => h9) rfl dX0_divide_23 ?_
  refine fk_ci hD hS hA (va_runVN (As := []) (rest := []) ⟨hx, hb, hml, hown, hts⟩ (kX2_isNegative _ _ (ad 6) (ad 7) 6 7 g3 ((b) * (c0)) rfl rfl hRg3 hI) ⟨va_cnB 0 hts gX0_divide_X2_isNegative_n51 rfl rfl rfl k8 k5 (by decide +kernel) ⟨Nat.le_of_ble_eq_true rfl, Nat.le_of_ble_eq_true rfl⟩, k9, k10⟩ (fk_preV 6 3 hK hN hP hD rfl rfl) rfl rfl hl.1 rfl (lv_room (Nat.le_of_ble_eq_true rfl)) dX0_divide_26 ⟨Nat.le_of_ble_eq_true rfl, Nat.le_of_ble_eq_true rfl⟩) (fun r5 u H locs hw hP hD hS => ?_)
  have hP : va_P D vwCl (fk_wx cJ cC cK ad kd kc lo ch ts g1 g3 f3 f4 f5 ++ tl) H := hP
  have hD : va_D A (fk_wx cJ cC cK ad kd kc lo ch ts g1 g3 f3 f4 f5 ++ tl) := hD
  have z := hw
  refine lv_if_eq (tgt := 52) hx hb dX0_divide_29 (by decide) (fun c_29 => ?_) (fun c_29 => ?_)
  · have p_c_29 : ¬ (b) * (c0) < 0 := by intro q; rw [z, if_pos q] at c_29; exact absurd c_29 (by decide)
    rw [hQQ]
    exact W.vret hx hb hr (fun t ht hW => ⟨⟨(g1, g3), rfl, (by rw [if_neg p_c_29, Int.mul_one, Int.mul_one]; exact ⟨hRg1, hRg3⟩), by rw [ht]; exact hP, va_K.moved hW.alike hK, hD⟩, hS.F ht⟩) hS.2.2 dX0_divide_52
  · have p_c_29 : (b) * (c0) < 0 := by by_cases q : (b) * (c0) < 0; exact q; rw [z, if_neg q] at c_29; exact absurd rfl c_29
    refine lv_aload_n hx hb dX0_divide_32 rfl (lv_at hl 0 rfl) ?_
    refine va_get (D := D) (ci := 1) (v := .ref (ad 4)) (C := RX0) (T := TX0) (N := 2) hx hb hts k2 hown hK hP 3 rfl rfl 0 (by decide) k1 (fun _ h9 => h9) rfl dX0_divide_33 ?_
    refine lv_ldc2 (v := (-1)) hx hb hown k11 dX0_divide_36 ?_
    refine fk_cv hD hS hA (va_runVN (As := [.long (-1)]) (rest := []) ⟨hx, hb, hml, hown, hts⟩ (kX2_scale _ _ (ad 4) (ad 5) 4 5 g1 (-1) ((a) * (d)) rfl rfl hRg1 (by decide)) ⟨va_cnB 1 hts gX0_divide_X2_scale_n35 rfl rfl rfl k12 k5 (by decide +kernel) ⟨Nat.le_of_ble_eq_true rfl, Nat.le_of_ble_eq_true rfl⟩, k13, k14⟩ (fk_preV 4 3 hK hN hP hD rfl rfl) rfl rfl hl.1 rfl (lv_room (Nat.le_of_ble_eq_true rfl)) dX0_divide_39 ⟨Nat.le_of_ble_eq_true rfl, Nat.le_of_ble_eq_true rfl⟩) (fun g6 H locs hw hP hD hS => ?_)
    have hP : va_P D vwCl (fk_wx cJ cC cK ad kd kc lo ch ts g6 g3 f3 f4 f5 ++ tl) H := hP
    have hD : va_D A (fk_wx cJ cC cK ad kd kc lo ch ts g6 g3 f3 f4 f5 ++ tl) := hD
    rw [show ((-1) : Int64).toInt = (-1) by decide] at hw
    have hRg6 := hw
    refine lv_aload_n hx hb dX0_divide_42 rfl (lv_at hl 0 rfl) ?_
    refine va_get (D := D) (ci := 1) (v := .ref (ad 6)) (C := RX0) (T := TX0) (N := 2) hx hb hts k2 hown hK hP 3 rfl rfl 1 (by decide) k3 (fun _ h9 => h9) rfl dX0_divide_43 ?_
    refine lv_ldc2 (v := (-1)) hx hb hown k11 dX0_divide_46 ?_
    refine fk_cv hD hS hA (va_runVN (As := [.long (-1)]) (rest := []) ⟨hx, hb, hml, hown, hts⟩ (kX2_scale _ _ (ad 6) (ad 7) 6 7 g3 (-1) ((b) * (c0)) rfl rfl hRg3 (by decide)) ⟨va_cnB 1 hts gX0_divide_X2_scale_n35 rfl rfl rfl k12 k5 (by decide +kernel) ⟨Nat.le_of_ble_eq_true rfl, Nat.le_of_ble_eq_true rfl⟩, k13, k14⟩ (fk_preV 6 3 hK hN hP hD rfl rfl) rfl rfl hl.1 rfl (lv_room (Nat.le_of_ble_eq_true rfl)) dX0_divide_49 ⟨Nat.le_of_ble_eq_true rfl, Nat.le_of_ble_eq_true rfl⟩) (fun g8 H locs hw hP hD hS => ?_)
    have hP : va_P D vwCl (fk_wx cJ cC cK ad kd kc lo ch ts g6 g8 f3 f4 f5 ++ tl) H := hP
    have hD : va_D A (fk_wx cJ cC cK ad kd kc lo ch ts g6 g8 f3 f4 f5 ++ tl) := hD
    rw [show ((-1) : Int64).toInt = (-1) by decide] at hw
    have hRg8 := hw
    rw [hQQ]
    exact W.vret hx hb hr (fun t ht hW => ⟨⟨(g6, g8), rfl, (by rw [if_pos p_c_29]; exact ⟨hRg6, hRg8⟩), by rw [ht]; exact hP, va_K.moved hW.alike hK, hD⟩, hS.F ht⟩) hS.2.2 dX0_divide_52
abbrev rmX0_toRawScale : Room := { frames := 3, cells := 0, slots := 0, locals := 72 }
set_option maxHeartbeats 4000000 in
set_option maxRecDepth 100000 in
/-- Fraction.toRawScale -/
theorem kX0_toRawScale {l : Launch} {D : va_G} {cJ cC cI cZ cK : ClassId} (sz : Nat) (ad : Nat → Nat) (tl : va_W) (kd : Nat → Option Nat) (kc lo : Int32) (ch : Nat → Int32) (ts : Int32) (f1 f2 f3 f4 f5 : Nat → Int64) (hk jk w : Nat) (sg ov rd : Int32) (up dn of : Int64) (a b : Int) (hqk : tl[jk]? = some (hk, .inr (2, [.int (nI w), .int sg, .long up, .long dn, .long of, .int ov, .int rd]))) (hkd : fk_kd w sg up dn of) (hRa : fk_R a f1) (hRb : fk_R b f2) : Met l yX0_toRawScale wsX0_toRawScale rmX0_toRawScale (va_Pc [.ref (ad 3), .ref hk] (fk_pre D (fk_ty cJ cC cI cZ cK) (fk_wx cJ cC cK ad kd kc lo ch ts f1 f2 f3 f4 f5 ++ tl) sz)) (va_Qv (fun u : (Nat → Int64) × (Nat → Int64) => fk_R ((a + b * (-of.toInt)) * dn.toInt) u.1 ∧ fk_R (b * up.toInt) u.2) (fk_Bd D (fk_ty cJ cC cI cZ cK) (va_A (fk_wx cJ cC cK ad kd kc lo ch ts f1 f2 f3 f4 f5 ++ tl) sz) (fun u : (Nat → Int64) × (Nat → Int64) => fk_wx cJ cC cK ad kd kc lo ch ts u.1 u.2 f3 f4 f5 ++ tl)) (va_A (fk_wx cJ cC cK ad kd kc lo ch ts f1 f2 f3 f4 f5 ++ tl) sz)) 0 0 (va_A (fk_wx cJ cC cK ad kd kc lo ch ts f1 f2 f3 f4 f5 ++ tl) sz) := by
  refine fk_ofW cX0_toRawScale 2 none (fun A => va_Qv (fun u : (Nat → Int64) × (Nat → Int64) => fk_R ((a + b * (-of.toInt)) * dn.toInt) u.1 ∧ fk_R (b * up.toInt) u.2) (fk_Bd D (fk_ty cJ cC cI cZ cK) A (fun u : (Nat → Int64) × (Nat → Int64) => fk_wx cJ cC cK ad kd kc lo ch ts u.1 u.2 f3 f4 f5 ++ tl)) A) rfl (by decide) (Nat.le_of_ble_eq_true rfl) ?_
  intro p e s m below meth c A ls args QQ hQQ hAt hP hK hN hD hA hS hl
  obtain ⟨⟨hx, hb, hml, hown, hts⟩, hr, hlocks, hin⟩ := hAt
  have hl : lv_has ls 2 [(0, .ref (ad 3)), (1, .ref hk)] := hl
  have k1 := hts (.fieldLink RX0 12 "FixedKinds$Fraction" "above" "LFixedKinds$Whole;") (by decide +kernel)
  have k2 := (by decide +kernel : ∀ w ∈ u_ws RX0 TX0 2, w ∈ wsX0_toRawScale)
  have k3 := hts (.fieldLink RX0 18 "FixedKinds$Fraction" "below" "LFixedKinds$Whole;") (by decide +kernel)
  have k4 := hN _ fkn_X0_38
  have k5 := (by decide +kernel : ∀ w ∈ u_ws RX1 TX1 7, w ∈ wsX0_toRawScale)
  have k6 := hN _ fkn_X0_58
  have k7 := hts (.initialized RX2) (by decide +kernel)
  have k8 := hts (.instanceMethod yX2_addTimes) (by decide +kernel)
  have k9 := hts (.selects RX2 yX2_addTimes yX2_addTimes) (by decide +kernel)
  have k10 := hN _ fkn_X0_41
  have k11 := hN _ fkn_X0_35
  have k12 := hts (.instanceMethod yX2_scale) (by decide +kernel)
  have k13 := hts (.selects RX2 yX2_scale yX2_scale) (by decide +kernel)
  have k14 := hN _ fkn_X0_31
  obtain ⟨hwd, hu0, hd0, ho0⟩ := id hkd
  refine lv_aload_n hx hb dX0_toRawScale_0 rfl (lv_at hl 0 rfl) ?_
  refine va_get (D := D) (ci := 1) (v := .ref (ad 4)) (C := RX0) (T := TX0) (N := 2) hx hb hts k2 hown hK hP 3 rfl rfl 0 (by decide) k1 (fun _ h9 => h9) rfl dX0_toRawScale_1 ?_
  refine lv_aload_n hx hb dX0_toRawScale_4 rfl (lv_at hl 0 rfl) ?_
  refine va_get (D := D) (ci := 1) (v := .ref (ad 6)) (C := RX0) (T := TX0) (N := 2) hx hb hts k2 hown hK hP 3 rfl rfl 1 (by decide) k3 (fun _ h9 => h9) rfl dX0_toRawScale_5 ?_
  refine lv_aload_n hx hb dX0_toRawScale_8 rfl (lv_at hl 1 rfl) ?_
  refine va_getN (D := D) (ci := 2) (v := .long of) (C := RX1) (T := TX1) (N := 7) hx hb hts k5 hown hK hP (jk + 15) (fk_tl hqk) rfl 4 (by decide) (va_Nw.use rfl k4) (fun _ h9 => h9) rfl dX0_toRawScale_9 ?_
  refine lv_lneg hx hb dX0_toRawScale_12 ?_
  refine lv_topl (fun x1 ex1 => ?_)
  have hno : x1.toInt = -of.toInt := by rw [ex1]; exact fk_neg (by omega)
  refine fk_cv hD hS hA (va_runVN (As := [.ref (ad 6), .long x1]) (rest := []) ⟨hx, hb, hml, hown, hts⟩ (kX2_addTimes _ _ (ad 4) (ad 5) (ad 6) (ad 7) 4 5 6 7 f1 f2 x1 (a) (b) rfl rfl rfl rfl (by decide) hRa hRb (by rw [hno]; omega)) ⟨va_cnB 2 hts gX0_toRawScale_X2_addTimes_n58 rfl rfl rfl k6 k7 (by decide +kernel) ⟨Nat.le_of_ble_eq_true rfl, Nat.le_of_ble_eq_true rfl⟩, k8, k9⟩ (fk_preV 4 3 hK hN hP hD rfl rfl) rfl rfl hl.1 rfl (lv_room (Nat.le_of_ble_eq_true rfl)) dX0_toRawScale_13 ⟨Nat.le_of_ble_eq_true rfl, Nat.le_of_ble_eq_true rfl⟩) (fun g2 H locs hw hP hD hS => ?_)
  have hP : va_P D vwCl (fk_wx cJ cC cK ad kd kc lo ch ts g2 f2 f3 f4 f5 ++ tl) H := hP
  have hD : va_D A (fk_wx cJ cC cK ad kd kc lo ch ts g2 f2 f3 f4 f5 ++ tl) := hD
  have hRg2 := hw
  rw [hno] at hRg2
  refine lv_aload_n hx hb dX0_toRawScale_16 rfl (lv_at hl 0 rfl) ?_
  refine va_get (D := D) (ci := 1) (v := .ref (ad 4)) (C := RX0) (T := TX0) (N := 2) hx hb hts k2 hown hK hP 3 rfl rfl 0 (by decide) k1 (fun _ h9 => h9) rfl dX0_toRawScale_17 ?_
  refine lv_aload_n hx hb dX0_toRawScale_20 rfl (lv_at hl 1 rfl) ?_
  refine va_getN (D := D) (ci := 2) (v := .long dn) (C := RX1) (T := TX1) (N := 7) hx hb hts k5 hown hK hP (jk + 15) (fk_tl hqk) rfl 3 (by decide) (va_Nw.use rfl k10) (fun _ h9 => h9) rfl dX0_toRawScale_21 ?_
  refine fk_cv hD hS hA (va_runVN (As := [.long dn]) (rest := []) ⟨hx, hb, hml, hown, hts⟩ (kX2_scale _ _ (ad 4) (ad 5) 4 5 g2 dn ((a) + (b) * (-of.toInt)) rfl rfl hRg2 (by omega)) ⟨va_cnB 1 hts gX0_toRawScale_X2_scale_n35 rfl rfl rfl k11 k7 (by decide +kernel) ⟨Nat.le_of_ble_eq_true rfl, Nat.le_of_ble_eq_true rfl⟩, k12, k13⟩ (fk_preV 4 3 hK hN hP hD rfl rfl) rfl rfl hl.1 rfl (lv_room (Nat.le_of_ble_eq_true rfl)) dX0_toRawScale_24 ⟨Nat.le_of_ble_eq_true rfl, Nat.le_of_ble_eq_true rfl⟩) (fun g4 H locs hw hP hD hS => ?_)
  have hP : va_P D vwCl (fk_wx cJ cC cK ad kd kc lo ch ts g4 f2 f3 f4 f5 ++ tl) H := hP
  have hD : va_D A (fk_wx cJ cC cK ad kd kc lo ch ts g4 f2 f3 f4 f5 ++ tl) := hD
  have hRg4 := hw
  refine lv_aload_n hx hb dX0_toRawScale_27 rfl (lv_at hl 0 rfl) ?_
  refine va_get (D := D) (ci := 1) (v := .ref (ad 6)) (C := RX0) (T := TX0) (N := 2) hx hb hts k2 hown hK hP 3 rfl rfl 1 (by decide) k3 (fun _ h9 => h9) rfl dX0_toRawScale_28 ?_
  refine lv_aload_n hx hb dX0_toRawScale_31 rfl (lv_at hl 1 rfl) ?_
  refine va_getN (D := D) (ci := 2) (v := .long up) (C := RX1) (T := TX1) (N := 7) hx hb hts k5 hown hK hP (jk + 15) (fk_tl hqk) rfl 2 (by decide) (va_Nw.use rfl k14) (fun _ h9 => h9) rfl dX0_toRawScale_32 ?_
  refine fk_cv hD hS hA (va_runVN (As := [.long up]) (rest := []) ⟨hx, hb, hml, hown, hts⟩ (kX2_scale _ _ (ad 6) (ad 7) 6 7 f2 up (b) rfl rfl hRb (by omega)) ⟨va_cnB 1 hts gX0_toRawScale_X2_scale_n35 rfl rfl rfl k11 k7 (by decide +kernel) ⟨Nat.le_of_ble_eq_true rfl, Nat.le_of_ble_eq_true rfl⟩, k12, k13⟩ (fk_preV 6 3 hK hN hP hD rfl rfl) rfl rfl hl.1 rfl (lv_room (Nat.le_of_ble_eq_true rfl)) dX0_toRawScale_35 ⟨Nat.le_of_ble_eq_true rfl, Nat.le_of_ble_eq_true rfl⟩) (fun g6 H locs hw hP hD hS => ?_)
  have hP : va_P D vwCl (fk_wx cJ cC cK ad kd kc lo ch ts g4 g6 f3 f4 f5 ++ tl) H := hP
  have hD : va_D A (fk_wx cJ cC cK ad kd kc lo ch ts g4 g6 f3 f4 f5 ++ tl) := hD
  have hRg6 := hw
  rw [hQQ]
  exact W.vret hx hb hr (fun t ht hW => ⟨⟨(g4, g6), rfl, ⟨hRg4, hRg6⟩, by rw [ht]; exact hP, va_K.moved hW.alike hK, hD⟩, hS.F ht⟩) hS.2.2 dX0_toRawScale_38
