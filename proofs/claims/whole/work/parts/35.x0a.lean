/-! Fraction: take, sign, by program -/
abbrev rmX0_take : Room := { frames := 1, cells := 0, slots := 0, locals := 25 }
set_option maxHeartbeats 4000000 in
set_option maxRecDepth 100000 in
/-- Fraction.take -/
theorem kX0_take {l : Launch} {D : va_G} {cJ cC cI cZ cK : ClassId} (sz : Nat) (ws : va_W) (h0 h1 h2 h3 h4 q0 q1 q2 q3 q4 : Nat) (fa fb : Nat → Int64) (hk qk w : Nat) (sg ov rd : Int32) (up dn of : Int64) (v : Int64) (hq0 : ws[q0]? = some (h0, .inr (1, [.ref h1, .ref h3]))) (hq1 : ws[q1]? = some (h1, .inr (3, [.ref h2]))) (hq2 : ws[q2]? = some (h2, .inl (cJ, 12, .inr (.inl fa)))) (hq3 : ws[q3]? = some (h3, .inr (3, [.ref h4]))) (hq4 : ws[q4]? = some (h4, .inl (cJ, 12, .inr (.inl fb)))) (hqk : ws[qk]? = some (hk, .inr (2, [.int (nI w), .int sg, .long up, .long dn, .long of, .int ov, .int rd]))) (hkd : fk_kd w sg up dn of) (hn_q2_q4 : q2 ≠ q4) : Met l yX0_take wsX0_take rmX0_take (va_Pc [.ref h0, .ref hk, .long v] (fk_pre D (fk_ty cJ cC cI cZ cK) ws sz)) (va_Qv (fun u : (Nat → Int64) × (Nat → Int64) => fk_R (fk_vn w sg up dn of v) u.1 ∧ fk_R dn.toInt u.2) (fk_Bd D (fk_ty cJ cC cI cZ cK) (va_A ws sz) (fun u : (Nat → Int64) × (Nat → Int64) => (ws.set q2 (h2, .inl (cJ, 12, .inr (.inl u.1)))).set q4 (h4, .inl (cJ, 12, .inr (.inl u.2))))) (va_A ws sz)) 0 0 (va_A ws sz) := by
  refine fk_ofW cX0_take 4 none (fun A => va_Qv (fun u : (Nat → Int64) × (Nat → Int64) => fk_R (fk_vn w sg up dn of v) u.1 ∧ fk_R dn.toInt u.2) (fk_Bd D (fk_ty cJ cC cI cZ cK) A (fun u : (Nat → Int64) × (Nat → Int64) => (ws.set q2 (h2, .inl (cJ, 12, .inr (.inl u.1)))).set q4 (h4, .inl (cJ, 12, .inr (.inl u.2))))) A) rfl (by decide) (Nat.le_of_ble_eq_true rfl) ?_
  intro p e s m below meth c A ls args QQ hQQ hAt hP hK hN hD hA hS hl
  obtain ⟨⟨hx, hb, hml, hown, hts⟩, hr, hlocks, hin⟩ := hAt
  have hl : lv_has ls 4 [(0, .ref h0), (1, .ref hk), (2, .long v)] := hl
  have k1 := hts (.fieldLink RX0 12 "FixedKinds$Fraction" "above" "LFixedKinds$Whole;") (by decide +kernel)
  have k2 := (by decide +kernel : ∀ w ∈ u_ws RX0 TX0 2, w ∈ wsX0_take)
  have k3 := hN _ fkn_X0_21
  have k4 := hts (.initialized RX1) (by decide +kernel)
  have k5 := hts (.instanceMethod yX1_broughtIn) (by decide +kernel)
  have k6 := hts (.selects RX1 yX1_broughtIn yX1_broughtIn) (by decide +kernel)
  have k7 := hN _ fkn_X0_27
  have k8 := hts (.initialized RX2) (by decide +kernel)
  have k9 := hts (.instanceMethod yX2_setTo) (by decide +kernel)
  have k10 := hts (.selects RX2 yX2_setTo yX2_setTo) (by decide +kernel)
  have k11 := hN _ fkn_X0_31
  have k12 := (by decide +kernel : ∀ w ∈ u_ws RX1 TX1 7, w ∈ wsX0_take)
  have k13 := hN _ fkn_X0_35
  have k14 := hts (.instanceMethod yX2_scale) (by decide +kernel)
  have k15 := hts (.selects RX2 yX2_scale yX2_scale) (by decide +kernel)
  have k16 := hN _ fkn_X0_38
  have k17 := hN _ fkn_X0_41
  have k18 := hN _ fkn_X0_44
  have k19 := hts (.instanceMethod yX2_grow) (by decide +kernel)
  have k20 := hts (.selects RX2 yX2_grow yX2_grow) (by decide +kernel)
  have k21 := hts (.fieldLink RX0 18 "FixedKinds$Fraction" "below" "LFixedKinds$Whole;") (by decide +kernel)
  have hn_q2_q0 : q2 ≠ q0 := fk_neA hq0 hq2
  have hn_q4_q0 : q4 ≠ q0 := fk_neA hq0 hq4
  have hn_q2_q1 : q2 ≠ q1 := fk_neA hq1 hq2
  have hn_q4_q1 : q4 ≠ q1 := fk_neA hq1 hq4
  have hn_q2_q3 : q2 ≠ q3 := fk_neA hq3 hq2
  have hn_q4_q3 : q4 ≠ q3 := fk_neA hq3 hq4
  have hn_q2_qk : q2 ≠ qk := fk_neA hqk hq2
  have hn_q4_qk : q4 ≠ qk := fk_neA hqk hq4
  have hn_q4_q2 : q4 ≠ q2 := Ne.symm hn_q2_q4
  obtain ⟨hwd, hu0, hd0, ho0⟩ := id hkd
  have hw0 : ws = ((ws.set q2 (h2, .inl (cJ, 12, .inr (.inl fa)))).set q4 (h4, .inl (cJ, 12, .inr (.inl fb)))) := by rw [fk_s0 hq2, fk_s0 hq4]
  rw [hw0] at hP hD
  refine lv_aload_n hx hb dX0_take_0 rfl (lv_at hl 0 rfl) ?_
  refine va_get (D := D) (ci := 1) (v := .ref h1) (C := RX0) (T := TX0) (N := 2) hx hb hts k2 hown hK hP q0 (fk_sn (fk_sn hq0 hn_q2_q0) hn_q4_q0) rfl 0 (by decide) k1 (fun _ h9 => h9) rfl dX0_take_1 ?_
  refine lv_aload_n hx hb dX0_take_4 rfl (lv_at hl 1 rfl) ?_
  refine lv_lload_n hx hb dX0_take_5 rfl (lv_at hl 2 rfl) ?_
  refine fk_cl hD hS hA (va_runVN (As := [.long v]) (rest := [.ref h1]) ⟨hx, hb, hml, hown, hts⟩ (kX1_broughtIn _ _ hk qk w sg ov rd up dn of v (fk_sn (fk_sn hqk hn_q2_qk) hn_q4_qk) hkd.1) ⟨va_cnB 1 hts gX0_take_X1_broughtIn_n21 rfl rfl rfl k3 k4 (by decide +kernel) ⟨Nat.le_of_ble_eq_true rfl, Nat.le_of_ble_eq_true rfl⟩, k5, k6⟩ (fk_preV qk 2 hK hN hP hD rfl (fk_sn (fk_sn hqk hn_q2_qk) hn_q4_qk)) rfl rfl hl.1 rfl (lv_room (Nat.le_of_ble_eq_true rfl)) dX0_take_6 ⟨Nat.le_of_ble_eq_true rfl, Nat.le_of_ble_eq_true rfl⟩) (fun r1 u H locs hw hP hD hS => ?_)
  have hP : va_P D vwCl ((ws.set q2 (h2, .inl (cJ, 12, .inr (.inl fa)))).set q4 (h4, .inl (cJ, 12, .inr (.inl fb)))) H := hP
  have hD : va_D A ((ws.set q2 (h2, .inl (cJ, 12, .inr (.inl fa)))).set q4 (h4, .inl (cJ, 12, .inr (.inl fb)))) := hD
  have hbr := hw
  refine fk_cv hD hS hA (va_runVN (As := [.long r1]) (rest := []) ⟨hx, hb, hml, hown, hts⟩ (kX2_setTo _ _ h1 h2 q1 q2 fa r1 (fk_sn (fk_sn hq1 hn_q2_q1) hn_q4_q1) (fk_sn (fk_ss hq2) hn_q4_q2)) ⟨va_cnB 1 hts gX0_take_X2_setTo_n27 rfl rfl rfl k7 k8 (by decide +kernel) ⟨Nat.le_of_ble_eq_true rfl, Nat.le_of_ble_eq_true rfl⟩, k9, k10⟩ (fk_preV q1 3 hK hN hP hD rfl (fk_sn (fk_sn hq1 hn_q2_q1) hn_q4_q1)) rfl rfl hl.1 rfl (lv_room (Nat.le_of_ble_eq_true rfl)) dX0_take_9 ⟨Nat.le_of_ble_eq_true rfl, Nat.le_of_ble_eq_true rfl⟩) (fun g1 H locs hw hP hD hS => ?_)
  rw [fk_s3 hn_q2_q4] at hP hD
  have hP : va_P D vwCl ((ws.set q2 (h2, .inl (cJ, 12, .inr (.inl g1)))).set q4 (h4, .inl (cJ, 12, .inr (.inl fb)))) H := hP
  have hD : va_D A ((ws.set q2 (h2, .inl (cJ, 12, .inr (.inl g1)))).set q4 (h4, .inl (cJ, 12, .inr (.inl fb)))) := hD
  rw [hbr] at hw
  have hR1 := hw
  refine lv_aload_n hx hb dX0_take_12 rfl (lv_at hl 0 rfl) ?_
  refine va_get (D := D) (ci := 1) (v := .ref h1) (C := RX0) (T := TX0) (N := 2) hx hb hts k2 hown hK hP q0 (fk_sn (fk_sn hq0 hn_q2_q0) hn_q4_q0) rfl 0 (by decide) k1 (fun _ h9 => h9) rfl dX0_take_13 ?_
  refine lv_aload_n hx hb dX0_take_16 rfl (lv_at hl 1 rfl) ?_
  refine va_getN (D := D) (ci := 2) (v := .long up) (C := RX1) (T := TX1) (N := 7) hx hb hts k12 hown hK hP qk (fk_sn (fk_sn hqk hn_q2_qk) hn_q4_qk) rfl 2 (by decide) (va_Nw.use rfl k11) (fun _ h9 => h9) rfl dX0_take_17 ?_
  refine fk_cv hD hS hA (va_runVN (As := [.long up]) (rest := []) ⟨hx, hb, hml, hown, hts⟩ (kX2_scale _ _ h1 h2 q1 q2 g1 up _ (fk_sn (fk_sn hq1 hn_q2_q1) hn_q4_q1) (fk_sn (fk_ss hq2) hn_q4_q2) hR1 (by omega)) ⟨va_cnB 1 hts gX0_take_X2_scale_n35 rfl rfl rfl k13 k8 (by decide +kernel) ⟨Nat.le_of_ble_eq_true rfl, Nat.le_of_ble_eq_true rfl⟩, k14, k15⟩ (fk_preV q1 3 hK hN hP hD rfl (fk_sn (fk_sn hq1 hn_q2_q1) hn_q4_q1)) rfl rfl hl.1 rfl (lv_room (Nat.le_of_ble_eq_true rfl)) dX0_take_20 ⟨Nat.le_of_ble_eq_true rfl, Nat.le_of_ble_eq_true rfl⟩) (fun g2 H locs hw hP hD hS => ?_)
  rw [fk_s3 hn_q2_q4] at hP hD
  have hP : va_P D vwCl ((ws.set q2 (h2, .inl (cJ, 12, .inr (.inl g2)))).set q4 (h4, .inl (cJ, 12, .inr (.inl fb)))) H := hP
  have hD : va_D A ((ws.set q2 (h2, .inl (cJ, 12, .inr (.inl g2)))).set q4 (h4, .inl (cJ, 12, .inr (.inl fb)))) := hD
  have hR2 := hw
  refine lv_aload_n hx hb dX0_take_23 rfl (lv_at hl 0 rfl) ?_
  refine va_get (D := D) (ci := 1) (v := .ref h1) (C := RX0) (T := TX0) (N := 2) hx hb hts k2 hown hK hP q0 (fk_sn (fk_sn hq0 hn_q2_q0) hn_q4_q0) rfl 0 (by decide) k1 (fun _ h9 => h9) rfl dX0_take_24 ?_
  refine lv_aload_n hx hb dX0_take_27 rfl (lv_at hl 1 rfl) ?_
  refine va_getN (D := D) (ci := 2) (v := .long of) (C := RX1) (T := TX1) (N := 7) hx hb hts k12 hown hK hP qk (fk_sn (fk_sn hqk hn_q2_qk) hn_q4_qk) rfl 4 (by decide) (va_Nw.use rfl k16) (fun _ h9 => h9) rfl dX0_take_28 ?_
  refine lv_aload_n hx hb dX0_take_31 rfl (lv_at hl 1 rfl) ?_
  refine va_getN (D := D) (ci := 2) (v := .long dn) (C := RX1) (T := TX1) (N := 7) hx hb hts k12 hown hK hP qk (fk_sn (fk_sn hqk hn_q2_qk) hn_q4_qk) rfl 3 (by decide) (va_Nw.use rfl k17) (fun _ h9 => h9) rfl dX0_take_32 ?_
  refine lv_lmul hx hb dX0_take_35 ?_
  refine lv_topl (fun x4 ex4 => ?_)
  have hm := fk_pbd (a := of.toInt) (b := dn.toInt) (A := 1000000) (B := 1000) (by omega) (by omega) (by omega) (by omega) (by omega)
  have hof : x4.toInt = of.toInt * dn.toInt := by rw [ex4]; exact fk_mul (by omega) (by omega)
  refine fk_cv hD hS hA (va_runVN (As := [.long x4]) (rest := []) ⟨hx, hb, hml, hown, hts⟩ (kX2_grow _ _ h1 h2 q1 q2 g2 x4 _ (fk_sn (fk_sn hq1 hn_q2_q1) hn_q4_q1) (fk_sn (fk_ss hq2) hn_q4_q2) (fk_R_F hR2) (fk_R_T hR2) (by omega)) ⟨va_cnB 1 hts gX0_take_X2_grow_n44 rfl rfl rfl k18 k8 (by decide +kernel) ⟨Nat.le_of_ble_eq_true rfl, Nat.le_of_ble_eq_true rfl⟩, k19, k20⟩ (fk_preV q1 3 hK hN hP hD rfl (fk_sn (fk_sn hq1 hn_q2_q1) hn_q4_q1)) rfl rfl hl.1 rfl (lv_room (Nat.le_of_ble_eq_true rfl)) dX0_take_36 ⟨Nat.le_of_ble_eq_true rfl, Nat.le_of_ble_eq_true rfl⟩) (fun g3 H locs hw hP hD hS => ?_)
  rw [fk_s3 hn_q2_q4] at hP hD
  have hP : va_P D vwCl ((ws.set q2 (h2, .inl (cJ, 12, .inr (.inl g3)))).set q4 (h4, .inl (cJ, 12, .inr (.inl fb)))) H := hP
  have hD : va_D A ((ws.set q2 (h2, .inl (cJ, 12, .inr (.inl g3)))).set q4 (h4, .inl (cJ, 12, .inr (.inl fb)))) := hD
  rw [hof] at hw
  have hR3 := hw
  refine lv_aload_n hx hb dX0_take_39 rfl (lv_at hl 0 rfl) ?_
  refine va_get (D := D) (ci := 1) (v := .ref h3) (C := RX0) (T := TX0) (N := 2) hx hb hts k2 hown hK hP q0 (fk_sn (fk_sn hq0 hn_q2_q0) hn_q4_q0) rfl 1 (by decide) k21 (fun _ h9 => h9) rfl dX0_take_40 ?_
  refine lv_aload_n hx hb dX0_take_43 rfl (lv_at hl 1 rfl) ?_
  refine va_getN (D := D) (ci := 2) (v := .long dn) (C := RX1) (T := TX1) (N := 7) hx hb hts k12 hown hK hP qk (fk_sn (fk_sn hqk hn_q2_qk) hn_q4_qk) rfl 3 (by decide) (va_Nw.use rfl k17) (fun _ h9 => h9) rfl dX0_take_44 ?_
  refine fk_cv hD hS hA (va_runVN (As := [.long dn]) (rest := []) ⟨hx, hb, hml, hown, hts⟩ (kX2_setTo _ _ h3 h4 q3 q4 fb dn (fk_sn (fk_sn hq3 hn_q2_q3) hn_q4_q3) (fk_ss (fk_sn hq4 hn_q2_q4))) ⟨va_cnB 1 hts gX0_take_X2_setTo_n27 rfl rfl rfl k7 k8 (by decide +kernel) ⟨Nat.le_of_ble_eq_true rfl, Nat.le_of_ble_eq_true rfl⟩, k9, k10⟩ (fk_preV q3 3 hK hN hP hD rfl (fk_sn (fk_sn hq3 hn_q2_q3) hn_q4_q3)) rfl rfl hl.1 rfl (lv_room (Nat.le_of_ble_eq_true rfl)) dX0_take_47 ⟨Nat.le_of_ble_eq_true rfl, Nat.le_of_ble_eq_true rfl⟩) (fun g4 H locs hw hP hD hS => ?_)
  rw [fk_s2] at hP hD
  have hP : va_P D vwCl ((ws.set q2 (h2, .inl (cJ, 12, .inr (.inl g3)))).set q4 (h4, .inl (cJ, 12, .inr (.inl g4)))) H := hP
  have hD : va_D A ((ws.set q2 (h2, .inl (cJ, 12, .inr (.inl g3)))).set q4 (h4, .inl (cJ, 12, .inr (.inl g4)))) := hD
  have hR4 := hw
  rw [hQQ]
  exact W.vret hx hb hr (fun t ht hW => ⟨⟨(g3, g4), rfl, ⟨hR3, hR4⟩, by rw [ht]; exact hP, va_K.moved hW.alike hK, hD⟩, hS.F ht⟩) hS.2.2 dX0_take_50
abbrev rmX0_sign : Room := { frames := 2, cells := 0, slots := 0, locals := 41 }
set_option maxHeartbeats 4000000 in
set_option maxRecDepth 100000 in
/-- Fraction.sign -/
theorem kX0_sign {l : Launch} {D : va_G} {cJ cC cI cZ cK : ClassId} (sz : Nat) (ws : va_W) (h0 h1 h2 h3 h4 q0 q1 q2 q3 q4 : Nat) (fa fb : Nat → Int64) (a : Int) (hq0 : ws[q0]? = some (h0, .inr (1, [.ref h1, .ref h3]))) (hq1 : ws[q1]? = some (h1, .inr (3, [.ref h2]))) (hq2 : ws[q2]? = some (h2, .inl (cJ, 12, .inr (.inl fa)))) (hR : fk_R a fa) (hI : fk_In a) : Met l yX0_sign wsX0_sign rmX0_sign (va_Pc [.ref h0] (fk_pre D (fk_ty cJ cC cI cZ cK) ws sz)) (va_Qi (fun (r : Int32) (_ : Unit) => r = if a = 0 then 0 else if a < 0 then -1 else 1) (fk_Bd D (fk_ty cJ cC cI cZ cK) (va_A ws sz) (fun _ : Unit => ws)) (va_A ws sz)) 0 0 (va_A ws sz) := by
  refine fk_ofW cX0_sign 1 (some .int) (fun A => va_Qi (fun (r : Int32) (_ : Unit) => r = if a = 0 then 0 else if a < 0 then -1 else 1) (fk_Bd D (fk_ty cJ cC cI cZ cK) A (fun _ : Unit => ws)) A) rfl (by decide) (Nat.le_of_ble_eq_true rfl) ?_
  intro p e s m below meth c A ls args QQ hQQ hAt hP hK hN hD hA hS hl
  obtain ⟨⟨hx, hb, hml, hown, hts⟩, hr, hlocks, hin⟩ := hAt
  have hl : lv_has ls 1 [(0, .ref h0)] := hl
  have k1 := hts (.fieldLink RX0 12 "FixedKinds$Fraction" "above" "LFixedKinds$Whole;") (by decide +kernel)
  have k2 := (by decide +kernel : ∀ w ∈ u_ws RX0 TX0 2, w ∈ wsX0_sign)
  have k3 := hN _ fkn_X0_47
  have k4 := hts (.initialized RX2) (by decide +kernel)
  have k5 := hts (.instanceMethod yX2_isZero) (by decide +kernel)
  have k6 := hts (.selects RX2 yX2_isZero yX2_isZero) (by decide +kernel)
  have k7 := hN _ fkn_X0_51
  have k8 := hts (.instanceMethod yX2_isNegative) (by decide +kernel)
  have k9 := hts (.selects RX2 yX2_isNegative yX2_isNegative) (by decide +kernel)
  refine lv_aload_n hx hb dX0_sign_0 rfl (lv_at hl 0 rfl) ?_
  refine va_get (D := D) (ci := 1) (v := .ref h1) (C := RX0) (T := TX0) (N := 2) hx hb hts k2 hown hK hP q0 hq0 rfl 0 (by decide) k1 (fun _ h9 => h9) rfl dX0_sign_1 ?_
  refine fk_ci hD hS hA (va_runVN (As := []) (rest := []) ⟨hx, hb, hml, hown, hts⟩ (kX2_isZero _ _ h1 h2 q1 q2 fa a hq1 hq2 hR hI) ⟨va_cnB 0 hts gX0_sign_X2_isZero_n47 rfl rfl rfl k3 k4 (by decide +kernel) ⟨Nat.le_of_ble_eq_true rfl, Nat.le_of_ble_eq_true rfl⟩, k5, k6⟩ (fk_preV q1 3 hK hN hP hD rfl hq1) rfl rfl hl.1 rfl (lv_room (Nat.le_of_ble_eq_true rfl)) dX0_sign_4 ⟨Nat.le_of_ble_eq_true rfl, Nat.le_of_ble_eq_true rfl⟩) (fun r1 u H locs hw hP hD hS => ?_)
  have hP : va_P D vwCl ws H := hP
  have hD : va_D A ws := hD
  have z1 := hw
  refine lv_if_eq (tgt := 12) hx hb dX0_sign_7 (by decide) (fun c_7 => ?_) (fun c_7 => ?_)
  · have a0 : ¬ a = 0 := by intro q; rw [z1, if_pos q] at c_7; exact absurd c_7 (by decide)
    refine lv_aload_n hx hb dX0_sign_12 rfl (lv_at hl 0 rfl) ?_
    refine va_get (D := D) (ci := 1) (v := .ref h1) (C := RX0) (T := TX0) (N := 2) hx hb hts k2 hown hK hP q0 hq0 rfl 0 (by decide) k1 (fun _ h9 => h9) rfl dX0_sign_13 ?_
    refine fk_ci hD hS hA (va_runVN (As := []) (rest := []) ⟨hx, hb, hml, hown, hts⟩ (kX2_isNegative _ _ h1 h2 q1 q2 fa a hq1 hq2 hR hI) ⟨va_cnB 0 hts gX0_sign_X2_isNegative_n51 rfl rfl rfl k7 k4 (by decide +kernel) ⟨Nat.le_of_ble_eq_true rfl, Nat.le_of_ble_eq_true rfl⟩, k8, k9⟩ (fk_preV q1 3 hK hN hP hD rfl hq1) rfl rfl hl.1 rfl (lv_room (Nat.le_of_ble_eq_true rfl)) dX0_sign_16 ⟨Nat.le_of_ble_eq_true rfl, Nat.le_of_ble_eq_true rfl⟩) (fun r2 u H locs hw hP hD hS => ?_)
    have hP : va_P D vwCl ws H := hP
    have hD : va_D A ws := hD
    have z2 := hw
    refine lv_if_eq (tgt := 26) hx hb dX0_sign_19 (by decide) (fun c_19 => ?_) (fun c_19 => ?_)
    · have a1 : ¬ a < 0 := by intro q; rw [z2, if_pos q] at c_19; exact absurd c_19 (by decide)
      refine lv_iconst (v := 1) hx hb dX0_sign_26 (by decide) ?_
      rw [hQQ]
      exact W.iret (v := 1) hx hb hr (fun t ht hW => ⟨⟨1, (), rfl, (by rw [if_neg a0, if_neg a1]), by rw [ht]; exact hP, va_K.moved hW.alike hK, hD⟩, hS.F ht⟩) hS.2.2 dX0_sign_27
    · have a1 : a < 0 := by by_cases q : a < 0; exact q; rw [z2, if_neg q] at c_19; exact absurd rfl c_19
      refine lv_iconst (v := (-1)) hx hb dX0_sign_22 (by decide) ?_
      refine lv_goto (tgt := 27) hx hb dX0_sign_23 (by decide) ?_
      rw [hQQ]
      exact W.iret (v := (-1)) hx hb hr (fun t ht hW => ⟨⟨(-1), (), rfl, (by rw [if_neg a0, if_pos a1]), by rw [ht]; exact hP, va_K.moved hW.alike hK, hD⟩, hS.F ht⟩) hS.2.2 dX0_sign_27
  · have a0 : a = 0 := by by_cases q : a = 0; exact q; rw [z1, if_neg q] at c_7; exact absurd rfl c_7
    refine lv_iconst (v := 0) hx hb dX0_sign_10 (by decide) ?_
    rw [hQQ]
    exact W.iret (v := 0) hx hb hr (fun t ht hW => ⟨⟨0, (), rfl, (by rw [if_pos a0]), by rw [ht]; exact hP, va_K.moved hW.alike hK, hD⟩, hS.F ht⟩) hS.2.2 dX0_sign_11
