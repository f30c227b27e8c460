/-! FixedKinds: beyond, put, by program -/
abbrev rmX3_beyond : Room := { frames := 2, cells := 0, slots := 0, locals := 45 }
set_option maxHeartbeats 4000000 in
set_option maxRecDepth 100000 in
/-- beyond -/
theorem kX3_beyond {l : Launch} {D : va_G} {cJ cC cI cZ cK : ClassId} (sz : Nat) (ad : Nat → Nat) (tl : va_W) (kd : Nat → Option Nat) (kc lo : Int32) (ch : Nat → Int32) (ts : Int32) (f1 f2 f3 f4 f5 : Nat → Int64) (hk jk w : Nat) (sg ov rd : Int32) (up dn of : Int64) (x : Int) (hqk : tl[jk]? = some (hk, .inr (2, [.int (nI w), .int sg, .long up, .long dn, .long of, .int ov, .int rd]))) (hkd : fk_kd w sg up dn of) (hRx : fk_R x f5) (hI : fk_In x) (hov : ov = 0 ∨ ov = 1 ∨ ov = 2) : Met l yX3_beyond wsX3_beyond rmX3_beyond (va_Pc [.ref (ad 0), .ref hk] (fk_pre D (fk_ty cJ cC cI cZ cK) (fk_wx cJ cC cK ad kd kc lo ch ts f1 f2 f3 f4 f5 ++ tl) sz)) (va_Ql (fun (r : Int64) (_ : Unit) => r.toInt = fk_by w sg ov x) (fk_Bd D (fk_ty cJ cC cI cZ cK) (va_A (fk_wx cJ cC cK ad kd kc lo ch ts f1 f2 f3 f4 f5 ++ tl) sz) (fun _ : Unit => fk_wx cJ cC cK ad kd kc lo ch ts f1 f2 f3 f4 f5 ++ tl)) (va_A (fk_wx cJ cC cK ad kd kc lo ch ts f1 f2 f3 f4 f5 ++ tl) sz)) 0 0 (va_A (fk_wx cJ cC cK ad kd kc lo ch ts f1 f2 f3 f4 f5 ++ tl) sz) := by
  refine fk_ofW cX3_beyond 2 (some .long) (fun A => va_Ql (fun (r : Int64) (_ : Unit) => r.toInt = fk_by w sg ov x) (fk_Bd D (fk_ty cJ cC cI cZ cK) A (fun _ : Unit => fk_wx cJ cC cK ad kd kc lo ch ts f1 f2 f3 f4 f5 ++ tl)) A) rfl (by decide) (Nat.le_of_ble_eq_true rfl) ?_
  intro p e s m below meth c A ls args QQ hQQ hAt hP hK hN hD hA hS hl
  obtain ⟨⟨hx, hb, hml, hown, hts⟩, hr, hlocks, hin⟩ := hAt
  have hl : lv_has ls 2 [(0, .ref (ad 0)), (1, .ref hk)] := hl
  have k1 := hN _ fkn_X3_66
  have k2 := (by decide +kernel : ∀ w ∈ u_ws RX1 TX1 7, w ∈ wsX3_beyond)
  have k3 := hts (.fieldLink RX3 43 "FixedKinds" "result" "LFixedKinds$Whole;") (by decide +kernel)
  have k4 := (by decide +kernel : ∀ w ∈ u_ws RX3 TX3 8, w ∈ wsX3_beyond)
  have k5 := hN _ fkn_X3_114
  have k6 := hts (.initialized RX2) (by decide +kernel)
  have k7 := hts (.instanceMethod yX2_isNegative) (by decide +kernel)
  have k8 := hts (.selects RX2 yX2_isNegative yX2_isNegative) (by decide +kernel)
  have k9 := hN _ fkn_X3_144
  have k10 := hts (.initialized RX1) (by decide +kernel)
  have k11 := hts (.instanceMethod yX1_greatest) (by decide +kernel)
  have k12 := hts (.selects RX1 yX1_greatest yX1_greatest) (by decide +kernel)
  have k13 := hN _ fkn_X3_140
  have k14 := hts (.instanceMethod yX1_least) (by decide +kernel)
  have k15 := hts (.selects RX1 yX1_least yX1_least) (by decide +kernel)
  have k16 := hN _ fkn_X3_108
  have k17 := hts (.instanceMethod yX2_bitsFrom) (by decide +kernel)
  have k18 := hts (.selects RX2 yX2_bitsFrom yX2_bitsFrom) (by decide +kernel)
  have k19 := hN _ fkn_X3_193
  have k20 := hts (.instanceMethod yX1_broughtIn) (by decide +kernel)
  have k21 := hts (.selects RX1 yX1_broughtIn yX1_broughtIn) (by decide +kernel)
  refine lv_aload_n hx hb dX3_beyond_0 rfl (lv_at hl 1 rfl) ?_
  refine va_getN (D := D) (ci := 2) (v := .int ov) (C := RX1) (T := TX1) (N := 7) hx hb hts k2 hown hK hP (jk + 15) (fk_tl hqk) rfl 5 (by decide) (va_Nw.use rfl k1) (fun _ h9 => h9) rfl dX3_beyond_1 ?_
  rcases hov with q | q | q
  · subst q
    refine lv_lookup (tgt := 32) (off := 28) hx hb dX3_beyond_4 (by decide) (by decide) (by decide) ?_
    refine lv_aload_n hx hb dX3_beyond_32 rfl (lv_at hl 0 rfl) ?_
    refine va_get (D := D) (ci := 4) (v := .ref (ad 13)) (C := RX3) (T := TX3) (N := 8) hx hb hts k4 hown hK hP 0 rfl rfl 7 (by decide) k3 (fun _ h9 => h9) rfl dX3_beyond_33 ?_
    refine fk_ci hD hS hA (va_runVN (As := []) (rest := []) ⟨hx, hb, hml, hown, hts⟩ (kX2_isNegative _ _ (ad 13) (ad 14) 13 14 f5 (x) rfl rfl hRx hI) ⟨va_cnB 0 hts gX3_beyond_X2_isNegative_n114 rfl rfl rfl k5 k6 (by decide +kernel) ⟨Nat.le_of_ble_eq_true rfl, Nat.le_of_ble_eq_true rfl⟩, k7, k8⟩ (fk_preV 13 3 hK hN hP hD rfl rfl) rfl rfl hl.1 rfl (lv_room (Nat.le_of_ble_eq_true rfl)) dX3_beyond_36 ⟨Nat.le_of_ble_eq_true rfl, Nat.le_of_ble_eq_true rfl⟩) (fun r1 u H locs hw hP hD hS => ?_)
    have hP : va_P D vwCl (fk_wx cJ cC cK ad kd kc lo ch ts f1 f2 f3 f4 f5 ++ tl) H := hP
    have hD : va_D A (fk_wx cJ cC cK ad kd kc lo ch ts f1 f2 f3 f4 f5 ++ tl) := hD
    have z := hw
    refine lv_if_eq (tgt := 49) hx hb dX3_beyond_39 (by decide) (fun c_39 => ?_) (fun c_39 => ?_)
    · have p_c_39 : ¬ (x < 0) := by intro q; rw [z, if_pos q] at c_39; exact absurd c_39 (by decide)
      refine lv_aload_n hx hb dX3_beyond_49 rfl (lv_at hl 1 rfl) ?_
      refine fk_cl hD hS hA (va_runVN (As := []) (rest := []) ⟨hx, hb, hml, hown, hts⟩ (kX1_greatest _ _ hk (jk + 15) w sg 0 rd up dn of (fk_tl hqk) hkd.1) ⟨va_cnB 0 hts gX3_beyond_X1_greatest_n144 rfl rfl rfl k9 k10 (by decide +kernel) ⟨Nat.le_of_ble_eq_true rfl, Nat.le_of_ble_eq_true rfl⟩, k11, k12⟩ (fk_preV (jk + 15) 2 hK hN hP hD rfl (fk_tl hqk)) rfl rfl hl.1 rfl (lv_room (Nat.le_of_ble_eq_true rfl)) dX3_beyond_50 ⟨Nat.le_of_ble_eq_true rfl, Nat.le_of_ble_eq_true rfl⟩) (fun r2 u H locs hw hP hD hS => ?_)
      have hP : va_P D vwCl (fk_wx cJ cC cK ad kd kc lo ch ts f1 f2 f3 f4 f5 ++ tl) H := hP
      have hD : va_D A (fk_wx cJ cC cK ad kd kc lo ch ts f1 f2 f3 f4 f5 ++ tl) := hD
      rw [hQQ]
      exact W.lret (v := r2) hx hb hr (fun t ht hW => ⟨⟨r2, (), rfl, hw.trans (by rw [fk_by, if_pos rfl, if_neg p_c_39]), by rw [ht]; exact hP, va_K.moved hW.alike hK, hD⟩, hS.F ht⟩) hS.2.2 dX3_beyond_53
    · have p_c_39 : x < 0 := by by_cases q : x < 0; exact q; rw [z, if_neg q] at c_39; exact absurd rfl c_39
      refine lv_aload_n hx hb dX3_beyond_42 rfl (lv_at hl 1 rfl) ?_
      refine fk_cl hD hS hA (va_runVN (As := []) (rest := []) ⟨hx, hb, hml, hown, hts⟩ (kX1_least _ _ hk (jk + 15) w sg 0 rd up dn of (fk_tl hqk) hkd.1) ⟨va_cnB 0 hts gX3_beyond_X1_least_n140 rfl rfl rfl k13 k10 (by decide +kernel) ⟨Nat.le_of_ble_eq_true rfl, Nat.le_of_ble_eq_true rfl⟩, k14, k15⟩ (fk_preV (jk + 15) 2 hK hN hP hD rfl (fk_tl hqk)) rfl rfl hl.1 rfl (lv_room (Nat.le_of_ble_eq_true rfl)) dX3_beyond_43 ⟨Nat.le_of_ble_eq_true rfl, Nat.le_of_ble_eq_true rfl⟩) (fun r3 u H locs hw hP hD hS => ?_)
      have hP : va_P D vwCl (fk_wx cJ cC cK ad kd kc lo ch ts f1 f2 f3 f4 f5 ++ tl) H := hP
      have hD : va_D A (fk_wx cJ cC cK ad kd kc lo ch ts f1 f2 f3 f4 f5 ++ tl) := hD
      refine lv_goto (tgt := 53) hx hb dX3_beyond_46 (by decide) ?_
      rw [hQQ]
      exact W.lret (v := r3) hx hb hr (fun t ht hW => ⟨⟨r3, (), rfl, hw.trans (by rw [fk_by, if_pos rfl, if_pos p_c_39]), by rw [ht]; exact hP, va_K.moved hW.alike hK, hD⟩, hS.F ht⟩) hS.2.2 dX3_beyond_53
  · subst q
    refine lv_lookup (tgt := 54) (off := 50) hx hb dX3_beyond_4 (by decide) (by decide) (by decide) ?_
    refine lv_aload_n hx hb dX3_beyond_54 rfl (lv_at hl 1 rfl) ?_
    refine lv_aload_n hx hb dX3_beyond_55 rfl (lv_at hl 0 rfl) ?_
    refine va_get (D := D) (ci := 4) (v := .ref (ad 13)) (C := RX3) (T := TX3) (N := 8) hx hb hts k4 hown hK hP 0 rfl rfl 7 (by decide) k3 (fun _ h9 => h9) rfl dX3_beyond_56 ?_
    refine lv_iconst (v := 0) hx hb dX3_beyond_59 (by decide) ?_
    refine fk_cl hD hS hA (va_runVN (As := [.int 0]) (rest := [.ref hk]) ⟨hx, hb, hml, hown, hts⟩ (kX2_bitsFrom _ _ (ad 13) (ad 14) 13 14 f5 0 (x) rfl rfl hRx (by omega)) ⟨va_cnB 1 hts gX3_beyond_X2_bitsFrom_n108 rfl rfl rfl k16 k6 (by decide +kernel) ⟨Nat.le_of_ble_eq_true rfl, Nat.le_of_ble_eq_true rfl⟩, k17, k18⟩ (fk_preV 13 3 hK hN hP hD rfl rfl) rfl rfl hl.1 rfl (lv_room (Nat.le_of_ble_eq_true rfl)) dX3_beyond_60 ⟨Nat.le_of_ble_eq_true rfl, Nat.le_of_ble_eq_true rfl⟩) (fun r4 u H locs hw hP hD hS => ?_)
    have hP : va_P D vwCl (fk_wx cJ cC cK ad kd kc lo ch ts f1 f2 f3 f4 f5 ++ tl) H := hP
    have hD : va_D A (fk_wx cJ cC cK ad kd kc lo ch ts f1 f2 f3 f4 f5 ++ tl) := hD
    have zb := hw
    refine fk_cl hD hS hA (va_runVN (As := [.long r4]) (rest := []) ⟨hx, hb, hml, hown, hts⟩ (kX1_broughtIn _ _ hk (jk + 15) w sg 1 rd up dn of r4 (fk_tl hqk) hkd.1) ⟨va_cnB 1 hts gX3_beyond_X1_broughtIn_n193 rfl rfl rfl k19 k10 (by decide +kernel) ⟨Nat.le_of_ble_eq_true rfl, Nat.le_of_ble_eq_true rfl⟩, k20, k21⟩ (fk_preV (jk + 15) 2 hK hN hP hD rfl (fk_tl hqk)) rfl rfl hl.1 rfl (lv_room (Nat.le_of_ble_eq_true rfl)) dX3_beyond_63 ⟨Nat.le_of_ble_eq_true rfl, Nat.le_of_ble_eq_true rfl⟩) (fun r5 u H locs hw hP hD hS => ?_)
    have hP : va_P D vwCl (fk_wx cJ cC cK ad kd kc lo ch ts f1 f2 f3 f4 f5 ++ tl) H := hP
    have hD : va_D A (fk_wx cJ cC cK ad kd kc lo ch ts f1 f2 f3 f4 f5 ++ tl) := hD
    rw [zb, Int.pow_zero, Int.ediv_one, fk_bring_mod hkd.1] at hw
    rw [hQQ]
    exact W.lret (v := r5) hx hb hr (fun t ht hW => ⟨⟨r5, (), rfl, hw.trans (by rw [fk_by, if_neg (by decide), if_pos rfl]), by rw [ht]; exact hP, va_K.moved hW.alike hK, hD⟩, hS.F ht⟩) hS.2.2 dX3_beyond_66
  · subst q
    refine lv_lookup (tgt := 67) (off := 63) hx hb dX3_beyond_4 (by decide) (by decide) (by decide) ?_
    refine lv_lconst (v := 0) hx hb dX3_beyond_67 (by decide) ?_
    rw [hQQ]
    exact W.lret (v := 0) hx hb hr (fun t ht hW => ⟨⟨0, (), rfl, (by rw [fk_by, if_neg (by decide), if_neg (by decide)]; decide), by rw [ht]; exact hP, va_K.moved hW.alike hK, hD⟩, hS.F ht⟩) hS.2.2 dX3_beyond_68
abbrev rmX3_put : Room := { frames := 5, cells := 0, slots := 0, locals := 119 }
set_option maxHeartbeats 4000000 in
set_option maxRecDepth 100000 in
/-- put -/
theorem kX3_put {l : Launch} {D : va_G} {cJ cC cI cZ cK : ClassId} (sz : Nat) (ad : Nat → Nat) (tl : va_W) (kd : Nat → Option Nat) (kc lo : Int32) (ch : Nat → Int32) (ts : Int32) (f1 f2 f3 f4 f5 : Nat → Int64) (hk jk w : Nat) (sg ov rd : Int32) (up dn of : Int64) (a b : Int) (hqk : tl[jk]? = some (hk, .inr (2, [.int (nI w), .int sg, .long up, .long dn, .long of, .int ov, .int rd]))) (hkd : fk_kd w sg up dn of) (hRa : fk_R a f1) (hRb : fk_R b f2) (hpB : fk_pB a b) (hov : ov = 0 ∨ ov = 1 ∨ ov = 2) : Met l yX3_put wsX3_put rmX3_put (va_Pc [.ref (ad 0), .ref hk] (fk_pre D (fk_ty cJ cC cI cZ cK) (fk_wx cJ cC cK ad kd kc lo ch ts f1 f2 f3 f4 f5 ++ tl) sz)) (va_Ql (fun (r : Int64) (u : Int32 × (Nat → Int64) × (Nat → Int64) × (Nat → Int64)) => r.toInt = fk_put w sg ov rd up dn of a b ∧ u.1 = fk_lst w sg rd up dn of a b) (fk_Bd D (fk_ty cJ cC cI cZ cK) (va_A (fk_wx cJ cC cK ad kd kc lo ch ts f1 f2 f3 f4 f5 ++ tl) sz) (fun u : Int32 × (Nat → Int64) × (Nat → Int64) × (Nat → Int64) => fk_wx cJ cC cK ad kd kc u.1 ch ts u.2.1 u.2.2.1 f3 f4 u.2.2.2 ++ tl)) (va_A (fk_wx cJ cC cK ad kd kc lo ch ts f1 f2 f3 f4 f5 ++ tl) sz)) 0 0 (va_A (fk_wx cJ cC cK ad kd kc lo ch ts f1 f2 f3 f4 f5 ++ tl) sz) := by
  refine fk_ofW cX3_put 4 (some .long) (fun A => va_Ql (fun (r : Int64) (u : Int32 × (Nat → Int64) × (Nat → Int64) × (Nat → Int64)) => r.toInt = fk_put w sg ov rd up dn of a b ∧ u.1 = fk_lst w sg rd up dn of a b) (fk_Bd D (fk_ty cJ cC cI cZ cK) A (fun u : Int32 × (Nat → Int64) × (Nat → Int64) × (Nat → Int64) => fk_wx cJ cC cK ad kd kc u.1 ch ts u.2.1 u.2.2.1 f3 f4 u.2.2.2 ++ tl)) A) rfl (by decide) (Nat.le_of_ble_eq_true rfl) ?_
  intro p e s m below meth c A ls args QQ hQQ hAt hP hK hN hD hA hS hl
  obtain ⟨⟨hx, hb, hml, hown, hts⟩, hr, hlocks, hin⟩ := hAt
  have hl : lv_has ls 4 [(0, .ref (ad 0)), (1, .ref hk)] := hl
  have k1 := hts (.fieldLink RX3 33 "FixedKinds" "first" "LFixedKinds$Fraction;") (by decide +kernel)
  have k2 := (by decide +kernel : ∀ w ∈ u_ws RX3 TX3 8, w ∈ wsX3_put)
  have k3 := hN _ fkn_X3_176
  have k4 := hts (.initialized RX0) (by decide +kernel)
  have k5 := hts (.instanceMethod yX0_toRawScale) (by decide +kernel)
  have k6 := hts (.selects RX0 yX0_toRawScale yX0_toRawScale) (by decide +kernel)
  have k7 := hN _ fkn_X3_69
  have k8 := (by decide +kernel : ∀ w ∈ u_ws RX1 TX1 7, w ∈ wsX3_put)
  have k9 := hts (.fieldLink RX3 43 "FixedKinds" "result" "LFixedKinds$Whole;") (by decide +kernel)
  have k10 := hN _ fkn_X3_180
  have k11 := hts (.instanceMethod yX0_round) (by decide +kernel)
  have k12 := hts (.selects RX0 yX0_round yX0_round) (by decide +kernel)
  have k13 := hN _ fkn_X3_184
  have k14 := hts (.initialized RX2) (by decide +kernel)
  have k15 := hts (.instanceMethod yX2_fitsLong) (by decide +kernel)
  have k16 := hts (.selects RX2 yX2_fitsLong yX2_fitsLong) (by decide +kernel)
  have k17 := hts (.fieldLink RX3 19 "FixedKinds" "somethingLost" "Z") (by decide +kernel)
  have k18 := hN _ fkn_X3_108
  have k19 := hts (.instanceMethod yX2_bitsFrom) (by decide +kernel)
  have k20 := hts (.selects RX2 yX2_bitsFrom yX2_bitsFrom) (by decide +kernel)
  have k21 := hN _ fkn_X3_187
  have k22 := hts (.initialized RX1) (by decide +kernel)
  have k23 := hts (.instanceMethod yX1_isRaw) (by decide +kernel)
  have k24 := hts (.selects RX1 yX1_isRaw yX1_isRaw) (by decide +kernel)
  refine lv_aload_n hx hb dX3_put_0 rfl (lv_at hl 0 rfl) ?_
  refine va_get (D := D) (ci := 4) (v := .ref (ad 3)) (C := RX3) (T := TX3) (N := 8) hx hb hts k2 hown hK hP 0 rfl rfl 5 (by decide) k1 (fun _ h9 => h9) rfl dX3_put_1 ?_
  refine lv_aload_n hx hb dX3_put_4 rfl (lv_at hl 1 rfl) ?_
  refine fk_cv hD hS hA (va_runVN (As := [.ref hk]) (rest := []) ⟨hx, hb, hml, hown, hts⟩ (kX0_toRawScale _ ad tl kd kc lo ch ts f1 f2 f3 f4 f5 hk jk w sg ov rd up dn of a b hqk hkd hRa hRb) ⟨va_cnB 1 hts gX3_put_X0_toRawScale_n176 rfl rfl rfl k3 k4 (by decide +kernel) ⟨Nat.le_of_ble_eq_true rfl, Nat.le_of_ble_eq_true rfl⟩, k5, k6⟩ (fk_preV 3 1 hK hN hP hD rfl rfl) rfl rfl hl.1 rfl (lv_room (Nat.le_of_ble_eq_true rfl)) dX3_put_5 ⟨Nat.le_of_ble_eq_true rfl, Nat.le_of_ble_eq_true rfl⟩) (fun u1 H locs hw hP hD hS => ?_)
  have hP : va_P D vwCl (fk_wx cJ cC cK ad kd kc lo ch ts u1.1 u1.2 f3 f4 f5 ++ tl) H := hP
  have hD : va_D A (fk_wx cJ cC cK ad kd kc lo ch ts u1.1 u1.2 f3 f4 f5 ++ tl) := hD
  obtain ⟨hN1, hN2⟩ := hw
  have hNe : fk_R (fk_pN dn of a b) u1.1 := hN1
  have hDe : fk_R (fk_pD up b) u1.2 := hN2
  obtain ⟨hNb, hD0, hD1⟩ := fk_pN_bd hkd hpB
  have hRb2 := fk_round_bd (rd := rd) hD0 hNb.1 hNb.2
  have hRI : fk_In (fk_pR rd up dn of a b) := by rw [fk_pR]; exact ⟨by omega, by omega⟩
  refine lv_aload_n hx hb dX3_put_8 rfl (lv_at hl 0 rfl) ?_
  refine va_get (D := D) (ci := 4) (v := .ref (ad 3)) (C := RX3) (T := TX3) (N := 8) hx hb hts k2 hown hK hP 0 rfl rfl 5 (by decide) k1 (fun _ h9 => h9) rfl dX3_put_9 ?_
  refine lv_aload_n hx hb dX3_put_12 rfl (lv_at hl 1 rfl) ?_
  refine va_getN (D := D) (ci := 2) (v := .int rd) (C := RX1) (T := TX1) (N := 7) hx hb hts k8 hown hK hP (jk + 15) (fk_tl hqk) rfl 6 (by decide) (va_Nw.use rfl k7) (fun _ h9 => h9) rfl dX3_put_13 ?_
  refine lv_aload_n hx hb dX3_put_16 rfl (lv_at hl 0 rfl) ?_
  refine va_get (D := D) (ci := 4) (v := .ref (ad 13)) (C := RX3) (T := TX3) (N := 8) hx hb hts k2 hown hK hP 0 rfl rfl 7 (by decide) k9 (fun _ h9 => h9) rfl dX3_put_17 ?_
  refine fk_ci hD hS hA (va_runVN (As := [.int rd, .ref (ad 13)]) (rest := []) ⟨hx, hb, hml, hown, hts⟩ (kX0_round _ ad tl kd kc lo ch ts u1.1 u1.2 f3 f4 f5 rd _ _ hNe hDe ⟨⟨by omega, by omega⟩, ⟨by omega, by omega⟩⟩ hD0 ⟨by omega, by omega⟩ ⟨by omega, by omega⟩) ⟨va_cnB 2 hts gX3_put_X0_round_n180 rfl rfl rfl k10 k4 (by decide +kernel) ⟨Nat.le_of_ble_eq_true rfl, Nat.le_of_ble_eq_true rfl⟩, k11, k12⟩ (fk_preV 3 1 hK hN hP hD rfl rfl) rfl rfl hl.1 rfl (lv_room (Nat.le_of_ble_eq_true rfl)) dX3_put_20 ⟨Nat.le_of_ble_eq_true rfl, Nat.le_of_ble_eq_true rfl⟩) (fun r4 u3 H locs hw hP hD hS => ?_)
  have hP : va_P D vwCl (fk_wx cJ cC cK ad kd kc lo ch ts u3.1 u1.2 f3 f4 u3.2 ++ tl) H := hP
  have hD : va_D A (fk_wx cJ cC cK ad kd kc lo ch ts u3.1 u1.2 f3 f4 u3.2 ++ tl) := hD
  obtain ⟨zx, hres⟩ := hw
  have hres : fk_R (fk_pR rd up dn of a b) u3.2 := hres
  refine lv_istore_n (lv' := [(2, .int r4), (0, .ref (ad 0)), (1, .ref hk)]) hx hb dX3_put_23 rfl hl (by decide) rfl (fun ls hl => ?_)
  refine lv_aload_n hx hb dX3_put_24 rfl (lv_at hl 1 rfl) ?_
  refine va_get (D := D) (ci := 4) (v := .ref (ad 13)) (C := RX3) (T := TX3) (N := 8) hx hb hts k2 hown hK hP 0 rfl rfl 7 (by decide) k9 (fun _ h9 => h9) rfl dX3_put_25 ?_
  refine fk_ci hD hS hA (va_runVN (As := []) (rest := []) ⟨hx, hb, hml, hown, hts⟩ (kX2_fitsLong _ _ (ad 13) (ad 14) 13 14 u3.2 (fk_pR rd up dn of a b) rfl rfl hres hRI) ⟨va_cnB 0 hts gX3_put_X2_fitsLong_n184 rfl rfl rfl k13 k14 (by decide +kernel) ⟨Nat.le_of_ble_eq_true rfl, Nat.le_of_ble_eq_true rfl⟩, k15, k16⟩ (fk_preV 13 3 hK hN hP hD rfl rfl) rfl rfl hl.1 rfl (lv_room (Nat.le_of_ble_eq_true rfl)) dX3_put_28 ⟨Nat.le_of_ble_eq_true rfl, Nat.le_of_ble_eq_true rfl⟩) (fun r5 u H locs hw hP hD hS => ?_)
  have hP : va_P D vwCl (fk_wx cJ cC cK ad kd kc lo ch ts u3.1 u1.2 f3 f4 u3.2 ++ tl) H := hP
  have hD : va_D A (fk_wx cJ cC cK ad kd kc lo ch ts u3.1 u1.2 f3 f4 u3.2 ++ tl) := hD
  have zf := hw
  refine lv_if_eq (tgt := 53) hx hb dX3_put_31 (by decide) (fun c_31 => ?_) (fun c_31 => ?_)
  · have hnw : ¬ fk_wi w sg (fk_pR rd up dn of a b) := fun q => by rw [zf, if_pos (fk_wi_long hkd.1 q)] at c_31; exact absurd c_31 (by decide)
    refine lv_iconst (v := 0) hx hb dX3_put_53 (by decide) ?_
    refine lv_istore_n (lv' := [(3, .int 0), (2, .int r4), (0, .ref (ad 0)), (1, .ref hk)]) hx hb dX3_put_54 rfl hl (by decide) rfl (fun ls hl => ?_)
    refine lv_aload_n hx hb dX3_put_55 rfl (lv_at hl 2 rfl) ?_
    refine lv_iload_n hx hb dX3_put_56 rfl (lv_at hl 1 rfl) ?_
    refine lv_if_eq (tgt := 64) hx hb dX3_put_57 (by decide) (fun c_57 => ?_) (fun c_57 => ?_)
    · have hex : ¬ fk_pN dn of a b % fk_pD up b = 0 := fun q => by rw [zx, if_pos q] at c_57; exact absurd c_57 (by decide)
      refine lv_iconst (v := 1) hx hb dX3_put_64 (by decide) ?_
      refine lv_goto (tgt := 69) hx hb dX3_put_65 (by decide) ?_
      refine va_put (D := D) (ci := 4) (v := .int 1) (ty := (.boolean)) (C := RX3) (T := TX3) (N := 8) hx hb hts k2 tyX3 tyX3_ok nmX3 hown hK hP hD hS 0 rfl rfl 2 (by decide) k17 (fun _ h9 => h9) rfl (by decide +kernel) rfl rfl (Nat.le_of_ble_eq_true rfl) dX3_put_69 (fun H locs hP hD hS => ?_)
      have hP : va_P D vwCl (fk_wx cJ cC cK ad kd kc 1 ch ts u3.1 u1.2 f3 f4 u3.2 ++ tl) H := hP
      have hD : va_D A (fk_wx cJ cC cK ad kd kc 1 ch ts u3.1 u1.2 f3 f4 u3.2 ++ tl) := hD
      refine lv_iload_n hx hb dX3_put_72 rfl (lv_at hl 0 rfl) ?_
      refine lv_if_eq (tgt := 87) hx hb dX3_put_73 (by decide) (fun c_73 => ?_) (fun c_73 => False.elim (absurd rfl c_73))
      refine lv_aload_n hx hb dX3_put_87 rfl (lv_at hl 2 rfl) ?_
      refine lv_aload_n hx hb dX3_put_88 rfl (lv_at hl 3 rfl) ?_
      refine fk_cl hD hS hA (va_runV (As := [.ref hk]) (rest := []) ⟨hx, hb, hml, hown, hts⟩ (kX3_beyond _ ad tl kd kc 1 ch ts u3.1 u1.2 f3 f4 u3.2 hk jk w sg ov rd up dn of (fk_pR rd up dn of a b) hqk hkd hres hRI hov) (cwV 1 hts gX3_put_X3_beyond rfl rfl rfl (by decide +kernel) ⟨Nat.le_of_ble_eq_true rfl, Nat.le_of_ble_eq_true rfl⟩) (fk_preV 0 4 hK hN hP hD rfl rfl) rfl rfl hl.1 rfl (lv_room (Nat.le_of_ble_eq_true rfl)) dX3_put_89 ⟨Nat.le_of_ble_eq_true rfl, Nat.le_of_ble_eq_true rfl⟩) (fun r6 u H locs hw hP hD hS => ?_)
      have hP : va_P D vwCl (fk_wx cJ cC cK ad kd kc 1 ch ts u3.1 u1.2 f3 f4 u3.2 ++ tl) H := hP
      have hD : va_D A (fk_wx cJ cC cK ad kd kc 1 ch ts u3.1 u1.2 f3 f4 u3.2 ++ tl) := hD
      rw [hQQ]
      exact W.lret (v := r6) hx hb hr (fun t ht hW => ⟨⟨r6, (1, u3.1, u1.2, u3.2), rfl, ⟨(by rw [fk_put, if_neg hnw]; exact hw), (by rw [fk_lst, if_neg (fun q => hex q.1)])⟩, by rw [ht]; exact hP, va_K.moved hW.alike hK, hD⟩, hS.F ht⟩) hS.2.2 dX3_put_92
    · have hex : fk_pN dn of a b % fk_pD up b = 0 := by by_cases q : fk_pN dn of a b % fk_pD up b = 0; exact q; rw [zx, if_neg q] at c_57; exact absurd rfl c_57
      refine lv_iload_n hx hb dX3_put_60 rfl (lv_at hl 0 rfl) ?_
      refine lv_if_ne (tgt := 68) hx hb dX3_put_61 (by decide) (fun c_61 => False.elim (absurd rfl c_61)) (fun c_61 => ?_)
      refine lv_iconst (v := 1) hx hb dX3_put_64 (by decide) ?_
      refine lv_goto (tgt := 69) hx hb dX3_put_65 (by decide) ?_
      refine va_put (D := D) (ci := 4) (v := .int 1) (ty := (.boolean)) (C := RX3) (T := TX3) (N := 8) hx hb hts k2 tyX3 tyX3_ok nmX3 hown hK hP hD hS 0 rfl rfl 2 (by decide) k17 (fun _ h9 => h9) rfl (by decide +kernel) rfl rfl (Nat.le_of_ble_eq_true rfl) dX3_put_69 (fun H locs hP hD hS => ?_)
      have hP : va_P D vwCl (fk_wx cJ cC cK ad kd kc 1 ch ts u3.1 u1.2 f3 f4 u3.2 ++ tl) H := hP
      have hD : va_D A (fk_wx cJ cC cK ad kd kc 1 ch ts u3.1 u1.2 f3 f4 u3.2 ++ tl) := hD
      refine lv_iload_n hx hb dX3_put_72 rfl (lv_at hl 0 rfl) ?_
      refine lv_if_eq (tgt := 87) hx hb dX3_put_73 (by decide) (fun c_73 => ?_) (fun c_73 => False.elim (absurd rfl c_73))
      refine lv_aload_n hx hb dX3_put_87 rfl (lv_at hl 2 rfl) ?_
      refine lv_aload_n hx hb dX3_put_88 rfl (lv_at hl 3 rfl) ?_
      refine fk_cl hD hS hA (va_runV (As := [.ref hk]) (rest := []) ⟨hx, hb, hml, hown, hts⟩ (kX3_beyond _ ad tl kd kc 1 ch ts u3.1 u1.2 f3 f4 u3.2 hk jk w sg ov rd up dn of (fk_pR rd up dn of a b) hqk hkd hres hRI hov) (cwV 1 hts gX3_put_X3_beyond rfl rfl rfl (by decide +kernel) ⟨Nat.le_of_ble_eq_true rfl, Nat.le_of_ble_eq_true rfl⟩) (fk_preV 0 4 hK hN hP hD rfl rfl) rfl rfl hl.1 rfl (lv_room (Nat.le_of_ble_eq_true rfl)) dX3_put_89 ⟨Nat.le_of_ble_eq_true rfl, Nat.le_of_ble_eq_true rfl⟩) (fun r7 u H locs hw hP hD hS => ?_)
      have hP : va_P D vwCl (fk_wx cJ cC cK ad kd kc 1 ch ts u3.1 u1.2 f3 f4 u3.2 ++ tl) H := hP
      have hD : va_D A (fk_wx cJ cC cK ad kd kc 1 ch ts u3.1 u1.2 f3 f4 u3.2 ++ tl) := hD
      rw [hQQ]
      exact W.lret (v := r7) hx hb hr (fun t ht hW => ⟨⟨r7, (1, u3.1, u1.2, u3.2), rfl, ⟨(by rw [fk_put, if_neg hnw]; exact hw), (by rw [fk_lst, if_neg (fun q => hnw q.2)])⟩, by rw [ht]; exact hP, va_K.moved hW.alike hK, hD⟩, hS.F ht⟩) hS.2.2 dX3_put_92
  · have hfl : -9223372036854775808 ≤ fk_pR rd up dn of a b ∧ fk_pR rd up dn of a b < 9223372036854775808 := by
      by_cases q : -9223372036854775808 ≤ fk_pR rd up dn of a b ∧ fk_pR rd up dn of a b < 9223372036854775808
      · exact q
      · rw [zf, if_neg q] at c_31; exact absurd rfl c_31
    refine lv_aload_n hx hb dX3_put_34 rfl (lv_at hl 2 rfl) ?_
    refine lv_aload_n hx hb dX3_put_35 rfl (lv_at hl 1 rfl) ?_
    refine va_get (D := D) (ci := 4) (v := .ref (ad 13)) (C := RX3) (T := TX3) (N := 8) hx hb hts k2 hown hK hP 0 rfl rfl 7 (by decide) k9 (fun _ h9 => h9) rfl dX3_put_36 ?_
    refine lv_iconst (v := 0) hx hb dX3_put_39 (by decide) ?_
    refine fk_cl hD hS hA (va_runVN (As := [.int 0]) (rest := [.ref hk]) ⟨hx, hb, hml, hown, hts⟩ (kX2_bitsFrom _ _ (ad 13) (ad 14) 13 14 u3.2 0 (fk_pR rd up dn of a b) rfl rfl hres (by omega)) ⟨va_cnB 1 hts gX3_put_X2_bitsFrom_n108 rfl rfl rfl k18 k14 (by decide +kernel) ⟨Nat.le_of_ble_eq_true rfl, Nat.le_of_ble_eq_true rfl⟩, k19, k20⟩ (fk_preV 13 3 hK hN hP hD rfl rfl) rfl rfl hl.1 rfl (lv_room (Nat.le_of_ble_eq_true rfl)) dX3_put_40 ⟨Nat.le_of_ble_eq_true rfl, Nat.le_of_ble_eq_true rfl⟩) (fun r8 u H locs hw hP hD hS => ?_)
    have hP : va_P D vwCl (fk_wx cJ cC cK ad kd kc lo ch ts u3.1 u1.2 f3 f4 u3.2 ++ tl) H := hP
    have hD : va_D A (fk_wx cJ cC cK ad kd kc lo ch ts u3.1 u1.2 f3 f4 u3.2 ++ tl) := hD
    have zb := hw
    have hzb : (r8).toInt = fk_pR rd up dn of a b := by rw [zb, Int.pow_zero, Int.ediv_one]; exact Int64.toInt_ofInt_of_le (by omega) (by omega)
    refine fk_ci hD hS hA (va_runVN (As := [.long r8]) (rest := []) ⟨hx, hb, hml, hown, hts⟩ (kX1_isRaw _ _ hk (jk + 15) w sg ov rd up dn of r8 (fk_tl hqk) hkd.1) ⟨va_cnB 1 hts gX3_put_X1_isRaw_n187 rfl rfl rfl k21 k22 (by decide +kernel) ⟨Nat.le_of_ble_eq_true rfl, Nat.le_of_ble_eq_true rfl⟩, k23, k24⟩ (fk_preV (jk + 15) 2 hK hN hP hD rfl (fk_tl hqk)) rfl rfl hl.1 rfl (lv_room (Nat.le_of_ble_eq_true rfl)) dX3_put_43 ⟨Nat.le_of_ble_eq_true rfl, Nat.le_of_ble_eq_true rfl⟩) (fun r9 u H locs hw hP hD hS => ?_)
    have hP : va_P D vwCl (fk_wx cJ cC cK ad kd kc lo ch ts u3.1 u1.2 f3 f4 u3.2 ++ tl) H := hP
    have hD : va_D A (fk_wx cJ cC cK ad kd kc lo ch ts u3.1 u1.2 f3 f4 u3.2 ++ tl) := hD
    rw [hzb] at hw
    have zr := hw
    refine lv_if_eq (tgt := 53) hx hb dX3_put_46 (by decide) (fun c_46 => ?_) (fun c_46 => ?_)
    · have hnw : ¬ fk_wi w sg (fk_pR rd up dn of a b) := fun q => by
        have q2 : fk_least w sg ≤ fk_pR rd up dn of a b ∧ fk_pR rd up dn of a b ≤ fk_most w sg := q
        rw [zr, if_pos q2] at c_46; exact absurd c_46 (by decide)
      refine lv_iconst (v := 0) hx hb dX3_put_53 (by decide) ?_
      refine lv_istore_n (lv' := [(3, .int 0), (2, .int r4), (0, .ref (ad 0)), (1, .ref hk)]) hx hb dX3_put_54 rfl hl (by decide) rfl (fun ls hl => ?_)
      refine lv_aload_n hx hb dX3_put_55 rfl (lv_at hl 2 rfl) ?_
      refine lv_iload_n hx hb dX3_put_56 rfl (lv_at hl 1 rfl) ?_
      refine lv_if_eq (tgt := 64) hx hb dX3_put_57 (by decide) (fun c_57 => ?_) (fun c_57 => ?_)
      · have hex : ¬ fk_pN dn of a b % fk_pD up b = 0 := fun q => by rw [zx, if_pos q] at c_57; exact absurd c_57 (by decide)
        refine lv_iconst (v := 1) hx hb dX3_put_64 (by decide) ?_
        refine lv_goto (tgt := 69) hx hb dX3_put_65 (by decide) ?_
        refine va_put (D := D) (ci := 4) (v := .int 1) (ty := (.boolean)) (C := RX3) (T := TX3) (N := 8) hx hb hts k2 tyX3 tyX3_ok nmX3 hown hK hP hD hS 0 rfl rfl 2 (by decide) k17 (fun _ h9 => h9) rfl (by decide +kernel) rfl rfl (Nat.le_of_ble_eq_true rfl) dX3_put_69 (fun H locs hP hD hS => ?_)
        have hP : va_P D vwCl (fk_wx cJ cC cK ad kd kc 1 ch ts u3.1 u1.2 f3 f4 u3.2 ++ tl) H := hP
        have hD : va_D A (fk_wx cJ cC cK ad kd kc 1 ch ts u3.1 u1.2 f3 f4 u3.2 ++ tl) := hD
        refine lv_iload_n hx hb dX3_put_72 rfl (lv_at hl 0 rfl) ?_
        refine lv_if_eq (tgt := 87) hx hb dX3_put_73 (by decide) (fun c_73 => ?_) (fun c_73 => False.elim (absurd rfl c_73))
        refine lv_aload_n hx hb dX3_put_87 rfl (lv_at hl 2 rfl) ?_
        refine lv_aload_n hx hb dX3_put_88 rfl (lv_at hl 3 rfl) ?_
        refine fk_cl hD hS hA (va_runV (As := [.ref hk]) (rest := []) ⟨hx, hb, hml, hown, hts⟩ (kX3_beyond _ ad tl kd kc 1 ch ts u3.1 u1.2 f3 f4 u3.2 hk jk w sg ov rd up dn of (fk_pR rd up dn of a b) hqk hkd hres hRI hov) (cwV 1 hts gX3_put_X3_beyond rfl rfl rfl (by decide +kernel) ⟨Nat.le_of_ble_eq_true rfl, Nat.le_of_ble_eq_true rfl⟩) (fk_preV 0 4 hK hN hP hD rfl rfl) rfl rfl hl.1 rfl (lv_room (Nat.le_of_ble_eq_true rfl)) dX3_put_89 ⟨Nat.le_of_ble_eq_true rfl, Nat.le_of_ble_eq_true rfl⟩) (fun r10 u H locs hw hP hD hS => ?_)
        have hP : va_P D vwCl (fk_wx cJ cC cK ad kd kc 1 ch ts u3.1 u1.2 f3 f4 u3.2 ++ tl) H := hP
        have hD : va_D A (fk_wx cJ cC cK ad kd kc 1 ch ts u3.1 u1.2 f3 f4 u3.2 ++ tl) := hD
        rw [hQQ]
        exact W.lret (v := r10) hx hb hr (fun t ht hW => ⟨⟨r10, (1, u3.1, u1.2, u3.2), rfl, ⟨(by rw [fk_put, if_neg hnw]; exact hw), (by rw [fk_lst, if_neg (fun q => hex q.1)])⟩, by rw [ht]; exact hP, va_K.moved hW.alike hK, hD⟩, hS.F ht⟩) hS.2.2 dX3_put_92
      · have hex : fk_pN dn of a b % fk_pD up b = 0 := by by_cases q : fk_pN dn of a b % fk_pD up b = 0; exact q; rw [zx, if_neg q] at c_57; exact absurd rfl c_57
        refine lv_iload_n hx hb dX3_put_60 rfl (lv_at hl 0 rfl) ?_
        refine lv_if_ne (tgt := 68) hx hb dX3_put_61 (by decide) (fun c_61 => False.elim (absurd rfl c_61)) (fun c_61 => ?_)
        refine lv_iconst (v := 1) hx hb dX3_put_64 (by decide) ?_
        refine lv_goto (tgt := 69) hx hb dX3_put_65 (by decide) ?_
        refine va_put (D := D) (ci := 4) (v := .int 1) (ty := (.boolean)) (C := RX3) (T := TX3) (N := 8) hx hb hts k2 tyX3 tyX3_ok nmX3 hown hK hP hD hS 0 rfl rfl 2 (by decide) k17 (fun _ h9 => h9) rfl (by decide +kernel) rfl rfl (Nat.le_of_ble_eq_true rfl) dX3_put_69 (fun H locs hP hD hS => ?_)
        have hP : va_P D vwCl (fk_wx cJ cC cK ad kd kc 1 ch ts u3.1 u1.2 f3 f4 u3.2 ++ tl) H := hP
        have hD : va_D A (fk_wx cJ cC cK ad kd kc 1 ch ts u3.1 u1.2 f3 f4 u3.2 ++ tl) := hD
        refine lv_iload_n hx hb dX3_put_72 rfl (lv_at hl 0 rfl) ?_
        refine lv_if_eq (tgt := 87) hx hb dX3_put_73 (by decide) (fun c_73 => ?_) (fun c_73 => False.elim (absurd rfl c_73))
        refine lv_aload_n hx hb dX3_put_87 rfl (lv_at hl 2 rfl) ?_
        refine lv_aload_n hx hb dX3_put_88 rfl (lv_at hl 3 rfl) ?_
        refine fk_cl hD hS hA (va_runV (As := [.ref hk]) (rest := []) ⟨hx, hb, hml, hown, hts⟩ (kX3_beyond _ ad tl kd kc 1 ch ts u3.1 u1.2 f3 f4 u3.2 hk jk w sg ov rd up dn of (fk_pR rd up dn of a b) hqk hkd hres hRI hov) (cwV 1 hts gX3_put_X3_beyond rfl rfl rfl (by decide +kernel) ⟨Nat.le_of_ble_eq_true rfl, Nat.le_of_ble_eq_true rfl⟩) (fk_preV 0 4 hK hN hP hD rfl rfl) rfl rfl hl.1 rfl (lv_room (Nat.le_of_ble_eq_true rfl)) dX3_put_89 ⟨Nat.le_of_ble_eq_true rfl, Nat.le_of_ble_eq_true rfl⟩) (fun r11 u H locs hw hP hD hS => ?_)
        have hP : va_P D vwCl (fk_wx cJ cC cK ad kd kc 1 ch ts u3.1 u1.2 f3 f4 u3.2 ++ tl) H := hP
        have hD : va_D A (fk_wx cJ cC cK ad kd kc 1 ch ts u3.1 u1.2 f3 f4 u3.2 ++ tl) := hD
        rw [hQQ]
        exact W.lret (v := r11) hx hb hr (fun t ht hW => ⟨⟨r11, (1, u3.1, u1.2, u3.2), rfl, ⟨(by rw [fk_put, if_neg hnw]; exact hw), (by rw [fk_lst, if_neg (fun q => hnw q.2)])⟩, by rw [ht]; exact hP, va_K.moved hW.alike hK, hD⟩, hS.F ht⟩) hS.2.2 dX3_put_92
    · have hwi : fk_wi w sg (fk_pR rd up dn of a b) := by
        by_cases q : fk_least w sg ≤ fk_pR rd up dn of a b ∧ fk_pR rd up dn of a b ≤ fk_most w sg
        · exact q
        · rw [zr, if_neg q] at c_46; exact absurd rfl c_46
      refine lv_iconst (v := 1) hx hb dX3_put_49 (by decide) ?_
      refine lv_goto (tgt := 54) hx hb dX3_put_50 (by decide) ?_
      refine lv_istore_n (lv' := [(3, .int 1), (2, .int r4), (0, .ref (ad 0)), (1, .ref hk)]) hx hb dX3_put_54 rfl hl (by decide) rfl (fun ls hl => ?_)
      refine lv_aload_n hx hb dX3_put_55 rfl (lv_at hl 2 rfl) ?_
      refine lv_iload_n hx hb dX3_put_56 rfl (lv_at hl 1 rfl) ?_
      refine lv_if_eq (tgt := 64) hx hb dX3_put_57 (by decide) (fun c_57 => ?_) (fun c_57 => ?_)
      · have hex : ¬ fk_pN dn of a b % fk_pD up b = 0 := fun q => by rw [zx, if_pos q] at c_57; exact absurd c_57 (by decide)
        refine lv_iconst (v := 1) hx hb dX3_put_64 (by decide) ?_
        refine lv_goto (tgt := 69) hx hb dX3_put_65 (by decide) ?_
        refine va_put (D := D) (ci := 4) (v := .int 1) (ty := (.boolean)) (C := RX3) (T := TX3) (N := 8) hx hb hts k2 tyX3 tyX3_ok nmX3 hown hK hP hD hS 0 rfl rfl 2 (by decide) k17 (fun _ h9 => h9) rfl (by decide +kernel) rfl rfl (Nat.le_of_ble_eq_true rfl) dX3_put_69 (fun H locs hP hD hS => ?_)
        have hP : va_P D vwCl (fk_wx cJ cC cK ad kd kc 1 ch ts u3.1 u1.2 f3 f4 u3.2 ++ tl) H := hP
        have hD : va_D A (fk_wx cJ cC cK ad kd kc 1 ch ts u3.1 u1.2 f3 f4 u3.2 ++ tl) := hD
        refine lv_iload_n hx hb dX3_put_72 rfl (lv_at hl 0 rfl) ?_
        refine lv_if_eq (tgt := 87) hx hb dX3_put_73 (by decide) (fun c_73 => False.elim (absurd c_73 (by decide))) (fun c_73 => ?_)
        refine lv_aload_n hx hb dX3_put_76 rfl (lv_at hl 2 rfl) ?_
        refine va_get (D := D) (ci := 4) (v := .ref (ad 13)) (C := RX3) (T := TX3) (N := 8) hx hb hts k2 hown hK hP 0 rfl rfl 7 (by decide) k9 (fun _ h9 => h9) rfl dX3_put_77 ?_
        refine lv_iconst (v := 0) hx hb dX3_put_80 (by decide) ?_
        refine fk_cl hD hS hA (va_runVN (As := [.int 0]) (rest := []) ⟨hx, hb, hml, hown, hts⟩ (kX2_bitsFrom _ _ (ad 13) (ad 14) 13 14 u3.2 0 (fk_pR rd up dn of a b) rfl rfl hres (by omega)) ⟨va_cnB 1 hts gX3_put_X2_bitsFrom_n108 rfl rfl rfl k18 k14 (by decide +kernel) ⟨Nat.le_of_ble_eq_true rfl, Nat.le_of_ble_eq_true rfl⟩, k19, k20⟩ (fk_preV 13 3 hK hN hP hD rfl rfl) rfl rfl hl.1 rfl (lv_room (Nat.le_of_ble_eq_true rfl)) dX3_put_81 ⟨Nat.le_of_ble_eq_true rfl, Nat.le_of_ble_eq_true rfl⟩) (fun r12 u H locs hw hP hD hS => ?_)
        have hP : va_P D vwCl (fk_wx cJ cC cK ad kd kc 1 ch ts u3.1 u1.2 f3 f4 u3.2 ++ tl) H := hP
        have hD : va_D A (fk_wx cJ cC cK ad kd kc 1 ch ts u3.1 u1.2 f3 f4 u3.2 ++ tl) := hD
        have zc := hw
        have hzc : (r12).toInt = fk_pR rd up dn of a b := by rw [zc, Int.pow_zero, Int.ediv_one]; exact Int64.toInt_ofInt_of_le (by omega) (by omega)
        refine lv_goto (tgt := 92) hx hb dX3_put_84 (by decide) ?_
        rw [hQQ]
        exact W.lret (v := r12) hx hb hr (fun t ht hW => ⟨⟨r12, (1, u3.1, u1.2, u3.2), rfl, ⟨(by rw [fk_put, if_pos hwi]; exact hzc), (by rw [fk_lst, if_neg (fun q => hex q.1)])⟩, by rw [ht]; exact hP, va_K.moved hW.alike hK, hD⟩, hS.F ht⟩) hS.2.2 dX3_put_92
      · have hex : fk_pN dn of a b % fk_pD up b = 0 := by by_cases q : fk_pN dn of a b % fk_pD up b = 0; exact q; rw [zx, if_neg q] at c_57; exact absurd rfl c_57
        refine lv_iload_n hx hb dX3_put_60 rfl (lv_at hl 0 rfl) ?_
        refine lv_if_ne (tgt := 68) hx hb dX3_put_61 (by decide) (fun c_61 => ?_) (fun c_61 => False.elim (absurd c_61 (by decide)))
        refine lv_iconst (v := 0) hx hb dX3_put_68 (by decide) ?_
        refine va_put (D := D) (ci := 4) (v := .int 0) (ty := (.boolean)) (C := RX3) (T := TX3) (N := 8) hx hb hts k2 tyX3 tyX3_ok nmX3 hown hK hP hD hS 0 rfl rfl 2 (by decide) k17 (fun _ h9 => h9) rfl (by decide +kernel) rfl rfl (Nat.le_of_ble_eq_true rfl) dX3_put_69 (fun H locs hP hD hS => ?_)
        have hP : va_P D vwCl (fk_wx cJ cC cK ad kd kc 0 ch ts u3.1 u1.2 f3 f4 u3.2 ++ tl) H := hP
        have hD : va_D A (fk_wx cJ cC cK ad kd kc 0 ch ts u3.1 u1.2 f3 f4 u3.2 ++ tl) := hD
        refine lv_iload_n hx hb dX3_put_72 rfl (lv_at hl 0 rfl) ?_
        refine lv_if_eq (tgt := 87) hx hb dX3_put_73 (by decide) (fun c_73 => False.elim (absurd c_73 (by decide))) (fun c_73 => ?_)
        refine lv_aload_n hx hb dX3_put_76 rfl (lv_at hl 2 rfl) ?_
        refine va_get (D := D) (ci := 4) (v := .ref (ad 13)) (C := RX3) (T := TX3) (N := 8) hx hb hts k2 hown hK hP 0 rfl rfl 7 (by decide) k9 (fun _ h9 => h9) rfl dX3_put_77 ?_
        refine lv_iconst (v := 0) hx hb dX3_put_80 (by decide) ?_
        refine fk_cl hD hS hA (va_runVN (As := [.int 0]) (rest := []) ⟨hx, hb, hml, hown, hts⟩ (kX2_bitsFrom _ _ (ad 13) (ad 14) 13 14 u3.2 0 (fk_pR rd up dn of a b) rfl rfl hres (by omega)) ⟨va_cnB 1 hts gX3_put_X2_bitsFrom_n108 rfl rfl rfl k18 k14 (by decide +kernel) ⟨Nat.le_of_ble_eq_true rfl, Nat.le_of_ble_eq_true rfl⟩, k19, k20⟩ (fk_preV 13 3 hK hN hP hD rfl rfl) rfl rfl hl.1 rfl (lv_room (Nat.le_of_ble_eq_true rfl)) dX3_put_81 ⟨Nat.le_of_ble_eq_true rfl, Nat.le_of_ble_eq_true rfl⟩) (fun r13 u H locs hw hP hD hS => ?_)
        have hP : va_P D vwCl (fk_wx cJ cC cK ad kd kc 0 ch ts u3.1 u1.2 f3 f4 u3.2 ++ tl) H := hP
        have hD : va_D A (fk_wx cJ cC cK ad kd kc 0 ch ts u3.1 u1.2 f3 f4 u3.2 ++ tl) := hD
        have zc := hw
        have hzc : (r13).toInt = fk_pR rd up dn of a b := by rw [zc, Int.pow_zero, Int.ediv_one]; exact Int64.toInt_ofInt_of_le (by omega) (by omega)
        refine lv_goto (tgt := 92) hx hb dX3_put_84 (by decide) ?_
        rw [hQQ]
        exact W.lret (v := r13) hx hb hr (fun t ht hW => ⟨⟨r13, (0, u3.1, u1.2, u3.2), rfl, ⟨(by rw [fk_put, if_pos hwi]; exact hzc), (by rw [fk_lst, if_pos ⟨hex, hwi⟩])⟩, by rw [ht]; exact hP, va_K.moved hW.alike hK, hD⟩, hS.F ht⟩) hS.2.2 dX3_put_92
