/-! Fraction: isRoundedAway, round, by program -/
abbrev rmX0_isRoundedAway : Room := { frames := 3, cells := 0, slots := 0, locals := 72 }
set_option maxHeartbeats 4000000 in
set_option maxRecDepth 100000 in
/-- Fraction.isRoundedAway -/
theorem kX0_isRoundedAway {l : Launch} {D : va_G} {cJ cC cI cZ cK : ClassId} (sz : Nat) (ad : Nat → Nat) (tl : va_W) (kd : Nat → Option Nat) (kc lo : Int32) (ch : Nat → Int32) (ts : Int32) (f1 f2 f3 f4 f5 : Nat → Int64) (r0 ng od : Int32) (a b : Int) (hRa : fk_R a f1) (hRb : fk_R b f2) (hI : fk_In (a * 2 + b * (-1))) (hng : ng = 0 ∨ ng = 1) : Met l yX0_isRoundedAway wsX0_isRoundedAway rmX0_isRoundedAway (va_Pc [.ref (ad 3), .int r0, .int ng, .int od] (fk_pre D (fk_ty cJ cC cI cZ cK) (fk_wx cJ cC cK ad kd kc lo ch ts f1 f2 f3 f4 f5 ++ tl) sz)) (va_Qi (fun (r : Int32) (_ : Nat → Int64) => r = fk_aw r0 ng od a b) (fk_Bd D (fk_ty cJ cC cI cZ cK) (va_A (fk_wx cJ cC cK ad kd kc lo ch ts f1 f2 f3 f4 f5 ++ tl) sz) (fun u : (Nat → Int64) => fk_wx cJ cC cK ad kd kc lo ch ts u f2 f3 f4 f5 ++ tl)) (va_A (fk_wx cJ cC cK ad kd kc lo ch ts f1 f2 f3 f4 f5 ++ tl) sz)) 0 0 (va_A (fk_wx cJ cC cK ad kd kc lo ch ts f1 f2 f3 f4 f5 ++ tl) sz) := by
  refine fk_ofW cX0_isRoundedAway 4 (some .boolean) (fun A => va_Qi (fun (r : Int32) (_ : Nat → Int64) => r = fk_aw r0 ng od a b) (fk_Bd D (fk_ty cJ cC cI cZ cK) A (fun u : (Nat → Int64) => fk_wx cJ cC cK ad kd kc lo ch ts u f2 f3 f4 f5 ++ tl)) A) rfl (by decide) (Nat.le_of_ble_eq_true rfl) ?_
  intro p e s m below meth c A ls args QQ hQQ hAt hP hK hN hD hA hS hl
  obtain ⟨⟨hx, hb, hml, hown, hts⟩, hr, hlocks, hin⟩ := hAt
  have hl : lv_has ls 4 [(0, .ref (ad 3)), (1, .int r0), (2, .int ng), (3, .int od)] := hl
  have k1 := hts (.fieldLink RX0 12 "FixedKinds$Fraction" "above" "LFixedKinds$Whole;") (by decide +kernel)
  have k2 := (by decide +kernel : ∀ w ∈ u_ws RX0 TX0 2, w ∈ wsX0_isRoundedAway)
  have k3 := hts (.constantLong RX0 75 2) (by decide +kernel)
  have k4 := hN _ fkn_X0_35
  have k5 := hts (.initialized RX2) (by decide +kernel)
  have k6 := hts (.instanceMethod yX2_scale) (by decide +kernel)
  have k7 := hts (.selects RX2 yX2_scale yX2_scale) (by decide +kernel)
  have k8 := hts (.fieldLink RX0 18 "FixedKinds$Fraction" "below" "LFixedKinds$Whole;") (by decide +kernel)
  have k9 := hts (.constantLong RX0 62 (-1)) (by decide +kernel)
  have k10 := hN _ fkn_X0_58
  have k11 := hts (.instanceMethod yX2_addTimes) (by decide +kernel)
  have k12 := hts (.selects RX2 yX2_addTimes yX2_addTimes) (by decide +kernel)
  have k13 := hN _ fkn_X0_47
  have k14 := hts (.instanceMethod yX2_isZero) (by decide +kernel)
  have k15 := hts (.selects RX2 yX2_isZero yX2_isZero) (by decide +kernel)
  have k16 := hN _ fkn_X0_51
  have k17 := hts (.instanceMethod yX2_isNegative) (by decide +kernel)
  have k18 := hts (.selects RX2 yX2_isNegative yX2_isNegative) (by decide +kernel)
  refine lv_iload_n hx hb dX0_isRoundedAway_0 rfl (lv_at hl 1 rfl) ?_
  refine lv_if_ne (tgt := 6) hx hb dX0_isRoundedAway_1 (by decide) (fun c_1 => ?_) (fun c_1 => ?_)
  · refine lv_iload_n hx hb dX0_isRoundedAway_6 rfl (lv_at hl 1 rfl) ?_
    refine lv_iconst (v := 1) hx hb dX0_isRoundedAway_7 (by decide) ?_
    refine lv_icmp_ne (tgt := 13) hx hb dX0_isRoundedAway_8 (by decide) (fun c_8 => ?_) (fun c_8 => ?_)
    · refine lv_aload_n hx hb dX0_isRoundedAway_13 rfl (lv_at hl 0 rfl) ?_
      refine va_get (D := D) (ci := 1) (v := .ref (ad 4)) (C := RX0) (T := TX0) (N := 2) hx hb hts k2 hown hK hP 3 rfl rfl 0 (by decide) k1 (fun _ h9 => h9) rfl dX0_isRoundedAway_14 ?_
      refine lv_ldc2 (v := 2) hx hb hown k3 dX0_isRoundedAway_17 ?_
      refine fk_cv hD hS hA (va_runVN (As := [.long 2]) (rest := []) ⟨hx, hb, hml, hown, hts⟩ (kX2_scale _ _ (ad 4) (ad 5) 4 5 f1 2 (a) rfl rfl hRa (by decide)) ⟨va_cnB 1 hts gX0_isRoundedAway_X2_scale_n35 rfl rfl rfl k4 k5 (by decide +kernel) ⟨Nat.le_of_ble_eq_true rfl, Nat.le_of_ble_eq_true rfl⟩, k6, k7⟩ (fk_preV 4 3 hK hN hP hD rfl rfl) rfl rfl hl.1 rfl (lv_room (Nat.le_of_ble_eq_true rfl)) dX0_isRoundedAway_20 ⟨Nat.le_of_ble_eq_true rfl, Nat.le_of_ble_eq_true rfl⟩) (fun g1 H locs hw hP hD hS => ?_)
      have hP : va_P D vwCl (fk_wx cJ cC cK ad kd kc lo ch ts g1 f2 f3 f4 f5 ++ tl) H := hP
      have hD : va_D A (fk_wx cJ cC cK ad kd kc lo ch ts g1 f2 f3 f4 f5 ++ tl) := hD
      rw [show (2 : Int64).toInt = 2 by decide] at hw
      have hRg1 := hw
      refine lv_aload_n hx hb dX0_isRoundedAway_23 rfl (lv_at hl 0 rfl) ?_
      refine va_get (D := D) (ci := 1) (v := .ref (ad 4)) (C := RX0) (T := TX0) (N := 2) hx hb hts k2 hown hK hP 3 rfl rfl 0 (by decide) k1 (fun _ h9 => h9) rfl dX0_isRoundedAway_24 ?_
      refine lv_aload_n hx hb dX0_isRoundedAway_27 rfl (lv_at hl 0 rfl) ?_
      refine va_get (D := D) (ci := 1) (v := .ref (ad 6)) (C := RX0) (T := TX0) (N := 2) hx hb hts k2 hown hK hP 3 rfl rfl 1 (by decide) k8 (fun _ h9 => h9) rfl dX0_isRoundedAway_28 ?_
      refine lv_ldc2 (v := (-1)) hx hb hown k9 dX0_isRoundedAway_31 ?_
      refine fk_cv hD hS hA (va_runVN (As := [.ref (ad 6), .long (-1)]) (rest := []) ⟨hx, hb, hml, hown, hts⟩ (kX2_addTimes _ _ (ad 4) (ad 5) (ad 6) (ad 7) 4 5 6 7 g1 f2 (-1) ((a) * 2) (b) rfl rfl rfl rfl (by decide) hRg1 hRb (by decide)) ⟨va_cnB 2 hts gX0_isRoundedAway_X2_addTimes_n58 rfl rfl rfl k10 k5 (by decide +kernel) ⟨Nat.le_of_ble_eq_true rfl, Nat.le_of_ble_eq_true rfl⟩, k11, k12⟩ (fk_preV 4 3 hK hN hP hD rfl rfl) rfl rfl hl.1 rfl (lv_room (Nat.le_of_ble_eq_true rfl)) dX0_isRoundedAway_34 ⟨Nat.le_of_ble_eq_true rfl, Nat.le_of_ble_eq_true rfl⟩) (fun g3 H locs hw hP hD hS => ?_)
      have hP : va_P D vwCl (fk_wx cJ cC cK ad kd kc lo ch ts g3 f2 f3 f4 f5 ++ tl) H := hP
      have hD : va_D A (fk_wx cJ cC cK ad kd kc lo ch ts g3 f2 f3 f4 f5 ++ tl) := hD
      rw [show ((-1) : Int64).toInt = (-1) by decide] at hw
      have hRg3 := hw
      refine lv_aload_n hx hb dX0_isRoundedAway_37 rfl (lv_at hl 0 rfl) ?_
      refine va_get (D := D) (ci := 1) (v := .ref (ad 4)) (C := RX0) (T := TX0) (N := 2) hx hb hts k2 hown hK hP 3 rfl rfl 0 (by decide) k1 (fun _ h9 => h9) rfl dX0_isRoundedAway_38 ?_
      refine fk_ci hD hS hA (va_runVN (As := []) (rest := []) ⟨hx, hb, hml, hown, hts⟩ (kX2_isZero _ _ (ad 4) (ad 5) 4 5 g3 (((a) * 2) + (b) * (-1)) rfl rfl hRg3 hI) ⟨va_cnB 0 hts gX0_isRoundedAway_X2_isZero_n47 rfl rfl rfl k13 k5 (by decide +kernel) ⟨Nat.le_of_ble_eq_true rfl, Nat.le_of_ble_eq_true rfl⟩, k14, k15⟩ (fk_preV 4 3 hK hN hP hD rfl rfl) rfl rfl hl.1 rfl (lv_room (Nat.le_of_ble_eq_true rfl)) dX0_isRoundedAway_41 ⟨Nat.le_of_ble_eq_true rfl, Nat.le_of_ble_eq_true rfl⟩) (fun r5 u H locs hw hP hD hS => ?_)
      have hP : va_P D vwCl (fk_wx cJ cC cK ad kd kc lo ch ts g3 f2 f3 f4 f5 ++ tl) H := hP
      have hD : va_D A (fk_wx cJ cC cK ad kd kc lo ch ts g3 f2 f3 f4 f5 ++ tl) := hD
      have z := hw
      refine lv_if_eq (tgt := 62) hx hb dX0_isRoundedAway_44 (by decide) (fun c_44 => ?_) (fun c_44 => ?_)
      · have p_c_44 : ¬ ((a) * 2) + (b) * (-1) = 0 := by intro q; rw [z, if_pos q] at c_44; exact absurd c_44 (by decide)
        refine lv_aload_n hx hb dX0_isRoundedAway_62 rfl (lv_at hl 0 rfl) ?_
        refine va_get (D := D) (ci := 1) (v := .ref (ad 4)) (C := RX0) (T := TX0) (N := 2) hx hb hts k2 hown hK hP 3 rfl rfl 0 (by decide) k1 (fun _ h9 => h9) rfl dX0_isRoundedAway_63 ?_
        refine fk_ci hD hS hA (va_runVN (As := []) (rest := []) ⟨hx, hb, hml, hown, hts⟩ (kX2_isNegative _ _ (ad 4) (ad 5) 4 5 g3 (((a) * 2) + (b) * (-1)) rfl rfl hRg3 hI) ⟨va_cnB 0 hts gX0_isRoundedAway_X2_isNegative_n51 rfl rfl rfl k16 k5 (by decide +kernel) ⟨Nat.le_of_ble_eq_true rfl, Nat.le_of_ble_eq_true rfl⟩, k17, k18⟩ (fk_preV 4 3 hK hN hP hD rfl rfl) rfl rfl hl.1 rfl (lv_room (Nat.le_of_ble_eq_true rfl)) dX0_isRoundedAway_66 ⟨Nat.le_of_ble_eq_true rfl, Nat.le_of_ble_eq_true rfl⟩) (fun r6 u H locs hw hP hD hS => ?_)
        have hP : va_P D vwCl (fk_wx cJ cC cK ad kd kc lo ch ts g3 f2 f3 f4 f5 ++ tl) H := hP
        have hD : va_D A (fk_wx cJ cC cK ad kd kc lo ch ts g3 f2 f3 f4 f5 ++ tl) := hD
        have z2 := hw
        refine lv_if_ne (tgt := 76) hx hb dX0_isRoundedAway_69 (by decide) (fun c_69 => ?_) (fun c_69 => ?_)
        · have p_c_69 : ((a) * 2) + (b) * (-1) < 0 := by by_cases q : ((a) * 2) + (b) * (-1) < 0; exact q; rw [z2, if_neg q] at c_69; exact absurd rfl c_69
          refine lv_iconst (v := 0) hx hb dX0_isRoundedAway_76 (by decide) ?_
          rw [hQQ]
          exact W.zret (v := 0) hx hb hr rfl (fun t ht hW => ⟨⟨0, g3, rfl, (by rw [fk_aw, if_neg c_1, if_neg c_8, if_neg (by omega), if_pos (by omega)]), by rw [ht]; exact hP, va_K.moved hW.alike hK, hD⟩, hS.F ht⟩) hS.2.2 dX0_isRoundedAway_77
        · have p_c_69 : ¬ ((a) * 2) + (b) * (-1) < 0 := by intro q; rw [z2, if_pos q] at c_69; exact absurd c_69 (by decide)
          refine lv_iconst (v := 1) hx hb dX0_isRoundedAway_72 (by decide) ?_
          refine lv_goto (tgt := 77) hx hb dX0_isRoundedAway_73 (by decide) ?_
          rw [hQQ]
          exact W.zret (v := 1) hx hb hr rfl (fun t ht hW => ⟨⟨1, g3, rfl, (by rw [fk_aw, if_neg c_1, if_neg c_8, if_neg (by omega), if_neg (by omega)]), by rw [ht]; exact hP, va_K.moved hW.alike hK, hD⟩, hS.F ht⟩) hS.2.2 dX0_isRoundedAway_77
      · have p_c_44 : ((a) * 2) + (b) * (-1) = 0 := by by_cases q : ((a) * 2) + (b) * (-1) = 0; exact q; rw [z, if_neg q] at c_44; exact absurd rfl c_44
        refine lv_iload_n hx hb dX0_isRoundedAway_47 rfl (lv_at hl 1 rfl) ?_
        refine lv_iconst (v := 2) hx hb dX0_isRoundedAway_48 (by decide) ?_
        refine lv_icmp_eq (tgt := 56) hx hb dX0_isRoundedAway_49 (by decide) (fun c_49 => ?_) (fun c_49 => ?_)
        · refine lv_iconst (v := 1) hx hb dX0_isRoundedAway_56 (by decide) ?_
          refine lv_goto (tgt := 61) hx hb dX0_isRoundedAway_57 (by decide) ?_
          rw [hQQ]
          exact W.zret (v := 1) hx hb hr rfl (fun t ht hW => ⟨⟨1, g3, rfl, (by rw [fk_aw, if_neg c_1, if_neg c_8, if_pos (by omega), if_pos (Or.inl c_49)]), by rw [ht]; exact hP, va_K.moved hW.alike hK, hD⟩, hS.F ht⟩) hS.2.2 dX0_isRoundedAway_61
        · refine lv_iload_n hx hb dX0_isRoundedAway_52 rfl (lv_at hl 3 rfl) ?_
          refine lv_if_eq (tgt := 60) hx hb dX0_isRoundedAway_53 (by decide) (fun c_53 => ?_) (fun c_53 => ?_)
          · refine lv_iconst (v := 0) hx hb dX0_isRoundedAway_60 (by decide) ?_
            rw [hQQ]
            exact W.zret (v := 0) hx hb hr rfl (fun t ht hW => ⟨⟨0, g3, rfl, (by rw [fk_aw, if_neg c_1, if_neg c_8, if_pos (by omega), if_neg (fun q => q.elim c_49 (fun z => z c_53))]), by rw [ht]; exact hP, va_K.moved hW.alike hK, hD⟩, hS.F ht⟩) hS.2.2 dX0_isRoundedAway_61
          · refine lv_iconst (v := 1) hx hb dX0_isRoundedAway_56 (by decide) ?_
            refine lv_goto (tgt := 61) hx hb dX0_isRoundedAway_57 (by decide) ?_
            rw [hQQ]
            exact W.zret (v := 1) hx hb hr rfl (fun t ht hW => ⟨⟨1, g3, rfl, (by rw [fk_aw, if_neg c_1, if_neg c_8, if_pos (by omega), if_pos (Or.inr c_53)]), by rw [ht]; exact hP, va_K.moved hW.alike hK, hD⟩, hS.F ht⟩) hS.2.2 dX0_isRoundedAway_61
    · refine lv_iload_n hx hb dX0_isRoundedAway_11 rfl (lv_at hl 2 rfl) ?_
      rw [hQQ]
      exact W.zret (v := ng) hx hb hr (by rcases hng with q | q <;> rw [q] <;> rfl) (fun t ht hW => ⟨⟨ng, f1, rfl, (by rw [fk_aw, if_neg c_1, if_pos c_8]), by rw [ht]; exact hP, va_K.moved hW.alike hK, hD⟩, hS.F ht⟩) hS.2.2 dX0_isRoundedAway_12
  · refine lv_iconst (v := 0) hx hb dX0_isRoundedAway_4 (by decide) ?_
    rw [hQQ]
    exact W.zret (v := 0) hx hb hr rfl (fun t ht hW => ⟨⟨0, f1, rfl, (by rw [fk_aw, if_pos c_1]), by rw [ht]; exact hP, va_K.moved hW.alike hK, hD⟩, hS.F ht⟩) hS.2.2 dX0_isRoundedAway_5
theorem fk_up01 (rd : Int32) (a b : Int) : fk_up rd a b = 0 ∨ fk_up rd a b = 1 := by
  rw [fk_up, fk_aw]
  repeat' split
  all_goals first | exact Or.inl rfl | exact Or.inr rfl
abbrev rmX0_round : Room := { frames := 4, cells := 0, slots := 0, locals := 95 }
set_option maxHeartbeats 4000000 in
set_option maxRecDepth 100000 in
/-- Fraction.round -/
theorem kX0_round {l : Launch} {D : va_G} {cJ cC cI cZ cK : ClassId} (sz : Nat) (ad : Nat → Nat) (tl : va_W) (kd : Nat → Option Nat) (kc lo : Int32) (ch : Nat → Int32) (ts : Int32) (f1 f2 f3 f4 f5 : Nat → Int64) (rd : Int32) (a b : Int) (hRa : fk_R a f1) (hRb : fk_R b f2) (hI : fk_In a ∧ fk_In (-a)) (hb0 : 0 < b) (hIb : fk_In b) (hIb2 : fk_In (2 * b)) : Met l yX0_round wsX0_round rmX0_round (va_Pc [.ref (ad 3), .int rd, .ref (ad 13)] (fk_pre D (fk_ty cJ cC cI cZ cK) (fk_wx cJ cC cK ad kd kc lo ch ts f1 f2 f3 f4 f5 ++ tl) sz)) (va_Qi (fun (r : Int32) (u : (Nat → Int64) × (Nat → Int64)) => r = (if a % b = 0 then 1 else 0) ∧ fk_R (fk_round rd a b) u.2) (fk_Bd D (fk_ty cJ cC cI cZ cK) (va_A (fk_wx cJ cC cK ad kd kc lo ch ts f1 f2 f3 f4 f5 ++ tl) sz) (fun u : (Nat → Int64) × (Nat → Int64) => fk_wx cJ cC cK ad kd kc lo ch ts u.1 f2 f3 f4 u.2 ++ tl)) (va_A (fk_wx cJ cC cK ad kd kc lo ch ts f1 f2 f3 f4 f5 ++ tl) sz)) 0 0 (va_A (fk_wx cJ cC cK ad kd kc lo ch ts f1 f2 f3 f4 f5 ++ tl) sz) := by
  refine fk_ofW cX0_round 5 (some .boolean) (fun A => va_Qi (fun (r : Int32) (u : (Nat → Int64) × (Nat → Int64)) => r = (if a % b = 0 then 1 else 0) ∧ fk_R (fk_round rd a b) u.2) (fk_Bd D (fk_ty cJ cC cI cZ cK) A (fun u : (Nat → Int64) × (Nat → Int64) => fk_wx cJ cC cK ad kd kc lo ch ts u.1 f2 f3 f4 u.2 ++ tl)) A) rfl (by decide) (Nat.le_of_ble_eq_true rfl) ?_
  intro p e s m below meth c A ls args QQ hQQ hAt hP hK hN hD hA hS hl
  obtain ⟨⟨hx, hb, hml, hown, hts⟩, hr, hlocks, hin⟩ := hAt
  have hl : lv_has ls 5 [(0, .ref (ad 3)), (1, .int rd), (2, .ref (ad 13))] := hl
  have k1 := hts (.fieldLink RX0 12 "FixedKinds$Fraction" "above" "LFixedKinds$Whole;") (by decide +kernel)
  have k2 := (by decide +kernel : ∀ w ∈ u_ws RX0 TX0 2, w ∈ wsX0_round)
  have k3 := hN _ fkn_X0_51
  have k4 := hts (.initialized RX2) (by decide +kernel)
  have k5 := hts (.instanceMethod yX2_isNegative) (by decide +kernel)
  have k6 := hts (.selects RX2 yX2_isNegative yX2_isNegative) (by decide +kernel)
  have k7 := hts (.fieldLink RX0 18 "FixedKinds$Fraction" "below" "LFixedKinds$Whole;") (by decide +kernel)
  have k8 := hN _ fkn_X0_64
  have k9 := hts (.instanceMethod yX2_divide) (by decide +kernel)
  have k10 := hts (.selects RX2 yX2_divide yX2_divide) (by decide +kernel)
  have k11 := hN _ fkn_X0_47
  have k12 := hts (.instanceMethod yX2_isZero) (by decide +kernel)
  have k13 := hts (.selects RX2 yX2_isZero yX2_isZero) (by decide +kernel)
  have k14 := hts (.constantLong RX0 62 (-1)) (by decide +kernel)
  have k15 := hN _ fkn_X0_35
  have k16 := hts (.instanceMethod yX2_scale) (by decide +kernel)
  have k17 := hts (.selects RX2 yX2_scale yX2_scale) (by decide +kernel)
  have k18 := hN _ fkn_X0_68
  have k19 := hts (.instanceMethod yX2_isOdd) (by decide +kernel)
  have k20 := hts (.selects RX2 yX2_isOdd yX2_isOdd) (by decide +kernel)
  have k21 := hN _ fkn_X0_44
  have k22 := hts (.instanceMethod yX2_grow) (by decide +kernel)
  have k23 := hts (.selects RX2 yX2_grow yX2_grow) (by decide +kernel)
  obtain ⟨hI, hIn⟩ := hI
  obtain ⟨hIa1, hIa2⟩ := id hI
  obtain ⟨hIn1, hIn2⟩ := id hIn
  refine lv_aload_n hx hb dX0_round_0 rfl (lv_at hl 0 rfl) ?_
  refine va_get (D := D) (ci := 1) (v := .ref (ad 4)) (C := RX0) (T := TX0) (N := 2) hx hb hts k2 hown hK hP 3 rfl rfl 0 (by decide) k1 (fun _ h9 => h9) rfl dX0_round_1 ?_
  refine fk_ci hD hS hA (va_runVN (As := []) (rest := []) ⟨hx, hb, hml, hown, hts⟩ (kX2_isNegative _ _ (ad 4) (ad 5) 4 5 f1 (a) rfl rfl hRa hI) ⟨va_cnB 0 hts gX0_round_X2_isNegative_n51 rfl rfl rfl k3 k4 (by decide +kernel) ⟨Nat.le_of_ble_eq_true rfl, Nat.le_of_ble_eq_true rfl⟩, k5, k6⟩ (fk_preV 4 3 hK hN hP hD rfl rfl) rfl rfl hl.1 rfl (lv_room (Nat.le_of_ble_eq_true rfl)) dX0_round_4 ⟨Nat.le_of_ble_eq_true rfl, Nat.le_of_ble_eq_true rfl⟩) (fun r1 u H locs hw hP hD hS => ?_)
  have hP : va_P D vwCl (fk_wx cJ cC cK ad kd kc lo ch ts f1 f2 f3 f4 f5 ++ tl) H := hP
  have hD : va_D A (fk_wx cJ cC cK ad kd kc lo ch ts f1 f2 f3 f4 f5 ++ tl) := hD
  have z0 := hw
  refine lv_istore_n (lv' := [(3, .int r1), (0, .ref (ad 3)), (1, .int rd), (2, .ref (ad 13))]) hx hb dX0_round_7 rfl hl (by decide) rfl (fun ls hl => ?_)
  refine lv_iload_n hx hb dX0_round_8 rfl (lv_at hl 0 rfl) ?_
  refine lv_if_eq (tgt := 22) hx hb dX0_round_9 (by decide) (fun c_9 => ?_) (fun c_9 => ?_)
  · have p_c_9 : ¬ (a < 0) := by intro q; rw [z0, if_pos q] at c_9; exact absurd c_9 (by decide)
    have hAe : fk_abs a = a := by rw [fk_abs, if_neg p_c_9]
    have hA0 : 0 ≤ fk_abs a := by rw [hAe]; omega
    have hAI : fk_In (fk_abs a) := by rw [hAe]; exact ⟨by omega, by omega⟩
    rw [← hAe] at hRa
    refine lv_aload_n hx hb dX0_round_22 rfl (lv_at hl 1 rfl) ?_
    refine va_get (D := D) (ci := 1) (v := .ref (ad 4)) (C := RX0) (T := TX0) (N := 2) hx hb hts k2 hown hK hP 3 rfl rfl 0 (by decide) k1 (fun _ h9 => h9) rfl dX0_round_23 ?_
    refine lv_aload_n hx hb dX0_round_26 rfl (lv_at hl 1 rfl) ?_
    refine va_get (D := D) (ci := 1) (v := .ref (ad 6)) (C := RX0) (T := TX0) (N := 2) hx hb hts k2 hown hK hP 3 rfl rfl 1 (by decide) k7 (fun _ h9 => h9) rfl dX0_round_27 ?_
    refine lv_aload_n hx hb dX0_round_30 rfl (lv_at hl 3 rfl) ?_
    refine fk_cv hD hS hA (va_runVN (As := [.ref (ad 6), .ref (ad 13)]) (rest := []) ⟨hx, hb, hml, hown, hts⟩ (kX2_divide _ _ (ad 4) (ad 5) (ad 6) (ad 7) (ad 13) (ad 14) 4 5 6 7 13 14 f1 f2 f5 (fk_abs a) b rfl rfl rfl rfl rfl rfl (by decide) (by decide) (by decide) hRa hAI hA0 hRb hb0 hIb) ⟨va_cnB 2 hts gX0_round_X2_divide_n64 rfl rfl rfl k8 k4 (by decide +kernel) ⟨Nat.le_of_ble_eq_true rfl, Nat.le_of_ble_eq_true rfl⟩, k9, k10⟩ (fk_preV 4 3 hK hN hP hD rfl rfl) rfl rfl hl.1 rfl (lv_room (Nat.le_of_ble_eq_true rfl)) dX0_round_31 ⟨Nat.le_of_ble_eq_true rfl, Nat.le_of_ble_eq_true rfl⟩) (fun u4 H locs hw hP hD hS => ?_)
    have hP : va_P D vwCl (fk_wx cJ cC cK ad kd kc lo ch ts u4.1 f2 f3 f4 u4.2 ++ tl) H := hP
    have hD : va_D A (fk_wx cJ cC cK ad kd kc lo ch ts u4.1 f2 f3 f4 u4.2 ++ tl) := hD
    obtain ⟨hrem, hquo⟩ := hw
    have hm0 := Int.emod_nonneg (fk_abs a) (show b ≠ 0 by omega)
    have hm1 := Int.emod_lt_of_pos (fk_abs a) hb0
    have hmI : fk_In (fk_abs a % b) := ⟨by omega, by have := hIb.2; omega⟩
    have hq0 : 0 ≤ fk_abs a / b := Int.ediv_nonneg hA0 (by omega)
    refine lv_aload_n hx hb dX0_round_34 rfl (lv_at hl 1 rfl) ?_
    refine va_get (D := D) (ci := 1) (v := .ref (ad 4)) (C := RX0) (T := TX0) (N := 2) hx hb hts k2 hown hK hP 3 rfl rfl 0 (by decide) k1 (fun _ h9 => h9) rfl dX0_round_35 ?_
    refine fk_ci hD hS hA (va_runVN (As := []) (rest := []) ⟨hx, hb, hml, hown, hts⟩ (kX2_isZero _ _ (ad 4) (ad 5) 4 5 u4.1 (fk_abs a % b) rfl rfl hrem hmI) ⟨va_cnB 0 hts gX0_round_X2_isZero_n47 rfl rfl rfl k11 k4 (by decide +kernel) ⟨Nat.le_of_ble_eq_true rfl, Nat.le_of_ble_eq_true rfl⟩, k12, k13⟩ (fk_preV 4 3 hK hN hP hD rfl rfl) rfl rfl hl.1 rfl (lv_room (Nat.le_of_ble_eq_true rfl)) dX0_round_38 ⟨Nat.le_of_ble_eq_true rfl, Nat.le_of_ble_eq_true rfl⟩) (fun r6 u H locs hw hP hD hS => ?_)
    have hP : va_P D vwCl (fk_wx cJ cC cK ad kd kc lo ch ts u4.1 f2 f3 f4 u4.2 ++ tl) H := hP
    have hD : va_D A (fk_wx cJ cC cK ad kd kc lo ch ts u4.1 f2 f3 f4 u4.2 ++ tl) := hD
    have z1 := hw
    refine lv_istore (lv' := [(4, .int r6), (3, .int r1), (0, .ref (ad 3)), (1, .int rd), (2, .ref (ad 13))]) hx hb dX0_round_41 hl (by decide) rfl (fun ls hl => ?_)
    refine lv_iload hx hb dX0_round_43 (lv_at hl 0 rfl) ?_
    refine lv_if_ne (tgt := 66) hx hb dX0_round_45 (by decide) (fun c_45 => ?_) (fun c_45 => ?_)
    · have p_c_45 : fk_abs a % b = 0 := by by_cases q : fk_abs a % b = 0; exact q; rw [z1, if_neg q] at c_45; exact absurd rfl c_45
      have hex : a % b = 0 := (fk_abs_mod a hb0).mp p_c_45
      have hup : fk_up rd a b = 0 := by rw [fk_up, if_pos hex]
      have hv : fk_R (fk_abs a / b + (fk_up rd a b).toInt) u4.2 := by rw [hup, show (0 : Int32).toInt = 0 by decide]; simpa using hquo
      refine lv_iload_n hx hb dX0_round_66 rfl (lv_at hl 1 rfl) ?_
      refine lv_if_eq (tgt := 77) hx hb dX0_round_67 (by decide) (fun c_67 => ?_) (fun c_67 => ?_)
      · have p_c_67 : ¬ (a < 0) := by intro q; rw [z0, if_pos q] at c_67; exact absurd c_67 (by decide)
        refine lv_iload hx hb dX0_round_77 (lv_at hl 0 rfl) ?_
        rw [hQQ]
        exact W.zret (v := r6) hx hb hr (by rw [z1]; split <;> rfl) (fun t ht hW => ⟨⟨r6, (u4.1, u4.2), rfl, ⟨(by rw [z1]; by_cases q : a % b = 0; rw [if_pos q, if_pos ((fk_abs_mod a hb0).mpr q)]; rw [if_neg q, if_neg (fun z => q ((fk_abs_mod a hb0).mp z))]), (by rw [fk_round, if_neg p_c_67]; simpa using hv)⟩, by rw [ht]; exact hP, va_K.moved hW.alike hK, hD⟩, hS.F ht⟩) hS.2.2 dX0_round_79
      · have p_c_67 : a < 0 := by by_cases q : a < 0; exact q; rw [z0, if_neg q] at c_67; exact absurd rfl c_67
        refine lv_aload_n hx hb dX0_round_70 rfl (lv_at hl 4 rfl) ?_
        refine lv_ldc2 (v := (-1)) hx hb hown k14 dX0_round_71 ?_
        refine fk_cv hD hS hA (va_runVN (As := [.long (-1)]) (rest := []) ⟨hx, hb, hml, hown, hts⟩ (kX2_scale _ _ (ad 13) (ad 14) 13 14 u4.2 (-1) (fk_abs a / b + (fk_up rd a b).toInt) rfl rfl hv (by decide)) ⟨va_cnB 1 hts gX0_round_X2_scale_n35 rfl rfl rfl k15 k4 (by decide +kernel) ⟨Nat.le_of_ble_eq_true rfl, Nat.le_of_ble_eq_true rfl⟩, k16, k17⟩ (fk_preV 13 3 hK hN hP hD rfl rfl) rfl rfl hl.1 rfl (lv_room (Nat.le_of_ble_eq_true rfl)) dX0_round_74 ⟨Nat.le_of_ble_eq_true rfl, Nat.le_of_ble_eq_true rfl⟩) (fun g7 H locs hw hP hD hS => ?_)
        have hP : va_P D vwCl (fk_wx cJ cC cK ad kd kc lo ch ts u4.1 f2 f3 f4 g7 ++ tl) H := hP
        have hD : va_D A (fk_wx cJ cC cK ad kd kc lo ch ts u4.1 f2 f3 f4 g7 ++ tl) := hD
        rw [show ((-1) : Int64).toInt = (-1) by decide] at hw
        have hRg7 := hw
        refine lv_iload hx hb dX0_round_77 (lv_at hl 0 rfl) ?_
        rw [hQQ]
        exact W.zret (v := r6) hx hb hr (by rw [z1]; split <;> rfl) (fun t ht hW => ⟨⟨r6, (u4.1, g7), rfl, ⟨(by rw [z1]; by_cases q : a % b = 0; rw [if_pos q, if_pos ((fk_abs_mod a hb0).mpr q)]; rw [if_neg q, if_neg (fun z => q ((fk_abs_mod a hb0).mp z))]), (by rw [fk_round, if_pos p_c_67]; exact hRg7)⟩, by rw [ht]; exact hP, va_K.moved hW.alike hK, hD⟩, hS.F ht⟩) hS.2.2 dX0_round_79
    · have p_c_45 : ¬ (fk_abs a % b = 0) := by intro q; rw [z1, if_pos q] at c_45; exact absurd c_45 (by decide)
      have hex : ¬ a % b = 0 := fun q => p_c_45 ((fk_abs_mod a hb0).mpr q)
      refine lv_aload_n hx hb dX0_round_48 rfl (lv_at hl 2 rfl) ?_
      refine lv_iload_n hx hb dX0_round_49 rfl (lv_at hl 3 rfl) ?_
      refine lv_iload_n hx hb dX0_round_50 rfl (lv_at hl 1 rfl) ?_
      refine lv_aload_n hx hb dX0_round_51 rfl (lv_at hl 4 rfl) ?_
      refine fk_ci hD hS hA (va_runVN (As := []) (rest := [.int r1, .int rd, .ref (ad 3)]) ⟨hx, hb, hml, hown, hts⟩ (kX2_isOdd _ _ (ad 13) (ad 14) 13 14 u4.2 (fk_abs a / b) rfl rfl hquo ) ⟨va_cnB 0 hts gX0_round_X2_isOdd_n68 rfl rfl rfl k18 k4 (by decide +kernel) ⟨Nat.le_of_ble_eq_true rfl, Nat.le_of_ble_eq_true rfl⟩, k19, k20⟩ (fk_preV 13 3 hK hN hP hD rfl rfl) rfl rfl hl.1 rfl (lv_room (Nat.le_of_ble_eq_true rfl)) dX0_round_52 ⟨Nat.le_of_ble_eq_true rfl, Nat.le_of_ble_eq_true rfl⟩) (fun r9 u H locs hw hP hD hS => ?_)
      have hP : va_P D vwCl (fk_wx cJ cC cK ad kd kc lo ch ts u4.1 f2 f3 f4 u4.2 ++ tl) H := hP
      have hD : va_D A (fk_wx cJ cC cK ad kd kc lo ch ts u4.1 f2 f3 f4 u4.2 ++ tl) := hD
      have z3 := hw
      refine fk_ci hD hS hA (va_runV (As := [.int rd, .int r1, .int r9]) (rest := []) ⟨hx, hb, hml, hown, hts⟩ (kX0_isRoundedAway _ ad tl kd kc lo ch ts u4.1 f2 f3 f4 u4.2 rd r1 r9 _ b hrem hRb ⟨by have := hIb2.1; have := hIb2.2; omega, by have := hIb2.1; have := hIb2.2; omega⟩ (by rw [z0]; split <;> first | exact Or.inr rfl | exact Or.inl rfl)) (cwV 3 hts gX0_round_X0_isRoundedAway rfl rfl rfl (by decide +kernel) ⟨Nat.le_of_ble_eq_true rfl, Nat.le_of_ble_eq_true rfl⟩) (fk_preV 3 1 hK hN hP hD rfl rfl) rfl rfl hl.1 rfl (lv_room (Nat.le_of_ble_eq_true rfl)) dX0_round_55 ⟨Nat.le_of_ble_eq_true rfl, Nat.le_of_ble_eq_true rfl⟩) (fun r11 g10 H locs hw hP hD hS => ?_)
      have hP : va_P D vwCl (fk_wx cJ cC cK ad kd kc lo ch ts g10 f2 f3 f4 u4.2 ++ tl) H := hP
      have hD : va_D A (fk_wx cJ cC cK ad kd kc lo ch ts g10 f2 f3 f4 u4.2 ++ tl) := hD
      have hup : r11 = fk_up rd a b := by rw [hw, fk_up, if_neg hex, z0, z3]
      refine lv_if_eq (tgt := 66) hx hb dX0_round_58 (by decide) (fun c_58 => ?_) (fun c_58 => ?_)
      · have hup0 : fk_up rd a b = 0 := by rw [← hup]; exact c_58
        have hv : fk_R (fk_abs a / b + (fk_up rd a b).toInt) u4.2 := by rw [hup0, show (0 : Int32).toInt = 0 by decide]; simpa using hquo
        refine lv_iload_n hx hb dX0_round_66 rfl (lv_at hl 1 rfl) ?_
        refine lv_if_eq (tgt := 77) hx hb dX0_round_67 (by decide) (fun c_67 => ?_) (fun c_67 => ?_)
        · have p_c_67 : ¬ (a < 0) := by intro q; rw [z0, if_pos q] at c_67; exact absurd c_67 (by decide)
          refine lv_iload hx hb dX0_round_77 (lv_at hl 0 rfl) ?_
          rw [hQQ]
          exact W.zret (v := r6) hx hb hr (by rw [z1]; split <;> rfl) (fun t ht hW => ⟨⟨r6, (g10, u4.2), rfl, ⟨(by rw [z1]; by_cases q : a % b = 0; rw [if_pos q, if_pos ((fk_abs_mod a hb0).mpr q)]; rw [if_neg q, if_neg (fun z => q ((fk_abs_mod a hb0).mp z))]), (by rw [fk_round, if_neg p_c_67]; simpa using hv)⟩, by rw [ht]; exact hP, va_K.moved hW.alike hK, hD⟩, hS.F ht⟩) hS.2.2 dX0_round_79
        · have p_c_67 : a < 0 := by by_cases q : a < 0; exact q; rw [z0, if_neg q] at c_67; exact absurd rfl c_67
          refine lv_aload_n hx hb dX0_round_70 rfl (lv_at hl 4 rfl) ?_
          refine lv_ldc2 (v := (-1)) hx hb hown k14 dX0_round_71 ?_
          refine fk_cv hD hS hA (va_runVN (As := [.long (-1)]) (rest := []) ⟨hx, hb, hml, hown, hts⟩ (kX2_scale _ _ (ad 13) (ad 14) 13 14 u4.2 (-1) (fk_abs a / b + (fk_up rd a b).toInt) rfl rfl hv (by decide)) ⟨va_cnB 1 hts gX0_round_X2_scale_n35 rfl rfl rfl k15 k4 (by decide +kernel) ⟨Nat.le_of_ble_eq_true rfl, Nat.le_of_ble_eq_true rfl⟩, k16, k17⟩ (fk_preV 13 3 hK hN hP hD rfl rfl) rfl rfl hl.1 rfl (lv_room (Nat.le_of_ble_eq_true rfl)) dX0_round_74 ⟨Nat.le_of_ble_eq_true rfl, Nat.le_of_ble_eq_true rfl⟩) (fun g12 H locs hw hP hD hS => ?_)
          have hP : va_P D vwCl (fk_wx cJ cC cK ad kd kc lo ch ts g10 f2 f3 f4 g12 ++ tl) H := hP
          have hD : va_D A (fk_wx cJ cC cK ad kd kc lo ch ts g10 f2 f3 f4 g12 ++ tl) := hD
          rw [show ((-1) : Int64).toInt = (-1) by decide] at hw
          have hRg12 := hw
          refine lv_iload hx hb dX0_round_77 (lv_at hl 0 rfl) ?_
          rw [hQQ]
          exact W.zret (v := r6) hx hb hr (by rw [z1]; split <;> rfl) (fun t ht hW => ⟨⟨r6, (g10, g12), rfl, ⟨(by rw [z1]; by_cases q : a % b = 0; rw [if_pos q, if_pos ((fk_abs_mod a hb0).mpr q)]; rw [if_neg q, if_neg (fun z => q ((fk_abs_mod a hb0).mp z))]), (by rw [fk_round, if_pos p_c_67]; exact hRg12)⟩, by rw [ht]; exact hP, va_K.moved hW.alike hK, hD⟩, hS.F ht⟩) hS.2.2 dX0_round_79
      · have hup1 : fk_up rd a b = 1 := by
          have q : fk_up rd a b = 0 ∨ fk_up rd a b = 1 := fk_up01 rd a b
          rcases q with q | q
          · rw [q] at hup; exact absurd hup c_58
          · exact q
        refine lv_aload_n hx hb dX0_round_61 rfl (lv_at hl 4 rfl) ?_
        refine lv_lconst (v := 1) hx hb dX0_round_62 (by decide) ?_
        refine fk_cv hD hS hA (va_runVN (As := [.long 1]) (rest := []) ⟨hx, hb, hml, hown, hts⟩ (kX2_grow _ _ (ad 13) (ad 14) 13 14 u4.2 1 (fk_abs a / b) rfl rfl (fk_R_F hquo) (fk_R_T hquo) (by decide)) ⟨va_cnB 1 hts gX0_round_X2_grow_n44 rfl rfl rfl k21 k4 (by decide +kernel) ⟨Nat.le_of_ble_eq_true rfl, Nat.le_of_ble_eq_true rfl⟩, k22, k23⟩ (fk_preV 13 3 hK hN hP hD rfl rfl) rfl rfl hl.1 rfl (lv_room (Nat.le_of_ble_eq_true rfl)) dX0_round_63 ⟨Nat.le_of_ble_eq_true rfl, Nat.le_of_ble_eq_true rfl⟩) (fun g14 H locs hw hP hD hS => ?_)
        have hP : va_P D vwCl (fk_wx cJ cC cK ad kd kc lo ch ts g10 f2 f3 f4 g14 ++ tl) H := hP
        have hD : va_D A (fk_wx cJ cC cK ad kd kc lo ch ts g10 f2 f3 f4 g14 ++ tl) := hD
        rw [show (1 : Int64).toInt = 1 by decide] at hw
        have hRg14 := hw
        have hv : fk_R (fk_abs a / b + (fk_up rd a b).toInt) g14 := by rw [hup1, show (1 : Int32).toInt = 1 by decide]; exact hRg14
        refine lv_iload_n hx hb dX0_round_66 rfl (lv_at hl 1 rfl) ?_
        refine lv_if_eq (tgt := 77) hx hb dX0_round_67 (by decide) (fun c_67 => ?_) (fun c_67 => ?_)
        · have p_c_67 : ¬ (a < 0) := by intro q; rw [z0, if_pos q] at c_67; exact absurd c_67 (by decide)
          refine lv_iload hx hb dX0_round_77 (lv_at hl 0 rfl) ?_
          rw [hQQ]
          exact W.zret (v := r6) hx hb hr (by rw [z1]; split <;> rfl) (fun t ht hW => ⟨⟨r6, (g10, g14), rfl, ⟨(by rw [z1]; by_cases q : a % b = 0; rw [if_pos q, if_pos ((fk_abs_mod a hb0).mpr q)]; rw [if_neg q, if_neg (fun z => q ((fk_abs_mod a hb0).mp z))]), (by rw [fk_round, if_neg p_c_67]; simpa using hv)⟩, by rw [ht]; exact hP, va_K.moved hW.alike hK, hD⟩, hS.F ht⟩) hS.2.2 dX0_round_79
        · have p_c_67 : a < 0 := by by_cases q : a < 0; exact q; rw [z0, if_neg q] at c_67; exact absurd rfl c_67
          refine lv_aload_n hx hb dX0_round_70 rfl (lv_at hl 4 rfl) ?_
          refine lv_ldc2 (v := (-1)) hx hb hown k14 dX0_round_71 ?_
          refine fk_cv hD hS hA (va_runVN (As := [.long (-1)]) (rest := []) ⟨hx, hb, hml, hown, hts⟩ (kX2_scale _ _ (ad 13) (ad 14) 13 14 g14 (-1) (fk_abs a / b + (fk_up rd a b).toInt) rfl rfl hv (by decide)) ⟨va_cnB 1 hts gX0_round_X2_scale_n35 rfl rfl rfl k15 k4 (by decide +kernel) ⟨Nat.le_of_ble_eq_true rfl, Nat.le_of_ble_eq_true rfl⟩, k16, k17⟩ (fk_preV 13 3 hK hN hP hD rfl rfl) rfl rfl hl.1 rfl (lv_room (Nat.le_of_ble_eq_true rfl)) dX0_round_74 ⟨Nat.le_of_ble_eq_true rfl, Nat.le_of_ble_eq_true rfl⟩) (fun g16 H locs hw hP hD hS => ?_)
          have hP : va_P D vwCl (fk_wx cJ cC cK ad kd kc lo ch ts g10 f2 f3 f4 g16 ++ tl) H := hP
          have hD : va_D A (fk_wx cJ cC cK ad kd kc lo ch ts g10 f2 f3 f4 g16 ++ tl) := hD
          rw [show ((-1) : Int64).toInt = (-1) by decide] at hw
          have hRg16 := hw
          refine lv_iload hx hb dX0_round_77 (lv_at hl 0 rfl) ?_
          rw [hQQ]
          exact W.zret (v := r6) hx hb hr (by rw [z1]; split <;> rfl) (fun t ht hW => ⟨⟨r6, (g10, g16), rfl, ⟨(by rw [z1]; by_cases q : a % b = 0; rw [if_pos q, if_pos ((fk_abs_mod a hb0).mpr q)]; rw [if_neg q, if_neg (fun z => q ((fk_abs_mod a hb0).mp z))]), (by rw [fk_round, if_pos p_c_67]; exact hRg16)⟩, by rw [ht]; exact hP, va_K.moved hW.alike hK, hD⟩, hS.F ht⟩) hS.2.2 dX0_round_79
  · have p_c_9 : a < 0 := by by_cases q : a < 0; exact q; rw [z0, if_neg q] at c_9; exact absurd rfl c_9
    refine lv_aload_n hx hb dX0_round_12 rfl (lv_at hl 1 rfl) ?_
    refine va_get (D := D) (ci := 1) (v := .ref (ad 4)) (C := RX0) (T := TX0) (N := 2) hx hb hts k2 hown hK hP 3 rfl rfl 0 (by decide) k1 (fun _ h9 => h9) rfl dX0_round_13 ?_
    refine lv_ldc2 (v := (-1)) hx hb hown k14 dX0_round_16 ?_
    refine fk_cv hD hS hA (va_runVN (As := [.long (-1)]) (rest := []) ⟨hx, hb, hml, hown, hts⟩ (kX2_scale _ _ (ad 4) (ad 5) 4 5 f1 (-1) (a) rfl rfl hRa (by decide)) ⟨va_cnB 1 hts gX0_round_X2_scale_n35 rfl rfl rfl k15 k4 (by decide +kernel) ⟨Nat.le_of_ble_eq_true rfl, Nat.le_of_ble_eq_true rfl⟩, k16, k17⟩ (fk_preV 4 3 hK hN hP hD rfl rfl) rfl rfl hl.1 rfl (lv_room (Nat.le_of_ble_eq_true rfl)) dX0_round_19 ⟨Nat.le_of_ble_eq_true rfl, Nat.le_of_ble_eq_true rfl⟩) (fun g18 H locs hw hP hD hS => ?_)
    have hP : va_P D vwCl (fk_wx cJ cC cK ad kd kc lo ch ts g18 f2 f3 f4 f5 ++ tl) H := hP
    have hD : va_D A (fk_wx cJ cC cK ad kd kc lo ch ts g18 f2 f3 f4 f5 ++ tl) := hD
    rw [show ((-1) : Int64).toInt = (-1) by decide] at hw
    have hRg18 := hw
    have hAe : fk_abs a = a * -1 := by rw [fk_abs, if_pos p_c_9]; omega
    have hA0 : 0 ≤ fk_abs a := by rw [hAe]; omega
    have hAI : fk_In (fk_abs a) := by rw [hAe]; exact ⟨by omega, by omega⟩
    rw [← hAe] at hRg18
    refine lv_aload_n hx hb dX0_round_22 rfl (lv_at hl 1 rfl) ?_
    refine va_get (D := D) (ci := 1) (v := .ref (ad 4)) (C := RX0) (T := TX0) (N := 2) hx hb hts k2 hown hK hP 3 rfl rfl 0 (by decide) k1 (fun _ h9 => h9) rfl dX0_round_23 ?_
    refine lv_aload_n hx hb dX0_round_26 rfl (lv_at hl 1 rfl) ?_
    refine va_get (D := D) (ci := 1) (v := .ref (ad 6)) (C := RX0) (T := TX0) (N := 2) hx hb hts k2 hown hK hP 3 rfl rfl 1 (by decide) k7 (fun _ h9 => h9) rfl dX0_round_27 ?_
    refine lv_aload_n hx hb dX0_round_30 rfl (lv_at hl 3 rfl) ?_
    refine fk_cv hD hS hA (va_runVN (As := [.ref (ad 6), .ref (ad 13)]) (rest := []) ⟨hx, hb, hml, hown, hts⟩ (kX2_divide _ _ (ad 4) (ad 5) (ad 6) (ad 7) (ad 13) (ad 14) 4 5 6 7 13 14 g18 f2 f5 (fk_abs a) b rfl rfl rfl rfl rfl rfl (by decide) (by decide) (by decide) hRg18 hAI hA0 hRb hb0 hIb) ⟨va_cnB 2 hts gX0_round_X2_divide_n64 rfl rfl rfl k8 k4 (by decide +kernel) ⟨Nat.le_of_ble_eq_true rfl, Nat.le_of_ble_eq_true rfl⟩, k9, k10⟩ (fk_preV 4 3 hK hN hP hD rfl rfl) rfl rfl hl.1 rfl (lv_room (Nat.le_of_ble_eq_true rfl)) dX0_round_31 ⟨Nat.le_of_ble_eq_true rfl, Nat.le_of_ble_eq_true rfl⟩) (fun u22 H locs hw hP hD hS => ?_)
    have hP : va_P D vwCl (fk_wx cJ cC cK ad kd kc lo ch ts u22.1 f2 f3 f4 u22.2 ++ tl) H := hP
    have hD : va_D A (fk_wx cJ cC cK ad kd kc lo ch ts u22.1 f2 f3 f4 u22.2 ++ tl) := hD
    obtain ⟨hrem, hquo⟩ := hw
    have hm0 := Int.emod_nonneg (fk_abs a) (show b ≠ 0 by omega)
    have hm1 := Int.emod_lt_of_pos (fk_abs a) hb0
    have hmI : fk_In (fk_abs a % b) := ⟨by omega, by have := hIb.2; omega⟩
    have hq0 : 0 ≤ fk_abs a / b := Int.ediv_nonneg hA0 (by omega)
    refine lv_aload_n hx hb dX0_round_34 rfl (lv_at hl 1 rfl) ?_
    refine va_get (D := D) (ci := 1) (v := .ref (ad 4)) (C := RX0) (T := TX0) (N := 2) hx hb hts k2 hown hK hP 3 rfl rfl 0 (by decide) k1 (fun _ h9 => h9) rfl dX0_round_35 ?_
    refine fk_ci hD hS hA (va_runVN (As := []) (rest := []) ⟨hx, hb, hml, hown, hts⟩ (kX2_isZero _ _ (ad 4) (ad 5) 4 5 u22.1 (fk_abs a % b) rfl rfl hrem hmI) ⟨va_cnB 0 hts gX0_round_X2_isZero_n47 rfl rfl rfl k11 k4 (by decide +kernel) ⟨Nat.le_of_ble_eq_true rfl, Nat.le_of_ble_eq_true rfl⟩, k12, k13⟩ (fk_preV 4 3 hK hN hP hD rfl rfl) rfl rfl hl.1 rfl (lv_room (Nat.le_of_ble_eq_true rfl)) dX0_round_38 ⟨Nat.le_of_ble_eq_true rfl, Nat.le_of_ble_eq_true rfl⟩) (fun r24 u H locs hw hP hD hS => ?_)
    have hP : va_P D vwCl (fk_wx cJ cC cK ad kd kc lo ch ts u22.1 f2 f3 f4 u22.2 ++ tl) H := hP
    have hD : va_D A (fk_wx cJ cC cK ad kd kc lo ch ts u22.1 f2 f3 f4 u22.2 ++ tl) := hD
    have z1 := hw
    refine lv_istore (lv' := [(4, .int r24), (3, .int r1), (0, .ref (ad 3)), (1, .int rd), (2, .ref (ad 13))]) hx hb dX0_round_41 hl (by decide) rfl (fun ls hl => ?_)
    refine lv_iload hx hb dX0_round_43 (lv_at hl 0 rfl) ?_
    refine lv_if_ne (tgt := 66) hx hb dX0_round_45 (by decide) (fun c_45 => ?_) (fun c_45 => ?_)
    · have p_c_45 : fk_abs a % b = 0 := by by_cases q : fk_abs a % b = 0; exact q; rw [z1, if_neg q] at c_45; exact absurd rfl c_45
      have hex : a % b = 0 := (fk_abs_mod a hb0).mp p_c_45
      have hup : fk_up rd a b = 0 := by rw [fk_up, if_pos hex]
      have hv : fk_R (fk_abs a / b + (fk_up rd a b).toInt) u22.2 := by rw [hup, show (0 : Int32).toInt = 0 by decide]; simpa using hquo
      refine lv_iload_n hx hb dX0_round_66 rfl (lv_at hl 1 rfl) ?_
      refine lv_if_eq (tgt := 77) hx hb dX0_round_67 (by decide) (fun c_67 => ?_) (fun c_67 => ?_)
      · have p_c_67 : ¬ (a < 0) := by intro q; rw [z0, if_pos q] at c_67; exact absurd c_67 (by decide)
        refine lv_iload hx hb dX0_round_77 (lv_at hl 0 rfl) ?_
        rw [hQQ]
        exact W.zret (v := r24) hx hb hr (by rw [z1]; split <;> rfl) (fun t ht hW => ⟨⟨r24, (u22.1, u22.2), rfl, ⟨(by rw [z1]; by_cases q : a % b = 0; rw [if_pos q, if_pos ((fk_abs_mod a hb0).mpr q)]; rw [if_neg q, if_neg (fun z => q ((fk_abs_mod a hb0).mp z))]), (by rw [fk_round, if_neg p_c_67]; simpa using hv)⟩, by rw [ht]; exact hP, va_K.moved hW.alike hK, hD⟩, hS.F ht⟩) hS.2.2 dX0_round_79
      · have p_c_67 : a < 0 := by by_cases q : a < 0; exact q; rw [z0, if_neg q] at c_67; exact absurd rfl c_67
        refine lv_aload_n hx hb dX0_round_70 rfl (lv_at hl 4 rfl) ?_
        refine lv_ldc2 (v := (-1)) hx hb hown k14 dX0_round_71 ?_
        refine fk_cv hD hS hA (va_runVN (As := [.long (-1)]) (rest := []) ⟨hx, hb, hml, hown, hts⟩ (kX2_scale _ _ (ad 13) (ad 14) 13 14 u22.2 (-1) (fk_abs a / b + (fk_up rd a b).toInt) rfl rfl hv (by decide)) ⟨va_cnB 1 hts gX0_round_X2_scale_n35 rfl rfl rfl k15 k4 (by decide +kernel) ⟨Nat.le_of_ble_eq_true rfl, Nat.le_of_ble_eq_true rfl⟩, k16, k17⟩ (fk_preV 13 3 hK hN hP hD rfl rfl) rfl rfl hl.1 rfl (lv_room (Nat.le_of_ble_eq_true rfl)) dX0_round_74 ⟨Nat.le_of_ble_eq_true rfl, Nat.le_of_ble_eq_true rfl⟩) (fun g25 H locs hw hP hD hS => ?_)
        have hP : va_P D vwCl (fk_wx cJ cC cK ad kd kc lo ch ts u22.1 f2 f3 f4 g25 ++ tl) H := hP
        have hD : va_D A (fk_wx cJ cC cK ad kd kc lo ch ts u22.1 f2 f3 f4 g25 ++ tl) := hD
        rw [show ((-1) : Int64).toInt = (-1) by decide] at hw
        have hRg25 := hw
        refine lv_iload hx hb dX0_round_77 (lv_at hl 0 rfl) ?_
        rw [hQQ]
        exact W.zret (v := r24) hx hb hr (by rw [z1]; split <;> rfl) (fun t ht hW => ⟨⟨r24, (u22.1, g25), rfl, ⟨(by rw [z1]; by_cases q : a % b = 0; rw [if_pos q, if_pos ((fk_abs_mod a hb0).mpr q)]; rw [if_neg q, if_neg (fun z => q ((fk_abs_mod a hb0).mp z))]), (by rw [fk_round, if_pos p_c_67]; exact hRg25)⟩, by rw [ht]; exact hP, va_K.moved hW.alike hK, hD⟩, hS.F ht⟩) hS.2.2 dX0_round_79
    · have p_c_45 : ¬ (fk_abs a % b = 0) := by intro q; rw [z1, if_pos q] at c_45; exact absurd c_45 (by decide)
      have hex : ¬ a % b = 0 := fun q => p_c_45 ((fk_abs_mod a hb0).mpr q)
      refine lv_aload_n hx hb dX0_round_48 rfl (lv_at hl 2 rfl) ?_
      refine lv_iload_n hx hb dX0_round_49 rfl (lv_at hl 3 rfl) ?_
      refine lv_iload_n hx hb dX0_round_50 rfl (lv_at hl 1 rfl) ?_
      refine lv_aload_n hx hb dX0_round_51 rfl (lv_at hl 4 rfl) ?_
      refine fk_ci hD hS hA (va_runVN (As := []) (rest := [.int r1, .int rd, .ref (ad 3)]) ⟨hx, hb, hml, hown, hts⟩ (kX2_isOdd _ _ (ad 13) (ad 14) 13 14 u22.2 (fk_abs a / b) rfl rfl hquo ) ⟨va_cnB 0 hts gX0_round_X2_isOdd_n68 rfl rfl rfl k18 k4 (by decide +kernel) ⟨Nat.le_of_ble_eq_true rfl, Nat.le_of_ble_eq_true rfl⟩, k19, k20⟩ (fk_preV 13 3 hK hN hP hD rfl rfl) rfl rfl hl.1 rfl (lv_room (Nat.le_of_ble_eq_true rfl)) dX0_round_52 ⟨Nat.le_of_ble_eq_true rfl, Nat.le_of_ble_eq_true rfl⟩) (fun r27 u H locs hw hP hD hS => ?_)
      have hP : va_P D vwCl (fk_wx cJ cC cK ad kd kc lo ch ts u22.1 f2 f3 f4 u22.2 ++ tl) H := hP
      have hD : va_D A (fk_wx cJ cC cK ad kd kc lo ch ts u22.1 f2 f3 f4 u22.2 ++ tl) := hD
      have z3 := hw
      refine fk_ci hD hS hA (va_runV (As := [.int rd, .int r1, .int r27]) (rest := []) ⟨hx, hb, hml, hown, hts⟩ (kX0_isRoundedAway _ ad tl kd kc lo ch ts u22.1 f2 f3 f4 u22.2 rd r1 r27 _ b hrem hRb ⟨by have := hIb2.1; have := hIb2.2; omega, by have := hIb2.1; have := hIb2.2; omega⟩ (by rw [z0]; split <;> first | exact Or.inr rfl | exact Or.inl rfl)) (cwV 3 hts gX0_round_X0_isRoundedAway rfl rfl rfl (by decide +kernel) ⟨Nat.le_of_ble_eq_true rfl, Nat.le_of_ble_eq_true rfl⟩) (fk_preV 3 1 hK hN hP hD rfl rfl) rfl rfl hl.1 rfl (lv_room (Nat.le_of_ble_eq_true rfl)) dX0_round_55 ⟨Nat.le_of_ble_eq_true rfl, Nat.le_of_ble_eq_true rfl⟩) (fun r29 g28 H locs hw hP hD hS => ?_)
      have hP : va_P D vwCl (fk_wx cJ cC cK ad kd kc lo ch ts g28 f2 f3 f4 u22.2 ++ tl) H := hP
      have hD : va_D A (fk_wx cJ cC cK ad kd kc lo ch ts g28 f2 f3 f4 u22.2 ++ tl) := hD
      have hup : r29 = fk_up rd a b := by rw [hw, fk_up, if_neg hex, z0, z3]
      refine lv_if_eq (tgt := 66) hx hb dX0_round_58 (by decide) (fun c_58 => ?_) (fun c_58 => ?_)
      · have hup0 : fk_up rd a b = 0 := by rw [← hup]; exact c_58
        have hv : fk_R (fk_abs a / b + (fk_up rd a b).toInt) u22.2 := by rw [hup0, show (0 : Int32).toInt = 0 by decide]; simpa using hquo
        refine lv_iload_n hx hb dX0_round_66 rfl (lv_at hl 1 rfl) ?_
        refine lv_if_eq (tgt := 77) hx hb dX0_round_67 (by decide) (fun c_67 => ?_) (fun c_67 => ?_)
        · have p_c_67 : ¬ (a < 0) := by intro q; rw [z0, if_pos q] at c_67; exact absurd c_67 (by decide)
          refine lv_iload hx hb dX0_round_77 (lv_at hl 0 rfl) ?_
          rw [hQQ]
          exact W.zret (v := r24) hx hb hr (by rw [z1]; split <;> rfl) (fun t ht hW => ⟨⟨r24, (g28, u22.2), rfl, ⟨(by rw [z1]; by_cases q : a % b = 0; rw [if_pos q, if_pos ((fk_abs_mod a hb0).mpr q)]; rw [if_neg q, if_neg (fun z => q ((fk_abs_mod a hb0).mp z))]), (by rw [fk_round, if_neg p_c_67]; simpa using hv)⟩, by rw [ht]; exact hP, va_K.moved hW.alike hK, hD⟩, hS.F ht⟩) hS.2.2 dX0_round_79
        · have p_c_67 : a < 0 := by by_cases q : a < 0; exact q; rw [z0, if_neg q] at c_67; exact absurd rfl c_67
          refine lv_aload_n hx hb dX0_round_70 rfl (lv_at hl 4 rfl) ?_
          refine lv_ldc2 (v := (-1)) hx hb hown k14 dX0_round_71 ?_
          refine fk_cv hD hS hA (va_runVN (As := [.long (-1)]) (rest := []) ⟨hx, hb, hml, hown, hts⟩ (kX2_scale _ _ (ad 13) (ad 14) 13 14 u22.2 (-1) (fk_abs a / b + (fk_up rd a b).toInt) rfl rfl hv (by decide)) ⟨va_cnB 1 hts gX0_round_X2_scale_n35 rfl rfl rfl k15 k4 (by decide +kernel) ⟨Nat.le_of_ble_eq_true rfl, Nat.le_of_ble_eq_true rfl⟩, k16, k17⟩ (fk_preV 13 3 hK hN hP hD rfl rfl) rfl rfl hl.1 rfl (lv_room (Nat.le_of_ble_eq_true rfl)) dX0_round_74 ⟨Nat.le_of_ble_eq_true rfl, Nat.le_of_ble_eq_true rfl⟩) (fun g30 H locs hw hP hD hS => ?_)
          have hP : va_P D vwCl (fk_wx cJ cC cK ad kd kc lo ch ts g28 f2 f3 f4 g30 ++ tl) H := hP
          have hD : va_D A (fk_wx cJ cC cK ad kd kc lo ch ts g28 f2 f3 f4 g30 ++ tl) := hD
          rw [show ((-1) : Int64).toInt = (-1) by decide] at hw
          have hRg30 := hw
          refine lv_iload hx hb dX0_round_77 (lv_at hl 0 rfl) ?_
          rw [hQQ]
          exact W.zret (v := r24) hx hb hr (by rw [z1]; split <;> rfl) (fun t ht hW => ⟨⟨r24, (g28, g30), rfl, ⟨(by rw [z1]; by_cases q : a % b = 0; rw [if_pos q, if_pos ((fk_abs_mod a hb0).mpr q)]; rw [if_neg q, if_neg (fun z => q ((fk_abs_mod a hb0).mp z))]), (by rw [fk_round, if_pos p_c_67]; exact hRg30)⟩, by rw [ht]; exact hP, va_K.moved hW.alike hK, hD⟩, hS.F ht⟩) hS.2.2 dX0_round_79
      · have hup1 : fk_up rd a b = 1 := by
          have q : fk_up rd a b = 0 ∨ fk_up rd a b = 1 := fk_up01 rd a b
          rcases q with q | q
          · rw [q] at hup; exact absurd hup c_58
          · exact q
        refine lv_aload_n hx hb dX0_round_61 rfl (lv_at hl 4 rfl) ?_
        refine lv_lconst (v := 1) hx hb dX0_round_62 (by decide) ?_
        refine fk_cv hD hS hA (va_runVN (As := [.long 1]) (rest := []) ⟨hx, hb, hml, hown, hts⟩ (kX2_grow _ _ (ad 13) (ad 14) 13 14 u22.2 1 (fk_abs a / b) rfl rfl (fk_R_F hquo) (fk_R_T hquo) (by decide)) ⟨va_cnB 1 hts gX0_round_X2_grow_n44 rfl rfl rfl k21 k4 (by decide +kernel) ⟨Nat.le_of_ble_eq_true rfl, Nat.le_of_ble_eq_true rfl⟩, k22, k23⟩ (fk_preV 13 3 hK hN hP hD rfl rfl) rfl rfl hl.1 rfl (lv_room (Nat.le_of_ble_eq_true rfl)) dX0_round_63 ⟨Nat.le_of_ble_eq_true rfl, Nat.le_of_ble_eq_true rfl⟩) (fun g32 H locs hw hP hD hS => ?_)
        have hP : va_P D vwCl (fk_wx cJ cC cK ad kd kc lo ch ts g28 f2 f3 f4 g32 ++ tl) H := hP
        have hD : va_D A (fk_wx cJ cC cK ad kd kc lo ch ts g28 f2 f3 f4 g32 ++ tl) := hD
        rw [show (1 : Int64).toInt = 1 by decide] at hw
        have hRg32 := hw
        have hv : fk_R (fk_abs a / b + (fk_up rd a b).toInt) g32 := by rw [hup1, show (1 : Int32).toInt = 1 by decide]; exact hRg32
        refine lv_iload_n hx hb dX0_round_66 rfl (lv_at hl 1 rfl) ?_
        refine lv_if_eq (tgt := 77) hx hb dX0_round_67 (by decide) (fun c_67 => ?_) (fun c_67 => ?_)
        · have p_c_67 : ¬ (a < 0) := by intro q; rw [z0, if_pos q] at c_67; exact absurd c_67 (by decide)
          refine lv_iload hx hb dX0_round_77 (lv_at hl 0 rfl) ?_
          rw [hQQ]
          exact W.zret (v := r24) hx hb hr (by rw [z1]; split <;> rfl) (fun t ht hW => ⟨⟨r24, (g28, g32), rfl, ⟨(by rw [z1]; by_cases q : a % b = 0; rw [if_pos q, if_pos ((fk_abs_mod a hb0).mpr q)]; rw [if_neg q, if_neg (fun z => q ((fk_abs_mod a hb0).mp z))]), (by rw [fk_round, if_neg p_c_67]; simpa using hv)⟩, by rw [ht]; exact hP, va_K.moved hW.alike hK, hD⟩, hS.F ht⟩) hS.2.2 dX0_round_79
        · have p_c_67 : a < 0 := by by_cases q : a < 0; exact q; rw [z0, if_neg q] at c_67; exact absurd rfl c_67
          refine lv_aload_n hx hb dX0_round_70 rfl (lv_at hl 4 rfl) ?_
          refine lv_ldc2 (v := (-1)) hx hb hown k14 dX0_round_71 ?_
          refine fk_cv hD hS hA (va_runVN (As := [.long (-1)]) (rest := []) ⟨hx, hb, hml, hown, hts⟩ (kX2_scale _ _ (ad 13) (ad 14) 13 14 g32 (-1) (fk_abs a / b + (fk_up rd a b).toInt) rfl rfl hv (by decide)) ⟨va_cnB 1 hts gX0_round_X2_scale_n35 rfl rfl rfl k15 k4 (by decide +kernel) ⟨Nat.le_of_ble_eq_true rfl, Nat.le_of_ble_eq_true rfl⟩, k16, k17⟩ (fk_preV 13 3 hK hN hP hD rfl rfl) rfl rfl hl.1 rfl (lv_room (Nat.le_of_ble_eq_true rfl)) dX0_round_74 ⟨Nat.le_of_ble_eq_true rfl, Nat.le_of_ble_eq_true rfl⟩) (fun g34 H locs hw hP hD hS => ?_)
          have hP : va_P D vwCl (fk_wx cJ cC cK ad kd kc lo ch ts g28 f2 f3 f4 g34 ++ tl) H := hP
          have hD : va_D A (fk_wx cJ cC cK ad kd kc lo ch ts g28 f2 f3 f4 g34 ++ tl) := hD
          rw [show ((-1) : Int64).toInt = (-1) by decide] at hw
          have hRg34 := hw
          refine lv_iload hx hb dX0_round_77 (lv_at hl 0 rfl) ?_
          rw [hQQ]
          exact W.zret (v := r24) hx hb hr (by rw [z1]; split <;> rfl) (fun t ht hW => ⟨⟨r24, (g28, g34), rfl, ⟨(by rw [z1]; by_cases q : a % b = 0; rw [if_pos q, if_pos ((fk_abs_mod a hb0).mpr q)]; rw [if_neg q, if_neg (fun z => q ((fk_abs_mod a hb0).mp z))]), (by rw [fk_round, if_pos p_c_67]; exact hRg34)⟩, by rw [ht]; exact hP, va_K.moved hW.alike hK, hD⟩, hS.F ht⟩) hS.2.2 dX0_round_79
