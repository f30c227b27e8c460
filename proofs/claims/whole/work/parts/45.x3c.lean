/-! FixedKinds: putQuotientByZero, combine, by program -/
abbrev rmX3_putQuotientByZero : Room := { frames := 6, cells := 0, slots := 0, locals := 142 }
set_option maxHeartbeats 4000000 in
set_option maxRecDepth 100000 in
/-- putQuotientByZero -/
theorem kX3_putQuotientByZero {l : Launch} {D : va_G} {cJ cC cI cZ cK : ClassId} (sz : Nat) (ad : Nat → Nat) (tl : va_W) (kd : Nat → Option Nat) (kc lo : Int32) (ch : Nat → Int32) (ts : Int32) (f1 f2 f3 f4 f5 : Nat → Int64) (hk jk w : Nat) (sg ov rd : Int32) (up dn of : Int64) (a b : Int) (hqk : tl[jk]? = some (hk, .inr (2, [.int (nI w), .int sg, .long up, .long dn, .long of, .int ov, .int rd]))) (hkd : fk_kd w sg up dn of) (hRa : fk_R a f1) (hRb : fk_R b f2) (hpB : fk_pB a b) (hov : ov = 0 ∨ ov = 1 ∨ ov = 2) : Met l yX3_putQuotientByZero wsX3_putQuotientByZero rmX3_putQuotientByZero (va_Pc [.ref (ad 0), .ref hk] (fk_pre D (fk_ty cJ cC cI cZ cK) (fk_wx cJ cC cK ad kd kc lo ch ts f1 f2 f3 f4 f5 ++ tl) sz)) (va_Ql (fun (r : Int64) (_ : (Nat → Int64) × (Nat → Int64) × (Nat → Int64)) => r.toInt = if 0 < a then fk_most w sg else if a < 0 then fk_least w sg else fk_put w sg ov rd up dn of a b) (fk_Bd D (fk_ty cJ cC cI cZ cK) (va_A (fk_wx cJ cC cK ad kd kc lo ch ts f1 f2 f3 f4 f5 ++ tl) sz) (fun u : (Nat → Int64) × (Nat → Int64) × (Nat → Int64) => fk_wx cJ cC cK ad kd kc 1 ch ts u.1 u.2.1 f3 f4 u.2.2 ++ tl)) (va_A (fk_wx cJ cC cK ad kd kc lo ch ts f1 f2 f3 f4 f5 ++ tl) sz)) 0 0 (va_A (fk_wx cJ cC cK ad kd kc lo ch ts f1 f2 f3 f4 f5 ++ tl) sz) := by
  refine fk_ofW cX3_putQuotientByZero 5 (some .long) (fun A => va_Ql (fun (r : Int64) (_ : (Nat → Int64) × (Nat → Int64) × (Nat → Int64)) => r.toInt = if 0 < a then fk_most w sg else if a < 0 then fk_least w sg else fk_put w sg ov rd up dn of a b) (fk_Bd D (fk_ty cJ cC cI cZ cK) A (fun u : (Nat → Int64) × (Nat → Int64) × (Nat → Int64) => fk_wx cJ cC cK ad kd kc 1 ch ts u.1 u.2.1 f3 f4 u.2.2 ++ tl)) A) rfl (by decide) (Nat.le_of_ble_eq_true rfl) ?_
  intro p e s m below meth c A ls args QQ hQQ hAt hP hK hN hD hA hS hl
  obtain ⟨⟨hx, hb, hml, hown, hts⟩, hr, hlocks, hin⟩ := hAt
  have hl : lv_has ls 5 [(0, .ref (ad 0)), (1, .ref hk)] := hl
  have k1 := hts (.fieldLink RX3 33 "FixedKinds" "first" "LFixedKinds$Fraction;") (by decide +kernel)
  have k2 := (by decide +kernel : ∀ w ∈ u_ws RX3 TX3 8, w ∈ wsX3_putQuotientByZero)
  have k3 := hN _ fkn_X3_76
  have k4 := hts (.initialized RX0) (by decide +kernel)
  have k5 := hts (.instanceMethod yX0_sign) (by decide +kernel)
  have k6 := hts (.selects RX0 yX0_sign yX0_sign) (by decide +kernel)
  have k7 := hN _ fkn_X3_140
  have k8 := hts (.initialized RX1) (by decide +kernel)
  have k9 := hts (.instanceMethod yX1_least) (by decide +kernel)
  have k10 := hts (.selects RX1 yX1_least yX1_least) (by decide +kernel)
  have k11 := hts (.fieldLink RX3 19 "FixedKinds" "somethingLost" "Z") (by decide +kernel)
  have k12 := hN _ fkn_X3_144
  have k13 := hts (.instanceMethod yX1_greatest) (by decide +kernel)
  have k14 := hts (.selects RX1 yX1_greatest yX1_greatest) (by decide +kernel)
  refine lv_aload_n hx hb dX3_putQuotientByZero_0 rfl (lv_at hl 0 rfl) ?_
  refine va_get (D := D) (ci := 4) (v := .ref (ad 3)) (C := RX3) (T := TX3) (N := 8) hx hb hts k2 hown hK hP 0 rfl rfl 5 (by decide) k1 (fun _ h9 => h9) rfl dX3_putQuotientByZero_1 ?_
  refine fk_ci hD hS hA (va_runVN (As := []) (rest := []) ⟨hx, hb, hml, hown, hts⟩ (kX0_sign _ _ (ad 3) (ad 4) (ad 5) (ad 6) (ad 7) 3 4 5 6 7 f1 f2 (a) rfl rfl rfl hRa ⟨by have := hpB.1; omega, by have := hpB.1; omega⟩) ⟨va_cnB 0 hts gX3_putQuotientByZero_X0_sign_n76 rfl rfl rfl k3 k4 (by decide +kernel) ⟨Nat.le_of_ble_eq_true rfl, Nat.le_of_ble_eq_true rfl⟩, k5, k6⟩ (fk_preV 3 1 hK hN hP hD rfl rfl) rfl rfl hl.1 rfl (lv_room (Nat.le_of_ble_eq_true rfl)) dX3_putQuotientByZero_4 ⟨Nat.le_of_ble_eq_true rfl, Nat.le_of_ble_eq_true rfl⟩) (fun r1 u H locs hw hP hD hS => ?_)
  have hP : va_P D vwCl (fk_wx cJ cC cK ad kd kc lo ch ts f1 f2 f3 f4 f5 ++ tl) H := hP
  have hD : va_D A (fk_wx cJ cC cK ad kd kc lo ch ts f1 f2 f3 f4 f5 ++ tl) := hD
  have zs := hw
  refine lv_istore_n (lv' := [(2, .int r1), (0, .ref (ad 0)), (1, .ref hk)]) hx hb dX3_putQuotientByZero_7 rfl hl (by decide) rfl (fun ls hl => ?_)
  refine lv_iload_n hx hb dX3_putQuotientByZero_8 rfl (lv_at hl 0 rfl) ?_
  refine lv_if_le (tgt := 19) hx hb dX3_putQuotientByZero_9 (by decide) (fun c_9 => ?_) (fun c_9 => ?_)
  · have ha : a ≤ 0 := by
      rw [zs] at c_9
      by_cases q0 : a = 0
      · omega
      · by_cases q1 : a < 0
        · omega
        · rw [if_neg q0, if_neg q1] at c_9; exact absurd c_9 (by decide)
    refine lv_aload_n hx hb dX3_putQuotientByZero_19 rfl (lv_at hl 2 rfl) ?_
    refine fk_cl hD hS hA (va_runVN (As := []) (rest := []) ⟨hx, hb, hml, hown, hts⟩ (kX1_least _ _ hk (jk + 15) w sg ov rd up dn of (fk_tl hqk) hkd.1) ⟨va_cnB 0 hts gX3_putQuotientByZero_X1_least_n140 rfl rfl rfl k7 k8 (by decide +kernel) ⟨Nat.le_of_ble_eq_true rfl, Nat.le_of_ble_eq_true rfl⟩, k9, k10⟩ (fk_preV (jk + 15) 2 hK hN hP hD rfl (fk_tl hqk)) rfl rfl hl.1 rfl (lv_room (Nat.le_of_ble_eq_true rfl)) dX3_putQuotientByZero_20 ⟨Nat.le_of_ble_eq_true rfl, Nat.le_of_ble_eq_true rfl⟩) (fun r2 u H locs hw hP hD hS => ?_)
    have hP : va_P D vwCl (fk_wx cJ cC cK ad kd kc lo ch ts f1 f2 f3 f4 f5 ++ tl) H := hP
    have hD : va_D A (fk_wx cJ cC cK ad kd kc lo ch ts f1 f2 f3 f4 f5 ++ tl) := hD
    have hans := hw
    refine lv_lstore_n (lv' := [(3, .long r2), (2, .int r1), (0, .ref (ad 0)), (1, .ref hk)]) hx hb dX3_putQuotientByZero_23 rfl hl (by decide) rfl (fun ls hl => ?_)
    refine lv_iload_n hx hb dX3_putQuotientByZero_24 rfl (lv_at hl 1 rfl) ?_
    refine lv_if_ne (tgt := 34) hx hb dX3_putQuotientByZero_25 (by decide) (fun c_25 => ?_) (fun c_25 => ?_)
    · have ha0 : a ≠ 0 := fun q => c_25 (by rw [zs, if_pos q])
      refine lv_aload_n hx hb dX3_putQuotientByZero_34 rfl (lv_at hl 2 rfl) ?_
      refine lv_iconst (v := 1) hx hb dX3_putQuotientByZero_35 (by decide) ?_
      refine va_put (D := D) (ci := 4) (v := .int 1) (ty := (.boolean)) (C := RX3) (T := TX3) (N := 8) hx hb hts k2 tyX3 tyX3_ok nmX3 hown hK hP hD hS 0 rfl rfl 2 (by decide) k11 (fun _ h9 => h9) rfl (by decide +kernel) rfl rfl (Nat.le_of_ble_eq_true rfl) dX3_putQuotientByZero_36 (fun H locs hP hD hS => ?_)
      have hP : va_P D vwCl (fk_wx cJ cC cK ad kd kc 1 ch ts f1 f2 f3 f4 f5 ++ tl) H := hP
      have hD : va_D A (fk_wx cJ cC cK ad kd kc 1 ch ts f1 f2 f3 f4 f5 ++ tl) := hD
      refine lv_lload_n hx hb dX3_putQuotientByZero_39 rfl (lv_at hl 0 rfl) ?_
      rw [hQQ]
      exact W.lret (v := r2) hx hb hr (fun t ht hW => ⟨⟨r2, (f1, f2, f5), rfl, hans.trans (by rw [if_neg (by omega), if_pos (by omega)]), by rw [ht]; exact hP, va_K.moved hW.alike hK, hD⟩, hS.F ht⟩) hS.2.2 dX3_putQuotientByZero_40
    · have ha0 : a = 0 := by
        rw [zs] at c_25
        by_cases q0 : a = 0
        · exact q0
        · by_cases q1 : a < 0
          · rw [if_neg q0, if_pos q1] at c_25; exact absurd c_25 (by decide)
          · rw [if_neg q0, if_neg q1] at c_25; exact absurd c_25 (by decide)
      refine lv_aload_n hx hb dX3_putQuotientByZero_28 rfl (lv_at hl 2 rfl) ?_
      refine lv_aload_n hx hb dX3_putQuotientByZero_29 rfl (lv_at hl 3 rfl) ?_
      refine fk_cl hD hS hA (va_runV (As := [.ref hk]) (rest := []) ⟨hx, hb, hml, hown, hts⟩ (kX3_put _ ad tl kd kc lo ch ts f1 f2 f3 f4 f5 hk jk w sg ov rd up dn of a b hqk hkd hRa hRb hpB hov) (cwV 1 hts gX3_putQuotientByZero_X3_put rfl rfl rfl (by decide +kernel) ⟨Nat.le_of_ble_eq_true rfl, Nat.le_of_ble_eq_true rfl⟩) (fk_preV 0 4 hK hN hP hD rfl rfl) rfl rfl hl.1 rfl (lv_room (Nat.le_of_ble_eq_true rfl)) dX3_putQuotientByZero_30 ⟨Nat.le_of_ble_eq_true rfl, Nat.le_of_ble_eq_true rfl⟩) (fun r4 u3 H locs hw hP hD hS => ?_)
      have hP : va_P D vwCl (fk_wx cJ cC cK ad kd kc u3.1 ch ts u3.2.1 u3.2.2.1 f3 f4 u3.2.2.2 ++ tl) H := hP
      have hD : va_D A (fk_wx cJ cC cK ad kd kc u3.1 ch ts u3.2.1 u3.2.2.1 f3 f4 u3.2.2.2 ++ tl) := hD
      have hput := hw.1
      refine lv_lstore_n (lv' := [(3, .long r4), (2, .int r1), (0, .ref (ad 0)), (1, .ref hk)]) hx hb dX3_putQuotientByZero_33 rfl hl (by decide) rfl (fun ls hl => ?_)
      refine lv_aload_n hx hb dX3_putQuotientByZero_34 rfl (lv_at hl 2 rfl) ?_
      refine lv_iconst (v := 1) hx hb dX3_putQuotientByZero_35 (by decide) ?_
      refine va_put (D := D) (ci := 4) (v := .int 1) (ty := (.boolean)) (C := RX3) (T := TX3) (N := 8) hx hb hts k2 tyX3 tyX3_ok nmX3 hown hK hP hD hS 0 rfl rfl 2 (by decide) k11 (fun _ h9 => h9) rfl (by decide +kernel) rfl rfl (Nat.le_of_ble_eq_true rfl) dX3_putQuotientByZero_36 (fun H locs hP hD hS => ?_)
      have hP : va_P D vwCl (fk_wx cJ cC cK ad kd kc 1 ch ts u3.2.1 u3.2.2.1 f3 f4 u3.2.2.2 ++ tl) H := hP
      have hD : va_D A (fk_wx cJ cC cK ad kd kc 1 ch ts u3.2.1 u3.2.2.1 f3 f4 u3.2.2.2 ++ tl) := hD
      refine lv_lload_n hx hb dX3_putQuotientByZero_39 rfl (lv_at hl 0 rfl) ?_
      rw [hQQ]
      exact W.lret (v := r4) hx hb hr (fun t ht hW => ⟨⟨r4, (u3.2.1, u3.2.2.1, u3.2.2.2), rfl, hput.trans (by rw [if_neg (by omega), if_neg (by omega)]), by rw [ht]; exact hP, va_K.moved hW.alike hK, hD⟩, hS.F ht⟩) hS.2.2 dX3_putQuotientByZero_40
  · have ha : 0 < a := by
      rw [zs] at c_9
      by_cases q0 : a = 0
      · rw [if_pos q0] at c_9; exact absurd (by decide) c_9
      · by_cases q1 : a < 0
        · rw [if_neg q0, if_pos q1] at c_9; exact absurd (by decide) c_9
        · omega
    refine lv_aload_n hx hb dX3_putQuotientByZero_12 rfl (lv_at hl 2 rfl) ?_
    refine fk_cl hD hS hA (va_runVN (As := []) (rest := []) ⟨hx, hb, hml, hown, hts⟩ (kX1_greatest _ _ hk (jk + 15) w sg ov rd up dn of (fk_tl hqk) hkd.1) ⟨va_cnB 0 hts gX3_putQuotientByZero_X1_greatest_n144 rfl rfl rfl k12 k8 (by decide +kernel) ⟨Nat.le_of_ble_eq_true rfl, Nat.le_of_ble_eq_true rfl⟩, k13, k14⟩ (fk_preV (jk + 15) 2 hK hN hP hD rfl (fk_tl hqk)) rfl rfl hl.1 rfl (lv_room (Nat.le_of_ble_eq_true rfl)) dX3_putQuotientByZero_13 ⟨Nat.le_of_ble_eq_true rfl, Nat.le_of_ble_eq_true rfl⟩) (fun r5 u H locs hw hP hD hS => ?_)
    have hP : va_P D vwCl (fk_wx cJ cC cK ad kd kc lo ch ts f1 f2 f3 f4 f5 ++ tl) H := hP
    have hD : va_D A (fk_wx cJ cC cK ad kd kc lo ch ts f1 f2 f3 f4 f5 ++ tl) := hD
    have hans := hw
    refine lv_goto (tgt := 23) hx hb dX3_putQuotientByZero_16 (by decide) ?_
    refine lv_lstore_n (lv' := [(3, .long r5), (2, .int r1), (0, .ref (ad 0)), (1, .ref hk)]) hx hb dX3_putQuotientByZero_23 rfl hl (by decide) rfl (fun ls hl => ?_)
    refine lv_iload_n hx hb dX3_putQuotientByZero_24 rfl (lv_at hl 1 rfl) ?_
    refine lv_if_ne (tgt := 34) hx hb dX3_putQuotientByZero_25 (by decide) (fun c_25 => ?_) (fun c_25 => ?_)
    · have ha0 : a ≠ 0 := fun q => c_25 (by rw [zs, if_pos q])
      refine lv_aload_n hx hb dX3_putQuotientByZero_34 rfl (lv_at hl 2 rfl) ?_
      refine lv_iconst (v := 1) hx hb dX3_putQuotientByZero_35 (by decide) ?_
      refine va_put (D := D) (ci := 4) (v := .int 1) (ty := (.boolean)) (C := RX3) (T := TX3) (N := 8) hx hb hts k2 tyX3 tyX3_ok nmX3 hown hK hP hD hS 0 rfl rfl 2 (by decide) k11 (fun _ h9 => h9) rfl (by decide +kernel) rfl rfl (Nat.le_of_ble_eq_true rfl) dX3_putQuotientByZero_36 (fun H locs hP hD hS => ?_)
      have hP : va_P D vwCl (fk_wx cJ cC cK ad kd kc 1 ch ts f1 f2 f3 f4 f5 ++ tl) H := hP
      have hD : va_D A (fk_wx cJ cC cK ad kd kc 1 ch ts f1 f2 f3 f4 f5 ++ tl) := hD
      refine lv_lload_n hx hb dX3_putQuotientByZero_39 rfl (lv_at hl 0 rfl) ?_
      rw [hQQ]
      exact W.lret (v := r5) hx hb hr (fun t ht hW => ⟨⟨r5, (f1, f2, f5), rfl, hans.trans (by rw [if_pos ha]), by rw [ht]; exact hP, va_K.moved hW.alike hK, hD⟩, hS.F ht⟩) hS.2.2 dX3_putQuotientByZero_40
    · have ha0 : a = 0 := by
        rw [zs] at c_25
        by_cases q0 : a = 0
        · exact q0
        · by_cases q1 : a < 0
          · rw [if_neg q0, if_pos q1] at c_25; exact absurd c_25 (by decide)
          · rw [if_neg q0, if_neg q1] at c_25; exact absurd c_25 (by decide)
      refine lv_aload_n hx hb dX3_putQuotientByZero_28 rfl (lv_at hl 2 rfl) ?_
      refine lv_aload_n hx hb dX3_putQuotientByZero_29 rfl (lv_at hl 3 rfl) ?_
      refine fk_cl hD hS hA (va_runV (As := [.ref hk]) (rest := []) ⟨hx, hb, hml, hown, hts⟩ (kX3_put _ ad tl kd kc lo ch ts f1 f2 f3 f4 f5 hk jk w sg ov rd up dn of a b hqk hkd hRa hRb hpB hov) (cwV 1 hts gX3_putQuotientByZero_X3_put rfl rfl rfl (by decide +kernel) ⟨Nat.le_of_ble_eq_true rfl, Nat.le_of_ble_eq_true rfl⟩) (fk_preV 0 4 hK hN hP hD rfl rfl) rfl rfl hl.1 rfl (lv_room (Nat.le_of_ble_eq_true rfl)) dX3_putQuotientByZero_30 ⟨Nat.le_of_ble_eq_true rfl, Nat.le_of_ble_eq_true rfl⟩) (fun r7 u6 H locs hw hP hD hS => ?_)
      have hP : va_P D vwCl (fk_wx cJ cC cK ad kd kc u6.1 ch ts u6.2.1 u6.2.2.1 f3 f4 u6.2.2.2 ++ tl) H := hP
      have hD : va_D A (fk_wx cJ cC cK ad kd kc u6.1 ch ts u6.2.1 u6.2.2.1 f3 f4 u6.2.2.2 ++ tl) := hD
      have hput := hw.1
      refine lv_lstore_n (lv' := [(3, .long r7), (2, .int r1), (0, .ref (ad 0)), (1, .ref hk)]) hx hb dX3_putQuotientByZero_33 rfl hl (by decide) rfl (fun ls hl => ?_)
      refine lv_aload_n hx hb dX3_putQuotientByZero_34 rfl (lv_at hl 2 rfl) ?_
      refine lv_iconst (v := 1) hx hb dX3_putQuotientByZero_35 (by decide) ?_
      refine va_put (D := D) (ci := 4) (v := .int 1) (ty := (.boolean)) (C := RX3) (T := TX3) (N := 8) hx hb hts k2 tyX3 tyX3_ok nmX3 hown hK hP hD hS 0 rfl rfl 2 (by decide) k11 (fun _ h9 => h9) rfl (by decide +kernel) rfl rfl (Nat.le_of_ble_eq_true rfl) dX3_putQuotientByZero_36 (fun H locs hP hD hS => ?_)
      have hP : va_P D vwCl (fk_wx cJ cC cK ad kd kc 1 ch ts u6.2.1 u6.2.2.1 f3 f4 u6.2.2.2 ++ tl) H := hP
      have hD : va_D A (fk_wx cJ cC cK ad kd kc 1 ch ts u6.2.1 u6.2.2.1 f3 f4 u6.2.2.2 ++ tl) := hD
      refine lv_lload_n hx hb dX3_putQuotientByZero_39 rfl (lv_at hl 0 rfl) ?_
      rw [hQQ]
      exact W.lret (v := r7) hx hb hr (fun t ht hW => ⟨⟨r7, (u6.2.1, u6.2.2.1, u6.2.2.2), rfl, hput.trans (by rw [if_neg (by omega), if_neg (by omega)]), by rw [ht]; exact hP, va_K.moved hW.alike hK, hD⟩, hS.F ht⟩) hS.2.2 dX3_putQuotientByZero_40
abbrev rmX3_combine : Room := { frames := 4, cells := 0, slots := 0, locals := 95 }
set_option maxHeartbeats 4000000 in
set_option maxRecDepth 100000 in
/-- combine -/
theorem kX3_combine {l : Launch} {D : va_G} {cJ cC cI cZ cK : ClassId} (sz : Nat) (ad : Nat → Nat) (tl : va_W) (kd : Nat → Option Nat) (kc lo : Int32) (ch : Nat → Int32) (ts : Int32) (f1 f2 f3 f4 f5 : Nat → Int64) (op : Int32) (a b c0 d : Int) (hRa : fk_R a f1) (hRb : fk_R b f2) (hRc : fk_R c0 f3) (hRd : fk_R d f4) (hop : op = 0 ∨ op = 1 ∨ op = 2 ∨ op = 3) (hI : fk_In (b * c0)) : Met l yX3_combine wsX3_combine rmX3_combine (va_Pc [.ref (ad 0), .int op] (fk_pre D (fk_ty cJ cC cI cZ cK) (fk_wx cJ cC cK ad kd kc lo ch ts f1 f2 f3 f4 f5 ++ tl) sz)) (va_Qv (fun u : (Nat → Int64) × (Nat → Int64) × (Nat → Int64) => fk_R (fk_cN op a b c0 d) u.1 ∧ fk_R (fk_cD op b c0 d) u.2.1) (fk_Bd D (fk_ty cJ cC cI cZ cK) (va_A (fk_wx cJ cC cK ad kd kc lo ch ts f1 f2 f3 f4 f5 ++ tl) sz) (fun u : (Nat → Int64) × (Nat → Int64) × (Nat → Int64) => fk_wx cJ cC cK ad kd kc lo ch ts u.1 u.2.1 u.2.2 f4 f5 ++ tl)) (va_A (fk_wx cJ cC cK ad kd kc lo ch ts f1 f2 f3 f4 f5 ++ tl) sz)) 0 0 (va_A (fk_wx cJ cC cK ad kd kc lo ch ts f1 f2 f3 f4 f5 ++ tl) sz) := by
  refine fk_ofW cX3_combine 2 none (fun A => va_Qv (fun u : (Nat → Int64) × (Nat → Int64) × (Nat → Int64) => fk_R (fk_cN op a b c0 d) u.1 ∧ fk_R (fk_cD op b c0 d) u.2.1) (fk_Bd D (fk_ty cJ cC cI cZ cK) A (fun u : (Nat → Int64) × (Nat → Int64) × (Nat → Int64) => fk_wx cJ cC cK ad kd kc lo ch ts u.1 u.2.1 u.2.2 f4 f5 ++ tl)) A) rfl (by decide) (Nat.le_of_ble_eq_true rfl) ?_
  intro p e s m below meth c A ls args QQ hQQ hAt hP hK hN hD hA hS hl
  obtain ⟨⟨hx, hb, hml, hown, hts⟩, hr, hlocks, hin⟩ := hAt
  have hl : lv_has ls 2 [(0, .ref (ad 0)), (1, .int op)] := hl
  have k1 := hts (.fieldLink RX3 33 "FixedKinds" "first" "LFixedKinds$Fraction;") (by decide +kernel)
  have k2 := (by decide +kernel : ∀ w ∈ u_ws RX3 TX3 8, w ∈ wsX3_combine)
  have k3 := hts (.fieldLink RX3 37 "FixedKinds" "second" "LFixedKinds$Fraction;") (by decide +kernel)
  have k4 := hN _ fkn_X3_149
  have k5 := hts (.initialized RX0) (by decide +kernel)
  have k6 := hts (.instanceMethod yX0_add) (by decide +kernel)
  have k7 := hts (.selects RX0 yX0_add yX0_add) (by decide +kernel)
  have k8 := hts (.constantLong RX3 147 (-1)) (by decide +kernel)
  have k9 := hN _ fkn_X3_169
  have k10 := hts (.instanceMethod yX0_multiply) (by decide +kernel)
  have k11 := hts (.selects RX0 yX0_multiply yX0_multiply) (by decide +kernel)
  have k12 := hN _ fkn_X3_173
  have k13 := hts (.instanceMethod yX0_divide) (by decide +kernel)
  have k14 := hts (.selects RX0 yX0_divide yX0_divide) (by decide +kernel)
  refine lv_iload_n hx hb dX3_combine_0 rfl (lv_at hl 1 rfl) ?_
  rcases hop with q | q | q | q
  · subst q
    refine lv_tableIn (tgt := 28) (off := 27) hx hb dX3_combine_1 (by decide) (by decide) (by decide) (by decide) ?_
    refine lv_aload_n hx hb dX3_combine_28 rfl (lv_at hl 0 rfl) ?_
    refine va_get (D := D) (ci := 4) (v := .ref (ad 3)) (C := RX3) (T := TX3) (N := 8) hx hb hts k2 hown hK hP 0 rfl rfl 5 (by decide) k1 (fun _ h9 => h9) rfl dX3_combine_29 ?_
    refine lv_aload_n hx hb dX3_combine_32 rfl (lv_at hl 0 rfl) ?_
    refine va_get (D := D) (ci := 4) (v := .ref (ad 8)) (C := RX3) (T := TX3) (N := 8) hx hb hts k2 hown hK hP 0 rfl rfl 6 (by decide) k3 (fun _ h9 => h9) rfl dX3_combine_33 ?_
    refine lv_lconst (v := 1) hx hb dX3_combine_36 (by decide) ?_
    refine fk_cv hD hS hA (va_runVN (As := [.ref (ad 8), .long 1]) (rest := []) ⟨hx, hb, hml, hown, hts⟩ (kX0_add _ ad tl kd kc lo ch ts f1 f2 f3 f4 f5 1 a b c0 d hRa hRb hRc hRd (by decide)) ⟨va_cnB 2 hts gX3_combine_X0_add_n149 rfl rfl rfl k4 k5 (by decide +kernel) ⟨Nat.le_of_ble_eq_true rfl, Nat.le_of_ble_eq_true rfl⟩, k6, k7⟩ (fk_preV 3 1 hK hN hP hD rfl rfl) rfl rfl hl.1 rfl (lv_room (Nat.le_of_ble_eq_true rfl)) dX3_combine_37 ⟨Nat.le_of_ble_eq_true rfl, Nat.le_of_ble_eq_true rfl⟩) (fun u1 H locs hw hP hD hS => ?_)
    have hP : va_P D vwCl (fk_wx cJ cC cK ad kd kc lo ch ts u1.1 u1.2.1 u1.2.2 f4 f5 ++ tl) H := hP
    have hD : va_D A (fk_wx cJ cC cK ad kd kc lo ch ts u1.1 u1.2.1 u1.2.2 f4 f5 ++ tl) := hD
    rw [show (1 : Int64).toInt = 1 by decide] at hw
    refine lv_goto (tgt := 85) hx hb dX3_combine_40 (by decide) ?_
    rw [hQQ]
    exact W.vret hx hb hr (fun t ht hW => ⟨⟨(u1.1, u1.2.1, u1.2.2), rfl, (by show fk_R _ _ ∧ fk_R _ _; rw [fk_cN, fk_cD, if_pos rfl, if_neg (by decide)]; exact ⟨hw.1, hw.2⟩), by rw [ht]; exact hP, va_K.moved hW.alike hK, hD⟩, hS.F ht⟩) hS.2.2 dX3_combine_85
  · subst q
    refine lv_tableIn (tgt := 43) (off := 42) hx hb dX3_combine_1 (by decide) (by decide) (by decide) (by decide) ?_
    refine lv_aload_n hx hb dX3_combine_43 rfl (lv_at hl 0 rfl) ?_
    refine va_get (D := D) (ci := 4) (v := .ref (ad 3)) (C := RX3) (T := TX3) (N := 8) hx hb hts k2 hown hK hP 0 rfl rfl 5 (by decide) k1 (fun _ h9 => h9) rfl dX3_combine_44 ?_
    refine lv_aload_n hx hb dX3_combine_47 rfl (lv_at hl 0 rfl) ?_
    refine va_get (D := D) (ci := 4) (v := .ref (ad 8)) (C := RX3) (T := TX3) (N := 8) hx hb hts k2 hown hK hP 0 rfl rfl 6 (by decide) k3 (fun _ h9 => h9) rfl dX3_combine_48 ?_
    refine lv_ldc2 (v := (-1)) hx hb hown k8 dX3_combine_51 ?_
    refine fk_cv hD hS hA (va_runVN (As := [.ref (ad 8), .long (-1)]) (rest := []) ⟨hx, hb, hml, hown, hts⟩ (kX0_add _ ad tl kd kc lo ch ts f1 f2 f3 f4 f5 (-1) a b c0 d hRa hRb hRc hRd (by decide)) ⟨va_cnB 2 hts gX3_combine_X0_add_n149 rfl rfl rfl k4 k5 (by decide +kernel) ⟨Nat.le_of_ble_eq_true rfl, Nat.le_of_ble_eq_true rfl⟩, k6, k7⟩ (fk_preV 3 1 hK hN hP hD rfl rfl) rfl rfl hl.1 rfl (lv_room (Nat.le_of_ble_eq_true rfl)) dX3_combine_54 ⟨Nat.le_of_ble_eq_true rfl, Nat.le_of_ble_eq_true rfl⟩) (fun u3 H locs hw hP hD hS => ?_)
    have hP : va_P D vwCl (fk_wx cJ cC cK ad kd kc lo ch ts u3.1 u3.2.1 u3.2.2 f4 f5 ++ tl) H := hP
    have hD : va_D A (fk_wx cJ cC cK ad kd kc lo ch ts u3.1 u3.2.1 u3.2.2 f4 f5 ++ tl) := hD
    rw [show ((-1) : Int64).toInt = (-1) by decide] at hw
    refine lv_goto (tgt := 85) hx hb dX3_combine_57 (by decide) ?_
    rw [hQQ]
    exact W.vret hx hb hr (fun t ht hW => ⟨⟨(u3.1, u3.2.1, u3.2.2), rfl, (by show fk_R _ _ ∧ fk_R _ _; rw [fk_cN, fk_cD, if_neg (by decide), if_pos rfl, if_neg (by decide)]; exact ⟨hw.1, hw.2⟩), by rw [ht]; exact hP, va_K.moved hW.alike hK, hD⟩, hS.F ht⟩) hS.2.2 dX3_combine_85
  · subst q
    refine lv_tableIn (tgt := 60) (off := 59) hx hb dX3_combine_1 (by decide) (by decide) (by decide) (by decide) ?_
    refine lv_aload_n hx hb dX3_combine_60 rfl (lv_at hl 0 rfl) ?_
    refine va_get (D := D) (ci := 4) (v := .ref (ad 3)) (C := RX3) (T := TX3) (N := 8) hx hb hts k2 hown hK hP 0 rfl rfl 5 (by decide) k1 (fun _ h9 => h9) rfl dX3_combine_61 ?_
    refine lv_aload_n hx hb dX3_combine_64 rfl (lv_at hl 0 rfl) ?_
    refine va_get (D := D) (ci := 4) (v := .ref (ad 8)) (C := RX3) (T := TX3) (N := 8) hx hb hts k2 hown hK hP 0 rfl rfl 6 (by decide) k3 (fun _ h9 => h9) rfl dX3_combine_65 ?_
    refine fk_cv hD hS hA (va_runVN (As := [.ref (ad 8)]) (rest := []) ⟨hx, hb, hml, hown, hts⟩ (kX0_multiply _ ad tl kd kc lo ch ts f1 f2 f3 f4 f5 a b c0 d hRa hRb hRc hRd) ⟨va_cnB 1 hts gX3_combine_X0_multiply_n169 rfl rfl rfl k9 k5 (by decide +kernel) ⟨Nat.le_of_ble_eq_true rfl, Nat.le_of_ble_eq_true rfl⟩, k10, k11⟩ (fk_preV 3 1 hK hN hP hD rfl rfl) rfl rfl hl.1 rfl (lv_room (Nat.le_of_ble_eq_true rfl)) dX3_combine_68 ⟨Nat.le_of_ble_eq_true rfl, Nat.le_of_ble_eq_true rfl⟩) (fun u5 H locs hw hP hD hS => ?_)
    have hP : va_P D vwCl (fk_wx cJ cC cK ad kd kc lo ch ts u5.1 u5.2 f3 f4 f5 ++ tl) H := hP
    have hD : va_D A (fk_wx cJ cC cK ad kd kc lo ch ts u5.1 u5.2 f3 f4 f5 ++ tl) := hD
    refine lv_goto (tgt := 85) hx hb dX3_combine_71 (by decide) ?_
    rw [hQQ]
    exact W.vret hx hb hr (fun t ht hW => ⟨⟨(u5.1, u5.2, f3), rfl, (by show fk_R _ _ ∧ fk_R _ _; rw [fk_cN, fk_cD, if_neg (by decide), if_neg (by decide), if_pos rfl, if_neg (by decide)]; exact ⟨hw.1, hw.2⟩), by rw [ht]; exact hP, va_K.moved hW.alike hK, hD⟩, hS.F ht⟩) hS.2.2 dX3_combine_85
  · subst q
    refine lv_tableOut (tgt := 74) hx hb dX3_combine_1 (by decide) (by decide) ?_
    refine lv_aload_n hx hb dX3_combine_74 rfl (lv_at hl 0 rfl) ?_
    refine va_get (D := D) (ci := 4) (v := .ref (ad 3)) (C := RX3) (T := TX3) (N := 8) hx hb hts k2 hown hK hP 0 rfl rfl 5 (by decide) k1 (fun _ h9 => h9) rfl dX3_combine_75 ?_
    refine lv_aload_n hx hb dX3_combine_78 rfl (lv_at hl 0 rfl) ?_
    refine va_get (D := D) (ci := 4) (v := .ref (ad 8)) (C := RX3) (T := TX3) (N := 8) hx hb hts k2 hown hK hP 0 rfl rfl 6 (by decide) k3 (fun _ h9 => h9) rfl dX3_combine_79 ?_
    refine fk_cv hD hS hA (va_runVN (As := [.ref (ad 8)]) (rest := []) ⟨hx, hb, hml, hown, hts⟩ (kX0_divide _ ad tl kd kc lo ch ts f1 f2 f3 f4 f5 a b c0 d hRa hRb hRc hRd hI) ⟨va_cnB 1 hts gX3_combine_X0_divide_n173 rfl rfl rfl k12 k5 (by decide +kernel) ⟨Nat.le_of_ble_eq_true rfl, Nat.le_of_ble_eq_true rfl⟩, k13, k14⟩ (fk_preV 3 1 hK hN hP hD rfl rfl) rfl rfl hl.1 rfl (lv_room (Nat.le_of_ble_eq_true rfl)) dX3_combine_82 ⟨Nat.le_of_ble_eq_true rfl, Nat.le_of_ble_eq_true rfl⟩) (fun u7 H locs hw hP hD hS => ?_)
    have hP : va_P D vwCl (fk_wx cJ cC cK ad kd kc lo ch ts u7.1 u7.2 f3 f4 f5 ++ tl) H := hP
    have hD : va_D A (fk_wx cJ cC cK ad kd kc lo ch ts u7.1 u7.2 f3 f4 f5 ++ tl) := hD
    rw [hQQ]
    exact W.vret hx hb hr (fun t ht hW => ⟨⟨(u7.1, u7.2, f3), rfl, (by show fk_R _ _ ∧ fk_R _ _; rw [fk_cN, fk_cD, if_neg (by decide), if_neg (by decide), if_neg (by decide), if_pos rfl]; exact ⟨hw.1, hw.2⟩), by rw [ht]; exact hP, va_K.moved hW.alike hK, hD⟩, hS.F ht⟩) hS.2.2 dX3_combine_85
