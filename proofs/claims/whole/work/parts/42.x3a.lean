/-! FixedKinds: tests, find, by program -/
abbrev rmX3_isWidth : Room := { frames := 0, cells := 0, slots := 0, locals := 0 }
set_option maxHeartbeats 4000000 in
set_option maxRecDepth 100000 in
/-- isWidth -/
theorem kX3_isWidth {l : Launch} {D : va_G} {cJ cC cI cZ cK : ClassId} (sz : Nat) (ws : va_W) (w sg : Int32)  : Met l yX3_isWidth wsX3_isWidth rmX3_isWidth (va_Pc [.int w, .int sg] (fk_pre D (fk_ty cJ cC cI cZ cK) ws sz)) (va_Qi (fun (r : Int32) (_ : Unit) => r = if 8 ≤ w.toInt ∧ w.toInt ≤ 64 ∧ (sg = 0 → w.toInt ≤ 63) then 1 else 0) (fk_Bd D (fk_ty cJ cC cI cZ cK) (va_A ws sz) (fun _ : Unit => ws)) (va_A ws sz)) 0 0 (va_A ws sz) := by
  refine fk_ofW cX3_isWidth 2 (some .boolean) (fun A => va_Qi (fun (r : Int32) (_ : Unit) => r = if 8 ≤ w.toInt ∧ w.toInt ≤ 64 ∧ (sg = 0 → w.toInt ≤ 63) then 1 else 0) (fk_Bd D (fk_ty cJ cC cI cZ cK) A (fun _ : Unit => ws)) A) rfl (by decide) (Nat.le_of_ble_eq_true rfl) ?_
  intro p e s m below meth c A ls args QQ hQQ hAt hP hK hN hD hA hS hl
  obtain ⟨⟨hx, hb, hml, hown, hts⟩, hr, hlocks, hin⟩ := hAt
  have hl : lv_has ls 2 [(0, .int w), (1, .int sg)] := hl
  refine lv_iload_n hx hb dX3_isWidth_0 rfl (lv_at hl 0 rfl) ?_
  refine lv_bipush (v := 8) hx hb dX3_isWidth_1 (by decide) ?_
  refine lv_icmp_lt (tgt := 25) hx hb dX3_isWidth_3 (by decide) (fun c_3 => ?_) (fun c_3 => ?_)
  · rw [Int32.lt_iff_toInt_lt, show (8 : Int32).toInt = 8 by decide] at c_3
    refine lv_iconst (v := 0) hx hb dX3_isWidth_25 (by decide) ?_
    rw [hQQ]
    exact W.zret (v := 0) hx hb hr rfl (fun t ht hW => ⟨⟨0, (), rfl, (by rw [if_neg (fun q => by omega)]), by rw [ht]; exact hP, va_K.moved hW.alike hK, hD⟩, hS.F ht⟩) hS.2.2 dX3_isWidth_26
  · rw [Int32.lt_iff_toInt_lt, show (8 : Int32).toInt = 8 by decide] at c_3
    refine lv_iload_n hx hb dX3_isWidth_6 rfl (lv_at hl 0 rfl) ?_
    refine lv_iload_n hx hb dX3_isWidth_7 rfl (lv_at hl 1 rfl) ?_
    refine lv_if_eq (tgt := 16) hx hb dX3_isWidth_8 (by decide) (fun c_8 => ?_) (fun c_8 => ?_)
    · refine lv_bipush (v := 63) hx hb dX3_isWidth_16 (by decide) ?_
      refine lv_icmp_gt (tgt := 25) hx hb dX3_isWidth_18 (by decide) (fun c_18 => ?_) (fun c_18 => ?_)
      · rw [Int32.lt_iff_toInt_lt, show (63 : Int32).toInt = 63 by decide] at c_18
        refine lv_iconst (v := 0) hx hb dX3_isWidth_25 (by decide) ?_
        rw [hQQ]
        exact W.zret (v := 0) hx hb hr rfl (fun t ht hW => ⟨⟨0, (), rfl, (by rw [if_neg (fun q => by have := q.2.2 c_8; omega)]), by rw [ht]; exact hP, va_K.moved hW.alike hK, hD⟩, hS.F ht⟩) hS.2.2 dX3_isWidth_26
      · rw [Int32.lt_iff_toInt_lt, show (63 : Int32).toInt = 63 by decide] at c_18
        refine lv_iconst (v := 1) hx hb dX3_isWidth_21 (by decide) ?_
        refine lv_goto (tgt := 26) hx hb dX3_isWidth_22 (by decide) ?_
        rw [hQQ]
        exact W.zret (v := 1) hx hb hr rfl (fun t ht hW => ⟨⟨1, (), rfl, (by rw [if_pos ⟨by omega, by omega, fun _ => by omega⟩]), by rw [ht]; exact hP, va_K.moved hW.alike hK, hD⟩, hS.F ht⟩) hS.2.2 dX3_isWidth_26
    · refine lv_bipush (v := 64) hx hb dX3_isWidth_11 (by decide) ?_
      refine lv_goto (tgt := 18) hx hb dX3_isWidth_13 (by decide) ?_
      refine lv_icmp_gt (tgt := 25) hx hb dX3_isWidth_18 (by decide) (fun c_18 => ?_) (fun c_18 => ?_)
      · rw [Int32.lt_iff_toInt_lt, show (64 : Int32).toInt = 64 by decide] at c_18
        refine lv_iconst (v := 0) hx hb dX3_isWidth_25 (by decide) ?_
        rw [hQQ]
        exact W.zret (v := 0) hx hb hr rfl (fun t ht hW => ⟨⟨0, (), rfl, (by rw [if_neg (fun q => by omega)]), by rw [ht]; exact hP, va_K.moved hW.alike hK, hD⟩, hS.F ht⟩) hS.2.2 dX3_isWidth_26
      · rw [Int32.lt_iff_toInt_lt, show (64 : Int32).toInt = 64 by decide] at c_18
        refine lv_iconst (v := 1) hx hb dX3_isWidth_21 (by decide) ?_
        refine lv_goto (tgt := 26) hx hb dX3_isWidth_22 (by decide) ?_
        rw [hQQ]
        exact W.zret (v := 1) hx hb hr rfl (fun t ht hW => ⟨⟨1, (), rfl, (by rw [if_pos ⟨by omega, by omega, fun q => absurd q c_8⟩]), by rw [ht]; exact hP, va_K.moved hW.alike hK, hD⟩, hS.F ht⟩) hS.2.2 dX3_isWidth_26
abbrev rmX3_isSlope : Room := { frames := 0, cells := 0, slots := 0, locals := 0 }
set_option maxHeartbeats 4000000 in
set_option maxRecDepth 100000 in
/-- isSlope -/
theorem kX3_isSlope {l : Launch} {D : va_G} {cJ cC cI cZ cK : ClassId} (sz : Nat) (ws : va_W) (up dn : Int64)  : Met l yX3_isSlope wsX3_isSlope rmX3_isSlope (va_Pc [.long up, .long dn] (fk_pre D (fk_ty cJ cC cI cZ cK) ws sz)) (va_Qi (fun (r : Int32) (_ : Unit) => r = if (0 ≤ up.toInt ∧ up.toInt ≤ 1000) ∧ 1 ≤ dn.toInt ∧ dn.toInt ≤ 1000 then 1 else 0) (fk_Bd D (fk_ty cJ cC cI cZ cK) (va_A ws sz) (fun _ : Unit => ws)) (va_A ws sz)) 0 0 (va_A ws sz) := by
  refine fk_ofW cX3_isSlope 4 (some .boolean) (fun A => va_Qi (fun (r : Int32) (_ : Unit) => r = if (0 ≤ up.toInt ∧ up.toInt ≤ 1000) ∧ 1 ≤ dn.toInt ∧ dn.toInt ≤ 1000 then 1 else 0) (fk_Bd D (fk_ty cJ cC cI cZ cK) A (fun _ : Unit => ws)) A) rfl (by decide) (Nat.le_of_ble_eq_true rfl) ?_
  intro p e s m below meth c A ls args QQ hQQ hAt hP hK hN hD hA hS hl
  obtain ⟨⟨hx, hb, hml, hown, hts⟩, hr, hlocks, hin⟩ := hAt
  have hl : lv_has ls 4 [(0, .long up), (2, .long dn)] := hl
  have k1 := hts (.constantLong RX3 163 1000) (by decide +kernel)
  refine lv_lload_n hx hb dX3_isSlope_0 rfl (lv_at hl 0 rfl) ?_
  refine lv_lconst (v := 0) hx hb dX3_isSlope_1 (by decide) ?_
  refine W.lcmp hx hb dX3_isSlope_2 ?_
  refine lv_if_lt (tgt := 32) hx hb dX3_isSlope_3 (by decide) (fun c_3 => ?_) (fun c_3 => ?_)
  · rw [lg_cmp_lt] at c_3
    rw [Int64.lt_iff_toInt_lt, show (0 : Int64).toInt = 0 by decide] at c_3
    refine lv_iconst (v := 0) hx hb dX3_isSlope_32 (by decide) ?_
    rw [hQQ]
    exact W.zret (v := 0) hx hb hr rfl (fun t ht hW => ⟨⟨0, (), rfl, (by rw [if_neg (by omega)]), by rw [ht]; exact hP, va_K.moved hW.alike hK, hD⟩, hS.F ht⟩) hS.2.2 dX3_isSlope_33
  · rw [lg_cmp_lt] at c_3
    rw [Int64.lt_iff_toInt_lt, show (0 : Int64).toInt = 0 by decide] at c_3
    refine lv_lload_n hx hb dX3_isSlope_6 rfl (lv_at hl 0 rfl) ?_
    refine lv_ldc2 (v := 1000) hx hb hown k1 dX3_isSlope_7 ?_
    refine W.lcmp hx hb dX3_isSlope_10 ?_
    refine lv_if_gt (tgt := 32) hx hb dX3_isSlope_11 (by decide) (fun c_11 => ?_) (fun c_11 => ?_)
    · rw [lg_cmp_gt] at c_11
      rw [Int64.lt_iff_toInt_lt, show (1000 : Int64).toInt = 1000 by decide] at c_11
      refine lv_iconst (v := 0) hx hb dX3_isSlope_32 (by decide) ?_
      rw [hQQ]
      exact W.zret (v := 0) hx hb hr rfl (fun t ht hW => ⟨⟨0, (), rfl, (by rw [if_neg (by omega)]), by rw [ht]; exact hP, va_K.moved hW.alike hK, hD⟩, hS.F ht⟩) hS.2.2 dX3_isSlope_33
    · rw [lg_cmp_gt] at c_11
      rw [Int64.lt_iff_toInt_lt, show (1000 : Int64).toInt = 1000 by decide] at c_11
      refine lv_lload_n hx hb dX3_isSlope_14 rfl (lv_at hl 1 rfl) ?_
      refine lv_lconst (v := 1) hx hb dX3_isSlope_15 (by decide) ?_
      refine W.lcmp hx hb dX3_isSlope_16 ?_
      refine lv_if_lt (tgt := 32) hx hb dX3_isSlope_17 (by decide) (fun c_17 => ?_) (fun c_17 => ?_)
      · rw [lg_cmp_lt] at c_17
        rw [Int64.lt_iff_toInt_lt, show (1 : Int64).toInt = 1 by decide] at c_17
        refine lv_iconst (v := 0) hx hb dX3_isSlope_32 (by decide) ?_
        rw [hQQ]
        exact W.zret (v := 0) hx hb hr rfl (fun t ht hW => ⟨⟨0, (), rfl, (by rw [if_neg (by omega)]), by rw [ht]; exact hP, va_K.moved hW.alike hK, hD⟩, hS.F ht⟩) hS.2.2 dX3_isSlope_33
      · rw [lg_cmp_lt] at c_17
        rw [Int64.lt_iff_toInt_lt, show (1 : Int64).toInt = 1 by decide] at c_17
        refine lv_lload_n hx hb dX3_isSlope_20 rfl (lv_at hl 1 rfl) ?_
        refine lv_ldc2 (v := 1000) hx hb hown k1 dX3_isSlope_21 ?_
        refine W.lcmp hx hb dX3_isSlope_24 ?_
        refine lv_if_gt (tgt := 32) hx hb dX3_isSlope_25 (by decide) (fun c_25 => ?_) (fun c_25 => ?_)
        · rw [lg_cmp_gt] at c_25
          rw [Int64.lt_iff_toInt_lt, show (1000 : Int64).toInt = 1000 by decide] at c_25
          refine lv_iconst (v := 0) hx hb dX3_isSlope_32 (by decide) ?_
          rw [hQQ]
          exact W.zret (v := 0) hx hb hr rfl (fun t ht hW => ⟨⟨0, (), rfl, (by rw [if_neg (by omega)]), by rw [ht]; exact hP, va_K.moved hW.alike hK, hD⟩, hS.F ht⟩) hS.2.2 dX3_isSlope_33
        · rw [lg_cmp_gt] at c_25
          rw [Int64.lt_iff_toInt_lt, show (1000 : Int64).toInt = 1000 by decide] at c_25
          refine lv_iconst (v := 1) hx hb dX3_isSlope_28 (by decide) ?_
          refine lv_goto (tgt := 33) hx hb dX3_isSlope_29 (by decide) ?_
          rw [hQQ]
          exact W.zret (v := 1) hx hb hr rfl (fun t ht hW => ⟨⟨1, (), rfl, (by rw [if_pos (by omega)]), by rw [ht]; exact hP, va_K.moved hW.alike hK, hD⟩, hS.F ht⟩) hS.2.2 dX3_isSlope_33
abbrev rmX3_isOffset : Room := { frames := 0, cells := 0, slots := 0, locals := 0 }
set_option maxHeartbeats 4000000 in
set_option maxRecDepth 100000 in
/-- isOffset -/
theorem kX3_isOffset {l : Launch} {D : va_G} {cJ cC cI cZ cK : ClassId} (sz : Nat) (ws : va_W) (of : Int64)  : Met l yX3_isOffset wsX3_isOffset rmX3_isOffset (va_Pc [.long of] (fk_pre D (fk_ty cJ cC cI cZ cK) ws sz)) (va_Qi (fun (r : Int32) (_ : Unit) => r = if -1000000 ≤ of.toInt ∧ of.toInt ≤ 1000000 then 1 else 0) (fk_Bd D (fk_ty cJ cC cI cZ cK) (va_A ws sz) (fun _ : Unit => ws)) (va_A ws sz)) 0 0 (va_A ws sz) := by
  refine fk_ofW cX3_isOffset 2 (some .boolean) (fun A => va_Qi (fun (r : Int32) (_ : Unit) => r = if -1000000 ≤ of.toInt ∧ of.toInt ≤ 1000000 then 1 else 0) (fk_Bd D (fk_ty cJ cC cI cZ cK) A (fun _ : Unit => ws)) A) rfl (by decide) (Nat.le_of_ble_eq_true rfl) ?_
  intro p e s m below meth c A ls args QQ hQQ hAt hP hK hN hD hA hS hl
  obtain ⟨⟨hx, hb, hml, hown, hts⟩, hr, hlocks, hin⟩ := hAt
  have hl : lv_has ls 2 [(0, .long of)] := hl
  have k1 := hts (.constantLong RX3 165 (-1000000)) (by decide +kernel)
  have k2 := hts (.constantLong RX3 167 1000000) (by decide +kernel)
  refine lv_lload_n hx hb dX3_isOffset_0 rfl (lv_at hl 0 rfl) ?_
  refine lv_ldc2 (v := (-1000000)) hx hb hown k1 dX3_isOffset_1 ?_
  refine W.lcmp hx hb dX3_isOffset_4 ?_
  refine lv_if_lt (tgt := 20) hx hb dX3_isOffset_5 (by decide) (fun c_5 => ?_) (fun c_5 => ?_)
  · rw [lg_cmp_lt] at c_5
    rw [Int64.lt_iff_toInt_lt, show ((-1000000) : Int64).toInt = (-1000000) by decide] at c_5
    refine lv_iconst (v := 0) hx hb dX3_isOffset_20 (by decide) ?_
    rw [hQQ]
    exact W.zret (v := 0) hx hb hr rfl (fun t ht hW => ⟨⟨0, (), rfl, (by rw [if_neg (by omega)]), by rw [ht]; exact hP, va_K.moved hW.alike hK, hD⟩, hS.F ht⟩) hS.2.2 dX3_isOffset_21
  · rw [lg_cmp_lt] at c_5
    rw [Int64.lt_iff_toInt_lt, show ((-1000000) : Int64).toInt = (-1000000) by decide] at c_5
    refine lv_lload_n hx hb dX3_isOffset_8 rfl (lv_at hl 0 rfl) ?_
    refine lv_ldc2 (v := 1000000) hx hb hown k2 dX3_isOffset_9 ?_
    refine W.lcmp hx hb dX3_isOffset_12 ?_
    refine lv_if_gt (tgt := 20) hx hb dX3_isOffset_13 (by decide) (fun c_13 => ?_) (fun c_13 => ?_)
    · rw [lg_cmp_gt] at c_13
      rw [Int64.lt_iff_toInt_lt, show (1000000 : Int64).toInt = 1000000 by decide] at c_13
      refine lv_iconst (v := 0) hx hb dX3_isOffset_20 (by decide) ?_
      rw [hQQ]
      exact W.zret (v := 0) hx hb hr rfl (fun t ht hW => ⟨⟨0, (), rfl, (by rw [if_neg (by omega)]), by rw [ht]; exact hP, va_K.moved hW.alike hK, hD⟩, hS.F ht⟩) hS.2.2 dX3_isOffset_21
    · rw [lg_cmp_gt] at c_13
      rw [Int64.lt_iff_toInt_lt, show (1000000 : Int64).toInt = 1000000 by decide] at c_13
      refine lv_iconst (v := 1) hx hb dX3_isOffset_16 (by decide) ?_
      refine lv_goto (tgt := 21) hx hb dX3_isOffset_17 (by decide) ?_
      rw [hQQ]
      exact W.zret (v := 1) hx hb hr rfl (fun t ht hW => ⟨⟨1, (), rfl, (by rw [if_pos (by omega)]), by rw [ht]; exact hP, va_K.moved hW.alike hK, hD⟩, hS.F ht⟩) hS.2.2 dX3_isOffset_21
abbrev rmX3_find : Room := { frames := 0, cells := 0, slots := 0, locals := 0 }
set_option maxHeartbeats 4000000 in
set_option maxRecDepth 100000 in
/-- find -/
theorem kX3_find {l : Launch} {D : va_G} {cJ cC cI cZ cK : ClassId} (sz : Nat) (ad : Nat → Nat) (tl : va_W) (kd : Nat → Option Nat) (lo : Int32) (ch : Nat → Int32) (ts : Int32) (f1 f2 f3 f4 f5 : Nat → Int64) (n : Nat) (kf : Nat → fk_K) (ka kp : Nat → Nat) (num : Int32) (hKT : fk_KT n kf kd ka kp tl) : Met l yX3_find wsX3_find rmX3_find (va_Pc [.ref (ad 0), .int num] (fk_pre D (fk_ty cJ cC cI cZ cK) (fk_wx cJ cC cK ad kd (nI n) lo ch ts f1 f2 f3 f4 f5 ++ tl) sz)) (va_Qq (fun (r : Option Nat) (_ : Unit) => (r = none ∧ fk_no n num) ∨ ∃ j, j < n ∧ num = nI (j + 1) ∧ r = some (ka j)) (fk_Bd D (fk_ty cJ cC cI cZ cK) (va_A (fk_wx cJ cC cK ad kd (nI n) lo ch ts f1 f2 f3 f4 f5 ++ tl) sz) (fun _ : Unit => fk_wx cJ cC cK ad kd (nI n) lo ch ts f1 f2 f3 f4 f5 ++ tl)) (va_A (fk_wx cJ cC cK ad kd (nI n) lo ch ts f1 f2 f3 f4 f5 ++ tl) sz)) 0 0 (va_A (fk_wx cJ cC cK ad kd (nI n) lo ch ts f1 f2 f3 f4 f5 ++ tl) sz) := by
  refine fk_ofW cX3_find 2 (some (.object "FixedKinds$Kind")) (fun A => va_Qq (fun (r : Option Nat) (_ : Unit) => (r = none ∧ fk_no n num) ∨ ∃ j, j < n ∧ num = nI (j + 1) ∧ r = some (ka j)) (fk_Bd D (fk_ty cJ cC cI cZ cK) A (fun _ : Unit => fk_wx cJ cC cK ad kd (nI n) lo ch ts f1 f2 f3 f4 f5 ++ tl)) A) rfl (by decide) (Nat.le_of_ble_eq_true rfl) ?_
  intro p e s m below meth c A ls args QQ hQQ hAt hP hK hN hD hA hS hl
  obtain ⟨⟨hx, hb, hml, hown, hts⟩, hr, hlocks, hin⟩ := hAt
  have hl : lv_has ls 2 [(0, .ref (ad 0)), (1, .int num)] := hl
  have k1 := hts (.fieldLink RX3 15 "FixedKinds" "kindCount" "I") (by decide +kernel)
  have k2 := (by decide +kernel : ∀ w ∈ u_ws RX3 TX3 8, w ∈ wsX3_find)
  have k3 := hts (.fieldLink RX3 11 "FixedKinds" "kinds" "[LFixedKinds$Kind;") (by decide +kernel)
  have hn40 := hKT.1
  refine lv_iload_n hx hb dX3_find_0 rfl (lv_at hl 1 rfl) ?_
  refine lv_iconst (v := 1) hx hb dX3_find_1 (by decide) ?_
  refine lv_icmp_lt (tgt := 19) hx hb dX3_find_2 (by decide) (fun c_2 => ?_) (fun c_2 => ?_)
  · rw [Int32.lt_iff_toInt_lt, show (1 : Int32).toInt = 1 by decide] at c_2
    refine lv_null hx hb dX3_find_19 ?_
    rw [hQQ]
    exact W.aret (v := va_rf none) hx hb hr (Or.inl ⟨_, rfl⟩) (va_rf_or none) (fun t ht hW => ⟨⟨none, (), rfl, Or.inl ⟨rfl, Or.inl c_2⟩, by rw [ht]; exact hP, va_K.moved hW.alike hK, hD⟩, hS.F ht⟩) hS.2.2 dX3_find_20
  · rw [Int32.lt_iff_toInt_lt, show (1 : Int32).toInt = 1 by decide] at c_2
    refine lv_iload_n hx hb dX3_find_5 rfl (lv_at hl 1 rfl) ?_
    refine lv_aload_n hx hb dX3_find_6 rfl (lv_at hl 0 rfl) ?_
    refine va_get (D := D) (ci := 4) (v := .int (nI n)) (C := RX3) (T := TX3) (N := 8) hx hb hts k2 hown hK hP 0 rfl rfl 1 (by decide) k1 (fun _ h9 => h9) rfl dX3_find_7 ?_
    refine lv_icmp_gt (tgt := 19) hx hb dX3_find_10 (by decide) (fun c_10 => ?_) (fun c_10 => ?_)
    · rw [Int32.lt_iff_toInt_lt, nI_toInt (by omega)] at c_10
      refine lv_null hx hb dX3_find_19 ?_
      rw [hQQ]
      exact W.aret (v := va_rf none) hx hb hr (Or.inl ⟨_, rfl⟩) (va_rf_or none) (fun t ht hW => ⟨⟨none, (), rfl, Or.inl ⟨rfl, Or.inr c_10⟩, by rw [ht]; exact hP, va_K.moved hW.alike hK, hD⟩, hS.F ht⟩) hS.2.2 dX3_find_20
    · rw [Int32.lt_iff_toInt_lt, nI_toInt (by omega)] at c_10
      refine lv_iload_n hx hb dX3_find_13 rfl (lv_at hl 1 rfl) ?_
      refine lv_bipush (v := 40) hx hb dX3_find_14 (by decide) ?_
      refine lv_icmp_le (tgt := 21) hx hb dX3_find_16 (by decide) (fun c_16 => ?_) (fun c_16 => False.elim (absurd (Int32.le_iff_toInt_le.mpr (by rw [show (40 : Int32).toInt = 40 by decide]; omega)) c_16))
      obtain ⟨j, hj, hji⟩ : ∃ j : Nat, j < n ∧ num = nI (j + 1) := ⟨num.toInt.toNat - 1, by omega, by apply Int32.toInt_inj.mp; rw [nI_toInt (by omega)]; omega⟩
      subst hji
      refine lv_aload_n hx hb dX3_find_21 rfl (lv_at hl 0 rfl) ?_
      refine va_get (D := D) (ci := 4) (v := .ref (ad 1)) (C := RX3) (T := TX3) (N := 8) hx hb hts k2 hown hK hP 0 rfl rfl 0 (by decide) k3 (fun _ h9 => h9) rfl dX3_find_22 ?_
      refine lv_iload_n hx hb dX3_find_25 rfl (lv_at hl 1 rfl) ?_
      refine lv_iconst (v := 1) hx hb dX3_find_26 (by decide) ?_
      refine lv_isub hx hb dX3_find_27 ?_
      refine lv_topi (fun x1 ex1 => ?_)
      have ex1q : x1 = nI j := by
        rw [ex1]; exact nI_pred j
      subst ex1q
      refine fk_aldq hx hb hK hP 1 4 rfl rfl (i := j) (by omega) (by decide) dX3_find_28 ?_
      rw [hQQ]
      exact W.aret (v := va_rf (kd j)) hx hb hr (Or.inl ⟨_, rfl⟩) (va_rf_or (kd j)) (fun t ht hW => ⟨⟨(kd j), (), rfl, Or.inr ⟨j, hj, rfl, (hKT.2.1 j hj).1⟩, by rw [ht]; exact hP, va_K.moved hW.alike hK, hD⟩, hS.F ht⟩) hS.2.2 dX3_find_29
