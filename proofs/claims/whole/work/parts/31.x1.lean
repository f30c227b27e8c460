/-! Kind: contracts, by program -/
abbrev rmX1_least : Room := { frames := 0, cells := 0, slots := 0, locals := 0 }
set_option maxHeartbeats 4000000 in
set_option maxRecDepth 100000 in
/-- Kind.least -/
theorem kX1_least {l : Launch} {D : va_G} {cJ cC cI cZ cK : ClassId} (sz : Nat) (ws : va_W) (h0 q0 w : Nat) (sg ov rd : Int32) (up dn of : Int64) (hq0 : ws[q0]? = some (h0, .inr (2, [.int (nI w), .int sg, .long up, .long dn, .long of, .int ov, .int rd]))) (hw : fk_wd w sg) : Met l yX1_least wsX1_least rmX1_least (va_Pc [.ref h0] (fk_pre D (fk_ty cJ cC cI cZ cK) ws sz)) (va_Ql (fun (r : Int64) (_ : Unit) => r.toInt = fk_least w sg) (fk_Bd D (fk_ty cJ cC cI cZ cK) (va_A ws sz) (fun _ : Unit => ws)) (va_A ws sz)) 0 0 (va_A ws sz) := by
  refine fk_ofW cX1_least 1 (some .long) (fun A => va_Ql (fun (r : Int64) (_ : Unit) => r.toInt = fk_least w sg) (fk_Bd D (fk_ty cJ cC cI cZ cK) A (fun _ : Unit => ws)) A) rfl (by decide) (Nat.le_of_ble_eq_true rfl) ?_
  intro p e s m below meth c A ls args QQ hQQ hAt hP hK hN hD hA hS hl
  obtain ⟨⟨hx, hb, hml, hown, hts⟩, hr, hlocks, hin⟩ := hAt
  have hl : lv_has ls 1 [(0, .ref h0)] := hl
  have k1 := hts (.fieldLink RX1 15 "FixedKinds$Kind" "signed" "Z") (by decide +kernel)
  have k2 := (by decide +kernel : ∀ w ∈ u_ws RX1 TX1 7, w ∈ wsX1_least)
  have k3 := hts (.constantLong RX1 35 (-1)) (by decide +kernel)
  have k4 := hts (.fieldLink RX1 9 "FixedKinds$Kind" "width" "I") (by decide +kernel)
  obtain ⟨h8, h64, h01, hs64⟩ := hw
  refine lv_aload_n hx hb dX1_least_0 rfl (lv_at hl 0 rfl) ?_
  refine va_get (D := D) (ci := 2) (v := .int sg) (C := RX1) (T := TX1) (N := 7) hx hb hts k2 hown hK hP q0 hq0 rfl 1 (by decide) k1 (fun _ h9 => h9) rfl dX1_least_1 ?_
  refine lv_if_eq (tgt := 20) hx hb dX1_least_4 (by decide) (fun c_4 => ?_) (fun c_4 => ?_)
  · have hfin : (0 : Int64).toInt = fk_least w sg := by rw [fk_least, if_pos c_4]; decide
    refine lv_lconst (v := 0) hx hb dX1_least_20 (by decide) ?_
    rw [hQQ]
    exact W.lret (v := 0) hx hb hr (fun t ht hW => ⟨⟨0, (), rfl, hfin, by rw [ht]; exact hP, va_K.moved hW.alike hK, hD⟩, hS.F ht⟩) hS.2.2 dX1_least_21
  · refine lv_ldc2 (v := (-1)) hx hb hown k3 dX1_least_7 ?_
    refine lv_aload_n hx hb dX1_least_10 rfl (lv_at hl 0 rfl) ?_
    refine va_get (D := D) (ci := 2) (v := .int (nI w)) (C := RX1) (T := TX1) (N := 7) hx hb hts k2 hown hK hP q0 hq0 rfl 0 (by decide) k4 (fun _ h9 => h9) rfl dX1_least_11 ?_
    refine lv_iconst (v := 1) hx hb dX1_least_14 (by decide) ?_
    refine lv_isub hx hb dX1_least_15 ?_
    refine lv_topi (fun x1 ex1 => ?_)
    have ex1q : x1 = nI (w - 1) := by
      rw [ex1]; exact pk_sub (a := w) (b := 1) (by omega)
    subst ex1q
    refine lv_lshl hx hb dX1_least_16 rfl ?_
    refine lv_topl (fun x2 ex2 => ?_)
    have hfin : x2.toInt = fk_least w sg := by rw [ex2, fk_least, if_neg c_4]; exact fk_least_sh w (by omega) h8
    refine lv_goto (tgt := 21) hx hb dX1_least_17 (by decide) ?_
    rw [hQQ]
    exact W.lret (v := x2) hx hb hr (fun t ht hW => ⟨⟨x2, (), rfl, hfin, by rw [ht]; exact hP, va_K.moved hW.alike hK, hD⟩, hS.F ht⟩) hS.2.2 dX1_least_21
abbrev rmX1_greatest : Room := { frames := 1, cells := 0, slots := 0, locals := 20 }
set_option maxHeartbeats 4000000 in
set_option maxRecDepth 100000 in
/-- Kind.greatest -/
theorem kX1_greatest {l : Launch} {D : va_G} {cJ cC cI cZ cK : ClassId} (sz : Nat) (ws : va_W) (h0 q0 w : Nat) (sg ov rd : Int32) (up dn of : Int64) (hq0 : ws[q0]? = some (h0, .inr (2, [.int (nI w), .int sg, .long up, .long dn, .long of, .int ov, .int rd]))) (hw : fk_wd w sg) : Met l yX1_greatest wsX1_greatest rmX1_greatest (va_Pc [.ref h0] (fk_pre D (fk_ty cJ cC cI cZ cK) ws sz)) (va_Ql (fun (r : Int64) (_ : Unit) => r.toInt = fk_most w sg) (fk_Bd D (fk_ty cJ cC cI cZ cK) (va_A ws sz) (fun _ : Unit => ws)) (va_A ws sz)) 0 0 (va_A ws sz) := by
  refine fk_ofW cX1_greatest 1 (some .long) (fun A => va_Ql (fun (r : Int64) (_ : Unit) => r.toInt = fk_most w sg) (fk_Bd D (fk_ty cJ cC cI cZ cK) A (fun _ : Unit => ws)) A) rfl (by decide) (Nat.le_of_ble_eq_true rfl) ?_
  intro p e s m below meth c A ls args QQ hQQ hAt hP hK hN hD hA hS hl
  obtain ⟨⟨hx, hb, hml, hown, hts⟩, hr, hlocks, hin⟩ := hAt
  have hl : lv_has ls 1 [(0, .ref h0)] := hl
  have k1 := hts (.fieldLink RX1 15 "FixedKinds$Kind" "signed" "Z") (by decide +kernel)
  have k2 := (by decide +kernel : ∀ w ∈ u_ws RX1 TX1 7, w ∈ wsX1_greatest)
  have k3 := hts (.fieldLink RX1 9 "FixedKinds$Kind" "width" "I") (by decide +kernel)
  have k4 := hts (.constantLong RX1 35 (-1)) (by decide +kernel)
  have hw0 := hw
  obtain ⟨h8, h64, h01, hs64⟩ := hw
  refine lv_aload_n hx hb dX1_greatest_0 rfl (lv_at hl 0 rfl) ?_
  refine va_get (D := D) (ci := 2) (v := .int sg) (C := RX1) (T := TX1) (N := 7) hx hb hts k2 hown hK hP q0 hq0 rfl 1 (by decide) k1 (fun _ h9 => h9) rfl dX1_greatest_1 ?_
  refine lv_if_eq (tgt := 18) hx hb dX1_greatest_4 (by decide) (fun c_4 => ?_) (fun c_4 => ?_)
  · refine lv_lconst (v := 1) hx hb dX1_greatest_18 (by decide) ?_
    refine lv_aload_n hx hb dX1_greatest_19 rfl (lv_at hl 0 rfl) ?_
    refine va_get (D := D) (ci := 2) (v := .int (nI w)) (C := RX1) (T := TX1) (N := 7) hx hb hts k2 hown hK hP q0 hq0 rfl 0 (by decide) k3 (fun _ h9 => h9) rfl dX1_greatest_20 ?_
    refine lv_lshl hx hb dX1_greatest_23 rfl ?_
    refine lv_topl (fun x1 ex1 => ?_)
    refine lv_lconst (v := 1) hx hb dX1_greatest_24 (by decide) ?_
    refine lv_lsub hx hb dX1_greatest_25 ?_
    refine lv_topl (fun x2 ex2 => ?_)
    have hfin : x2.toInt = fk_most w sg := by
      have h63 : w < 64 := by
        rcases Nat.lt_or_ge w 64 with q | q
        · exact q
        · have := hs64 (by omega); rw [c_4] at this; exact absurd this (by decide)
      rw [ex2, ex1, fk_most, if_pos c_4]; exact fk_most_un w h63 h8
    rw [hQQ]
    exact W.lret (v := x2) hx hb hr (fun t ht hW => ⟨⟨x2, (), rfl, hfin, by rw [ht]; exact hP, va_K.moved hW.alike hK, hD⟩, hS.F ht⟩) hS.2.2 dX1_greatest_26
  · refine lv_aload_n hx hb dX1_greatest_7 rfl (lv_at hl 0 rfl) ?_
    refine fk_cl hD hS hA (va_runV (As := []) (rest := []) ⟨hx, hb, hml, hown, hts⟩ (kX1_least _ ws h0 q0 w sg ov rd up dn of hq0 hw0) (cwV 0 hts gX1_greatest_X1_least rfl rfl rfl (by decide +kernel) ⟨Nat.le_of_ble_eq_true rfl, Nat.le_of_ble_eq_true rfl⟩) (fk_preV q0 2 hK hN hP hD rfl hq0) rfl rfl hl.1 rfl (lv_room (Nat.le_of_ble_eq_true rfl)) dX1_greatest_8 ⟨Nat.le_of_ble_eq_true rfl, Nat.le_of_ble_eq_true rfl⟩) (fun r3 u H locs hw hP hD hS => ?_)
    have hP : va_P D vwCl ws H := hP
    have hD : va_D A ws := hD
    refine lv_ldc2 (v := (-1)) hx hb hown k4 dX1_greatest_11 ?_
    refine lv_lxor hx hb dX1_greatest_14 ?_
    refine lv_topl (fun x4 ex4 => ?_)
    have hfin : x4.toInt = fk_most w sg := by rw [ex4, fk_not, hw, fk_least, fk_most, if_neg c_4, if_neg c_4]; omega
    refine lv_goto (tgt := 26) hx hb dX1_greatest_15 (by decide) ?_
    rw [hQQ]
    exact W.lret (v := x4) hx hb hr (fun t ht hW => ⟨⟨x4, (), rfl, hfin, by rw [ht]; exact hP, va_K.moved hW.alike hK, hD⟩, hS.F ht⟩) hS.2.2 dX1_greatest_26
abbrev rmX1_isRaw : Room := { frames := 2, cells := 0, slots := 0, locals := 40 }
set_option maxHeartbeats 4000000 in
set_option maxRecDepth 100000 in
/-- Kind.isRaw -/
theorem kX1_isRaw {l : Launch} {D : va_G} {cJ cC cI cZ cK : ClassId} (sz : Nat) (ws : va_W) (h0 q0 w : Nat) (sg ov rd : Int32) (up dn of : Int64) (v : Int64) (hq0 : ws[q0]? = some (h0, .inr (2, [.int (nI w), .int sg, .long up, .long dn, .long of, .int ov, .int rd]))) (hw : fk_wd w sg) : Met l yX1_isRaw wsX1_isRaw rmX1_isRaw (va_Pc [.ref h0, .long v] (fk_pre D (fk_ty cJ cC cI cZ cK) ws sz)) (va_Qi (fun (r : Int32) (_ : Unit) => r = if fk_least w sg ≤ v.toInt ∧ v.toInt ≤ fk_most w sg then 1 else 0) (fk_Bd D (fk_ty cJ cC cI cZ cK) (va_A ws sz) (fun _ : Unit => ws)) (va_A ws sz)) 0 0 (va_A ws sz) := by
  refine fk_ofW cX1_isRaw 3 (some .boolean) (fun A => va_Qi (fun (r : Int32) (_ : Unit) => r = if fk_least w sg ≤ v.toInt ∧ v.toInt ≤ fk_most w sg then 1 else 0) (fk_Bd D (fk_ty cJ cC cI cZ cK) A (fun _ : Unit => ws)) A) rfl (by decide) (Nat.le_of_ble_eq_true rfl) ?_
  intro p e s m below meth c A ls args QQ hQQ hAt hP hK hN hD hA hS hl
  obtain ⟨⟨hx, hb, hml, hown, hts⟩, hr, hlocks, hin⟩ := hAt
  have hl : lv_has ls 3 [(0, .ref h0), (1, .long v)] := hl
  have hw0 := hw
  refine lv_lload_n hx hb dX1_isRaw_0 rfl (lv_at hl 1 rfl) ?_
  refine lv_aload_n hx hb dX1_isRaw_1 rfl (lv_at hl 0 rfl) ?_
  refine fk_cl hD hS hA (va_runV (As := []) (rest := [.long v]) ⟨hx, hb, hml, hown, hts⟩ (kX1_least _ ws h0 q0 w sg ov rd up dn of hq0 hw0) (cwV 0 hts gX1_isRaw_X1_least rfl rfl rfl (by decide +kernel) ⟨Nat.le_of_ble_eq_true rfl, Nat.le_of_ble_eq_true rfl⟩) (fk_preV q0 2 hK hN hP hD rfl hq0) rfl rfl hl.1 rfl (lv_room (Nat.le_of_ble_eq_true rfl)) dX1_isRaw_2 ⟨Nat.le_of_ble_eq_true rfl, Nat.le_of_ble_eq_true rfl⟩) (fun r1 u H locs hw hP hD hS => ?_)
  have hP : va_P D vwCl ws H := hP
  have hD : va_D A ws := hD
  have g1 := hw
  refine W.lcmp hx hb dX1_isRaw_5 ?_
  refine lv_if_lt (tgt := 22) hx hb dX1_isRaw_6 (by decide) (fun c_6 => ?_) (fun c_6 => ?_)
  · rw [lg_cmp_lt] at c_6
    rw [Int64.lt_iff_toInt_lt, g1] at c_6
    refine lv_iconst (v := 0) hx hb dX1_isRaw_22 (by decide) ?_
    rw [hQQ]
    exact W.zret (v := 0) hx hb hr rfl (fun t ht hW => ⟨⟨0, (), rfl, (by rw [if_neg (fun q => by omega)]), by rw [ht]; exact hP, va_K.moved hW.alike hK, hD⟩, hS.F ht⟩) hS.2.2 dX1_isRaw_23
  · rw [lg_cmp_lt] at c_6
    rw [Int64.lt_iff_toInt_lt, g1] at c_6
    refine lv_lload_n hx hb dX1_isRaw_9 rfl (lv_at hl 1 rfl) ?_
    refine lv_aload_n hx hb dX1_isRaw_10 rfl (lv_at hl 0 rfl) ?_
    refine fk_cl hD hS hA (va_runV (As := []) (rest := [.long v]) ⟨hx, hb, hml, hown, hts⟩ (kX1_greatest _ ws h0 q0 w sg ov rd up dn of hq0 hw0) (cwV 0 hts gX1_isRaw_X1_greatest rfl rfl rfl (by decide +kernel) ⟨Nat.le_of_ble_eq_true rfl, Nat.le_of_ble_eq_true rfl⟩) (fk_preV q0 2 hK hN hP hD rfl hq0) rfl rfl hl.1 rfl (lv_room (Nat.le_of_ble_eq_true rfl)) dX1_isRaw_11 ⟨Nat.le_of_ble_eq_true rfl, Nat.le_of_ble_eq_true rfl⟩) (fun r2 u H locs hw hP hD hS => ?_)
    have hP : va_P D vwCl ws H := hP
    have hD : va_D A ws := hD
    have g2 := hw
    refine W.lcmp hx hb dX1_isRaw_14 ?_
    refine lv_if_gt (tgt := 22) hx hb dX1_isRaw_15 (by decide) (fun c_15 => ?_) (fun c_15 => ?_)
    · rw [lg_cmp_gt] at c_15
      rw [Int64.lt_iff_toInt_lt, g2] at c_15
      refine lv_iconst (v := 0) hx hb dX1_isRaw_22 (by decide) ?_
      rw [hQQ]
      exact W.zret (v := 0) hx hb hr rfl (fun t ht hW => ⟨⟨0, (), rfl, (by rw [if_neg (fun q => by omega)]), by rw [ht]; exact hP, va_K.moved hW.alike hK, hD⟩, hS.F ht⟩) hS.2.2 dX1_isRaw_23
    · rw [lg_cmp_gt] at c_15
      rw [Int64.lt_iff_toInt_lt, g2] at c_15
      refine lv_iconst (v := 1) hx hb dX1_isRaw_18 (by decide) ?_
      refine lv_goto (tgt := 23) hx hb dX1_isRaw_19 (by decide) ?_
      rw [hQQ]
      exact W.zret (v := 1) hx hb hr rfl (fun t ht hW => ⟨⟨1, (), rfl, (by rw [if_pos ⟨by omega, by omega⟩]), by rw [ht]; exact hP, va_K.moved hW.alike hK, hD⟩, hS.F ht⟩) hS.2.2 dX1_isRaw_23
abbrev rmX1_broughtIn : Room := { frames := 0, cells := 0, slots := 0, locals := 0 }
set_option maxHeartbeats 4000000 in
set_option maxRecDepth 100000 in
/-- Kind.broughtIn -/
theorem kX1_broughtIn {l : Launch} {D : va_G} {cJ cC cI cZ cK : ClassId} (sz : Nat) (ws : va_W) (h0 q0 w : Nat) (sg ov rd : Int32) (up dn of : Int64) (v : Int64) (hq0 : ws[q0]? = some (h0, .inr (2, [.int (nI w), .int sg, .long up, .long dn, .long of, .int ov, .int rd]))) (hw : fk_wd w sg) : Met l yX1_broughtIn wsX1_broughtIn rmX1_broughtIn (va_Pc [.ref h0, .long v] (fk_pre D (fk_ty cJ cC cI cZ cK) ws sz)) (va_Ql (fun (r : Int64) (_ : Unit) => r.toInt = fk_bring w sg v.toInt) (fk_Bd D (fk_ty cJ cC cI cZ cK) (va_A ws sz) (fun _ : Unit => ws)) (va_A ws sz)) 0 0 (va_A ws sz) := by
  refine fk_ofW cX1_broughtIn 4 (some .long) (fun A => va_Ql (fun (r : Int64) (_ : Unit) => r.toInt = fk_bring w sg v.toInt) (fk_Bd D (fk_ty cJ cC cI cZ cK) A (fun _ : Unit => ws)) A) rfl (by decide) (Nat.le_of_ble_eq_true rfl) ?_
  intro p e s m below meth c A ls args QQ hQQ hAt hP hK hN hD hA hS hl
  obtain ⟨⟨hx, hb, hml, hown, hts⟩, hr, hlocks, hin⟩ := hAt
  have hl : lv_has ls 4 [(0, .ref h0), (1, .long v)] := hl
  have k1 := hts (.fieldLink RX1 9 "FixedKinds$Kind" "width" "I") (by decide +kernel)
  have k2 := (by decide +kernel : ∀ w ∈ u_ws RX1 TX1 7, w ∈ wsX1_broughtIn)
  have k3 := hts (.fieldLink RX1 15 "FixedKinds$Kind" "signed" "Z") (by decide +kernel)
  have hw0 := hw
  obtain ⟨h8, h64, h01, hs64⟩ := hw
  refine lv_bipush (v := 64) hx hb dX1_broughtIn_0 (by decide) ?_
  refine lv_aload_n hx hb dX1_broughtIn_2 rfl (lv_at hl 0 rfl) ?_
  refine va_get (D := D) (ci := 2) (v := .int (nI w)) (C := RX1) (T := TX1) (N := 7) hx hb hts k2 hown hK hP q0 hq0 rfl 0 (by decide) k1 (fun _ h9 => h9) rfl dX1_broughtIn_3 ?_
  refine lv_isub hx hb dX1_broughtIn_6 ?_
  refine lv_topi (fun x1 ex1 => ?_)
  have ex1q : x1 = nI (64 - w) := by
    rw [ex1]; exact pk_sub (a := 64) (b := w) h64
  subst ex1q
  refine lv_istore_n (lv' := [(3, .int (nI (64 - w))), (0, .ref h0), (1, .long v)]) hx hb dX1_broughtIn_7 rfl hl (by decide) rfl (fun ls hl => ?_)
  refine lv_aload_n hx hb dX1_broughtIn_8 rfl (lv_at hl 1 rfl) ?_
  refine va_get (D := D) (ci := 2) (v := .int sg) (C := RX1) (T := TX1) (N := 7) hx hb hts k2 hown hK hP q0 hq0 rfl 1 (by decide) k3 (fun _ h9 => h9) rfl dX1_broughtIn_9 ?_
  refine lv_if_eq (tgt := 23) hx hb dX1_broughtIn_12 (by decide) (fun c_12 => ?_) (fun c_12 => ?_)
  · refine lv_lload_n hx hb dX1_broughtIn_23 rfl (lv_at hl 2 rfl) ?_
    refine lv_iload_n hx hb dX1_broughtIn_24 rfl (lv_at hl 0 rfl) ?_
    refine lv_lshl hx hb dX1_broughtIn_25 rfl ?_
    refine lv_topl (fun x2 ex2 => ?_)
    refine lv_iload_n hx hb dX1_broughtIn_26 rfl (lv_at hl 0 rfl) ?_
    refine lv_lushr hx hb dX1_broughtIn_27 rfl ?_
    refine lv_topl (fun x3 ex3 => ?_)
    have hfin : x3.toInt = fk_bring w sg v.toInt := by
      have h63 : w < 64 := by
        rcases Nat.lt_or_ge w 64 with q | q
        · exact q
        · have := hs64 (by omega); rw [c_12] at this; exact absurd this (by decide)
      rw [ex3, ex2, fk_bring, if_pos c_12]
      have hb := (fk_bring_bd hw0 v.toInt).2
      have hl := (fk_lm hw0).2.2.2.1
      rw [fk_bring, if_pos c_12] at hb
      exact fk_small (fk_bu v (by omega) h64) (by omega)
    rw [hQQ]
    exact W.lret (v := x3) hx hb hr (fun t ht hW => ⟨⟨x3, (), rfl, hfin, by rw [ht]; exact hP, va_K.moved hW.alike hK, hD⟩, hS.F ht⟩) hS.2.2 dX1_broughtIn_28
  · refine lv_lload_n hx hb dX1_broughtIn_15 rfl (lv_at hl 2 rfl) ?_
    refine lv_iload_n hx hb dX1_broughtIn_16 rfl (lv_at hl 0 rfl) ?_
    refine lv_lshl hx hb dX1_broughtIn_17 rfl ?_
    refine lv_topl (fun x4 ex4 => ?_)
    refine lv_iload_n hx hb dX1_broughtIn_18 rfl (lv_at hl 0 rfl) ?_
    refine lv_lshr hx hb dX1_broughtIn_19 rfl ?_
    refine lv_topl (fun x5 ex5 => ?_)
    have hfin : x5.toInt = fk_bring w sg v.toInt := by rw [ex5, ex4, fk_bring, if_neg c_12]; exact fk_bs v (by omega) h64
    refine lv_goto (tgt := 28) hx hb dX1_broughtIn_20 (by decide) ?_
    rw [hQQ]
    exact W.lret (v := x5) hx hb hr (fun t ht hW => ⟨⟨x5, (), rfl, hfin, by rw [ht]; exact hP, va_K.moved hW.alike hK, hD⟩, hS.F ht⟩) hS.2.2 dX1_broughtIn_28
abbrev rmX1_bits : Room := { frames := 0, cells := 0, slots := 0, locals := 0 }
set_option maxHeartbeats 4000000 in
set_option maxRecDepth 100000 in
/-- Kind.bits -/
theorem kX1_bits {l : Launch} {D : va_G} {cJ cC cI cZ cK : ClassId} (sz : Nat) (ws : va_W) (h0 q0 w : Nat) (sg ov rd : Int32) (up dn of : Int64) (v : Int64) (hq0 : ws[q0]? = some (h0, .inr (2, [.int (nI w), .int sg, .long up, .long dn, .long of, .int ov, .int rd]))) (hw : fk_wd w sg) : Met l yX1_bits wsX1_bits rmX1_bits (va_Pc [.ref h0, .long v] (fk_pre D (fk_ty cJ cC cI cZ cK) ws sz)) (va_Ql (fun (r : Int64) (_ : Unit) => r.toInt % 18446744073709551616 = v.toInt % 2 ^ w) (fk_Bd D (fk_ty cJ cC cI cZ cK) (va_A ws sz) (fun _ : Unit => ws)) (va_A ws sz)) 0 0 (va_A ws sz) := by
  refine fk_ofW cX1_bits 4 (some .long) (fun A => va_Ql (fun (r : Int64) (_ : Unit) => r.toInt % 18446744073709551616 = v.toInt % 2 ^ w) (fk_Bd D (fk_ty cJ cC cI cZ cK) A (fun _ : Unit => ws)) A) rfl (by decide) (Nat.le_of_ble_eq_true rfl) ?_
  intro p e s m below meth c A ls args QQ hQQ hAt hP hK hN hD hA hS hl
  obtain ⟨⟨hx, hb, hml, hown, hts⟩, hr, hlocks, hin⟩ := hAt
  have hl : lv_has ls 4 [(0, .ref h0), (1, .long v)] := hl
  have k1 := hts (.fieldLink RX1 9 "FixedKinds$Kind" "width" "I") (by decide +kernel)
  have k2 := (by decide +kernel : ∀ w ∈ u_ws RX1 TX1 7, w ∈ wsX1_bits)
  obtain ⟨h8, h64, h01, hs64⟩ := hw
  refine lv_bipush (v := 64) hx hb dX1_bits_0 (by decide) ?_
  refine lv_aload_n hx hb dX1_bits_2 rfl (lv_at hl 0 rfl) ?_
  refine va_get (D := D) (ci := 2) (v := .int (nI w)) (C := RX1) (T := TX1) (N := 7) hx hb hts k2 hown hK hP q0 hq0 rfl 0 (by decide) k1 (fun _ h9 => h9) rfl dX1_bits_3 ?_
  refine lv_isub hx hb dX1_bits_6 ?_
  refine lv_topi (fun x1 ex1 => ?_)
  have ex1q : x1 = nI (64 - w) := by
    rw [ex1]; exact pk_sub (a := 64) (b := w) h64
  subst ex1q
  refine lv_istore_n (lv' := [(3, .int (nI (64 - w))), (0, .ref h0), (1, .long v)]) hx hb dX1_bits_7 rfl hl (by decide) rfl (fun ls hl => ?_)
  refine lv_lload_n hx hb dX1_bits_8 rfl (lv_at hl 2 rfl) ?_
  refine lv_iload_n hx hb dX1_bits_9 rfl (lv_at hl 0 rfl) ?_
  refine lv_lshl hx hb dX1_bits_10 rfl ?_
  refine lv_topl (fun x2 ex2 => ?_)
  refine lv_iload_n hx hb dX1_bits_11 rfl (lv_at hl 0 rfl) ?_
  refine lv_lushr hx hb dX1_bits_12 rfl ?_
  refine lv_topl (fun x3 ex3 => ?_)
  have hfin : x3.toInt % 18446744073709551616 = v.toInt % 2 ^ w := by rw [ex3, ex2]; exact fk_bu v (by omega) h64
  rw [hQQ]
  exact W.lret (v := x3) hx hb hr (fun t ht hW => ⟨⟨x3, (), rfl, hfin, by rw [ht]; exact hP, va_K.moved hW.alike hK, hD⟩, hS.F ht⟩) hS.2.2 dX1_bits_13
abbrev rmX1_octets : Room := { frames := 0, cells := 0, slots := 0, locals := 0 }
set_option maxHeartbeats 4000000 in
set_option maxRecDepth 100000 in
/-- Kind.octets -/
theorem kX1_octets {l : Launch} {D : va_G} {cJ cC cI cZ cK : ClassId} (sz : Nat) (ws : va_W) (h0 q0 w : Nat) (sg ov rd : Int32) (up dn of : Int64) (hq0 : ws[q0]? = some (h0, .inr (2, [.int (nI w), .int sg, .long up, .long dn, .long of, .int ov, .int rd]))) (hw : fk_wd w sg) : Met l yX1_octets wsX1_octets rmX1_octets (va_Pc [.ref h0] (fk_pre D (fk_ty cJ cC cI cZ cK) ws sz)) (va_Qi (fun (r : Int32) (_ : Unit) => r = nI ((w + 7) / 8)) (fk_Bd D (fk_ty cJ cC cI cZ cK) (va_A ws sz) (fun _ : Unit => ws)) (va_A ws sz)) 0 0 (va_A ws sz) := by
  refine fk_ofW cX1_octets 1 (some .int) (fun A => va_Qi (fun (r : Int32) (_ : Unit) => r = nI ((w + 7) / 8)) (fk_Bd D (fk_ty cJ cC cI cZ cK) A (fun _ : Unit => ws)) A) rfl (by decide) (Nat.le_of_ble_eq_true rfl) ?_
  intro p e s m below meth c A ls args QQ hQQ hAt hP hK hN hD hA hS hl
  obtain ⟨⟨hx, hb, hml, hown, hts⟩, hr, hlocks, hin⟩ := hAt
  have hl : lv_has ls 1 [(0, .ref h0)] := hl
  have k1 := hts (.fieldLink RX1 9 "FixedKinds$Kind" "width" "I") (by decide +kernel)
  have k2 := (by decide +kernel : ∀ w ∈ u_ws RX1 TX1 7, w ∈ wsX1_octets)
  obtain ⟨h8, h64, h01, hs64⟩ := hw
  refine lv_aload_n hx hb dX1_octets_0 rfl (lv_at hl 0 rfl) ?_
  refine va_get (D := D) (ci := 2) (v := .int (nI w)) (C := RX1) (T := TX1) (N := 7) hx hb hts k2 hown hK hP q0 hq0 rfl 0 (by decide) k1 (fun _ h9 => h9) rfl dX1_octets_1 ?_
  refine lv_bipush (v := 7) hx hb dX1_octets_4 (by decide) ?_
  refine lv_iadd hx hb dX1_octets_6 ?_
  refine lv_topi (fun x1 ex1 => ?_)
  have ex1q : x1 = nI (w + 7) := by
    rw [ex1]; exact nI_add w 7
  subst ex1q
  refine lv_bipush (v := 8) hx hb dX1_octets_7 (by decide) ?_
  refine lv_idiv hx hb dX1_octets_9 (by decide) ?_
  refine lv_topi (fun x2 ex2 => ?_)
  have ex2q : x2 = nI ((w + 7) / 8) := by
    rw [ex2]; exact pk_div (a := w + 7) (d := 8) (by omega) (by omega) (by omega)
  subst ex2q
  rw [hQQ]
  exact W.iret (v := nI ((w + 7) / 8)) hx hb hr (fun t ht hW => ⟨⟨(nI ((w + 7) / 8)), (), rfl, rfl, by rw [ht]; exact hP, va_K.moved hW.alike hK, hD⟩, hS.F ht⟩) hS.2.2 dX1_octets_10
abbrev rmX1_init : Room := { frames := 1, cells := 0, slots := 0, locals := 20 }
set_option maxHeartbeats 4000000 in
set_option maxRecDepth 100000 in
/-- Kind() -/
theorem kX1_init {l : Launch} {D : va_G} {cJ cC cI cZ cK : ClassId} (sz : Nat) (ws : va_W) (h0 q0 : Nat) (wd sg : Int32) (up dn of : Int64) (hq0 : ws[q0]? = some (h0, .inr (2, [.int 0, .int 0, .long 0, .long 0, .long 0, .int 0, .int 0]))) (hsg : sg = 0 ∨ sg = 1) : Met l yX1_init wsX1_init rmX1_init (va_Pc [.ref h0, .int wd, .int sg, .long up, .long dn, .long of] (fk_pre D (fk_ty cJ cC cI cZ cK) ws sz)) (va_Qv (fun _ : Unit => True) (fk_Bd D (fk_ty cJ cC cI cZ cK) (va_A ws sz) (fun _ : Unit => ws.set q0 (h0, .inr (2, [.int wd, .int sg, .long up, .long dn, .long of, .int 0, .int 0])))) (va_A ws sz)) 0 0 (va_A ws sz) := by
  refine fk_ofW cX1_init 9 none (fun A => va_Qv (fun _ : Unit => True) (fk_Bd D (fk_ty cJ cC cI cZ cK) A (fun _ : Unit => ws.set q0 (h0, .inr (2, [.int wd, .int sg, .long up, .long dn, .long of, .int 0, .int 0])))) A) rfl (by decide) (Nat.le_of_ble_eq_true rfl) ?_
  intro p e s m below meth c A ls args QQ hQQ hAt hP hK hN hD hA hS hl
  obtain ⟨⟨hx, hb, hml, hown, hts⟩, hr, hlocks, hin⟩ := hAt
  have hl : lv_has ls 9 [(0, .ref h0), (1, .int wd), (2, .int sg), (3, .long up), (5, .long dn), (7, .long of)] := hl
  have k1 := hts (.methodLink RX1 3 objectInit) (by decide +kernel)
  have k2 := hts (.instanceMethod objectInit) (by decide +kernel)
  have k3 := hts (.fieldLink RX1 9 "FixedKinds$Kind" "width" "I") (by decide +kernel)
  have k4 := (by decide +kernel : ∀ w ∈ u_ws RX1 TX1 7, w ∈ wsX1_init)
  have k5 := hts (.fieldLink RX1 15 "FixedKinds$Kind" "signed" "Z") (by decide +kernel)
  have k6 := hts (.fieldLink RX1 19 "FixedKinds$Kind" "up" "J") (by decide +kernel)
  have k7 := hts (.fieldLink RX1 23 "FixedKinds$Kind" "down" "J") (by decide +kernel)
  have k8 := hts (.fieldLink RX1 26 "FixedKinds$Kind" "offset" "J") (by decide +kernel)
  have k9 := hts (.fieldLink RX1 29 "FixedKinds$Kind" "overflow" "I") (by decide +kernel)
  have k10 := hts (.fieldLink RX1 32 "FixedKinds$Kind" "rounding" "I") (by decide +kernel)
  have hw0 : ws = (ws.set q0 (h0, .inr (2, [.int 0, .int 0, .long 0, .long 0, .long 0, .int 0, .int 0]))) := by rw [fk_s0 hq0]
  rw [hw0] at hP hD
  refine lv_aload_n hx hb dX1_init_0 rfl (lv_at hl 0 rfl) ?_
  refine W.objInit hx hb hown k1 k2 (hts _ (List.mem_of_getElem? (l := wsX1_init) (i := 3) rfl)) rfl (by rw [hml]; exact hl.1) rfl dX1_init_1 (Nat.le_of_ble_eq_true rfl) (Nat.le_of_ble_eq_true rfl) ?_
  refine W.eq (g2 := F0 m 4 ls []) rfl ?_
  refine lv_aload_n hx hb dX1_init_4 rfl (lv_at hl 0 rfl) ?_
  refine lv_iload_n hx hb dX1_init_5 rfl (lv_at hl 1 rfl) ?_
  refine va_putF (D := D) (ci := 2) (v := .int wd) (ty := (.int)) (C := RX1) (T := TX1) (N := 7) hx hb hts k4 tyX1 tyX1_ok nmX1 hown hK hP hD hS q0 (fk_ss hq0) rfl 0 (by decide) k3 (fun _ h9 => h9) rfl hin rfl (by decide +kernel) rfl rfl (Nat.le_of_ble_eq_true rfl) dX1_init_6 (fun H locs hP hD hS => ?_)
  rw [fk_s2] at hP hD
  refine lv_aload_n hx hb dX1_init_9 rfl (lv_at hl 0 rfl) ?_
  refine lv_iload_n hx hb dX1_init_10 rfl (lv_at hl 2 rfl) ?_
  refine va_putF (D := D) (ci := 2) (v := .int sg) (ty := (.boolean)) (C := RX1) (T := TX1) (N := 7) hx hb hts k4 tyX1 tyX1_ok nmX1 hown hK hP hD hS q0 (fk_ss hq0) rfl 1 (by decide) k5 (fun _ h9 => h9) rfl hin rfl (by decide +kernel) (by rcases hsg with q | q <;> rw [q] <;> rfl) (by rcases hsg with q | q <;> rw [q] <;> rfl) (Nat.le_of_ble_eq_true rfl) dX1_init_11 (fun H locs hP hD hS => ?_)
  rw [fk_s2] at hP hD
  refine lv_aload_n hx hb dX1_init_14 rfl (lv_at hl 0 rfl) ?_
  refine lv_lload_n hx hb dX1_init_15 rfl (lv_at hl 3 rfl) ?_
  refine va_putF (D := D) (ci := 2) (v := .long up) (ty := (.long)) (C := RX1) (T := TX1) (N := 7) hx hb hts k4 tyX1 tyX1_ok nmX1 hown hK hP hD hS q0 (fk_ss hq0) rfl 2 (by decide) k6 (fun _ h9 => h9) rfl hin rfl (by decide +kernel) rfl rfl (Nat.le_of_ble_eq_true rfl) dX1_init_16 (fun H locs hP hD hS => ?_)
  rw [fk_s2] at hP hD
  refine lv_aload_n hx hb dX1_init_19 rfl (lv_at hl 0 rfl) ?_
  refine lv_lload hx hb dX1_init_20 (lv_at hl 4 rfl) ?_
  refine va_putF (D := D) (ci := 2) (v := .long dn) (ty := (.long)) (C := RX1) (T := TX1) (N := 7) hx hb hts k4 tyX1 tyX1_ok nmX1 hown hK hP hD hS q0 (fk_ss hq0) rfl 3 (by decide) k7 (fun _ h9 => h9) rfl hin rfl (by decide +kernel) rfl rfl (Nat.le_of_ble_eq_true rfl) dX1_init_22 (fun H locs hP hD hS => ?_)
  rw [fk_s2] at hP hD
  refine lv_aload_n hx hb dX1_init_25 rfl (lv_at hl 0 rfl) ?_
  refine lv_lload hx hb dX1_init_26 (lv_at hl 5 rfl) ?_
  refine va_putF (D := D) (ci := 2) (v := .long of) (ty := (.long)) (C := RX1) (T := TX1) (N := 7) hx hb hts k4 tyX1 tyX1_ok nmX1 hown hK hP hD hS q0 (fk_ss hq0) rfl 4 (by decide) k8 (fun _ h9 => h9) rfl hin rfl (by decide +kernel) rfl rfl (Nat.le_of_ble_eq_true rfl) dX1_init_28 (fun H locs hP hD hS => ?_)
  rw [fk_s2] at hP hD
  refine lv_aload_n hx hb dX1_init_31 rfl (lv_at hl 0 rfl) ?_
  refine lv_iconst (v := 0) hx hb dX1_init_32 (by decide) ?_
  refine va_put (D := D) (ci := 2) (v := .int 0) (ty := (.int)) (C := RX1) (T := TX1) (N := 7) hx hb hts k4 tyX1 tyX1_ok nmX1 hown hK hP hD hS q0 (fk_ss hq0) rfl 5 (by decide) k9 (fun _ h9 => h9) rfl (by decide +kernel) rfl rfl (Nat.le_of_ble_eq_true rfl) dX1_init_33 (fun H locs hP hD hS => ?_)
  rw [fk_s2] at hP hD
  refine lv_aload_n hx hb dX1_init_36 rfl (lv_at hl 0 rfl) ?_
  refine lv_iconst (v := 0) hx hb dX1_init_37 (by decide) ?_
  refine va_put (D := D) (ci := 2) (v := .int 0) (ty := (.int)) (C := RX1) (T := TX1) (N := 7) hx hb hts k4 tyX1 tyX1_ok nmX1 hown hK hP hD hS q0 (fk_ss hq0) rfl 6 (by decide) k10 (fun _ h9 => h9) rfl (by decide +kernel) rfl rfl (Nat.le_of_ble_eq_true rfl) dX1_init_38 (fun H locs hP hD hS => ?_)
  rw [fk_s2] at hP hD
  rw [hQQ]
  exact W.vret hx hb hr (fun t ht hW => ⟨⟨(), rfl, trivial, by rw [ht]; exact hP, va_K.moved hW.alike hK, hD⟩, hS.F ht⟩) hS.2.2 dX1_init_41
