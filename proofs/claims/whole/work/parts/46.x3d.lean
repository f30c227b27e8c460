/-! FixedKinds: bound, lost, convert, compare, by program -/
abbrev rmX3_bound : Room := { frames := 2, cells := 0, slots := 0, locals := 40 }
set_option maxHeartbeats 4000000 in
set_option maxRecDepth 100000 in
/-- bound -/
theorem kX3_bound {l : Launch} {D : va_G} {cJ cC cI cZ cK : ClassId} (sz : Nat) (ad : Nat → Nat) (tl : va_W) (kd : Nat → Option Nat) (lo : Int32) (ch : Nat → Int32) (ts : Int32) (f1 f2 f3 f4 f5 : Nat → Int64) (n : Nat) (kf : Nat → fk_K) (ka kp : Nat → Nat) (num side : Int32) (hKT : fk_KT n kf kd ka kp tl) : Met l yX3_bound wsX3_bound rmX3_bound (va_Pc [.ref (ad 0), .int num, .int side] (fk_pre D (fk_ty cJ cC cI cZ cK) (fk_wx cJ cC cK ad kd (nI n) lo ch ts f1 f2 f3 f4 f5 ++ tl) sz)) (va_Ql (fun (r : Int64) (_ : Unit) => r.toInt = fk_sBnd n kf num side) (fk_Bd D (fk_ty cJ cC cI cZ cK) (va_A (fk_wx cJ cC cK ad kd (nI n) lo ch ts f1 f2 f3 f4 f5 ++ tl) sz) (fun _ : Unit => fk_wx cJ cC cK ad kd (nI n) lo ch ts f1 f2 f3 f4 f5 ++ tl)) (va_A (fk_wx cJ cC cK ad kd (nI n) lo ch ts f1 f2 f3 f4 f5 ++ tl) sz)) 0 0 (va_A (fk_wx cJ cC cK ad kd (nI n) lo ch ts f1 f2 f3 f4 f5 ++ tl) sz) := by
  refine fk_ofW cX3_bound 4 (some .long) (fun A => va_Ql (fun (r : Int64) (_ : Unit) => r.toInt = fk_sBnd n kf num side) (fk_Bd D (fk_ty cJ cC cI cZ cK) A (fun _ : Unit => fk_wx cJ cC cK ad kd (nI n) lo ch ts f1 f2 f3 f4 f5 ++ tl)) A) rfl (by decide) (Nat.le_of_ble_eq_true rfl) ?_
  intro p e s m below meth c A ls args QQ hQQ hAt hP hK hN hD hA hS hl
  obtain ⟨⟨hx, hb, hml, hown, hts⟩, hr, hlocks, hin⟩ := hAt
  have hl : lv_has ls 4 [(0, .ref (ad 0)), (1, .int num), (2, .int side)] := hl
  have k1 := hN _ fkn_X3_144
  have k2 := hts (.initialized RX1) (by decide +kernel)
  have k3 := hts (.instanceMethod yX1_greatest) (by decide +kernel)
  have k4 := hts (.selects RX1 yX1_greatest yX1_greatest) (by decide +kernel)
  have k5 := hN _ fkn_X3_140
  have k6 := hts (.instanceMethod yX1_least) (by decide +kernel)
  have k7 := hts (.selects RX1 yX1_least yX1_least) (by decide +kernel)
  have hn40 := hKT.1
  refine lv_aload_n hx hb dX3_bound_0 rfl (lv_at hl 0 rfl) ?_
  refine lv_iload_n hx hb dX3_bound_1 rfl (lv_at hl 1 rfl) ?_
  refine fk_cq hD hS hA (va_runV (As := [.int num]) (rest := []) ⟨hx, hb, hml, hown, hts⟩ (kX3_find _ ad tl kd lo ch ts f1 f2 f3 f4 f5 n kf ka kp num hKT) (cwV 1 hts gX3_bound_X3_find rfl rfl rfl (by decide +kernel) ⟨Nat.le_of_ble_eq_true rfl, Nat.le_of_ble_eq_true rfl⟩) (fk_preV 0 4 hK hN hP hD rfl rfl) rfl rfl hl.1 rfl (lv_room (Nat.le_of_ble_eq_true rfl)) dX3_bound_2 ⟨Nat.le_of_ble_eq_true rfl, Nat.le_of_ble_eq_true rfl⟩) (fun r1 u H locs hw hP hD hS => ?_)
  have hP : va_P D vwCl (fk_wx cJ cC cK ad kd (nI n) lo ch ts f1 f2 f3 f4 f5 ++ tl) H := hP
  have hD : va_D A (fk_wx cJ cC cK ad kd (nI n) lo ch ts f1 f2 f3 f4 f5 ++ tl) := hD
  rcases hw with ⟨hr_j, hno_j⟩ | ⟨j, hj, hn_j, hr_j⟩
  · subst hr_j
    refine lv_astore_nN (lv' := [(3, .null), (0, .ref (ad 0)), (1, .int num), (2, .int side)]) hx hb dX3_bound_5 rfl hl (by decide) rfl (fun ls hl => ?_)
    refine lv_aload_nN hx hb dX3_bound_6 rfl (lv_at hl 0 rfl) ?_
    refine lv_ifnonnullN hx hb dX3_bound_7 ?_
    refine lv_lconst (v := 0) hx hb dX3_bound_10 (by decide) ?_
    rw [hQQ]
    exact W.lret (v := 0) hx hb hr (fun t ht hW => ⟨⟨0, (), rfl, (by rw [fk_sBnd, if_pos hno_j]; decide), by rw [ht]; exact hP, va_K.moved hW.alike hK, hD⟩, hS.F ht⟩) hS.2.2 dX3_bound_11
  · subst hr_j
    subst hn_j
    have ok_j := (hKT.2.1 j hj).2.2
    obtain ⟨okd_j, oko_j, okr_j⟩ := id ok_j
    refine lv_astore_n (lv' := [(3, .ref (ka j)), (0, .ref (ad 0)), (1, .int (nI (j + 1))), (2, .int side)]) hx hb dX3_bound_5 rfl hl (by decide) rfl (fun ls hl => ?_)
    refine lv_aload_n hx hb dX3_bound_6 rfl (lv_at hl 0 rfl) ?_
    refine lv_ifnonnull (tgt := 12) hx hb dX3_bound_7 (by decide) ?_
    refine lv_iload_n hx hb dX3_bound_12 rfl (lv_at hl 3 rfl) ?_
    refine lv_if_ne (tgt := 23) hx hb dX3_bound_13 (by decide) (fun c_13 => ?_) (fun c_13 => ?_)
    · refine lv_aload_n hx hb dX3_bound_23 rfl (lv_at hl 0 rfl) ?_
      refine fk_cl hD hS hA (va_runVN (As := []) (rest := []) ⟨hx, hb, hml, hown, hts⟩ (kX1_greatest _ _ (ka j) (kp j + 15) (kf j).1 (kf j).2.1 (kf j).2.2.2.2.2.1 (kf j).2.2.2.2.2.2 (kf j).2.2.1 (kf j).2.2.2.1 (kf j).2.2.2.2.1 (fk_tl (hKT.2.1 j hj).2.1) okd_j.1) ⟨va_cnB 0 hts gX3_bound_X1_greatest_n144 rfl rfl rfl k1 k2 (by decide +kernel) ⟨Nat.le_of_ble_eq_true rfl, Nat.le_of_ble_eq_true rfl⟩, k3, k4⟩ (fk_preV (kp j + 15) 2 hK hN hP hD rfl (fk_tl (hKT.2.1 j hj).2.1)) rfl rfl hl.1 rfl (lv_room (Nat.le_of_ble_eq_true rfl)) dX3_bound_24 ⟨Nat.le_of_ble_eq_true rfl, Nat.le_of_ble_eq_true rfl⟩) (fun r2 u H locs hw hP hD hS => ?_)
      have hP : va_P D vwCl (fk_wx cJ cC cK ad kd (nI n) lo ch ts f1 f2 f3 f4 f5 ++ tl) H := hP
      have hD : va_D A (fk_wx cJ cC cK ad kd (nI n) lo ch ts f1 f2 f3 f4 f5 ++ tl) := hD
      rw [hQQ]
      exact W.lret (v := r2) hx hb hr (fun t ht hW => ⟨⟨r2, (), rfl, hw.trans (by rw [fk_sBnd, if_neg (fk_no_j hj hn40), fk_ix_j hj hn40, if_neg c_13]), by rw [ht]; exact hP, va_K.moved hW.alike hK, hD⟩, hS.F ht⟩) hS.2.2 dX3_bound_27
    · refine lv_aload_n hx hb dX3_bound_16 rfl (lv_at hl 0 rfl) ?_
      refine fk_cl hD hS hA (va_runVN (As := []) (rest := []) ⟨hx, hb, hml, hown, hts⟩ (kX1_least _ _ (ka j) (kp j + 15) (kf j).1 (kf j).2.1 (kf j).2.2.2.2.2.1 (kf j).2.2.2.2.2.2 (kf j).2.2.1 (kf j).2.2.2.1 (kf j).2.2.2.2.1 (fk_tl (hKT.2.1 j hj).2.1) okd_j.1) ⟨va_cnB 0 hts gX3_bound_X1_least_n140 rfl rfl rfl k5 k2 (by decide +kernel) ⟨Nat.le_of_ble_eq_true rfl, Nat.le_of_ble_eq_true rfl⟩, k6, k7⟩ (fk_preV (kp j + 15) 2 hK hN hP hD rfl (fk_tl (hKT.2.1 j hj).2.1)) rfl rfl hl.1 rfl (lv_room (Nat.le_of_ble_eq_true rfl)) dX3_bound_17 ⟨Nat.le_of_ble_eq_true rfl, Nat.le_of_ble_eq_true rfl⟩) (fun r3 u H locs hw hP hD hS => ?_)
      have hP : va_P D vwCl (fk_wx cJ cC cK ad kd (nI n) lo ch ts f1 f2 f3 f4 f5 ++ tl) H := hP
      have hD : va_D A (fk_wx cJ cC cK ad kd (nI n) lo ch ts f1 f2 f3 f4 f5 ++ tl) := hD
      refine lv_goto (tgt := 27) hx hb dX3_bound_20 (by decide) ?_
      rw [hQQ]
      exact W.lret (v := r3) hx hb hr (fun t ht hW => ⟨⟨r3, (), rfl, hw.trans (by rw [fk_sBnd, if_neg (fk_no_j hj hn40), fk_ix_j hj hn40, if_pos c_13]), by rw [ht]; exact hP, va_K.moved hW.alike hK, hD⟩, hS.F ht⟩) hS.2.2 dX3_bound_27
abbrev rmX3_lost : Room := { frames := 0, cells := 0, slots := 0, locals := 0 }
set_option maxHeartbeats 4000000 in
set_option maxRecDepth 100000 in
/-- lost -/
theorem kX3_lost {l : Launch} {D : va_G} {cJ cC cI cZ cK : ClassId} (sz : Nat) (ad : Nat → Nat) (tl : va_W) (kd : Nat → Option Nat) (lo : Int32) (ch : Nat → Int32) (ts : Int32) (f1 f2 f3 f4 f5 : Nat → Int64) (n : Nat) (kf : Nat → fk_K) (ka kp : Nat → Nat)  (hKT : fk_KT n kf kd ka kp tl) (hlo : lo = 0 ∨ lo = 1) : Met l yX3_lost wsX3_lost rmX3_lost (va_Pc [.ref (ad 0)] (fk_pre D (fk_ty cJ cC cI cZ cK) (fk_wx cJ cC cK ad kd (nI n) lo ch ts f1 f2 f3 f4 f5 ++ tl) sz)) (va_Qi (fun (r : Int32) (_ : Unit) => r = lo) (fk_Bd D (fk_ty cJ cC cI cZ cK) (va_A (fk_wx cJ cC cK ad kd (nI n) lo ch ts f1 f2 f3 f4 f5 ++ tl) sz) (fun _ : Unit => fk_wx cJ cC cK ad kd (nI n) lo ch ts f1 f2 f3 f4 f5 ++ tl)) (va_A (fk_wx cJ cC cK ad kd (nI n) lo ch ts f1 f2 f3 f4 f5 ++ tl) sz)) 0 0 (va_A (fk_wx cJ cC cK ad kd (nI n) lo ch ts f1 f2 f3 f4 f5 ++ tl) sz) := by
  refine fk_ofW cX3_lost 1 (some .boolean) (fun A => va_Qi (fun (r : Int32) (_ : Unit) => r = lo) (fk_Bd D (fk_ty cJ cC cI cZ cK) A (fun _ : Unit => fk_wx cJ cC cK ad kd (nI n) lo ch ts f1 f2 f3 f4 f5 ++ tl)) A) rfl (by decide) (Nat.le_of_ble_eq_true rfl) ?_
  intro p e s m below meth c A ls args QQ hQQ hAt hP hK hN hD hA hS hl
  obtain ⟨⟨hx, hb, hml, hown, hts⟩, hr, hlocks, hin⟩ := hAt
  have hl : lv_has ls 1 [(0, .ref (ad 0))] := hl
  have k1 := hts (.fieldLink RX3 19 "FixedKinds" "somethingLost" "Z") (by decide +kernel)
  have k2 := (by decide +kernel : ∀ w ∈ u_ws RX3 TX3 8, w ∈ wsX3_lost)
  refine lv_aload_n hx hb dX3_lost_0 rfl (lv_at hl 0 rfl) ?_
  refine va_get (D := D) (ci := 4) (v := .int lo) (C := RX3) (T := TX3) (N := 8) hx hb hts k2 hown hK hP 0 rfl rfl 2 (by decide) k1 (fun _ h9 => h9) rfl dX3_lost_1 ?_
  rw [hQQ]
  exact W.zret (v := lo) hx hb hr (by rcases hlo with q | q <;> rw [q] <;> rfl) (fun t ht hW => ⟨⟨lo, (), rfl, rfl, by rw [ht]; exact hP, va_K.moved hW.alike hK, hD⟩, hS.F ht⟩) hS.2.2 dX3_lost_4
abbrev rmX3_convert : Room := { frames := 6, cells := 0, slots := 0, locals := 142 }
set_option maxHeartbeats 4000000 in
set_option maxRecDepth 100000 in
/-- convert -/
theorem kX3_convert {l : Launch} {D : va_G} {cJ cC cI cZ cK : ClassId} (sz : Nat) (ad : Nat → Nat) (tl : va_W) (kd : Nat → Option Nat) (lo : Int32) (ch : Nat → Int32) (ts : Int32) (f1 f2 f3 f4 f5 : Nat → Int64) (n : Nat) (kf : Nat → fk_K) (ka kp : Nat → Nat) (num num2 : Int32) (v : Int64) (hKT : fk_KT n kf kd ka kp tl) : Met l yX3_convert wsX3_convert rmX3_convert (va_Pc [.ref (ad 0), .int num, .long v, .int num2] (fk_pre D (fk_ty cJ cC cI cZ cK) (fk_wx cJ cC cK ad kd (nI n) lo ch ts f1 f2 f3 f4 f5 ++ tl) sz)) (va_Ql (fun (r : Int64) (u : Int32 × (Nat → Int64) × (Nat → Int64) × (Nat → Int64) × (Nat → Int64) × (Nat → Int64)) => r.toInt = fk_sConv n kf num v num2 ∧ u.1 = fk_lConv n kf lo num v num2) (fk_Bd D (fk_ty cJ cC cI cZ cK) (va_A (fk_wx cJ cC cK ad kd (nI n) lo ch ts f1 f2 f3 f4 f5 ++ tl) sz) (fun u : Int32 × (Nat → Int64) × (Nat → Int64) × (Nat → Int64) × (Nat → Int64) × (Nat → Int64) => fk_wx cJ cC cK ad kd (nI n) u.1 ch ts u.2.1 u.2.2.1 u.2.2.2.1 u.2.2.2.2.1 u.2.2.2.2.2 ++ tl)) (va_A (fk_wx cJ cC cK ad kd (nI n) lo ch ts f1 f2 f3 f4 f5 ++ tl) sz)) 0 0 (va_A (fk_wx cJ cC cK ad kd (nI n) lo ch ts f1 f2 f3 f4 f5 ++ tl) sz) := by
  refine fk_ofW cX3_convert 7 (some .long) (fun A => va_Ql (fun (r : Int64) (u : Int32 × (Nat → Int64) × (Nat → Int64) × (Nat → Int64) × (Nat → Int64) × (Nat → Int64)) => r.toInt = fk_sConv n kf num v num2 ∧ u.1 = fk_lConv n kf lo num v num2) (fk_Bd D (fk_ty cJ cC cI cZ cK) A (fun u : Int32 × (Nat → Int64) × (Nat → Int64) × (Nat → Int64) × (Nat → Int64) × (Nat → Int64) => fk_wx cJ cC cK ad kd (nI n) u.1 ch ts u.2.1 u.2.2.1 u.2.2.2.1 u.2.2.2.2.1 u.2.2.2.2.2 ++ tl)) A) rfl (by decide) (Nat.le_of_ble_eq_true rfl) ?_
  intro p e s m below meth c A ls args QQ hQQ hAt hP hK hN hD hA hS hl
  obtain ⟨⟨hx, hb, hml, hown, hts⟩, hr, hlocks, hin⟩ := hAt
  have hl : lv_has ls 7 [(0, .ref (ad 0)), (1, .int num), (2, .long v), (4, .int num2)] := hl
  have k1 := hts (.fieldLink RX3 33 "FixedKinds" "first" "LFixedKinds$Fraction;") (by decide +kernel)
  have k2 := (by decide +kernel : ∀ w ∈ u_ws RX3 TX3 8, w ∈ wsX3_convert)
  have k3 := hN _ fkn_X3_72
  have k4 := hts (.initialized RX0) (by decide +kernel)
  have k5 := hts (.instanceMethod yX0_take) (by decide +kernel)
  have k6 := hts (.selects RX0 yX0_take yX0_take) (by decide +kernel)
  have hn40 := hKT.1
  refine lv_aload_n hx hb dX3_convert_0 rfl (lv_at hl 0 rfl) ?_
  refine lv_iload_n hx hb dX3_convert_1 rfl (lv_at hl 1 rfl) ?_
  refine fk_cq hD hS hA (va_runV (As := [.int num]) (rest := []) ⟨hx, hb, hml, hown, hts⟩ (kX3_find _ ad tl kd lo ch ts f1 f2 f3 f4 f5 n kf ka kp num hKT) (cwV 1 hts gX3_convert_X3_find rfl rfl rfl (by decide +kernel) ⟨Nat.le_of_ble_eq_true rfl, Nat.le_of_ble_eq_true rfl⟩) (fk_preV 0 4 hK hN hP hD rfl rfl) rfl rfl hl.1 rfl (lv_room (Nat.le_of_ble_eq_true rfl)) dX3_convert_2 ⟨Nat.le_of_ble_eq_true rfl, Nat.le_of_ble_eq_true rfl⟩) (fun r1 u H locs hw hP hD hS => ?_)
  have hP : va_P D vwCl (fk_wx cJ cC cK ad kd (nI n) lo ch ts f1 f2 f3 f4 f5 ++ tl) H := hP
  have hD : va_D A (fk_wx cJ cC cK ad kd (nI n) lo ch ts f1 f2 f3 f4 f5 ++ tl) := hD
  rcases hw with ⟨hr_i, hno_i⟩ | ⟨i, hi, hn_i, hr_i⟩
  · subst hr_i
    refine lv_astoreN (lv' := [(5, .null), (0, .ref (ad 0)), (1, .int num), (2, .long v), (4, .int num2)]) hx hb dX3_convert_5 hl (by decide) rfl (fun ls hl => ?_)
    refine lv_aload_n hx hb dX3_convert_7 rfl (lv_at hl 1 rfl) ?_
    refine lv_iload hx hb dX3_convert_8 (lv_at hl 4 rfl) ?_
    refine fk_cq hD hS hA (va_runV (As := [.int num2]) (rest := []) ⟨hx, hb, hml, hown, hts⟩ (kX3_find _ ad tl kd lo ch ts f1 f2 f3 f4 f5 n kf ka kp num2 hKT) (cwV 1 hts gX3_convert_X3_find rfl rfl rfl (by decide +kernel) ⟨Nat.le_of_ble_eq_true rfl, Nat.le_of_ble_eq_true rfl⟩) (fk_preV 0 4 hK hN hP hD rfl rfl) rfl rfl hl.1 rfl (lv_room (Nat.le_of_ble_eq_true rfl)) dX3_convert_10 ⟨Nat.le_of_ble_eq_true rfl, Nat.le_of_ble_eq_true rfl⟩) (fun r2 u H locs hw hP hD hS => ?_)
    have hP : va_P D vwCl (fk_wx cJ cC cK ad kd (nI n) lo ch ts f1 f2 f3 f4 f5 ++ tl) H := hP
    have hD : va_D A (fk_wx cJ cC cK ad kd (nI n) lo ch ts f1 f2 f3 f4 f5 ++ tl) := hD
    rcases hw with ⟨hr_j, hno_j⟩ | ⟨j, hj, hn_j, hr_j⟩
    · subst hr_j
      refine lv_astoreN (lv' := [(6, .null), (5, .null), (0, .ref (ad 0)), (1, .int num), (2, .long v), (4, .int num2)]) hx hb dX3_convert_13 hl (by decide) rfl (fun ls hl => ?_)
      refine lv_aloadN hx hb dX3_convert_15 (lv_at hl 1 rfl) ?_
      refine lv_ifnullN (tgt := 25) hx hb dX3_convert_17 (by decide) ?_
      refine lv_lconst (v := 0) hx hb dX3_convert_25 (by decide) ?_
      rw [hQQ]
      exact W.lret (v := 0) hx hb hr (fun t ht hW => ⟨⟨0, (lo, f1, f2, f3, f4, f5), rfl, ⟨(by rw [fk_sConv, if_pos (Or.inl hno_i)]; decide), (by rw [fk_lConv, if_pos (Or.inl hno_i)])⟩, by rw [ht]; exact hP, va_K.moved hW.alike hK, hD⟩, hS.F ht⟩) hS.2.2 dX3_convert_26
    · subst hr_j
      subst hn_j
      have ok_j := (hKT.2.1 j hj).2.2
      obtain ⟨okd_j, oko_j, okr_j⟩ := id ok_j
      refine lv_astore (lv' := [(6, .ref (ka j)), (5, .null), (0, .ref (ad 0)), (1, .int num), (2, .long v), (4, .int (nI (j + 1)))]) hx hb dX3_convert_13 hl (by decide) rfl (fun ls hl => ?_)
      refine lv_aloadN hx hb dX3_convert_15 (lv_at hl 1 rfl) ?_
      refine lv_ifnullN (tgt := 25) hx hb dX3_convert_17 (by decide) ?_
      refine lv_lconst (v := 0) hx hb dX3_convert_25 (by decide) ?_
      rw [hQQ]
      exact W.lret (v := 0) hx hb hr (fun t ht hW => ⟨⟨0, (lo, f1, f2, f3, f4, f5), rfl, ⟨(by rw [fk_sConv, if_pos (Or.inl hno_i)]; decide), (by rw [fk_lConv, if_pos (Or.inl hno_i)])⟩, by rw [ht]; exact hP, va_K.moved hW.alike hK, hD⟩, hS.F ht⟩) hS.2.2 dX3_convert_26
  · subst hr_i
    subst hn_i
    have ok_i := (hKT.2.1 i hi).2.2
    obtain ⟨okd_i, oko_i, okr_i⟩ := id ok_i
    refine lv_astore (lv' := [(5, .ref (ka i)), (0, .ref (ad 0)), (1, .int (nI (i + 1))), (2, .long v), (4, .int num2)]) hx hb dX3_convert_5 hl (by decide) rfl (fun ls hl => ?_)
    refine lv_aload_n hx hb dX3_convert_7 rfl (lv_at hl 1 rfl) ?_
    refine lv_iload hx hb dX3_convert_8 (lv_at hl 4 rfl) ?_
    refine fk_cq hD hS hA (va_runV (As := [.int num2]) (rest := []) ⟨hx, hb, hml, hown, hts⟩ (kX3_find _ ad tl kd lo ch ts f1 f2 f3 f4 f5 n kf ka kp num2 hKT) (cwV 1 hts gX3_convert_X3_find rfl rfl rfl (by decide +kernel) ⟨Nat.le_of_ble_eq_true rfl, Nat.le_of_ble_eq_true rfl⟩) (fk_preV 0 4 hK hN hP hD rfl rfl) rfl rfl hl.1 rfl (lv_room (Nat.le_of_ble_eq_true rfl)) dX3_convert_10 ⟨Nat.le_of_ble_eq_true rfl, Nat.le_of_ble_eq_true rfl⟩) (fun r3 u H locs hw hP hD hS => ?_)
    have hP : va_P D vwCl (fk_wx cJ cC cK ad kd (nI n) lo ch ts f1 f2 f3 f4 f5 ++ tl) H := hP
    have hD : va_D A (fk_wx cJ cC cK ad kd (nI n) lo ch ts f1 f2 f3 f4 f5 ++ tl) := hD
    rcases hw with ⟨hr_j, hno_j⟩ | ⟨j, hj, hn_j, hr_j⟩
    · subst hr_j
      refine lv_astoreN (lv' := [(6, .null), (5, .ref (ka i)), (0, .ref (ad 0)), (1, .int (nI (i + 1))), (2, .long v), (4, .int num2)]) hx hb dX3_convert_13 hl (by decide) rfl (fun ls hl => ?_)
      refine lv_aload hx hb dX3_convert_15 (lv_at hl 1 rfl) ?_
      refine lv_ifnull hx hb dX3_convert_17 ?_
      refine lv_aloadN hx hb dX3_convert_20 (lv_at hl 0 rfl) ?_
      refine lv_ifnonnullN hx hb dX3_convert_22 ?_
      refine lv_lconst (v := 0) hx hb dX3_convert_25 (by decide) ?_
      rw [hQQ]
      exact W.lret (v := 0) hx hb hr (fun t ht hW => ⟨⟨0, (lo, f1, f2, f3, f4, f5), rfl, ⟨(by rw [fk_sConv, if_pos (Or.inr hno_j)]; decide), (by rw [fk_lConv, if_pos (Or.inr hno_j)])⟩, by rw [ht]; exact hP, va_K.moved hW.alike hK, hD⟩, hS.F ht⟩) hS.2.2 dX3_convert_26
    · subst hr_j
      subst hn_j
      have ok_j := (hKT.2.1 j hj).2.2
      obtain ⟨okd_j, oko_j, okr_j⟩ := id ok_j
      refine lv_astore (lv' := [(6, .ref (ka j)), (5, .ref (ka i)), (0, .ref (ad 0)), (1, .int (nI (i + 1))), (2, .long v), (4, .int (nI (j + 1)))]) hx hb dX3_convert_13 hl (by decide) rfl (fun ls hl => ?_)
      refine lv_aload hx hb dX3_convert_15 (lv_at hl 1 rfl) ?_
      refine lv_ifnull hx hb dX3_convert_17 ?_
      refine lv_aload hx hb dX3_convert_20 (lv_at hl 0 rfl) ?_
      refine lv_ifnonnull (tgt := 27) hx hb dX3_convert_22 (by decide) ?_
      refine lv_aload_n hx hb dX3_convert_27 rfl (lv_at hl 2 rfl) ?_
      refine va_get (D := D) (ci := 4) (v := .ref (ad 3)) (C := RX3) (T := TX3) (N := 8) hx hb hts k2 hown hK hP 0 rfl rfl 5 (by decide) k1 (fun _ h9 => h9) rfl dX3_convert_28 ?_
      refine lv_aload hx hb dX3_convert_31 (lv_at hl 1 rfl) ?_
      refine lv_lload_n hx hb dX3_convert_33 rfl (lv_at hl 4 rfl) ?_
      refine fk_cv hD hS hA (va_runVN (As := [.ref (ka i), .long v]) (rest := []) ⟨hx, hb, hml, hown, hts⟩ (kX0_take _ _ (ad 3) (ad 4) (ad 5) (ad 6) (ad 7) 3 4 5 6 7 f1 f2 (ka i) (kp i + 15) (kf i).1 (kf i).2.1 (kf i).2.2.2.2.2.1 (kf i).2.2.2.2.2.2 (kf i).2.2.1 (kf i).2.2.2.1 (kf i).2.2.2.2.1 v rfl rfl rfl rfl rfl (fk_tl (hKT.2.1 i hi).2.1) okd_i (by decide)) ⟨va_cnB 2 hts gX3_convert_X0_take_n72 rfl rfl rfl k3 k4 (by decide +kernel) ⟨Nat.le_of_ble_eq_true rfl, Nat.le_of_ble_eq_true rfl⟩, k5, k6⟩ (fk_preV 3 1 hK hN hP hD rfl rfl) rfl rfl hl.1 rfl (lv_room (Nat.le_of_ble_eq_true rfl)) dX3_convert_34 ⟨Nat.le_of_ble_eq_true rfl, Nat.le_of_ble_eq_true rfl⟩) (fun u4 H locs hw hP hD hS => ?_)
      have hP : va_P D vwCl (fk_wx cJ cC cK ad kd (nI n) lo ch ts u4.1 u4.2 f3 f4 f5 ++ tl) H := hP
      have hD : va_D A (fk_wx cJ cC cK ad kd (nI n) lo ch ts u4.1 u4.2 f3 f4 f5 ++ tl) := hD
      obtain ⟨hTu4, hBu4⟩ := hw
      have hTu4 : fk_R (fk_v (kf i) v) u4.1 := hTu4
      have hBu4 : fk_R (fk_dn (kf i)) u4.2 := hBu4
      have bvu4 := fk_v_bd ok_i v
      have bdu4 := fk_dn_bd ok_i
      refine lv_aload_n hx hb dX3_convert_37 rfl (lv_at hl 2 rfl) ?_
      refine lv_aload hx hb dX3_convert_38 (lv_at hl 0 rfl) ?_
      refine fk_cl hD hS hA (va_runV (As := [.ref (ka j)]) (rest := []) ⟨hx, hb, hml, hown, hts⟩ (kX3_put _ ad tl kd (nI n) lo ch ts u4.1 u4.2 f3 f4 f5 (ka j) (kp j) (kf j).1 (kf j).2.1 (kf j).2.2.2.2.2.1 (kf j).2.2.2.2.2.2 (kf j).2.2.1 (kf j).2.2.2.1 (kf j).2.2.2.2.1 (fk_v (kf i) v) (fk_dn (kf i)) (hKT.2.1 j hj).2.1 okd_j hTu4 hBu4 (fk_v_B ok_i v (fk_dn_bd ok_i)) oko_j) (cwV 1 hts gX3_convert_X3_put rfl rfl rfl (by decide +kernel) ⟨Nat.le_of_ble_eq_true rfl, Nat.le_of_ble_eq_true rfl⟩) (fk_preV 0 4 hK hN hP hD rfl rfl) rfl rfl hl.1 rfl (lv_room (Nat.le_of_ble_eq_true rfl)) dX3_convert_40 ⟨Nat.le_of_ble_eq_true rfl, Nat.le_of_ble_eq_true rfl⟩) (fun r7 u6 H locs hw hP hD hS => ?_)
      have hP : va_P D vwCl (fk_wx cJ cC cK ad kd (nI n) u6.1 ch ts u6.2.1 u6.2.2.1 f3 f4 u6.2.2.2 ++ tl) H := hP
      have hD : va_D A (fk_wx cJ cC cK ad kd (nI n) u6.1 ch ts u6.2.1 u6.2.2.1 f3 f4 u6.2.2.2 ++ tl) := hD
      obtain ⟨hput, hlst⟩ := hw
      rw [hQQ]
      exact W.lret (v := r7) hx hb hr (fun t ht hW => ⟨⟨r7, (u6.1, u6.2.1, u6.2.2.1, f3, f4, u6.2.2.2), rfl, ⟨hput.trans (by rw [fk_sConv, if_neg (fun q => q.elim (fk_no_j hi hn40) (fk_no_j hj hn40)), fk_ix_j hi hn40, fk_ix_j hj hn40]; rfl), hlst.trans (by rw [fk_lConv, if_neg (fun q => q.elim (fk_no_j hi hn40) (fk_no_j hj hn40)), fk_ix_j hi hn40, fk_ix_j hj hn40]; rfl)⟩, by rw [ht]; exact hP, va_K.moved hW.alike hK, hD⟩, hS.F ht⟩) hS.2.2 dX3_convert_43
abbrev rmX3_compare : Room := { frames := 4, cells := 0, slots := 0, locals := 95 }
set_option maxHeartbeats 4000000 in
set_option maxRecDepth 100000 in
/-- compare -/
theorem kX3_compare {l : Launch} {D : va_G} {cJ cC cI cZ cK : ClassId} (sz : Nat) (ad : Nat → Nat) (tl : va_W) (kd : Nat → Option Nat) (lo : Int32) (ch : Nat → Int32) (ts : Int32) (f1 f2 f3 f4 f5 : Nat → Int64) (n : Nat) (kf : Nat → fk_K) (ka kp : Nat → Nat) (num num2 : Int32) (x y : Int64) (hKT : fk_KT n kf kd ka kp tl) : Met l yX3_compare wsX3_compare rmX3_compare (va_Pc [.ref (ad 0), .int num, .long x, .int num2, .long y] (fk_pre D (fk_ty cJ cC cI cZ cK) (fk_wx cJ cC cK ad kd (nI n) lo ch ts f1 f2 f3 f4 f5 ++ tl) sz)) (va_Qi (fun (r : Int32) (u : Int32 × (Nat → Int64) × (Nat → Int64) × (Nat → Int64) × (Nat → Int64) × (Nat → Int64)) => r = fk_sCmp n kf num x num2 y ∧ u.1 = lo) (fk_Bd D (fk_ty cJ cC cI cZ cK) (va_A (fk_wx cJ cC cK ad kd (nI n) lo ch ts f1 f2 f3 f4 f5 ++ tl) sz) (fun u : Int32 × (Nat → Int64) × (Nat → Int64) × (Nat → Int64) × (Nat → Int64) × (Nat → Int64) => fk_wx cJ cC cK ad kd (nI n) u.1 ch ts u.2.1 u.2.2.1 u.2.2.2.1 u.2.2.2.2.1 u.2.2.2.2.2 ++ tl)) (va_A (fk_wx cJ cC cK ad kd (nI n) lo ch ts f1 f2 f3 f4 f5 ++ tl) sz)) 0 0 (va_A (fk_wx cJ cC cK ad kd (nI n) lo ch ts f1 f2 f3 f4 f5 ++ tl) sz) := by
  refine fk_ofW cX3_compare 9 (some .int) (fun A => va_Qi (fun (r : Int32) (u : Int32 × (Nat → Int64) × (Nat → Int64) × (Nat → Int64) × (Nat → Int64) × (Nat → Int64)) => r = fk_sCmp n kf num x num2 y ∧ u.1 = lo) (fk_Bd D (fk_ty cJ cC cI cZ cK) A (fun u : Int32 × (Nat → Int64) × (Nat → Int64) × (Nat → Int64) × (Nat → Int64) × (Nat → Int64) => fk_wx cJ cC cK ad kd (nI n) u.1 ch ts u.2.1 u.2.2.1 u.2.2.2.1 u.2.2.2.2.1 u.2.2.2.2.2 ++ tl)) A) rfl (by decide) (Nat.le_of_ble_eq_true rfl) ?_
  intro p e s m below meth c A ls args QQ hQQ hAt hP hK hN hD hA hS hl
  obtain ⟨⟨hx, hb, hml, hown, hts⟩, hr, hlocks, hin⟩ := hAt
  have hl : lv_has ls 9 [(0, .ref (ad 0)), (1, .int num), (2, .long x), (4, .int num2), (5, .long y)] := hl
  have k1 := hts (.fieldLink RX3 33 "FixedKinds" "first" "LFixedKinds$Fraction;") (by decide +kernel)
  have k2 := (by decide +kernel : ∀ w ∈ u_ws RX3 TX3 8, w ∈ wsX3_compare)
  have k3 := hN _ fkn_X3_72
  have k4 := hts (.initialized RX0) (by decide +kernel)
  have k5 := hts (.instanceMethod yX0_take) (by decide +kernel)
  have k6 := hts (.selects RX0 yX0_take yX0_take) (by decide +kernel)
  have k7 := hts (.fieldLink RX3 37 "FixedKinds" "second" "LFixedKinds$Fraction;") (by decide +kernel)
  have k8 := hts (.constantLong RX3 147 (-1)) (by decide +kernel)
  have k9 := hN _ fkn_X3_149
  have k10 := hts (.instanceMethod yX0_add) (by decide +kernel)
  have k11 := hts (.selects RX0 yX0_add yX0_add) (by decide +kernel)
  have k12 := hN _ fkn_X3_76
  have k13 := hts (.instanceMethod yX0_sign) (by decide +kernel)
  have k14 := hts (.selects RX0 yX0_sign yX0_sign) (by decide +kernel)
  have hn40 := hKT.1
  refine lv_aload_n hx hb dX3_compare_0 rfl (lv_at hl 0 rfl) ?_
  refine lv_iload_n hx hb dX3_compare_1 rfl (lv_at hl 1 rfl) ?_
  refine fk_cq hD hS hA (va_runV (As := [.int num]) (rest := []) ⟨hx, hb, hml, hown, hts⟩ (kX3_find _ ad tl kd lo ch ts f1 f2 f3 f4 f5 n kf ka kp num hKT) (cwV 1 hts gX3_compare_X3_find rfl rfl rfl (by decide +kernel) ⟨Nat.le_of_ble_eq_true rfl, Nat.le_of_ble_eq_true rfl⟩) (fk_preV 0 4 hK hN hP hD rfl rfl) rfl rfl hl.1 rfl (lv_room (Nat.le_of_ble_eq_true rfl)) dX3_compare_2 ⟨Nat.le_of_ble_eq_true rfl, Nat.le_of_ble_eq_true rfl⟩) (fun r1 u H locs hw hP hD hS => ?_)
  have hP : va_P D vwCl (fk_wx cJ cC cK ad kd (nI n) lo ch ts f1 f2 f3 f4 f5 ++ tl) H := hP
  have hD : va_D A (fk_wx cJ cC cK ad kd (nI n) lo ch ts f1 f2 f3 f4 f5 ++ tl) := hD
  rcases hw with ⟨hr_i, hno_i⟩ | ⟨i, hi, hn_i, hr_i⟩
  · subst hr_i
    refine lv_astoreN (lv' := [(7, .null), (0, .ref (ad 0)), (1, .int num), (2, .long x), (4, .int num2), (5, .long y)]) hx hb dX3_compare_5 hl (by decide) rfl (fun ls hl => ?_)
    refine lv_aload_n hx hb dX3_compare_7 rfl (lv_at hl 1 rfl) ?_
    refine lv_iload hx hb dX3_compare_8 (lv_at hl 4 rfl) ?_
    refine fk_cq hD hS hA (va_runV (As := [.int num2]) (rest := []) ⟨hx, hb, hml, hown, hts⟩ (kX3_find _ ad tl kd lo ch ts f1 f2 f3 f4 f5 n kf ka kp num2 hKT) (cwV 1 hts gX3_compare_X3_find rfl rfl rfl (by decide +kernel) ⟨Nat.le_of_ble_eq_true rfl, Nat.le_of_ble_eq_true rfl⟩) (fk_preV 0 4 hK hN hP hD rfl rfl) rfl rfl hl.1 rfl (lv_room (Nat.le_of_ble_eq_true rfl)) dX3_compare_10 ⟨Nat.le_of_ble_eq_true rfl, Nat.le_of_ble_eq_true rfl⟩) (fun r2 u H locs hw hP hD hS => ?_)
    have hP : va_P D vwCl (fk_wx cJ cC cK ad kd (nI n) lo ch ts f1 f2 f3 f4 f5 ++ tl) H := hP
    have hD : va_D A (fk_wx cJ cC cK ad kd (nI n) lo ch ts f1 f2 f3 f4 f5 ++ tl) := hD
    rcases hw with ⟨hr_j, hno_j⟩ | ⟨j, hj, hn_j, hr_j⟩
    · subst hr_j
      refine lv_astoreN (lv' := [(8, .null), (7, .null), (0, .ref (ad 0)), (1, .int num), (2, .long x), (4, .int num2), (5, .long y)]) hx hb dX3_compare_13 hl (by decide) rfl (fun ls hl => ?_)
      refine lv_aloadN hx hb dX3_compare_15 (lv_at hl 1 rfl) ?_
      refine lv_ifnullN (tgt := 25) hx hb dX3_compare_17 (by decide) ?_
      refine lv_bipush (v := (-2)) hx hb dX3_compare_25 (by decide) ?_
      rw [hQQ]
      exact W.iret (v := (-2)) hx hb hr (fun t ht hW => ⟨⟨(-2), (lo, f1, f2, f3, f4, f5), rfl, ⟨(by rw [fk_sCmp, if_pos (Or.inl hno_i)]), rfl⟩, by rw [ht]; exact hP, va_K.moved hW.alike hK, hD⟩, hS.F ht⟩) hS.2.2 dX3_compare_27
    · subst hr_j
      subst hn_j
      have ok_j := (hKT.2.1 j hj).2.2
      obtain ⟨okd_j, oko_j, okr_j⟩ := id ok_j
      refine lv_astore (lv' := [(8, .ref (ka j)), (7, .null), (0, .ref (ad 0)), (1, .int num), (2, .long x), (4, .int (nI (j + 1))), (5, .long y)]) hx hb dX3_compare_13 hl (by decide) rfl (fun ls hl => ?_)
      refine lv_aloadN hx hb dX3_compare_15 (lv_at hl 1 rfl) ?_
      refine lv_ifnullN (tgt := 25) hx hb dX3_compare_17 (by decide) ?_
      refine lv_bipush (v := (-2)) hx hb dX3_compare_25 (by decide) ?_
      rw [hQQ]
      exact W.iret (v := (-2)) hx hb hr (fun t ht hW => ⟨⟨(-2), (lo, f1, f2, f3, f4, f5), rfl, ⟨(by rw [fk_sCmp, if_pos (Or.inl hno_i)]), rfl⟩, by rw [ht]; exact hP, va_K.moved hW.alike hK, hD⟩, hS.F ht⟩) hS.2.2 dX3_compare_27
  · subst hr_i
    subst hn_i
    have ok_i := (hKT.2.1 i hi).2.2
    obtain ⟨okd_i, oko_i, okr_i⟩ := id ok_i
    refine lv_astore (lv' := [(7, .ref (ka i)), (0, .ref (ad 0)), (1, .int (nI (i + 1))), (2, .long x), (4, .int num2), (5, .long y)]) hx hb dX3_compare_5 hl (by decide) rfl (fun ls hl => ?_)
    refine lv_aload_n hx hb dX3_compare_7 rfl (lv_at hl 1 rfl) ?_
    refine lv_iload hx hb dX3_compare_8 (lv_at hl 4 rfl) ?_
    refine fk_cq hD hS hA (va_runV (As := [.int num2]) (rest := []) ⟨hx, hb, hml, hown, hts⟩ (kX3_find _ ad tl kd lo ch ts f1 f2 f3 f4 f5 n kf ka kp num2 hKT) (cwV 1 hts gX3_compare_X3_find rfl rfl rfl (by decide +kernel) ⟨Nat.le_of_ble_eq_true rfl, Nat.le_of_ble_eq_true rfl⟩) (fk_preV 0 4 hK hN hP hD rfl rfl) rfl rfl hl.1 rfl (lv_room (Nat.le_of_ble_eq_true rfl)) dX3_compare_10 ⟨Nat.le_of_ble_eq_true rfl, Nat.le_of_ble_eq_true rfl⟩) (fun r3 u H locs hw hP hD hS => ?_)
    have hP : va_P D vwCl (fk_wx cJ cC cK ad kd (nI n) lo ch ts f1 f2 f3 f4 f5 ++ tl) H := hP
    have hD : va_D A (fk_wx cJ cC cK ad kd (nI n) lo ch ts f1 f2 f3 f4 f5 ++ tl) := hD
    rcases hw with ⟨hr_j, hno_j⟩ | ⟨j, hj, hn_j, hr_j⟩
    · subst hr_j
      refine lv_astoreN (lv' := [(8, .null), (7, .ref (ka i)), (0, .ref (ad 0)), (1, .int (nI (i + 1))), (2, .long x), (4, .int num2), (5, .long y)]) hx hb dX3_compare_13 hl (by decide) rfl (fun ls hl => ?_)
      refine lv_aload hx hb dX3_compare_15 (lv_at hl 1 rfl) ?_
      refine lv_ifnull hx hb dX3_compare_17 ?_
      refine lv_aloadN hx hb dX3_compare_20 (lv_at hl 0 rfl) ?_
      refine lv_ifnonnullN hx hb dX3_compare_22 ?_
      refine lv_bipush (v := (-2)) hx hb dX3_compare_25 (by decide) ?_
      rw [hQQ]
      exact W.iret (v := (-2)) hx hb hr (fun t ht hW => ⟨⟨(-2), (lo, f1, f2, f3, f4, f5), rfl, ⟨(by rw [fk_sCmp, if_pos (Or.inr hno_j)]), rfl⟩, by rw [ht]; exact hP, va_K.moved hW.alike hK, hD⟩, hS.F ht⟩) hS.2.2 dX3_compare_27
    · subst hr_j
      subst hn_j
      have ok_j := (hKT.2.1 j hj).2.2
      obtain ⟨okd_j, oko_j, okr_j⟩ := id ok_j
      refine lv_astore (lv' := [(8, .ref (ka j)), (7, .ref (ka i)), (0, .ref (ad 0)), (1, .int (nI (i + 1))), (2, .long x), (4, .int (nI (j + 1))), (5, .long y)]) hx hb dX3_compare_13 hl (by decide) rfl (fun ls hl => ?_)
      refine lv_aload hx hb dX3_compare_15 (lv_at hl 1 rfl) ?_
      refine lv_ifnull hx hb dX3_compare_17 ?_
      refine lv_aload hx hb dX3_compare_20 (lv_at hl 0 rfl) ?_
      refine lv_ifnonnull (tgt := 28) hx hb dX3_compare_22 (by decide) ?_
      refine lv_aload_n hx hb dX3_compare_28 rfl (lv_at hl 2 rfl) ?_
      refine va_get (D := D) (ci := 4) (v := .ref (ad 3)) (C := RX3) (T := TX3) (N := 8) hx hb hts k2 hown hK hP 0 rfl rfl 5 (by decide) k1 (fun _ h9 => h9) rfl dX3_compare_29 ?_
      refine lv_aload hx hb dX3_compare_32 (lv_at hl 1 rfl) ?_
      refine lv_lload_n hx hb dX3_compare_34 rfl (lv_at hl 4 rfl) ?_
      refine fk_cv hD hS hA (va_runVN (As := [.ref (ka i), .long x]) (rest := []) ⟨hx, hb, hml, hown, hts⟩ (kX0_take _ _ (ad 3) (ad 4) (ad 5) (ad 6) (ad 7) 3 4 5 6 7 f1 f2 (ka i) (kp i + 15) (kf i).1 (kf i).2.1 (kf i).2.2.2.2.2.1 (kf i).2.2.2.2.2.2 (kf i).2.2.1 (kf i).2.2.2.1 (kf i).2.2.2.2.1 x rfl rfl rfl rfl rfl (fk_tl (hKT.2.1 i hi).2.1) okd_i (by decide)) ⟨va_cnB 2 hts gX3_compare_X0_take_n72 rfl rfl rfl k3 k4 (by decide +kernel) ⟨Nat.le_of_ble_eq_true rfl, Nat.le_of_ble_eq_true rfl⟩, k5, k6⟩ (fk_preV 3 1 hK hN hP hD rfl rfl) rfl rfl hl.1 rfl (lv_room (Nat.le_of_ble_eq_true rfl)) dX3_compare_35 ⟨Nat.le_of_ble_eq_true rfl, Nat.le_of_ble_eq_true rfl⟩) (fun u4 H locs hw hP hD hS => ?_)
      have hP : va_P D vwCl (fk_wx cJ cC cK ad kd (nI n) lo ch ts u4.1 u4.2 f3 f4 f5 ++ tl) H := hP
      have hD : va_D A (fk_wx cJ cC cK ad kd (nI n) lo ch ts u4.1 u4.2 f3 f4 f5 ++ tl) := hD
      obtain ⟨hTu4, hBu4⟩ := hw
      have hTu4 : fk_R (fk_v (kf i) x) u4.1 := hTu4
      have hBu4 : fk_R (fk_dn (kf i)) u4.2 := hBu4
      have bvu4 := fk_v_bd ok_i x
      have bdu4 := fk_dn_bd ok_i
      refine lv_aload_n hx hb dX3_compare_38 rfl (lv_at hl 2 rfl) ?_
      refine va_get (D := D) (ci := 4) (v := .ref (ad 8)) (C := RX3) (T := TX3) (N := 8) hx hb hts k2 hown hK hP 0 rfl rfl 6 (by decide) k7 (fun _ h9 => h9) rfl dX3_compare_39 ?_
      refine lv_aload hx hb dX3_compare_42 (lv_at hl 0 rfl) ?_
      refine lv_lload hx hb dX3_compare_44 (lv_at hl 6 rfl) ?_
      refine fk_cv hD hS hA (va_runVN (As := [.ref (ka j), .long y]) (rest := []) ⟨hx, hb, hml, hown, hts⟩ (kX0_take _ _ (ad 8) (ad 9) (ad 10) (ad 11) (ad 12) 8 9 10 11 12 f3 f4 (ka j) (kp j + 15) (kf j).1 (kf j).2.1 (kf j).2.2.2.2.2.1 (kf j).2.2.2.2.2.2 (kf j).2.2.1 (kf j).2.2.2.1 (kf j).2.2.2.2.1 y rfl rfl rfl rfl rfl (fk_tl (hKT.2.1 j hj).2.1) okd_j (by decide)) ⟨va_cnB 2 hts gX3_compare_X0_take_n72 rfl rfl rfl k3 k4 (by decide +kernel) ⟨Nat.le_of_ble_eq_true rfl, Nat.le_of_ble_eq_true rfl⟩, k5, k6⟩ (fk_preV 8 1 hK hN hP hD rfl rfl) rfl rfl hl.1 rfl (lv_room (Nat.le_of_ble_eq_true rfl)) dX3_compare_46 ⟨Nat.le_of_ble_eq_true rfl, Nat.le_of_ble_eq_true rfl⟩) (fun u6 H locs hw hP hD hS => ?_)
      have hP : va_P D vwCl (fk_wx cJ cC cK ad kd (nI n) lo ch ts u4.1 u4.2 u6.1 u6.2 f5 ++ tl) H := hP
      have hD : va_D A (fk_wx cJ cC cK ad kd (nI n) lo ch ts u4.1 u4.2 u6.1 u6.2 f5 ++ tl) := hD
      obtain ⟨hTu6, hBu6⟩ := hw
      have hTu6 : fk_R (fk_v (kf j) y) u6.1 := hTu6
      have hBu6 : fk_R (fk_dn (kf j)) u6.2 := hBu6
      have bvu6 := fk_v_bd ok_j y
      have bdu6 := fk_dn_bd ok_j
      refine lv_aload_n hx hb dX3_compare_49 rfl (lv_at hl 2 rfl) ?_
      refine va_get (D := D) (ci := 4) (v := .ref (ad 3)) (C := RX3) (T := TX3) (N := 8) hx hb hts k2 hown hK hP 0 rfl rfl 5 (by decide) k1 (fun _ h9 => h9) rfl dX3_compare_50 ?_
      refine lv_aload_n hx hb dX3_compare_53 rfl (lv_at hl 2 rfl) ?_
      refine va_get (D := D) (ci := 4) (v := .ref (ad 8)) (C := RX3) (T := TX3) (N := 8) hx hb hts k2 hown hK hP 0 rfl rfl 6 (by decide) k7 (fun _ h9 => h9) rfl dX3_compare_54 ?_
      refine lv_ldc2 (v := (-1)) hx hb hown k8 dX3_compare_57 ?_
      refine fk_cv hD hS hA (va_runVN (As := [.ref (ad 8), .long (-1)]) (rest := []) ⟨hx, hb, hml, hown, hts⟩ (kX0_add _ ad tl kd (nI n) lo ch ts u4.1 u4.2 u6.1 u6.2 f5 (-1) _ _ _ _ hTu4 hBu4 hTu6 hBu6 (by decide)) ⟨va_cnB 2 hts gX3_compare_X0_add_n149 rfl rfl rfl k9 k4 (by decide +kernel) ⟨Nat.le_of_ble_eq_true rfl, Nat.le_of_ble_eq_true rfl⟩, k10, k11⟩ (fk_preV 3 1 hK hN hP hD rfl rfl) rfl rfl hl.1 rfl (lv_room (Nat.le_of_ble_eq_true rfl)) dX3_compare_60 ⟨Nat.le_of_ble_eq_true rfl, Nat.le_of_ble_eq_true rfl⟩) (fun u8 H locs hw hP hD hS => ?_)
      have hP : va_P D vwCl (fk_wx cJ cC cK ad kd (nI n) lo ch ts u8.1 u8.2.1 u8.2.2 u6.2 f5 ++ tl) H := hP
      have hD : va_D A (fk_wx cJ cC cK ad kd (nI n) lo ch ts u8.1 u8.2.1 u8.2.2 u6.2 f5 ++ tl) := hD
      rw [show ((-1) : Int64).toInt = (-1) by decide] at hw
      obtain ⟨hd1, hd2⟩ := hw
      have m1 := fk_pbd (a := fk_v (kf i) x) (b := fk_dn (kf j)) (A := 18889465931478580854784) (B := 1000) (by omega) (by omega) (by omega) (by omega) (by omega)
      have m2 := fk_pbd (a := fk_v (kf j) y) (b := fk_dn (kf i)) (A := 18889465931478580854784) (B := 1000) (by omega) (by omega) (by omega) (by omega) (by omega)
      refine lv_aload_n hx hb dX3_compare_63 rfl (lv_at hl 2 rfl) ?_
      refine va_get (D := D) (ci := 4) (v := .ref (ad 3)) (C := RX3) (T := TX3) (N := 8) hx hb hts k2 hown hK hP 0 rfl rfl 5 (by decide) k1 (fun _ h9 => h9) rfl dX3_compare_64 ?_
      refine fk_ci hD hS hA (va_runVN (As := []) (rest := []) ⟨hx, hb, hml, hown, hts⟩ (kX0_sign _ _ (ad 3) (ad 4) (ad 5) (ad 6) (ad 7) 3 4 5 6 7 u8.1 u8.2.1 _ rfl rfl rfl hd1 ⟨by omega, by omega⟩) ⟨va_cnB 0 hts gX3_compare_X0_sign_n76 rfl rfl rfl k12 k4 (by decide +kernel) ⟨Nat.le_of_ble_eq_true rfl, Nat.le_of_ble_eq_true rfl⟩, k13, k14⟩ (fk_preV 3 1 hK hN hP hD rfl rfl) rfl rfl hl.1 rfl (lv_room (Nat.le_of_ble_eq_true rfl)) dX3_compare_67 ⟨Nat.le_of_ble_eq_true rfl, Nat.le_of_ble_eq_true rfl⟩) (fun r10 u H locs hw hP hD hS => ?_)
      have hP : va_P D vwCl (fk_wx cJ cC cK ad kd (nI n) lo ch ts u8.1 u8.2.1 u8.2.2 u6.2 f5 ++ tl) H := hP
      have hD : va_D A (fk_wx cJ cC cK ad kd (nI n) lo ch ts u8.1 u8.2.1 u8.2.2 u6.2 f5 ++ tl) := hD
      rw [hQQ]
      exact W.iret (v := r10) hx hb hr (fun t ht hW => ⟨⟨r10, (lo, u8.1, u8.2.1, u8.2.2, u6.2, f5), rfl, ⟨hw.trans (Eq.symm (by rw [fk_sCmp, if_neg (fun q => q.elim (fk_no_j hi hn40) (fk_no_j hj hn40)), fk_ix_j hi hn40, fk_ix_j hj hn40]; rfl)), rfl⟩, by rw [ht]; exact hP, va_K.moved hW.alike hK, hD⟩, hS.F ht⟩) hS.2.2 dX3_compare_70
