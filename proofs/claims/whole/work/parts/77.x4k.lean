/-! Reference: bound, lost, thrown, convert, compare, by program -/
abbrev rmX4_bound : Room := { frames := 1, cells := 0, slots := 0, locals := 21 }
set_option maxHeartbeats 4000000 in
set_option maxRecDepth 100000 in
/-- bound -/
theorem kX4_bound {l : Launch} {D : va_G} {cJ cC cI cZ cK : ClassId} (sz : Nat) (am : Nat → Nat) (tl : va_W) (cd lo tn : Int32) (wd sg : Nat → Int32) (up dn of : Nat → Int64) (bey rnd tx pt sn : Nat → Int32) (n : Nat) (kf : Nat → fk_K) (num side : Int32) (hMT : fk_MT n kf wd sg up dn of bey rnd) : Met l yX4_bound wsX4_bound rmX4_bound (va_Pc [.ref (am 0), .int num, .int side] (fk_pre D (fk_ty cJ cC cI cZ cK) (fk_wm cJ cI cZ am cd (nI n) lo tn wd sg up dn of bey rnd tx pt sn ++ tl) sz)) (va_Ql (fun (r : Int64) (_ : Unit) => r.toInt = fk_sBnd n kf num side) (fk_Bd D (fk_ty cJ cC cI cZ cK) (va_A (fk_wm cJ cI cZ am cd (nI n) lo tn wd sg up dn of bey rnd tx pt sn ++ tl) sz) (fun _ : Unit => fk_wm cJ cI cZ am 0 (nI n) lo tn wd sg up dn of bey rnd tx pt sn ++ tl)) (va_A (fk_wm cJ cI cZ am cd (nI n) lo tn wd sg up dn of bey rnd tx pt sn ++ tl) sz)) 0 0 (va_A (fk_wm cJ cI cZ am cd (nI n) lo tn wd sg up dn of bey rnd tx pt sn ++ tl) sz) := by
  refine fk_ofW cX4_bound 3 (some .long) (fun A => va_Ql (fun (r : Int64) (_ : Unit) => r.toInt = fk_sBnd n kf num side) (fk_Bd D (fk_ty cJ cC cI cZ cK) A (fun _ : Unit => fk_wm cJ cI cZ am 0 (nI n) lo tn wd sg up dn of bey rnd tx pt sn ++ tl)) A) rfl (by decide) (Nat.le_of_ble_eq_true rfl) ?_
  intro p e s m below meth c A ls args QQ hQQ hAt hP hK hN hD hA hS hl
  obtain ⟨⟨hx, hb, hml, hown, hts⟩, hr, hlocks, hin⟩ := hAt
  have hl : lv_has ls 3 [(0, .ref (am 0)), (1, .int num), (2, .int side)] := hl
  have hn40 := hMT.1
  refine lv_aload_n hx hb dX4_bound_0 rfl (lv_at hl 0 rfl) ?_
  refine lv_iload_n hx hb dX4_bound_1 rfl (lv_at hl 1 rfl) ?_
  refine fk_ci hD hS hA (va_runV (As := [.int num]) (rest := []) ⟨hx, hb, hml, hown, hts⟩ (kX4_none _ am tl cd lo tn wd sg up dn of bey rnd tx pt sn n num hn40) (cwV 1 hts gX4_bound_X4_none rfl rfl rfl (by decide +kernel) ⟨Nat.le_of_ble_eq_true rfl, Nat.le_of_ble_eq_true rfl⟩) (fk_preV 0 5 hK hN hP hD rfl rfl) rfl rfl hl.1 rfl (lv_room (Nat.le_of_ble_eq_true rfl)) dX4_bound_2 ⟨Nat.le_of_ble_eq_true rfl, Nat.le_of_ble_eq_true rfl⟩) (fun r1 u H locs hw hP hD hS => ?_)
  have hP : va_P D vwCl (fk_wm cJ cI cZ am 0 (nI n) lo tn wd sg up dn of bey rnd tx pt sn ++ tl) H := hP
  have hD : va_D A (fk_wm cJ cI cZ am 0 (nI n) lo tn wd sg up dn of bey rnd tx pt sn ++ tl) := hD
  have zn_j := hw
  refine lv_if_eq (tgt := 12) hx hb dX4_bound_5 (by decide) (fun c_5 => ?_) (fun c_5 => ?_)
  · have hyes_j : ¬ (num.toInt < 1 ∨ (n : Int) < num.toInt) := by intro q; rw [zn_j, if_pos q] at c_5; exact absurd c_5 (by decide)
    obtain ⟨j, hj, hn_j⟩ : ∃ j : Nat, j < n ∧ num = nI (j + 1) := ⟨num.toInt.toNat - 1, by omega, by apply Int32.toInt_inj.mp; rw [nI_toInt (by omega)]; omega⟩
    subst hn_j
    obtain ⟨e1_j, e2_j, e3_j, e4_j, e5_j, e6_j, e7_j, ok_j⟩ := hMT.2.1 j hj
    have okw_j := ok_j.1.1
    refine lv_iload_n hx hb dX4_bound_12 rfl (lv_at hl 2 rfl) ?_
    refine lv_if_ne (tgt := 24) hx hb dX4_bound_13 (by decide) (fun c_13 => ?_) (fun c_13 => ?_)
    · refine lv_aload_n hx hb dX4_bound_24 rfl (lv_at hl 0 rfl) ?_
      refine lv_iload_n hx hb dX4_bound_25 rfl (lv_at hl 1 rfl) ?_
      refine fk_cl hD hS hA (va_runV (As := [.int (nI (j + 1))]) (rest := []) ⟨hx, hb, hml, hown, hts⟩ (kX4_most _ am tl 0 (nI n) lo tn wd sg up dn of bey rnd tx pt sn (j + 1) (kf j).1 (kf j).2.1 (by omega) okw_j e1_j e2_j) (cwV 1 hts gX4_bound_X4_most rfl rfl rfl (by decide +kernel) ⟨Nat.le_of_ble_eq_true rfl, Nat.le_of_ble_eq_true rfl⟩) (fk_preV 0 5 hK hN hP hD rfl rfl) rfl rfl hl.1 rfl (lv_room (Nat.le_of_ble_eq_true rfl)) dX4_bound_26 ⟨Nat.le_of_ble_eq_true rfl, Nat.le_of_ble_eq_true rfl⟩) (fun r2 u H locs hw hP hD hS => ?_)
      have hP : va_P D vwCl (fk_wm cJ cI cZ am 0 (nI n) lo tn wd sg up dn of bey rnd tx pt sn ++ tl) H := hP
      have hD : va_D A (fk_wm cJ cI cZ am 0 (nI n) lo tn wd sg up dn of bey rnd tx pt sn ++ tl) := hD
      rw [hQQ]
      exact W.lret (v := r2) hx hb hr (fun t ht hW => ⟨⟨r2, (), rfl, hw.trans (by rw [fk_sBnd, if_neg (fk_no_j hj hn40), fk_ix_j hj hn40, if_neg c_13]), by rw [ht]; exact hP, va_K.moved hW.alike hK, hD⟩, hS.F ht⟩) hS.2.2 dX4_bound_29
    · refine lv_aload_n hx hb dX4_bound_16 rfl (lv_at hl 0 rfl) ?_
      refine lv_iload_n hx hb dX4_bound_17 rfl (lv_at hl 1 rfl) ?_
      refine fk_cl hD hS hA (va_runV (As := [.int (nI (j + 1))]) (rest := []) ⟨hx, hb, hml, hown, hts⟩ (kX4_least _ am tl 0 (nI n) lo tn wd sg up dn of bey rnd tx pt sn (j + 1) (kf j).1 (kf j).2.1 (by omega) okw_j e1_j e2_j) (cwV 1 hts gX4_bound_X4_least rfl rfl rfl (by decide +kernel) ⟨Nat.le_of_ble_eq_true rfl, Nat.le_of_ble_eq_true rfl⟩) (fk_preV 0 5 hK hN hP hD rfl rfl) rfl rfl hl.1 rfl (lv_room (Nat.le_of_ble_eq_true rfl)) dX4_bound_18 ⟨Nat.le_of_ble_eq_true rfl, Nat.le_of_ble_eq_true rfl⟩) (fun r3 u H locs hw hP hD hS => ?_)
      have hP : va_P D vwCl (fk_wm cJ cI cZ am 0 (nI n) lo tn wd sg up dn of bey rnd tx pt sn ++ tl) H := hP
      have hD : va_D A (fk_wm cJ cI cZ am 0 (nI n) lo tn wd sg up dn of bey rnd tx pt sn ++ tl) := hD
      refine lv_goto (tgt := 29) hx hb dX4_bound_21 (by decide) ?_
      rw [hQQ]
      exact W.lret (v := r3) hx hb hr (fun t ht hW => ⟨⟨r3, (), rfl, hw.trans (by rw [fk_sBnd, if_neg (fk_no_j hj hn40), fk_ix_j hj hn40, if_pos c_13]), by rw [ht]; exact hP, va_K.moved hW.alike hK, hD⟩, hS.F ht⟩) hS.2.2 dX4_bound_29
  · have hno_j : fk_no n num := by by_cases q : (num.toInt < 1 ∨ (n : Int) < num.toInt); exact q; rw [zn_j, if_neg q] at c_5; exact absurd rfl c_5
    refine lv_lconst (v := 0) hx hb dX4_bound_8 (by decide) ?_
    refine lv_goto (tgt := 29) hx hb dX4_bound_9 (by decide) ?_
    rw [hQQ]
    exact W.lret (v := 0) hx hb hr (fun t ht hW => ⟨⟨0, (), rfl, (by rw [fk_sBnd, if_pos hno_j]; decide), by rw [ht]; exact hP, va_K.moved hW.alike hK, hD⟩, hS.F ht⟩) hS.2.2 dX4_bound_29
abbrev rmX4_lost : Room := { frames := 0, cells := 0, slots := 0, locals := 0 }
set_option maxHeartbeats 4000000 in
set_option maxRecDepth 100000 in
/-- lost -/
theorem kX4_lost {l : Launch} {D : va_G} {cJ cC cI cZ cK : ClassId} (sz : Nat) (am : Nat → Nat) (tl : va_W) (cd lo tn : Int32) (wd sg : Nat → Int32) (up dn of : Nat → Int64) (bey rnd tx pt sn : Nat → Int32) (n : Nat) (kf : Nat → fk_K)  (hMT : fk_MT n kf wd sg up dn of bey rnd) (hlo : lo = 0 ∨ lo = 1) : Met l yX4_lost wsX4_lost rmX4_lost (va_Pc [.ref (am 0)] (fk_pre D (fk_ty cJ cC cI cZ cK) (fk_wm cJ cI cZ am cd (nI n) lo tn wd sg up dn of bey rnd tx pt sn ++ tl) sz)) (va_Qi (fun (r : Int32) (_ : Unit) => r = lo) (fk_Bd D (fk_ty cJ cC cI cZ cK) (va_A (fk_wm cJ cI cZ am cd (nI n) lo tn wd sg up dn of bey rnd tx pt sn ++ tl) sz) (fun _ : Unit => fk_wm cJ cI cZ am 0 (nI n) lo tn wd sg up dn of bey rnd tx pt sn ++ tl)) (va_A (fk_wm cJ cI cZ am cd (nI n) lo tn wd sg up dn of bey rnd tx pt sn ++ tl) sz)) 0 0 (va_A (fk_wm cJ cI cZ am cd (nI n) lo tn wd sg up dn of bey rnd tx pt sn ++ tl) sz) := by
  refine fk_ofW cX4_lost 1 (some .boolean) (fun A => va_Qi (fun (r : Int32) (_ : Unit) => r = lo) (fk_Bd D (fk_ty cJ cC cI cZ cK) A (fun _ : Unit => fk_wm cJ cI cZ am 0 (nI n) lo tn wd sg up dn of bey rnd tx pt sn ++ tl)) A) rfl (by decide) (Nat.le_of_ble_eq_true rfl) ?_
  intro p e s m below meth c A ls args QQ hQQ hAt hP hK hN hD hA hS hl
  obtain ⟨⟨hx, hb, hml, hown, hts⟩, hr, hlocks, hin⟩ := hAt
  have hl : lv_has ls 1 [(0, .ref (am 0))] := hl
  have k1 := hts (.fieldLink RX4 42 "FixedKindsModel" "code" "I") (by decide +kernel)
  have k2 := (by decide +kernel : ∀ w ∈ u_ws RX4 TX4 14, w ∈ wsX4_lost)
  have k3 := hts (.fieldLink RX4 113 "FixedKindsModel" "lost" "Z") (by decide +kernel)
  have hn40 := hMT.1
  refine lv_aload_n hx hb dX4_lost_0 rfl (lv_at hl 0 rfl) ?_
  refine lv_iconst (v := 0) hx hb dX4_lost_1 (by decide) ?_
  refine va_put (D := D) (ci := 5) (v := .int 0) (ty := (.int)) (C := RX4) (T := TX4) (N := 14) hx hb hts k2 tyX4 tyX4_ok nmX4 hown hK hP hD hS 0 rfl rfl 0 (by decide) k1 (fun _ h9 => h9) rfl (by decide +kernel) rfl rfl (Nat.le_of_ble_eq_true rfl) dX4_lost_2 (fun H locs hP hD hS => ?_)
  have hP : va_P D vwCl (fk_wm cJ cI cZ am 0 (nI n) lo tn wd sg up dn of bey rnd tx pt sn ++ tl) H := hP
  have hD : va_D A (fk_wm cJ cI cZ am 0 (nI n) lo tn wd sg up dn of bey rnd tx pt sn ++ tl) := hD
  refine lv_aload_n hx hb dX4_lost_5 rfl (lv_at hl 0 rfl) ?_
  refine va_get (D := D) (ci := 5) (v := .int lo) (C := RX4) (T := TX4) (N := 14) hx hb hts k2 hown hK hP 0 rfl rfl 9 (by decide) k3 (fun _ h9 => h9) rfl dX4_lost_6 ?_
  rw [hQQ]
  exact W.zret (v := lo) hx hb hr (by rcases hlo with q | q <;> rw [q] <;> rfl) (fun t ht hW => ⟨⟨lo, (), rfl, rfl, by rw [ht]; exact hP, va_K.moved hW.alike hK, hD⟩, hS.F ht⟩) hS.2.2 dX4_lost_9
abbrev rmX4_thrown : Room := { frames := 0, cells := 0, slots := 0, locals := 0 }
set_option maxHeartbeats 4000000 in
set_option maxRecDepth 100000 in
/-- thrown -/
theorem kX4_thrown {l : Launch} {D : va_G} {cJ cC cI cZ cK : ClassId} (sz : Nat) (am : Nat → Nat) (tl : va_W) (cd lo tn : Int32) (wd sg : Nat → Int32) (up dn of : Nat → Int64) (bey rnd tx pt sn : Nat → Int32) (n : Nat) (kf : Nat → fk_K)  (hMT : fk_MT n kf wd sg up dn of bey rnd) : Met l yX4_thrown wsX4_thrown rmX4_thrown (va_Pc [.ref (am 0)] (fk_pre D (fk_ty cJ cC cI cZ cK) (fk_wm cJ cI cZ am cd (nI n) lo tn wd sg up dn of bey rnd tx pt sn ++ tl) sz)) (va_Qi (fun (r : Int32) (_ : Unit) => r = cd) (fk_Bd D (fk_ty cJ cC cI cZ cK) (va_A (fk_wm cJ cI cZ am cd (nI n) lo tn wd sg up dn of bey rnd tx pt sn ++ tl) sz) (fun _ : Unit => fk_wm cJ cI cZ am cd (nI n) lo tn wd sg up dn of bey rnd tx pt sn ++ tl)) (va_A (fk_wm cJ cI cZ am cd (nI n) lo tn wd sg up dn of bey rnd tx pt sn ++ tl) sz)) 0 0 (va_A (fk_wm cJ cI cZ am cd (nI n) lo tn wd sg up dn of bey rnd tx pt sn ++ tl) sz) := by
  refine fk_ofW cX4_thrown 1 (some .int) (fun A => va_Qi (fun (r : Int32) (_ : Unit) => r = cd) (fk_Bd D (fk_ty cJ cC cI cZ cK) A (fun _ : Unit => fk_wm cJ cI cZ am cd (nI n) lo tn wd sg up dn of bey rnd tx pt sn ++ tl)) A) rfl (by decide) (Nat.le_of_ble_eq_true rfl) ?_
  intro p e s m below meth c A ls args QQ hQQ hAt hP hK hN hD hA hS hl
  obtain ⟨⟨hx, hb, hml, hown, hts⟩, hr, hlocks, hin⟩ := hAt
  have hl : lv_has ls 1 [(0, .ref (am 0))] := hl
  have k1 := hts (.fieldLink RX4 42 "FixedKindsModel" "code" "I") (by decide +kernel)
  have k2 := (by decide +kernel : ∀ w ∈ u_ws RX4 TX4 14, w ∈ wsX4_thrown)
  have hn40 := hMT.1
  refine lv_aload_n hx hb dX4_thrown_0 rfl (lv_at hl 0 rfl) ?_
  refine va_get (D := D) (ci := 5) (v := .int cd) (C := RX4) (T := TX4) (N := 14) hx hb hts k2 hown hK hP 0 rfl rfl 0 (by decide) k1 (fun _ h9 => h9) rfl dX4_thrown_1 ?_
  rw [hQQ]
  exact W.iret (v := cd) hx hb hr (fun t ht hW => ⟨⟨cd, (), rfl, rfl, by rw [ht]; exact hP, va_K.moved hW.alike hK, hD⟩, hS.F ht⟩) hS.2.2 dX4_thrown_4
abbrev rmX4_convert : Room := { frames := 5, cells := 0, slots := 0, locals := 119 }
set_option maxHeartbeats 4000000 in
set_option maxRecDepth 100000 in
/-- convert -/
theorem kX4_convert {l : Launch} {D : va_G} {cJ cC cI cZ cK : ClassId} (sz : Nat) (am : Nat → Nat) (tl : va_W) (cd lo tn : Int32) (wd sg : Nat → Int32) (up dn of : Nat → Int64) (bey rnd tx pt sn : Nat → Int32) (n : Nat) (kf : Nat → fk_K) (num num2 : Int32) (v : Int64) (hMT : fk_MT n kf wd sg up dn of bey rnd) : Met l yX4_convert wsX4_convert rmX4_convert (va_Pc [.ref (am 0), .int num, .long v, .int num2] (fk_pre D (fk_ty cJ cC cI cZ cK) (fk_wm cJ cI cZ am cd (nI n) lo tn wd sg up dn of bey rnd tx pt sn ++ tl) sz)) (va_Ql (fun (r : Int64) (u : Int32 × (Nat → Int32) × (Nat → Int32)) => r.toInt = fk_sConv n kf num v num2 ∧ u.1 = fk_lConv n kf lo num v num2) (fk_Bd D (fk_ty cJ cC cI cZ cK) (va_A (fk_wm cJ cI cZ am cd (nI n) lo tn wd sg up dn of bey rnd tx pt sn ++ tl) sz) (fun u : Int32 × (Nat → Int32) × (Nat → Int32) => fk_wm cJ cI cZ am 0 (nI n) u.1 tn wd sg up dn of bey rnd tx u.2.1 u.2.2 ++ tl)) (va_A (fk_wm cJ cI cZ am cd (nI n) lo tn wd sg up dn of bey rnd tx pt sn ++ tl) sz)) 0 0 (va_A (fk_wm cJ cI cZ am cd (nI n) lo tn wd sg up dn of bey rnd tx pt sn ++ tl) sz) := by
  refine fk_ofW cX4_convert 5 (some .long) (fun A => va_Ql (fun (r : Int64) (u : Int32 × (Nat → Int32) × (Nat → Int32)) => r.toInt = fk_sConv n kf num v num2 ∧ u.1 = fk_lConv n kf lo num v num2) (fk_Bd D (fk_ty cJ cC cI cZ cK) A (fun u : Int32 × (Nat → Int32) × (Nat → Int32) => fk_wm cJ cI cZ am 0 (nI n) u.1 tn wd sg up dn of bey rnd tx u.2.1 u.2.2 ++ tl)) A) rfl (by decide) (Nat.le_of_ble_eq_true rfl) ?_
  intro p e s m below meth c A ls args QQ hQQ hAt hP hK hN hD hA hS hl
  obtain ⟨⟨hx, hb, hml, hown, hts⟩, hr, hlocks, hin⟩ := hAt
  have hl : lv_has ls 5 [(0, .ref (am 0)), (1, .int num), (2, .long v), (4, .int num2)] := hl
  have hn40 := hMT.1
  refine lv_aload_n hx hb dX4_convert_0 rfl (lv_at hl 0 rfl) ?_
  refine lv_iload_n hx hb dX4_convert_1 rfl (lv_at hl 1 rfl) ?_
  refine fk_ci hD hS hA (va_runV (As := [.int num]) (rest := []) ⟨hx, hb, hml, hown, hts⟩ (kX4_none _ am tl cd lo tn wd sg up dn of bey rnd tx pt sn n num hn40) (cwV 1 hts gX4_convert_X4_none rfl rfl rfl (by decide +kernel) ⟨Nat.le_of_ble_eq_true rfl, Nat.le_of_ble_eq_true rfl⟩) (fk_preV 0 5 hK hN hP hD rfl rfl) rfl rfl hl.1 rfl (lv_room (Nat.le_of_ble_eq_true rfl)) dX4_convert_2 ⟨Nat.le_of_ble_eq_true rfl, Nat.le_of_ble_eq_true rfl⟩) (fun r1 u H locs hw hP hD hS => ?_)
  have hP : va_P D vwCl (fk_wm cJ cI cZ am 0 (nI n) lo tn wd sg up dn of bey rnd tx pt sn ++ tl) H := hP
  have hD : va_D A (fk_wm cJ cI cZ am 0 (nI n) lo tn wd sg up dn of bey rnd tx pt sn ++ tl) := hD
  have zn_i := hw
  refine lv_if_ne (tgt := 17) hx hb dX4_convert_5 (by decide) (fun c_5 => ?_) (fun c_5 => ?_)
  · have hno_i : fk_no n num := by by_cases q : (num.toInt < 1 ∨ (n : Int) < num.toInt); exact q; rw [zn_i, if_neg q] at c_5; exact absurd rfl c_5
    refine lv_lconst (v := 0) hx hb dX4_convert_17 (by decide) ?_
    rw [hQQ]
    exact W.lret (v := 0) hx hb hr (fun t ht hW => ⟨⟨0, (lo, pt, sn), rfl, ⟨(by rw [fk_sConv, if_pos (Or.inl hno_i)]; decide), (by rw [fk_lConv, if_pos (Or.inl hno_i)])⟩, by rw [ht]; exact hP, va_K.moved hW.alike hK, hD⟩, hS.F ht⟩) hS.2.2 dX4_convert_18
  · have hyes_i : ¬ (num.toInt < 1 ∨ (n : Int) < num.toInt) := by intro q; rw [zn_i, if_pos q] at c_5; exact absurd c_5 (by decide)
    obtain ⟨i, hi, hn_i⟩ : ∃ j : Nat, j < n ∧ num = nI (j + 1) := ⟨num.toInt.toNat - 1, by omega, by apply Int32.toInt_inj.mp; rw [nI_toInt (by omega)]; omega⟩
    subst hn_i
    obtain ⟨e1_i, e2_i, e3_i, e4_i, e5_i, e6_i, e7_i, ok_i⟩ := hMT.2.1 i hi
    have okw_i := ok_i.1.1
    refine lv_aload_n hx hb dX4_convert_8 rfl (lv_at hl 0 rfl) ?_
    refine lv_iload hx hb dX4_convert_9 (lv_at hl 3 rfl) ?_
    refine fk_ci hD hS hA (va_runV (As := [.int num2]) (rest := []) ⟨hx, hb, hml, hown, hts⟩ (kX4_none _ am tl 0 lo tn wd sg up dn of bey rnd tx pt sn n num2 hn40) (cwV 1 hts gX4_convert_X4_none rfl rfl rfl (by decide +kernel) ⟨Nat.le_of_ble_eq_true rfl, Nat.le_of_ble_eq_true rfl⟩) (fk_preV 0 5 hK hN hP hD rfl rfl) rfl rfl hl.1 rfl (lv_room (Nat.le_of_ble_eq_true rfl)) dX4_convert_11 ⟨Nat.le_of_ble_eq_true rfl, Nat.le_of_ble_eq_true rfl⟩) (fun r2 u H locs hw hP hD hS => ?_)
    have hP : va_P D vwCl (fk_wm cJ cI cZ am 0 (nI n) lo tn wd sg up dn of bey rnd tx pt sn ++ tl) H := hP
    have hD : va_D A (fk_wm cJ cI cZ am 0 (nI n) lo tn wd sg up dn of bey rnd tx pt sn ++ tl) := hD
    have zn_j := hw
    refine lv_if_eq (tgt := 19) hx hb dX4_convert_14 (by decide) (fun c_14 => ?_) (fun c_14 => ?_)
    · have hyes_j : ¬ (num2.toInt < 1 ∨ (n : Int) < num2.toInt) := by intro q; rw [zn_j, if_pos q] at c_14; exact absurd c_14 (by decide)
      obtain ⟨j, hj, hn_j⟩ : ∃ j : Nat, j < n ∧ num2 = nI (j + 1) := ⟨num2.toInt.toNat - 1, by omega, by apply Int32.toInt_inj.mp; rw [nI_toInt (by omega)]; omega⟩
      subst hn_j
      obtain ⟨e1_j, e2_j, e3_j, e4_j, e5_j, e6_j, e7_j, ok_j⟩ := hMT.2.1 j hj
      have okw_j := ok_j.1.1
      refine lv_aload_n hx hb dX4_convert_19 rfl (lv_at hl 0 rfl) ?_
      refine lv_iconst (v := 0) hx hb dX4_convert_20 (by decide) ?_
      refine lv_iload_n hx hb dX4_convert_21 rfl (lv_at hl 1 rfl) ?_
      refine lv_lload_n hx hb dX4_convert_22 rfl (lv_at hl 2 rfl) ?_
      refine fk_cv hD hS hA (va_runV (As := [.int 0, .int (nI (i + 1)), .long v]) (rest := []) ⟨hx, hb, hml, hown, hts⟩ (kX4_value _ am tl 0 (nI n) lo tn wd sg up dn of bey rnd tx pt sn 0 (i + 1) (kf i).1 (kf i).2.1 (kf i).2.2.1 (kf i).2.2.2.1 (kf i).2.2.2.2.1 v (by omega) (by omega) ok_i.1 e1_i e2_i e3_i e4_i e5_i) (cwV 3 hts gX4_convert_X4_value rfl rfl rfl (by decide +kernel) ⟨Nat.le_of_ble_eq_true rfl, Nat.le_of_ble_eq_true rfl⟩) (fk_preV 0 5 hK hN hP hD rfl rfl) rfl rfl hl.1 rfl (lv_room (Nat.le_of_ble_eq_true rfl)) dX4_convert_23 ⟨Nat.le_of_ble_eq_true rfl, Nat.le_of_ble_eq_true rfl⟩) (fun u3 H locs hw hP hD hS => ?_)
      have hP : va_P D vwCl (fk_wm cJ cI cZ am 0 (nI n) lo tn wd sg up dn of bey rnd tx u3.1 u3.2 ++ tl) H := hP
      have hD : va_D A (fk_wm cJ cI cZ am 0 (nI n) lo tn wd sg up dn of bey rnd tx u3.1 u3.2 ++ tl) := hD
      obtain ⟨ga_i, gb_i, kv_i⟩ := hw
      have ga_i : fk_G (fk_v (kf i) v) 0 u3.1 u3.2 := ga_i
      have gb_i : fk_G (fk_dn (kf i)) 1 u3.1 u3.2 := gb_i
      have bv_i := fk_v_bd ok_i v
      have bd_i := fk_dn_bd ok_i
      have KK5 : fk_kr [0, 1, 4, 5, 6, 7, 16, 17, 18, 19, 20, 22, 23] pt sn u3.1 u3.2 := fk_kr_t (fk_kr_0 pt sn) kv_i (fun r hr => by simp at hr ⊢; omega)
      refine lv_aload_n hx hb dX4_convert_26 rfl (lv_at hl 0 rfl) ?_
      refine lv_iload hx hb dX4_convert_27 (lv_at hl 3 rfl) ?_
      refine fk_cl hD hS hA (va_runV (As := [.int (nI (j + 1))]) (rest := []) ⟨hx, hb, hml, hown, hts⟩ (kX4_put _ am tl 0 (nI n) lo tn wd sg up dn of bey rnd tx u3.1 u3.2 (j + 1) (kf j).1 (kf j).2.1 (kf j).2.2.1 (kf j).2.2.2.1 (kf j).2.2.2.2.1 (kf j).2.2.2.2.2.1 (kf j).2.2.2.2.2.2 _ _ (by omega) ok_j.1 e1_j e2_j e3_j e4_j e5_j e6_j e7_j ok_j.2.1 ok_j.2.2 ga_i gb_i (fk_v_B ok_i v bd_i)) (cwV 1 hts gX4_convert_X4_put rfl rfl rfl (by decide +kernel) ⟨Nat.le_of_ble_eq_true rfl, Nat.le_of_ble_eq_true rfl⟩) (fk_preV 0 5 hK hN hP hD rfl rfl) rfl rfl hl.1 rfl (lv_room (Nat.le_of_ble_eq_true rfl)) dX4_convert_29 ⟨Nat.le_of_ble_eq_true rfl, Nat.le_of_ble_eq_true rfl⟩) (fun r7 u6 H locs hw hP hD hS => ?_)
      have hP : va_P D vwCl (fk_wm cJ cI cZ am 0 (nI n) u6.1 tn wd sg up dn of bey rnd tx u6.2.1 u6.2.2 ++ tl) H := hP
      have hD : va_D A (fk_wm cJ cI cZ am 0 (nI n) u6.1 tn wd sg up dn of bey rnd tx u6.2.1 u6.2.2 ++ tl) := hD
      obtain ⟨hput, hlst, kp1⟩ := hw
      rw [hQQ]
      exact W.lret (v := r7) hx hb hr (fun t ht hW => ⟨⟨r7, (u6.1, u6.2.1, u6.2.2), rfl, ⟨hput.trans (by rw [fk_sConv, if_neg (fun q => q.elim (fk_no_j hi hn40) (fk_no_j hj hn40)), fk_ix_j hi hn40, fk_ix_j hj hn40]; rfl), hlst.trans (by rw [fk_lConv, if_neg (fun q => q.elim (fk_no_j hi hn40) (fk_no_j hj hn40)), fk_ix_j hi hn40, fk_ix_j hj hn40]; rfl)⟩, by rw [ht]; exact hP, va_K.moved hW.alike hK, hD⟩, hS.F ht⟩) hS.2.2 dX4_convert_32
    · have hno_j : fk_no n num2 := by by_cases q : (num2.toInt < 1 ∨ (n : Int) < num2.toInt); exact q; rw [zn_j, if_neg q] at c_14; exact absurd rfl c_14
      refine lv_lconst (v := 0) hx hb dX4_convert_17 (by decide) ?_
      rw [hQQ]
      exact W.lret (v := 0) hx hb hr (fun t ht hW => ⟨⟨0, (lo, pt, sn), rfl, ⟨(by rw [fk_sConv, if_pos (Or.inr hno_j)]; decide), (by rw [fk_lConv, if_pos (Or.inr hno_j)])⟩, by rw [ht]; exact hP, va_K.moved hW.alike hK, hD⟩, hS.F ht⟩) hS.2.2 dX4_convert_18
abbrev rmX4_compare : Room := { frames := 3, cells := 0, slots := 0, locals := 76 }
set_option maxHeartbeats 4000000 in
set_option maxRecDepth 100000 in
/-- compare -/
theorem kX4_compare {l : Launch} {D : va_G} {cJ cC cI cZ cK : ClassId} (sz : Nat) (am : Nat → Nat) (tl : va_W) (cd lo tn : Int32) (wd sg : Nat → Int32) (up dn of : Nat → Int64) (bey rnd tx pt sn : Nat → Int32) (n : Nat) (kf : Nat → fk_K) (num num2 : Int32) (x y : Int64) (hMT : fk_MT n kf wd sg up dn of bey rnd) : Met l yX4_compare wsX4_compare rmX4_compare (va_Pc [.ref (am 0), .int num, .long x, .int num2, .long y] (fk_pre D (fk_ty cJ cC cI cZ cK) (fk_wm cJ cI cZ am cd (nI n) lo tn wd sg up dn of bey rnd tx pt sn ++ tl) sz)) (va_Qi (fun (r : Int32) (u : Int32 × (Nat → Int32) × (Nat → Int32)) => r = fk_sCmp n kf num x num2 y ∧ u.1 = lo) (fk_Bd D (fk_ty cJ cC cI cZ cK) (va_A (fk_wm cJ cI cZ am cd (nI n) lo tn wd sg up dn of bey rnd tx pt sn ++ tl) sz) (fun u : Int32 × (Nat → Int32) × (Nat → Int32) => fk_wm cJ cI cZ am 0 (nI n) u.1 tn wd sg up dn of bey rnd tx u.2.1 u.2.2 ++ tl)) (va_A (fk_wm cJ cI cZ am cd (nI n) lo tn wd sg up dn of bey rnd tx pt sn ++ tl) sz)) 0 0 (va_A (fk_wm cJ cI cZ am cd (nI n) lo tn wd sg up dn of bey rnd tx pt sn ++ tl) sz) := by
  refine fk_ofW cX4_compare 7 (some .int) (fun A => va_Qi (fun (r : Int32) (u : Int32 × (Nat → Int32) × (Nat → Int32)) => r = fk_sCmp n kf num x num2 y ∧ u.1 = lo) (fk_Bd D (fk_ty cJ cC cI cZ cK) A (fun u : Int32 × (Nat → Int32) × (Nat → Int32) => fk_wm cJ cI cZ am 0 (nI n) u.1 tn wd sg up dn of bey rnd tx u.2.1 u.2.2 ++ tl)) A) rfl (by decide) (Nat.le_of_ble_eq_true rfl) ?_
  intro p e s m below meth c A ls args QQ hQQ hAt hP hK hN hD hA hS hl
  obtain ⟨⟨hx, hb, hml, hown, hts⟩, hr, hlocks, hin⟩ := hAt
  have hl : lv_has ls 7 [(0, .ref (am 0)), (1, .int num), (2, .long x), (4, .int num2), (5, .long y)] := hl
  have k1 := hts (.fieldLink RX4 39 "FixedKindsModel" "sign" "[I") (by decide +kernel)
  have k2 := (by decide +kernel : ∀ w ∈ u_ws RX4 TX4 14, w ∈ wsX4_compare)
  have hn40 := hMT.1
  refine lv_aload_n hx hb dX4_compare_0 rfl (lv_at hl 0 rfl) ?_
  refine lv_iload_n hx hb dX4_compare_1 rfl (lv_at hl 1 rfl) ?_
  refine fk_ci hD hS hA (va_runV (As := [.int num]) (rest := []) ⟨hx, hb, hml, hown, hts⟩ (kX4_none _ am tl cd lo tn wd sg up dn of bey rnd tx pt sn n num hn40) (cwV 1 hts gX4_compare_X4_none rfl rfl rfl (by decide +kernel) ⟨Nat.le_of_ble_eq_true rfl, Nat.le_of_ble_eq_true rfl⟩) (fk_preV 0 5 hK hN hP hD rfl rfl) rfl rfl hl.1 rfl (lv_room (Nat.le_of_ble_eq_true rfl)) dX4_compare_2 ⟨Nat.le_of_ble_eq_true rfl, Nat.le_of_ble_eq_true rfl⟩) (fun r1 u H locs hw hP hD hS => ?_)
  have hP : va_P D vwCl (fk_wm cJ cI cZ am 0 (nI n) lo tn wd sg up dn of bey rnd tx pt sn ++ tl) H := hP
  have hD : va_D A (fk_wm cJ cI cZ am 0 (nI n) lo tn wd sg up dn of bey rnd tx pt sn ++ tl) := hD
  have zn_i := hw
  refine lv_if_ne (tgt := 17) hx hb dX4_compare_5 (by decide) (fun c_5 => ?_) (fun c_5 => ?_)
  · have hno_i : fk_no n num := by by_cases q : (num.toInt < 1 ∨ (n : Int) < num.toInt); exact q; rw [zn_i, if_neg q] at c_5; exact absurd rfl c_5
    refine lv_bipush (v := (-2)) hx hb dX4_compare_17 (by decide) ?_
    rw [hQQ]
    exact W.iret (v := (-2)) hx hb hr (fun t ht hW => ⟨⟨(-2), (lo, pt, sn), rfl, ⟨(by rw [fk_sCmp, if_pos (Or.inl hno_i)]), rfl⟩, by rw [ht]; exact hP, va_K.moved hW.alike hK, hD⟩, hS.F ht⟩) hS.2.2 dX4_compare_19
  · have hyes_i : ¬ (num.toInt < 1 ∨ (n : Int) < num.toInt) := by intro q; rw [zn_i, if_pos q] at c_5; exact absurd c_5 (by decide)
    obtain ⟨i, hi, hn_i⟩ : ∃ j : Nat, j < n ∧ num = nI (j + 1) := ⟨num.toInt.toNat - 1, by omega, by apply Int32.toInt_inj.mp; rw [nI_toInt (by omega)]; omega⟩
    subst hn_i
    obtain ⟨e1_i, e2_i, e3_i, e4_i, e5_i, e6_i, e7_i, ok_i⟩ := hMT.2.1 i hi
    have okw_i := ok_i.1.1
    refine lv_aload_n hx hb dX4_compare_8 rfl (lv_at hl 0 rfl) ?_
    refine lv_iload hx hb dX4_compare_9 (lv_at hl 3 rfl) ?_
    refine fk_ci hD hS hA (va_runV (As := [.int num2]) (rest := []) ⟨hx, hb, hml, hown, hts⟩ (kX4_none _ am tl 0 lo tn wd sg up dn of bey rnd tx pt sn n num2 hn40) (cwV 1 hts gX4_compare_X4_none rfl rfl rfl (by decide +kernel) ⟨Nat.le_of_ble_eq_true rfl, Nat.le_of_ble_eq_true rfl⟩) (fk_preV 0 5 hK hN hP hD rfl rfl) rfl rfl hl.1 rfl (lv_room (Nat.le_of_ble_eq_true rfl)) dX4_compare_11 ⟨Nat.le_of_ble_eq_true rfl, Nat.le_of_ble_eq_true rfl⟩) (fun r2 u H locs hw hP hD hS => ?_)
    have hP : va_P D vwCl (fk_wm cJ cI cZ am 0 (nI n) lo tn wd sg up dn of bey rnd tx pt sn ++ tl) H := hP
    have hD : va_D A (fk_wm cJ cI cZ am 0 (nI n) lo tn wd sg up dn of bey rnd tx pt sn ++ tl) := hD
    have zn_j := hw
    refine lv_if_eq (tgt := 20) hx hb dX4_compare_14 (by decide) (fun c_14 => ?_) (fun c_14 => ?_)
    · have hyes_j : ¬ (num2.toInt < 1 ∨ (n : Int) < num2.toInt) := by intro q; rw [zn_j, if_pos q] at c_14; exact absurd c_14 (by decide)
      obtain ⟨j, hj, hn_j⟩ : ∃ j : Nat, j < n ∧ num2 = nI (j + 1) := ⟨num2.toInt.toNat - 1, by omega, by apply Int32.toInt_inj.mp; rw [nI_toInt (by omega)]; omega⟩
      subst hn_j
      obtain ⟨e1_j, e2_j, e3_j, e4_j, e5_j, e6_j, e7_j, ok_j⟩ := hMT.2.1 j hj
      have okw_j := ok_j.1.1
      refine lv_aload_n hx hb dX4_compare_20 rfl (lv_at hl 0 rfl) ?_
      refine lv_bipush (v := 8) hx hb dX4_compare_21 (by decide) ?_
      refine lv_iload_n hx hb dX4_compare_23 rfl (lv_at hl 1 rfl) ?_
      refine lv_lload_n hx hb dX4_compare_24 rfl (lv_at hl 2 rfl) ?_
      refine fk_cv hD hS hA (va_runV (As := [.int 8, .int (nI (i + 1)), .long x]) (rest := []) ⟨hx, hb, hml, hown, hts⟩ (kX4_value _ am tl 0 (nI n) lo tn wd sg up dn of bey rnd tx pt sn 8 (i + 1) (kf i).1 (kf i).2.1 (kf i).2.2.1 (kf i).2.2.2.1 (kf i).2.2.2.2.1 x (by omega) (by omega) ok_i.1 e1_i e2_i e3_i e4_i e5_i) (cwV 3 hts gX4_compare_X4_value rfl rfl rfl (by decide +kernel) ⟨Nat.le_of_ble_eq_true rfl, Nat.le_of_ble_eq_true rfl⟩) (fk_preV 0 5 hK hN hP hD rfl rfl) rfl rfl hl.1 rfl (lv_room (Nat.le_of_ble_eq_true rfl)) dX4_compare_25 ⟨Nat.le_of_ble_eq_true rfl, Nat.le_of_ble_eq_true rfl⟩) (fun u3 H locs hw hP hD hS => ?_)
      have hP : va_P D vwCl (fk_wm cJ cI cZ am 0 (nI n) lo tn wd sg up dn of bey rnd tx u3.1 u3.2 ++ tl) H := hP
      have hD : va_D A (fk_wm cJ cI cZ am 0 (nI n) lo tn wd sg up dn of bey rnd tx u3.1 u3.2 ++ tl) := hD
      obtain ⟨ga_i, gb_i, kv_i⟩ := hw
      have ga_i : fk_G (fk_v (kf i) x) 8 u3.1 u3.2 := ga_i
      have gb_i : fk_G (fk_dn (kf i)) 9 u3.1 u3.2 := gb_i
      have bv_i := fk_v_bd ok_i x
      have bd_i := fk_dn_bd ok_i
      have KK5 : fk_kr [8, 9, 10, 11, 12, 13, 14, 20, 23] pt sn u3.1 u3.2 := fk_kr_t (fk_kr_0 pt sn) kv_i (fun r hr => by simp at hr ⊢; omega)
      refine lv_aload_n hx hb dX4_compare_28 rfl (lv_at hl 0 rfl) ?_
      refine lv_bipush (v := 10) hx hb dX4_compare_29 (by decide) ?_
      refine lv_iload hx hb dX4_compare_31 (lv_at hl 3 rfl) ?_
      refine lv_lload hx hb dX4_compare_33 (lv_at hl 4 rfl) ?_
      refine fk_cv hD hS hA (va_runV (As := [.int 10, .int (nI (j + 1)), .long y]) (rest := []) ⟨hx, hb, hml, hown, hts⟩ (kX4_value _ am tl 0 (nI n) lo tn wd sg up dn of bey rnd tx u3.1 u3.2 10 (j + 1) (kf j).1 (kf j).2.1 (kf j).2.2.1 (kf j).2.2.2.1 (kf j).2.2.2.2.1 y (by omega) (by omega) ok_j.1 e1_j e2_j e3_j e4_j e5_j) (cwV 3 hts gX4_compare_X4_value rfl rfl rfl (by decide +kernel) ⟨Nat.le_of_ble_eq_true rfl, Nat.le_of_ble_eq_true rfl⟩) (fk_preV 0 5 hK hN hP hD rfl rfl) rfl rfl hl.1 rfl (lv_room (Nat.le_of_ble_eq_true rfl)) dX4_compare_35 ⟨Nat.le_of_ble_eq_true rfl, Nat.le_of_ble_eq_true rfl⟩) (fun u6 H locs hw hP hD hS => ?_)
      have hP : va_P D vwCl (fk_wm cJ cI cZ am 0 (nI n) lo tn wd sg up dn of bey rnd tx u6.1 u6.2 ++ tl) H := hP
      have hD : va_D A (fk_wm cJ cI cZ am 0 (nI n) lo tn wd sg up dn of bey rnd tx u6.1 u6.2 ++ tl) := hD
      obtain ⟨ga_j, gb_j, kv_j⟩ := hw
      have ga_j : fk_G (fk_v (kf j) y) 10 u6.1 u6.2 := ga_j
      have gb_j : fk_G (fk_dn (kf j)) 11 u6.1 u6.2 := gb_j
      have bv_j := fk_v_bd ok_j y
      have bd_j := fk_dn_bd ok_j
      have gg8 := fk_G_kr ga_i kv_j (by simp <;> omega)
      have gg9 := fk_G_kr gb_i kv_j (by simp <;> omega)
      have KK10 : fk_kr [8, 9, 10, 11, 12, 13, 14, 20, 23] pt sn u6.1 u6.2 := fk_kr_t KK5 kv_j (fun r hr => by simp at hr ⊢; omega)
      refine lv_aload_n hx hb dX4_compare_38 rfl (lv_at hl 0 rfl) ?_
      refine lv_bipush (v := 12) hx hb dX4_compare_39 (by decide) ?_
      refine lv_bipush (v := 8) hx hb dX4_compare_41 (by decide) ?_
      refine lv_bipush (v := 11) hx hb dX4_compare_43 (by decide) ?_
      have am12 := fk_absT (a := fk_v (kf i) x) (A := 18889465931478580854784) (by omega) (by omega)
      have an12 := fk_absT (a := fk_dn (kf j)) (A := 1000) (by omega) (by omega)
      refine fk_cv hD hS hA (va_runV (As := [.int 12, .int 8, .int 11]) (rest := []) ⟨hx, hb, hml, hown, hts⟩ (kX4_multiply _ am tl 0 (nI n) lo tn wd sg up dn of bey rnd tx u6.1 u6.2 12 8 11 _ _ (by omega) (by omega) (by omega) (by omega) (by omega) gg8 gb_j (fk_absM am12 an12 (by decide))) (cwV 3 hts gX4_compare_X4_multiply rfl rfl rfl (by decide +kernel) ⟨Nat.le_of_ble_eq_true rfl, Nat.le_of_ble_eq_true rfl⟩) (fk_preV 0 5 hK hN hP hD rfl rfl) rfl rfl hl.1 rfl (lv_room (Nat.le_of_ble_eq_true rfl)) dX4_compare_45 ⟨Nat.le_of_ble_eq_true rfl, Nat.le_of_ble_eq_true rfl⟩) (fun u11 H locs hw hP hD hS => ?_)
      have hP : va_P D vwCl (fk_wm cJ cI cZ am 0 (nI n) lo tn wd sg up dn of bey rnd tx u11.1 u11.2 ++ tl) H := hP
      have hD : va_D A (fk_wm cJ cI cZ am 0 (nI n) lo tn wd sg up dn of bey rnd tx u11.1 u11.2 ++ tl) := hD
      obtain ⟨gr12, kx13a, kx13b⟩ := hw
      have kx13 := fk_kr_1 kx13a kx13b
      have gg15 := fk_G_kr gg8 kx13 (by simp <;> omega)
      have gg16 := fk_G_kr gg9 kx13 (by simp <;> omega)
      have gg17 := fk_G_kr ga_j kx13 (by simp <;> omega)
      have gg18 := fk_G_kr gb_j kx13 (by simp <;> omega)
      have KK19 : fk_kr [8, 9, 10, 11, 12, 13, 14, 20, 23] pt sn u11.1 u11.2 := fk_kr_t KK10 kx13 (fun r hr => by simp at hr ⊢; omega)
      refine lv_aload_n hx hb dX4_compare_48 rfl (lv_at hl 0 rfl) ?_
      refine lv_bipush (v := 13) hx hb dX4_compare_49 (by decide) ?_
      refine lv_bipush (v := 10) hx hb dX4_compare_51 (by decide) ?_
      refine lv_bipush (v := 9) hx hb dX4_compare_53 (by decide) ?_
      have am13 := fk_absT (a := fk_v (kf j) y) (A := 18889465931478580854784) (by omega) (by omega)
      have an13 := fk_absT (a := fk_dn (kf i)) (A := 1000) (by omega) (by omega)
      refine fk_cv hD hS hA (va_runV (As := [.int 13, .int 10, .int 9]) (rest := []) ⟨hx, hb, hml, hown, hts⟩ (kX4_multiply _ am tl 0 (nI n) lo tn wd sg up dn of bey rnd tx u11.1 u11.2 13 10 9 _ _ (by omega) (by omega) (by omega) (by omega) (by omega) gg17 gg16 (fk_absM am13 an13 (by decide))) (cwV 3 hts gX4_compare_X4_multiply rfl rfl rfl (by decide +kernel) ⟨Nat.le_of_ble_eq_true rfl, Nat.le_of_ble_eq_true rfl⟩) (fk_preV 0 5 hK hN hP hD rfl rfl) rfl rfl hl.1 rfl (lv_room (Nat.le_of_ble_eq_true rfl)) dX4_compare_55 ⟨Nat.le_of_ble_eq_true rfl, Nat.le_of_ble_eq_true rfl⟩) (fun u20 H locs hw hP hD hS => ?_)
      have hP : va_P D vwCl (fk_wm cJ cI cZ am 0 (nI n) lo tn wd sg up dn of bey rnd tx u20.1 u20.2 ++ tl) H := hP
      have hD : va_D A (fk_wm cJ cI cZ am 0 (nI n) lo tn wd sg up dn of bey rnd tx u20.1 u20.2 ++ tl) := hD
      obtain ⟨gr21, kx22a, kx22b⟩ := hw
      have kx22 := fk_kr_1 kx22a kx22b
      have gg24 := fk_G_kr gg15 kx22 (by simp <;> omega)
      have gg25 := fk_G_kr gg16 kx22 (by simp <;> omega)
      have gg26 := fk_G_kr gg17 kx22 (by simp <;> omega)
      have gg27 := fk_G_kr gg18 kx22 (by simp <;> omega)
      have gg28 := fk_G_kr gr12 kx22 (by simp <;> omega)
      have KK29 : fk_kr [8, 9, 10, 11, 12, 13, 14, 20, 23] pt sn u20.1 u20.2 := fk_kr_t KK19 kx22 (fun r hr => by simp at hr ⊢; omega)
      refine lv_aload_n hx hb dX4_compare_58 rfl (lv_at hl 0 rfl) ?_
      refine lv_bipush (v := 14) hx hb dX4_compare_59 (by decide) ?_
      refine lv_bipush (v := 12) hx hb dX4_compare_61 (by decide) ?_
      refine lv_bipush (v := 13) hx hb dX4_compare_63 (by decide) ?_
      refine lv_iconst (v := (-1)) hx hb dX4_compare_65 (by decide) ?_
      have b12 : fk_abs (fk_v (kf i) x * fk_dn (kf j)) ≤ 18889465931478580854784000 := by rw [fk_abs_mul]; have := Int.mul_le_mul am12.2 an12.2 an12.1 (by omega); omega
      have b13 : fk_abs (fk_v (kf j) y * fk_dn (kf i)) ≤ 18889465931478580854784000 := by rw [fk_abs_mul]; have := Int.mul_le_mul am13.2 an13.2 an13.1 (by omega); omega
      refine fk_cv hD hS hA (va_runV (As := [.int 14, .int 12, .int 13, .int (-1)]) (rest := []) ⟨hx, hb, hml, hown, hts⟩ (kX4_add _ am tl 0 (nI n) lo tn wd sg up dn of bey rnd tx u20.1 u20.2 14 12 13 (-1) _ _ (by omega) (by omega) (by omega) (Or.inr rfl) gg28 gr21 (by rw [fk_p16]; omega)) (cwV 4 hts gX4_compare_X4_add rfl rfl rfl (by decide +kernel) ⟨Nat.le_of_ble_eq_true rfl, Nat.le_of_ble_eq_true rfl⟩) (fk_preV 0 5 hK hN hP hD rfl rfl) rfl rfl hl.1 rfl (lv_room (Nat.le_of_ble_eq_true rfl)) dX4_compare_66 ⟨Nat.le_of_ble_eq_true rfl, Nat.le_of_ble_eq_true rfl⟩) (fun u30 H locs hw hP hD hS => ?_)
      have hP : va_P D vwCl (fk_wm cJ cI cZ am 0 (nI n) lo tn wd sg up dn of bey rnd tx u30.1 u30.2 ++ tl) H := hP
      have hD : va_D A (fk_wm cJ cI cZ am 0 (nI n) lo tn wd sg up dn of bey rnd tx u30.1 u30.2 ++ tl) := hD
      obtain ⟨gr31, kx32a, kx32b⟩ := hw
      have kx32 := fk_kr_1 kx32a kx32b
      have gg34 := fk_G_kr gg24 kx32 (by simp <;> omega)
      have gg35 := fk_G_kr gg25 kx32 (by simp <;> omega)
      have gg36 := fk_G_kr gg26 kx32 (by simp <;> omega)
      have gg37 := fk_G_kr gg27 kx32 (by simp <;> omega)
      have gg38 := fk_G_kr gg28 kx32 (by simp <;> omega)
      have gg39 := fk_G_kr gr21 kx32 (by simp <;> omega)
      have KK40 : fk_kr [8, 9, 10, 11, 12, 13, 14, 20, 23] pt sn u30.1 u30.2 := fk_kr_t KK29 kx32 (fun r hr => by simp at hr ⊢; omega)
      rw [show (-1 : Int32).toInt = -1 by decide] at gr31
      refine lv_aload_n hx hb dX4_compare_69 rfl (lv_at hl 0 rfl) ?_
      refine va_get (D := D) (ci := 5) (v := .ref (am 10)) (C := RX4) (T := TX4) (N := 14) hx hb hts k2 hown hK hP 0 rfl rfl 13 (by decide) k1 (fun _ h9 => h9) rfl dX4_compare_70 ?_
      refine lv_bipush (v := 14) hx hb dX4_compare_73 (by decide) ?_
      refine fk_iald hx hb hK hP 10 2 rfl rfl (i := 14) (by decide) (by decide) dX4_compare_75 ?_
      rw [hQQ]
      exact W.iret (v := u30.2 14) hx hb hr (fun t ht hW => ⟨⟨(u30.2 14), (lo, u30.1, u30.2), rfl, ⟨gr31.2.trans (Eq.symm (by rw [fk_sCmp, if_neg (fun q => q.elim (fk_no_j hi hn40) (fk_no_j hj hn40)), fk_ix_j hi hn40, fk_ix_j hj hn40])), rfl⟩, by rw [ht]; exact hP, va_K.moved hW.alike hK, hD⟩, hS.F ht⟩) hS.2.2 dX4_compare_76
    · have hno_j : fk_no n num2 := by by_cases q : (num2.toInt < 1 ∨ (n : Int) < num2.toInt); exact q; rw [zn_j, if_neg q] at c_14; exact absurd rfl c_14
      refine lv_bipush (v := (-2)) hx hb dX4_compare_17 (by decide) ?_
      rw [hQQ]
      exact W.iret (v := (-2)) hx hb hr (fun t ht hW => ⟨⟨(-2), (lo, pt, sn), rfl, ⟨(by rw [fk_sCmp, if_pos (Or.inr hno_j)]), rfl⟩, by rw [ht]; exact hP, va_K.moved hW.alike hK, hD⟩, hS.F ht⟩) hS.2.2 dX4_compare_19
