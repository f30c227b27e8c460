/-! FixedKinds: apply, at, by program -/
abbrev rmX3_apply : Room := { frames := 7, cells := 1, slots := 6, locals := 166 }
set_option maxHeartbeats 4000000 in
set_option maxRecDepth 100000 in
/-- apply -/
theorem kX3_apply {l : Launch} {D : va_G} {cJ cC cI cZ cK : ClassId} (sz : Nat) (ad : Nat → Nat) (tl : va_W) (kd : Nat → Option Nat) (lo : Int32) (ch : Nat → Int32) (ts : Int32) (f1 f2 f3 f4 f5 : Nat → Int64) (n : Nat) (kf : Nat → fk_K) (ka kp : Nat → Nat) (op num num2 : Int32) (x y : Int64) (hlt : l.stackTraces = false) (hKT : fk_KT n kf kd ka kp tl) : vx_Met l yX3_apply wsX3_apply rmX3_apply (va_Pc [.ref (ad 0), .int op, .int num, .long x, .int num2, .long y] (fk_preT D (fk_ty cJ cC cI cZ cK) (fk_wx cJ cC cK ad kd (nI n) lo ch ts f1 f2 f3 f4 f5 ++ tl) sz)) (va_Ql (fun (r : Int64) (u : Int32 × (Nat → Int64) × (Nat → Int64) × (Nat → Int64) × (Nat → Int64) × (Nat → Int64)) => ¬ fk_thr n kf op num num2 y ∧ r.toInt = fk_sApp n kf op num x num2 y ∧ u.1 = fk_lApp n kf lo op num x num2 y) (fk_Bd D (fk_ty cJ cC cI cZ cK) (va_A (fk_wx cJ cC cK ad kd (nI n) lo ch ts f1 f2 f3 f4 f5 ++ tl) sz) (fun u : Int32 × (Nat → Int64) × (Nat → Int64) × (Nat → Int64) × (Nat → Int64) × (Nat → Int64) => fk_wx cJ cC cK ad kd (nI n) u.1 ch ts u.2.1 u.2.2.1 u.2.2.2.1 u.2.2.2.2.1 u.2.2.2.2.2 ++ tl)) (va_A (fk_wx cJ cC cK ad kd (nI n) lo ch ts f1 f2 f3 f4 f5 ++ tl) sz)) (vx_X (fun u : Int32 × (Nat → Int64) × (Nat → Int64) × (Nat → Int64) × (Nat → Int64) × (Nat → Int64) => fk_thr n kf op num num2 y ∧ u.1 = lo) (fun (E : String) (u : Int32 × (Nat → Int64) × (Nat → Int64) × (Nat → Int64) × (Nat → Int64) × (Nat → Int64)) (t : State) => E = "java/lang/ArithmeticException" ∧ fk_Bd D (fk_ty cJ cC cI cZ cK) (va_A (fk_wx cJ cC cK ad kd (nI n) lo ch ts f1 f2 f3 f4 f5 ++ tl) sz) (fun u : Int32 × (Nat → Int64) × (Nat → Int64) × (Nat → Int64) × (Nat → Int64) × (Nat → Int64) => fk_wx cJ cC cK ad kd (nI n) u.1 ch ts u.2.1 u.2.2.1 u.2.2.2.1 u.2.2.2.2.1 u.2.2.2.2.2 ++ tl) u t) (va_A (fk_wx cJ cC cK ad kd (nI n) lo ch ts f1 f2 f3 f4 f5 ++ tl) sz)) 1 6 (va_A (fk_wx cJ cC cK ad kd (nI n) lo ch ts f1 f2 f3 f4 f5 ++ tl) sz) := by
  refine fk_ofX (y := yX3_apply) (ws := wsX3_apply) (rm := rmX3_apply) (av := [.ref (ad 0), .int op, .int num, .long x, .int num2, .long y]) (D := D) (tys := (fk_ty cJ cC cI cZ cK)) cX3_apply 10 (some .long) (fun A => va_Ql (fun (r : Int64) (u : Int32 × (Nat → Int64) × (Nat → Int64) × (Nat → Int64) × (Nat → Int64) × (Nat → Int64)) => ¬ fk_thr n kf op num num2 y ∧ r.toInt = fk_sApp n kf op num x num2 y ∧ u.1 = fk_lApp n kf lo op num x num2 y) (fk_Bd D (fk_ty cJ cC cI cZ cK) A (fun u : Int32 × (Nat → Int64) × (Nat → Int64) × (Nat → Int64) × (Nat → Int64) × (Nat → Int64) => fk_wx cJ cC cK ad kd (nI n) u.1 ch ts u.2.1 u.2.2.1 u.2.2.2.1 u.2.2.2.2.1 u.2.2.2.2.2 ++ tl)) A) (fun A => vx_X (fun u : Int32 × (Nat → Int64) × (Nat → Int64) × (Nat → Int64) × (Nat → Int64) × (Nat → Int64) => fk_thr n kf op num num2 y ∧ u.1 = lo) (fun (E : String) (u : Int32 × (Nat → Int64) × (Nat → Int64) × (Nat → Int64) × (Nat → Int64) × (Nat → Int64)) (t : State) => E = "java/lang/ArithmeticException" ∧ fk_Bd D (fk_ty cJ cC cI cZ cK) A (fun u : Int32 × (Nat → Int64) × (Nat → Int64) × (Nat → Int64) × (Nat → Int64) × (Nat → Int64) => fk_wx cJ cC cK ad kd (nI n) u.1 ch ts u.2.1 u.2.2.1 u.2.2.2.1 u.2.2.2.2.1 u.2.2.2.2.2 ++ tl) u t) A) rfl (by decide) (Nat.le_of_ble_eq_true rfl) ?_
  intro p e s m below meth c A ls args QQ hQQ hAt hP hK hN hD hA hS hl htab hXW
  obtain ⟨⟨hx, hb, hml, hown, hts⟩, hr, hlocks, hin⟩ := hAt
  have hl : lv_has ls 10 [(0, .ref (ad 0)), (1, .int op), (2, .int num), (3, .long x), (5, .int num2), (6, .long y)] := hl
  have k1 := hts (.fieldLink RX3 33 "FixedKinds" "first" "LFixedKinds$Fraction;") (by decide +kernel)
  have k2 := (by decide +kernel : ∀ w ∈ u_ws RX3 TX3 8, w ∈ wsX3_apply)
  have k3 := hN _ fkn_X3_72
  have k4 := hts (.initialized RX0) (by decide +kernel)
  have k5 := hts (.instanceMethod yX0_take) (by decide +kernel)
  have k6 := hts (.selects RX0 yX0_take yX0_take) (by decide +kernel)
  have k7 := hts (.fieldLink RX3 37 "FixedKinds" "second" "LFixedKinds$Fraction;") (by decide +kernel)
  have k8 := hN _ fkn_X3_76
  have k9 := hts (.instanceMethod yX0_sign) (by decide +kernel)
  have k10 := hts (.selects RX0 yX0_sign yX0_sign) (by decide +kernel)
  have k11 := hN _ fkn_X3_66
  have k12 := (by decide +kernel : ∀ w ∈ u_ws RX1 TX1 7, w ∈ wsX3_apply)
  have k13 := hts (.classLink RX3 80 "java/lang/ArithmeticException") (by decide +kernel)
  have k14 := hts (.initialized "java/lang/ArithmeticException") (by decide +kernel)
  have hn40 := hKT.1
  refine lv_aload_n hx hb dX3_apply_0 rfl (lv_at hl 0 rfl) ?_
  refine lv_iload_n hx hb dX3_apply_1 rfl (lv_at hl 2 rfl) ?_
  refine fk_cq hD hS hA (va_runV (As := [.int num]) (rest := []) ⟨hx, hb, hml, hown, hts⟩ (kX3_find _ ad tl kd lo ch ts f1 f2 f3 f4 f5 n kf ka kp num hKT) (cwV 1 hts gX3_apply_X3_find rfl rfl rfl (by decide +kernel) ⟨Nat.le_of_ble_eq_true rfl, Nat.le_of_ble_eq_true rfl⟩) (fk_preV 0 4 hK hN hP hD rfl rfl) rfl rfl hl.1 rfl (lv_room (Nat.le_of_ble_eq_true rfl)) dX3_apply_2 ⟨Nat.le_of_ble_eq_true rfl, Nat.le_of_ble_eq_true rfl⟩) (fun r1 u H locs hw hP hD hS => ?_)
  have hP : va_P D vwCl (fk_wx cJ cC cK ad kd (nI n) lo ch ts f1 f2 f3 f4 f5 ++ tl) H := hP
  have hD : va_D A (fk_wx cJ cC cK ad kd (nI n) lo ch ts f1 f2 f3 f4 f5 ++ tl) := hD
  rcases hw with ⟨hr_i, hno_i⟩ | ⟨i, hi, hn_i, hr_i⟩
  · subst hr_i
    refine lv_astoreN (lv' := [(8, .null), (0, .ref (ad 0)), (1, .int op), (2, .int num), (3, .long x), (5, .int num2), (6, .long y)]) hx hb dX3_apply_5 hl (by decide) rfl (fun ls hl => ?_)
    refine lv_aload_n hx hb dX3_apply_7 rfl (lv_at hl 1 rfl) ?_
    refine lv_iload hx hb dX3_apply_8 (lv_at hl 5 rfl) ?_
    refine fk_cq hD hS hA (va_runV (As := [.int num2]) (rest := []) ⟨hx, hb, hml, hown, hts⟩ (kX3_find _ ad tl kd lo ch ts f1 f2 f3 f4 f5 n kf ka kp num2 hKT) (cwV 1 hts gX3_apply_X3_find rfl rfl rfl (by decide +kernel) ⟨Nat.le_of_ble_eq_true rfl, Nat.le_of_ble_eq_true rfl⟩) (fk_preV 0 4 hK hN hP hD rfl rfl) rfl rfl hl.1 rfl (lv_room (Nat.le_of_ble_eq_true rfl)) dX3_apply_10 ⟨Nat.le_of_ble_eq_true rfl, Nat.le_of_ble_eq_true rfl⟩) (fun r2 u H locs hw hP hD hS => ?_)
    have hP : va_P D vwCl (fk_wx cJ cC cK ad kd (nI n) lo ch ts f1 f2 f3 f4 f5 ++ tl) H := hP
    have hD : va_D A (fk_wx cJ cC cK ad kd (nI n) lo ch ts f1 f2 f3 f4 f5 ++ tl) := hD
    rcases hw with ⟨hr_j, hno_j⟩ | ⟨j, hj, hn_j, hr_j⟩
    · subst hr_j
      refine lv_astoreN (lv' := [(9, .null), (8, .null), (0, .ref (ad 0)), (1, .int op), (2, .int num), (3, .long x), (5, .int num2), (6, .long y)]) hx hb dX3_apply_13 hl (by decide) rfl (fun ls hl => ?_)
      refine lv_aloadN hx hb dX3_apply_15 (lv_at hl 1 rfl) ?_
      refine lv_ifnullN (tgt := 34) hx hb dX3_apply_17 (by decide) ?_
      refine lv_lconst (v := 0) hx hb dX3_apply_34 (by decide) ?_
      rw [hQQ]
      refine vx_ret ?_
      refine W.widen (k := 1) (n := 6) (by omega) (by omega) ?_
      exact W.lret (v := 0) hx hb hr (fun t ht hW => ⟨⟨0, (lo, f1, f2, f3, f4, f5), rfl, ⟨fun q => q.1 (Or.inl hno_i), (by rw [fk_sApp, if_pos (show fk_nap n op _ _ from Or.inl hno_i)]; decide), (by rw [fk_lApp, if_pos (show fk_nap n op _ _ from Or.inl hno_i)])⟩, by rw [ht]; exact hP, va_K.moved hW.alike hK, hD⟩, hS.F ht⟩) hS.2.2 dX3_apply_35
    · subst hr_j
      subst hn_j
      have ok_j := (hKT.2.1 j hj).2.2
      obtain ⟨okd_j, oko_j, okr_j⟩ := id ok_j
      refine lv_astore (lv' := [(9, .ref (ka j)), (8, .null), (0, .ref (ad 0)), (1, .int op), (2, .int num), (3, .long x), (5, .int (nI (j + 1))), (6, .long y)]) hx hb dX3_apply_13 hl (by decide) rfl (fun ls hl => ?_)
      refine lv_aloadN hx hb dX3_apply_15 (lv_at hl 1 rfl) ?_
      refine lv_ifnullN (tgt := 34) hx hb dX3_apply_17 (by decide) ?_
      refine lv_lconst (v := 0) hx hb dX3_apply_34 (by decide) ?_
      rw [hQQ]
      refine vx_ret ?_
      refine W.widen (k := 1) (n := 6) (by omega) (by omega) ?_
      exact W.lret (v := 0) hx hb hr (fun t ht hW => ⟨⟨0, (lo, f1, f2, f3, f4, f5), rfl, ⟨fun q => q.1 (Or.inl hno_i), (by rw [fk_sApp, if_pos (show fk_nap n op _ _ from Or.inl hno_i)]; decide), (by rw [fk_lApp, if_pos (show fk_nap n op _ _ from Or.inl hno_i)])⟩, by rw [ht]; exact hP, va_K.moved hW.alike hK, hD⟩, hS.F ht⟩) hS.2.2 dX3_apply_35
  · subst hr_i
    subst hn_i
    have ok_i := (hKT.2.1 i hi).2.2
    obtain ⟨okd_i, oko_i, okr_i⟩ := id ok_i
    refine lv_astore (lv' := [(8, .ref (ka i)), (0, .ref (ad 0)), (1, .int op), (2, .int (nI (i + 1))), (3, .long x), (5, .int num2), (6, .long y)]) hx hb dX3_apply_5 hl (by decide) rfl (fun ls hl => ?_)
    refine lv_aload_n hx hb dX3_apply_7 rfl (lv_at hl 1 rfl) ?_
    refine lv_iload hx hb dX3_apply_8 (lv_at hl 5 rfl) ?_
    refine fk_cq hD hS hA (va_runV (As := [.int num2]) (rest := []) ⟨hx, hb, hml, hown, hts⟩ (kX3_find _ ad tl kd lo ch ts f1 f2 f3 f4 f5 n kf ka kp num2 hKT) (cwV 1 hts gX3_apply_X3_find rfl rfl rfl (by decide +kernel) ⟨Nat.le_of_ble_eq_true rfl, Nat.le_of_ble_eq_true rfl⟩) (fk_preV 0 4 hK hN hP hD rfl rfl) rfl rfl hl.1 rfl (lv_room (Nat.le_of_ble_eq_true rfl)) dX3_apply_10 ⟨Nat.le_of_ble_eq_true rfl, Nat.le_of_ble_eq_true rfl⟩) (fun r3 u H locs hw hP hD hS => ?_)
    have hP : va_P D vwCl (fk_wx cJ cC cK ad kd (nI n) lo ch ts f1 f2 f3 f4 f5 ++ tl) H := hP
    have hD : va_D A (fk_wx cJ cC cK ad kd (nI n) lo ch ts f1 f2 f3 f4 f5 ++ tl) := hD
    rcases hw with ⟨hr_j, hno_j⟩ | ⟨j, hj, hn_j, hr_j⟩
    · subst hr_j
      refine lv_astoreN (lv' := [(9, .null), (8, .ref (ka i)), (0, .ref (ad 0)), (1, .int op), (2, .int (nI (i + 1))), (3, .long x), (5, .int num2), (6, .long y)]) hx hb dX3_apply_13 hl (by decide) rfl (fun ls hl => ?_)
      refine lv_aload hx hb dX3_apply_15 (lv_at hl 1 rfl) ?_
      refine lv_ifnull hx hb dX3_apply_17 ?_
      refine lv_aloadN hx hb dX3_apply_20 (lv_at hl 0 rfl) ?_
      refine lv_ifnullN (tgt := 34) hx hb dX3_apply_22 (by decide) ?_
      refine lv_lconst (v := 0) hx hb dX3_apply_34 (by decide) ?_
      rw [hQQ]
      refine vx_ret ?_
      refine W.widen (k := 1) (n := 6) (by omega) (by omega) ?_
      exact W.lret (v := 0) hx hb hr (fun t ht hW => ⟨⟨0, (lo, f1, f2, f3, f4, f5), rfl, ⟨fun q => q.1 (Or.inr (Or.inl hno_j)), (by rw [fk_sApp, if_pos (show fk_nap n op _ _ from Or.inr (Or.inl hno_j))]; decide), (by rw [fk_lApp, if_pos (show fk_nap n op _ _ from Or.inr (Or.inl hno_j))])⟩, by rw [ht]; exact hP, va_K.moved hW.alike hK, hD⟩, hS.F ht⟩) hS.2.2 dX3_apply_35
    · subst hr_j
      subst hn_j
      have ok_j := (hKT.2.1 j hj).2.2
      obtain ⟨okd_j, oko_j, okr_j⟩ := id ok_j
      refine lv_astore (lv' := [(9, .ref (ka j)), (8, .ref (ka i)), (0, .ref (ad 0)), (1, .int op), (2, .int (nI (i + 1))), (3, .long x), (5, .int (nI (j + 1))), (6, .long y)]) hx hb dX3_apply_13 hl (by decide) rfl (fun ls hl => ?_)
      refine lv_aload hx hb dX3_apply_15 (lv_at hl 1 rfl) ?_
      refine lv_ifnull hx hb dX3_apply_17 ?_
      refine lv_aload hx hb dX3_apply_20 (lv_at hl 0 rfl) ?_
      refine lv_ifnull hx hb dX3_apply_22 ?_
      refine lv_iload_n hx hb dX3_apply_25 rfl (lv_at hl 3 rfl) ?_
      refine lv_if_lt (tgt := 34) hx hb dX3_apply_26 (by decide) (fun c_26 => ?_) (fun c_26 => ?_)
      · rw [Int32.lt_iff_toInt_lt, show (0 : Int32).toInt = 0 by decide] at c_26
        refine lv_lconst (v := 0) hx hb dX3_apply_34 (by decide) ?_
        rw [hQQ]
        refine vx_ret ?_
        refine W.widen (k := 1) (n := 6) (by omega) (by omega) ?_
        exact W.lret (v := 0) hx hb hr (fun t ht hW => ⟨⟨0, (lo, f1, f2, f3, f4, f5), rfl, ⟨fun q => q.1 (Or.inr (Or.inr (Or.inl c_26))), (by rw [fk_sApp, if_pos (show fk_nap n op _ _ from Or.inr (Or.inr (Or.inl c_26)))]; decide), (by rw [fk_lApp, if_pos (show fk_nap n op _ _ from Or.inr (Or.inr (Or.inl c_26)))])⟩, by rw [ht]; exact hP, va_K.moved hW.alike hK, hD⟩, hS.F ht⟩) hS.2.2 dX3_apply_35
      · rw [Int32.lt_iff_toInt_lt, show (0 : Int32).toInt = 0 by decide] at c_26
        refine lv_iload_n hx hb dX3_apply_29 rfl (lv_at hl 3 rfl) ?_
        refine lv_iconst (v := 3) hx hb dX3_apply_30 (by decide) ?_
        refine lv_icmp_le (tgt := 36) hx hb dX3_apply_31 (by decide) (fun c_31 => ?_) (fun c_31 => ?_)
        · rw [Int32.le_iff_toInt_le, show (3 : Int32).toInt = 3 by decide] at c_31
          have hnap : ¬ fk_nap n op (nI (i + 1)) (nI (j + 1)) := fun q => by
            rcases q with q | q | q | q
            · exact fk_no_j hi hn40 q
            · exact fk_no_j hj hn40 q
            · omega
            · omega
          have hop : op = 0 ∨ op = 1 ∨ op = 2 ∨ op = 3 := by
            rcases (show op.toInt = 0 ∨ op.toInt = 1 ∨ op.toInt = 2 ∨ op.toInt = 3 by omega) with q | q | q | q
            · exact Or.inl (Int32.toInt_inj.mp (by rw [q]; decide))
            · exact Or.inr (Or.inl (Int32.toInt_inj.mp (by rw [q]; decide)))
            · exact Or.inr (Or.inr (Or.inl (Int32.toInt_inj.mp (by rw [q]; decide))))
            · exact Or.inr (Or.inr (Or.inr (Int32.toInt_inj.mp (by rw [q]; decide))))
          refine lv_aload_n hx hb dX3_apply_36 rfl (lv_at hl 2 rfl) ?_
          refine va_get (D := D) (ci := 4) (v := .ref (ad 3)) (C := RX3) (T := TX3) (N := 8) hx hb hts k2 hown hK hP 0 rfl rfl 5 (by decide) k1 (fun _ h9 => h9) rfl dX3_apply_37 ?_
          refine lv_aload hx hb dX3_apply_40 (lv_at hl 1 rfl) ?_
          refine lv_lload_n hx hb dX3_apply_42 rfl (lv_at hl 5 rfl) ?_
          refine fk_cv hD hS hA (va_runVN (As := [.ref (ka i), .long x]) (rest := []) ⟨hx, hb, hml, hown, hts⟩ (kX0_take _ _ (ad 3) (ad 4) (ad 5) (ad 6) (ad 7) 3 4 5 6 7 f1 f2 (ka i) (kp i + 15) (kf i).1 (kf i).2.1 (kf i).2.2.2.2.2.1 (kf i).2.2.2.2.2.2 (kf i).2.2.1 (kf i).2.2.2.1 (kf i).2.2.2.2.1 x rfl rfl rfl rfl rfl (fk_tl (hKT.2.1 i hi).2.1) okd_i (by decide)) ⟨va_cnB 2 hts gX3_apply_X0_take_n72 rfl rfl rfl k3 k4 (by decide +kernel) ⟨Nat.le_of_ble_eq_true rfl, Nat.le_of_ble_eq_true rfl⟩, k5, k6⟩ (fk_preV 3 1 hK hN hP hD rfl rfl) rfl rfl hl.1 rfl (lv_room (Nat.le_of_ble_eq_true rfl)) dX3_apply_43 ⟨Nat.le_of_ble_eq_true rfl, Nat.le_of_ble_eq_true rfl⟩) (fun u4 H locs hw hP hD hS => ?_)
          have hP : va_P D vwCl (fk_wx cJ cC cK ad kd (nI n) lo ch ts u4.1 u4.2 f3 f4 f5 ++ tl) H := hP
          have hD : va_D A (fk_wx cJ cC cK ad kd (nI n) lo ch ts u4.1 u4.2 f3 f4 f5 ++ tl) := hD
          obtain ⟨hTu4, hBu4⟩ := hw
          have hTu4 : fk_R (fk_v (kf i) x) u4.1 := hTu4
          have hBu4 : fk_R (fk_dn (kf i)) u4.2 := hBu4
          have bvu4 := fk_v_bd ok_i x
          have bdu4 := fk_dn_bd ok_i
          refine lv_aload_n hx hb dX3_apply_46 rfl (lv_at hl 2 rfl) ?_
          refine va_get (D := D) (ci := 4) (v := .ref (ad 8)) (C := RX3) (T := TX3) (N := 8) hx hb hts k2 hown hK hP 0 rfl rfl 6 (by decide) k7 (fun _ h9 => h9) rfl dX3_apply_47 ?_
          refine lv_aload hx hb dX3_apply_50 (lv_at hl 0 rfl) ?_
          refine lv_lload hx hb dX3_apply_52 (lv_at hl 7 rfl) ?_
          refine fk_cv hD hS hA (va_runVN (As := [.ref (ka j), .long y]) (rest := []) ⟨hx, hb, hml, hown, hts⟩ (kX0_take _ _ (ad 8) (ad 9) (ad 10) (ad 11) (ad 12) 8 9 10 11 12 f3 f4 (ka j) (kp j + 15) (kf j).1 (kf j).2.1 (kf j).2.2.2.2.2.1 (kf j).2.2.2.2.2.2 (kf j).2.2.1 (kf j).2.2.2.1 (kf j).2.2.2.2.1 y rfl rfl rfl rfl rfl (fk_tl (hKT.2.1 j hj).2.1) okd_j (by decide)) ⟨va_cnB 2 hts gX3_apply_X0_take_n72 rfl rfl rfl k3 k4 (by decide +kernel) ⟨Nat.le_of_ble_eq_true rfl, Nat.le_of_ble_eq_true rfl⟩, k5, k6⟩ (fk_preV 8 1 hK hN hP hD rfl rfl) rfl rfl hl.1 rfl (lv_room (Nat.le_of_ble_eq_true rfl)) dX3_apply_54 ⟨Nat.le_of_ble_eq_true rfl, Nat.le_of_ble_eq_true rfl⟩) (fun u6 H locs hw hP hD hS => ?_)
          have hP : va_P D vwCl (fk_wx cJ cC cK ad kd (nI n) lo ch ts u4.1 u4.2 u6.1 u6.2 f5 ++ tl) H := hP
          have hD : va_D A (fk_wx cJ cC cK ad kd (nI n) lo ch ts u4.1 u4.2 u6.1 u6.2 f5 ++ tl) := hD
          obtain ⟨hTu6, hBu6⟩ := hw
          have hTu6 : fk_R (fk_v (kf j) y) u6.1 := hTu6
          have hBu6 : fk_R (fk_dn (kf j)) u6.2 := hBu6
          have bvu6 := fk_v_bd ok_j y
          have bdu6 := fk_dn_bd ok_j
          refine lv_iload_n hx hb dX3_apply_57 rfl (lv_at hl 3 rfl) ?_
          refine lv_iconst (v := 3) hx hb dX3_apply_58 (by decide) ?_
          refine lv_icmp_ne (tgt := 97) hx hb dX3_apply_59 (by decide) (fun c_59 => ?_) (fun c_59 => ?_)
          · have hqz : ¬ fk_qz kf op (nI (j + 1)) y := fun q => c_59 q.1
            have hz3 : op = 3 → fk_v (kf j) y ≠ 0 := fun q => absurd q c_59
            refine lv_aload_n hx hb dX3_apply_97 rfl (lv_at hl 2 rfl) ?_
            refine lv_iload_n hx hb dX3_apply_98 rfl (lv_at hl 3 rfl) ?_
            have mI := fk_pbd (a := fk_dn (kf i)) (b := fk_v (kf j) y) (A := 1000) (B := 18889465931478580854784) (by omega) (by omega) (by omega) (by omega) (by omega)
            refine fk_cv hD hS hA (va_runV (As := [.int op]) (rest := []) ⟨hx, hb, hml, hown, hts⟩ (kX3_combine _ ad tl kd (nI n) lo ch ts u4.1 u4.2 u6.1 u6.2 f5 op (fk_v (kf i) x) (fk_dn (kf i)) (fk_v (kf j) y) (fk_dn (kf j)) hTu4 hBu4 hTu6 hBu6 hop ⟨by omega, by omega⟩) (cwV 1 hts gX3_apply_X3_combine rfl rfl rfl (by decide +kernel) ⟨Nat.le_of_ble_eq_true rfl, Nat.le_of_ble_eq_true rfl⟩) (fk_preV 0 4 hK hN hP hD rfl rfl) rfl rfl hl.1 rfl (lv_room (Nat.le_of_ble_eq_true rfl)) dX3_apply_99 ⟨Nat.le_of_ble_eq_true rfl, Nat.le_of_ble_eq_true rfl⟩) (fun u8 H locs hw hP hD hS => ?_)
            have hP : va_P D vwCl (fk_wx cJ cC cK ad kd (nI n) lo ch ts u8.1 u8.2.1 u8.2.2 u6.2 f5 ++ tl) H := hP
            have hD : va_D A (fk_wx cJ cC cK ad kd (nI n) lo ch ts u8.1 u8.2.1 u8.2.2 u6.2 f5 ++ tl) := hD
            obtain ⟨hcN, hcD⟩ := hw
            refine lv_aload_n hx hb dX3_apply_102 rfl (lv_at hl 2 rfl) ?_
            refine lv_aload hx hb dX3_apply_103 (lv_at hl 1 rfl) ?_
            refine fk_cl hD hS hA (va_runV (As := [.ref (ka i)]) (rest := []) ⟨hx, hb, hml, hown, hts⟩ (kX3_put _ ad tl kd (nI n) lo ch ts u8.1 u8.2.1 u8.2.2 u6.2 f5 (ka i) (kp i) (kf i).1 (kf i).2.1 (kf i).2.2.2.2.2.1 (kf i).2.2.2.2.2.2 (kf i).2.2.1 (kf i).2.2.2.1 (kf i).2.2.2.2.1 (fk_cN op (fk_v (kf i) x) (fk_dn (kf i)) (fk_v (kf j) y) (fk_dn (kf j))) (fk_cD op (fk_dn (kf i)) (fk_v (kf j) y) (fk_dn (kf j))) (hKT.2.1 i hi).2.1 okd_i hcN hcD (fk_c_B hop bvu4 bdu4 bvu6 bdu6 hz3) oko_i) (cwV 1 hts gX3_apply_X3_put rfl rfl rfl (by decide +kernel) ⟨Nat.le_of_ble_eq_true rfl, Nat.le_of_ble_eq_true rfl⟩) (fk_preV 0 4 hK hN hP hD rfl rfl) rfl rfl hl.1 rfl (lv_room (Nat.le_of_ble_eq_true rfl)) dX3_apply_105 ⟨Nat.le_of_ble_eq_true rfl, Nat.le_of_ble_eq_true rfl⟩) (fun r11 u10 H locs hw hP hD hS => ?_)
            have hP : va_P D vwCl (fk_wx cJ cC cK ad kd (nI n) u10.1 ch ts u10.2.1 u10.2.2.1 u8.2.2 u6.2 u10.2.2.2 ++ tl) H := hP
            have hD : va_D A (fk_wx cJ cC cK ad kd (nI n) u10.1 ch ts u10.2.1 u10.2.2.1 u8.2.2 u6.2 u10.2.2.2 ++ tl) := hD
            obtain ⟨hput, hlst⟩ := hw
            rw [hQQ]
            refine vx_ret ?_
            refine W.widen (k := 1) (n := 6) (by omega) (by omega) ?_
            exact W.lret (v := r11) hx hb hr (fun t ht hW => ⟨⟨r11, (u10.1, u10.2.1, u10.2.2.1, u8.2.2, u6.2, u10.2.2.2), rfl, ⟨fun q => hqz ⟨q.2.1, q.2.2.1⟩, hput.trans (by rw [fk_sApp, if_neg hnap, if_neg hqz, fk_ix_j hi hn40, fk_ix_j hj hn40]; rfl), hlst.trans (by rw [fk_lApp, if_neg hnap, if_neg hqz, fk_ix_j hi hn40, fk_ix_j hj hn40]; rfl)⟩, by rw [ht]; exact hP, va_K.moved hW.alike hK, hD⟩, hS.F ht⟩) hS.2.2 dX3_apply_108
          · refine lv_aload_n hx hb dX3_apply_62 rfl (lv_at hl 2 rfl) ?_
            refine va_get (D := D) (ci := 4) (v := .ref (ad 8)) (C := RX3) (T := TX3) (N := 8) hx hb hts k2 hown hK hP 0 rfl rfl 6 (by decide) k7 (fun _ h9 => h9) rfl dX3_apply_63 ?_
            refine fk_ci hD hS hA (va_runVN (As := []) (rest := []) ⟨hx, hb, hml, hown, hts⟩ (kX0_sign _ _ (ad 8) (ad 9) (ad 10) (ad 11) (ad 12) 8 9 10 11 12 u6.1 u6.2 (fk_v (kf j) y) rfl rfl rfl hTu6 ⟨by omega, by omega⟩) ⟨va_cnB 0 hts gX3_apply_X0_sign_n76 rfl rfl rfl k8 k4 (by decide +kernel) ⟨Nat.le_of_ble_eq_true rfl, Nat.le_of_ble_eq_true rfl⟩, k9, k10⟩ (fk_preV 8 1 hK hN hP hD rfl rfl) rfl rfl hl.1 rfl (lv_room (Nat.le_of_ble_eq_true rfl)) dX3_apply_66 ⟨Nat.le_of_ble_eq_true rfl, Nat.le_of_ble_eq_true rfl⟩) (fun r12 u H locs hw hP hD hS => ?_)
            have hP : va_P D vwCl (fk_wx cJ cC cK ad kd (nI n) lo ch ts u4.1 u4.2 u6.1 u6.2 f5 ++ tl) H := hP
            have hD : va_D A (fk_wx cJ cC cK ad kd (nI n) lo ch ts u4.1 u4.2 u6.1 u6.2 f5 ++ tl) := hD
            have zs := hw
            refine lv_if_ne (tgt := 97) hx hb dX3_apply_69 (by decide) (fun c_69 => ?_) (fun c_69 => ?_)
            · have hne : fk_v (kf j) y ≠ 0 := fun q => c_69 (by rw [zs, if_pos q])
              have hqz : ¬ fk_qz kf op (nI (j + 1)) y := fun q => by have z := q.2; rw [fk_ix_j hj hn40] at z; exact hne z
              have hz3 : op = 3 → fk_v (kf j) y ≠ 0 := fun _ => hne
              refine lv_aload_n hx hb dX3_apply_97 rfl (lv_at hl 2 rfl) ?_
              refine lv_iload_n hx hb dX3_apply_98 rfl (lv_at hl 3 rfl) ?_
              have mI := fk_pbd (a := fk_dn (kf i)) (b := fk_v (kf j) y) (A := 1000) (B := 18889465931478580854784) (by omega) (by omega) (by omega) (by omega) (by omega)
              refine fk_cv hD hS hA (va_runV (As := [.int op]) (rest := []) ⟨hx, hb, hml, hown, hts⟩ (kX3_combine _ ad tl kd (nI n) lo ch ts u4.1 u4.2 u6.1 u6.2 f5 op (fk_v (kf i) x) (fk_dn (kf i)) (fk_v (kf j) y) (fk_dn (kf j)) hTu4 hBu4 hTu6 hBu6 hop ⟨by omega, by omega⟩) (cwV 1 hts gX3_apply_X3_combine rfl rfl rfl (by decide +kernel) ⟨Nat.le_of_ble_eq_true rfl, Nat.le_of_ble_eq_true rfl⟩) (fk_preV 0 4 hK hN hP hD rfl rfl) rfl rfl hl.1 rfl (lv_room (Nat.le_of_ble_eq_true rfl)) dX3_apply_99 ⟨Nat.le_of_ble_eq_true rfl, Nat.le_of_ble_eq_true rfl⟩) (fun u13 H locs hw hP hD hS => ?_)
              have hP : va_P D vwCl (fk_wx cJ cC cK ad kd (nI n) lo ch ts u13.1 u13.2.1 u13.2.2 u6.2 f5 ++ tl) H := hP
              have hD : va_D A (fk_wx cJ cC cK ad kd (nI n) lo ch ts u13.1 u13.2.1 u13.2.2 u6.2 f5 ++ tl) := hD
              obtain ⟨hcN, hcD⟩ := hw
              refine lv_aload_n hx hb dX3_apply_102 rfl (lv_at hl 2 rfl) ?_
              refine lv_aload hx hb dX3_apply_103 (lv_at hl 1 rfl) ?_
              refine fk_cl hD hS hA (va_runV (As := [.ref (ka i)]) (rest := []) ⟨hx, hb, hml, hown, hts⟩ (kX3_put _ ad tl kd (nI n) lo ch ts u13.1 u13.2.1 u13.2.2 u6.2 f5 (ka i) (kp i) (kf i).1 (kf i).2.1 (kf i).2.2.2.2.2.1 (kf i).2.2.2.2.2.2 (kf i).2.2.1 (kf i).2.2.2.1 (kf i).2.2.2.2.1 (fk_cN op (fk_v (kf i) x) (fk_dn (kf i)) (fk_v (kf j) y) (fk_dn (kf j))) (fk_cD op (fk_dn (kf i)) (fk_v (kf j) y) (fk_dn (kf j))) (hKT.2.1 i hi).2.1 okd_i hcN hcD (fk_c_B hop bvu4 bdu4 bvu6 bdu6 hz3) oko_i) (cwV 1 hts gX3_apply_X3_put rfl rfl rfl (by decide +kernel) ⟨Nat.le_of_ble_eq_true rfl, Nat.le_of_ble_eq_true rfl⟩) (fk_preV 0 4 hK hN hP hD rfl rfl) rfl rfl hl.1 rfl (lv_room (Nat.le_of_ble_eq_true rfl)) dX3_apply_105 ⟨Nat.le_of_ble_eq_true rfl, Nat.le_of_ble_eq_true rfl⟩) (fun r16 u15 H locs hw hP hD hS => ?_)
              have hP : va_P D vwCl (fk_wx cJ cC cK ad kd (nI n) u15.1 ch ts u15.2.1 u15.2.2.1 u13.2.2 u6.2 u15.2.2.2 ++ tl) H := hP
              have hD : va_D A (fk_wx cJ cC cK ad kd (nI n) u15.1 ch ts u15.2.1 u15.2.2.1 u13.2.2 u6.2 u15.2.2.2 ++ tl) := hD
              obtain ⟨hput, hlst⟩ := hw
              rw [hQQ]
              refine vx_ret ?_
              refine W.widen (k := 1) (n := 6) (by omega) (by omega) ?_
              exact W.lret (v := r16) hx hb hr (fun t ht hW => ⟨⟨r16, (u15.1, u15.2.1, u15.2.2.1, u13.2.2, u6.2, u15.2.2.2), rfl, ⟨fun q => hqz ⟨q.2.1, q.2.2.1⟩, hput.trans (by rw [fk_sApp, if_neg hnap, if_neg hqz, fk_ix_j hi hn40, fk_ix_j hj hn40]; rfl), hlst.trans (by rw [fk_lApp, if_neg hnap, if_neg hqz, fk_ix_j hi hn40, fk_ix_j hj hn40]; rfl)⟩, by rw [ht]; exact hP, va_K.moved hW.alike hK, hD⟩, hS.F ht⟩) hS.2.2 dX3_apply_108
            · have hq0 : fk_v (kf j) y = 0 := by
                rw [zs] at c_69
                by_cases q0 : fk_v (kf j) y = 0
                · exact q0
                · by_cases q1 : fk_v (kf j) y < 0
                  · rw [if_neg q0, if_pos q1] at c_69; exact absurd c_69 (by decide)
                  · rw [if_neg q0, if_neg q1] at c_69; exact absurd c_69 (by decide)
              have hqz : fk_qz kf op (nI (j + 1)) y := ⟨c_59, by rw [fk_ix_j hj hn40]; exact hq0⟩
              refine lv_aload hx hb dX3_apply_72 (lv_at hl 1 rfl) ?_
              refine va_getN (D := D) (ci := 2) (v := .int ((kf i).2.2.2.2.2.1)) (C := RX1) (T := TX1) (N := 7) hx hb hts k12 hown hK hP (kp i + 15) (fk_tl (hKT.2.1 i hi).2.1) rfl 5 (by decide) (va_Nw.use rfl k11) (fun _ h9 => h9) rfl dX3_apply_74 ?_
              refine lv_if_eq (tgt := 90) hx hb dX3_apply_77 (by decide) (fun c_77 => ?_) (fun c_77 => ?_)
              · have hthr : ¬ fk_thr n kf op (nI (i + 1)) (nI (j + 1)) y := fun q => by have z := q.2.2.2; rw [fk_ix_j hi hn40] at z; exact z c_77
                refine lv_aload_n hx hb dX3_apply_90 rfl (lv_at hl 2 rfl) ?_
                refine lv_aload hx hb dX3_apply_91 (lv_at hl 1 rfl) ?_
                refine fk_cl hD hS hA (va_runV (As := [.ref (ka i)]) (rest := []) ⟨hx, hb, hml, hown, hts⟩ (kX3_putQuotientByZero _ ad tl kd (nI n) lo ch ts u4.1 u4.2 u6.1 u6.2 f5 (ka i) (kp i) (kf i).1 (kf i).2.1 (kf i).2.2.2.2.2.1 (kf i).2.2.2.2.2.2 (kf i).2.2.1 (kf i).2.2.2.1 (kf i).2.2.2.2.1 (fk_v (kf i) x) (fk_dn (kf i)) (hKT.2.1 i hi).2.1 okd_i hTu4 hBu4 (fk_v_B ok_i x (fk_dn_bd ok_i)) oko_i) (cwV 1 hts gX3_apply_X3_putQuotientByZero rfl rfl rfl (by decide +kernel) ⟨Nat.le_of_ble_eq_true rfl, Nat.le_of_ble_eq_true rfl⟩) (fk_preV 0 4 hK hN hP hD rfl rfl) rfl rfl hl.1 rfl (lv_room (Nat.le_of_ble_eq_true rfl)) dX3_apply_93 ⟨Nat.le_of_ble_eq_true rfl, Nat.le_of_ble_eq_true rfl⟩) (fun r18 u17 H locs hw hP hD hS => ?_)
                have hP : va_P D vwCl (fk_wx cJ cC cK ad kd (nI n) 1 ch ts u17.1 u17.2.1 u6.1 u6.2 u17.2.2 ++ tl) H := hP
                have hD : va_D A (fk_wx cJ cC cK ad kd (nI n) 1 ch ts u17.1 u17.2.1 u6.1 u6.2 u17.2.2 ++ tl) := hD
                have hput := hw
                have hfin : r18.toInt = fk_sApp n kf op (nI (i + 1)) x (nI (j + 1)) y := by
                  rw [fk_sApp, if_neg hnap, if_pos hqz, fk_ix_j hi hn40, fk_q0, hput]
                  by_cases q1 : 0 < fk_v (kf i) x
                  · rw [if_pos q1, if_pos q1]
                  · by_cases q2 : fk_v (kf i) x < 0
                    · rw [if_neg q1, if_neg q1, if_pos q2, if_pos q2]
                    · rw [if_neg q1, if_neg q1, if_neg q2, if_neg q2, show fk_v (kf i) x = 0 by omega]
                      exact fk_P_0 (kf i) (by omega)
                rw [hQQ]
                refine vx_ret ?_
                refine W.widen (k := 1) (n := 6) (by omega) (by omega) ?_
                exact W.lret (v := r18) hx hb hr (fun t ht hW => ⟨⟨r18, (1, u17.1, u17.2.1, u6.1, u6.2, u17.2.2), rfl, ⟨hthr, hfin, (by rw [fk_lApp, if_neg hnap, if_pos hqz])⟩, by rw [ht]; exact hP, va_K.moved hW.alike hK, hD⟩, hS.F ht⟩) hS.2.2 dX3_apply_96
              · have hthr : fk_thr n kf op (nI (i + 1)) (nI (j + 1)) y := ⟨hnap, hqz.1, hqz.2, by rw [fk_ix_j hi hn40]; exact c_77⟩
                rw [hQQ]
                obtain ⟨sa, hsa⟩ := hXW.2.1
                have hat : ∀ w ∈ vx_atS RX3 84 "java/lang/ArithmeticException" ["java/lang/RuntimeException", "java/lang/Exception"], w.before args s = true := vx_hat (B := fk_thw) (fun w hw => hts w (List.mem_cons_of_mem _ (List.mem_append_right _ hw))) (by decide +kernel) (hXW.1.use args)
                exact vx_throwS (pc := 80) hx hb hlt (own := RX3) (cls := "java/lang/ArithmeticException") (text := "a quotient by the value 0") (names := ["java/lang/RuntimeException", "java/lang/Exception"]) (ik := 80) (is := 82) (ic := 84) hown (by decide +kernel) (by decide +kernel) k13 k14 hsa hat (by decide +kernel) hXW.2.2.2.1 hXW.2.2.2.2 hS (by rw [hml]; exact hl.1) dX3_apply_80 dX3_apply_83 dX3_apply_84 dX3_apply_86 dX3_apply_89 (fun x hx9 => (htab x hx9).elim) (Nat.le_of_ble_eq_true rfl) (Nat.le_of_ble_eq_true rfl) (Nat.le_of_ble_eq_true rfl) (Nat.le_of_ble_eq_true rfl) hlocks (fun t hvm h1 h2 => fk_thrown (lo, u4.1, u4.2, u6.1, u6.2, f5) ⟨hthr, rfl⟩ hS hK hP hD hvm h1 h2) hS.2.2 (Nat.le_of_ble_eq_true rfl) (Nat.le_of_ble_eq_true rfl)
        · rw [Int32.le_iff_toInt_le, show (3 : Int32).toInt = 3 by decide] at c_31
          refine lv_lconst (v := 0) hx hb dX3_apply_34 (by decide) ?_
          rw [hQQ]
          refine vx_ret ?_
          refine W.widen (k := 1) (n := 6) (by omega) (by omega) ?_
          exact W.lret (v := 0) hx hb hr (fun t ht hW => ⟨⟨0, (lo, f1, f2, f3, f4, f5), rfl, ⟨fun q => q.1 (Or.inr (Or.inr (Or.inr (by omega)))), (by rw [fk_sApp, if_pos (show fk_nap n op _ _ from Or.inr (Or.inr (Or.inr (by omega))))]; decide), (by rw [fk_lApp, if_pos (show fk_nap n op _ _ from Or.inr (Or.inr (Or.inr (by omega))))])⟩, by rw [ht]; exact hP, va_K.moved hW.alike hK, hD⟩, hS.F ht⟩) hS.2.2 dX3_apply_35
def wsX3_atT : List Cond := .code yX3_at cX3_at 2 (some .int) :: (wsX3_at.tail ++ (vx_atS RX3 139 RJx00060 ["java/lang/IndexOutOfBoundsException", "java/lang/RuntimeException", "java/lang/Exception"]).filter goodWord)
abbrev rmX3_at : Room := { frames := 7, cells := 1, slots := 6, locals := 95 }
set_option maxHeartbeats 4000000 in
set_option maxRecDepth 100000 in
/-- at -/
theorem kX3_at {l : Launch} {D : va_G} {cJ cC cI cZ cK : ClassId} (sz : Nat) (ad : Nat → Nat) (tl : va_W) (kd : Nat → Option Nat) (lo : Int32) (ch : Nat → Int32) (tt : Nat) (f1 f2 f3 f4 f5 : Nat → Int64) (n : Nat) (i0 : Int32) (hlt : l.stackTraces = false) (htt : tt ≤ 40) : vx_Met l yX3_at wsX3_atT rmX3_at (va_Pc [.ref (ad 0), .int i0] (fk_preT D (fk_ty cJ cC cI cZ cK) (fk_wx cJ cC cK ad kd (nI n) lo ch (nI tt) f1 f2 f3 f4 f5 ++ tl) sz)) (va_Qi (fun (r : Int32) (_ : Unit) => ∃ b : Nat, b + tt < 40 ∧ i0 = nI b ∧ r = ch (tt + b)) (fk_Bd D (fk_ty cJ cC cI cZ cK) (va_A (fk_wx cJ cC cK ad kd (nI n) lo ch (nI tt) f1 f2 f3 f4 f5 ++ tl) sz) (fun _ : Unit => fk_wx cJ cC cK ad kd (nI n) lo ch (nI tt) f1 f2 f3 f4 f5 ++ tl)) (va_A (fk_wx cJ cC cK ad kd (nI n) lo ch (nI tt) f1 f2 f3 f4 f5 ++ tl) sz)) (vx_X (fun _ : Unit => i0.toInt < 0 ∨ (40 : Int) ≤ i0.toInt + tt) (fun (E : String) (u : Unit) (t : State) => E = RJx00060 ∧ fk_Bd D (fk_ty cJ cC cI cZ cK) (va_A (fk_wx cJ cC cK ad kd (nI n) lo ch (nI tt) f1 f2 f3 f4 f5 ++ tl) sz) (fun _ : Unit => fk_wx cJ cC cK ad kd (nI n) lo ch (nI tt) f1 f2 f3 f4 f5 ++ tl) u t) (va_A (fk_wx cJ cC cK ad kd (nI n) lo ch (nI tt) f1 f2 f3 f4 f5 ++ tl) sz)) 1 6 (va_A (fk_wx cJ cC cK ad kd (nI n) lo ch (nI tt) f1 f2 f3 f4 f5 ++ tl) sz) := by
  refine fk_ofX (y := yX3_at) (ws := wsX3_atT) (rm := rmX3_at) (av := [.ref (ad 0), .int i0]) (D := D) (tys := (fk_ty cJ cC cI cZ cK)) cX3_at 2 (some .int) (fun A => va_Qi (fun (r : Int32) (_ : Unit) => ∃ b : Nat, b + tt < 40 ∧ i0 = nI b ∧ r = ch (tt + b)) (fk_Bd D (fk_ty cJ cC cI cZ cK) A (fun _ : Unit => fk_wx cJ cC cK ad kd (nI n) lo ch (nI tt) f1 f2 f3 f4 f5 ++ tl)) A) (fun A => vx_X (fun _ : Unit => i0.toInt < 0 ∨ (40 : Int) ≤ i0.toInt + tt) (fun (E : String) (u : Unit) (t : State) => E = RJx00060 ∧ fk_Bd D (fk_ty cJ cC cI cZ cK) A (fun _ : Unit => fk_wx cJ cC cK ad kd (nI n) lo ch (nI tt) f1 f2 f3 f4 f5 ++ tl) u t) A) rfl (by decide) (Nat.le_of_ble_eq_true rfl) ?_
  intro p e s m below meth c A ls args QQ hQQ hAt hP hK hN hD hA hS hl htab hXW
  obtain ⟨⟨hx, hb, hml, hown, hts⟩, hr, hlocks, hin⟩ := hAt
  have hl : lv_has ls 2 [(0, .ref (ad 0)), (1, .int i0)] := hl
  have k1 := hts (.classLink RX3 135 RJx00060) (by decide +kernel)
  have k2 := hts (.initialized RJx00060) (by decide +kernel)
  have k3 := hts (.fieldLink RX3 27 "FixedKinds" "textStart" "I") (by decide +kernel)
  have k4 := (by decide +kernel : ∀ w ∈ u_ws RX3 TX3 8, w ∈ wsX3_atT)
  have k5 := hts (.fieldLink RX3 23 "FixedKinds" "characters" "[C") (by decide +kernel)
  refine lv_iload_n hx hb dX3_at_0 rfl (lv_at hl 1 rfl) ?_
  refine lv_if_lt (tgt := 22) hx hb dX3_at_1 (by decide) (fun c_1 => ?_) (fun c_1 => ?_)
  · rw [Int32.lt_iff_toInt_lt, show (0 : Int32).toInt = 0 by decide] at c_1
    have hout : i0.toInt < 0 ∨ (40 : Int) ≤ i0.toInt + tt := Or.inl c_1
    rw [hQQ]
    obtain ⟨sa, hsa⟩ := hXW.2.2.1
    have hat : ∀ w ∈ vx_atS RX3 139 RJx00060 ["java/lang/IndexOutOfBoundsException", "java/lang/RuntimeException", "java/lang/Exception"], w.before args s = true := vx_hat (B := fk_thw) (fun w hw => hts w (List.mem_cons_of_mem _ (List.mem_append_right _ hw))) (by decide +kernel) (hXW.1.use args)
    exact vx_throwS (pc := 22) hx hb hlt (own := RX3) (cls := RJx00060) (text := "no such character") (names := ["java/lang/IndexOutOfBoundsException", "java/lang/RuntimeException", "java/lang/Exception"]) (ik := 135) (is := 137) (ic := 139) hown (by decide +kernel) (by decide +kernel) k1 k2 hsa hat (by decide +kernel) hXW.2.2.2.1 hXW.2.2.2.2 hS (by rw [hml]; exact hl.1) dX3_at_22 dX3_at_25 dX3_at_26 dX3_at_28 dX3_at_31 (fun x hx9 => (htab x hx9).elim) (Nat.le_of_ble_eq_true rfl) (Nat.le_of_ble_eq_true rfl) (Nat.le_of_ble_eq_true rfl) (Nat.le_of_ble_eq_true rfl) hlocks (fun t hvm h1 h2 => fk_thrown () hout hS hK hP hD hvm h1 h2) hS.2.2 (Nat.le_of_ble_eq_true rfl) (Nat.le_of_ble_eq_true rfl)
  · rw [Int32.lt_iff_toInt_lt, show (0 : Int32).toInt = 0 by decide] at c_1
    refine lv_aload_n hx hb dX3_at_4 rfl (lv_at hl 0 rfl) ?_
    refine va_get (D := D) (ci := 4) (v := .int (nI tt)) (C := RX3) (T := TX3) (N := 8) hx hb hts k4 hown hK hP 0 rfl rfl 4 (by decide) k3 (fun _ h9 => h9) rfl dX3_at_5 ?_
    refine lv_if_lt (tgt := 22) hx hb dX3_at_8 (by decide) (fun c_8 => False.elim (nI_pos (n := tt) (by omega) c_8)) (fun c_8 => ?_)
    refine lv_iload_n hx hb dX3_at_11 rfl (lv_at hl 1 rfl) ?_
    refine lv_bipush (v := 40) hx hb dX3_at_12 (by decide) ?_
    refine lv_aload_n hx hb dX3_at_14 rfl (lv_at hl 0 rfl) ?_
    refine va_get (D := D) (ci := 4) (v := .int (nI tt)) (C := RX3) (T := TX3) (N := 8) hx hb hts k4 hown hK hP 0 rfl rfl 4 (by decide) k3 (fun _ h9 => h9) rfl dX3_at_15 ?_
    refine lv_isub hx hb dX3_at_18 ?_
    refine lv_topi (fun x1 ex1 => ?_)
    have ex1q : x1 = nI (40 - tt) := by
      rw [ex1, show (40 : Int32) = nI 40 from rfl, pk_sub (by omega)]
    subst ex1q
    refine lv_icmp_lt (tgt := 32) hx hb dX3_at_19 (by decide) (fun c_19 => ?_) (fun c_19 => ?_)
    · rw [Int32.lt_iff_toInt_lt, nI_toInt (by omega)] at c_19
      obtain ⟨b, hbt, hbi⟩ : ∃ b : Nat, b + tt < 40 ∧ i0 = nI b := ⟨i0.toInt.toNat, by omega, by apply Int32.toInt_inj.mp; rw [nI_toInt (by omega)]; omega⟩
      subst hbi
      refine lv_aload_n hx hb dX3_at_32 rfl (lv_at hl 0 rfl) ?_
      refine va_get (D := D) (ci := 4) (v := .ref (ad 2)) (C := RX3) (T := TX3) (N := 8) hx hb hts k4 hown hK hP 0 rfl rfl 3 (by decide) k5 (fun _ h9 => h9) rfl dX3_at_33 ?_
      refine lv_aload_n hx hb dX3_at_36 rfl (lv_at hl 0 rfl) ?_
      refine va_get (D := D) (ci := 4) (v := .int (nI tt)) (C := RX3) (T := TX3) (N := 8) hx hb hts k4 hown hK hP 0 rfl rfl 4 (by decide) k3 (fun _ h9 => h9) rfl dX3_at_37 ?_
      refine lv_iload_n hx hb dX3_at_40 rfl (lv_at hl 1 rfl) ?_
      refine lv_iadd hx hb dX3_at_41 ?_
      refine lv_topi (fun x2 ex2 => ?_)
      have ex2q : x2 = nI (tt + b) := by
        rw [ex2]; exact nI_add tt b
      subst ex2q
      refine fk_cald hx hb hK hP 2 1 rfl rfl (i := tt + b) (by omega) (by decide) dX3_at_42 ?_
      rw [hQQ]
      refine vx_ret ?_
      refine W.widen (k := 1) (n := 6) (by omega) (by omega) ?_
      exact W.iret (v := ch (tt + b)) hx hb hr (fun t ht hW => ⟨⟨(ch (tt + b)), (), rfl, ⟨b, hbt, rfl, rfl⟩, by rw [ht]; exact hP, va_K.moved hW.alike hK, hD⟩, hS.F ht⟩) hS.2.2 dX3_at_43
    · rw [Int32.lt_iff_toInt_lt, nI_toInt (by omega)] at c_19
      have hout : i0.toInt < 0 ∨ (40 : Int) ≤ i0.toInt + tt := Or.inr (by omega)
      rw [hQQ]
      obtain ⟨sa, hsa⟩ := hXW.2.2.1
      have hat : ∀ w ∈ vx_atS RX3 139 RJx00060 ["java/lang/IndexOutOfBoundsException", "java/lang/RuntimeException", "java/lang/Exception"], w.before args s = true := vx_hat (B := fk_thw) (fun w hw => hts w (List.mem_cons_of_mem _ (List.mem_append_right _ hw))) (by decide +kernel) (hXW.1.use args)
      exact vx_throwS (pc := 22) hx hb hlt (own := RX3) (cls := RJx00060) (text := "no such character") (names := ["java/lang/IndexOutOfBoundsException", "java/lang/RuntimeException", "java/lang/Exception"]) (ik := 135) (is := 137) (ic := 139) hown (by decide +kernel) (by decide +kernel) k1 k2 hsa hat (by decide +kernel) hXW.2.2.2.1 hXW.2.2.2.2 hS (by rw [hml]; exact hl.1) dX3_at_22 dX3_at_25 dX3_at_26 dX3_at_28 dX3_at_31 (fun x hx9 => (htab x hx9).elim) (Nat.le_of_ble_eq_true rfl) (Nat.le_of_ble_eq_true rfl) (Nat.le_of_ble_eq_true rfl) (Nat.le_of_ble_eq_true rfl) hlocks (fun t hvm h1 h2 => fk_thrown () hout hS hK hP hD hvm h1 h2) hS.2.2 (Nat.le_of_ble_eq_true rfl) (Nat.le_of_ble_eq_true rfl)
