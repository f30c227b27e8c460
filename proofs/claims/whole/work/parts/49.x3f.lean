/-! FixedKinds: physical, by program -/
theorem fk_03 {x : Int32} (h0 : ¬ x.toInt < 0) (h3 : x.toInt ≤ 3) : x = 0 ∨ x = 1 ∨ x = 2 ∨ x = 3 := by
  have key : ∀ k : Nat, k < 4 → x.toInt = k → x = nI k := fun k hk e => Int32.toInt_inj.mp (by rw [nI_toInt (by omega)]; exact e)
  rcases (show x.toInt = 0 ∨ x.toInt = 1 ∨ x.toInt = 2 ∨ x.toInt = 3 by omega) with q | q | q | q
  · exact Or.inl (key 0 (by omega) q)
  · exact Or.inr (Or.inl (key 1 (by omega) q))
  · exact Or.inr (Or.inr (Or.inl (key 2 (by omega) q)))
  · exact Or.inr (Or.inr (Or.inr (key 3 (by omega) q)))
abbrev rmX3_physical : Room := { frames := 3, cells := 0, slots := 0, locals := 71 }
set_option maxHeartbeats 4000000 in
set_option maxRecDepth 100000 in
/-- physical -/
theorem kX3_physical {l : Launch} {D : va_G} {cJ cC cI cZ cK : ClassId} (sz : Nat) (ad : Nat → Nat) (tl : va_W) (kd : Nat → Option Nat) (lo : Int32) (ch : Nat → Int32) (ts : Int32) (f1 f2 f3 f4 f5 : Nat → Int64) (n : Nat) (kf : Nat → fk_K) (ka kp : Nat → Nat) (num side : Int32) (v : Int64) (hKT : fk_KT n kf kd ka kp tl) : Met l yX3_physical wsX3_physical rmX3_physical (va_Pc [.ref (ad 0), .int num, .long v, .int side] (fk_pre D (fk_ty cJ cC cI cZ cK) (fk_wx cJ cC cK ad kd (nI n) lo ch ts f1 f2 f3 f4 f5 ++ tl) sz)) (va_Ql (fun (r : Int64) (u : Int32 × (Nat → Int64) × (Nat → Int64) × (Nat → Int64) × (Nat → Int64) × (Nat → Int64)) => r.toInt = fk_sPhy n kf num v side ∧ u.1 = lo) (fk_Bd D (fk_ty cJ cC cI cZ cK) (va_A (fk_wx cJ cC cK ad kd (nI n) lo ch ts f1 f2 f3 f4 f5 ++ tl) sz) (fun u : Int32 × (Nat → Int64) × (Nat → Int64) × (Nat → Int64) × (Nat → Int64) × (Nat → Int64) => fk_wx cJ cC cK ad kd (nI n) u.1 ch ts u.2.1 u.2.2.1 u.2.2.2.1 u.2.2.2.2.1 u.2.2.2.2.2 ++ tl)) (va_A (fk_wx cJ cC cK ad kd (nI n) lo ch ts f1 f2 f3 f4 f5 ++ tl) sz)) 0 0 (va_A (fk_wx cJ cC cK ad kd (nI n) lo ch ts f1 f2 f3 f4 f5 ++ tl) sz) := by
  refine fk_ofW cX3_physical 6 (some .long) (fun A => va_Ql (fun (r : Int64) (u : Int32 × (Nat → Int64) × (Nat → Int64) × (Nat → Int64) × (Nat → Int64) × (Nat → Int64)) => r.toInt = fk_sPhy n kf num v side ∧ u.1 = lo) (fk_Bd D (fk_ty cJ cC cI cZ cK) A (fun u : Int32 × (Nat → Int64) × (Nat → Int64) × (Nat → Int64) × (Nat → Int64) × (Nat → Int64) => fk_wx cJ cC cK ad kd (nI n) u.1 ch ts u.2.1 u.2.2.1 u.2.2.2.1 u.2.2.2.2.1 u.2.2.2.2.2 ++ tl)) A) rfl (by decide) (Nat.le_of_ble_eq_true rfl) ?_
  intro p e s m below meth c A ls args QQ hQQ hAt hP hK hN hD hA hS hl
  obtain ⟨⟨hx, hb, hml, hown, hts⟩, hr, hlocks, hin⟩ := hAt
  have hl : lv_has ls 6 [(0, .ref (ad 0)), (1, .int num), (2, .long v), (4, .int side)] := hl
  have k1 := hts (.fieldLink RX3 33 "FixedKinds" "first" "LFixedKinds$Fraction;") (by decide +kernel)
  have k2 := (by decide +kernel : ∀ w ∈ u_ws RX3 TX3 8, w ∈ wsX3_physical)
  have k3 := hN _ fkn_X3_72
  have k4 := hts (.initialized RX0) (by decide +kernel)
  have k5 := hts (.instanceMethod yX0_take) (by decide +kernel)
  have k6 := hts (.selects RX0 yX0_take yX0_take) (by decide +kernel)
  have k7 := hts (.fieldLink RX3 37 "FixedKinds" "second" "LFixedKinds$Fraction;") (by decide +kernel)
  have k8 := hN _ fkn_X3_98
  have k9 := (by decide +kernel : ∀ w ∈ u_ws RX0 TX0 2, w ∈ wsX3_physical)
  have k10 := hN _ fkn_X3_101
  have k11 := hts (.instanceMethod yX0_reduce) (by decide +kernel)
  have k12 := hts (.selects RX0 yX0_reduce yX0_reduce) (by decide +kernel)
  have k13 := hN _ fkn_X3_105
  have k14 := hN _ fkn_X3_108
  have k15 := hts (.initialized RX2) (by decide +kernel)
  have k16 := hts (.instanceMethod yX2_bitsFrom) (by decide +kernel)
  have k17 := hts (.selects RX2 yX2_bitsFrom yX2_bitsFrom) (by decide +kernel)
  have k18 := hts (.constantLong RX3 112 4294967295) (by decide +kernel)
  have hn40 := hKT.1
  refine lv_aload_n hx hb dX3_physical_0 rfl (lv_at hl 0 rfl) ?_
  refine lv_iload_n hx hb dX3_physical_1 rfl (lv_at hl 1 rfl) ?_
  refine fk_cq hD hS hA (va_runV (As := [.int num]) (rest := []) ⟨hx, hb, hml, hown, hts⟩ (kX3_find _ ad tl kd lo ch ts f1 f2 f3 f4 f5 n kf ka kp num hKT) (cwV 1 hts gX3_physical_X3_find rfl rfl rfl (by decide +kernel) ⟨Nat.le_of_ble_eq_true rfl, Nat.le_of_ble_eq_true rfl⟩) (fk_preV 0 4 hK hN hP hD rfl rfl) rfl rfl hl.1 rfl (lv_room (Nat.le_of_ble_eq_true rfl)) dX3_physical_2 ⟨Nat.le_of_ble_eq_true rfl, Nat.le_of_ble_eq_true rfl⟩) (fun r1 u H locs hw hP hD hS => ?_)
  have hP : va_P D vwCl (fk_wx cJ cC cK ad kd (nI n) lo ch ts f1 f2 f3 f4 f5 ++ tl) H := hP
  have hD : va_D A (fk_wx cJ cC cK ad kd (nI n) lo ch ts f1 f2 f3 f4 f5 ++ tl) := hD
  rcases hw with ⟨hr_j, hno_j⟩ | ⟨j, hj, hn_j, hr_j⟩
  · subst hr_j
    refine lv_astoreN (lv' := [(5, .null), (0, .ref (ad 0)), (1, .int num), (2, .long v), (4, .int side)]) hx hb dX3_physical_5 hl (by decide) rfl (fun ls hl => ?_)
    refine lv_aloadN hx hb dX3_physical_7 (lv_at hl 0 rfl) ?_
    refine lv_ifnullN (tgt := 23) hx hb dX3_physical_9 (by decide) ?_
    refine lv_lconst (v := 0) hx hb dX3_physical_23 (by decide) ?_
    rw [hQQ]
    exact W.lret (v := 0) hx hb hr (fun t ht hW => ⟨⟨0, (lo, f1, f2, f3, f4, f5), rfl, ⟨(by rw [fk_sPhy, if_pos (Or.inl hno_j)]; decide), rfl⟩, by rw [ht]; exact hP, va_K.moved hW.alike hK, hD⟩, hS.F ht⟩) hS.2.2 dX3_physical_24
  · subst hr_j
    subst hn_j
    have ok_j := (hKT.2.1 j hj).2.2
    obtain ⟨okd_j, oko_j, okr_j⟩ := id ok_j
    refine lv_astore (lv' := [(5, .ref (ka j)), (0, .ref (ad 0)), (1, .int (nI (j + 1))), (2, .long v), (4, .int side)]) hx hb dX3_physical_5 hl (by decide) rfl (fun ls hl => ?_)
    refine lv_aload hx hb dX3_physical_7 (lv_at hl 0 rfl) ?_
    refine lv_ifnull hx hb dX3_physical_9 ?_
    refine lv_iload hx hb dX3_physical_12 (lv_at hl 4 rfl) ?_
    refine lv_if_lt (tgt := 23) hx hb dX3_physical_14 (by decide) (fun c_14 => ?_) (fun c_14 => ?_)
    · rw [Int32.lt_iff_toInt_lt, show (0 : Int32).toInt = 0 by decide] at c_14
      refine lv_lconst (v := 0) hx hb dX3_physical_23 (by decide) ?_
      rw [hQQ]
      exact W.lret (v := 0) hx hb hr (fun t ht hW => ⟨⟨0, (lo, f1, f2, f3, f4, f5), rfl, ⟨(by rw [fk_sPhy, if_pos (Or.inr (Or.inl c_14))]; decide), rfl⟩, by rw [ht]; exact hP, va_K.moved hW.alike hK, hD⟩, hS.F ht⟩) hS.2.2 dX3_physical_24
    · rw [Int32.lt_iff_toInt_lt, show (0 : Int32).toInt = 0 by decide] at c_14
      refine lv_iload hx hb dX3_physical_17 (lv_at hl 4 rfl) ?_
      refine lv_iconst (v := 3) hx hb dX3_physical_19 (by decide) ?_
      refine lv_icmp_le (tgt := 25) hx hb dX3_physical_20 (by decide) (fun c_20 => ?_) (fun c_20 => ?_)
      · rw [Int32.le_iff_toInt_le, show (3 : Int32).toInt = 3 by decide] at c_20
        refine lv_aload_n hx hb dX3_physical_25 rfl (lv_at hl 1 rfl) ?_
        refine va_get (D := D) (ci := 4) (v := .ref (ad 3)) (C := RX3) (T := TX3) (N := 8) hx hb hts k2 hown hK hP 0 rfl rfl 5 (by decide) k1 (fun _ h9 => h9) rfl dX3_physical_26 ?_
        refine lv_aload hx hb dX3_physical_29 (lv_at hl 0 rfl) ?_
        refine lv_lload_n hx hb dX3_physical_31 rfl (lv_at hl 3 rfl) ?_
        refine fk_cv hD hS hA (va_runVN (As := [.ref (ka j), .long v]) (rest := []) ⟨hx, hb, hml, hown, hts⟩ (kX0_take _ _ (ad 3) (ad 4) (ad 5) (ad 6) (ad 7) 3 4 5 6 7 f1 f2 (ka j) (kp j + 15) (kf j).1 (kf j).2.1 (kf j).2.2.2.2.2.1 (kf j).2.2.2.2.2.2 (kf j).2.2.1 (kf j).2.2.2.1 (kf j).2.2.2.2.1 v rfl rfl rfl rfl rfl (fk_tl (hKT.2.1 j hj).2.1) okd_j (by decide)) ⟨va_cnB 2 hts gX3_physical_X0_take_n72 rfl rfl rfl k3 k4 (by decide +kernel) ⟨Nat.le_of_ble_eq_true rfl, Nat.le_of_ble_eq_true rfl⟩, k5, k6⟩ (fk_preV 3 1 hK hN hP hD rfl rfl) rfl rfl hl.1 rfl (lv_room (Nat.le_of_ble_eq_true rfl)) dX3_physical_32 ⟨Nat.le_of_ble_eq_true rfl, Nat.le_of_ble_eq_true rfl⟩) (fun u2 H locs hw hP hD hS => ?_)
        have hP : va_P D vwCl (fk_wx cJ cC cK ad kd (nI n) lo ch ts u2.1 u2.2 f3 f4 f5 ++ tl) H := hP
        have hD : va_D A (fk_wx cJ cC cK ad kd (nI n) lo ch ts u2.1 u2.2 f3 f4 f5 ++ tl) := hD
        obtain ⟨hTu2, hBu2⟩ := hw
        have hTu2 : fk_R (fk_v (kf j) v) u2.1 := hTu2
        have hBu2 : fk_R (fk_dn (kf j)) u2.2 := hBu2
        have bvu2 := fk_v_bd ok_j v
        have bdu2 := fk_dn_bd ok_j
        refine lv_aload_n hx hb dX3_physical_35 rfl (lv_at hl 1 rfl) ?_
        refine va_get (D := D) (ci := 4) (v := .ref (ad 3)) (C := RX3) (T := TX3) (N := 8) hx hb hts k2 hown hK hP 0 rfl rfl 5 (by decide) k1 (fun _ h9 => h9) rfl dX3_physical_36 ?_
        refine lv_aload_n hx hb dX3_physical_39 rfl (lv_at hl 1 rfl) ?_
        refine va_get (D := D) (ci := 4) (v := .ref (ad 8)) (C := RX3) (T := TX3) (N := 8) hx hb hts k2 hown hK hP 0 rfl rfl 6 (by decide) k7 (fun _ h9 => h9) rfl dX3_physical_40 ?_
        refine va_getN (D := D) (ci := 1) (v := .ref (ad 9)) (C := RX0) (T := TX0) (N := 2) hx hb hts k9 hown hK hP 8 rfl rfl 0 (by decide) (va_Nw.use rfl k8) (fun _ h9 => h9) rfl dX3_physical_43 ?_
        refine fk_cv hD hS hA (va_runVN (As := [.ref (ad 9)]) (rest := []) ⟨hx, hb, hml, hown, hts⟩ (kX0_reduce _ ad tl kd (nI n) lo ch ts u2.1 u2.2 f3 f4 f5 (fk_v (kf j) v) (fk_dn (kf j)) hTu2 hBu2 (fk_v_bd ok_j v) (fk_dn_bd ok_j)) ⟨va_cnB 1 hts gX3_physical_X0_reduce_n101 rfl rfl rfl k10 k4 (by decide +kernel) ⟨Nat.le_of_ble_eq_true rfl, Nat.le_of_ble_eq_true rfl⟩, k11, k12⟩ (fk_preV 3 1 hK hN hP hD rfl rfl) rfl rfl hl.1 rfl (lv_room (Nat.le_of_ble_eq_true rfl)) dX3_physical_46 ⟨Nat.le_of_ble_eq_true rfl, Nat.le_of_ble_eq_true rfl⟩) (fun u4 H locs hw hP hD hS => ?_)
        have hP : va_P D vwCl (fk_wx cJ cC cK ad kd (nI n) lo ch ts u4.1 u4.2.1 u4.2.2 f4 f5 ++ tl) H := hP
        have hD : va_D A (fk_wx cJ cC cK ad kd (nI n) lo ch ts u4.1 u4.2.1 u4.2.2 f4 f5 ++ tl) := hD
        obtain ⟨hnm, hdm⟩ := hw
        have hnm : fk_R (fk_num (fk_v (kf j) v) (fk_dn (kf j))) u4.1 := hnm
        have hnb := fk_num_bd (fk_v_bd ok_j v) (show 0 < fk_dn (kf j) by have := fk_dn_bd ok_j; omega)
        have hgb := fk_gc_bd (fk_v (kf j) v) (show 0 < fk_dn (kf j) by have := fk_dn_bd ok_j; omega)
        have hdb := fk_dn_bd ok_j
        have hdq0 : 0 ≤ fk_dn (kf j) / fk_gc (fk_v (kf j) v) (fk_dn (kf j)) := Int.ediv_nonneg (by omega) (by omega)
        have hdq1 : fk_dn (kf j) / fk_gc (fk_v (kf j) v) (fk_dn (kf j)) ≤ fk_dn (kf j) := Int.ediv_le_self _ (by omega)
        refine lv_iload hx hb dX3_physical_49 (lv_at hl 4 rfl) ?_
        rcases (show side = 0 ∨ side = 1 ∨ side = 2 ∨ side = 3 from fk_03 c_14 c_20) with q | q | q | q
        · subst q
          refine lv_tableIn (tgt := 76) (off := 25) hx hb dX3_physical_51 (by decide) (by decide) (by decide) (by decide) ?_
          refine lv_aload_n hx hb dX3_physical_76 rfl (lv_at hl 1 rfl) ?_
          refine va_get (D := D) (ci := 4) (v := .ref (ad 3)) (C := RX3) (T := TX3) (N := 8) hx hb hts k2 hown hK hP 0 rfl rfl 5 (by decide) k1 (fun _ h9 => h9) rfl dX3_physical_77 ?_
          refine va_getN (D := D) (ci := 1) (v := .ref (ad 6)) (C := RX0) (T := TX0) (N := 2) hx hb hts k9 hown hK hP 3 rfl rfl 1 (by decide) (va_Nw.use rfl k13) (fun _ h9 => h9) rfl dX3_physical_80 ?_
          refine lv_iconst (v := 0) hx hb dX3_physical_83 (by decide) ?_
          refine fk_cl hD hS hA (va_runVN (As := [.int 0]) (rest := []) ⟨hx, hb, hml, hown, hts⟩ (kX2_bitsFrom _ _ (ad 6) (ad 7) 6 7 u4.2.1 0 (fk_dn (kf j) / fk_gc (fk_v (kf j) v) (fk_dn (kf j))) rfl rfl hdm (by omega)) ⟨va_cnB 1 hts gX3_physical_X2_bitsFrom_n108 rfl rfl rfl k14 k15 (by decide +kernel) ⟨Nat.le_of_ble_eq_true rfl, Nat.le_of_ble_eq_true rfl⟩, k16, k17⟩ (fk_preV 6 3 hK hN hP hD rfl rfl) rfl rfl hl.1 rfl (lv_room (Nat.le_of_ble_eq_true rfl)) dX3_physical_84 ⟨Nat.le_of_ble_eq_true rfl, Nat.le_of_ble_eq_true rfl⟩) (fun r6 u H locs hw hP hD hS => ?_)
          have hP : va_P D vwCl (fk_wx cJ cC cK ad kd (nI n) lo ch ts u4.1 u4.2.1 u4.2.2 f4 f5 ++ tl) H := hP
          have hD : va_D A (fk_wx cJ cC cK ad kd (nI n) lo ch ts u4.1 u4.2.1 u4.2.2 f4 f5 ++ tl) := hD
          have zb := hw
          rw [hQQ]
          exact W.lret (v := r6) hx hb hr (fun t ht hW => ⟨⟨r6, (lo, u4.1, u4.2.1, u4.2.2, f4, f5), rfl, ⟨(by rw [fk_sPhy, if_neg (fun q => q.elim (fk_no_j hj hn40) (fun z => by revert z; decide)), fk_ix_j hj hn40, fk_ph, if_pos rfl, zb, Int.pow_zero, Int.ediv_one]; exact Int64.toInt_ofInt_of_le (by omega) (by omega)), rfl⟩, by rw [ht]; exact hP, va_K.moved hW.alike hK, hD⟩, hS.F ht⟩) hS.2.2 dX3_physical_87
        · subst q
          refine lv_tableIn (tgt := 88) (off := 37) hx hb dX3_physical_51 (by decide) (by decide) (by decide) (by decide) ?_
          refine lv_aload_n hx hb dX3_physical_88 rfl (lv_at hl 1 rfl) ?_
          refine va_get (D := D) (ci := 4) (v := .ref (ad 3)) (C := RX3) (T := TX3) (N := 8) hx hb hts k2 hown hK hP 0 rfl rfl 5 (by decide) k1 (fun _ h9 => h9) rfl dX3_physical_89 ?_
          refine va_getN (D := D) (ci := 1) (v := .ref (ad 4)) (C := RX0) (T := TX0) (N := 2) hx hb hts k9 hown hK hP 3 rfl rfl 0 (by decide) (va_Nw.use rfl k8) (fun _ h9 => h9) rfl dX3_physical_92 ?_
          refine lv_iconst (v := 0) hx hb dX3_physical_95 (by decide) ?_
          refine fk_cl hD hS hA (va_runVN (As := [.int 0]) (rest := []) ⟨hx, hb, hml, hown, hts⟩ (kX2_bitsFrom _ _ (ad 4) (ad 5) 4 5 u4.1 0 (fk_num (fk_v (kf j) v) (fk_dn (kf j))) rfl rfl hnm (by omega)) ⟨va_cnB 1 hts gX3_physical_X2_bitsFrom_n108 rfl rfl rfl k14 k15 (by decide +kernel) ⟨Nat.le_of_ble_eq_true rfl, Nat.le_of_ble_eq_true rfl⟩, k16, k17⟩ (fk_preV 4 3 hK hN hP hD rfl rfl) rfl rfl hl.1 rfl (lv_room (Nat.le_of_ble_eq_true rfl)) dX3_physical_96 ⟨Nat.le_of_ble_eq_true rfl, Nat.le_of_ble_eq_true rfl⟩) (fun r7 u H locs hw hP hD hS => ?_)
          have hP : va_P D vwCl (fk_wx cJ cC cK ad kd (nI n) lo ch ts u4.1 u4.2.1 u4.2.2 f4 f5 ++ tl) H := hP
          have hD : va_D A (fk_wx cJ cC cK ad kd (nI n) lo ch ts u4.1 u4.2.1 u4.2.2 f4 f5 ++ tl) := hD
          have zb := hw
          refine lv_ldc2 (v := 4294967295) hx hb hown k18 dX3_physical_99 ?_
          refine lv_land hx hb dX3_physical_102 ?_
          refine lv_topl (fun x8 ex8 => ?_)
          rw [hQQ]
          exact W.lret (v := x8) hx hb hr (fun t ht hW => ⟨⟨x8, (lo, u4.1, u4.2.1, u4.2.2, f4, f5), rfl, ⟨(by rw [fk_sPhy, if_neg (fun q => q.elim (fk_no_j hj hn40) (fun z => by revert z; decide)), fk_ix_j hj hn40, fk_ph, if_neg (by decide), if_pos rfl, ex8, zb, Int.pow_zero, Int.ediv_one]; exact fk_low32 _), rfl⟩, by rw [ht]; exact hP, va_K.moved hW.alike hK, hD⟩, hS.F ht⟩) hS.2.2 dX3_physical_103
        · subst q
          refine lv_tableIn (tgt := 104) (off := 53) hx hb dX3_physical_51 (by decide) (by decide) (by decide) (by decide) ?_
          refine lv_aload_n hx hb dX3_physical_104 rfl (lv_at hl 1 rfl) ?_
          refine va_get (D := D) (ci := 4) (v := .ref (ad 3)) (C := RX3) (T := TX3) (N := 8) hx hb hts k2 hown hK hP 0 rfl rfl 5 (by decide) k1 (fun _ h9 => h9) rfl dX3_physical_105 ?_
          refine va_getN (D := D) (ci := 1) (v := .ref (ad 4)) (C := RX0) (T := TX0) (N := 2) hx hb hts k9 hown hK hP 3 rfl rfl 0 (by decide) (va_Nw.use rfl k8) (fun _ h9 => h9) rfl dX3_physical_108 ?_
          refine lv_iconst (v := 2) hx hb dX3_physical_111 (by decide) ?_
          refine fk_cl hD hS hA (va_runVN (As := [.int 2]) (rest := []) ⟨hx, hb, hml, hown, hts⟩ (kX2_bitsFrom _ _ (ad 4) (ad 5) 4 5 u4.1 2 (fk_num (fk_v (kf j) v) (fk_dn (kf j))) rfl rfl hnm (by omega)) ⟨va_cnB 1 hts gX3_physical_X2_bitsFrom_n108 rfl rfl rfl k14 k15 (by decide +kernel) ⟨Nat.le_of_ble_eq_true rfl, Nat.le_of_ble_eq_true rfl⟩, k16, k17⟩ (fk_preV 4 3 hK hN hP hD rfl rfl) rfl rfl hl.1 rfl (lv_room (Nat.le_of_ble_eq_true rfl)) dX3_physical_112 ⟨Nat.le_of_ble_eq_true rfl, Nat.le_of_ble_eq_true rfl⟩) (fun r9 u H locs hw hP hD hS => ?_)
          have hP : va_P D vwCl (fk_wx cJ cC cK ad kd (nI n) lo ch ts u4.1 u4.2.1 u4.2.2 f4 f5 ++ tl) H := hP
          have hD : va_D A (fk_wx cJ cC cK ad kd (nI n) lo ch ts u4.1 u4.2.1 u4.2.2 f4 f5 ++ tl) := hD
          have zb := hw
          refine lv_ldc2 (v := 4294967295) hx hb hown k18 dX3_physical_115 ?_
          refine lv_land hx hb dX3_physical_118 ?_
          refine lv_topl (fun x10 ex10 => ?_)
          rw [hQQ]
          exact W.lret (v := x10) hx hb hr (fun t ht hW => ⟨⟨x10, (lo, u4.1, u4.2.1, u4.2.2, f4, f5), rfl, ⟨(by rw [fk_sPhy, if_neg (fun q => q.elim (fk_no_j hj hn40) (fun z => by revert z; decide)), fk_ix_j hj hn40, fk_ph, if_neg (by decide), if_neg (by decide), if_pos rfl, ex10, zb, show (65536 : Int) ^ 2 = 4294967296 by decide]; exact fk_low32 _), rfl⟩, by rw [ht]; exact hP, va_K.moved hW.alike hK, hD⟩, hS.F ht⟩) hS.2.2 dX3_physical_119
        · subst q
          refine lv_tableOut (tgt := 120) hx hb dX3_physical_51 (by decide) (by decide) ?_
          refine lv_aload_n hx hb dX3_physical_120 rfl (lv_at hl 1 rfl) ?_
          refine va_get (D := D) (ci := 4) (v := .ref (ad 3)) (C := RX3) (T := TX3) (N := 8) hx hb hts k2 hown hK hP 0 rfl rfl 5 (by decide) k1 (fun _ h9 => h9) rfl dX3_physical_121 ?_
          refine va_getN (D := D) (ci := 1) (v := .ref (ad 4)) (C := RX0) (T := TX0) (N := 2) hx hb hts k9 hown hK hP 3 rfl rfl 0 (by decide) (va_Nw.use rfl k8) (fun _ h9 => h9) rfl dX3_physical_124 ?_
          refine lv_iconst (v := 4) hx hb dX3_physical_127 (by decide) ?_
          refine fk_cl hD hS hA (va_runVN (As := [.int 4]) (rest := []) ⟨hx, hb, hml, hown, hts⟩ (kX2_bitsFrom _ _ (ad 4) (ad 5) 4 5 u4.1 4 (fk_num (fk_v (kf j) v) (fk_dn (kf j))) rfl rfl hnm (by omega)) ⟨va_cnB 1 hts gX3_physical_X2_bitsFrom_n108 rfl rfl rfl k14 k15 (by decide +kernel) ⟨Nat.le_of_ble_eq_true rfl, Nat.le_of_ble_eq_true rfl⟩, k16, k17⟩ (fk_preV 4 3 hK hN hP hD rfl rfl) rfl rfl hl.1 rfl (lv_room (Nat.le_of_ble_eq_true rfl)) dX3_physical_128 ⟨Nat.le_of_ble_eq_true rfl, Nat.le_of_ble_eq_true rfl⟩) (fun r11 u H locs hw hP hD hS => ?_)
          have hP : va_P D vwCl (fk_wx cJ cC cK ad kd (nI n) lo ch ts u4.1 u4.2.1 u4.2.2 f4 f5 ++ tl) H := hP
          have hD : va_D A (fk_wx cJ cC cK ad kd (nI n) lo ch ts u4.1 u4.2.1 u4.2.2 f4 f5 ++ tl) := hD
          have zb := hw
          rw [hQQ]
          exact W.lret (v := r11) hx hb hr (fun t ht hW => ⟨⟨r11, (lo, u4.1, u4.2.1, u4.2.2, f4, f5), rfl, ⟨(by rw [fk_sPhy, if_neg (fun q => q.elim (fk_no_j hj hn40) (fun z => by revert z; decide)), fk_ix_j hj hn40, fk_ph, if_neg (by decide), if_neg (by decide), if_neg (by decide), zb, show (65536 : Int) ^ 4 = 18446744073709551616 by decide]; exact Int64.toInt_ofInt_of_le (by omega) (by omega)), rfl⟩, by rw [ht]; exact hP, va_K.moved hW.alike hK, hD⟩, hS.F ht⟩) hS.2.2 dX3_physical_131
      · rw [Int32.le_iff_toInt_le, show (3 : Int32).toInt = 3 by decide] at c_20
        refine lv_lconst (v := 0) hx hb dX3_physical_23 (by decide) ?_
        rw [hQQ]
        exact W.lret (v := 0) hx hb hr (fun t ht hW => ⟨⟨0, (lo, f1, f2, f3, f4, f5), rfl, ⟨(by rw [fk_sPhy, if_pos (Or.inr (Or.inr (by omega)))]; decide), rfl⟩, by rw [ht]; exact hP, va_K.moved hW.alike hK, hD⟩, hS.F ht⟩) hS.2.2 dX3_physical_24
