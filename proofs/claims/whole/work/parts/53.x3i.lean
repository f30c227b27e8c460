/-! FixedKinds: rule, kind, by program -/
abbrev rmX3_rule : Room := { frames := 1, cells := 0, slots := 0, locals := 21 }
set_option maxHeartbeats 4000000 in
set_option maxRecDepth 100000 in
/-- rule -/
theorem kX3_rule {l : Launch} {D : va_G} {cJ cC cI cZ cK : ClassId} (sz : Nat) (ad : Nat → Nat) (tl : va_W) (kd : Nat → Option Nat) (lo : Int32) (ch : Nat → Int32) (ts : Int32) (f1 f2 f3 f4 f5 : Nat → Int64) (n : Nat) (kf : Nat → fk_K) (ka kp : Nat → Nat) (num ov rd : Int32) (hKT : fk_KT n kf kd ka kp tl) : Met l yX3_rule wsX3_rule rmX3_rule (va_Pc [.ref (ad 0), .int num, .int ov, .int rd] (fk_pre D (fk_ty cJ cC cI cZ cK) (fk_wx cJ cC cK ad kd (nI n) lo ch ts f1 f2 f3 f4 f5 ++ tl) sz)) (va_Qi (fun (r : Int32) (u : va_W) => (fk_no n num ∧ r = -1 ∧ u = tl) ∨ (¬ fk_no n num ∧ fk_badR ov rd ∧ r = -2 ∧ u = tl) ∨ ∃ j, j < n ∧ num = nI (j + 1) ∧ ¬ fk_badR ov rd ∧ r = 1 ∧ u = tl.set (kp j) (ka j, fk_ke ((kf j).1, (kf j).2.1, (kf j).2.2.1, (kf j).2.2.2.1, (kf j).2.2.2.2.1, ov, rd))) (fk_Bd D (fk_ty cJ cC cI cZ cK) (va_A (fk_wx cJ cC cK ad kd (nI n) lo ch ts f1 f2 f3 f4 f5 ++ tl) sz) (fun u : va_W => fk_wx cJ cC cK ad kd (nI n) lo ch ts f1 f2 f3 f4 f5 ++ u)) (va_A (fk_wx cJ cC cK ad kd (nI n) lo ch ts f1 f2 f3 f4 f5 ++ tl) sz)) 0 0 (va_A (fk_wx cJ cC cK ad kd (nI n) lo ch ts f1 f2 f3 f4 f5 ++ tl) sz) := by
  refine fk_ofW cX3_rule 5 (some .int) (fun A => va_Qi (fun (r : Int32) (u : va_W) => (fk_no n num ∧ r = -1 ∧ u = tl) ∨ (¬ fk_no n num ∧ fk_badR ov rd ∧ r = -2 ∧ u = tl) ∨ ∃ j, j < n ∧ num = nI (j + 1) ∧ ¬ fk_badR ov rd ∧ r = 1 ∧ u = tl.set (kp j) (ka j, fk_ke ((kf j).1, (kf j).2.1, (kf j).2.2.1, (kf j).2.2.2.1, (kf j).2.2.2.2.1, ov, rd))) (fk_Bd D (fk_ty cJ cC cI cZ cK) A (fun u : va_W => fk_wx cJ cC cK ad kd (nI n) lo ch ts f1 f2 f3 f4 f5 ++ u)) A) rfl (by decide) (Nat.le_of_ble_eq_true rfl) ?_
  intro p e s m below meth c A ls args QQ hQQ hAt hP hK hN hD hA hS hl
  obtain ⟨⟨hx, hb, hml, hown, hts⟩, hr, hlocks, hin⟩ := hAt
  have hl : lv_has ls 5 [(0, .ref (ad 0)), (1, .int num), (2, .int ov), (3, .int rd)] := hl
  have k1 := hN _ fkn_X3_66
  have k2 := (by decide +kernel : ∀ w ∈ u_ws RX1 TX1 7, w ∈ wsX3_rule)
  have k3 := hN _ fkn_X3_69
  have hn40 := hKT.1
  refine lv_aload_n hx hb dX3_rule_0 rfl (lv_at hl 0 rfl) ?_
  refine lv_iload_n hx hb dX3_rule_1 rfl (lv_at hl 1 rfl) ?_
  refine fk_cq hD hS hA (va_runV (As := [.int num]) (rest := []) ⟨hx, hb, hml, hown, hts⟩ (kX3_find _ ad tl kd lo ch ts f1 f2 f3 f4 f5 n kf ka kp num hKT) (cwV 1 hts gX3_rule_X3_find rfl rfl rfl (by decide +kernel) ⟨Nat.le_of_ble_eq_true rfl, Nat.le_of_ble_eq_true rfl⟩) (fk_preV 0 4 hK hN hP hD rfl rfl) rfl rfl hl.1 rfl (lv_room (Nat.le_of_ble_eq_true rfl)) dX3_rule_2 ⟨Nat.le_of_ble_eq_true rfl, Nat.le_of_ble_eq_true rfl⟩) (fun r1 u H locs hw hP hD hS => ?_)
  have hP : va_P D vwCl (fk_wx cJ cC cK ad kd (nI n) lo ch ts f1 f2 f3 f4 f5 ++ tl) H := hP
  have hD : va_D A (fk_wx cJ cC cK ad kd (nI n) lo ch ts f1 f2 f3 f4 f5 ++ tl) := hD
  rcases hw with ⟨hr_j, hno_j⟩ | ⟨j, hj, hn_j, hr_j⟩
  · subst hr_j
    refine lv_astoreN (lv' := [(4, .null), (0, .ref (ad 0)), (1, .int num), (2, .int ov), (3, .int rd)]) hx hb dX3_rule_5 hl (by decide) rfl (fun ls hl => ?_)
    refine lv_aloadN hx hb dX3_rule_7 (lv_at hl 0 rfl) ?_
    refine lv_ifnonnullN hx hb dX3_rule_9 ?_
    refine lv_iconst (v := (-1)) hx hb dX3_rule_12 (by decide) ?_
    rw [hQQ]
    exact W.iret (v := (-1)) hx hb hr (fun t ht hW => ⟨⟨(-1), tl, rfl, Or.inl ⟨hno_j, rfl, rfl⟩, by rw [ht]; exact hP, va_K.moved hW.alike hK, hD⟩, hS.F ht⟩) hS.2.2 dX3_rule_13
  · subst hr_j
    subst hn_j
    have ok_j := (hKT.2.1 j hj).2.2
    obtain ⟨okd_j, oko_j, okr_j⟩ := id ok_j
    refine lv_astore (lv' := [(4, .ref (ka j)), (0, .ref (ad 0)), (1, .int (nI (j + 1))), (2, .int ov), (3, .int rd)]) hx hb dX3_rule_5 hl (by decide) rfl (fun ls hl => ?_)
    refine lv_aload hx hb dX3_rule_7 (lv_at hl 0 rfl) ?_
    refine lv_ifnonnull (tgt := 14) hx hb dX3_rule_9 (by decide) ?_
    refine lv_iload_n hx hb dX3_rule_14 rfl (lv_at hl 3 rfl) ?_
    refine lv_if_lt (tgt := 32) hx hb dX3_rule_15 (by decide) (fun c_15 => ?_) (fun c_15 => ?_)
    · rw [Int32.lt_iff_toInt_lt, show (0 : Int32).toInt = 0 by decide] at c_15
      refine lv_bipush (v := (-2)) hx hb dX3_rule_32 (by decide) ?_
      rw [hQQ]
      exact W.iret (v := (-2)) hx hb hr (fun t ht hW => ⟨⟨(-2), tl, rfl, Or.inr (Or.inl ⟨fk_no_j hj hn40, Or.inl c_15, rfl, rfl⟩), by rw [ht]; exact hP, va_K.moved hW.alike hK, hD⟩, hS.F ht⟩) hS.2.2 dX3_rule_34
    · rw [Int32.lt_iff_toInt_lt, show (0 : Int32).toInt = 0 by decide] at c_15
      refine lv_iload_n hx hb dX3_rule_18 rfl (lv_at hl 3 rfl) ?_
      refine lv_iconst (v := 2) hx hb dX3_rule_19 (by decide) ?_
      refine lv_icmp_gt (tgt := 32) hx hb dX3_rule_20 (by decide) (fun c_20 => ?_) (fun c_20 => ?_)
      · rw [Int32.lt_iff_toInt_lt, show (2 : Int32).toInt = 2 by decide] at c_20
        refine lv_bipush (v := (-2)) hx hb dX3_rule_32 (by decide) ?_
        rw [hQQ]
        exact W.iret (v := (-2)) hx hb hr (fun t ht hW => ⟨⟨(-2), tl, rfl, Or.inr (Or.inl ⟨fk_no_j hj hn40, Or.inr (Or.inl c_20), rfl, rfl⟩), by rw [ht]; exact hP, va_K.moved hW.alike hK, hD⟩, hS.F ht⟩) hS.2.2 dX3_rule_34
      · rw [Int32.lt_iff_toInt_lt, show (2 : Int32).toInt = 2 by decide] at c_20
        refine lv_iload_n hx hb dX3_rule_23 rfl (lv_at hl 4 rfl) ?_
        refine lv_if_lt (tgt := 32) hx hb dX3_rule_24 (by decide) (fun c_24 => ?_) (fun c_24 => ?_)
        · rw [Int32.lt_iff_toInt_lt, show (0 : Int32).toInt = 0 by decide] at c_24
          refine lv_bipush (v := (-2)) hx hb dX3_rule_32 (by decide) ?_
          rw [hQQ]
          exact W.iret (v := (-2)) hx hb hr (fun t ht hW => ⟨⟨(-2), tl, rfl, Or.inr (Or.inl ⟨fk_no_j hj hn40, Or.inr (Or.inr (Or.inl c_24)), rfl, rfl⟩), by rw [ht]; exact hP, va_K.moved hW.alike hK, hD⟩, hS.F ht⟩) hS.2.2 dX3_rule_34
        · rw [Int32.lt_iff_toInt_lt, show (0 : Int32).toInt = 0 by decide] at c_24
          refine lv_iload_n hx hb dX3_rule_27 rfl (lv_at hl 4 rfl) ?_
          refine lv_iconst (v := 3) hx hb dX3_rule_28 (by decide) ?_
          refine lv_icmp_le (tgt := 35) hx hb dX3_rule_29 (by decide) (fun c_29 => ?_) (fun c_29 => ?_)
          · rw [Int32.le_iff_toInt_le, show (3 : Int32).toInt = 3 by decide] at c_29
            refine lv_aload hx hb dX3_rule_35 (lv_at hl 0 rfl) ?_
            refine lv_iload_n hx hb dX3_rule_37 rfl (lv_at hl 3 rfl) ?_
            refine va_putN (D := D) (ci := 2) (v := .int ov) (ty := (.int)) (C := RX1) (T := TX1) (N := 7) hx hb hts k2 tyX1 tyX1_ok nmX1 hown hK hP hD hS (kp j + 15) (fk_tl (hKT.2.1 j hj).2.1) rfl 5 (by decide) (va_Nw.use rfl k1) (fun _ h9 => h9) rfl (by decide +kernel) rfl rfl (Nat.le_of_ble_eq_true rfl) dX3_rule_38 (fun H locs hP hD hS => ?_)
            have hP : va_P D vwCl (fk_wx cJ cC cK ad kd (nI n) lo ch ts f1 f2 f3 f4 f5 ++ (tl.set (kp j) ((ka j), .inr (2, [.int (nI (kf j).1), .int ((kf j).2.1), .long ((kf j).2.2.1), .long ((kf j).2.2.2.1), .long ((kf j).2.2.2.2.1), .int ov, .int ((kf j).2.2.2.2.2.2)])))) H := hP
            have hD : va_D A (fk_wx cJ cC cK ad kd (nI n) lo ch ts f1 f2 f3 f4 f5 ++ (tl.set (kp j) ((ka j), .inr (2, [.int (nI (kf j).1), .int ((kf j).2.1), .long ((kf j).2.2.1), .long ((kf j).2.2.2.1), .long ((kf j).2.2.2.2.1), .int ov, .int ((kf j).2.2.2.2.2.2)])))) := hD
            refine lv_aload hx hb dX3_rule_41 (lv_at hl 0 rfl) ?_
            refine lv_iload_n hx hb dX3_rule_43 rfl (lv_at hl 4 rfl) ?_
            refine va_putN (D := D) (ci := 2) (v := .int rd) (ty := (.int)) (C := RX1) (T := TX1) (N := 7) hx hb hts k2 tyX1 tyX1_ok nmX1 hown hK hP hD hS (kp j + 15) (fk_tl (fk_ss (hKT.2.1 j hj).2.1)) rfl 6 (by decide) (va_Nw.use rfl k3) (fun _ h9 => h9) rfl (by decide +kernel) rfl rfl (Nat.le_of_ble_eq_true rfl) dX3_rule_44 (fun H locs hP hD hS => ?_)
            have hP : va_P D vwCl (fk_wx cJ cC cK ad kd (nI n) lo ch ts f1 f2 f3 f4 f5 ++ ((tl.set (kp j) ((ka j), .inr (2, [.int (nI (kf j).1), .int ((kf j).2.1), .long ((kf j).2.2.1), .long ((kf j).2.2.2.1), .long ((kf j).2.2.2.2.1), .int ov, .int ((kf j).2.2.2.2.2.2)]))).set (kp j) ((ka j), .inr (2, [.int (nI (kf j).1), .int ((kf j).2.1), .long ((kf j).2.2.1), .long ((kf j).2.2.2.1), .long ((kf j).2.2.2.2.1), .int ov, .int rd])))) H := hP
            have hD : va_D A (fk_wx cJ cC cK ad kd (nI n) lo ch ts f1 f2 f3 f4 f5 ++ ((tl.set (kp j) ((ka j), .inr (2, [.int (nI (kf j).1), .int ((kf j).2.1), .long ((kf j).2.2.1), .long ((kf j).2.2.2.1), .long ((kf j).2.2.2.2.1), .int ov, .int ((kf j).2.2.2.2.2.2)]))).set (kp j) ((ka j), .inr (2, [.int (nI (kf j).1), .int ((kf j).2.1), .long ((kf j).2.2.1), .long ((kf j).2.2.2.1), .long ((kf j).2.2.2.2.1), .int ov, .int rd])))) := hD
            rw [fk_s2] at hP hD
            refine lv_iconst (v := 1) hx hb dX3_rule_47 (by decide) ?_
            rw [hQQ]
            exact W.iret (v := 1) hx hb hr (fun t ht hW => ⟨⟨1, (tl.set (kp j) ((ka j), .inr (2, [.int (nI (kf j).1), .int ((kf j).2.1), .long ((kf j).2.2.1), .long ((kf j).2.2.2.1), .long ((kf j).2.2.2.2.1), .int ov, .int rd]))), rfl, Or.inr (Or.inr ⟨j, hj, rfl, (fun q => by rcases q with q | q | q | q <;> omega), rfl, rfl⟩), by rw [ht]; exact hP, va_K.moved hW.alike hK, hD⟩, hS.F ht⟩) hS.2.2 dX3_rule_48
          · rw [Int32.le_iff_toInt_le, show (3 : Int32).toInt = 3 by decide] at c_29
            refine lv_bipush (v := (-2)) hx hb dX3_rule_32 (by decide) ?_
            rw [hQQ]
            exact W.iret (v := (-2)) hx hb hr (fun t ht hW => ⟨⟨(-2), tl, rfl, Or.inr (Or.inl ⟨fk_no_j hj hn40, Or.inr (Or.inr (Or.inr (by omega))), rfl, rfl⟩), by rw [ht]; exact hP, va_K.moved hW.alike hK, hD⟩, hS.F ht⟩) hS.2.2 dX3_rule_34
abbrev rmX3_kind : Room := { frames := 2, cells := 1, slots := 7, locals := 48 }
set_option maxHeartbeats 4000000 in
set_option maxRecDepth 100000 in
/-- kind -/
theorem kX3_kind {l : Launch} {D : va_G} {cJ cC cI cZ cK : ClassId} (sz : Nat) (ad : Nat → Nat) (tl : va_W) (kd : Nat → Option Nat) (lo : Int32) (ch : Nat → Int32) (ts : Int32) (f1 f2 f3 f4 f5 : Nat → Int64) (n : Nat) (kf : Nat → fk_K) (ka kp : Nat → Nat) (w0 sg : Int32) (up dn of : Int64) (hKT : fk_KT n kf kd ka kp tl) (hsg : sg = 0 ∨ sg = 1) : Met l yX3_kind wsX3_kind rmX3_kind (va_Pc [.ref (ad 0), .int w0, .int sg, .long up, .long dn, .long of] (fk_pre D (fk_ty cJ cC cI cZ cK) (fk_wx cJ cC cK ad kd (nI n) lo ch ts f1 f2 f3 f4 f5 ++ tl) sz)) (va_Qi (fun (r : Int32) (u : (Nat → Option Nat) × Nat × va_W) => (fk_badK w0 sg up dn of ∧ r = -2 ∧ u = (kd, n, tl)) ∨ (¬ fk_badK w0 sg up dn of ∧ n = 40 ∧ r = -4 ∧ u = (kd, n, tl)) ∨ (¬ fk_badK w0 sg up dn of ∧ n < 40 ∧ up = 0 ∧ r = 0 ∧ u = (kd, n, tl)) ∨ (¬ fk_badK w0 sg up dn of ∧ n < 40 ∧ up ≠ 0 ∧ r = nI (n + 1) ∧ ∃ q : Nat, u = (va_up kd n (some q), n + 1, tl ++ [(q, fk_ke (fk_mkK w0 sg up dn of))]))) (fk_Bd D (fk_ty cJ cC cI cZ cK) (va_A (fk_wx cJ cC cK ad kd (nI n) lo ch ts f1 f2 f3 f4 f5 ++ tl) sz) (fun u : (Nat → Option Nat) × Nat × va_W => fk_wx cJ cC cK ad u.1 (nI u.2.1) lo ch ts f1 f2 f3 f4 f5 ++ u.2.2)) (va_A (fk_wx cJ cC cK ad kd (nI n) lo ch ts f1 f2 f3 f4 f5 ++ tl) sz)) 1 7 (va_A (fk_wx cJ cC cK ad kd (nI n) lo ch ts f1 f2 f3 f4 f5 ++ tl) sz) := by
  refine fk_ofW cX3_kind 9 (some .int) (fun A => va_Qi (fun (r : Int32) (u : (Nat → Option Nat) × Nat × va_W) => (fk_badK w0 sg up dn of ∧ r = -2 ∧ u = (kd, n, tl)) ∨ (¬ fk_badK w0 sg up dn of ∧ n = 40 ∧ r = -4 ∧ u = (kd, n, tl)) ∨ (¬ fk_badK w0 sg up dn of ∧ n < 40 ∧ up = 0 ∧ r = 0 ∧ u = (kd, n, tl)) ∨ (¬ fk_badK w0 sg up dn of ∧ n < 40 ∧ up ≠ 0 ∧ r = nI (n + 1) ∧ ∃ q : Nat, u = (va_up kd n (some q), n + 1, tl ++ [(q, fk_ke (fk_mkK w0 sg up dn of))]))) (fk_Bd D (fk_ty cJ cC cI cZ cK) A (fun u : (Nat → Option Nat) × Nat × va_W => fk_wx cJ cC cK ad u.1 (nI u.2.1) lo ch ts f1 f2 f3 f4 f5 ++ u.2.2)) A) rfl (by decide) (Nat.le_of_ble_eq_true rfl) ?_
  intro p e s m below meth c A ls args QQ hQQ hAt hP hK hN hD hA hS hl
  obtain ⟨⟨hx, hb, hml, hown, hts⟩, hr, hlocks, hin⟩ := hAt
  have hl : lv_has ls 9 [(0, .ref (ad 0)), (1, .int w0), (2, .int sg), (3, .long up), (5, .long dn), (7, .long of)] := hl
  have k1 := hts (.fieldLink RX3 15 "FixedKinds" "kindCount" "I") (by decide +kernel)
  have k2 := (by decide +kernel : ∀ w ∈ u_ws RX3 TX3 8, w ∈ wsX3_kind)
  have k3 := hts (.fieldLink RX3 11 "FixedKinds" "kinds" "[LFixedKinds$Kind;") (by decide +kernel)
  have k4 := (by decide +kernel : ∀ w ∈ u_ws RX1 TX1 7, w ∈ wsX3_kind)
  have k5 := hts (.classLink RX3 9 RX1) (by decide +kernel)
  have k6 := hts (.instantiable RX1 7) (by decide +kernel)
  have k7 := hts (.initialized RX1) (by decide +kernel)
  have k8 := hN _ fkn_X3_59
  have k9 := hts (.instanceMethod yX1_init) (by decide +kernel)
  have hn40 := hKT.1
  refine lv_iload_n hx hb dX3_kind_0 rfl (lv_at hl 1 rfl) ?_
  refine lv_iload_n hx hb dX3_kind_1 rfl (lv_at hl 2 rfl) ?_
  refine fk_ci hD hS hA (va_runS (As := [.int w0, .int sg]) (rest := []) ⟨hx, hb, hml, hown, hts⟩ (kX3_isWidth _ _ w0 sg) (va_cwS 2 hts gX3_kind_X3_isWidth rfl rfl rfl (by decide +kernel) ⟨Nat.le_of_ble_eq_true rfl, Nat.le_of_ble_eq_true rfl⟩) (fk_preS hK hN hP hD) rfl rfl hl.1 rfl (lv_room (Nat.le_of_ble_eq_true rfl)) dX3_kind_2 ⟨Nat.le_of_ble_eq_true rfl, Nat.le_of_ble_eq_true rfl⟩) (fun r1 u H locs hw hP hD hS => ?_)
  have hP : va_P D vwCl (fk_wx cJ cC cK ad kd (nI n) lo ch ts f1 f2 f3 f4 f5 ++ tl) H := hP
  have hD : va_D A (fk_wx cJ cC cK ad kd (nI n) lo ch ts f1 f2 f3 f4 f5 ++ tl) := hD
  have z1 := hw
  refine lv_if_eq (tgt := 25) hx hb dX3_kind_5 (by decide) (fun c_5 => ?_) (fun c_5 => ?_)
  · have p_c_5 : ¬ (8 ≤ w0.toInt ∧ w0.toInt ≤ 64 ∧ (sg = 0 → w0.toInt ≤ 63)) := by intro q; rw [z1, if_pos q] at c_5; exact absurd c_5 (by decide)
    have hbad : fk_badK w0 sg up dn of := fun q => p_c_5 q.1
    refine lv_bipush (v := (-2)) hx hb dX3_kind_25 (by decide) ?_
    rw [hQQ]
    refine W.widen (k := 1) (n := 7) (by omega) (by omega) ?_
    exact W.iret (v := (-2)) hx hb hr (fun t ht hW => ⟨⟨(-2), (kd, n, tl), rfl, Or.inl ⟨hbad, rfl, rfl⟩, by rw [ht]; exact hP, va_K.moved hW.alike hK, hD⟩, hS.F ht⟩) hS.2.2 dX3_kind_27
  · have p_c_5 : 8 ≤ w0.toInt ∧ w0.toInt ≤ 64 ∧ (sg = 0 → w0.toInt ≤ 63) := by by_cases q : 8 ≤ w0.toInt ∧ w0.toInt ≤ 64 ∧ (sg = 0 → w0.toInt ≤ 63); exact q; rw [z1, if_neg q] at c_5; exact absurd rfl c_5
    refine lv_lload_n hx hb dX3_kind_8 rfl (lv_at hl 3 rfl) ?_
    refine lv_lload hx hb dX3_kind_9 (lv_at hl 4 rfl) ?_
    refine fk_ci hD hS hA (va_runS (As := [.long up, .long dn]) (rest := []) ⟨hx, hb, hml, hown, hts⟩ (kX3_isSlope _ _ up dn) (va_cwS 2 hts gX3_kind_X3_isSlope rfl rfl rfl (by decide +kernel) ⟨Nat.le_of_ble_eq_true rfl, Nat.le_of_ble_eq_true rfl⟩) (fk_preS hK hN hP hD) rfl rfl hl.1 rfl (lv_room (Nat.le_of_ble_eq_true rfl)) dX3_kind_11 ⟨Nat.le_of_ble_eq_true rfl, Nat.le_of_ble_eq_true rfl⟩) (fun r2 u H locs hw hP hD hS => ?_)
    have hP : va_P D vwCl (fk_wx cJ cC cK ad kd (nI n) lo ch ts f1 f2 f3 f4 f5 ++ tl) H := hP
    have hD : va_D A (fk_wx cJ cC cK ad kd (nI n) lo ch ts f1 f2 f3 f4 f5 ++ tl) := hD
    have z2 := hw
    refine lv_if_eq (tgt := 25) hx hb dX3_kind_14 (by decide) (fun c_14 => ?_) (fun c_14 => ?_)
    · have p_c_14 : ¬ ((0 ≤ up.toInt ∧ up.toInt ≤ 1000) ∧ 1 ≤ dn.toInt ∧ dn.toInt ≤ 1000) := by intro q; rw [z2, if_pos q] at c_14; exact absurd c_14 (by decide)
      have hbad : fk_badK w0 sg up dn of := fun q => p_c_14 q.2.1
      refine lv_bipush (v := (-2)) hx hb dX3_kind_25 (by decide) ?_
      rw [hQQ]
      refine W.widen (k := 1) (n := 7) (by omega) (by omega) ?_
      exact W.iret (v := (-2)) hx hb hr (fun t ht hW => ⟨⟨(-2), (kd, n, tl), rfl, Or.inl ⟨hbad, rfl, rfl⟩, by rw [ht]; exact hP, va_K.moved hW.alike hK, hD⟩, hS.F ht⟩) hS.2.2 dX3_kind_27
    · have p_c_14 : (0 ≤ up.toInt ∧ up.toInt ≤ 1000) ∧ 1 ≤ dn.toInt ∧ dn.toInt ≤ 1000 := by by_cases q : (0 ≤ up.toInt ∧ up.toInt ≤ 1000) ∧ 1 ≤ dn.toInt ∧ dn.toInt ≤ 1000; exact q; rw [z2, if_neg q] at c_14; exact absurd rfl c_14
      refine lv_lload hx hb dX3_kind_17 (lv_at hl 5 rfl) ?_
      refine fk_ci hD hS hA (va_runS (As := [.long of]) (rest := []) ⟨hx, hb, hml, hown, hts⟩ (kX3_isOffset _ _ of) (va_cwS 1 hts gX3_kind_X3_isOffset rfl rfl rfl (by decide +kernel) ⟨Nat.le_of_ble_eq_true rfl, Nat.le_of_ble_eq_true rfl⟩) (fk_preS hK hN hP hD) rfl rfl hl.1 rfl (lv_room (Nat.le_of_ble_eq_true rfl)) dX3_kind_19 ⟨Nat.le_of_ble_eq_true rfl, Nat.le_of_ble_eq_true rfl⟩) (fun r3 u H locs hw hP hD hS => ?_)
      have hP : va_P D vwCl (fk_wx cJ cC cK ad kd (nI n) lo ch ts f1 f2 f3 f4 f5 ++ tl) H := hP
      have hD : va_D A (fk_wx cJ cC cK ad kd (nI n) lo ch ts f1 f2 f3 f4 f5 ++ tl) := hD
      have z3 := hw
      refine lv_if_ne (tgt := 28) hx hb dX3_kind_22 (by decide) (fun c_22 => ?_) (fun c_22 => ?_)
      · have p_c_22 : -1000000 ≤ of.toInt ∧ of.toInt ≤ 1000000 := by by_cases q : -1000000 ≤ of.toInt ∧ of.toInt ≤ 1000000; exact q; rw [z3, if_neg q] at c_22; exact absurd rfl c_22
        have hgood : ¬ fk_badK w0 sg up dn of := fun q => q ⟨p_c_5, p_c_14, p_c_22⟩
        refine lv_aload_n hx hb dX3_kind_28 rfl (lv_at hl 0 rfl) ?_
        refine va_get (D := D) (ci := 4) (v := .int (nI n)) (C := RX3) (T := TX3) (N := 8) hx hb hts k2 hown hK hP 0 rfl rfl 1 (by decide) k1 (fun _ h9 => h9) rfl dX3_kind_29 ?_
        refine lv_if_lt (tgt := 44) hx hb dX3_kind_32 (by decide) (fun c_32 => False.elim (nI_pos (n := n) (by omega) c_32)) (fun c_32 => ?_)
        refine lv_aload_n hx hb dX3_kind_35 rfl (lv_at hl 0 rfl) ?_
        refine va_get (D := D) (ci := 4) (v := .int (nI n)) (C := RX3) (T := TX3) (N := 8) hx hb hts k2 hown hK hP 0 rfl rfl 1 (by decide) k1 (fun _ h9 => h9) rfl dX3_kind_36 ?_
        refine lv_bipush (v := 40) hx hb dX3_kind_39 (by decide) ?_
        refine lv_icmp_lt (tgt := 47) hx hb dX3_kind_41 (by decide) (fun c_41 => ?_) (fun c_41 => ?_)
        · rw [Int32.lt_iff_toInt_lt, nI_toInt (by omega), show (40 : Int32).toInt = 40 by decide] at c_41
          refine lv_lload_n hx hb dX3_kind_47 rfl (lv_at hl 3 rfl) ?_
          refine lv_lconst (v := 0) hx hb dX3_kind_48 (by decide) ?_
          refine W.lcmp hx hb dX3_kind_49 ?_
          refine lv_if_ne (tgt := 55) hx hb dX3_kind_50 (by decide) (fun c_50 => ?_) (fun c_50 => ?_)
          · rw [lg_cmp_eq] at c_50
            have hu1 : 1 ≤ up.toInt := by have q : up.toInt ≠ 0 := fun q => c_50 (Int64.toInt_inj.mp (by rw [q]; decide)); omega
            refine lv_aload_n hx hb dX3_kind_55 rfl (lv_at hl 0 rfl) ?_
            refine va_get (D := D) (ci := 4) (v := .ref (ad 1)) (C := RX3) (T := TX3) (N := 8) hx hb hts k2 hown hK hP 0 rfl rfl 0 (by decide) k3 (fun _ h9 => h9) rfl dX3_kind_56 ?_
            refine lv_aload_n hx hb dX3_kind_59 rfl (lv_at hl 0 rfl) ?_
            refine va_get (D := D) (ci := 4) (v := .int (nI n)) (C := RX3) (T := TX3) (N := 8) hx hb hts k2 hown hK hP 0 rfl rfl 1 (by decide) k1 (fun _ h9 => h9) rfl dX3_kind_60 ?_
            refine va_new (ci := 2) (fs := [.int 0, .int 0, .long 0, .long 0, .long 0, .int 0, .int 0]) (C := RX1) (T := TX1) (N := 7) hx hb hts k4 tyX1 tyX1_ok hown k5 k6 k7 hK hP hD hS hA rfl (fun j hj => by rcases (show j = 0 ∨ j = 1 ∨ j = 2 ∨ j = 3 ∨ j = 4 ∨ j = 5 ∨ j = 6 by omega) with rfl | rfl | rfl | rfl | rfl | rfl | rfl <;> rfl) (Nat.le_of_ble_eq_true rfl) (Nat.le_of_ble_eq_true rfl) dX3_kind_63 (fun q4 H hP hD hS => ?_)
            have hP : va_P D vwCl (fk_wx cJ cC cK ad kd (nI n) lo ch ts f1 f2 f3 f4 f5 ++ (tl ++ [(q4, .inr (2, [.int 0, .int 0, .long 0, .long 0, .long 0, .int 0, .int 0]))])) H := hP
            have hD : va_D A (fk_wx cJ cC cK ad kd (nI n) lo ch ts f1 f2 f3 f4 f5 ++ (tl ++ [(q4, .inr (2, [.int 0, .int 0, .long 0, .long 0, .long 0, .int 0, .int 0]))])) := hD
            refine lv_dup hx hb dX3_kind_66 rfl ?_
            refine lv_iload_n hx hb dX3_kind_67 rfl (lv_at hl 1 rfl) ?_
            refine lv_iload_n hx hb dX3_kind_68 rfl (lv_at hl 2 rfl) ?_
            refine lv_lload_n hx hb dX3_kind_69 rfl (lv_at hl 3 rfl) ?_
            refine lv_lload hx hb dX3_kind_70 (lv_at hl 4 rfl) ?_
            refine lv_lload hx hb dX3_kind_72 (lv_at hl 5 rfl) ?_
            refine fk_cv hD hS hA (va_runIN (As := [.int w0, .int sg, .long up, .long dn, .long of]) (rest := [.ref q4, .int (nI n), .ref (ad 1)]) ⟨hx, hb, hml, hown, hts⟩ (kX1_init _ _ q4 (tl.length + 15) w0 sg up dn of (fk_tl (fk_lastg tl _)) hsg) ⟨va_cnB 5 hts gX3_kind_X1_init_n59 rfl rfl rfl k8 k7 (by decide +kernel) ⟨Nat.le_of_ble_eq_true rfl, Nat.le_of_ble_eq_true rfl⟩, rfl, k9⟩ (fk_preS hK hN hP hD) rfl rfl hl.1 rfl (lv_room (Nat.le_of_ble_eq_true rfl)) dX3_kind_74 ⟨Nat.le_of_ble_eq_true rfl, Nat.le_of_ble_eq_true rfl⟩) (fun u H locs hw hP hD hS => ?_)
            have hP : va_P D vwCl (fk_wx cJ cC cK ad kd (nI n) lo ch ts f1 f2 f3 f4 f5 ++ (((tl ++ [(q4, .inr (2, [.int 0, .int 0, .long 0, .long 0, .long 0, .int 0, .int 0]))]) : va_W).set tl.length (q4, .inr (2, [.int w0, .int sg, .long up, .long dn, .long of, .int 0, .int 0])))) H := hP
            have hD : va_D A (fk_wx cJ cC cK ad kd (nI n) lo ch ts f1 f2 f3 f4 f5 ++ (((tl ++ [(q4, .inr (2, [.int 0, .int 0, .long 0, .long 0, .long 0, .int 0, .int 0]))]) : va_W).set tl.length (q4, .inr (2, [.int w0, .int sg, .long up, .long dn, .long of, .int 0, .int 0])))) := hD
            rw [fk_setl] at hP hD
            have hP : va_P D vwCl (fk_wx cJ cC cK ad kd (nI n) lo ch ts f1 f2 f3 f4 f5 ++ (tl ++ [(q4, .inr (2, [.int w0, .int sg, .long up, .long dn, .long of, .int 0, .int 0]))])) H := hP
            have hD : va_D A (fk_wx cJ cC cK ad kd (nI n) lo ch ts f1 f2 f3 f4 f5 ++ (tl ++ [(q4, .inr (2, [.int w0, .int sg, .long up, .long dn, .long of, .int 0, .int 0]))])) := hD
            refine va_astq hx hb hK hP hD hS 1 4 (tl.length + 15) 2 (r := (RX1, TX1, 7)) rfl rfl (fk_tl (fk_lastg tl _)) rfl (vp_in_nI (n := n) (N := 40) (by omega) (by omega)) dX3_kind_77 (fun H locs hP hD hS => ?_)
            rw [nI_clamp (by omega)] at hP hD
            have hP : va_P D vwCl (fk_wx cJ cC cK ad (va_up kd n (some q4)) (nI n) lo ch ts f1 f2 f3 f4 f5 ++ (tl ++ [(q4, .inr (2, [.int w0, .int sg, .long up, .long dn, .long of, .int 0, .int 0]))])) H := hP
            have hD : va_D A (fk_wx cJ cC cK ad (va_up kd n (some q4)) (nI n) lo ch ts f1 f2 f3 f4 f5 ++ (tl ++ [(q4, .inr (2, [.int w0, .int sg, .long up, .long dn, .long of, .int 0, .int 0]))])) := hD
            refine lv_aload_n hx hb dX3_kind_78 rfl (lv_at hl 0 rfl) ?_
            refine lv_dup hx hb dX3_kind_79 rfl ?_
            refine va_get (D := D) (ci := 4) (v := .int (nI n)) (C := RX3) (T := TX3) (N := 8) hx hb hts k2 hown hK hP 0 rfl rfl 1 (by decide) k1 (fun _ h9 => h9) rfl dX3_kind_80 ?_
            refine lv_iconst (v := 1) hx hb dX3_kind_83 (by decide) ?_
            refine lv_iadd hx hb dX3_kind_84 ?_
            refine lv_topi (fun x6 ex6 => ?_)
            have ex6q : x6 = nI (n + 1) := by
              rw [ex6]; exact nI_1 n
            subst ex6q
            refine va_put (D := D) (ci := 4) (v := .int (nI (n + 1))) (ty := (.int)) (C := RX3) (T := TX3) (N := 8) hx hb hts k2 tyX3 tyX3_ok nmX3 hown hK hP hD hS 0 rfl rfl 1 (by decide) k1 (fun _ h9 => h9) rfl (by decide +kernel) rfl rfl (Nat.le_of_ble_eq_true rfl) dX3_kind_85 (fun H locs hP hD hS => ?_)
            have hP : va_P D vwCl (fk_wx cJ cC cK ad (va_up kd n (some q4)) (nI (n + 1)) lo ch ts f1 f2 f3 f4 f5 ++ (tl ++ [(q4, .inr (2, [.int w0, .int sg, .long up, .long dn, .long of, .int 0, .int 0]))])) H := hP
            have hD : va_D A (fk_wx cJ cC cK ad (va_up kd n (some q4)) (nI (n + 1)) lo ch ts f1 f2 f3 f4 f5 ++ (tl ++ [(q4, .inr (2, [.int w0, .int sg, .long up, .long dn, .long of, .int 0, .int 0]))])) := hD
            refine lv_aload_n hx hb dX3_kind_88 rfl (lv_at hl 0 rfl) ?_
            refine va_get (D := D) (ci := 4) (v := .int (nI (n + 1))) (C := RX3) (T := TX3) (N := 8) hx hb hts k2 hown hK hP 0 rfl rfl 1 (by decide) k1 (fun _ h9 => h9) rfl dX3_kind_89 ?_
            have hw0 : w0 = nI w0.toInt.toNat := by apply Int32.toInt_inj.mp; rw [nI_toInt (by omega)]; omega
            rw [hw0] at hP hD
            rw [hQQ]
            exact W.iret (v := nI (n + 1)) hx hb hr (fun t ht hW => ⟨⟨(nI (n + 1)), (va_up kd n (some q4), n + 1, tl ++ [(q4, fk_ke (fk_mkK w0 sg up dn of))]), rfl, Or.inr (Or.inr (Or.inr ⟨hgood, by omega, c_50, rfl, q4, rfl⟩)), by rw [ht]; exact hP, va_K.moved hW.alike hK, hD⟩, hS.F ht⟩) hS.2.2 dX3_kind_92
          · rw [lg_cmp_eq] at c_50
            refine lv_iconst (v := 0) hx hb dX3_kind_53 (by decide) ?_
            rw [hQQ]
            refine W.widen (k := 1) (n := 7) (by omega) (by omega) ?_
            exact W.iret (v := 0) hx hb hr (fun t ht hW => ⟨⟨0, (kd, n, tl), rfl, Or.inr (Or.inr (Or.inl ⟨hgood, by omega, c_50, rfl, rfl⟩)), by rw [ht]; exact hP, va_K.moved hW.alike hK, hD⟩, hS.F ht⟩) hS.2.2 dX3_kind_54
        · rw [Int32.lt_iff_toInt_lt, nI_toInt (by omega), show (40 : Int32).toInt = 40 by decide] at c_41
          refine lv_bipush (v := (-4)) hx hb dX3_kind_44 (by decide) ?_
          rw [hQQ]
          refine W.widen (k := 1) (n := 7) (by omega) (by omega) ?_
          exact W.iret (v := (-4)) hx hb hr (fun t ht hW => ⟨⟨(-4), (kd, n, tl), rfl, Or.inr (Or.inl ⟨hgood, by omega, rfl, rfl⟩), by rw [ht]; exact hP, va_K.moved hW.alike hK, hD⟩, hS.F ht⟩) hS.2.2 dX3_kind_46
      · have p_c_22 : ¬ (-1000000 ≤ of.toInt ∧ of.toInt ≤ 1000000) := by intro q; rw [z3, if_pos q] at c_22; exact absurd c_22 (by decide)
        have hbad : fk_badK w0 sg up dn of := fun q => p_c_22 q.2.2
        refine lv_bipush (v := (-2)) hx hb dX3_kind_25 (by decide) ?_
        rw [hQQ]
        refine W.widen (k := 1) (n := 7) (by omega) (by omega) ?_
        exact W.iret (v := (-2)) hx hb hr (fun t ht hW => ⟨⟨(-2), (kd, n, tl), rfl, Or.inl ⟨hbad, rfl, rfl⟩, by rw [ht]; exact hP, va_K.moved hW.alike hK, hD⟩, hS.F ht⟩) hS.2.2 dX3_kind_27
