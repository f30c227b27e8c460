/-! FixedKinds: writeBefore, writeDigit, writePlaces, by program -/
abbrev rmX3_writeBefore : Room := { frames := 0, cells := 0, slots := 0, locals := 0 }
set_option maxHeartbeats 4000000 in
set_option maxRecDepth 100000 in
/-- writeBefore -/
theorem kX3_writeBefore {l : Launch} {D : va_G} {cJ cC cI cZ cK : ClassId} (sz : Nat) (ad : Nat → Nat) (tl : va_W) (kd : Nat → Option Nat) (kc lo : Int32) (ch : Nat → Int32) (f1 f2 f3 f4 f5 : Nat → Int64) (t0 : Nat) (L : List Int32) (c0 : Int32) (hT : fk_Tx L ch t0) (ht0 : 0 < t0) (hc : vp_nar .char c0 = c0) : Met l yX3_writeBefore wsX3_writeBefore rmX3_writeBefore (va_Pc [.ref (ad 0), .int c0] (fk_pre D (fk_ty cJ cC cI cZ cK) (fk_wx cJ cC cK ad kd kc lo ch (nI t0) f1 f2 f3 f4 f5 ++ tl) sz)) (va_Qv (fun u : Nat → Int32 => fk_Tx (L ++ [c0]) u (t0 - 1)) (fk_Bd D (fk_ty cJ cC cI cZ cK) (va_A (fk_wx cJ cC cK ad kd kc lo ch (nI t0) f1 f2 f3 f4 f5 ++ tl) sz) (fun u : Nat → Int32 => fk_wx cJ cC cK ad kd kc lo u (nI (t0 - 1)) f1 f2 f3 f4 f5 ++ tl)) (va_A (fk_wx cJ cC cK ad kd kc lo ch (nI t0) f1 f2 f3 f4 f5 ++ tl) sz)) 0 0 (va_A (fk_wx cJ cC cK ad kd kc lo ch (nI t0) f1 f2 f3 f4 f5 ++ tl) sz) := by
  refine fk_ofW cX3_writeBefore 2 none (fun A => va_Qv (fun u : Nat → Int32 => fk_Tx (L ++ [c0]) u (t0 - 1)) (fk_Bd D (fk_ty cJ cC cI cZ cK) A (fun u : Nat → Int32 => fk_wx cJ cC cK ad kd kc lo u (nI (t0 - 1)) f1 f2 f3 f4 f5 ++ tl)) A) rfl (by decide) (Nat.le_of_ble_eq_true rfl) ?_
  intro p e s m below meth c A ls args QQ hQQ hAt hP hK hN hD hA hS hl
  obtain ⟨⟨hx, hb, hml, hown, hts⟩, hr, hlocks, hin⟩ := hAt
  have hl : lv_has ls 2 [(0, .ref (ad 0)), (1, .int c0)] := hl
  have k1 := hts (.fieldLink RX3 27 "FixedKinds" "textStart" "I") (by decide +kernel)
  have k2 := (by decide +kernel : ∀ w ∈ u_ws RX3 TX3 8, w ∈ wsX3_writeBefore)
  have k3 := hts (.fieldLink RX3 23 "FixedKinds" "characters" "[C") (by decide +kernel)
  refine lv_aload_n hx hb dX3_writeBefore_0 rfl (lv_at hl 0 rfl) ?_
  refine va_get (D := D) (ci := 4) (v := .int (nI t0)) (C := RX3) (T := TX3) (N := 8) hx hb hts k2 hown hK hP 0 rfl rfl 4 (by decide) k1 (fun _ h9 => h9) rfl dX3_writeBefore_1 ?_
  refine lv_if_le (tgt := 36) hx hb dX3_writeBefore_4 (by decide) (fun c_4 => False.elim (nI_nle (n := t0) ht0 (by have := hT.1; omega) c_4)) (fun c_4 => ?_)
  refine lv_aload_n hx hb dX3_writeBefore_7 rfl (lv_at hl 0 rfl) ?_
  refine va_get (D := D) (ci := 4) (v := .int (nI t0)) (C := RX3) (T := TX3) (N := 8) hx hb hts k2 hown hK hP 0 rfl rfl 4 (by decide) k1 (fun _ h9 => h9) rfl dX3_writeBefore_8 ?_
  refine lv_bipush (v := 40) hx hb dX3_writeBefore_11 (by decide) ?_
  refine lv_icmp_gt (tgt := 36) hx hb dX3_writeBefore_13 (by decide) (fun c_13 => False.elim (by have q := (nI_ltI (a := 40) (b := t0) (by omega) (by have := hT.1; omega)).mp c_13; have := hT.1; omega)) (fun c_13 => ?_)
  refine lv_aload_n hx hb dX3_writeBefore_16 rfl (lv_at hl 0 rfl) ?_
  refine lv_dup hx hb dX3_writeBefore_17 rfl ?_
  refine va_get (D := D) (ci := 4) (v := .int (nI t0)) (C := RX3) (T := TX3) (N := 8) hx hb hts k2 hown hK hP 0 rfl rfl 4 (by decide) k1 (fun _ h9 => h9) rfl dX3_writeBefore_18 ?_
  refine lv_iconst (v := 1) hx hb dX3_writeBefore_21 (by decide) ?_
  refine lv_isub hx hb dX3_writeBefore_22 ?_
  refine lv_topi (fun x1 ex1 => ?_)
  have ex1q : x1 = nI (t0 - 1) := by
    rw [ex1]; exact pk_sub (a := t0) (b := 1) (by omega)
  subst ex1q
  refine va_put (D := D) (ci := 4) (v := .int (nI (t0 - 1))) (ty := (.int)) (C := RX3) (T := TX3) (N := 8) hx hb hts k2 tyX3 tyX3_ok nmX3 hown hK hP hD hS 0 rfl rfl 4 (by decide) k1 (fun _ h9 => h9) rfl (by decide +kernel) rfl rfl (Nat.le_of_ble_eq_true rfl) dX3_writeBefore_23 (fun H locs hP hD hS => ?_)
  have hP : va_P D vwCl (fk_wx cJ cC cK ad kd kc lo ch (nI (t0 - 1)) f1 f2 f3 f4 f5 ++ tl) H := hP
  have hD : va_D A (fk_wx cJ cC cK ad kd kc lo ch (nI (t0 - 1)) f1 f2 f3 f4 f5 ++ tl) := hD
  refine lv_aload_n hx hb dX3_writeBefore_26 rfl (lv_at hl 0 rfl) ?_
  refine va_get (D := D) (ci := 4) (v := .ref (ad 2)) (C := RX3) (T := TX3) (N := 8) hx hb hts k2 hown hK hP 0 rfl rfl 3 (by decide) k3 (fun _ h9 => h9) rfl dX3_writeBefore_27 ?_
  refine lv_aload_n hx hb dX3_writeBefore_30 rfl (lv_at hl 0 rfl) ?_
  refine va_get (D := D) (ci := 4) (v := .int (nI (t0 - 1))) (C := RX3) (T := TX3) (N := 8) hx hb hts k2 hown hK hP 0 rfl rfl 4 (by decide) k1 (fun _ h9 => h9) rfl dX3_writeBefore_31 ?_
  refine lv_iload_n hx hb dX3_writeBefore_34 rfl (lv_at hl 1 rfl) ?_
  refine fk_cast hx hb hK hP hD hS 2 1 rfl rfl (i := t0 - 1) (by have := hT.1; omega) (by decide) dX3_writeBefore_35 (fun H locs hP hD hS => ?_)
  have hP : va_P D vwCl (fk_wx cJ cC cK ad kd kc lo (upd ch (t0 - 1) (vp_nar .char c0)) (nI (t0 - 1)) f1 f2 f3 f4 f5 ++ tl) H := hP
  have hD : va_D A (fk_wx cJ cC cK ad kd kc lo (upd ch (t0 - 1) (vp_nar .char c0)) (nI (t0 - 1)) f1 f2 f3 f4 f5 ++ tl) := hD
  rw [hQQ]
  exact W.vret hx hb hr (fun t ht hW => ⟨⟨upd ch (t0 - 1) (vp_nar .char c0), rfl, (by rw [hc]; exact fk_Tx_add c0 hT ht0), by rw [ht]; exact hP, va_K.moved hW.alike hK, hD⟩, hS.F ht⟩) hS.2.2 dX3_writeBefore_36
abbrev rmX3_writeDigit : Room := { frames := 1, cells := 0, slots := 0, locals := 21 }
set_option maxHeartbeats 4000000 in
set_option maxRecDepth 100000 in
/-- writeDigit -/
theorem kX3_writeDigit {l : Launch} {D : va_G} {cJ cC cI cZ cK : ClassId} (sz : Nat) (ad : Nat → Nat) (tl : va_W) (kd : Nat → Option Nat) (kc lo : Int32) (ch : Nat → Int32) (f1 f2 f3 f4 f5 : Nat → Int64) (t0 : Nat) (L : List Int32) (d : Int64) (M0 : Int) (hT : fk_Tx L ch t0) (ht0 : 0 < t0) (hd : d.toInt = M0 % 10) : Met l yX3_writeDigit wsX3_writeDigit rmX3_writeDigit (va_Pc [.ref (ad 0), .long d] (fk_pre D (fk_ty cJ cC cI cZ cK) (fk_wx cJ cC cK ad kd kc lo ch (nI t0) f1 f2 f3 f4 f5 ++ tl) sz)) (va_Qv (fun u : Nat → Int32 => fk_Tx (L ++ [fk_dc M0]) u (t0 - 1)) (fk_Bd D (fk_ty cJ cC cI cZ cK) (va_A (fk_wx cJ cC cK ad kd kc lo ch (nI t0) f1 f2 f3 f4 f5 ++ tl) sz) (fun u : Nat → Int32 => fk_wx cJ cC cK ad kd kc lo u (nI (t0 - 1)) f1 f2 f3 f4 f5 ++ tl)) (va_A (fk_wx cJ cC cK ad kd kc lo ch (nI t0) f1 f2 f3 f4 f5 ++ tl) sz)) 0 0 (va_A (fk_wx cJ cC cK ad kd kc lo ch (nI t0) f1 f2 f3 f4 f5 ++ tl) sz) := by
  refine fk_ofW cX3_writeDigit 3 none (fun A => va_Qv (fun u : Nat → Int32 => fk_Tx (L ++ [fk_dc M0]) u (t0 - 1)) (fk_Bd D (fk_ty cJ cC cI cZ cK) A (fun u : Nat → Int32 => fk_wx cJ cC cK ad kd kc lo u (nI (t0 - 1)) f1 f2 f3 f4 f5 ++ tl)) A) rfl (by decide) (Nat.le_of_ble_eq_true rfl) ?_
  intro p e s m below meth c A ls args QQ hQQ hAt hP hK hN hD hA hS hl
  obtain ⟨⟨hx, hb, hml, hown, hts⟩, hr, hlocks, hin⟩ := hAt
  have hl : lv_has ls 3 [(0, .ref (ad 0)), (1, .long d)] := hl
  have k1 := hts (.constantLong RX3 196 48) (by decide +kernel)
  refine lv_aload_n hx hb dX3_writeDigit_0 rfl (lv_at hl 0 rfl) ?_
  refine lv_ldc2 (v := 48) hx hb hown k1 dX3_writeDigit_1 ?_
  refine lv_lload_n hx hb dX3_writeDigit_4 rfl (lv_at hl 1 rfl) ?_
  refine lv_ladd hx hb dX3_writeDigit_5 ?_
  refine lv_topl (fun x1 ex1 => ?_)
  refine lv_l2i hx hb dX3_writeDigit_6 rfl ?_
  refine lv_topi (fun x2 ex2 => ?_)
  refine lv_i2c hx hb dX3_writeDigit_7 rfl ?_
  refine lv_topi (fun x3 ex3 => ?_)
  have ex3q : x3 = fk_dc M0 := by
    rw [ex3, ex2, ex1]; exact fk_dch hd
  subst ex3q
  obtain ⟨qd, hqd, eqd⟩ := fk_dc_lt M0
  refine fk_cv hD hS hA (va_runV (As := [.int (fk_dc M0)]) (rest := []) ⟨hx, hb, hml, hown, hts⟩ (kX3_writeBefore _ ad tl kd kc lo ch f1 f2 f3 f4 f5 t0 L (fk_dc M0) hT ht0 (by rw [eqd]; exact (fk_nch qd hqd).1)) (cwV 1 hts gX3_writeDigit_X3_writeBefore rfl rfl rfl (by decide +kernel) ⟨Nat.le_of_ble_eq_true rfl, Nat.le_of_ble_eq_true rfl⟩) (fk_preV 0 4 hK hN hP hD rfl rfl) rfl rfl hl.1 rfl (lv_room (Nat.le_of_ble_eq_true rfl)) dX3_writeDigit_8 ⟨Nat.le_of_ble_eq_true rfl, Nat.le_of_ble_eq_true rfl⟩) (fun ch4 H locs hw hP hD hS => ?_)
  have hP : va_P D vwCl (fk_wx cJ cC cK ad kd kc lo ch4 (nI (t0 - 1)) f1 f2 f3 f4 f5 ++ tl) H := hP
  have hD : va_D A (fk_wx cJ cC cK ad kd kc lo ch4 (nI (t0 - 1)) f1 f2 f3 f4 f5 ++ tl) := hD
  have hT2 := hw
  rw [hQQ]
  exact W.vret hx hb hr (fun t ht hW => ⟨⟨ch4, rfl, hT2, by rw [ht]; exact hP, va_K.moved hW.alike hK, hD⟩, hS.F ht⟩) hS.2.2 dX3_writeDigit_11
abbrev rmX3_writePlaces : Room := { frames := 2, cells := 0, slots := 0, locals := 43 }
set_option maxHeartbeats 4000000 in
set_option maxRecDepth 100000 in
/-- writePlaces -/
theorem kX3_writePlaces {l : Launch} {D : va_G} {cJ cC cI cZ cK : ClassId} (sz : Nat) (ad : Nat → Nat) (tl : va_W) (kd : Nat → Option Nat) (kc lo : Int32) (ch : Nat → Int32) (f1 f2 f3 f4 f5 : Nat → Int64) (t0 : Nat) (M0 : Int) (hRm : fk_R M0 f1) (hm : 0 ≤ M0 ∧ M0 < 1000000000000000000000000000000) (hT : fk_Tx [] ch t0) : Met l yX3_writePlaces wsX3_writePlaces rmX3_writePlaces (va_Pc [.ref (ad 0), .ref (ad 4)] (fk_pre D (fk_ty cJ cC cI cZ cK) (fk_wx cJ cC cK ad kd kc lo ch (nI t0) f1 f2 f3 f4 f5 ++ tl) sz)) (va_Qv (fun u : (Nat → Int32) × (Nat → Int64) => fk_Tx (fk_pt (fk_pl 6 M0 [])) u.1 (40 - (fk_pt (fk_pl 6 M0 [])).length) ∧ fk_R (M0 / 1000000) u.2) (fk_Bd D (fk_ty cJ cC cI cZ cK) (va_A (fk_wx cJ cC cK ad kd kc lo ch (nI t0) f1 f2 f3 f4 f5 ++ tl) sz) (fun u : (Nat → Int32) × (Nat → Int64) => fk_wx cJ cC cK ad kd kc lo u.1 (nI (40 - (fk_pt (fk_pl 6 M0 [])).length)) u.2 f2 f3 f4 f5 ++ tl)) (va_A (fk_wx cJ cC cK ad kd kc lo ch (nI t0) f1 f2 f3 f4 f5 ++ tl) sz)) 0 0 (va_A (fk_wx cJ cC cK ad kd kc lo ch (nI t0) f1 f2 f3 f4 f5 ++ tl) sz) := by
  refine fk_ofW cX3_writePlaces 5 none (fun A => va_Qv (fun u : (Nat → Int32) × (Nat → Int64) => fk_Tx (fk_pt (fk_pl 6 M0 [])) u.1 (40 - (fk_pt (fk_pl 6 M0 [])).length) ∧ fk_R (M0 / 1000000) u.2) (fk_Bd D (fk_ty cJ cC cI cZ cK) A (fun u : (Nat → Int32) × (Nat → Int64) => fk_wx cJ cC cK ad kd kc lo u.1 (nI (40 - (fk_pt (fk_pl 6 M0 [])).length)) u.2 f2 f3 f4 f5 ++ tl)) A) rfl (by decide) (Nat.le_of_ble_eq_true rfl) ?_
  intro p e s m below meth c A ls args QQ hQQ hAt hP hK hN hD hA hS hl
  obtain ⟨⟨hx, hb, hml, hown, hts⟩, hr, hlocks, hin⟩ := hAt
  have hl : lv_has ls 5 [(0, .ref (ad 0)), (1, .ref (ad 4))] := hl
  have k1 := hts (.fieldLink RX3 27 "FixedKinds" "textStart" "I") (by decide +kernel)
  have k2 := (by decide +kernel : ∀ w ∈ u_ws RX3 TX3 8, w ∈ wsX3_writePlaces)
  have k3 := hts (.constantLong RX3 198 10) (by decide +kernel)
  have k4 := hN _ fkn_X3_200
  have k5 := hts (.initialized RX2) (by decide +kernel)
  have k6 := hts (.instanceMethod yX2_shorten) (by decide +kernel)
  have k7 := hts (.selects RX2 yX2_shorten yX2_shorten) (by decide +kernel)
  refine lv_iconst (v := 0) hx hb dX3_writePlaces_0 (by decide) ?_
  refine lv_istore_n (lv' := [(2, .int 0), (0, .ref (ad 0)), (1, .ref (ad 4))]) hx hb dX3_writePlaces_1 rfl hl (by decide) rfl (fun ls hl => ?_)
  have L2 : ∀ (fu2 : Nat) (i : Nat) (mm : Int) (g : Nat → Int64) (L : List Int32) (chv : Nat → Int32) (t2 : Nat), 6 - i < fu2 → (i ≤ 6) → (fk_R mm g) → (0 ≤ mm ∧ mm < 1000000000000000000000000000000) → (mm = M0 / 10 ^ i) → (fk_Tx L chv t2) → (L.length ≤ i) → (fk_pl (6 - i) mm L = fk_pl 6 M0 []) → ∀ (H : Heap) (locs : List Loc) (ls : Array Slot), va_P D vwCl (fk_wx cJ cC cK ad kd kc lo chv (nI t2) g f2 f3 f4 f5 ++ tl) H → va_D A (fk_wx cJ cC cK ad kd kc lo chv (nI t2) g f2 f3 f4 f5 ++ tl) → va_S A s.heap H locs → lv_has ls 5 [(0, .ref (ad 0)), (1, .ref (ad 4)), (2, .int (nI i))] → W p l e rmX3_writePlaces s m args below meth c H locs 0 0 QQ (F0 m 2 ls []) := by
    intro fu2
    induction fu2 with
    | zero => intro i mm g L chv t2 hfu; exact absurd hfu (Nat.not_lt_zero _)
    | succ fu2 ih2 =>
      intro i mm g L chv t2 hfu2 hi hRm hm0 hmm hT2 hLl hpl H locs ls hP hD hS hl
      refine lv_iload_n hx hb dX3_writePlaces_2 rfl (lv_at hl 2 rfl) ?_
      refine lv_bipush (v := 6) hx hb dX3_writePlaces_3 (by decide) ?_
      refine lv_icmp_ge (tgt := 42) hx hb dX3_writePlaces_5 (by decide) (fun c_5 => ?_) (fun c_5 => ?_)
      · have hi6 : i = 6 := by have q := (nI_leI (a := 6) (b := i) (by omega) (by omega)).mp c_5; omega
        subst hi6
        have hpl : L = fk_pl 6 M0 [] := hpl
        refine lv_aload_n hx hb dX3_writePlaces_42 rfl (lv_at hl 0 rfl) ?_
        refine va_get (D := D) (ci := 4) (v := .int (nI t2)) (C := RX3) (T := TX3) (N := 8) hx hb hts k2 hown hK hP 0 rfl rfl 4 (by decide) k1 (fun _ h9 => h9) rfl dX3_writePlaces_43 ?_
        refine lv_bipush (v := 40) hx hb dX3_writePlaces_46 (by decide) ?_
        refine lv_icmp_ge (tgt := 57) hx hb dX3_writePlaces_48 (by decide) (fun c_48 => ?_) (fun c_48 => ?_)
        · have ht40 := hT2.1
          have hL0 : L = [] := by have q := (nI_leI (a := 40) (b := t2) (by omega) (by omega)).mp c_48; exact List.eq_nil_of_length_eq_zero (by omega)
          have hpt : fk_pt (fk_pl 6 M0 []) = L := by rw [← hpl, fk_pt, if_neg (fun q => q hL0)]
          have ht3 : t2 = 40 - (fk_pt (fk_pl 6 M0 [])).length := by rw [hpt]; omega
          rw [ht3] at hP hD hT2
          rw [hQQ]
          exact W.vret hx hb hr (fun t ht hW => ⟨⟨(chv, g), rfl, ⟨(by show fk_Tx (fk_pt (fk_pl 6 M0 [])) _ _; have z := hT2; rw [hpt] at z ⊢; exact z), (by show fk_R (M0 / 1000000) _; have e : M0 / 1000000 = mm := hmm.symm; rw [e]; exact hRm)⟩, by rw [ht]; exact hP, va_K.moved hW.alike hK, hD⟩, hS.F ht⟩) hS.2.2 dX3_writePlaces_57
        · have ht40 := hT2.1
          have hL0 : L ≠ [] := by intro q; rw [q] at ht40; exact c_48 ((nI_leI (a := 40) (b := t2) (by omega) (by omega)).mpr (by simp at ht40; omega))
          have hpt : fk_pt (fk_pl 6 M0 []) = L ++ [46] := by rw [← hpl, fk_pt, if_pos hL0]
          refine lv_aload_n hx hb dX3_writePlaces_51 rfl (lv_at hl 0 rfl) ?_
          refine lv_bipush (v := 46) hx hb dX3_writePlaces_52 (by decide) ?_
          refine fk_cv hD hS hA (va_runV (As := [.int 46]) (rest := []) ⟨hx, hb, hml, hown, hts⟩ (kX3_writeBefore _ ad tl kd kc lo chv g f2 f3 f4 f5 t2 L 46 hT2 (by omega) (fk_nch 46 (by omega)).1) (cwV 1 hts gX3_writePlaces_X3_writeBefore rfl rfl rfl (by decide +kernel) ⟨Nat.le_of_ble_eq_true rfl, Nat.le_of_ble_eq_true rfl⟩) (fk_preV 0 4 hK hN hP hD rfl rfl) rfl rfl hl.1 rfl (lv_room (Nat.le_of_ble_eq_true rfl)) dX3_writePlaces_54 ⟨Nat.le_of_ble_eq_true rfl, Nat.le_of_ble_eq_true rfl⟩) (fun ch1 H locs hw hP hD hS => ?_)
          have hP : va_P D vwCl (fk_wx cJ cC cK ad kd kc lo ch1 (nI (t2 - 1)) g f2 f3 f4 f5 ++ tl) H := hP
          have hD : va_D A (fk_wx cJ cC cK ad kd kc lo ch1 (nI (t2 - 1)) g f2 f3 f4 f5 ++ tl) := hD
          have hT3 := hw
          have ht3 : t2 - 1 = 40 - (fk_pt (fk_pl 6 M0 [])).length := by rw [hpt]; simp only [List.length_append, List.length_singleton]; omega
          rw [ht3] at hP hD hT3
          rw [hQQ]
          exact W.vret hx hb hr (fun t ht hW => ⟨⟨(ch1, g), rfl, ⟨(by show fk_Tx (fk_pt (fk_pl 6 M0 [])) _ _; have z := hT3; rw [hpt] at z ⊢; exact z), (by show fk_R (M0 / 1000000) _; have e : M0 / 1000000 = mm := hmm.symm; rw [e]; exact hRm)⟩, by rw [ht]; exact hP, va_K.moved hW.alike hK, hD⟩, hS.F ht⟩) hS.2.2 dX3_writePlaces_57
      · have hi6 : i < 6 := by rcases Nat.lt_or_ge i 6 with q | q; exact q; exact absurd ((nI_leI (a := 6) (b := i) (by omega) (by omega)).mpr q) c_5
        obtain ⟨k, hk6⟩ : ∃ k, 6 - i = k + 1 := ⟨5 - i, by omega⟩
        have hk5 : 6 - (i + 1) = k := by omega
        rw [hk6, fk_pl] at hpl
        have ht40 := hT2.1
        have n0 : 0 ≤ mm / 10 ∧ mm / 10 < 1000000000000000000000000000000 := by omega
        have n1 : mm / 10 = M0 / 10 ^ (i + 1) := by rw [hmm, Int.pow_succ, Int.ediv_ediv_of_nonneg (Int.le_of_lt (Int.pow_pos (by decide)))]
        refine lv_aload_n hx hb dX3_writePlaces_8 rfl (lv_at hl 1 rfl) ?_
        refine lv_ldc2 (v := 10) hx hb hown k3 dX3_writePlaces_9 ?_
        refine fk_cl hD hS hA (va_runVN (As := [.long 10]) (rest := []) ⟨hx, hb, hml, hown, hts⟩ (kX2_shorten _ _ (ad 4) (ad 5) 4 5 g 10 (mm) rfl rfl hRm ⟨by omega, by omega⟩ hm0.1 (by decide)) ⟨va_cnB 1 hts gX3_writePlaces_X2_shorten_n200 rfl rfl rfl k4 k5 (by decide +kernel) ⟨Nat.le_of_ble_eq_true rfl, Nat.le_of_ble_eq_true rfl⟩, k6, k7⟩ (fk_preV 4 3 hK hN hP hD rfl rfl) rfl rfl hl.1 rfl (lv_room (Nat.le_of_ble_eq_true rfl)) dX3_writePlaces_12 ⟨Nat.le_of_ble_eq_true rfl, Nat.le_of_ble_eq_true rfl⟩) (fun r4 g3 H locs hw hP hD hS => ?_)
        have hP : va_P D vwCl (fk_wx cJ cC cK ad kd kc lo chv (nI t2) g3 f2 f3 f4 f5 ++ tl) H := hP
        have hD : va_D A (fk_wx cJ cC cK ad kd kc lo chv (nI t2) g3 f2 f3 f4 f5 ++ tl) := hD
        obtain ⟨hqg3, hRg3⟩ := hw
        rw [show (10 : Int64).toInt = 10 by decide] at hqg3 hRg3
        refine lv_lstore_n (lv' := [(3, .long r4), (0, .ref (ad 0)), (1, .ref (ad 4)), (2, .int (nI i))]) hx hb dX3_writePlaces_15 rfl hl (by decide) rfl (fun ls hl => ?_)
        refine lv_lload_n hx hb dX3_writePlaces_16 rfl (lv_at hl 0 rfl) ?_
        refine lv_lconst (v := 0) hx hb dX3_writePlaces_17 (by decide) ?_
        refine W.lcmp hx hb dX3_writePlaces_18 ?_
        refine lv_if_ne (tgt := 31) hx hb dX3_writePlaces_19 (by decide) (fun c_19 => ?_) (fun c_19 => ?_)
        · rw [lg_cmp_eq] at c_19
          rw [← Int64.toInt_inj, hqg3, fk_z64] at c_19
          rw [if_pos (Or.inl c_19)] at hpl
          refine lv_aload_n hx hb dX3_writePlaces_31 rfl (lv_at hl 1 rfl) ?_
          refine lv_lload_n hx hb dX3_writePlaces_32 rfl (lv_at hl 0 rfl) ?_
          refine fk_cv hD hS hA (va_runV (As := [.long r4]) (rest := []) ⟨hx, hb, hml, hown, hts⟩ (kX3_writeDigit _ ad tl kd kc lo chv g3 f2 f3 f4 f5 t2 L r4 mm hT2 (by omega) hqg3) (cwV 1 hts gX3_writePlaces_X3_writeDigit rfl rfl rfl (by decide +kernel) ⟨Nat.le_of_ble_eq_true rfl, Nat.le_of_ble_eq_true rfl⟩) (fk_preV 0 4 hK hN hP hD rfl rfl) rfl rfl hl.1 rfl (lv_room (Nat.le_of_ble_eq_true rfl)) dX3_writePlaces_33 ⟨Nat.le_of_ble_eq_true rfl, Nat.le_of_ble_eq_true rfl⟩) (fun ch5 H locs hw hP hD hS => ?_)
          have hP : va_P D vwCl (fk_wx cJ cC cK ad kd kc lo ch5 (nI (t2 - 1)) g3 f2 f3 f4 f5 ++ tl) H := hP
          have hD : va_D A (fk_wx cJ cC cK ad kd kc lo ch5 (nI (t2 - 1)) g3 f2 f3 f4 f5 ++ tl) := hD
          have hT3 := hw
          have n3 : (L ++ [fk_dc mm]).length ≤ i + 1 := by simp only [List.length_append, List.length_singleton]; omega
          have n4 : fk_pl (6 - (i + 1)) (mm / 10) (L ++ [fk_dc mm]) = fk_pl 6 M0 [] := by rw [hk5]; exact hpl
          refine lv_iinc (v := nI (i + 1)) (lv' := [(2, .int (nI (i + 1))), (3, .long r4), (0, .ref (ad 0)), (1, .ref (ad 4))]) hx hb dX3_writePlaces_36 hl (k := 3) rfl (by exact nI_1 i) (by decide) rfl (fun ls hl => ?_)
          refine lv_goto (tgt := 2) hx hb dX3_writePlaces_39 (by decide) ?_
          exact ih2 (i + 1) (mm / 10) g3 (L ++ [fk_dc mm]) ch5 (t2 - 1) (by omega) (by omega) hRg3 n0 n1 hT3 n3 n4 _ _ _ hP hD hS (lv_sub hl [2, 3, 0] rfl)
        · rw [lg_cmp_eq] at c_19
          rw [← Int64.toInt_inj, hqg3, fk_z64] at c_19
          refine lv_aload_n hx hb dX3_writePlaces_22 rfl (lv_at hl 1 rfl) ?_
          refine va_get (D := D) (ci := 4) (v := .int (nI t2)) (C := RX3) (T := TX3) (N := 8) hx hb hts k2 hown hK hP 0 rfl rfl 4 (by decide) k1 (fun _ h9 => h9) rfl dX3_writePlaces_23 ?_
          refine lv_bipush (v := 40) hx hb dX3_writePlaces_26 (by decide) ?_
          refine lv_icmp_ge (tgt := 36) hx hb dX3_writePlaces_28 (by decide) (fun c_28 => ?_) (fun c_28 => ?_)
          · have hL0 : L = [] := by have q := (nI_leI (a := 40) (b := t2) (by omega) (by omega)).mp c_28; exact List.eq_nil_of_length_eq_zero (by omega)
            rw [if_neg (fun q => q.elim (fun z => z c_19) (fun z => z hL0))] at hpl
            have n3 : L.length ≤ i + 1 := by omega
            have n4 : fk_pl (6 - (i + 1)) (mm / 10) L = fk_pl 6 M0 [] := by rw [hk5]; exact hpl
            refine lv_iinc (v := nI (i + 1)) (lv' := [(2, .int (nI (i + 1))), (3, .long r4), (0, .ref (ad 0)), (1, .ref (ad 4))]) hx hb dX3_writePlaces_36 hl (k := 3) rfl (by exact nI_1 i) (by decide) rfl (fun ls hl => ?_)
            refine lv_goto (tgt := 2) hx hb dX3_writePlaces_39 (by decide) ?_
            exact ih2 (i + 1) (mm / 10) g3 L chv t2 (by omega) (by omega) hRg3 n0 n1 hT2 n3 n4 _ _ _ hP hD hS (lv_sub hl [2, 3, 0] rfl)
          · have hL0 : L ≠ [] := by intro q; rw [q] at ht40; exact c_28 ((nI_leI (a := 40) (b := t2) (by omega) (by omega)).mpr (by simp at ht40; omega))
            rw [if_pos (Or.inr hL0)] at hpl
            refine lv_aload_n hx hb dX3_writePlaces_31 rfl (lv_at hl 1 rfl) ?_
            refine lv_lload_n hx hb dX3_writePlaces_32 rfl (lv_at hl 0 rfl) ?_
            refine fk_cv hD hS hA (va_runV (As := [.long r4]) (rest := []) ⟨hx, hb, hml, hown, hts⟩ (kX3_writeDigit _ ad tl kd kc lo chv g3 f2 f3 f4 f5 t2 L r4 mm hT2 (by omega) hqg3) (cwV 1 hts gX3_writePlaces_X3_writeDigit rfl rfl rfl (by decide +kernel) ⟨Nat.le_of_ble_eq_true rfl, Nat.le_of_ble_eq_true rfl⟩) (fk_preV 0 4 hK hN hP hD rfl rfl) rfl rfl hl.1 rfl (lv_room (Nat.le_of_ble_eq_true rfl)) dX3_writePlaces_33 ⟨Nat.le_of_ble_eq_true rfl, Nat.le_of_ble_eq_true rfl⟩) (fun ch7 H locs hw hP hD hS => ?_)
            have hP : va_P D vwCl (fk_wx cJ cC cK ad kd kc lo ch7 (nI (t2 - 1)) g3 f2 f3 f4 f5 ++ tl) H := hP
            have hD : va_D A (fk_wx cJ cC cK ad kd kc lo ch7 (nI (t2 - 1)) g3 f2 f3 f4 f5 ++ tl) := hD
            have hT3 := hw
            have n3 : (L ++ [fk_dc mm]).length ≤ i + 1 := by simp only [List.length_append, List.length_singleton]; omega
            have n4 : fk_pl (6 - (i + 1)) (mm / 10) (L ++ [fk_dc mm]) = fk_pl 6 M0 [] := by rw [hk5]; exact hpl
            refine lv_iinc (v := nI (i + 1)) (lv' := [(2, .int (nI (i + 1))), (3, .long r4), (0, .ref (ad 0)), (1, .ref (ad 4))]) hx hb dX3_writePlaces_36 hl (k := 3) rfl (by exact nI_1 i) (by decide) rfl (fun ls hl => ?_)
            refine lv_goto (tgt := 2) hx hb dX3_writePlaces_39 (by decide) ?_
            exact ih2 (i + 1) (mm / 10) g3 (L ++ [fk_dc mm]) ch7 (t2 - 1) (by omega) (by omega) hRg3 n0 n1 hT3 n3 n4 _ _ _ hP hD hS (lv_sub hl [2, 3, 0] rfl)
  exact L2 7 0 M0 f1 ([]) ch t0 (by omega) (by omega) hRm hm (by simp) hT (Nat.le_refl 0) rfl _ _ _ hP hD hS (lv_sub hl [1, 2, 0] rfl)
