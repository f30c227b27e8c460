/-! Reference: unsigned, bring, least, most, none, by program -/
abbrev rmX4_unsigned : Room := { frames := 0, cells := 0, slots := 0, locals := 0 }
set_option maxHeartbeats 4000000 in
set_option maxRecDepth 100000 in
/-- unsigned -/
theorem kX4_unsigned {l : Launch} {D : va_G} {cJ cC cI cZ cK : ClassId} (sz : Nat) (am : Nat → Nat) (tl : va_W) (cd kn lo tn : Int32) (wd sg : Nat → Int32) (up dn of : Nat → Int64) (bey rnd tx pt sn : Nat → Int32) (i w : Nat) (s1 : Int32) (v : Int64) (hi : i < 41) (hwd : fk_wd w s1) (hwi : wd i = nI w) (hsi : sg i = s1) : Met l yX4_unsigned wsX4_unsigned rmX4_unsigned (va_Pc [.ref (am 0), .int (nI i), .long v] (fk_pre D (fk_ty cJ cC cI cZ cK) (fk_wm cJ cI cZ am cd kn lo tn wd sg up dn of bey rnd tx pt sn ++ tl) sz)) (va_Ql (fun (r : Int64) (_ : Unit) => r.toInt % 18446744073709551616 = v.toInt % 2 ^ w) (fk_Bd D (fk_ty cJ cC cI cZ cK) (va_A (fk_wm cJ cI cZ am cd kn lo tn wd sg up dn of bey rnd tx pt sn ++ tl) sz) (fun _ : Unit => fk_wm cJ cI cZ am cd kn lo tn wd sg up dn of bey rnd tx pt sn ++ tl)) (va_A (fk_wm cJ cI cZ am cd kn lo tn wd sg up dn of bey rnd tx pt sn ++ tl) sz)) 0 0 (va_A (fk_wm cJ cI cZ am cd kn lo tn wd sg up dn of bey rnd tx pt sn ++ tl) sz) := by
  refine fk_ofW cX4_unsigned 4 (some .long) (fun A => va_Ql (fun (r : Int64) (_ : Unit) => r.toInt % 18446744073709551616 = v.toInt % 2 ^ w) (fk_Bd D (fk_ty cJ cC cI cZ cK) A (fun _ : Unit => fk_wm cJ cI cZ am cd kn lo tn wd sg up dn of bey rnd tx pt sn ++ tl)) A) rfl (by decide) (Nat.le_of_ble_eq_true rfl) ?_
  intro p e s m below meth c A ls args QQ hQQ hAt hP hK hN hD hA hS hl
  obtain ⟨⟨hx, hb, hml, hown, hts⟩, hr, hlocks, hin⟩ := hAt
  have hl : lv_has ls 4 [(0, .ref (am 0)), (1, .int (nI i)), (2, .long v)] := hl
  have k1 := hts (.fieldLink RX4 7 "FixedKindsModel" "width" "[I") (by decide +kernel)
  have k2 := (by decide +kernel : ∀ w ∈ u_ws RX4 TX4 14, w ∈ wsX4_unsigned)
  obtain ⟨h8, h64, h01, hs64⟩ := id hwd
  refine lv_aload_n hx hb dX4_unsigned_0 rfl (lv_at hl 0 rfl) ?_
  refine va_get (D := D) (ci := 5) (v := .ref (am 1)) (C := RX4) (T := TX4) (N := 14) hx hb hts k2 hown hK hP 0 rfl rfl 2 (by decide) k1 (fun _ h9 => h9) rfl dX4_unsigned_1 ?_
  refine lv_iload_n hx hb dX4_unsigned_4 rfl (lv_at hl 1 rfl) ?_
  refine fk_iald hx hb hK hP 1 2 rfl rfl (i := i) hi (by decide) dX4_unsigned_5 ?_
  rw [hwi]
  refine lv_bipush (v := 64) hx hb dX4_unsigned_6 (by decide) ?_
  refine lv_icmp_ne (tgt := 15) hx hb dX4_unsigned_8 (by decide) (fun c_8 => ?_) (fun c_8 => ?_)
  · have h63 : w < 64 := by rcases Nat.lt_or_ge w 64 with q | q; exact q; exact absurd (by rw [show w = 64 by omega]; rfl) c_8
    refine lv_lload_n hx hb dX4_unsigned_15 rfl (lv_at hl 2 rfl) ?_
    refine lv_lconst (v := 1) hx hb dX4_unsigned_16 (by decide) ?_
    refine lv_aload_n hx hb dX4_unsigned_17 rfl (lv_at hl 0 rfl) ?_
    refine va_get (D := D) (ci := 5) (v := .ref (am 1)) (C := RX4) (T := TX4) (N := 14) hx hb hts k2 hown hK hP 0 rfl rfl 2 (by decide) k1 (fun _ h9 => h9) rfl dX4_unsigned_18 ?_
    refine lv_iload_n hx hb dX4_unsigned_21 rfl (lv_at hl 1 rfl) ?_
    refine fk_iald hx hb hK hP 1 2 rfl rfl (i := i) hi (by decide) dX4_unsigned_22 ?_
    rw [hwi]
    refine lv_lshl hx hb dX4_unsigned_23 rfl ?_
    refine lv_topl (fun x1 ex1 => ?_)
    refine lv_lconst (v := 1) hx hb dX4_unsigned_24 (by decide) ?_
    refine lv_lsub hx hb dX4_unsigned_25 ?_
    refine lv_topl (fun x2 ex2 => ?_)
    refine lv_land hx hb dX4_unsigned_26 ?_
    refine lv_topl (fun x3 ex3 => ?_)
    have hv : x3.toInt = v.toInt % 2 ^ w := by rw [ex3, ex2, ex1]; exact fk_and63 w (by omega) (fk_mask w h63 h8)
    have p63 := fk_pow63 (w := w) (by omega)
    have q1 := Int.emod_nonneg v.toInt (show (2 : Int) ^ w ≠ 0 by have := fk_2p w; omega)
    have q2 := Int.emod_lt_of_pos v.toInt (fk_2p w)
    rw [hQQ]
    exact W.lret (v := x3) hx hb hr (fun t ht hW => ⟨⟨x3, (), rfl, (by show _ = _; rw [hv]; exact Int.emod_eq_of_lt q1 (by omega)), by rw [ht]; exact hP, va_K.moved hW.alike hK, hD⟩, hS.F ht⟩) hS.2.2 dX4_unsigned_27
  · have hw64 : w = 64 := by have q := (nI_eq (a := w) (b := 64) (by omega) (by omega)).mp c_8; exact q
    refine lv_lload_n hx hb dX4_unsigned_11 rfl (lv_at hl 2 rfl) ?_
    refine lv_goto (tgt := 27) hx hb dX4_unsigned_12 (by decide) ?_
    rw [hQQ]
    exact W.lret (v := v) hx hb hr (fun t ht hW => ⟨⟨v, (), rfl, (by show _ = _; rw [hw64]; rfl), by rw [ht]; exact hP, va_K.moved hW.alike hK, hD⟩, hS.F ht⟩) hS.2.2 dX4_unsigned_27
theorem fk_64 {x v : Int64} (h : x.toInt % 18446744073709551616 = v.toInt % 2 ^ 64) : x.toInt = v.toInt := by
  have := x.toInt_lt
  have := x.le_toInt
  have := v.toInt_lt
  have := v.le_toInt
  rw [show (2 : Int) ^ 64 = 18446744073709551616 by decide] at h
  omega
abbrev rmX4_bring : Room := { frames := 1, cells := 0, slots := 0, locals := 23 }
set_option maxHeartbeats 4000000 in
set_option maxRecDepth 100000 in
/-- bring -/
theorem kX4_bring {l : Launch} {D : va_G} {cJ cC cI cZ cK : ClassId} (sz : Nat) (am : Nat → Nat) (tl : va_W) (cd kn lo tn : Int32) (wd sg : Nat → Int32) (up dn of : Nat → Int64) (bey rnd tx pt sn : Nat → Int32) (i w : Nat) (s1 : Int32) (v : Int64) (hi : i < 41) (hwd : fk_wd w s1) (hwi : wd i = nI w) (hsi : sg i = s1) : Met l yX4_bring wsX4_bring rmX4_bring (va_Pc [.ref (am 0), .int (nI i), .long v] (fk_pre D (fk_ty cJ cC cI cZ cK) (fk_wm cJ cI cZ am cd kn lo tn wd sg up dn of bey rnd tx pt sn ++ tl) sz)) (va_Ql (fun (r : Int64) (_ : Unit) => r.toInt = fk_bring w s1 v.toInt) (fk_Bd D (fk_ty cJ cC cI cZ cK) (va_A (fk_wm cJ cI cZ am cd kn lo tn wd sg up dn of bey rnd tx pt sn ++ tl) sz) (fun _ : Unit => fk_wm cJ cI cZ am cd kn lo tn wd sg up dn of bey rnd tx pt sn ++ tl)) (va_A (fk_wm cJ cI cZ am cd kn lo tn wd sg up dn of bey rnd tx pt sn ++ tl) sz)) 0 0 (va_A (fk_wm cJ cI cZ am cd kn lo tn wd sg up dn of bey rnd tx pt sn ++ tl) sz) := by
  refine fk_ofW cX4_bring 7 (some .long) (fun A => va_Ql (fun (r : Int64) (_ : Unit) => r.toInt = fk_bring w s1 v.toInt) (fk_Bd D (fk_ty cJ cC cI cZ cK) A (fun _ : Unit => fk_wm cJ cI cZ am cd kn lo tn wd sg up dn of bey rnd tx pt sn ++ tl)) A) rfl (by decide) (Nat.le_of_ble_eq_true rfl) ?_
  intro p e s m below meth c A ls args QQ hQQ hAt hP hK hN hD hA hS hl
  obtain ⟨⟨hx, hb, hml, hown, hts⟩, hr, hlocks, hin⟩ := hAt
  have hl : lv_has ls 7 [(0, .ref (am 0)), (1, .int (nI i)), (2, .long v)] := hl
  have k1 := hts (.fieldLink RX4 13 "FixedKindsModel" "signed" "[Z") (by decide +kernel)
  have k2 := (by decide +kernel : ∀ w ∈ u_ws RX4 TX4 14, w ∈ wsX4_bring)
  have k3 := hts (.fieldLink RX4 7 "FixedKindsModel" "width" "[I") (by decide +kernel)
  obtain ⟨h8, h64, h01, hs64⟩ := id hwd
  refine lv_aload_n hx hb dX4_bring_0 rfl (lv_at hl 0 rfl) ?_
  refine lv_iload_n hx hb dX4_bring_1 rfl (lv_at hl 1 rfl) ?_
  refine lv_lload_n hx hb dX4_bring_2 rfl (lv_at hl 2 rfl) ?_
  refine fk_cl hD hS hA (va_runV (As := [.int (nI i), .long v]) (rest := []) ⟨hx, hb, hml, hown, hts⟩ (kX4_unsigned _ am tl cd kn lo tn wd sg up dn of bey rnd tx pt sn i w s1 v hi hwd hwi hsi) (cwV 2 hts gX4_bring_X4_unsigned rfl rfl rfl (by decide +kernel) ⟨Nat.le_of_ble_eq_true rfl, Nat.le_of_ble_eq_true rfl⟩) (fk_preV 0 5 hK hN hP hD rfl rfl) rfl rfl hl.1 rfl (lv_room (Nat.le_of_ble_eq_true rfl)) dX4_bring_3 ⟨Nat.le_of_ble_eq_true rfl, Nat.le_of_ble_eq_true rfl⟩) (fun r1 u H locs hw hP hD hS => ?_)
  have hP : va_P D vwCl (fk_wm cJ cI cZ am cd kn lo tn wd sg up dn of bey rnd tx pt sn ++ tl) H := hP
  have hD : va_D A (fk_wm cJ cI cZ am cd kn lo tn wd sg up dn of bey rnd tx pt sn ++ tl) := hD
  have hU := hw
  have p2 := fk_2p w
  have q1 := Int.emod_nonneg v.toInt (show (2 : Int) ^ w ≠ 0 by omega)
  have q2 := Int.emod_lt_of_pos v.toInt p2
  refine lv_lstore (lv' := [(4, .long r1), (0, .ref (am 0)), (1, .int (nI i)), (2, .long v)]) hx hb dX4_bring_6 hl (by decide) rfl (fun ls hl => ?_)
  refine lv_aload_n hx hb dX4_bring_8 rfl (lv_at hl 1 rfl) ?_
  refine va_get (D := D) (ci := 5) (v := .ref (am 2)) (C := RX4) (T := TX4) (N := 14) hx hb hts k2 hown hK hP 0 rfl rfl 3 (by decide) k1 (fun _ h9 => h9) rfl dX4_bring_9 ?_
  refine lv_iload_n hx hb dX4_bring_12 rfl (lv_at hl 2 rfl) ?_
  refine fk_zald hx hb hK hP 2 3 rfl rfl (i := i) hi (by decide) dX4_bring_13 ?_
  rw [hsi]
  refine lv_if_eq (tgt := 50) hx hb dX4_bring_14 (by decide) (fun c_14 => ?_) (fun c_14 => ?_)
  · have h63 : w < 64 := by rcases Nat.lt_or_ge w 64 with q | q; exact q; exact absurd (hs64 (by omega)) (by rw [c_14]; decide)
    have p63 := fk_pow63 (w := w) (by omega)
    have hu : r1.toInt = v.toInt % 2 ^ w := fk_small hU (by omega)
    refine lv_iconst (v := 0) hx hb dX4_bring_50 (by decide) ?_
    refine lv_istore (lv' := [(6, .int 0), (4, .long r1), (0, .ref (am 0)), (1, .int (nI i)), (2, .long v)]) hx hb dX4_bring_51 hl (by decide) rfl (fun ls hl => ?_)
    refine lv_iload hx hb dX4_bring_53 (lv_at hl 0 rfl) ?_
    refine lv_if_eq (tgt := 72) hx hb dX4_bring_55 (by decide) (fun c_55 => ?_) (fun c_55 => False.elim (absurd rfl c_55))
    refine lv_lload hx hb dX4_bring_72 (lv_at hl 1 rfl) ?_
    rw [hQQ]
    exact W.lret (v := r1) hx hb hr (fun t ht hW => ⟨⟨r1, (), rfl, (by show _ = _; rw [fk_bring, if_pos c_14]; exact hu), by rw [ht]; exact hP, va_K.moved hW.alike hK, hD⟩, hS.F ht⟩) hS.2.2 dX4_bring_74
  · refine lv_aload_n hx hb dX4_bring_17 rfl (lv_at hl 1 rfl) ?_
    refine va_get (D := D) (ci := 5) (v := .ref (am 1)) (C := RX4) (T := TX4) (N := 14) hx hb hts k2 hown hK hP 0 rfl rfl 2 (by decide) k3 (fun _ h9 => h9) rfl dX4_bring_18 ?_
    refine lv_iload_n hx hb dX4_bring_21 rfl (lv_at hl 2 rfl) ?_
    refine fk_iald hx hb hK hP 1 2 rfl rfl (i := i) hi (by decide) dX4_bring_22 ?_
    rw [hwi]
    refine lv_bipush (v := 64) hx hb dX4_bring_23 (by decide) ?_
    refine lv_icmp_ge (tgt := 50) hx hb dX4_bring_25 (by decide) (fun c_25 => ?_) (fun c_25 => ?_)
    · have hw64 : w = 64 := by have q := (nI_leI (a := 64) (b := w) (by omega) (by omega)).mp c_25; omega
      refine lv_iconst (v := 0) hx hb dX4_bring_50 (by decide) ?_
      refine lv_istore (lv' := [(6, .int 0), (4, .long r1), (0, .ref (am 0)), (1, .int (nI i)), (2, .long v)]) hx hb dX4_bring_51 hl (by decide) rfl (fun ls hl => ?_)
      refine lv_iload hx hb dX4_bring_53 (lv_at hl 0 rfl) ?_
      refine lv_if_eq (tgt := 72) hx hb dX4_bring_55 (by decide) (fun c_55 => ?_) (fun c_55 => False.elim (absurd rfl c_55))
      refine lv_lload hx hb dX4_bring_72 (lv_at hl 1 rfl) ?_
      rw [hQQ]
      exact W.lret (v := r1) hx hb hr (fun t ht hW => ⟨⟨r1, (), rfl, (by show _ = _; subst hw64; rw [fk_bring, if_neg c_14, fk_bring_64]; exact fk_64 hU), by rw [ht]; exact hP, va_K.moved hW.alike hK, hD⟩, hS.F ht⟩) hS.2.2 dX4_bring_74
    · have h63 : w < 64 := by rcases Nat.lt_or_ge w 64 with q | q; exact q; exact absurd ((nI_leI (a := 64) (b := w) (by omega) (by omega)).mpr q) c_25
      have p63 := fk_pow63 (w := w) (by omega)
      have hu : r1.toInt = v.toInt % 2 ^ w := fk_small hU (by omega)
      refine lv_lload hx hb dX4_bring_28 (lv_at hl 0 rfl) ?_
      refine lv_aload_n hx hb dX4_bring_30 rfl (lv_at hl 1 rfl) ?_
      refine va_get (D := D) (ci := 5) (v := .ref (am 1)) (C := RX4) (T := TX4) (N := 14) hx hb hts k2 hown hK hP 0 rfl rfl 2 (by decide) k3 (fun _ h9 => h9) rfl dX4_bring_31 ?_
      refine lv_iload_n hx hb dX4_bring_34 rfl (lv_at hl 2 rfl) ?_
      refine fk_iald hx hb hK hP 1 2 rfl rfl (i := i) hi (by decide) dX4_bring_35 ?_
      rw [hwi]
      refine lv_iconst (v := 1) hx hb dX4_bring_36 (by decide) ?_
      refine lv_isub hx hb dX4_bring_37 ?_
      refine lv_topi (fun x2 ex2 => ?_)
      have ex2q : x2 = nI (w - 1) := by
        rw [ex2]; exact pk_sub (a := w) (b := 1) (by omega)
      subst ex2q
      refine lv_lshr hx hb dX4_bring_38 rfl ?_
      refine lv_topl (fun x3 ex3 => ?_)
      refine lv_lconst (v := 1) hx hb dX4_bring_39 (by decide) ?_
      refine lv_land hx hb dX4_bring_40 ?_
      refine lv_topl (fun x4 ex4 => ?_)
      refine lv_lconst (v := 1) hx hb dX4_bring_41 (by decide) ?_
      refine W.lcmp hx hb dX4_bring_42 ?_
      refine lv_if_ne (tgt := 50) hx hb dX4_bring_43 (by decide) (fun c_43 => ?_) (fun c_43 => ?_)
      · rw [lg_cmp_eq] at c_43
        have hbit : x4.toInt = v.toInt % 2 ^ w / 2 ^ (w - 1) % 2 := by rw [ex4, fk_bit0, ex3, fk_shrk _ (by omega), hu]
        have htop := fk_bit_top (U := v.toInt % 2 ^ w) (w := w) (by omega) q1 q2
        have hlo : ¬ 2 ^ (w - 1) ≤ v.toInt % 2 ^ w := fun q => c_43 (Int64.toInt_inj.mp (by rw [hbit, htop.mpr q]; decide))
        refine lv_iconst (v := 0) hx hb dX4_bring_50 (by decide) ?_
        refine lv_istore (lv' := [(6, .int 0), (4, .long r1), (0, .ref (am 0)), (1, .int (nI i)), (2, .long v)]) hx hb dX4_bring_51 hl (by decide) rfl (fun ls hl => ?_)
        refine lv_iload hx hb dX4_bring_53 (lv_at hl 0 rfl) ?_
        refine lv_if_eq (tgt := 72) hx hb dX4_bring_55 (by decide) (fun c_55 => ?_) (fun c_55 => False.elim (absurd rfl c_55))
        refine lv_lload hx hb dX4_bring_72 (lv_at hl 1 rfl) ?_
        rw [hQQ]
        exact W.lret (v := r1) hx hb hr (fun t ht hW => ⟨⟨r1, (), rfl, (by show _ = _; rw [fk_bring, if_neg c_14, fk_bring_sg (by omega), if_neg hlo]; exact hu), by rw [ht]; exact hP, va_K.moved hW.alike hK, hD⟩, hS.F ht⟩) hS.2.2 dX4_bring_74
      · rw [lg_cmp_eq] at c_43
        have hbit : x4.toInt = v.toInt % 2 ^ w / 2 ^ (w - 1) % 2 := by rw [ex4, fk_bit0, ex3, fk_shrk _ (by omega), hu]
        have htop := fk_bit_top (U := v.toInt % 2 ^ w) (w := w) (by omega) q1 q2
        have hhi : 2 ^ (w - 1) ≤ v.toInt % 2 ^ w := htop.mp (by rw [← hbit, c_43]; decide)
        refine lv_iconst (v := 1) hx hb dX4_bring_46 (by decide) ?_
        refine lv_goto (tgt := 51) hx hb dX4_bring_47 (by decide) ?_
        refine lv_istore (lv' := [(6, .int 1), (4, .long r1), (0, .ref (am 0)), (1, .int (nI i)), (2, .long v)]) hx hb dX4_bring_51 hl (by decide) rfl (fun ls hl => ?_)
        refine lv_iload hx hb dX4_bring_53 (lv_at hl 0 rfl) ?_
        refine lv_if_eq (tgt := 72) hx hb dX4_bring_55 (by decide) (fun c_55 => False.elim (absurd c_55 (by decide))) (fun c_55 => ?_)
        refine lv_lload hx hb dX4_bring_58 (lv_at hl 1 rfl) ?_
        refine lv_lconst (v := 1) hx hb dX4_bring_60 (by decide) ?_
        refine lv_aload_n hx hb dX4_bring_61 rfl (lv_at hl 2 rfl) ?_
        refine va_get (D := D) (ci := 5) (v := .ref (am 1)) (C := RX4) (T := TX4) (N := 14) hx hb hts k2 hown hK hP 0 rfl rfl 2 (by decide) k3 (fun _ h9 => h9) rfl dX4_bring_62 ?_
        refine lv_iload_n hx hb dX4_bring_65 rfl (lv_at hl 3 rfl) ?_
        refine fk_iald hx hb hK hP 1 2 rfl rfl (i := i) hi (by decide) dX4_bring_66 ?_
        rw [hwi]
        refine lv_lshl hx hb dX4_bring_67 rfl ?_
        refine lv_topl (fun x5 ex5 => ?_)
        refine lv_lsub hx hb dX4_bring_68 ?_
        refine lv_topl (fun x6 ex6 => ?_)
        refine lv_goto (tgt := 74) hx hb dX4_bring_69 (by decide) ?_
        rw [hQQ]
        exact W.lret (v := x6) hx hb hr (fun t ht hW => ⟨⟨x6, (), rfl, (by show _ = _; rw [fk_bring, if_neg c_14, fk_bring_sg (by omega), if_pos hhi, ex6]; exact fk_sub_in hu (by rw [ex5]; obtain ⟨z, hz⟩ := fk_shl 1 (u := w) h63; exact ⟨z, by rw [hz, show (1 : Int64).toInt = 1 by decide, Int.one_mul]⟩) (by omega) (by omega)), by rw [ht]; exact hP, va_K.moved hW.alike hK, hD⟩, hS.F ht⟩) hS.2.2 dX4_bring_74
abbrev rmX4_least : Room := { frames := 0, cells := 0, slots := 0, locals := 0 }
set_option maxHeartbeats 4000000 in
set_option maxRecDepth 100000 in
/-- least -/
theorem kX4_least {l : Launch} {D : va_G} {cJ cC cI cZ cK : ClassId} (sz : Nat) (am : Nat → Nat) (tl : va_W) (cd kn lo tn : Int32) (wd sg : Nat → Int32) (up dn of : Nat → Int64) (bey rnd tx pt sn : Nat → Int32) (i w : Nat) (s1 : Int32) (hi : i < 41) (hwd : fk_wd w s1) (hwi : wd i = nI w) (hsi : sg i = s1) : Met l yX4_least wsX4_least rmX4_least (va_Pc [.ref (am 0), .int (nI i)] (fk_pre D (fk_ty cJ cC cI cZ cK) (fk_wm cJ cI cZ am cd kn lo tn wd sg up dn of bey rnd tx pt sn ++ tl) sz)) (va_Ql (fun (r : Int64) (_ : Unit) => r.toInt = fk_least w s1) (fk_Bd D (fk_ty cJ cC cI cZ cK) (va_A (fk_wm cJ cI cZ am cd kn lo tn wd sg up dn of bey rnd tx pt sn ++ tl) sz) (fun _ : Unit => fk_wm cJ cI cZ am cd kn lo tn wd sg up dn of bey rnd tx pt sn ++ tl)) (va_A (fk_wm cJ cI cZ am cd kn lo tn wd sg up dn of bey rnd tx pt sn ++ tl) sz)) 0 0 (va_A (fk_wm cJ cI cZ am cd kn lo tn wd sg up dn of bey rnd tx pt sn ++ tl) sz) := by
  refine fk_ofW cX4_least 2 (some .long) (fun A => va_Ql (fun (r : Int64) (_ : Unit) => r.toInt = fk_least w s1) (fk_Bd D (fk_ty cJ cC cI cZ cK) A (fun _ : Unit => fk_wm cJ cI cZ am cd kn lo tn wd sg up dn of bey rnd tx pt sn ++ tl)) A) rfl (by decide) (Nat.le_of_ble_eq_true rfl) ?_
  intro p e s m below meth c A ls args QQ hQQ hAt hP hK hN hD hA hS hl
  obtain ⟨⟨hx, hb, hml, hown, hts⟩, hr, hlocks, hin⟩ := hAt
  have hl : lv_has ls 2 [(0, .ref (am 0)), (1, .int (nI i))] := hl
  have k1 := hts (.fieldLink RX4 13 "FixedKindsModel" "signed" "[Z") (by decide +kernel)
  have k2 := (by decide +kernel : ∀ w ∈ u_ws RX4 TX4 14, w ∈ wsX4_least)
  have k3 := hts (.fieldLink RX4 7 "FixedKindsModel" "width" "[I") (by decide +kernel)
  have k4 := hts (.constantLong RX4 95 (-9223372036854775808)) (by decide +kernel)
  obtain ⟨h8, h64, h01, hs64⟩ := id hwd
  refine lv_aload_n hx hb dX4_least_0 rfl (lv_at hl 0 rfl) ?_
  refine va_get (D := D) (ci := 5) (v := .ref (am 2)) (C := RX4) (T := TX4) (N := 14) hx hb hts k2 hown hK hP 0 rfl rfl 3 (by decide) k1 (fun _ h9 => h9) rfl dX4_least_1 ?_
  refine lv_iload_n hx hb dX4_least_4 rfl (lv_at hl 1 rfl) ?_
  refine fk_zald hx hb hK hP 2 3 rfl rfl (i := i) hi (by decide) dX4_least_5 ?_
  rw [hsi]
  refine lv_if_ne (tgt := 13) hx hb dX4_least_6 (by decide) (fun c_6 => ?_) (fun c_6 => ?_)
  · refine lv_aload_n hx hb dX4_least_13 rfl (lv_at hl 0 rfl) ?_
    refine va_get (D := D) (ci := 5) (v := .ref (am 1)) (C := RX4) (T := TX4) (N := 14) hx hb hts k2 hown hK hP 0 rfl rfl 2 (by decide) k3 (fun _ h9 => h9) rfl dX4_least_14 ?_
    refine lv_iload_n hx hb dX4_least_17 rfl (lv_at hl 1 rfl) ?_
    refine fk_iald hx hb hK hP 1 2 rfl rfl (i := i) hi (by decide) dX4_least_18 ?_
    rw [hwi]
    refine lv_bipush (v := 64) hx hb dX4_least_19 (by decide) ?_
    refine lv_icmp_ne (tgt := 30) hx hb dX4_least_21 (by decide) (fun c_21 => ?_) (fun c_21 => ?_)
    · have h63 : w < 64 := by rcases Nat.lt_or_ge w 64 with q | q; exact q; exact absurd (by rw [show w = 64 by omega]; rfl) c_21
      refine lv_lconst (v := 1) hx hb dX4_least_30 (by decide) ?_
      refine lv_aload_n hx hb dX4_least_31 rfl (lv_at hl 0 rfl) ?_
      refine va_get (D := D) (ci := 5) (v := .ref (am 1)) (C := RX4) (T := TX4) (N := 14) hx hb hts k2 hown hK hP 0 rfl rfl 2 (by decide) k3 (fun _ h9 => h9) rfl dX4_least_32 ?_
      refine lv_iload_n hx hb dX4_least_35 rfl (lv_at hl 1 rfl) ?_
      refine fk_iald hx hb hK hP 1 2 rfl rfl (i := i) hi (by decide) dX4_least_36 ?_
      rw [hwi]
      refine lv_iconst (v := 1) hx hb dX4_least_37 (by decide) ?_
      refine lv_isub hx hb dX4_least_38 ?_
      refine lv_topi (fun x1 ex1 => ?_)
      have ex1q : x1 = nI (w - 1) := by
        rw [ex1]; exact pk_sub (a := w) (b := 1) (by omega)
      subst ex1q
      refine lv_lshl hx hb dX4_least_39 rfl ?_
      refine lv_lneg hx hb dX4_least_40 ?_
      refine lv_topl (fun x2 ex2 => ?_)
      rw [hQQ]
      exact W.lret (v := x2) hx hb hr (fun t ht hW => ⟨⟨x2, (), rfl, (by show _ = _; rw [fk_least, if_neg c_6, ex2]; exact fk_neg_sh w h63 h8), by rw [ht]; exact hP, va_K.moved hW.alike hK, hD⟩, hS.F ht⟩) hS.2.2 dX4_least_41
    · have hw64 : w = 64 := by have q := (nI_eq (a := w) (b := 64) (by omega) (by omega)).mp c_21; exact q
      refine lv_ldc2 (v := (-9223372036854775808)) hx hb hown k4 dX4_least_24 ?_
      refine lv_goto (tgt := 41) hx hb dX4_least_27 (by decide) ?_
      rw [hQQ]
      exact W.lret (v := (-9223372036854775808)) hx hb hr (fun t ht hW => ⟨⟨(-9223372036854775808), (), rfl, (by show _ = _; subst hw64; rw [fk_least, if_neg c_6]; decide), by rw [ht]; exact hP, va_K.moved hW.alike hK, hD⟩, hS.F ht⟩) hS.2.2 dX4_least_41
  · have h63 : w < 64 := by rcases Nat.lt_or_ge w 64 with q | q; exact q; exact absurd (hs64 (by omega)) (by rw [c_6]; decide)
    refine lv_lconst (v := 0) hx hb dX4_least_9 (by decide) ?_
    refine lv_goto (tgt := 41) hx hb dX4_least_10 (by decide) ?_
    rw [hQQ]
    exact W.lret (v := 0) hx hb hr (fun t ht hW => ⟨⟨0, (), rfl, (by show _ = _; rw [fk_least, if_pos c_6]; decide), by rw [ht]; exact hP, va_K.moved hW.alike hK, hD⟩, hS.F ht⟩) hS.2.2 dX4_least_41
abbrev rmX4_most : Room := { frames := 0, cells := 0, slots := 0, locals := 0 }
set_option maxHeartbeats 4000000 in
set_option maxRecDepth 100000 in
/-- most -/
theorem kX4_most {l : Launch} {D : va_G} {cJ cC cI cZ cK : ClassId} (sz : Nat) (am : Nat → Nat) (tl : va_W) (cd kn lo tn : Int32) (wd sg : Nat → Int32) (up dn of : Nat → Int64) (bey rnd tx pt sn : Nat → Int32) (i w : Nat) (s1 : Int32) (hi : i < 41) (hwd : fk_wd w s1) (hwi : wd i = nI w) (hsi : sg i = s1) : Met l yX4_most wsX4_most rmX4_most (va_Pc [.ref (am 0), .int (nI i)] (fk_pre D (fk_ty cJ cC cI cZ cK) (fk_wm cJ cI cZ am cd kn lo tn wd sg up dn of bey rnd tx pt sn ++ tl) sz)) (va_Ql (fun (r : Int64) (_ : Unit) => r.toInt = fk_most w s1) (fk_Bd D (fk_ty cJ cC cI cZ cK) (va_A (fk_wm cJ cI cZ am cd kn lo tn wd sg up dn of bey rnd tx pt sn ++ tl) sz) (fun _ : Unit => fk_wm cJ cI cZ am cd kn lo tn wd sg up dn of bey rnd tx pt sn ++ tl)) (va_A (fk_wm cJ cI cZ am cd kn lo tn wd sg up dn of bey rnd tx pt sn ++ tl) sz)) 0 0 (va_A (fk_wm cJ cI cZ am cd kn lo tn wd sg up dn of bey rnd tx pt sn ++ tl) sz) := by
  refine fk_ofW cX4_most 2 (some .long) (fun A => va_Ql (fun (r : Int64) (_ : Unit) => r.toInt = fk_most w s1) (fk_Bd D (fk_ty cJ cC cI cZ cK) A (fun _ : Unit => fk_wm cJ cI cZ am cd kn lo tn wd sg up dn of bey rnd tx pt sn ++ tl)) A) rfl (by decide) (Nat.le_of_ble_eq_true rfl) ?_
  intro p e s m below meth c A ls args QQ hQQ hAt hP hK hN hD hA hS hl
  obtain ⟨⟨hx, hb, hml, hown, hts⟩, hr, hlocks, hin⟩ := hAt
  have hl : lv_has ls 2 [(0, .ref (am 0)), (1, .int (nI i))] := hl
  have k1 := hts (.fieldLink RX4 13 "FixedKindsModel" "signed" "[Z") (by decide +kernel)
  have k2 := (by decide +kernel : ∀ w ∈ u_ws RX4 TX4 14, w ∈ wsX4_most)
  have k3 := hts (.fieldLink RX4 7 "FixedKindsModel" "width" "[I") (by decide +kernel)
  have k4 := hts (.constantLong RX4 97 9223372036854775807) (by decide +kernel)
  obtain ⟨h8, h64, h01, hs64⟩ := id hwd
  refine lv_aload_n hx hb dX4_most_0 rfl (lv_at hl 0 rfl) ?_
  refine va_get (D := D) (ci := 5) (v := .ref (am 2)) (C := RX4) (T := TX4) (N := 14) hx hb hts k2 hown hK hP 0 rfl rfl 3 (by decide) k1 (fun _ h9 => h9) rfl dX4_most_1 ?_
  refine lv_iload_n hx hb dX4_most_4 rfl (lv_at hl 1 rfl) ?_
  refine fk_zald hx hb hK hP 2 3 rfl rfl (i := i) hi (by decide) dX4_most_5 ?_
  rw [hsi]
  refine lv_if_ne (tgt := 22) hx hb dX4_most_6 (by decide) (fun c_6 => ?_) (fun c_6 => ?_)
  · refine lv_aload_n hx hb dX4_most_22 rfl (lv_at hl 0 rfl) ?_
    refine va_get (D := D) (ci := 5) (v := .ref (am 1)) (C := RX4) (T := TX4) (N := 14) hx hb hts k2 hown hK hP 0 rfl rfl 2 (by decide) k3 (fun _ h9 => h9) rfl dX4_most_23 ?_
    refine lv_iload_n hx hb dX4_most_26 rfl (lv_at hl 1 rfl) ?_
    refine fk_iald hx hb hK hP 1 2 rfl rfl (i := i) hi (by decide) dX4_most_27 ?_
    rw [hwi]
    refine lv_bipush (v := 64) hx hb dX4_most_28 (by decide) ?_
    refine lv_icmp_ne (tgt := 39) hx hb dX4_most_30 (by decide) (fun c_30 => ?_) (fun c_30 => ?_)
    · have h63 : w < 64 := by rcases Nat.lt_or_ge w 64 with q | q; exact q; exact absurd (by rw [show w = 64 by omega]; rfl) c_30
      refine lv_lconst (v := 1) hx hb dX4_most_39 (by decide) ?_
      refine lv_aload_n hx hb dX4_most_40 rfl (lv_at hl 0 rfl) ?_
      refine va_get (D := D) (ci := 5) (v := .ref (am 1)) (C := RX4) (T := TX4) (N := 14) hx hb hts k2 hown hK hP 0 rfl rfl 2 (by decide) k3 (fun _ h9 => h9) rfl dX4_most_41 ?_
      refine lv_iload_n hx hb dX4_most_44 rfl (lv_at hl 1 rfl) ?_
      refine fk_iald hx hb hK hP 1 2 rfl rfl (i := i) hi (by decide) dX4_most_45 ?_
      rw [hwi]
      refine lv_iconst (v := 1) hx hb dX4_most_46 (by decide) ?_
      refine lv_isub hx hb dX4_most_47 ?_
      refine lv_topi (fun x1 ex1 => ?_)
      have ex1q : x1 = nI (w - 1) := by
        rw [ex1]; exact pk_sub (a := w) (b := 1) (by omega)
      subst ex1q
      refine lv_lshl hx hb dX4_most_48 rfl ?_
      refine lv_lconst (v := 1) hx hb dX4_most_49 (by decide) ?_
      refine lv_lsub hx hb dX4_most_50 ?_
      refine lv_topl (fun x2 ex2 => ?_)
      rw [hQQ]
      exact W.lret (v := x2) hx hb hr (fun t ht hW => ⟨⟨x2, (), rfl, (by show _ = _; rw [fk_most, if_neg c_6, ex2]; exact fk_most_sg w h63 h8), by rw [ht]; exact hP, va_K.moved hW.alike hK, hD⟩, hS.F ht⟩) hS.2.2 dX4_most_51
    · have hw64 : w = 64 := by have q := (nI_eq (a := w) (b := 64) (by omega) (by omega)).mp c_30; exact q
      refine lv_ldc2 (v := 9223372036854775807) hx hb hown k4 dX4_most_33 ?_
      refine lv_goto (tgt := 51) hx hb dX4_most_36 (by decide) ?_
      rw [hQQ]
      exact W.lret (v := 9223372036854775807) hx hb hr (fun t ht hW => ⟨⟨9223372036854775807, (), rfl, (by show _ = _; subst hw64; rw [fk_most, if_neg c_6]; decide), by rw [ht]; exact hP, va_K.moved hW.alike hK, hD⟩, hS.F ht⟩) hS.2.2 dX4_most_51
  · have h63 : w < 64 := by rcases Nat.lt_or_ge w 64 with q | q; exact q; exact absurd (hs64 (by omega)) (by rw [c_6]; decide)
    refine lv_lconst (v := 1) hx hb dX4_most_9 (by decide) ?_
    refine lv_aload_n hx hb dX4_most_10 rfl (lv_at hl 0 rfl) ?_
    refine va_get (D := D) (ci := 5) (v := .ref (am 1)) (C := RX4) (T := TX4) (N := 14) hx hb hts k2 hown hK hP 0 rfl rfl 2 (by decide) k3 (fun _ h9 => h9) rfl dX4_most_11 ?_
    refine lv_iload_n hx hb dX4_most_14 rfl (lv_at hl 1 rfl) ?_
    refine fk_iald hx hb hK hP 1 2 rfl rfl (i := i) hi (by decide) dX4_most_15 ?_
    rw [hwi]
    refine lv_lshl hx hb dX4_most_16 rfl ?_
    refine lv_lconst (v := 1) hx hb dX4_most_17 (by decide) ?_
    refine lv_lsub hx hb dX4_most_18 ?_
    refine lv_topl (fun x3 ex3 => ?_)
    refine lv_goto (tgt := 51) hx hb dX4_most_19 (by decide) ?_
    rw [hQQ]
    exact W.lret (v := x3) hx hb hr (fun t ht hW => ⟨⟨x3, (), rfl, (by show _ = _; rw [fk_most, if_pos c_6, ex3]; exact fk_most_un w h63 h8), by rw [ht]; exact hP, va_K.moved hW.alike hK, hD⟩, hS.F ht⟩) hS.2.2 dX4_most_51
theorem fk_no_dec (n : Nat) (k : Int32) : fk_no n k ∨ ¬ fk_no n k := Classical.em _
abbrev rmX4_none : Room := { frames := 0, cells := 0, slots := 0, locals := 0 }
set_option maxHeartbeats 4000000 in
set_option maxRecDepth 100000 in
/-- none -/
theorem kX4_none {l : Launch} {D : va_G} {cJ cC cI cZ cK : ClassId} (sz : Nat) (am : Nat → Nat) (tl : va_W) (cd lo tn : Int32) (wd sg : Nat → Int32) (up dn of : Nat → Int64) (bey rnd tx pt sn : Nat → Int32) (n : Nat) (num : Int32) (hn : n ≤ 40) : Met l yX4_none wsX4_none rmX4_none (va_Pc [.ref (am 0), .int num] (fk_pre D (fk_ty cJ cC cI cZ cK) (fk_wm cJ cI cZ am cd (nI n) lo tn wd sg up dn of bey rnd tx pt sn ++ tl) sz)) (va_Qi (fun (r : Int32) (_ : Unit) => r = if num.toInt < 1 ∨ (n : Int) < num.toInt then 1 else 0) (fk_Bd D (fk_ty cJ cC cI cZ cK) (va_A (fk_wm cJ cI cZ am cd (nI n) lo tn wd sg up dn of bey rnd tx pt sn ++ tl) sz) (fun _ : Unit => fk_wm cJ cI cZ am 0 (nI n) lo tn wd sg up dn of bey rnd tx pt sn ++ tl)) (va_A (fk_wm cJ cI cZ am cd (nI n) lo tn wd sg up dn of bey rnd tx pt sn ++ tl) sz)) 0 0 (va_A (fk_wm cJ cI cZ am cd (nI n) lo tn wd sg up dn of bey rnd tx pt sn ++ tl) sz) := by
  refine fk_ofW cX4_none 2 (some .boolean) (fun A => va_Qi (fun (r : Int32) (_ : Unit) => r = if num.toInt < 1 ∨ (n : Int) < num.toInt then 1 else 0) (fk_Bd D (fk_ty cJ cC cI cZ cK) A (fun _ : Unit => fk_wm cJ cI cZ am 0 (nI n) lo tn wd sg up dn of bey rnd tx pt sn ++ tl)) A) rfl (by decide) (Nat.le_of_ble_eq_true rfl) ?_
  intro p e s m below meth c A ls args QQ hQQ hAt hP hK hN hD hA hS hl
  obtain ⟨⟨hx, hb, hml, hown, hts⟩, hr, hlocks, hin⟩ := hAt
  have hl : lv_has ls 2 [(0, .ref (am 0)), (1, .int num)] := hl
  have k1 := hts (.fieldLink RX4 42 "FixedKindsModel" "code" "I") (by decide +kernel)
  have k2 := (by decide +kernel : ∀ w ∈ u_ws RX4 TX4 14, w ∈ wsX4_none)
  have k3 := hts (.fieldLink RX4 79 "FixedKindsModel" "kinds" "I") (by decide +kernel)
  refine lv_aload_n hx hb dX4_none_0 rfl (lv_at hl 0 rfl) ?_
  refine lv_iconst (v := 0) hx hb dX4_none_1 (by decide) ?_
  refine va_put (D := D) (ci := 5) (v := .int 0) (ty := (.int)) (C := RX4) (T := TX4) (N := 14) hx hb hts k2 tyX4 tyX4_ok nmX4 hown hK hP hD hS 0 rfl rfl 0 (by decide) k1 (fun _ h9 => h9) rfl (by decide +kernel) rfl rfl (Nat.le_of_ble_eq_true rfl) dX4_none_2 (fun H locs hP hD hS => ?_)
  have hP : va_P D vwCl (fk_wm cJ cI cZ am 0 (nI n) lo tn wd sg up dn of bey rnd tx pt sn ++ tl) H := hP
  have hD : va_D A (fk_wm cJ cI cZ am 0 (nI n) lo tn wd sg up dn of bey rnd tx pt sn ++ tl) := hD
  refine lv_iload_n hx hb dX4_none_5 rfl (lv_at hl 1 rfl) ?_
  refine lv_iconst (v := 1) hx hb dX4_none_6 (by decide) ?_
  refine lv_icmp_lt (tgt := 18) hx hb dX4_none_7 (by decide) (fun c_7 => ?_) (fun c_7 => ?_)
  · rw [Int32.lt_iff_toInt_lt, show (1 : Int32).toInt = 1 by decide] at c_7
    refine lv_iconst (v := 1) hx hb dX4_none_18 (by decide) ?_
    refine lv_goto (tgt := 23) hx hb dX4_none_19 (by decide) ?_
    rw [hQQ]
    exact W.zret (v := 1) hx hb hr rfl (fun t ht hW => ⟨⟨1, (), rfl, (by show _ = _; rw [if_pos (Or.inl c_7)]), by rw [ht]; exact hP, va_K.moved hW.alike hK, hD⟩, hS.F ht⟩) hS.2.2 dX4_none_23
  · rw [Int32.lt_iff_toInt_lt, show (1 : Int32).toInt = 1 by decide] at c_7
    refine lv_iload_n hx hb dX4_none_10 rfl (lv_at hl 1 rfl) ?_
    refine lv_aload_n hx hb dX4_none_11 rfl (lv_at hl 0 rfl) ?_
    refine va_get (D := D) (ci := 5) (v := .int (nI n)) (C := RX4) (T := TX4) (N := 14) hx hb hts k2 hown hK hP 0 rfl rfl 1 (by decide) k3 (fun _ h9 => h9) rfl dX4_none_12 ?_
    refine lv_icmp_le (tgt := 22) hx hb dX4_none_15 (by decide) (fun c_15 => ?_) (fun c_15 => ?_)
    · rw [Int32.le_iff_toInt_le, nI_toInt (by omega)] at c_15
      refine lv_iconst (v := 0) hx hb dX4_none_22 (by decide) ?_
      rw [hQQ]
      exact W.zret (v := 0) hx hb hr rfl (fun t ht hW => ⟨⟨0, (), rfl, (by show _ = _; rw [if_neg (fun q => by rcases q with q | q <;> omega)]), by rw [ht]; exact hP, va_K.moved hW.alike hK, hD⟩, hS.F ht⟩) hS.2.2 dX4_none_23
    · rw [Int32.le_iff_toInt_le, nI_toInt (by omega)] at c_15
      refine lv_iconst (v := 1) hx hb dX4_none_18 (by decide) ?_
      refine lv_goto (tgt := 23) hx hb dX4_none_19 (by decide) ?_
      rw [hQQ]
      exact W.zret (v := 1) hx hb hr rfl (fun t ht hW => ⟨⟨1, (), rfl, (by show _ = _; rw [if_pos (Or.inr (by omega))]), by rw [ht]; exact hP, va_K.moved hW.alike hK, hD⟩, hS.F ht⟩) hS.2.2 dX4_none_23
