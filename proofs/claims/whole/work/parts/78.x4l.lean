/-! Reference: octet, half, rule, at, by program -/
theorem fk_i8 {a c : Int} (h : a % 256 = c % 256) : (Int32.ofInt a).toInt8 = (Int32.ofInt c).toInt8 := by
  apply Int8.toInt_inj.mp
  rw [Int32.toInt_toInt8, Int32.toInt_toInt8, Int32.toInt_ofInt, Int32.toInt_ofInt]
  rw [Int.bmod_bmod_of_dvd (by decide), Int.bmod_bmod_of_dvd (by decide), Int.bmod_def, Int.bmod_def]
  show (if a % 256 < _ then a % 256 else a % 256 - 256) = (if c % 256 < _ then c % 256 else c % 256 - 256)
  rw [h]
theorem fk_i16 {a c : Int} (h : a % 65536 = c % 65536) : (Int32.ofInt a).toInt16 = (Int32.ofInt c).toInt16 := by
  apply Int16.toInt_inj.mp
  rw [Int32.toInt_toInt16, Int32.toInt_toInt16, Int32.toInt_ofInt, Int32.toInt_ofInt]
  rw [Int.bmod_bmod_of_dvd (by decide), Int.bmod_bmod_of_dvd (by decide), Int.bmod_def, Int.bmod_def]
  show (if a % 65536 < _ then a % 65536 else a % 65536 - 65536) = (if c % 65536 < _ then c % 65536 else c % 65536 - 65536)
  rw [h]
theorem fk_l2iT {x : Int64} : x.toInt32 = Int32.ofInt x.toInt := fk_l2i rfl
theorem fk_255 (x : Int64) : (x &&& 255).toInt = x.toInt % 256 := fk_and 8 (by omega) (by decide)
/-- a long shifted right by octets, its lowest eight bits -/
theorem fk_octM {x : Int64} {U : Int} {b : Nat} (hb : b < 8) (h : x.toInt % 18446744073709551616 = U % 18446744073709551616) : x.toInt / 2 ^ (8 * b) % 256 = U / 2 ^ (8 * b) % 256 := by
  obtain ⟨k, hk⟩ : ∃ k : Int, x.toInt = U + k * 18446744073709551616 := ⟨x.toInt / 18446744073709551616 - U / 18446744073709551616, by omega⟩
  have p := fk_2p (8 * b)
  have e : (18446744073709551616 : Int) = 2 ^ (56 - 8 * b) * 256 * 2 ^ (8 * b) := by
    rw [show (256 : Int) = 2 ^ 8 by decide, ← fk_2a, ← fk_2a, show 56 - 8 * b + 8 + 8 * b = 64 by omega]; decide
  rw [hk, e, ← Int.mul_assoc, Int.add_mul_ediv_right _ _ (by omega), ← Int.mul_assoc, Int.add_mul_emod_self_right]
abbrev rmX4_octet : Room := { frames := 1, cells := 0, slots := 0, locals := 23 }
set_option maxHeartbeats 4000000 in
set_option maxRecDepth 100000 in
/-- octet -/
theorem kX4_octet {l : Launch} {D : va_G} {cJ cC cI cZ cK : ClassId} (sz : Nat) (am : Nat → Nat) (tl : va_W) (cd lo tn : Int32) (wd sg : Nat → Int32) (up dn of : Nat → Int64) (bey rnd tx pt sn : Nat → Int32) (n : Nat) (kf : Nat → fk_K) (num i0 : Int32) (v : Int64) (hMT : fk_MT n kf wd sg up dn of bey rnd) : Met l yX4_octet wsX4_octet rmX4_octet (va_Pc [.ref (am 0), .int num, .long v, .int i0] (fk_pre D (fk_ty cJ cC cI cZ cK) (fk_wm cJ cI cZ am cd (nI n) lo tn wd sg up dn of bey rnd tx pt sn ++ tl) sz)) (va_Qi (fun (r : Int32) (_ : Unit) => r = fk_sOct n kf num v i0) (fk_Bd D (fk_ty cJ cC cI cZ cK) (va_A (fk_wm cJ cI cZ am cd (nI n) lo tn wd sg up dn of bey rnd tx pt sn ++ tl) sz) (fun _ : Unit => fk_wm cJ cI cZ am 0 (nI n) lo tn wd sg up dn of bey rnd tx pt sn ++ tl)) (va_A (fk_wm cJ cI cZ am cd (nI n) lo tn wd sg up dn of bey rnd tx pt sn ++ tl) sz)) 0 0 (va_A (fk_wm cJ cI cZ am cd (nI n) lo tn wd sg up dn of bey rnd tx pt sn ++ tl) sz) := by
  refine fk_ofW cX4_octet 5 (some .byte) (fun A => va_Qi (fun (r : Int32) (_ : Unit) => r = fk_sOct n kf num v i0) (fk_Bd D (fk_ty cJ cC cI cZ cK) A (fun _ : Unit => fk_wm cJ cI cZ am 0 (nI n) lo tn wd sg up dn of bey rnd tx pt sn ++ tl)) A) rfl (by decide) (Nat.le_of_ble_eq_true rfl) ?_
  intro p e s m below meth c A ls args QQ hQQ hAt hP hK hN hD hA hS hl
  obtain ⟨⟨hx, hb, hml, hown, hts⟩, hr, hlocks, hin⟩ := hAt
  have hl : lv_has ls 5 [(0, .ref (am 0)), (1, .int num), (2, .long v), (4, .int i0)] := hl
  have k1 := hts (.fieldLink RX4 7 "FixedKindsModel" "width" "[I") (by decide +kernel)
  have k2 := (by decide +kernel : ∀ w ∈ u_ws RX4 TX4 14, w ∈ wsX4_octet)
  have k3 := hts (.constantLong RX4 151 255) (by decide +kernel)
  have hn40 := hMT.1
  refine lv_aload_n hx hb dX4_octet_0 rfl (lv_at hl 0 rfl) ?_
  refine lv_iload_n hx hb dX4_octet_1 rfl (lv_at hl 1 rfl) ?_
  refine fk_ci hD hS hA (va_runV (As := [.int num]) (rest := []) ⟨hx, hb, hml, hown, hts⟩ (kX4_none _ am tl cd lo tn wd sg up dn of bey rnd tx pt sn n num hn40) (cwV 1 hts gX4_octet_X4_none rfl rfl rfl (by decide +kernel) ⟨Nat.le_of_ble_eq_true rfl, Nat.le_of_ble_eq_true rfl⟩) (fk_preV 0 5 hK hN hP hD rfl rfl) rfl rfl hl.1 rfl (lv_room (Nat.le_of_ble_eq_true rfl)) dX4_octet_2 ⟨Nat.le_of_ble_eq_true rfl, Nat.le_of_ble_eq_true rfl⟩) (fun r1 u H locs hw hP hD hS => ?_)
  have hP : va_P D vwCl (fk_wm cJ cI cZ am 0 (nI n) lo tn wd sg up dn of bey rnd tx pt sn ++ tl) H := hP
  have hD : va_D A (fk_wm cJ cI cZ am 0 (nI n) lo tn wd sg up dn of bey rnd tx pt sn ++ tl) := hD
  have zn_j := hw
  refine lv_if_ne (tgt := 30) hx hb dX4_octet_5 (by decide) (fun c_5 => ?_) (fun c_5 => ?_)
  · have hno_j : fk_no n num := by by_cases q : (num.toInt < 1 ∨ (n : Int) < num.toInt); exact q; rw [zn_j, if_neg q] at c_5; exact absurd rfl c_5
    refine lv_iconst (v := 0) hx hb dX4_octet_30 (by decide) ?_
    rw [hQQ]
    exact W.zret (v := 0) hx hb hr rfl (fun t ht hW => ⟨⟨0, (), rfl, (by rw [fk_sOct, if_pos (Or.inl hno_j)]), by rw [ht]; exact hP, va_K.moved hW.alike hK, hD⟩, hS.F ht⟩) hS.2.2 dX4_octet_31
  · have hyes_j : ¬ (num.toInt < 1 ∨ (n : Int) < num.toInt) := by intro q; rw [zn_j, if_pos q] at c_5; exact absurd c_5 (by decide)
    obtain ⟨j, hj, hn_j⟩ : ∃ j : Nat, j < n ∧ num = nI (j + 1) := ⟨num.toInt.toNat - 1, by omega, by apply Int32.toInt_inj.mp; rw [nI_toInt (by omega)]; omega⟩
    subst hn_j
    obtain ⟨e1_j, e2_j, e3_j, e4_j, e5_j, e6_j, e7_j, ok_j⟩ := hMT.2.1 j hj
    have okw_j := ok_j.1.1
    refine lv_iload hx hb dX4_octet_8 (lv_at hl 3 rfl) ?_
    refine lv_if_lt (tgt := 30) hx hb dX4_octet_10 (by decide) (fun c_10 => ?_) (fun c_10 => ?_)
    · rw [Int32.lt_iff_toInt_lt, show (0 : Int32).toInt = 0 by decide] at c_10
      refine lv_iconst (v := 0) hx hb dX4_octet_30 (by decide) ?_
      rw [hQQ]
      exact W.zret (v := 0) hx hb hr rfl (fun t ht hW => ⟨⟨0, (), rfl, (by rw [fk_sOct, if_pos (by rw [fk_ix_j hj hn40]; exact Or.inr (Or.inl c_10))]), by rw [ht]; exact hP, va_K.moved hW.alike hK, hD⟩, hS.F ht⟩) hS.2.2 dX4_octet_31
    · rw [Int32.lt_iff_toInt_lt, show (0 : Int32).toInt = 0 by decide] at c_10
      refine lv_iload hx hb dX4_octet_13 (lv_at hl 3 rfl) ?_
      refine lv_aload_n hx hb dX4_octet_15 rfl (lv_at hl 0 rfl) ?_
      refine va_get (D := D) (ci := 5) (v := .ref (am 1)) (C := RX4) (T := TX4) (N := 14) hx hb hts k2 hown hK hP 0 rfl rfl 2 (by decide) k1 (fun _ h9 => h9) rfl dX4_octet_16 ?_
      refine lv_iload_n hx hb dX4_octet_19 rfl (lv_at hl 1 rfl) ?_
      refine fk_iald hx hb hK hP 1 2 rfl rfl (i := j + 1) (by omega) (by decide) dX4_octet_20 ?_
      rw [e1_j]
      have hw64 := okw_j.2.1
      refine lv_bipush (v := 7) hx hb dX4_octet_21 (by decide) ?_
      refine lv_iadd hx hb dX4_octet_23 ?_
      refine lv_topi (fun x2 ex2 => ?_)
      have ex2q : x2 = nI ((kf j).1 + 7) := by
        rw [ex2]; exact nI_add (kf j).1 7
      subst ex2q
      refine lv_bipush (v := 8) hx hb dX4_octet_24 (by decide) ?_
      refine lv_idiv hx hb dX4_octet_26 (by decide) ?_
      refine lv_topi (fun x3 ex3 => ?_)
      have ex3q : x3 = nI (((kf j).1 + 7) / 8) := by
        rw [ex3]; exact pk_div (a := (kf j).1 + 7) (d := 8) (by omega) (by omega) (by omega)
      subst ex3q
      refine lv_icmp_lt (tgt := 32) hx hb dX4_octet_27 (by decide) (fun c_27 => ?_) (fun c_27 => ?_)
      · rw [Int32.lt_iff_toInt_lt, nI_toInt (by omega)] at c_27
        obtain ⟨b, hb8, hbi⟩ : ∃ b : Nat, b < 8 ∧ i0 = nI b := ⟨i0.toInt.toNat, by omega, by apply Int32.toInt_inj.mp; rw [nI_toInt (by omega)]; omega⟩
        subst hbi
        rw [nI_toInt (by omega)] at c_27 c_10
        refine lv_aload_n hx hb dX4_octet_32 rfl (lv_at hl 0 rfl) ?_
        refine lv_iload_n hx hb dX4_octet_33 rfl (lv_at hl 1 rfl) ?_
        refine lv_lload_n hx hb dX4_octet_34 rfl (lv_at hl 2 rfl) ?_
        refine fk_cl hD hS hA (va_runV (As := [.int (nI (j + 1)), .long v]) (rest := []) ⟨hx, hb, hml, hown, hts⟩ (kX4_unsigned _ am tl 0 (nI n) lo tn wd sg up dn of bey rnd tx pt sn (j + 1) (kf j).1 (kf j).2.1 v (by omega) okw_j e1_j e2_j) (cwV 2 hts gX4_octet_X4_unsigned rfl rfl rfl (by decide +kernel) ⟨Nat.le_of_ble_eq_true rfl, Nat.le_of_ble_eq_true rfl⟩) (fk_preV 0 5 hK hN hP hD rfl rfl) rfl rfl hl.1 rfl (lv_room (Nat.le_of_ble_eq_true rfl)) dX4_octet_35 ⟨Nat.le_of_ble_eq_true rfl, Nat.le_of_ble_eq_true rfl⟩) (fun r4 u H locs hw hP hD hS => ?_)
        have hP : va_P D vwCl (fk_wm cJ cI cZ am 0 (nI n) lo tn wd sg up dn of bey rnd tx pt sn ++ tl) H := hP
        have hD : va_D A (fk_wm cJ cI cZ am 0 (nI n) lo tn wd sg up dn of bey rnd tx pt sn ++ tl) := hD
        have hU := hw
        refine lv_bipush (v := 8) hx hb dX4_octet_38 (by decide) ?_
        refine lv_iload hx hb dX4_octet_40 (lv_at hl 3 rfl) ?_
        refine lv_imul hx hb dX4_octet_42 ?_
        refine lv_topi (fun x5 ex5 => ?_)
        have ex5q : x5 = nI (8 * b) := by
          rw [ex5]; exact pk_mul 8 b
        subst ex5q
        refine lv_lshr hx hb dX4_octet_43 rfl ?_
        refine lv_topl (fun x6 ex6 => ?_)
        refine lv_ldc2 (v := 255) hx hb hown k3 dX4_octet_44 ?_
        refine lv_land hx hb dX4_octet_47 ?_
        refine lv_topl (fun x7 ex7 => ?_)
        refine lv_l2i hx hb dX4_octet_48 rfl ?_
        refine lv_topi (fun x8 ex8 => ?_)
        refine lv_i2b hx hb dX4_octet_49 rfl ?_
        refine lv_topi (fun x9 ex9 => ?_)
        have hU2 : r4.toInt % 18446744073709551616 = (v.toInt % 2 ^ (kf j).1) % 18446744073709551616 := by
          have q := fk_mod64 hw64 v.toInt 0
          rw [Int.pow_zero, Int.ediv_one] at q
          rw [q]; exact hU
        have hx8 : x8.toInt8 = (Int32.ofInt (v.toInt % 2 ^ (kf j).1 / 2 ^ (8 * b))).toInt8 := by
          rw [ex8, fk_l2iT]
          apply fk_i8
          rw [ex7, fk_255, ex6, fk_shrk _ (by omega), Int.emod_emod_of_dvd _ (Int.dvd_refl _)]
          exact fk_octM hb8 hU2
        rw [hQQ]
        exact W.zret (v := x9) hx hb hr (by rw [ex9]; exact pk_nb _) (fun t ht hW => ⟨⟨x9, (), rfl, (by rw [fk_sOct, if_neg (by rw [fk_ix_j hj hn40, nI_toInt (by omega)]; exact fun q => q.elim (fk_no_j hj hn40) (fun z => by omega)), fk_ix_j hj hn40, nI_toInt (by omega), fk_oc, ex9, hx8]; rfl), by rw [ht]; exact hP, va_K.moved hW.alike hK, hD⟩, hS.F ht⟩) hS.2.2 dX4_octet_50
      · rw [Int32.lt_iff_toInt_lt, nI_toInt (by omega)] at c_27
        refine lv_iconst (v := 0) hx hb dX4_octet_30 (by decide) ?_
        rw [hQQ]
        exact W.zret (v := 0) hx hb hr rfl (fun t ht hW => ⟨⟨0, (), rfl, (by rw [fk_sOct, if_pos (by rw [fk_ix_j hj hn40]; exact Or.inr (Or.inr (by omega)))]), by rw [ht]; exact hP, va_K.moved hW.alike hK, hD⟩, hS.F ht⟩) hS.2.2 dX4_octet_31
abbrev rmX4_half : Room := { frames := 1, cells := 0, slots := 0, locals := 23 }
set_option maxHeartbeats 4000000 in
set_option maxRecDepth 100000 in
/-- half -/
theorem kX4_half {l : Launch} {D : va_G} {cJ cC cI cZ cK : ClassId} (sz : Nat) (am : Nat → Nat) (tl : va_W) (cd lo tn : Int32) (wd sg : Nat → Int32) (up dn of : Nat → Int64) (bey rnd tx pt sn : Nat → Int32) (n : Nat) (kf : Nat → fk_K) (num : Int32) (v : Int64) (hMT : fk_MT n kf wd sg up dn of bey rnd) : Met l yX4_half wsX4_half rmX4_half (va_Pc [.ref (am 0), .int num, .long v] (fk_pre D (fk_ty cJ cC cI cZ cK) (fk_wm cJ cI cZ am cd (nI n) lo tn wd sg up dn of bey rnd tx pt sn ++ tl) sz)) (va_Qi (fun (r : Int32) (_ : Unit) => r = fk_sHlf n kf num v) (fk_Bd D (fk_ty cJ cC cI cZ cK) (va_A (fk_wm cJ cI cZ am cd (nI n) lo tn wd sg up dn of bey rnd tx pt sn ++ tl) sz) (fun _ : Unit => fk_wm cJ cI cZ am 0 (nI n) lo tn wd sg up dn of bey rnd tx pt sn ++ tl)) (va_A (fk_wm cJ cI cZ am cd (nI n) lo tn wd sg up dn of bey rnd tx pt sn ++ tl) sz)) 0 0 (va_A (fk_wm cJ cI cZ am cd (nI n) lo tn wd sg up dn of bey rnd tx pt sn ++ tl) sz) := by
  refine fk_ofW cX4_half 4 (some .short) (fun A => va_Qi (fun (r : Int32) (_ : Unit) => r = fk_sHlf n kf num v) (fk_Bd D (fk_ty cJ cC cI cZ cK) A (fun _ : Unit => fk_wm cJ cI cZ am 0 (nI n) lo tn wd sg up dn of bey rnd tx pt sn ++ tl)) A) rfl (by decide) (Nat.le_of_ble_eq_true rfl) ?_
  intro p e s m below meth c A ls args QQ hQQ hAt hP hK hN hD hA hS hl
  obtain ⟨⟨hx, hb, hml, hown, hts⟩, hr, hlocks, hin⟩ := hAt
  have hl : lv_has ls 4 [(0, .ref (am 0)), (1, .int num), (2, .long v)] := hl
  have k1 := hts (.fieldLink RX4 7 "FixedKindsModel" "width" "[I") (by decide +kernel)
  have k2 := (by decide +kernel : ∀ w ∈ u_ws RX4 TX4 14, w ∈ wsX4_half)
  have k3 := hts (.constantLong RX4 46 65535) (by decide +kernel)
  have hn40 := hMT.1
  refine lv_aload_n hx hb dX4_half_0 rfl (lv_at hl 0 rfl) ?_
  refine lv_iload_n hx hb dX4_half_1 rfl (lv_at hl 1 rfl) ?_
  refine fk_ci hD hS hA (va_runV (As := [.int num]) (rest := []) ⟨hx, hb, hml, hown, hts⟩ (kX4_none _ am tl cd lo tn wd sg up dn of bey rnd tx pt sn n num hn40) (cwV 1 hts gX4_half_X4_none rfl rfl rfl (by decide +kernel) ⟨Nat.le_of_ble_eq_true rfl, Nat.le_of_ble_eq_true rfl⟩) (fk_preV 0 5 hK hN hP hD rfl rfl) rfl rfl hl.1 rfl (lv_room (Nat.le_of_ble_eq_true rfl)) dX4_half_2 ⟨Nat.le_of_ble_eq_true rfl, Nat.le_of_ble_eq_true rfl⟩) (fun r1 u H locs hw hP hD hS => ?_)
  have hP : va_P D vwCl (fk_wm cJ cI cZ am 0 (nI n) lo tn wd sg up dn of bey rnd tx pt sn ++ tl) H := hP
  have hD : va_D A (fk_wm cJ cI cZ am 0 (nI n) lo tn wd sg up dn of bey rnd tx pt sn ++ tl) := hD
  have zn_j := hw
  refine lv_if_eq (tgt := 10) hx hb dX4_half_5 (by decide) (fun c_5 => ?_) (fun c_5 => ?_)
  · have hyes_j : ¬ (num.toInt < 1 ∨ (n : Int) < num.toInt) := by intro q; rw [zn_j, if_pos q] at c_5; exact absurd c_5 (by decide)
    obtain ⟨j, hj, hn_j⟩ : ∃ j : Nat, j < n ∧ num = nI (j + 1) := ⟨num.toInt.toNat - 1, by omega, by apply Int32.toInt_inj.mp; rw [nI_toInt (by omega)]; omega⟩
    subst hn_j
    obtain ⟨e1_j, e2_j, e3_j, e4_j, e5_j, e6_j, e7_j, ok_j⟩ := hMT.2.1 j hj
    have okw_j := ok_j.1.1
    refine lv_aload_n hx hb dX4_half_10 rfl (lv_at hl 0 rfl) ?_
    refine lv_iload_n hx hb dX4_half_11 rfl (lv_at hl 1 rfl) ?_
    refine lv_lload_n hx hb dX4_half_12 rfl (lv_at hl 2 rfl) ?_
    refine fk_cl hD hS hA (va_runV (As := [.int (nI (j + 1)), .long v]) (rest := []) ⟨hx, hb, hml, hown, hts⟩ (kX4_unsigned _ am tl 0 (nI n) lo tn wd sg up dn of bey rnd tx pt sn (j + 1) (kf j).1 (kf j).2.1 v (by omega) okw_j e1_j e2_j) (cwV 2 hts gX4_half_X4_unsigned rfl rfl rfl (by decide +kernel) ⟨Nat.le_of_ble_eq_true rfl, Nat.le_of_ble_eq_true rfl⟩) (fk_preV 0 5 hK hN hP hD rfl rfl) rfl rfl hl.1 rfl (lv_room (Nat.le_of_ble_eq_true rfl)) dX4_half_13 ⟨Nat.le_of_ble_eq_true rfl, Nat.le_of_ble_eq_true rfl⟩) (fun r2 u H locs hw hP hD hS => ?_)
    have hP : va_P D vwCl (fk_wm cJ cI cZ am 0 (nI n) lo tn wd sg up dn of bey rnd tx pt sn ++ tl) H := hP
    have hD : va_D A (fk_wm cJ cI cZ am 0 (nI n) lo tn wd sg up dn of bey rnd tx pt sn ++ tl) := hD
    have hU := hw
    have hw64 := okw_j.2.1
    refine lv_aload_n hx hb dX4_half_16 rfl (lv_at hl 0 rfl) ?_
    refine va_get (D := D) (ci := 5) (v := .ref (am 1)) (C := RX4) (T := TX4) (N := 14) hx hb hts k2 hown hK hP 0 rfl rfl 2 (by decide) k1 (fun _ h9 => h9) rfl dX4_half_17 ?_
    refine lv_iload_n hx hb dX4_half_20 rfl (lv_at hl 1 rfl) ?_
    refine fk_iald hx hb hK hP 1 2 rfl rfl (i := j + 1) (by omega) (by decide) dX4_half_21 ?_
    rw [e1_j]
    refine lv_iconst (v := 1) hx hb dX4_half_22 (by decide) ?_
    refine lv_iadd hx hb dX4_half_23 ?_
    refine lv_topi (fun x3 ex3 => ?_)
    have ex3q : x3 = nI ((kf j).1 + 1) := by
      rw [ex3]; exact nI_1 (kf j).1
    subst ex3q
    refine lv_iconst (v := 2) hx hb dX4_half_24 (by decide) ?_
    refine lv_idiv hx hb dX4_half_25 (by decide) ?_
    refine lv_topi (fun x4 ex4 => ?_)
    have ex4q : x4 = nI ((kf j).1 - (kf j).1 / 2) := by
      rw [ex4, show (kf j).1 - (kf j).1 / 2 = ((kf j).1 + 1) / 2 by omega]; exact pk_div (a := (kf j).1 + 1) (d := 2) (by omega) (by omega) (by omega)
    subst ex4q
    refine lv_lushr hx hb dX4_half_26 rfl ?_
    refine lv_topl (fun x5 ex5 => ?_)
    refine lv_ldc2 (v := 65535) hx hb hown k3 dX4_half_27 ?_
    refine lv_land hx hb dX4_half_30 ?_
    refine lv_topl (fun x6 ex6 => ?_)
    refine lv_l2i hx hb dX4_half_31 rfl ?_
    refine lv_topi (fun x7 ex7 => ?_)
    refine lv_i2s hx hb dX4_half_32 rfl ?_
    refine lv_topi (fun x8 ex8 => ?_)
    have hs := fk_ushrk r2 (u := (kf j).1 - (kf j).1 / 2) (by omega)
    rw [hU, ← ex5] at hs
    have hx16 : x7.toInt16 = (Int32.ofInt (v.toInt % 2 ^ (kf j).1 / 2 ^ ((kf j).1 - (kf j).1 / 2))).toInt16 := by
      rw [ex7, fk_l2iT]
      apply fk_i16
      rw [ex6, fk_m16, ← hs]
      omega
    rw [hQQ]
    exact W.zret (v := x8) hx hb hr (by rw [ex8]; exact pk_ns _) (fun t ht hW => ⟨⟨x8, (), rfl, (by rw [fk_sHlf, if_neg (fk_no_j hj hn40), fk_ix_j hj hn40, ex8, hx16]), by rw [ht]; exact hP, va_K.moved hW.alike hK, hD⟩, hS.F ht⟩) hS.2.2 dX4_half_33
  · have hno_j : fk_no n num := by by_cases q : (num.toInt < 1 ∨ (n : Int) < num.toInt); exact q; rw [zn_j, if_neg q] at c_5; exact absurd rfl c_5
    refine lv_iconst (v := 0) hx hb dX4_half_8 (by decide) ?_
    rw [hQQ]
    exact W.zret (v := 0) hx hb hr rfl (fun t ht hW => ⟨⟨0, (), rfl, (by rw [fk_sHlf, if_pos hno_j]), by rw [ht]; exact hP, va_K.moved hW.alike hK, hD⟩, hS.F ht⟩) hS.2.2 dX4_half_9
abbrev rmX4_rule : Room := { frames := 1, cells := 0, slots := 0, locals := 21 }
set_option maxHeartbeats 4000000 in
set_option maxRecDepth 100000 in
/-- rule -/
theorem kX4_rule {l : Launch} {D : va_G} {cJ cC cI cZ cK : ClassId} (sz : Nat) (am : Nat → Nat) (tl : va_W) (cd lo tn : Int32) (wd sg : Nat → Int32) (up dn of : Nat → Int64) (bey rnd tx pt sn : Nat → Int32) (n : Nat) (kf : Nat → fk_K) (num ov rd : Int32) (hMT : fk_MT n kf wd sg up dn of bey rnd) : Met l yX4_rule wsX4_rule rmX4_rule (va_Pc [.ref (am 0), .int num, .int ov, .int rd] (fk_pre D (fk_ty cJ cC cI cZ cK) (fk_wm cJ cI cZ am cd (nI n) lo tn wd sg up dn of bey rnd tx pt sn ++ tl) sz)) (va_Qi (fun (r : Int32) (u : (Nat → Int32) × (Nat → Int32)) => (fk_no n num ∧ r = -1 ∧ u = (bey, rnd)) ∨ (¬ fk_no n num ∧ fk_badR ov rd ∧ r = -2 ∧ u = (bey, rnd)) ∨ ∃ j, j < n ∧ num = nI (j + 1) ∧ ¬ fk_badR ov rd ∧ r = 1 ∧ u = (upd bey (j + 1) ov, upd rnd (j + 1) rd)) (fk_Bd D (fk_ty cJ cC cI cZ cK) (va_A (fk_wm cJ cI cZ am cd (nI n) lo tn wd sg up dn of bey rnd tx pt sn ++ tl) sz) (fun u : (Nat → Int32) × (Nat → Int32) => fk_wm cJ cI cZ am 0 (nI n) lo tn wd sg up dn of u.1 u.2 tx pt sn ++ tl)) (va_A (fk_wm cJ cI cZ am cd (nI n) lo tn wd sg up dn of bey rnd tx pt sn ++ tl) sz)) 0 0 (va_A (fk_wm cJ cI cZ am cd (nI n) lo tn wd sg up dn of bey rnd tx pt sn ++ tl) sz) := by
  refine fk_ofW cX4_rule 4 (some .int) (fun A => va_Qi (fun (r : Int32) (u : (Nat → Int32) × (Nat → Int32)) => (fk_no n num ∧ r = -1 ∧ u = (bey, rnd)) ∨ (¬ fk_no n num ∧ fk_badR ov rd ∧ r = -2 ∧ u = (bey, rnd)) ∨ ∃ j, j < n ∧ num = nI (j + 1) ∧ ¬ fk_badR ov rd ∧ r = 1 ∧ u = (upd bey (j + 1) ov, upd rnd (j + 1) rd)) (fk_Bd D (fk_ty cJ cC cI cZ cK) A (fun u : (Nat → Int32) × (Nat → Int32) => fk_wm cJ cI cZ am 0 (nI n) lo tn wd sg up dn of u.1 u.2 tx pt sn ++ tl)) A) rfl (by decide) (Nat.le_of_ble_eq_true rfl) ?_
  intro p e s m below meth c A ls args QQ hQQ hAt hP hK hN hD hA hS hl
  obtain ⟨⟨hx, hb, hml, hown, hts⟩, hr, hlocks, hin⟩ := hAt
  have hl : lv_has ls 4 [(0, .ref (am 0)), (1, .int num), (2, .int ov), (3, .int rd)] := hl
  have k1 := hts (.fieldLink RX4 27 "FixedKindsModel" "beyond" "[I") (by decide +kernel)
  have k2 := (by decide +kernel : ∀ w ∈ u_ws RX4 TX4 14, w ∈ wsX4_rule)
  have k3 := hts (.fieldLink RX4 30 "FixedKindsModel" "rounding" "[I") (by decide +kernel)
  have hn40 := hMT.1
  refine lv_aload_n hx hb dX4_rule_0 rfl (lv_at hl 0 rfl) ?_
  refine lv_iload_n hx hb dX4_rule_1 rfl (lv_at hl 1 rfl) ?_
  refine fk_ci hD hS hA (va_runV (As := [.int num]) (rest := []) ⟨hx, hb, hml, hown, hts⟩ (kX4_none _ am tl cd lo tn wd sg up dn of bey rnd tx pt sn n num hn40) (cwV 1 hts gX4_rule_X4_none rfl rfl rfl (by decide +kernel) ⟨Nat.le_of_ble_eq_true rfl, Nat.le_of_ble_eq_true rfl⟩) (fk_preV 0 5 hK hN hP hD rfl rfl) rfl rfl hl.1 rfl (lv_room (Nat.le_of_ble_eq_true rfl)) dX4_rule_2 ⟨Nat.le_of_ble_eq_true rfl, Nat.le_of_ble_eq_true rfl⟩) (fun r1 u H locs hw hP hD hS => ?_)
  have hP : va_P D vwCl (fk_wm cJ cI cZ am 0 (nI n) lo tn wd sg up dn of bey rnd tx pt sn ++ tl) H := hP
  have hD : va_D A (fk_wm cJ cI cZ am 0 (nI n) lo tn wd sg up dn of bey rnd tx pt sn ++ tl) := hD
  have zn_j := hw
  refine lv_if_eq (tgt := 10) hx hb dX4_rule_5 (by decide) (fun c_5 => ?_) (fun c_5 => ?_)
  · have hyes_j : ¬ (num.toInt < 1 ∨ (n : Int) < num.toInt) := by intro q; rw [zn_j, if_pos q] at c_5; exact absurd c_5 (by decide)
    obtain ⟨j, hj, hn_j⟩ : ∃ j : Nat, j < n ∧ num = nI (j + 1) := ⟨num.toInt.toNat - 1, by omega, by apply Int32.toInt_inj.mp; rw [nI_toInt (by omega)]; omega⟩
    subst hn_j
    obtain ⟨e1_j, e2_j, e3_j, e4_j, e5_j, e6_j, e7_j, ok_j⟩ := hMT.2.1 j hj
    have okw_j := ok_j.1.1
    refine lv_iload_n hx hb dX4_rule_10 rfl (lv_at hl 2 rfl) ?_
    refine lv_if_lt (tgt := 28) hx hb dX4_rule_11 (by decide) (fun c_11 => ?_) (fun c_11 => ?_)
    · rw [Int32.lt_iff_toInt_lt, show (0 : Int32).toInt = 0 by decide] at c_11
      refine lv_bipush (v := (-2)) hx hb dX4_rule_28 (by decide) ?_
      rw [hQQ]
      exact W.iret (v := (-2)) hx hb hr (fun t ht hW => ⟨⟨(-2), (bey, rnd), rfl, Or.inr (Or.inl ⟨fk_no_j hj hn40, Or.inl c_11, rfl, rfl⟩), by rw [ht]; exact hP, va_K.moved hW.alike hK, hD⟩, hS.F ht⟩) hS.2.2 dX4_rule_30
    · rw [Int32.lt_iff_toInt_lt, show (0 : Int32).toInt = 0 by decide] at c_11
      refine lv_iload_n hx hb dX4_rule_14 rfl (lv_at hl 2 rfl) ?_
      refine lv_iconst (v := 2) hx hb dX4_rule_15 (by decide) ?_
      refine lv_icmp_gt (tgt := 28) hx hb dX4_rule_16 (by decide) (fun c_16 => ?_) (fun c_16 => ?_)
      · rw [Int32.lt_iff_toInt_lt, show (2 : Int32).toInt = 2 by decide] at c_16
        refine lv_bipush (v := (-2)) hx hb dX4_rule_28 (by decide) ?_
        rw [hQQ]
        exact W.iret (v := (-2)) hx hb hr (fun t ht hW => ⟨⟨(-2), (bey, rnd), rfl, Or.inr (Or.inl ⟨fk_no_j hj hn40, Or.inr (Or.inl c_16), rfl, rfl⟩), by rw [ht]; exact hP, va_K.moved hW.alike hK, hD⟩, hS.F ht⟩) hS.2.2 dX4_rule_30
      · rw [Int32.lt_iff_toInt_lt, show (2 : Int32).toInt = 2 by decide] at c_16
        refine lv_iload_n hx hb dX4_rule_19 rfl (lv_at hl 3 rfl) ?_
        refine lv_if_lt (tgt := 28) hx hb dX4_rule_20 (by decide) (fun c_20 => ?_) (fun c_20 => ?_)
        · rw [Int32.lt_iff_toInt_lt, show (0 : Int32).toInt = 0 by decide] at c_20
          refine lv_bipush (v := (-2)) hx hb dX4_rule_28 (by decide) ?_
          rw [hQQ]
          exact W.iret (v := (-2)) hx hb hr (fun t ht hW => ⟨⟨(-2), (bey, rnd), rfl, Or.inr (Or.inl ⟨fk_no_j hj hn40, Or.inr (Or.inr (Or.inl c_20)), rfl, rfl⟩), by rw [ht]; exact hP, va_K.moved hW.alike hK, hD⟩, hS.F ht⟩) hS.2.2 dX4_rule_30
        · rw [Int32.lt_iff_toInt_lt, show (0 : Int32).toInt = 0 by decide] at c_20
          refine lv_iload_n hx hb dX4_rule_23 rfl (lv_at hl 3 rfl) ?_
          refine lv_iconst (v := 3) hx hb dX4_rule_24 (by decide) ?_
          refine lv_icmp_le (tgt := 31) hx hb dX4_rule_25 (by decide) (fun c_25 => ?_) (fun c_25 => ?_)
          · rw [Int32.le_iff_toInt_le, show (3 : Int32).toInt = 3 by decide] at c_25
            refine lv_aload_n hx hb dX4_rule_31 rfl (lv_at hl 0 rfl) ?_
            refine va_get (D := D) (ci := 5) (v := .ref (am 6)) (C := RX4) (T := TX4) (N := 14) hx hb hts k2 hown hK hP 0 rfl rfl 7 (by decide) k1 (fun _ h9 => h9) rfl dX4_rule_32 ?_
            refine lv_iload_n hx hb dX4_rule_35 rfl (lv_at hl 1 rfl) ?_
            refine lv_iload_n hx hb dX4_rule_36 rfl (lv_at hl 2 rfl) ?_
            refine fk_iast hx hb hK hP hD hS 6 2 rfl rfl (i := j + 1) (by omega) (by decide) dX4_rule_37 (fun H locs hP hD hS => ?_)
            have hP : va_P D vwCl (fk_wm cJ cI cZ am 0 (nI n) lo tn wd sg up dn of (upd bey (j + 1) ov) rnd tx pt sn ++ tl) H := hP
            have hD : va_D A (fk_wm cJ cI cZ am 0 (nI n) lo tn wd sg up dn of (upd bey (j + 1) ov) rnd tx pt sn ++ tl) := hD
            refine lv_aload_n hx hb dX4_rule_38 rfl (lv_at hl 0 rfl) ?_
            refine va_get (D := D) (ci := 5) (v := .ref (am 7)) (C := RX4) (T := TX4) (N := 14) hx hb hts k2 hown hK hP 0 rfl rfl 8 (by decide) k3 (fun _ h9 => h9) rfl dX4_rule_39 ?_
            refine lv_iload_n hx hb dX4_rule_42 rfl (lv_at hl 1 rfl) ?_
            refine lv_iload_n hx hb dX4_rule_43 rfl (lv_at hl 3 rfl) ?_
            refine fk_iast hx hb hK hP hD hS 7 2 rfl rfl (i := j + 1) (by omega) (by decide) dX4_rule_44 (fun H locs hP hD hS => ?_)
            have hP : va_P D vwCl (fk_wm cJ cI cZ am 0 (nI n) lo tn wd sg up dn of (upd bey (j + 1) ov) (upd rnd (j + 1) rd) tx pt sn ++ tl) H := hP
            have hD : va_D A (fk_wm cJ cI cZ am 0 (nI n) lo tn wd sg up dn of (upd bey (j + 1) ov) (upd rnd (j + 1) rd) tx pt sn ++ tl) := hD
            refine lv_iconst (v := 1) hx hb dX4_rule_45 (by decide) ?_
            rw [hQQ]
            exact W.iret (v := 1) hx hb hr (fun t ht hW => ⟨⟨1, (upd bey (j + 1) ov, upd rnd (j + 1) rd), rfl, Or.inr (Or.inr ⟨j, hj, rfl, (fun q => by rcases q with q | q | q | q <;> omega), rfl, rfl⟩), by rw [ht]; exact hP, va_K.moved hW.alike hK, hD⟩, hS.F ht⟩) hS.2.2 dX4_rule_46
          · rw [Int32.le_iff_toInt_le, show (3 : Int32).toInt = 3 by decide] at c_25
            refine lv_bipush (v := (-2)) hx hb dX4_rule_28 (by decide) ?_
            rw [hQQ]
            exact W.iret (v := (-2)) hx hb hr (fun t ht hW => ⟨⟨(-2), (bey, rnd), rfl, Or.inr (Or.inl ⟨fk_no_j hj hn40, Or.inr (Or.inr (Or.inr (by omega))), rfl, rfl⟩), by rw [ht]; exact hP, va_K.moved hW.alike hK, hD⟩, hS.F ht⟩) hS.2.2 dX4_rule_30
  · have hno_j : fk_no n num := by by_cases q : (num.toInt < 1 ∨ (n : Int) < num.toInt); exact q; rw [zn_j, if_neg q] at c_5; exact absurd rfl c_5
    refine lv_iconst (v := (-1)) hx hb dX4_rule_8 (by decide) ?_
    rw [hQQ]
    exact W.iret (v := (-1)) hx hb hr (fun t ht hW => ⟨⟨(-1), (bey, rnd), rfl, Or.inl ⟨hno_j, rfl, rfl⟩, by rw [ht]; exact hP, va_K.moved hW.alike hK, hD⟩, hS.F ht⟩) hS.2.2 dX4_rule_9
abbrev rmX4_at : Room := { frames := 0, cells := 0, slots := 0, locals := 0 }
set_option maxHeartbeats 4000000 in
set_option maxRecDepth 100000 in
/-- at -/
theorem kX4_at {l : Launch} {D : va_G} {cJ cC cI cZ cK : ClassId} (sz : Nat) (am : Nat → Nat) (tl : va_W) (cd lo : Int32) (wd sg : Nat → Int32) (up dn of : Nat → Int64) (bey rnd tx pt sn : Nat → Int32) (n : Nat) (kf : Nat → fk_K) (tt : Nat) (i0 : Int32) (hMT : fk_MT n kf wd sg up dn of bey rnd) (htt : tt ≤ 80) : Met l yX4_at wsX4_at rmX4_at (va_Pc [.ref (am 0), .int i0] (fk_pre D (fk_ty cJ cC cI cZ cK) (fk_wm cJ cI cZ am cd (nI n) lo (nI tt) wd sg up dn of bey rnd tx pt sn ++ tl) sz)) (va_Qi (fun (r : Int32) (u : Int32) => ((i0.toInt < 0 ∨ (tt : Int) ≤ i0.toInt) ∧ r = 0 ∧ u = 1) ∨ ∃ b : Nat, b < tt ∧ i0 = nI b ∧ r = tx b ∧ u = 0) (fk_Bd D (fk_ty cJ cC cI cZ cK) (va_A (fk_wm cJ cI cZ am cd (nI n) lo (nI tt) wd sg up dn of bey rnd tx pt sn ++ tl) sz) (fun u : Int32 => fk_wm cJ cI cZ am u (nI n) lo (nI tt) wd sg up dn of bey rnd tx pt sn ++ tl)) (va_A (fk_wm cJ cI cZ am cd (nI n) lo (nI tt) wd sg up dn of bey rnd tx pt sn ++ tl) sz)) 0 0 (va_A (fk_wm cJ cI cZ am cd (nI n) lo (nI tt) wd sg up dn of bey rnd tx pt sn ++ tl) sz) := by
  refine fk_ofW cX4_at 2 (some .int) (fun A => va_Qi (fun (r : Int32) (u : Int32) => ((i0.toInt < 0 ∨ (tt : Int) ≤ i0.toInt) ∧ r = 0 ∧ u = 1) ∨ ∃ b : Nat, b < tt ∧ i0 = nI b ∧ r = tx b ∧ u = 0) (fk_Bd D (fk_ty cJ cC cI cZ cK) A (fun u : Int32 => fk_wm cJ cI cZ am u (nI n) lo (nI tt) wd sg up dn of bey rnd tx pt sn ++ tl)) A) rfl (by decide) (Nat.le_of_ble_eq_true rfl) ?_
  intro p e s m below meth c A ls args QQ hQQ hAt hP hK hN hD hA hS hl
  obtain ⟨⟨hx, hb, hml, hown, hts⟩, hr, hlocks, hin⟩ := hAt
  have hl : lv_has ls 2 [(0, .ref (am 0)), (1, .int i0)] := hl
  have k1 := hts (.fieldLink RX4 42 "FixedKindsModel" "code" "I") (by decide +kernel)
  have k2 := (by decide +kernel : ∀ w ∈ u_ws RX4 TX4 14, w ∈ wsX4_at)
  have k3 := hts (.fieldLink RX4 143 "FixedKindsModel" "textLength" "I") (by decide +kernel)
  have k4 := hts (.fieldLink RX4 33 "FixedKindsModel" "text" "[I") (by decide +kernel)
  have hn40 := hMT.1
  refine lv_aload_n hx hb dX4_at_0 rfl (lv_at hl 0 rfl) ?_
  refine lv_iload_n hx hb dX4_at_1 rfl (lv_at hl 1 rfl) ?_
  refine lv_if_lt (tgt := 13) hx hb dX4_at_2 (by decide) (fun c_2 => ?_) (fun c_2 => ?_)
  · rw [Int32.lt_iff_toInt_lt, show (0 : Int32).toInt = 0 by decide] at c_2
    have hout : i0.toInt < 0 ∨ (tt : Int) ≤ i0.toInt := Or.inl c_2
    refine lv_iconst (v := 1) hx hb dX4_at_13 (by decide) ?_
    refine lv_goto (tgt := 18) hx hb dX4_at_14 (by decide) ?_
    refine va_put (D := D) (ci := 5) (v := .int 1) (ty := (.int)) (C := RX4) (T := TX4) (N := 14) hx hb hts k2 tyX4 tyX4_ok nmX4 hown hK hP hD hS 0 rfl rfl 0 (by decide) k1 (fun _ h9 => h9) rfl (by decide +kernel) rfl rfl (Nat.le_of_ble_eq_true rfl) dX4_at_18 (fun H locs hP hD hS => ?_)
    have hP : va_P D vwCl (fk_wm cJ cI cZ am 1 (nI n) lo (nI tt) wd sg up dn of bey rnd tx pt sn ++ tl) H := hP
    have hD : va_D A (fk_wm cJ cI cZ am 1 (nI n) lo (nI tt) wd sg up dn of bey rnd tx pt sn ++ tl) := hD
    refine lv_aload_n hx hb dX4_at_21 rfl (lv_at hl 0 rfl) ?_
    refine va_get (D := D) (ci := 5) (v := .int 1) (C := RX4) (T := TX4) (N := 14) hx hb hts k2 hown hK hP 0 rfl rfl 0 (by decide) k1 (fun _ h9 => h9) rfl dX4_at_22 ?_
    refine lv_if_le (tgt := 32) hx hb dX4_at_25 (by decide) (fun c_25 => False.elim (absurd c_25 (by decide))) (fun c_25 => ?_)
    refine lv_iconst (v := 0) hx hb dX4_at_28 (by decide) ?_
    refine lv_goto (tgt := 38) hx hb dX4_at_29 (by decide) ?_
    rw [hQQ]
    exact W.iret (v := 0) hx hb hr (fun t ht hW => ⟨⟨0, 1, rfl, Or.inl ⟨hout, rfl, rfl⟩, by rw [ht]; exact hP, va_K.moved hW.alike hK, hD⟩, hS.F ht⟩) hS.2.2 dX4_at_38
  · rw [Int32.lt_iff_toInt_lt, show (0 : Int32).toInt = 0 by decide] at c_2
    refine lv_iload_n hx hb dX4_at_5 rfl (lv_at hl 1 rfl) ?_
    refine lv_aload_n hx hb dX4_at_6 rfl (lv_at hl 0 rfl) ?_
    refine va_get (D := D) (ci := 5) (v := .int (nI tt)) (C := RX4) (T := TX4) (N := 14) hx hb hts k2 hown hK hP 0 rfl rfl 10 (by decide) k3 (fun _ h9 => h9) rfl dX4_at_7 ?_
    refine lv_icmp_lt (tgt := 17) hx hb dX4_at_10 (by decide) (fun c_10 => ?_) (fun c_10 => ?_)
    · rw [Int32.lt_iff_toInt_lt, nI_toInt (by omega)] at c_10
      have hin2 : ¬ (i0.toInt < 0 ∨ (tt : Int) ≤ i0.toInt) := by omega
      obtain ⟨b, hbt, hbi⟩ : ∃ b : Nat, b < tt ∧ i0 = nI b := ⟨i0.toInt.toNat, by omega, by apply Int32.toInt_inj.mp; rw [nI_toInt (by omega)]; omega⟩
      subst hbi
      refine lv_iconst (v := 0) hx hb dX4_at_17 (by decide) ?_
      refine va_put (D := D) (ci := 5) (v := .int 0) (ty := (.int)) (C := RX4) (T := TX4) (N := 14) hx hb hts k2 tyX4 tyX4_ok nmX4 hown hK hP hD hS 0 rfl rfl 0 (by decide) k1 (fun _ h9 => h9) rfl (by decide +kernel) rfl rfl (Nat.le_of_ble_eq_true rfl) dX4_at_18 (fun H locs hP hD hS => ?_)
      have hP : va_P D vwCl (fk_wm cJ cI cZ am 0 (nI n) lo (nI tt) wd sg up dn of bey rnd tx pt sn ++ tl) H := hP
      have hD : va_D A (fk_wm cJ cI cZ am 0 (nI n) lo (nI tt) wd sg up dn of bey rnd tx pt sn ++ tl) := hD
      refine lv_aload_n hx hb dX4_at_21 rfl (lv_at hl 0 rfl) ?_
      refine va_get (D := D) (ci := 5) (v := .int 0) (C := RX4) (T := TX4) (N := 14) hx hb hts k2 hown hK hP 0 rfl rfl 0 (by decide) k1 (fun _ h9 => h9) rfl dX4_at_22 ?_
      refine lv_if_le (tgt := 32) hx hb dX4_at_25 (by decide) (fun c_25 => ?_) (fun c_25 => False.elim (absurd (by decide) c_25))
      refine lv_aload_n hx hb dX4_at_32 rfl (lv_at hl 0 rfl) ?_
      refine va_get (D := D) (ci := 5) (v := .ref (am 8)) (C := RX4) (T := TX4) (N := 14) hx hb hts k2 hown hK hP 0 rfl rfl 11 (by decide) k4 (fun _ h9 => h9) rfl dX4_at_33 ?_
      refine lv_iload_n hx hb dX4_at_36 rfl (lv_at hl 1 rfl) ?_
      refine fk_iald hx hb hK hP 8 2 rfl rfl (i := b) (by omega) (by decide) dX4_at_37 ?_
      rw [hQQ]
      exact W.iret (v := tx b) hx hb hr (fun t ht hW => ⟨⟨(tx b), 0, rfl, Or.inr ⟨b, hbt, rfl, rfl, rfl⟩, by rw [ht]; exact hP, va_K.moved hW.alike hK, hD⟩, hS.F ht⟩) hS.2.2 dX4_at_38
    · rw [Int32.lt_iff_toInt_lt, nI_toInt (by omega)] at c_10
      have hout : i0.toInt < 0 ∨ (tt : Int) ≤ i0.toInt := Or.inr (by omega)
      refine lv_iconst (v := 1) hx hb dX4_at_13 (by decide) ?_
      refine lv_goto (tgt := 18) hx hb dX4_at_14 (by decide) ?_
      refine va_put (D := D) (ci := 5) (v := .int 1) (ty := (.int)) (C := RX4) (T := TX4) (N := 14) hx hb hts k2 tyX4 tyX4_ok nmX4 hown hK hP hD hS 0 rfl rfl 0 (by decide) k1 (fun _ h9 => h9) rfl (by decide +kernel) rfl rfl (Nat.le_of_ble_eq_true rfl) dX4_at_18 (fun H locs hP hD hS => ?_)
      have hP : va_P D vwCl (fk_wm cJ cI cZ am 1 (nI n) lo (nI tt) wd sg up dn of bey rnd tx pt sn ++ tl) H := hP
      have hD : va_D A (fk_wm cJ cI cZ am 1 (nI n) lo (nI tt) wd sg up dn of bey rnd tx pt sn ++ tl) := hD
      refine lv_aload_n hx hb dX4_at_21 rfl (lv_at hl 0 rfl) ?_
      refine va_get (D := D) (ci := 5) (v := .int 1) (C := RX4) (T := TX4) (N := 14) hx hb hts k2 hown hK hP 0 rfl rfl 0 (by decide) k1 (fun _ h9 => h9) rfl dX4_at_22 ?_
      refine lv_if_le (tgt := 32) hx hb dX4_at_25 (by decide) (fun c_25 => False.elim (absurd c_25 (by decide))) (fun c_25 => ?_)
      refine lv_iconst (v := 0) hx hb dX4_at_28 (by decide) ?_
      refine lv_goto (tgt := 38) hx hb dX4_at_29 (by decide) ?_
      rw [hQQ]
      exact W.iret (v := 0) hx hb hr (fun t ht hW => ⟨⟨0, 1, rfl, Or.inl ⟨hout, rfl, rfl⟩, by rw [ht]; exact hP, va_K.moved hW.alike hK, hD⟩, hS.F ht⟩) hS.2.2 dX4_at_38
