/-! FixedKinds: octet, half, by program -/
theorem fk_ushr8 (x : Int64) {i : Nat} (hi : i < 8) : (x.toUInt64 >>> ((nI (8 * i)).toInt64.toUInt64 &&& Int64.toUInt64 63)).toInt64.toInt % 18446744073709551616 = x.toInt % 18446744073709551616 / 2 ^ (8 * i) := fk_ushrk x (by omega)
theorem fk_mod64 {w : Nat} (hw : w ≤ 64) (v : Int) (k : Nat) : v % 2 ^ w / 2 ^ k % 18446744073709551616 = v % 2 ^ w / 2 ^ k := by
  have h1 := Int.emod_nonneg v (show (2 : Int) ^ w ≠ 0 by have := fk_2p w; omega)
  have h2 := Int.emod_lt_of_pos v (fk_2p w)
  have h3 : 0 ≤ v % 2 ^ w / 2 ^ k := Int.ediv_nonneg h1 (Int.le_of_lt (fk_2p k))
  have h4 : v % 2 ^ w / 2 ^ k ≤ v % 2 ^ w := Int.ediv_le_self _ h1
  have h5 : (2 : Int) ^ w ≤ 2 ^ 64 := by
    have e : (2 : Int) ^ 64 = 2 ^ w * 2 ^ (64 - w) := by rw [← fk_2a]; congr 1; omega
    have q := fk_2p (64 - w)
    have p := fk_2p w
    have : 2 ^ w * 1 ≤ (2 : Int) ^ w * 2 ^ (64 - w) := Int.mul_le_mul_of_nonneg_left (by omega) (by omega)
    omega
  exact Int.emod_eq_of_lt h3 (by omega)
abbrev rmX3_octet : Room := { frames := 1, cells := 0, slots := 0, locals := 23 }
set_option maxHeartbeats 4000000 in
set_option maxRecDepth 100000 in
/-- octet -/
theorem kX3_octet {l : Launch} {D : va_G} {cJ cC cI cZ cK : ClassId} (sz : Nat) (ad : Nat → Nat) (tl : va_W) (kd : Nat → Option Nat) (lo : Int32) (ch : Nat → Int32) (ts : Int32) (f1 f2 f3 f4 f5 : Nat → Int64) (n : Nat) (kf : Nat → fk_K) (ka kp : Nat → Nat) (num i0 : Int32) (v : Int64) (hKT : fk_KT n kf kd ka kp tl) : Met l yX3_octet wsX3_octet rmX3_octet (va_Pc [.ref (ad 0), .int num, .long v, .int i0] (fk_pre D (fk_ty cJ cC cI cZ cK) (fk_wx cJ cC cK ad kd (nI n) lo ch ts f1 f2 f3 f4 f5 ++ tl) sz)) (va_Qi (fun (r : Int32) (_ : Unit) => r = fk_sOct n kf num v i0) (fk_Bd D (fk_ty cJ cC cI cZ cK) (va_A (fk_wx cJ cC cK ad kd (nI n) lo ch ts f1 f2 f3 f4 f5 ++ tl) sz) (fun _ : Unit => fk_wx cJ cC cK ad kd (nI n) lo ch ts f1 f2 f3 f4 f5 ++ tl)) (va_A (fk_wx cJ cC cK ad kd (nI n) lo ch ts f1 f2 f3 f4 f5 ++ tl) sz)) 0 0 (va_A (fk_wx cJ cC cK ad kd (nI n) lo ch ts f1 f2 f3 f4 f5 ++ tl) sz) := by
  refine fk_ofW cX3_octet 6 (some .byte) (fun A => va_Qi (fun (r : Int32) (_ : Unit) => r = fk_sOct n kf num v i0) (fk_Bd D (fk_ty cJ cC cI cZ cK) A (fun _ : Unit => fk_wx cJ cC cK ad kd (nI n) lo ch ts f1 f2 f3 f4 f5 ++ tl)) A) rfl (by decide) (Nat.le_of_ble_eq_true rfl) ?_
  intro p e s m below meth c A ls args QQ hQQ hAt hP hK hN hD hA hS hl
  obtain ⟨⟨hx, hb, hml, hown, hts⟩, hr, hlocks, hin⟩ := hAt
  have hl : lv_has ls 6 [(0, .ref (ad 0)), (1, .int num), (2, .long v), (4, .int i0)] := hl
  have k1 := hN _ fkn_X3_153
  have k2 := hts (.initialized RX1) (by decide +kernel)
  have k3 := hts (.instanceMethod yX1_octets) (by decide +kernel)
  have k4 := hts (.selects RX1 yX1_octets yX1_octets) (by decide +kernel)
  have k5 := hN _ fkn_X3_156
  have k6 := hts (.instanceMethod yX1_bits) (by decide +kernel)
  have k7 := hts (.selects RX1 yX1_bits yX1_bits) (by decide +kernel)
  have hn40 := hKT.1
  refine lv_aload_n hx hb dX3_octet_0 rfl (lv_at hl 0 rfl) ?_
  refine lv_iload_n hx hb dX3_octet_1 rfl (lv_at hl 1 rfl) ?_
  refine fk_cq hD hS hA (va_runV (As := [.int num]) (rest := []) ⟨hx, hb, hml, hown, hts⟩ (kX3_find _ ad tl kd lo ch ts f1 f2 f3 f4 f5 n kf ka kp num hKT) (cwV 1 hts gX3_octet_X3_find rfl rfl rfl (by decide +kernel) ⟨Nat.le_of_ble_eq_true rfl, Nat.le_of_ble_eq_true rfl⟩) (fk_preV 0 4 hK hN hP hD rfl rfl) rfl rfl hl.1 rfl (lv_room (Nat.le_of_ble_eq_true rfl)) dX3_octet_2 ⟨Nat.le_of_ble_eq_true rfl, Nat.le_of_ble_eq_true rfl⟩) (fun r1 u H locs hw hP hD hS => ?_)
  have hP : va_P D vwCl (fk_wx cJ cC cK ad kd (nI n) lo ch ts f1 f2 f3 f4 f5 ++ tl) H := hP
  have hD : va_D A (fk_wx cJ cC cK ad kd (nI n) lo ch ts f1 f2 f3 f4 f5 ++ tl) := hD
  rcases hw with ⟨hr_j, hno_j⟩ | ⟨j, hj, hn_j, hr_j⟩
  · subst hr_j
    refine lv_astoreN (lv' := [(5, .null), (0, .ref (ad 0)), (1, .int num), (2, .long v), (4, .int i0)]) hx hb dX3_octet_5 hl (by decide) rfl (fun ls hl => ?_)
    refine lv_aloadN hx hb dX3_octet_7 (lv_at hl 0 rfl) ?_
    refine lv_ifnullN (tgt := 27) hx hb dX3_octet_9 (by decide) ?_
    refine lv_iconst (v := 0) hx hb dX3_octet_27 (by decide) ?_
    rw [hQQ]
    exact W.zret (v := 0) hx hb hr rfl (fun t ht hW => ⟨⟨0, (), rfl, (by rw [fk_sOct, if_pos (Or.inl hno_j)]), by rw [ht]; exact hP, va_K.moved hW.alike hK, hD⟩, hS.F ht⟩) hS.2.2 dX3_octet_28
  · subst hr_j
    subst hn_j
    have ok_j := (hKT.2.1 j hj).2.2
    obtain ⟨okd_j, oko_j, okr_j⟩ := id ok_j
    refine lv_astore (lv' := [(5, .ref (ka j)), (0, .ref (ad 0)), (1, .int (nI (j + 1))), (2, .long v), (4, .int i0)]) hx hb dX3_octet_5 hl (by decide) rfl (fun ls hl => ?_)
    refine lv_aload hx hb dX3_octet_7 (lv_at hl 0 rfl) ?_
    refine lv_ifnull hx hb dX3_octet_9 ?_
    refine lv_iload hx hb dX3_octet_12 (lv_at hl 4 rfl) ?_
    refine lv_if_lt (tgt := 27) hx hb dX3_octet_14 (by decide) (fun c_14 => ?_) (fun c_14 => ?_)
    · rw [Int32.lt_iff_toInt_lt, show (0 : Int32).toInt = 0 by decide] at c_14
      refine lv_iconst (v := 0) hx hb dX3_octet_27 (by decide) ?_
      rw [hQQ]
      exact W.zret (v := 0) hx hb hr rfl (fun t ht hW => ⟨⟨0, (), rfl, (by rw [fk_sOct, if_pos (by rw [fk_ix_j hj hn40]; exact Or.inr (Or.inl c_14))]), by rw [ht]; exact hP, va_K.moved hW.alike hK, hD⟩, hS.F ht⟩) hS.2.2 dX3_octet_28
    · rw [Int32.lt_iff_toInt_lt, show (0 : Int32).toInt = 0 by decide] at c_14
      refine lv_iload hx hb dX3_octet_17 (lv_at hl 4 rfl) ?_
      refine lv_aload hx hb dX3_octet_19 (lv_at hl 0 rfl) ?_
      refine fk_ci hD hS hA (va_runVN (As := []) (rest := [.int i0]) ⟨hx, hb, hml, hown, hts⟩ (kX1_octets _ _ (ka j) (kp j + 15) (kf j).1 (kf j).2.1 (kf j).2.2.2.2.2.1 (kf j).2.2.2.2.2.2 (kf j).2.2.1 (kf j).2.2.2.1 (kf j).2.2.2.2.1 (fk_tl (hKT.2.1 j hj).2.1) okd_j.1) ⟨va_cnB 0 hts gX3_octet_X1_octets_n153 rfl rfl rfl k1 k2 (by decide +kernel) ⟨Nat.le_of_ble_eq_true rfl, Nat.le_of_ble_eq_true rfl⟩, k3, k4⟩ (fk_preV (kp j + 15) 2 hK hN hP hD rfl (fk_tl (hKT.2.1 j hj).2.1)) rfl rfl hl.1 rfl (lv_room (Nat.le_of_ble_eq_true rfl)) dX3_octet_21 ⟨Nat.le_of_ble_eq_true rfl, Nat.le_of_ble_eq_true rfl⟩) (fun r2 u H locs hw hP hD hS => ?_)
      have hP : va_P D vwCl (fk_wx cJ cC cK ad kd (nI n) lo ch ts f1 f2 f3 f4 f5 ++ tl) H := hP
      have hD : va_D A (fk_wx cJ cC cK ad kd (nI n) lo ch ts f1 f2 f3 f4 f5 ++ tl) := hD
      subst hw
      have hwd := okd_j.1
      refine lv_icmp_lt (tgt := 29) hx hb dX3_octet_24 (by decide) (fun c_24 => ?_) (fun c_24 => ?_)
      · rw [Int32.lt_iff_toInt_lt, nI_toInt (by have := hwd.2.1; omega)] at c_24
        obtain ⟨b, hb8, hbi⟩ : ∃ b : Nat, b < 8 ∧ i0 = nI b := ⟨i0.toInt.toNat, by have := hwd.2.1; omega, by apply Int32.toInt_inj.mp; rw [nI_toInt (by have := hwd.2.1; omega)]; omega⟩
        subst hbi
        rw [nI_toInt (by omega)] at c_24 c_14
        refine lv_aload hx hb dX3_octet_29 (lv_at hl 0 rfl) ?_
        refine lv_lload_n hx hb dX3_octet_31 rfl (lv_at hl 3 rfl) ?_
        refine fk_cl hD hS hA (va_runVN (As := [.long v]) (rest := []) ⟨hx, hb, hml, hown, hts⟩ (kX1_bits _ _ (ka j) (kp j + 15) (kf j).1 (kf j).2.1 (kf j).2.2.2.2.2.1 (kf j).2.2.2.2.2.2 (kf j).2.2.1 (kf j).2.2.2.1 (kf j).2.2.2.2.1 v (fk_tl (hKT.2.1 j hj).2.1) okd_j.1) ⟨va_cnB 1 hts gX3_octet_X1_bits_n156 rfl rfl rfl k5 k2 (by decide +kernel) ⟨Nat.le_of_ble_eq_true rfl, Nat.le_of_ble_eq_true rfl⟩, k6, k7⟩ (fk_preV (kp j + 15) 2 hK hN hP hD rfl (fk_tl (hKT.2.1 j hj).2.1)) rfl rfl hl.1 rfl (lv_room (Nat.le_of_ble_eq_true rfl)) dX3_octet_32 ⟨Nat.le_of_ble_eq_true rfl, Nat.le_of_ble_eq_true rfl⟩) (fun r3 u H locs hw hP hD hS => ?_)
        have hP : va_P D vwCl (fk_wx cJ cC cK ad kd (nI n) lo ch ts f1 f2 f3 f4 f5 ++ tl) H := hP
        have hD : va_D A (fk_wx cJ cC cK ad kd (nI n) lo ch ts f1 f2 f3 f4 f5 ++ tl) := hD
        have hbits := hw
        refine lv_bipush (v := 8) hx hb dX3_octet_35 (by decide) ?_
        refine lv_iload hx hb dX3_octet_37 (lv_at hl 4 rfl) ?_
        refine lv_imul hx hb dX3_octet_39 ?_
        refine lv_topi (fun x4 ex4 => ?_)
        have ex4q : x4 = nI (8 * b) := by
          rw [ex4]; exact pk_mul 8 b
        subst ex4q
        refine lv_lushr hx hb dX3_octet_40 rfl ?_
        refine lv_topl (fun x5 ex5 => ?_)
        refine lv_l2i hx hb dX3_octet_41 rfl ?_
        refine lv_topi (fun x6 ex6 => ?_)
        have hl2 : x6 = Int32.ofInt (v.toInt % 2 ^ (kf j).1 / 2 ^ (8 * b)) := by
          rw [ex6]; apply fk_l2i
          rw [ex5, fk_ushr8 _ hb8, hbits, fk_mod64 hwd.2.1]
        refine lv_i2b hx hb dX3_octet_42 rfl ?_
        refine lv_topi (fun x7 ex7 => ?_)
        rw [hQQ]
        exact W.zret (v := x7) hx hb hr (by rw [ex7]; exact pk_nb _) (fun t ht hW => ⟨⟨x7, (), rfl, (by rw [fk_sOct, if_neg (by rw [fk_ix_j hj hn40, nI_toInt (by omega)]; exact fun q => q.elim (fk_no_j hj hn40) (fun z => by omega)), fk_ix_j hj hn40, nI_toInt (by omega), fk_oc, ex7, hl2]; rfl), by rw [ht]; exact hP, va_K.moved hW.alike hK, hD⟩, hS.F ht⟩) hS.2.2 dX3_octet_43
      · rw [Int32.lt_iff_toInt_lt, nI_toInt (by have := hwd.2.1; omega)] at c_24
        refine lv_iconst (v := 0) hx hb dX3_octet_27 (by decide) ?_
        rw [hQQ]
        exact W.zret (v := 0) hx hb hr rfl (fun t ht hW => ⟨⟨0, (), rfl, (by rw [fk_sOct, if_pos (by rw [fk_ix_j hj hn40]; exact Or.inr (Or.inr (by omega)))]), by rw [ht]; exact hP, va_K.moved hW.alike hK, hD⟩, hS.F ht⟩) hS.2.2 dX3_octet_28
abbrev rmX3_half : Room := { frames := 1, cells := 0, slots := 0, locals := 23 }
set_option maxHeartbeats 4000000 in
set_option maxRecDepth 100000 in
/-- half -/
theorem kX3_half {l : Launch} {D : va_G} {cJ cC cI cZ cK : ClassId} (sz : Nat) (ad : Nat → Nat) (tl : va_W) (kd : Nat → Option Nat) (lo : Int32) (ch : Nat → Int32) (ts : Int32) (f1 f2 f3 f4 f5 : Nat → Int64) (n : Nat) (kf : Nat → fk_K) (ka kp : Nat → Nat) (num : Int32) (v : Int64) (hKT : fk_KT n kf kd ka kp tl) : Met l yX3_half wsX3_half rmX3_half (va_Pc [.ref (ad 0), .int num, .long v] (fk_pre D (fk_ty cJ cC cI cZ cK) (fk_wx cJ cC cK ad kd (nI n) lo ch ts f1 f2 f3 f4 f5 ++ tl) sz)) (va_Qi (fun (r : Int32) (_ : Unit) => r = fk_sHlf n kf num v) (fk_Bd D (fk_ty cJ cC cI cZ cK) (va_A (fk_wx cJ cC cK ad kd (nI n) lo ch ts f1 f2 f3 f4 f5 ++ tl) sz) (fun _ : Unit => fk_wx cJ cC cK ad kd (nI n) lo ch ts f1 f2 f3 f4 f5 ++ tl)) (va_A (fk_wx cJ cC cK ad kd (nI n) lo ch ts f1 f2 f3 f4 f5 ++ tl) sz)) 0 0 (va_A (fk_wx cJ cC cK ad kd (nI n) lo ch ts f1 f2 f3 f4 f5 ++ tl) sz) := by
  refine fk_ofW cX3_half 6 (some .short) (fun A => va_Qi (fun (r : Int32) (_ : Unit) => r = fk_sHlf n kf num v) (fk_Bd D (fk_ty cJ cC cI cZ cK) A (fun _ : Unit => fk_wx cJ cC cK ad kd (nI n) lo ch ts f1 f2 f3 f4 f5 ++ tl)) A) rfl (by decide) (Nat.le_of_ble_eq_true rfl) ?_
  intro p e s m below meth c A ls args QQ hQQ hAt hP hK hN hD hA hS hl
  obtain ⟨⟨hx, hb, hml, hown, hts⟩, hr, hlocks, hin⟩ := hAt
  have hl : lv_has ls 6 [(0, .ref (ad 0)), (1, .int num), (2, .long v)] := hl
  have k1 := hN _ fkn_X3_160
  have k2 := (by decide +kernel : ∀ w ∈ u_ws RX1 TX1 7, w ∈ wsX3_half)
  have k3 := hN _ fkn_X3_156
  have k4 := hts (.initialized RX1) (by decide +kernel)
  have k5 := hts (.instanceMethod yX1_bits) (by decide +kernel)
  have k6 := hts (.selects RX1 yX1_bits yX1_bits) (by decide +kernel)
  have hn40 := hKT.1
  refine lv_aload_n hx hb dX3_half_0 rfl (lv_at hl 0 rfl) ?_
  refine lv_iload_n hx hb dX3_half_1 rfl (lv_at hl 1 rfl) ?_
  refine fk_cq hD hS hA (va_runV (As := [.int num]) (rest := []) ⟨hx, hb, hml, hown, hts⟩ (kX3_find _ ad tl kd lo ch ts f1 f2 f3 f4 f5 n kf ka kp num hKT) (cwV 1 hts gX3_half_X3_find rfl rfl rfl (by decide +kernel) ⟨Nat.le_of_ble_eq_true rfl, Nat.le_of_ble_eq_true rfl⟩) (fk_preV 0 4 hK hN hP hD rfl rfl) rfl rfl hl.1 rfl (lv_room (Nat.le_of_ble_eq_true rfl)) dX3_half_2 ⟨Nat.le_of_ble_eq_true rfl, Nat.le_of_ble_eq_true rfl⟩) (fun r1 u H locs hw hP hD hS => ?_)
  have hP : va_P D vwCl (fk_wx cJ cC cK ad kd (nI n) lo ch ts f1 f2 f3 f4 f5 ++ tl) H := hP
  have hD : va_D A (fk_wx cJ cC cK ad kd (nI n) lo ch ts f1 f2 f3 f4 f5 ++ tl) := hD
  rcases hw with ⟨hr_j, hno_j⟩ | ⟨j, hj, hn_j, hr_j⟩
  · subst hr_j
    refine lv_astoreN (lv' := [(4, .null), (0, .ref (ad 0)), (1, .int num), (2, .long v)]) hx hb dX3_half_5 hl (by decide) rfl (fun ls hl => ?_)
    refine lv_aloadN hx hb dX3_half_7 (lv_at hl 0 rfl) ?_
    refine lv_ifnonnullN hx hb dX3_half_9 ?_
    refine lv_iconst (v := 0) hx hb dX3_half_12 (by decide) ?_
    rw [hQQ]
    exact W.zret (v := 0) hx hb hr rfl (fun t ht hW => ⟨⟨0, (), rfl, (by rw [fk_sHlf, if_pos hno_j]), by rw [ht]; exact hP, va_K.moved hW.alike hK, hD⟩, hS.F ht⟩) hS.2.2 dX3_half_13
  · subst hr_j
    subst hn_j
    have ok_j := (hKT.2.1 j hj).2.2
    obtain ⟨okd_j, oko_j, okr_j⟩ := id ok_j
    refine lv_astore (lv' := [(4, .ref (ka j)), (0, .ref (ad 0)), (1, .int (nI (j + 1))), (2, .long v)]) hx hb dX3_half_5 hl (by decide) rfl (fun ls hl => ?_)
    refine lv_aload hx hb dX3_half_7 (lv_at hl 0 rfl) ?_
    refine lv_ifnonnull (tgt := 14) hx hb dX3_half_9 (by decide) ?_
    have hwd := okd_j.1
    have hw64 := hwd.2.1
    refine lv_aload hx hb dX3_half_14 (lv_at hl 0 rfl) ?_
    refine va_getN (D := D) (ci := 2) (v := .int (nI (kf j).1)) (C := RX1) (T := TX1) (N := 7) hx hb hts k2 hown hK hP (kp j + 15) (fk_tl (hKT.2.1 j hj).2.1) rfl 0 (by decide) (va_Nw.use rfl k1) (fun _ h9 => h9) rfl dX3_half_16 ?_
    refine lv_aload hx hb dX3_half_19 (lv_at hl 0 rfl) ?_
    refine va_getN (D := D) (ci := 2) (v := .int (nI (kf j).1)) (C := RX1) (T := TX1) (N := 7) hx hb hts k2 hown hK hP (kp j + 15) (fk_tl (hKT.2.1 j hj).2.1) rfl 0 (by decide) (va_Nw.use rfl k1) (fun _ h9 => h9) rfl dX3_half_21 ?_
    refine lv_iconst (v := 2) hx hb dX3_half_24 (by decide) ?_
    refine lv_idiv hx hb dX3_half_25 (by decide) ?_
    refine lv_topi (fun x2 ex2 => ?_)
    have ex2q : x2 = nI ((kf j).1 / 2) := by
      rw [ex2]; exact pk_div (a := (kf j).1) (d := 2) (by omega) (by omega) (by omega)
    subst ex2q
    refine lv_isub hx hb dX3_half_26 ?_
    refine lv_topi (fun x3 ex3 => ?_)
    have ex3q : x3 = nI ((kf j).1 - (kf j).1 / 2) := by
      rw [ex3]; exact pk_sub (by omega)
    subst ex3q
    refine lv_istore (lv' := [(5, .int (nI ((kf j).1 - (kf j).1 / 2))), (4, .ref (ka j)), (0, .ref (ad 0)), (1, .int (nI (j + 1))), (2, .long v)]) hx hb dX3_half_27 hl (by decide) rfl (fun ls hl => ?_)
    refine lv_aload hx hb dX3_half_29 (lv_at hl 1 rfl) ?_
    refine lv_lload_n hx hb dX3_half_31 rfl (lv_at hl 4 rfl) ?_
    refine fk_cl hD hS hA (va_runVN (As := [.long v]) (rest := []) ⟨hx, hb, hml, hown, hts⟩ (kX1_bits _ _ (ka j) (kp j + 15) (kf j).1 (kf j).2.1 (kf j).2.2.2.2.2.1 (kf j).2.2.2.2.2.2 (kf j).2.2.1 (kf j).2.2.2.1 (kf j).2.2.2.2.1 v (fk_tl (hKT.2.1 j hj).2.1) okd_j.1) ⟨va_cnB 1 hts gX3_half_X1_bits_n156 rfl rfl rfl k3 k4 (by decide +kernel) ⟨Nat.le_of_ble_eq_true rfl, Nat.le_of_ble_eq_true rfl⟩, k5, k6⟩ (fk_preV (kp j + 15) 2 hK hN hP hD rfl (fk_tl (hKT.2.1 j hj).2.1)) rfl rfl hl.1 rfl (lv_room (Nat.le_of_ble_eq_true rfl)) dX3_half_32 ⟨Nat.le_of_ble_eq_true rfl, Nat.le_of_ble_eq_true rfl⟩) (fun r4 u H locs hw hP hD hS => ?_)
    have hP : va_P D vwCl (fk_wx cJ cC cK ad kd (nI n) lo ch ts f1 f2 f3 f4 f5 ++ tl) H := hP
    have hD : va_D A (fk_wx cJ cC cK ad kd (nI n) lo ch ts f1 f2 f3 f4 f5 ++ tl) := hD
    have hbits := hw
    refine lv_iload hx hb dX3_half_35 (lv_at hl 0 rfl) ?_
    refine lv_lushr hx hb dX3_half_37 rfl ?_
    refine lv_topl (fun x5 ex5 => ?_)
    refine lv_l2i hx hb dX3_half_38 rfl ?_
    refine lv_topi (fun x6 ex6 => ?_)
    have hl2 : x6 = Int32.ofInt (v.toInt % 2 ^ (kf j).1 / 2 ^ ((kf j).1 - (kf j).1 / 2)) := by
      rw [ex6]; apply fk_l2i
      rw [ex5, fk_ushrk _ (by omega), hbits, fk_mod64 hwd.2.1]
    refine lv_i2s hx hb dX3_half_39 rfl ?_
    refine lv_topi (fun x7 ex7 => ?_)
    rw [hQQ]
    exact W.zret (v := x7) hx hb hr (by rw [ex7]; exact pk_ns _) (fun t ht hW => ⟨⟨x7, (), rfl, (by rw [fk_sHlf, if_neg (fk_no_j hj hn40), fk_ix_j hj hn40, ex7, hl2]), by rw [ht]; exact hP, va_K.moved hW.alike hK, hD⟩, hS.F ht⟩) hS.2.2 dX3_half_40
