/-! Whole: guessDigit, by program -/
abbrev rmX2_guessDigit : Room := { frames := 1, cells := 0, slots := 0, locals := 21 }
set_option maxHeartbeats 4000000 in
set_option maxRecDepth 100000 in
/-- Whole.guessDigit -/
theorem kX2_guessDigit {l : Launch} {D : va_G} {cJ cC cI cZ cK : ClassId} (sz : Nat) (ws : va_W) (h0 h1 h2 h3 q0 q1 q2 q3 : Nat) (f o : Nat → Int64) (n sh : Nat) (x y : Int) (hq0 : ws[q0]? = some (h0, .inr (3, [.ref h1]))) (hq1 : ws[q1]? = some (h1, .inl (cJ, 12, .inr (.inl f)))) (hq2 : ws[q2]? = some (h2, .inr (3, [.ref h3]))) (hq3 : ws[q3]? = some (h3, .inl (cJ, 12, .inr (.inl o)))) (hR : fk_R x f) (hI : fk_In x) (hx0 : 0 ≤ x) (hRo : fk_R y o) (hy0 : 0 < y) (hIy : fk_In y) (hs : fk_Sz (fk_I o) n) (hn1 : n ≠ 0) (hns : n + sh ≤ 12) (hxy : x < y * 65536 ^ sh * 65536) : Met l yX2_guessDigit wsX2_guessDigit rmX2_guessDigit (va_Pc [.ref h0, .ref h2, .int (nI n), .int (nI sh)] (fk_pre D (fk_ty cJ cC cI cZ cK) ws sz)) (va_Ql (fun (r : Int64) (_ : Unit) => x / (y * 65536 ^ sh) ≤ r.toInt ∧ r.toInt ≤ x / (y * 65536 ^ sh) + 1) (fk_Bd D (fk_ty cJ cC cI cZ cK) (va_A ws sz) (fun _ : Unit => ws)) (va_A ws sz)) 0 0 (va_A ws sz) := by
  refine fk_ofW cX2_guessDigit 7 (some .long) (fun A => va_Ql (fun (r : Int64) (_ : Unit) => x / (y * 65536 ^ sh) ≤ r.toInt ∧ r.toInt ≤ x / (y * 65536 ^ sh) + 1) (fk_Bd D (fk_ty cJ cC cI cZ cK) A (fun _ : Unit => ws)) A) rfl (by decide) (Nat.le_of_ble_eq_true rfl) ?_
  intro p e s m below meth c A ls args QQ hQQ hAt hP hK hN hD hA hS hl
  obtain ⟨⟨hx, hb, hml, hown, hts⟩, hr, hlocks, hin⟩ := hAt
  have hl : lv_has ls 7 [(0, .ref h0), (1, .ref h2), (2, .int (nI n)), (3, .int (nI sh))] := hl
  refine lv_aload_n hx hb dX2_guessDigit_0 rfl (lv_at hl 1 rfl) ?_
  refine lv_iload_n hx hb dX2_guessDigit_1 rfl (lv_at hl 2 rfl) ?_
  refine lv_iconst (v := 1) hx hb dX2_guessDigit_2 (by decide) ?_
  refine lv_isub hx hb dX2_guessDigit_3 ?_
  refine lv_topi (fun x1 ex1 => ?_)
  refine fk_cl hD hS hA (va_runV (As := [.int x1]) (rest := []) ⟨hx, hb, hml, hown, hts⟩ (kX2_limb _ ws h2 h3 q2 q3 o x1 hq2 hq3) (cwV 1 hts gX2_guessDigit_X2_limb rfl rfl rfl (by decide +kernel) ⟨Nat.le_of_ble_eq_true rfl, Nat.le_of_ble_eq_true rfl⟩) (fk_preV q2 3 hK hN hP hD rfl hq2) rfl rfl hl.1 rfl (lv_room (Nat.le_of_ble_eq_true rfl)) dX2_guessDigit_4 ⟨Nat.le_of_ble_eq_true rfl, Nat.le_of_ble_eq_true rfl⟩) (fun r2 u H locs hw hP hD hS => ?_)
  have hP : va_P D vwCl ws H := hP
  have hD : va_D A ws := hD
  have v1 := hw
  have bv1 := fk_lb_bd hRo (x1 : Int32).toInt
  rw [← v1] at bv1
  refine lv_bipush (v := 16) hx hb dX2_guessDigit_7 (by decide) ?_
  refine lv_lshl hx hb dX2_guessDigit_9 rfl ?_
  refine lv_topl (fun x3 ex3 => ?_)
  refine lv_aload_n hx hb dX2_guessDigit_10 rfl (lv_at hl 1 rfl) ?_
  refine lv_iload_n hx hb dX2_guessDigit_11 rfl (lv_at hl 2 rfl) ?_
  refine lv_iconst (v := 2) hx hb dX2_guessDigit_12 (by decide) ?_
  refine lv_isub hx hb dX2_guessDigit_13 ?_
  refine lv_topi (fun x4 ex4 => ?_)
  refine fk_cl hD hS hA (va_runV (As := [.int x4]) (rest := [.long x3]) ⟨hx, hb, hml, hown, hts⟩ (kX2_limb _ ws h2 h3 q2 q3 o x4 hq2 hq3) (cwV 1 hts gX2_guessDigit_X2_limb rfl rfl rfl (by decide +kernel) ⟨Nat.le_of_ble_eq_true rfl, Nat.le_of_ble_eq_true rfl⟩) (fk_preV q2 3 hK hN hP hD rfl hq2) rfl rfl hl.1 rfl (lv_room (Nat.le_of_ble_eq_true rfl)) dX2_guessDigit_14 ⟨Nat.le_of_ble_eq_true rfl, Nat.le_of_ble_eq_true rfl⟩) (fun r5 u H locs hw hP hD hS => ?_)
  have hP : va_P D vwCl ws H := hP
  have hD : va_D A ws := hD
  have v2 := hw
  have bv2 := fk_lb_bd hRo (x4 : Int32).toInt
  rw [← v2] at bv2
  refine lv_lor hx hb dX2_guessDigit_17 ?_
  refine lv_topl (fun x6 ex6 => ?_)
  have j1 : x1.toInt = (n : Int) - 1 := by rw [ex1]; exact pk_sub_toInt (a := n) (b := 1) (by omega) (by omega)
  have j2 : x4.toInt = (n : Int) - 2 := by rw [ex4]; exact pk_sub_toInt (a := n) (b := 2) (by omega) (by omega)
  rw [j1] at v1
  rw [j2] at v2
  have hov : x6.toInt = (fk_lb o ((n : Int) - 1)).toInt * 65536 + (fk_lb o ((n : Int) - 2)).toInt := by
    rw [ex6, ex3, ← v1, ← v2]; exact fk_or16n (by omega) (by omega) (by omega) (by omega)
  obtain ⟨gO, g1, g2⟩ := fk_gd hR hx0 hI hRo hy0 hIy hs hn1 hns hxy
  rw [← hov] at gO g1 g2
  have hov0 : ¬ x6 = 0 := fun q => by rw [q] at gO; exact absurd gO (by decide)
  refine lv_lstore (lv' := [(4, .long x6), (0, .ref h0), (1, .ref h2), (2, .int (nI n)), (3, .int (nI sh))]) hx hb dX2_guessDigit_18 hl (by decide) rfl (fun ls hl => ?_)
  refine lv_lload hx hb dX2_guessDigit_20 (lv_at hl 0 rfl) ?_
  refine lv_lconst (v := 0) hx hb dX2_guessDigit_22 (by decide) ?_
  refine W.lcmp hx hb dX2_guessDigit_23 ?_
  refine lv_if_ne (tgt := 29) hx hb dX2_guessDigit_24 (by decide) (fun c_24 => ?_) (fun c_24 => False.elim (hov0 ((lg_cmp_eq _ _).mp c_24)))
  refine lv_iload_n hx hb dX2_guessDigit_29 rfl (lv_at hl 3 rfl) ?_
  refine lv_iload_n hx hb dX2_guessDigit_30 rfl (lv_at hl 4 rfl) ?_
  refine lv_iadd hx hb dX2_guessDigit_31 ?_
  refine lv_topi (fun x7 ex7 => ?_)
  have ex7q : x7 = nI (n + sh) := by
    rw [ex7]; exact nI_add n sh
  subst ex7q
  refine lv_istore (lv' := [(6, .int (nI (n + sh))), (4, .long x6), (0, .ref h0), (1, .ref h2), (2, .int (nI n)), (3, .int (nI sh))]) hx hb dX2_guessDigit_32 hl (by decide) rfl (fun ls hl => ?_)
  refine lv_aload_n hx hb dX2_guessDigit_34 rfl (lv_at hl 2 rfl) ?_
  refine lv_iload hx hb dX2_guessDigit_35 (lv_at hl 0 rfl) ?_
  refine fk_cl hD hS hA (va_runV (As := [.int (nI (n + sh))]) (rest := []) ⟨hx, hb, hml, hown, hts⟩ (kX2_limb _ ws h0 h1 q0 q1 f (nI (n + sh)) hq0 hq1) (cwV 1 hts gX2_guessDigit_X2_limb rfl rfl rfl (by decide +kernel) ⟨Nat.le_of_ble_eq_true rfl, Nat.le_of_ble_eq_true rfl⟩) (fk_preV q0 3 hK hN hP hD rfl hq0) rfl rfl hl.1 rfl (lv_room (Nat.le_of_ble_eq_true rfl)) dX2_guessDigit_37 ⟨Nat.le_of_ble_eq_true rfl, Nat.le_of_ble_eq_true rfl⟩) (fun r8 u H locs hw hP hD hS => ?_)
  have hP : va_P D vwCl ws H := hP
  have hD : va_D A ws := hD
  have v3 := hw
  have bv3 := fk_lb_bd hR ((nI (n + sh)) : Int32).toInt
  rw [← v3] at bv3
  refine lv_bipush (v := 16) hx hb dX2_guessDigit_40 (by decide) ?_
  refine lv_lshl hx hb dX2_guessDigit_42 rfl ?_
  refine lv_topl (fun x9 ex9 => ?_)
  refine lv_aload_n hx hb dX2_guessDigit_43 rfl (lv_at hl 2 rfl) ?_
  refine lv_iload hx hb dX2_guessDigit_44 (lv_at hl 0 rfl) ?_
  refine lv_iconst (v := 1) hx hb dX2_guessDigit_46 (by decide) ?_
  refine lv_isub hx hb dX2_guessDigit_47 ?_
  refine lv_topi (fun x10 ex10 => ?_)
  refine fk_cl hD hS hA (va_runV (As := [.int x10]) (rest := [.long x9]) ⟨hx, hb, hml, hown, hts⟩ (kX2_limb _ ws h0 h1 q0 q1 f x10 hq0 hq1) (cwV 1 hts gX2_guessDigit_X2_limb rfl rfl rfl (by decide +kernel) ⟨Nat.le_of_ble_eq_true rfl, Nat.le_of_ble_eq_true rfl⟩) (fk_preV q0 3 hK hN hP hD rfl hq0) rfl rfl hl.1 rfl (lv_room (Nat.le_of_ble_eq_true rfl)) dX2_guessDigit_48 ⟨Nat.le_of_ble_eq_true rfl, Nat.le_of_ble_eq_true rfl⟩) (fun r11 u H locs hw hP hD hS => ?_)
  have hP : va_P D vwCl ws H := hP
  have hD : va_D A ws := hD
  have v4 := hw
  have bv4 := fk_lb_bd hR (x10 : Int32).toInt
  rw [← v4] at bv4
  refine lv_lor hx hb dX2_guessDigit_51 ?_
  refine lv_topl (fun x12 ex12 => ?_)
  refine lv_bipush (v := 16) hx hb dX2_guessDigit_52 (by decide) ?_
  refine lv_lshl hx hb dX2_guessDigit_54 rfl ?_
  refine lv_topl (fun x13 ex13 => ?_)
  refine lv_aload_n hx hb dX2_guessDigit_55 rfl (lv_at hl 2 rfl) ?_
  refine lv_iload hx hb dX2_guessDigit_56 (lv_at hl 0 rfl) ?_
  refine lv_iconst (v := 2) hx hb dX2_guessDigit_58 (by decide) ?_
  refine lv_isub hx hb dX2_guessDigit_59 ?_
  refine lv_topi (fun x14 ex14 => ?_)
  refine fk_cl hD hS hA (va_runV (As := [.int x14]) (rest := [.long x13]) ⟨hx, hb, hml, hown, hts⟩ (kX2_limb _ ws h0 h1 q0 q1 f x14 hq0 hq1) (cwV 1 hts gX2_guessDigit_X2_limb rfl rfl rfl (by decide +kernel) ⟨Nat.le_of_ble_eq_true rfl, Nat.le_of_ble_eq_true rfl⟩) (fk_preV q0 3 hK hN hP hD rfl hq0) rfl rfl hl.1 rfl (lv_room (Nat.le_of_ble_eq_true rfl)) dX2_guessDigit_60 ⟨Nat.le_of_ble_eq_true rfl, Nat.le_of_ble_eq_true rfl⟩) (fun r15 u H locs hw hP hD hS => ?_)
  have hP : va_P D vwCl ws H := hP
  have hD : va_D A ws := hD
  have v5 := hw
  have bv5 := fk_lb_bd hR (x14 : Int32).toInt
  rw [← v5] at bv5
  refine lv_lor hx hb dX2_guessDigit_63 ?_
  refine lv_topl (fun x16 ex16 => ?_)
  rw [nI_toInt (by omega)] at v3
  have j4 : x10.toInt = ((n + sh : Nat) : Int) - 1 := by rw [ex10]; exact pk_sub_toInt (a := n + sh) (b := 1) (by omega) (by omega)
  have j5 : x14.toInt = ((n + sh : Nat) : Int) - 2 := by rw [ex14]; exact pk_sub_toInt (a := n + sh) (b := 2) (by omega) (by omega)
  rw [j4] at v4
  rw [j5] at v5
  rw [← v3, ← v4, ← v5] at g1 g2
  have t4 : x12.toInt = r8.toInt * 65536 + r11.toInt := by
    rw [ex12, ex9]; exact fk_or16n (by omega) (by omega) (by omega) (by omega)
  have t5 : x16.toInt = (r8.toInt * 65536 + r11.toInt) * 65536 + r15.toInt := by
    rw [ex16, ex13, ← t4]; exact fk_or16n (by omega) (by omega) (by omega) (by omega)
  rw [← t5] at g1 g2
  rw [← fk_divT (by omega) (by omega)] at g1 g2
  refine lv_lload hx hb dX2_guessDigit_64 (lv_at hl 1 rfl) ?_
  refine lv_ldiv hx hb dX2_guessDigit_66 hov0 ?_
  refine lv_topl (fun x17 ex17 => ?_)
  rw [hQQ]
  exact W.lret (v := x17) hx hb hr (fun t ht hW => ⟨⟨x17, (), rfl, ⟨by rw [ex17]; exact g1, by rw [ex17]; exact g2⟩, by rw [ht]; exact hP, va_K.moved hW.alike hK, hD⟩, hS.F ht⟩) hS.2.2 dX2_guessDigit_67
