/-! Reference: put, by program -/
abbrev rmX4_put : Room := { frames := 4, cells := 0, slots := 0, locals := 97 }
set_option maxHeartbeats 4000000 in
set_option maxRecDepth 100000 in
/-- put -/
theorem kX4_put {l : Launch} {D : va_G} {cJ cC cI cZ cK : ClassId} (sz : Nat) (am : Nat → Nat) (tl : va_W) (cd kn lo tn : Int32) (wd sg : Nat → Int32) (up dn of : Nat → Int64) (bey rnd tx pt sn : Nat → Int32) (i w : Nat) (s1 : Int32) (u0 d0 o0 : Int64) (ov r0 : Int32) (a b : Int) (hi : i < 41) (hkd : fk_kd w s1 u0 d0 o0) (hwi : wd i = nI w) (hsi : sg i = s1) (hui : up i = u0) (hdi : dn i = d0) (hoi : of i = o0) (hbi : bey i = ov) (hri : rnd i = r0) (hov : ov = 0 ∨ ov = 1 ∨ ov = 2) (hrd : r0 = 0 ∨ r0 = 1 ∨ r0 = 2 ∨ r0 = 3) (gA : fk_G a 0 pt sn) (gB : fk_G b 1 pt sn) (hpB : fk_pB a b) : Met l yX4_put wsX4_put rmX4_put (va_Pc [.ref (am 0), .int (nI i)] (fk_pre D (fk_ty cJ cC cI cZ cK) (fk_wm cJ cI cZ am cd kn lo tn wd sg up dn of bey rnd tx pt sn ++ tl) sz)) (va_Ql (fun (r : Int64) (u : Int32 × (Nat → Int32) × (Nat → Int32)) => r.toInt = fk_put w s1 ov r0 u0 d0 o0 a b ∧ u.1 = fk_lst w s1 r0 u0 d0 o0 a b ∧ fk_kr [4, 5, 6, 7, 16, 17, 18, 19, 22, 23] pt sn u.2.1 u.2.2) (fk_Bd D (fk_ty cJ cC cI cZ cK) (va_A (fk_wm cJ cI cZ am cd kn lo tn wd sg up dn of bey rnd tx pt sn ++ tl) sz) (fun u : Int32 × (Nat → Int32) × (Nat → Int32) => fk_wm cJ cI cZ am cd kn u.1 tn wd sg up dn of bey rnd tx u.2.1 u.2.2 ++ tl)) (va_A (fk_wm cJ cI cZ am cd kn lo tn wd sg up dn of bey rnd tx pt sn ++ tl) sz)) 0 0 (va_A (fk_wm cJ cI cZ am cd kn lo tn wd sg up dn of bey rnd tx pt sn ++ tl) sz) := by
  refine fk_ofW cX4_put 3 (some .long) (fun A => va_Ql (fun (r : Int64) (u : Int32 × (Nat → Int32) × (Nat → Int32)) => r.toInt = fk_put w s1 ov r0 u0 d0 o0 a b ∧ u.1 = fk_lst w s1 r0 u0 d0 o0 a b ∧ fk_kr [4, 5, 6, 7, 16, 17, 18, 19, 22, 23] pt sn u.2.1 u.2.2) (fk_Bd D (fk_ty cJ cC cI cZ cK) A (fun u : Int32 × (Nat → Int32) × (Nat → Int32) => fk_wm cJ cI cZ am cd kn u.1 tn wd sg up dn of bey rnd tx u.2.1 u.2.2 ++ tl)) A) rfl (by decide) (Nat.le_of_ble_eq_true rfl) ?_
  intro p e s m below meth c A ls args QQ hQQ hAt hP hK hN hD hA hS hl
  obtain ⟨⟨hx, hb, hml, hown, hts⟩, hr, hlocks, hin⟩ := hAt
  have hl : lv_has ls 3 [(0, .ref (am 0)), (1, .int (nI i))] := hl
  have k1 := hts (.fieldLink RX4 24 "FixedKindsModel" "offset" "[J") (by decide +kernel)
  have k2 := (by decide +kernel : ∀ w ∈ u_ws RX4 TX4 14, w ∈ wsX4_put)
  have k3 := hts (.fieldLink RX4 21 "FixedKindsModel" "down" "[J") (by decide +kernel)
  have k4 := hts (.fieldLink RX4 17 "FixedKindsModel" "up" "[J") (by decide +kernel)
  have k5 := hts (.fieldLink RX4 30 "FixedKindsModel" "rounding" "[I") (by decide +kernel)
  have k6 := hts (.fieldLink RX4 39 "FixedKindsModel" "sign" "[I") (by decide +kernel)
  have k7 := hts (.fieldLink RX4 113 "FixedKindsModel" "lost" "Z") (by decide +kernel)
  have k8 := hts (.fieldLink RX4 27 "FixedKindsModel" "beyond" "[I") (by decide +kernel)
  obtain ⟨hwd, hu0, hd0, ho0⟩ := id hkd
  obtain ⟨hpa, hpb0, hpb1⟩ := id hpB
  have au := fk_absT (a := u0.toInt) (A := 1000) (by omega) (by omega)
  have ad := fk_absT (a := d0.toInt) (A := 1000) (by omega) (by omega)
  have ao := fk_absT (a := o0.toInt) (A := 1000000) (by omega) (by omega)
  have aa := fk_absT (a := a) (A := 1427247692705959881058285969449495136382746624) (by omega) (by omega)
  have ab := fk_absT (a := b) (A := 1237940039285380274899124224) (by omega) (by omega)
  obtain ⟨hNb, hD0, hD1⟩ := fk_pN_bd hkd hpB
  have hRb2 := fk_round_bd (rd := r0) hD0 hNb.1 hNb.2
  have bl := fk_lm hwd
  have aR := fk_absT (a := fk_pR r0 u0 d0 o0 a b) (A := 1427247692707200000000000000000000000000000000001) (by rw [fk_pR]; omega) (by rw [fk_pR]; omega)
  refine lv_aload_n hx hb dX4_put_0 rfl (lv_at hl 0 rfl) ?_
  refine lv_iconst (v := 4) hx hb dX4_put_1 (by decide) ?_
  refine lv_iconst (v := 1) hx hb dX4_put_2 (by decide) ?_
  refine lv_aload_n hx hb dX4_put_3 rfl (lv_at hl 0 rfl) ?_
  refine va_get (D := D) (ci := 5) (v := .ref (am 5)) (C := RX4) (T := TX4) (N := 14) hx hb hts k2 hown hK hP 0 rfl rfl 6 (by decide) k1 (fun _ h9 => h9) rfl dX4_put_4 ?_
  refine lv_iload_n hx hb dX4_put_7 rfl (lv_at hl 1 rfl) ?_
  refine fk_lald hx hb hK hP 5 0 rfl rfl (i := i) hi (by decide) dX4_put_8 ?_
  rw [hoi]
  refine fk_cv hD hS hA (va_runV (As := [.int 4, .int 1, .long o0]) (rest := []) ⟨hx, hb, hml, hown, hts⟩ (kX4_multiplyBy _ am tl cd kn lo tn wd sg up dn of bey rnd tx pt sn 4 1 o0 _ (by omega) (by omega) (by omega) (by omega) (by omega) gB (fk_absM ab ao (by decide))) (cwV 3 hts gX4_put_X4_multiplyBy rfl rfl rfl (by decide +kernel) ⟨Nat.le_of_ble_eq_true rfl, Nat.le_of_ble_eq_true rfl⟩) (fk_preV 0 5 hK hN hP hD rfl rfl) rfl rfl hl.1 rfl (lv_room (Nat.le_of_ble_eq_true rfl)) dX4_put_9 ⟨Nat.le_of_ble_eq_true rfl, Nat.le_of_ble_eq_true rfl⟩) (fun u1 H locs hw hP hD hS => ?_)
  have hP : va_P D vwCl (fk_wm cJ cI cZ am cd kn lo tn wd sg up dn of bey rnd tx u1.1 u1.2 ++ tl) H := hP
  have hD : va_D A (fk_wm cJ cI cZ am cd kn lo tn wd sg up dn of bey rnd tx u1.1 u1.2 ++ tl) := hD
  obtain ⟨gr2, kx3⟩ := hw
  have gg5 := fk_G_kr gA kx3 (by simp <;> omega)
  have gg6 := fk_G_kr gB kx3 (by simp <;> omega)
  have KK7 : fk_kr [4, 5, 6, 7, 16, 17, 18, 19, 22, 23] pt sn u1.1 u1.2 := fk_kr_t (fk_kr_0 pt sn) kx3 (fun r hr => by simp at hr ⊢; omega)
  refine lv_aload_n hx hb dX4_put_12 rfl (lv_at hl 0 rfl) ?_
  refine lv_iconst (v := 5) hx hb dX4_put_13 (by decide) ?_
  refine lv_iconst (v := 0) hx hb dX4_put_14 (by decide) ?_
  refine lv_iconst (v := 4) hx hb dX4_put_15 (by decide) ?_
  refine lv_iconst (v := (-1)) hx hb dX4_put_16 (by decide) ?_
  have m1 : 0 ≤ fk_abs (b * o0.toInt) ∧ fk_abs (b * o0.toInt) ≤ 1237940039285380274899124224000000 := by rw [fk_abs_mul]; have := Int.mul_le_mul ab.2 ao.2 ao.1 (by omega); have := Int.mul_nonneg ab.1 ao.1; omega
  refine fk_cv hD hS hA (va_runV (As := [.int 5, .int 0, .int 4, .int (-1)]) (rest := []) ⟨hx, hb, hml, hown, hts⟩ (kX4_add _ am tl cd kn lo tn wd sg up dn of bey rnd tx u1.1 u1.2 5 0 4 (-1) _ _ (by omega) (by omega) (by omega) (Or.inr rfl) gg5 gr2 (by rw [fk_p16]; omega)) (cwV 4 hts gX4_put_X4_add rfl rfl rfl (by decide +kernel) ⟨Nat.le_of_ble_eq_true rfl, Nat.le_of_ble_eq_true rfl⟩) (fk_preV 0 5 hK hN hP hD rfl rfl) rfl rfl hl.1 rfl (lv_room (Nat.le_of_ble_eq_true rfl)) dX4_put_17 ⟨Nat.le_of_ble_eq_true rfl, Nat.le_of_ble_eq_true rfl⟩) (fun u8 H locs hw hP hD hS => ?_)
  have hP : va_P D vwCl (fk_wm cJ cI cZ am cd kn lo tn wd sg up dn of bey rnd tx u8.1 u8.2 ++ tl) H := hP
  have hD : va_D A (fk_wm cJ cI cZ am cd kn lo tn wd sg up dn of bey rnd tx u8.1 u8.2 ++ tl) := hD
  obtain ⟨gr9, kx10a, kx10b⟩ := hw
  have kx10 := fk_kr_1 kx10a kx10b
  have gg12 := fk_G_kr gg5 kx10 (by simp <;> omega)
  have gg13 := fk_G_kr gg6 kx10 (by simp <;> omega)
  have KK14 : fk_kr [4, 5, 6, 7, 16, 17, 18, 19, 22, 23] pt sn u8.1 u8.2 := fk_kr_t KK7 kx10 (fun r hr => by simp at hr ⊢; omega)
  rw [show (-1 : Int32).toInt = -1 by decide] at gr9
  have m2 : 0 ≤ fk_abs (a + b * o0.toInt * -1) ∧ fk_abs (a + b * o0.toInt * -1) ≤ 1427247692707200000000000000000000000000000000 := by have q1 := fk_abs_cases (b * o0.toInt); exact fk_absT (by omega) (by omega)
  refine lv_aload_n hx hb dX4_put_20 rfl (lv_at hl 0 rfl) ?_
  refine lv_bipush (v := 6) hx hb dX4_put_21 (by decide) ?_
  refine lv_iconst (v := 5) hx hb dX4_put_23 (by decide) ?_
  refine lv_aload_n hx hb dX4_put_24 rfl (lv_at hl 0 rfl) ?_
  refine va_get (D := D) (ci := 5) (v := .ref (am 4)) (C := RX4) (T := TX4) (N := 14) hx hb hts k2 hown hK hP 0 rfl rfl 5 (by decide) k3 (fun _ h9 => h9) rfl dX4_put_25 ?_
  refine lv_iload_n hx hb dX4_put_28 rfl (lv_at hl 1 rfl) ?_
  refine fk_lald hx hb hK hP 4 0 rfl rfl (i := i) hi (by decide) dX4_put_29 ?_
  rw [hdi]
  refine fk_cv hD hS hA (va_runV (As := [.int 6, .int 5, .long d0]) (rest := []) ⟨hx, hb, hml, hown, hts⟩ (kX4_multiplyBy _ am tl cd kn lo tn wd sg up dn of bey rnd tx u8.1 u8.2 6 5 d0 _ (by omega) (by omega) (by omega) (by omega) (by omega) gr9 (fk_absM m2 ad (by decide))) (cwV 3 hts gX4_put_X4_multiplyBy rfl rfl rfl (by decide +kernel) ⟨Nat.le_of_ble_eq_true rfl, Nat.le_of_ble_eq_true rfl⟩) (fk_preV 0 5 hK hN hP hD rfl rfl) rfl rfl hl.1 rfl (lv_room (Nat.le_of_ble_eq_true rfl)) dX4_put_30 ⟨Nat.le_of_ble_eq_true rfl, Nat.le_of_ble_eq_true rfl⟩) (fun u15 H locs hw hP hD hS => ?_)
  have hP : va_P D vwCl (fk_wm cJ cI cZ am cd kn lo tn wd sg up dn of bey rnd tx u15.1 u15.2 ++ tl) H := hP
  have hD : va_D A (fk_wm cJ cI cZ am cd kn lo tn wd sg up dn of bey rnd tx u15.1 u15.2 ++ tl) := hD
  obtain ⟨gr16, kx17⟩ := hw
  have gg19 := fk_G_kr gg12 kx17 (by simp <;> omega)
  have gg20 := fk_G_kr gg13 kx17 (by simp <;> omega)
  have KK21 : fk_kr [4, 5, 6, 7, 16, 17, 18, 19, 22, 23] pt sn u15.1 u15.2 := fk_kr_t KK14 kx17 (fun r hr => by simp at hr ⊢; omega)
  rw [show (a + b * o0.toInt * -1) * d0.toInt = fk_pN d0 o0 a b from by rw [fk_pN]; grind] at gr16
  refine lv_aload_n hx hb dX4_put_33 rfl (lv_at hl 0 rfl) ?_
  refine lv_bipush (v := 7) hx hb dX4_put_34 (by decide) ?_
  refine lv_iconst (v := 1) hx hb dX4_put_36 (by decide) ?_
  refine lv_aload_n hx hb dX4_put_37 rfl (lv_at hl 0 rfl) ?_
  refine va_get (D := D) (ci := 5) (v := .ref (am 3)) (C := RX4) (T := TX4) (N := 14) hx hb hts k2 hown hK hP 0 rfl rfl 4 (by decide) k4 (fun _ h9 => h9) rfl dX4_put_38 ?_
  refine lv_iload_n hx hb dX4_put_41 rfl (lv_at hl 1 rfl) ?_
  refine fk_lald hx hb hK hP 3 0 rfl rfl (i := i) hi (by decide) dX4_put_42 ?_
  rw [hui]
  refine fk_cv hD hS hA (va_runV (As := [.int 7, .int 1, .long u0]) (rest := []) ⟨hx, hb, hml, hown, hts⟩ (kX4_multiplyBy _ am tl cd kn lo tn wd sg up dn of bey rnd tx u15.1 u15.2 7 1 u0 _ (by omega) (by omega) (by omega) (by omega) (by omega) gg20 (fk_absM ab au (by decide))) (cwV 3 hts gX4_put_X4_multiplyBy rfl rfl rfl (by decide +kernel) ⟨Nat.le_of_ble_eq_true rfl, Nat.le_of_ble_eq_true rfl⟩) (fk_preV 0 5 hK hN hP hD rfl rfl) rfl rfl hl.1 rfl (lv_room (Nat.le_of_ble_eq_true rfl)) dX4_put_43 ⟨Nat.le_of_ble_eq_true rfl, Nat.le_of_ble_eq_true rfl⟩) (fun u22 H locs hw hP hD hS => ?_)
  have hP : va_P D vwCl (fk_wm cJ cI cZ am cd kn lo tn wd sg up dn of bey rnd tx u22.1 u22.2 ++ tl) H := hP
  have hD : va_D A (fk_wm cJ cI cZ am cd kn lo tn wd sg up dn of bey rnd tx u22.1 u22.2 ++ tl) := hD
  obtain ⟨gr23, kx24⟩ := hw
  have gg26 := fk_G_kr gg19 kx24 (by simp <;> omega)
  have gg27 := fk_G_kr gg20 kx24 (by simp <;> omega)
  have gg28 := fk_G_kr gr16 kx24 (by simp <;> omega)
  have KK29 : fk_kr [4, 5, 6, 7, 16, 17, 18, 19, 22, 23] pt sn u22.1 u22.2 := fk_kr_t KK21 kx24 (fun r hr => by simp at hr ⊢; omega)
  rw [show b * u0.toInt = fk_pD u0 b from rfl] at gr23
  refine lv_aload_n hx hb dX4_put_46 rfl (lv_at hl 0 rfl) ?_
  refine lv_bipush (v := 6) hx hb dX4_put_47 (by decide) ?_
  refine lv_aload_n hx hb dX4_put_49 rfl (lv_at hl 0 rfl) ?_
  refine va_get (D := D) (ci := 5) (v := .ref (am 7)) (C := RX4) (T := TX4) (N := 14) hx hb hts k2 hown hK hP 0 rfl rfl 8 (by decide) k5 (fun _ h9 => h9) rfl dX4_put_50 ?_
  refine lv_iload_n hx hb dX4_put_53 rfl (lv_at hl 1 rfl) ?_
  refine fk_iald hx hb hK hP 7 2 rfl rfl (i := i) hi (by decide) dX4_put_54 ?_
  rw [hri]
  refine fk_cv hD hS hA (va_runV (As := [.int 6, .int r0]) (rest := []) ⟨hx, hb, hml, hown, hts⟩ (kX4_round _ am tl cd kn lo tn wd sg up dn of bey rnd tx u22.1 u22.2 6 r0 _ _ (by omega) gg28 gr23 hD0 (by have := fk_absT hNb.1 hNb.2; omega) hrd (by omega)) (cwV 2 hts gX4_put_X4_round rfl rfl rfl (by decide +kernel) ⟨Nat.le_of_ble_eq_true rfl, Nat.le_of_ble_eq_true rfl⟩) (fk_preV 0 5 hK hN hP hD rfl rfl) rfl rfl hl.1 rfl (lv_room (Nat.le_of_ble_eq_true rfl)) dX4_put_55 ⟨Nat.le_of_ble_eq_true rfl, Nat.le_of_ble_eq_true rfl⟩) (fun u30 H locs hw hP hD hS => ?_)
  have hP : va_P D vwCl (fk_wm cJ cI cZ am cd kn u30.1 tn wd sg up dn of bey rnd tx u30.2.1 u30.2.2 ++ tl) H := hP
  have hD : va_D A (fk_wm cJ cI cZ am cd kn u30.1 tn wd sg up dn of bey rnd tx u30.2.1 u30.2.2 ++ tl) := hD
  obtain ⟨hlo, g16, kx9⟩ := hw
  have g16 : fk_G (fk_pR r0 u0 d0 o0 a b) 16 u30.2.1 u30.2.2 := g16
  have gg32 := fk_G_kr gg26 kx9 (by simp <;> omega)
  have gg33 := fk_G_kr gg27 kx9 (by simp <;> omega)
  have KK34 : fk_kr [4, 5, 6, 7, 16, 17, 18, 19, 22, 23] pt sn u30.2.1 u30.2.2 := fk_kr_t KK29 kx9 (fun r hr => by simp at hr ⊢; omega)
  refine lv_aload_n hx hb dX4_put_58 rfl (lv_at hl 0 rfl) ?_
  refine lv_bipush (v := 18) hx hb dX4_put_59 (by decide) ?_
  refine lv_aload_n hx hb dX4_put_61 rfl (lv_at hl 0 rfl) ?_
  refine lv_iload_n hx hb dX4_put_62 rfl (lv_at hl 1 rfl) ?_
  refine fk_cl hD hS hA (va_runV (As := [.int (nI i)]) (rest := [.int 18, .ref (am 0)]) ⟨hx, hb, hml, hown, hts⟩ (kX4_least _ am tl cd kn u30.1 tn wd sg up dn of bey rnd tx u30.2.1 u30.2.2 i w s1 hi hwd hwi hsi) (cwV 1 hts gX4_put_X4_least rfl rfl rfl (by decide +kernel) ⟨Nat.le_of_ble_eq_true rfl, Nat.le_of_ble_eq_true rfl⟩) (fk_preV 0 5 hK hN hP hD rfl rfl) rfl rfl hl.1 rfl (lv_room (Nat.le_of_ble_eq_true rfl)) dX4_put_63 ⟨Nat.le_of_ble_eq_true rfl, Nat.le_of_ble_eq_true rfl⟩) (fun r35 u H locs hw hP hD hS => ?_)
  have hP : va_P D vwCl (fk_wm cJ cI cZ am cd kn u30.1 tn wd sg up dn of bey rnd tx u30.2.1 u30.2.2 ++ tl) H := hP
  have hD : va_D A (fk_wm cJ cI cZ am cd kn u30.1 tn wd sg up dn of bey rnd tx u30.2.1 u30.2.2 ++ tl) := hD
  have hl1 := hw
  refine fk_cv hD hS hA (va_runV (As := [.int 18, .long r35]) (rest := []) ⟨hx, hb, hml, hown, hts⟩ (kX4_set _ am tl cd kn u30.1 tn wd sg up dn of bey rnd tx u30.2.1 u30.2.2 18 r35 (by omega)) (cwV 2 hts gX4_put_X4_set rfl rfl rfl (by decide +kernel) ⟨Nat.le_of_ble_eq_true rfl, Nat.le_of_ble_eq_true rfl⟩) (fk_preV 0 5 hK hN hP hD rfl rfl) rfl rfl hl.1 rfl (lv_room (Nat.le_of_ble_eq_true rfl)) dX4_put_66 ⟨Nat.le_of_ble_eq_true rfl, Nat.le_of_ble_eq_true rfl⟩) (fun u36 H locs hw hP hD hS => ?_)
  have hP : va_P D vwCl (fk_wm cJ cI cZ am cd kn u30.1 tn wd sg up dn of bey rnd tx u36.1 u36.2 ++ tl) H := hP
  have hD : va_D A (fk_wm cJ cI cZ am cd kn u30.1 tn wd sg up dn of bey rnd tx u36.1 u36.2 ++ tl) := hD
  obtain ⟨gr37, kx38a, kx38b⟩ := hw
  have kx38 := fk_kr_1 kx38a kx38b
  have gg40 := fk_G_kr gg32 kx38 (by simp <;> omega)
  have gg41 := fk_G_kr gg33 kx38 (by simp <;> omega)
  have gg42 := fk_G_kr g16 kx38 (by simp <;> omega)
  have KK43 : fk_kr [4, 5, 6, 7, 16, 17, 18, 19, 22, 23] pt sn u36.1 u36.2 := fk_kr_t KK34 kx38 (fun r hr => by simp at hr ⊢; omega)
  rw [hl1] at gr37
  refine lv_aload_n hx hb dX4_put_69 rfl (lv_at hl 0 rfl) ?_
  refine lv_bipush (v := 19) hx hb dX4_put_70 (by decide) ?_
  refine lv_bipush (v := 16) hx hb dX4_put_72 (by decide) ?_
  refine lv_bipush (v := 18) hx hb dX4_put_74 (by decide) ?_
  refine lv_iconst (v := (-1)) hx hb dX4_put_76 (by decide) ?_
  have ale := fk_absT (a := fk_least w s1) (A := 9223372036854775808) (by omega) (by omega)
  refine fk_cv hD hS hA (va_runV (As := [.int 19, .int 16, .int 18, .int (-1)]) (rest := []) ⟨hx, hb, hml, hown, hts⟩ (kX4_add _ am tl cd kn u30.1 tn wd sg up dn of bey rnd tx u36.1 u36.2 19 16 18 (-1) _ _ (by omega) (by omega) (by omega) (Or.inr rfl) gg42 gr37 (by rw [fk_p16]; omega)) (cwV 4 hts gX4_put_X4_add rfl rfl rfl (by decide +kernel) ⟨Nat.le_of_ble_eq_true rfl, Nat.le_of_ble_eq_true rfl⟩) (fk_preV 0 5 hK hN hP hD rfl rfl) rfl rfl hl.1 rfl (lv_room (Nat.le_of_ble_eq_true rfl)) dX4_put_77 ⟨Nat.le_of_ble_eq_true rfl, Nat.le_of_ble_eq_true rfl⟩) (fun u44 H locs hw hP hD hS => ?_)
  have hP : va_P D vwCl (fk_wm cJ cI cZ am cd kn u30.1 tn wd sg up dn of bey rnd tx u44.1 u44.2 ++ tl) H := hP
  have hD : va_D A (fk_wm cJ cI cZ am cd kn u30.1 tn wd sg up dn of bey rnd tx u44.1 u44.2 ++ tl) := hD
  obtain ⟨gr45, kx46a, kx46b⟩ := hw
  have kx46 := fk_kr_1 kx46a kx46b
  have gg48 := fk_G_kr gg40 kx46 (by simp <;> omega)
  have gg49 := fk_G_kr gg41 kx46 (by simp <;> omega)
  have gg50 := fk_G_kr gg42 kx46 (by simp <;> omega)
  have KK51 : fk_kr [4, 5, 6, 7, 16, 17, 18, 19, 22, 23] pt sn u44.1 u44.2 := fk_kr_t KK43 kx46 (fun r hr => by simp at hr ⊢; omega)
  rw [show (-1 : Int32).toInt = -1 by decide] at gr45
  refine lv_aload_n hx hb dX4_put_80 rfl (lv_at hl 0 rfl) ?_
  refine va_get (D := D) (ci := 5) (v := .ref (am 10)) (C := RX4) (T := TX4) (N := 14) hx hb hts k2 hown hK hP 0 rfl rfl 13 (by decide) k6 (fun _ h9 => h9) rfl dX4_put_81 ?_
  refine lv_bipush (v := 19) hx hb dX4_put_84 (by decide) ?_
  refine fk_iald hx hb hK hP 10 2 rfl rfl (i := 19) (by decide) (by decide) dX4_put_86 ?_
  refine lv_if_ge (tgt := 94) hx hb dX4_put_87 (by decide) (fun c_87 => ?_) (fun c_87 => ?_)
  · rw [gr45.2, Int32.le_iff_toInt_le, show (0 : Int32).toInt = 0 by decide, fk_cmp_ge] at c_87
    refine lv_iconst (v := 0) hx hb dX4_put_94 (by decide) ?_
    refine lv_istore_n (lv' := [(2, .int 0), (0, .ref (am 0)), (1, .int (nI i))]) hx hb dX4_put_95 rfl hl (by decide) rfl (fun ls hl => ?_)
    refine lv_aload_n hx hb dX4_put_96 rfl (lv_at hl 1 rfl) ?_
    refine lv_bipush (v := 18) hx hb dX4_put_97 (by decide) ?_
    refine lv_aload_n hx hb dX4_put_99 rfl (lv_at hl 1 rfl) ?_
    refine lv_iload_n hx hb dX4_put_100 rfl (lv_at hl 2 rfl) ?_
    refine fk_cl hD hS hA (va_runV (As := [.int (nI i)]) (rest := [.int 18, .ref (am 0)]) ⟨hx, hb, hml, hown, hts⟩ (kX4_most _ am tl cd kn u30.1 tn wd sg up dn of bey rnd tx u44.1 u44.2 i w s1 hi hwd hwi hsi) (cwV 1 hts gX4_put_X4_most rfl rfl rfl (by decide +kernel) ⟨Nat.le_of_ble_eq_true rfl, Nat.le_of_ble_eq_true rfl⟩) (fk_preV 0 5 hK hN hP hD rfl rfl) rfl rfl hl.1 rfl (lv_room (Nat.le_of_ble_eq_true rfl)) dX4_put_101 ⟨Nat.le_of_ble_eq_true rfl, Nat.le_of_ble_eq_true rfl⟩) (fun r52 u H locs hw hP hD hS => ?_)
    have hP : va_P D vwCl (fk_wm cJ cI cZ am cd kn u30.1 tn wd sg up dn of bey rnd tx u44.1 u44.2 ++ tl) H := hP
    have hD : va_D A (fk_wm cJ cI cZ am cd kn u30.1 tn wd sg up dn of bey rnd tx u44.1 u44.2 ++ tl) := hD
    have hm1 := hw
    refine fk_cv hD hS hA (va_runV (As := [.int 18, .long r52]) (rest := []) ⟨hx, hb, hml, hown, hts⟩ (kX4_set _ am tl cd kn u30.1 tn wd sg up dn of bey rnd tx u44.1 u44.2 18 r52 (by omega)) (cwV 2 hts gX4_put_X4_set rfl rfl rfl (by decide +kernel) ⟨Nat.le_of_ble_eq_true rfl, Nat.le_of_ble_eq_true rfl⟩) (fk_preV 0 5 hK hN hP hD rfl rfl) rfl rfl hl.1 rfl (lv_room (Nat.le_of_ble_eq_true rfl)) dX4_put_104 ⟨Nat.le_of_ble_eq_true rfl, Nat.le_of_ble_eq_true rfl⟩) (fun u53 H locs hw hP hD hS => ?_)
    have hP : va_P D vwCl (fk_wm cJ cI cZ am cd kn u30.1 tn wd sg up dn of bey rnd tx u53.1 u53.2 ++ tl) H := hP
    have hD : va_D A (fk_wm cJ cI cZ am cd kn u30.1 tn wd sg up dn of bey rnd tx u53.1 u53.2 ++ tl) := hD
    obtain ⟨gr54, kx55a, kx55b⟩ := hw
    have kx55 := fk_kr_1 kx55a kx55b
    have gg57 := fk_G_kr gg48 kx55 (by simp <;> omega)
    have gg58 := fk_G_kr gg49 kx55 (by simp <;> omega)
    have gg59 := fk_G_kr gg50 kx55 (by simp <;> omega)
    have gg60 := fk_G_kr gr45 kx55 (by simp <;> omega)
    have KK61 : fk_kr [4, 5, 6, 7, 16, 17, 18, 19, 22, 23] pt sn u53.1 u53.2 := fk_kr_t KK51 kx55 (fun r hr => by simp at hr ⊢; omega)
    rw [hm1] at gr54
    refine lv_aload_n hx hb dX4_put_107 rfl (lv_at hl 1 rfl) ?_
    refine lv_bipush (v := 19) hx hb dX4_put_108 (by decide) ?_
    refine lv_bipush (v := 16) hx hb dX4_put_110 (by decide) ?_
    refine lv_bipush (v := 18) hx hb dX4_put_112 (by decide) ?_
    refine lv_iconst (v := (-1)) hx hb dX4_put_114 (by decide) ?_
    have amo := fk_absT (a := fk_most w s1) (A := 9223372036854775808) (by omega) (by omega)
    refine fk_cv hD hS hA (va_runV (As := [.int 19, .int 16, .int 18, .int (-1)]) (rest := []) ⟨hx, hb, hml, hown, hts⟩ (kX4_add _ am tl cd kn u30.1 tn wd sg up dn of bey rnd tx u53.1 u53.2 19 16 18 (-1) _ _ (by omega) (by omega) (by omega) (Or.inr rfl) gg59 gr54 (by rw [fk_p16]; omega)) (cwV 4 hts gX4_put_X4_add rfl rfl rfl (by decide +kernel) ⟨Nat.le_of_ble_eq_true rfl, Nat.le_of_ble_eq_true rfl⟩) (fk_preV 0 5 hK hN hP hD rfl rfl) rfl rfl hl.1 rfl (lv_room (Nat.le_of_ble_eq_true rfl)) dX4_put_115 ⟨Nat.le_of_ble_eq_true rfl, Nat.le_of_ble_eq_true rfl⟩) (fun u62 H locs hw hP hD hS => ?_)
    have hP : va_P D vwCl (fk_wm cJ cI cZ am cd kn u30.1 tn wd sg up dn of bey rnd tx u62.1 u62.2 ++ tl) H := hP
    have hD : va_D A (fk_wm cJ cI cZ am cd kn u30.1 tn wd sg up dn of bey rnd tx u62.1 u62.2 ++ tl) := hD
    obtain ⟨gr63, kx64a, kx64b⟩ := hw
    have kx64 := fk_kr_1 kx64a kx64b
    have gg66 := fk_G_kr gg57 kx64 (by simp <;> omega)
    have gg67 := fk_G_kr gg58 kx64 (by simp <;> omega)
    have gg68 := fk_G_kr gg59 kx64 (by simp <;> omega)
    have KK69 : fk_kr [4, 5, 6, 7, 16, 17, 18, 19, 22, 23] pt sn u62.1 u62.2 := fk_kr_t KK61 kx64 (fun r hr => by simp at hr ⊢; omega)
    rw [show (-1 : Int32).toInt = -1 by decide] at gr63
    refine lv_iload_n hx hb dX4_put_118 rfl (lv_at hl 0 rfl) ?_
    refine lv_if_ne (tgt := 139) hx hb dX4_put_119 (by decide) (fun c_119 => False.elim (absurd rfl c_119)) (fun c_119 => ?_)
    refine lv_aload_n hx hb dX4_put_122 rfl (lv_at hl 1 rfl) ?_
    refine va_get (D := D) (ci := 5) (v := .ref (am 10)) (C := RX4) (T := TX4) (N := 14) hx hb hts k2 hown hK hP 0 rfl rfl 13 (by decide) k6 (fun _ h9 => h9) rfl dX4_put_123 ?_
    refine lv_bipush (v := 19) hx hb dX4_put_126 (by decide) ?_
    refine fk_iald hx hb hK hP 10 2 rfl rfl (i := 19) (by decide) (by decide) dX4_put_128 ?_
    refine lv_if_gt (tgt := 139) hx hb dX4_put_129 (by decide) (fun c_129 => ?_) (fun c_129 => ?_)
    · rw [gr63.2, Int32.lt_iff_toInt_lt, show (0 : Int32).toInt = 0 by decide, fk_cmp_gt] at c_129
      have hnw : ¬ fk_wi w s1 (fk_pR r0 u0 d0 o0 a b) := fun q => by have q1 := q.1; have q2 := q.2; omega
      refine lv_aload_n hx hb dX4_put_139 rfl (lv_at hl 1 rfl) ?_
      refine lv_iconst (v := 1) hx hb dX4_put_140 (by decide) ?_
      refine va_put (D := D) (ci := 5) (v := .int 1) (ty := (.boolean)) (C := RX4) (T := TX4) (N := 14) hx hb hts k2 tyX4 tyX4_ok nmX4 hown hK hP hD hS 0 rfl rfl 9 (by decide) k7 (fun _ h9 => h9) rfl (by decide +kernel) rfl rfl (Nat.le_of_ble_eq_true rfl) dX4_put_141 (fun H locs hP hD hS => ?_)
      have hP : va_P D vwCl (fk_wm cJ cI cZ am cd kn 1 tn wd sg up dn of bey rnd tx u62.1 u62.2 ++ tl) H := hP
      have hD : va_D A (fk_wm cJ cI cZ am cd kn 1 tn wd sg up dn of bey rnd tx u62.1 u62.2 ++ tl) := hD
      refine lv_aload_n hx hb dX4_put_144 rfl (lv_at hl 1 rfl) ?_
      refine va_get (D := D) (ci := 5) (v := .ref (am 6)) (C := RX4) (T := TX4) (N := 14) hx hb hts k2 hown hK hP 0 rfl rfl 7 (by decide) k8 (fun _ h9 => h9) rfl dX4_put_145 ?_
      refine lv_iload_n hx hb dX4_put_148 rfl (lv_at hl 2 rfl) ?_
      refine fk_iald hx hb hK hP 6 2 rfl rfl (i := i) hi (by decide) dX4_put_149 ?_
      rw [hbi]
      refine lv_if_ne (tgt := 171) hx hb dX4_put_150 (by decide) (fun c_150 => ?_) (fun c_150 => ?_)
      · refine lv_aload_n hx hb dX4_put_171 rfl (lv_at hl 1 rfl) ?_
        refine va_get (D := D) (ci := 5) (v := .ref (am 6)) (C := RX4) (T := TX4) (N := 14) hx hb hts k2 hown hK hP 0 rfl rfl 7 (by decide) k8 (fun _ h9 => h9) rfl dX4_put_172 ?_
        refine lv_iload_n hx hb dX4_put_175 rfl (lv_at hl 2 rfl) ?_
        refine fk_iald hx hb hK hP 6 2 rfl rfl (i := i) hi (by decide) dX4_put_176 ?_
        rw [hbi]
        refine lv_iconst (v := 1) hx hb dX4_put_177 (by decide) ?_
        refine lv_icmp_ne (tgt := 195) hx hb dX4_put_178 (by decide) (fun c_178 => ?_) (fun c_178 => ?_)
        · refine lv_lconst (v := 0) hx hb dX4_put_195 (by decide) ?_
          rw [hQQ]
          exact W.lret (v := 0) hx hb hr (fun t ht hW => ⟨⟨0, (1, u62.1, u62.2), rfl, ⟨(by rw [fk_put, if_neg hnw, fk_by, if_neg c_150, if_neg c_178]; decide), (by show (1 : Int32) = _; rw [fk_lst, if_neg (fun z => hnw z.2)]), KK69⟩, by rw [ht]; exact hP, va_K.moved hW.alike hK, hD⟩, hS.F ht⟩) hS.2.2 dX4_put_196
        · refine lv_aload_n hx hb dX4_put_181 rfl (lv_at hl 1 rfl) ?_
          refine lv_iload_n hx hb dX4_put_182 rfl (lv_at hl 2 rfl) ?_
          refine lv_aload_n hx hb dX4_put_183 rfl (lv_at hl 1 rfl) ?_
          refine lv_bipush (v := 16) hx hb dX4_put_184 (by decide) ?_
          refine fk_cl hD hS hA (va_runV (As := [.int 16]) (rest := [.int (nI i), .ref (am 0)]) ⟨hx, hb, hml, hown, hts⟩ (kX4_low _ am tl cd kn 1 tn wd sg up dn of bey rnd tx u62.1 u62.2 16 _ (by omega) gg68) (cwV 1 hts gX4_put_X4_low rfl rfl rfl (by decide +kernel) ⟨Nat.le_of_ble_eq_true rfl, Nat.le_of_ble_eq_true rfl⟩) (fk_preV 0 5 hK hN hP hD rfl rfl) rfl rfl hl.1 rfl (lv_room (Nat.le_of_ble_eq_true rfl)) dX4_put_186 ⟨Nat.le_of_ble_eq_true rfl, Nat.le_of_ble_eq_true rfl⟩) (fun r70 u H locs hw hP hD hS => ?_)
          have hP : va_P D vwCl (fk_wm cJ cI cZ am cd kn 1 tn wd sg up dn of bey rnd tx u62.1 u62.2 ++ tl) H := hP
          have hD : va_D A (fk_wm cJ cI cZ am cd kn 1 tn wd sg up dn of bey rnd tx u62.1 u62.2 ++ tl) := hD
          have hlow := hw
          refine fk_cl hD hS hA (va_runV (As := [.int (nI i), .long r70]) (rest := []) ⟨hx, hb, hml, hown, hts⟩ (kX4_bring _ am tl cd kn 1 tn wd sg up dn of bey rnd tx u62.1 u62.2 i w s1 r70 hi hwd hwi hsi) (cwV 2 hts gX4_put_X4_bring rfl rfl rfl (by decide +kernel) ⟨Nat.le_of_ble_eq_true rfl, Nat.le_of_ble_eq_true rfl⟩) (fk_preV 0 5 hK hN hP hD rfl rfl) rfl rfl hl.1 rfl (lv_room (Nat.le_of_ble_eq_true rfl)) dX4_put_189 ⟨Nat.le_of_ble_eq_true rfl, Nat.le_of_ble_eq_true rfl⟩) (fun r71 u H locs hw hP hD hS => ?_)
          have hP : va_P D vwCl (fk_wm cJ cI cZ am cd kn 1 tn wd sg up dn of bey rnd tx u62.1 u62.2 ++ tl) H := hP
          have hD : va_D A (fk_wm cJ cI cZ am cd kn 1 tn wd sg up dn of bey rnd tx u62.1 u62.2 ++ tl) := hD
          rw [hlow, fk_bring_mod hwd] at hw
          have hbr := hw
          refine lv_goto (tgt := 196) hx hb dX4_put_192 (by decide) ?_
          rw [hQQ]
          exact W.lret (v := r71) hx hb hr (fun t ht hW => ⟨⟨r71, (1, u62.1, u62.2), rfl, ⟨(by rw [fk_put, if_neg hnw, fk_by, if_neg c_150, if_pos c_178]; exact hbr), (by show (1 : Int32) = _; rw [fk_lst, if_neg (fun z => hnw z.2)]), KK69⟩, by rw [ht]; exact hP, va_K.moved hW.alike hK, hD⟩, hS.F ht⟩) hS.2.2 dX4_put_196
      · refine lv_iload_n hx hb dX4_put_153 rfl (lv_at hl 0 rfl) ?_
        refine lv_if_eq (tgt := 165) hx hb dX4_put_154 (by decide) (fun c_154 => ?_) (fun c_154 => False.elim (absurd rfl c_154))
        refine lv_aload_n hx hb dX4_put_165 rfl (lv_at hl 1 rfl) ?_
        refine lv_iload_n hx hb dX4_put_166 rfl (lv_at hl 2 rfl) ?_
        refine fk_cl hD hS hA (va_runV (As := [.int (nI i)]) (rest := []) ⟨hx, hb, hml, hown, hts⟩ (kX4_most _ am tl cd kn 1 tn wd sg up dn of bey rnd tx u62.1 u62.2 i w s1 hi hwd hwi hsi) (cwV 1 hts gX4_put_X4_most rfl rfl rfl (by decide +kernel) ⟨Nat.le_of_ble_eq_true rfl, Nat.le_of_ble_eq_true rfl⟩) (fk_preV 0 5 hK hN hP hD rfl rfl) rfl rfl hl.1 rfl (lv_room (Nat.le_of_ble_eq_true rfl)) dX4_put_167 ⟨Nat.le_of_ble_eq_true rfl, Nat.le_of_ble_eq_true rfl⟩) (fun r72 u H locs hw hP hD hS => ?_)
        have hP : va_P D vwCl (fk_wm cJ cI cZ am cd kn 1 tn wd sg up dn of bey rnd tx u62.1 u62.2 ++ tl) H := hP
        have hD : va_D A (fk_wm cJ cI cZ am cd kn 1 tn wd sg up dn of bey rnd tx u62.1 u62.2 ++ tl) := hD
        have hm2 := hw
        rw [hQQ]
        exact W.lret (v := r72) hx hb hr (fun t ht hW => ⟨⟨r72, (1, u62.1, u62.2), rfl, ⟨(by rw [fk_put, if_neg hnw, fk_by, if_pos c_150, if_neg (by omega)]; exact hm2), (by show (1 : Int32) = _; rw [fk_lst, if_neg (fun z => hnw z.2)]), KK69⟩, by rw [ht]; exact hP, va_K.moved hW.alike hK, hD⟩, hS.F ht⟩) hS.2.2 dX4_put_170
    · rw [gr63.2, Int32.lt_iff_toInt_lt, show (0 : Int32).toInt = 0 by decide, fk_cmp_gt] at c_129
      have hwi2 : fk_wi w s1 (fk_pR r0 u0 d0 o0 a b) := ⟨by omega, by omega⟩
      refine lv_aload_n hx hb dX4_put_132 rfl (lv_at hl 1 rfl) ?_
      refine lv_bipush (v := 16) hx hb dX4_put_133 (by decide) ?_
      refine fk_cl hD hS hA (va_runV (As := [.int 16]) (rest := []) ⟨hx, hb, hml, hown, hts⟩ (kX4_low _ am tl cd kn u30.1 tn wd sg up dn of bey rnd tx u62.1 u62.2 16 _ (by omega) gg68) (cwV 1 hts gX4_put_X4_low rfl rfl rfl (by decide +kernel) ⟨Nat.le_of_ble_eq_true rfl, Nat.le_of_ble_eq_true rfl⟩) (fk_preV 0 5 hK hN hP hD rfl rfl) rfl rfl hl.1 rfl (lv_room (Nat.le_of_ble_eq_true rfl)) dX4_put_135 ⟨Nat.le_of_ble_eq_true rfl, Nat.le_of_ble_eq_true rfl⟩) (fun r73 u H locs hw hP hD hS => ?_)
      have hP : va_P D vwCl (fk_wm cJ cI cZ am cd kn u30.1 tn wd sg up dn of bey rnd tx u62.1 u62.2 ++ tl) H := hP
      have hD : va_D A (fk_wm cJ cI cZ am cd kn u30.1 tn wd sg up dn of bey rnd tx u62.1 u62.2 ++ tl) := hD
      have hlow := hw
      have hin := fk_wi_long hwd hwi2
      rw [hQQ]
      exact W.lret (v := r73) hx hb hr (fun t ht hW => ⟨⟨r73, (u30.1, u62.1, u62.2), rfl, ⟨(by rw [fk_put, if_pos hwi2, hlow]; exact Int64.toInt_ofInt_of_le (by omega) (by omega)), (by show _ = _; rw [hlo, fk_lst]; by_cases q : fk_pN d0 o0 a b % fk_pD u0 b = 0; rw [if_pos q, if_pos ⟨q, hwi2⟩]; rw [if_neg q, if_neg (fun z => q z.1)]), KK69⟩, by rw [ht]; exact hP, va_K.moved hW.alike hK, hD⟩, hS.F ht⟩) hS.2.2 dX4_put_138
  · rw [gr45.2, Int32.le_iff_toInt_le, show (0 : Int32).toInt = 0 by decide, fk_cmp_ge] at c_87
    refine lv_iconst (v := 1) hx hb dX4_put_90 (by decide) ?_
    refine lv_goto (tgt := 95) hx hb dX4_put_91 (by decide) ?_
    refine lv_istore_n (lv' := [(2, .int 1), (0, .ref (am 0)), (1, .int (nI i))]) hx hb dX4_put_95 rfl hl (by decide) rfl (fun ls hl => ?_)
    refine lv_aload_n hx hb dX4_put_96 rfl (lv_at hl 1 rfl) ?_
    refine lv_bipush (v := 18) hx hb dX4_put_97 (by decide) ?_
    refine lv_aload_n hx hb dX4_put_99 rfl (lv_at hl 1 rfl) ?_
    refine lv_iload_n hx hb dX4_put_100 rfl (lv_at hl 2 rfl) ?_
    refine fk_cl hD hS hA (va_runV (As := [.int (nI i)]) (rest := [.int 18, .ref (am 0)]) ⟨hx, hb, hml, hown, hts⟩ (kX4_most _ am tl cd kn u30.1 tn wd sg up dn of bey rnd tx u44.1 u44.2 i w s1 hi hwd hwi hsi) (cwV 1 hts gX4_put_X4_most rfl rfl rfl (by decide +kernel) ⟨Nat.le_of_ble_eq_true rfl, Nat.le_of_ble_eq_true rfl⟩) (fk_preV 0 5 hK hN hP hD rfl rfl) rfl rfl hl.1 rfl (lv_room (Nat.le_of_ble_eq_true rfl)) dX4_put_101 ⟨Nat.le_of_ble_eq_true rfl, Nat.le_of_ble_eq_true rfl⟩) (fun r74 u H locs hw hP hD hS => ?_)
    have hP : va_P D vwCl (fk_wm cJ cI cZ am cd kn u30.1 tn wd sg up dn of bey rnd tx u44.1 u44.2 ++ tl) H := hP
    have hD : va_D A (fk_wm cJ cI cZ am cd kn u30.1 tn wd sg up dn of bey rnd tx u44.1 u44.2 ++ tl) := hD
    have hm1 := hw
    refine fk_cv hD hS hA (va_runV (As := [.int 18, .long r74]) (rest := []) ⟨hx, hb, hml, hown, hts⟩ (kX4_set _ am tl cd kn u30.1 tn wd sg up dn of bey rnd tx u44.1 u44.2 18 r74 (by omega)) (cwV 2 hts gX4_put_X4_set rfl rfl rfl (by decide +kernel) ⟨Nat.le_of_ble_eq_true rfl, Nat.le_of_ble_eq_true rfl⟩) (fk_preV 0 5 hK hN hP hD rfl rfl) rfl rfl hl.1 rfl (lv_room (Nat.le_of_ble_eq_true rfl)) dX4_put_104 ⟨Nat.le_of_ble_eq_true rfl, Nat.le_of_ble_eq_true rfl⟩) (fun u75 H locs hw hP hD hS => ?_)
    have hP : va_P D vwCl (fk_wm cJ cI cZ am cd kn u30.1 tn wd sg up dn of bey rnd tx u75.1 u75.2 ++ tl) H := hP
    have hD : va_D A (fk_wm cJ cI cZ am cd kn u30.1 tn wd sg up dn of bey rnd tx u75.1 u75.2 ++ tl) := hD
    obtain ⟨gr76, kx77a, kx77b⟩ := hw
    have kx77 := fk_kr_1 kx77a kx77b
    have gg79 := fk_G_kr gg48 kx77 (by simp <;> omega)
    have gg80 := fk_G_kr gg49 kx77 (by simp <;> omega)
    have gg81 := fk_G_kr gg50 kx77 (by simp <;> omega)
    have gg82 := fk_G_kr gr45 kx77 (by simp <;> omega)
    have KK83 : fk_kr [4, 5, 6, 7, 16, 17, 18, 19, 22, 23] pt sn u75.1 u75.2 := fk_kr_t KK51 kx77 (fun r hr => by simp at hr ⊢; omega)
    rw [hm1] at gr76
    refine lv_aload_n hx hb dX4_put_107 rfl (lv_at hl 1 rfl) ?_
    refine lv_bipush (v := 19) hx hb dX4_put_108 (by decide) ?_
    refine lv_bipush (v := 16) hx hb dX4_put_110 (by decide) ?_
    refine lv_bipush (v := 18) hx hb dX4_put_112 (by decide) ?_
    refine lv_iconst (v := (-1)) hx hb dX4_put_114 (by decide) ?_
    have amo := fk_absT (a := fk_most w s1) (A := 9223372036854775808) (by omega) (by omega)
    refine fk_cv hD hS hA (va_runV (As := [.int 19, .int 16, .int 18, .int (-1)]) (rest := []) ⟨hx, hb, hml, hown, hts⟩ (kX4_add _ am tl cd kn u30.1 tn wd sg up dn of bey rnd tx u75.1 u75.2 19 16 18 (-1) _ _ (by omega) (by omega) (by omega) (Or.inr rfl) gg81 gr76 (by rw [fk_p16]; omega)) (cwV 4 hts gX4_put_X4_add rfl rfl rfl (by decide +kernel) ⟨Nat.le_of_ble_eq_true rfl, Nat.le_of_ble_eq_true rfl⟩) (fk_preV 0 5 hK hN hP hD rfl rfl) rfl rfl hl.1 rfl (lv_room (Nat.le_of_ble_eq_true rfl)) dX4_put_115 ⟨Nat.le_of_ble_eq_true rfl, Nat.le_of_ble_eq_true rfl⟩) (fun u84 H locs hw hP hD hS => ?_)
    have hP : va_P D vwCl (fk_wm cJ cI cZ am cd kn u30.1 tn wd sg up dn of bey rnd tx u84.1 u84.2 ++ tl) H := hP
    have hD : va_D A (fk_wm cJ cI cZ am cd kn u30.1 tn wd sg up dn of bey rnd tx u84.1 u84.2 ++ tl) := hD
    obtain ⟨gr85, kx86a, kx86b⟩ := hw
    have kx86 := fk_kr_1 kx86a kx86b
    have gg88 := fk_G_kr gg79 kx86 (by simp <;> omega)
    have gg89 := fk_G_kr gg80 kx86 (by simp <;> omega)
    have gg90 := fk_G_kr gg81 kx86 (by simp <;> omega)
    have KK91 : fk_kr [4, 5, 6, 7, 16, 17, 18, 19, 22, 23] pt sn u84.1 u84.2 := fk_kr_t KK83 kx86 (fun r hr => by simp at hr ⊢; omega)
    rw [show (-1 : Int32).toInt = -1 by decide] at gr85
    refine lv_iload_n hx hb dX4_put_118 rfl (lv_at hl 0 rfl) ?_
    refine lv_if_ne (tgt := 139) hx hb dX4_put_119 (by decide) (fun c_119 => ?_) (fun c_119 => False.elim (absurd c_119 (by decide)))
    have hnw : ¬ fk_wi w s1 (fk_pR r0 u0 d0 o0 a b) := fun q => by have q1 := q.1; have q2 := q.2; omega
    refine lv_aload_n hx hb dX4_put_139 rfl (lv_at hl 1 rfl) ?_
    refine lv_iconst (v := 1) hx hb dX4_put_140 (by decide) ?_
    refine va_put (D := D) (ci := 5) (v := .int 1) (ty := (.boolean)) (C := RX4) (T := TX4) (N := 14) hx hb hts k2 tyX4 tyX4_ok nmX4 hown hK hP hD hS 0 rfl rfl 9 (by decide) k7 (fun _ h9 => h9) rfl (by decide +kernel) rfl rfl (Nat.le_of_ble_eq_true rfl) dX4_put_141 (fun H locs hP hD hS => ?_)
    have hP : va_P D vwCl (fk_wm cJ cI cZ am cd kn 1 tn wd sg up dn of bey rnd tx u84.1 u84.2 ++ tl) H := hP
    have hD : va_D A (fk_wm cJ cI cZ am cd kn 1 tn wd sg up dn of bey rnd tx u84.1 u84.2 ++ tl) := hD
    refine lv_aload_n hx hb dX4_put_144 rfl (lv_at hl 1 rfl) ?_
    refine va_get (D := D) (ci := 5) (v := .ref (am 6)) (C := RX4) (T := TX4) (N := 14) hx hb hts k2 hown hK hP 0 rfl rfl 7 (by decide) k8 (fun _ h9 => h9) rfl dX4_put_145 ?_
    refine lv_iload_n hx hb dX4_put_148 rfl (lv_at hl 2 rfl) ?_
    refine fk_iald hx hb hK hP 6 2 rfl rfl (i := i) hi (by decide) dX4_put_149 ?_
    rw [hbi]
    refine lv_if_ne (tgt := 171) hx hb dX4_put_150 (by decide) (fun c_150 => ?_) (fun c_150 => ?_)
    · refine lv_aload_n hx hb dX4_put_171 rfl (lv_at hl 1 rfl) ?_
      refine va_get (D := D) (ci := 5) (v := .ref (am 6)) (C := RX4) (T := TX4) (N := 14) hx hb hts k2 hown hK hP 0 rfl rfl 7 (by decide) k8 (fun _ h9 => h9) rfl dX4_put_172 ?_
      refine lv_iload_n hx hb dX4_put_175 rfl (lv_at hl 2 rfl) ?_
      refine fk_iald hx hb hK hP 6 2 rfl rfl (i := i) hi (by decide) dX4_put_176 ?_
      rw [hbi]
      refine lv_iconst (v := 1) hx hb dX4_put_177 (by decide) ?_
      refine lv_icmp_ne (tgt := 195) hx hb dX4_put_178 (by decide) (fun c_178 => ?_) (fun c_178 => ?_)
      · refine lv_lconst (v := 0) hx hb dX4_put_195 (by decide) ?_
        rw [hQQ]
        exact W.lret (v := 0) hx hb hr (fun t ht hW => ⟨⟨0, (1, u84.1, u84.2), rfl, ⟨(by rw [fk_put, if_neg hnw, fk_by, if_neg c_150, if_neg c_178]; decide), (by show (1 : Int32) = _; rw [fk_lst, if_neg (fun z => hnw z.2)]), KK91⟩, by rw [ht]; exact hP, va_K.moved hW.alike hK, hD⟩, hS.F ht⟩) hS.2.2 dX4_put_196
      · refine lv_aload_n hx hb dX4_put_181 rfl (lv_at hl 1 rfl) ?_
        refine lv_iload_n hx hb dX4_put_182 rfl (lv_at hl 2 rfl) ?_
        refine lv_aload_n hx hb dX4_put_183 rfl (lv_at hl 1 rfl) ?_
        refine lv_bipush (v := 16) hx hb dX4_put_184 (by decide) ?_
        refine fk_cl hD hS hA (va_runV (As := [.int 16]) (rest := [.int (nI i), .ref (am 0)]) ⟨hx, hb, hml, hown, hts⟩ (kX4_low _ am tl cd kn 1 tn wd sg up dn of bey rnd tx u84.1 u84.2 16 _ (by omega) gg90) (cwV 1 hts gX4_put_X4_low rfl rfl rfl (by decide +kernel) ⟨Nat.le_of_ble_eq_true rfl, Nat.le_of_ble_eq_true rfl⟩) (fk_preV 0 5 hK hN hP hD rfl rfl) rfl rfl hl.1 rfl (lv_room (Nat.le_of_ble_eq_true rfl)) dX4_put_186 ⟨Nat.le_of_ble_eq_true rfl, Nat.le_of_ble_eq_true rfl⟩) (fun r92 u H locs hw hP hD hS => ?_)
        have hP : va_P D vwCl (fk_wm cJ cI cZ am cd kn 1 tn wd sg up dn of bey rnd tx u84.1 u84.2 ++ tl) H := hP
        have hD : va_D A (fk_wm cJ cI cZ am cd kn 1 tn wd sg up dn of bey rnd tx u84.1 u84.2 ++ tl) := hD
        have hlow := hw
        refine fk_cl hD hS hA (va_runV (As := [.int (nI i), .long r92]) (rest := []) ⟨hx, hb, hml, hown, hts⟩ (kX4_bring _ am tl cd kn 1 tn wd sg up dn of bey rnd tx u84.1 u84.2 i w s1 r92 hi hwd hwi hsi) (cwV 2 hts gX4_put_X4_bring rfl rfl rfl (by decide +kernel) ⟨Nat.le_of_ble_eq_true rfl, Nat.le_of_ble_eq_true rfl⟩) (fk_preV 0 5 hK hN hP hD rfl rfl) rfl rfl hl.1 rfl (lv_room (Nat.le_of_ble_eq_true rfl)) dX4_put_189 ⟨Nat.le_of_ble_eq_true rfl, Nat.le_of_ble_eq_true rfl⟩) (fun r93 u H locs hw hP hD hS => ?_)
        have hP : va_P D vwCl (fk_wm cJ cI cZ am cd kn 1 tn wd sg up dn of bey rnd tx u84.1 u84.2 ++ tl) H := hP
        have hD : va_D A (fk_wm cJ cI cZ am cd kn 1 tn wd sg up dn of bey rnd tx u84.1 u84.2 ++ tl) := hD
        rw [hlow, fk_bring_mod hwd] at hw
        have hbr := hw
        refine lv_goto (tgt := 196) hx hb dX4_put_192 (by decide) ?_
        rw [hQQ]
        exact W.lret (v := r93) hx hb hr (fun t ht hW => ⟨⟨r93, (1, u84.1, u84.2), rfl, ⟨(by rw [fk_put, if_neg hnw, fk_by, if_neg c_150, if_pos c_178]; exact hbr), (by show (1 : Int32) = _; rw [fk_lst, if_neg (fun z => hnw z.2)]), KK91⟩, by rw [ht]; exact hP, va_K.moved hW.alike hK, hD⟩, hS.F ht⟩) hS.2.2 dX4_put_196
    · refine lv_iload_n hx hb dX4_put_153 rfl (lv_at hl 0 rfl) ?_
      refine lv_if_eq (tgt := 165) hx hb dX4_put_154 (by decide) (fun c_154 => False.elim (absurd c_154 (by decide))) (fun c_154 => ?_)
      refine lv_aload_n hx hb dX4_put_157 rfl (lv_at hl 1 rfl) ?_
      refine lv_iload_n hx hb dX4_put_158 rfl (lv_at hl 2 rfl) ?_
      refine fk_cl hD hS hA (va_runV (As := [.int (nI i)]) (rest := []) ⟨hx, hb, hml, hown, hts⟩ (kX4_least _ am tl cd kn 1 tn wd sg up dn of bey rnd tx u84.1 u84.2 i w s1 hi hwd hwi hsi) (cwV 1 hts gX4_put_X4_least rfl rfl rfl (by decide +kernel) ⟨Nat.le_of_ble_eq_true rfl, Nat.le_of_ble_eq_true rfl⟩) (fk_preV 0 5 hK hN hP hD rfl rfl) rfl rfl hl.1 rfl (lv_room (Nat.le_of_ble_eq_true rfl)) dX4_put_159 ⟨Nat.le_of_ble_eq_true rfl, Nat.le_of_ble_eq_true rfl⟩) (fun r94 u H locs hw hP hD hS => ?_)
      have hP : va_P D vwCl (fk_wm cJ cI cZ am cd kn 1 tn wd sg up dn of bey rnd tx u84.1 u84.2 ++ tl) H := hP
      have hD : va_D A (fk_wm cJ cI cZ am cd kn 1 tn wd sg up dn of bey rnd tx u84.1 u84.2 ++ tl) := hD
      have hl2 := hw
      refine lv_goto (tgt := 170) hx hb dX4_put_162 (by decide) ?_
      rw [hQQ]
      exact W.lret (v := r94) hx hb hr (fun t ht hW => ⟨⟨r94, (1, u84.1, u84.2), rfl, ⟨(by rw [fk_put, if_neg hnw, fk_by, if_pos c_150, if_pos (by omega)]; exact hl2), (by show (1 : Int32) = _; rw [fk_lst, if_neg (fun z => hnw z.2)]), KK91⟩, by rw [ht]; exact hP, va_K.moved hW.alike hK, hD⟩, hS.F ht⟩) hS.2.2 dX4_put_170
