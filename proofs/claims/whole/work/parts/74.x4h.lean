/-! Reference: value, by program -/
theorem fk_absT {a A : Int} (h1 : -A ≤ a) (h2 : a ≤ A) : 0 ≤ fk_abs a ∧ fk_abs a ≤ A := fk_abs_bd h1 h2
theorem fk_absM {a b A B : Int} (ha : 0 ≤ a ∧ a ≤ A) (hb : 0 ≤ b ∧ b ≤ B) (h : A * B < 115792089237316195423570985008687907853269984665640564039457584007913129639936) : a * b < 65536 ^ 16 := by
  have : a * b ≤ A * B := Int.mul_le_mul ha.2 hb.2 hb.1 (by omega)
  rw [fk_p16]; omega
theorem fk_sgn_cases (a : Int) : (a < 0 ∧ (if a < 0 then (-1 : Int) else 1) = -1) ∨ (0 ≤ a ∧ (if a < 0 then (-1 : Int) else 1) = 1) := by
  by_cases q : a < 0
  · exact Or.inl ⟨q, if_pos q⟩
  · exact Or.inr ⟨by omega, if_neg q⟩
theorem fk_rdq {rd : Int32} {a b : Int} (hb : 0 < b) (u : Int) (hu : (fk_up rd a b).toInt = u) : fk_round rd a b = fk_dq a b + u * (if a < 0 then -1 else 1) := by
  have hbb : fk_abs b = b := by rw [fk_abs, if_neg (by omega)]
  rw [fk_round, fk_dq, hu, hbb, Int.add_mul]
  congr 1
  have c := fk_cmp_cases (a * b)
  have s := fk_sgn_cases a
  rcases c with ⟨x, y⟩ | ⟨x, y⟩ | ⟨x, y⟩
  · rcases Int.mul_eq_zero.mp x with z | z
    · rw [z]; simp [fk_abs, fk_cmp]
    · omega
  · rw [y]
    rcases s with ⟨p, q⟩ | ⟨p, q⟩
    · rw [q]; rfl
    · exfalso; have := Int.mul_nonneg p (Int.le_of_lt hb); omega
  · rw [y]
    rcases s with ⟨p, q⟩ | ⟨p, q⟩
    · exfalso; have := Int.mul_neg_of_neg_of_pos p hb; omega
    · rw [q]; rfl
abbrev rmX4_value : Room := { frames := 2, cells := 0, slots := 0, locals := 52 }
set_option maxHeartbeats 4000000 in
set_option maxRecDepth 100000 in
/-- value -/
theorem kX4_value {l : Launch} {D : va_G} {cJ cC cI cZ cK : ClassId} (sz : Nat) (am : Nat → Nat) (tl : va_W) (cd kn lo tn : Int32) (wd sg : Nat → Int32) (up dn of : Nat → Int64) (bey rnd tx pt sn : Nat → Int32) (p0 : Nat) (i w : Nat) (s1 : Int32) (u0 d0 o0 : Int64) (v : Int64) (hp : p0 ≤ 18) (hi : i < 41) (hkd : fk_kd w s1 u0 d0 o0) (hwi : wd i = nI w) (hsi : sg i = s1) (hui : up i = u0) (hdi : dn i = d0) (hoi : of i = o0) : Met l yX4_value wsX4_value rmX4_value (va_Pc [.ref (am 0), .int (nI p0), .int (nI i), .long v] (fk_pre D (fk_ty cJ cC cI cZ cK) (fk_wm cJ cI cZ am cd kn lo tn wd sg up dn of bey rnd tx pt sn ++ tl) sz)) (va_Qv (fun u : (Nat → Int32) × (Nat → Int32) => fk_G (fk_vn w s1 u0 d0 o0 v) p0 u.1 u.2 ∧ fk_G d0.toInt (p0 + 1) u.1 u.2 ∧ fk_kr [p0, p0 + 1, 20, 23] pt sn u.1 u.2) (fk_Bd D (fk_ty cJ cC cI cZ cK) (va_A (fk_wm cJ cI cZ am cd kn lo tn wd sg up dn of bey rnd tx pt sn ++ tl) sz) (fun u : (Nat → Int32) × (Nat → Int32) => fk_wm cJ cI cZ am cd kn lo tn wd sg up dn of bey rnd tx u.1 u.2 ++ tl)) (va_A (fk_wm cJ cI cZ am cd kn lo tn wd sg up dn of bey rnd tx pt sn ++ tl) sz)) 0 0 (va_A (fk_wm cJ cI cZ am cd kn lo tn wd sg up dn of bey rnd tx pt sn ++ tl) sz) := by
  refine fk_ofW cX4_value 5 none (fun A => va_Qv (fun u : (Nat → Int32) × (Nat → Int32) => fk_G (fk_vn w s1 u0 d0 o0 v) p0 u.1 u.2 ∧ fk_G d0.toInt (p0 + 1) u.1 u.2 ∧ fk_kr [p0, p0 + 1, 20, 23] pt sn u.1 u.2) (fk_Bd D (fk_ty cJ cC cI cZ cK) A (fun u : (Nat → Int32) × (Nat → Int32) => fk_wm cJ cI cZ am cd kn lo tn wd sg up dn of bey rnd tx u.1 u.2 ++ tl)) A) rfl (by decide) (Nat.le_of_ble_eq_true rfl) ?_
  intro p e s m below meth c A ls args QQ hQQ hAt hP hK hN hD hA hS hl
  obtain ⟨⟨hx, hb, hml, hown, hts⟩, hr, hlocks, hin⟩ := hAt
  have hl : lv_has ls 5 [(0, .ref (am 0)), (1, .int (nI p0)), (2, .int (nI i)), (3, .long v)] := hl
  have k1 := hts (.fieldLink RX4 17 "FixedKindsModel" "up" "[J") (by decide +kernel)
  have k2 := (by decide +kernel : ∀ w ∈ u_ws RX4 TX4 14, w ∈ wsX4_value)
  have k3 := hts (.fieldLink RX4 24 "FixedKindsModel" "offset" "[J") (by decide +kernel)
  have k4 := hts (.fieldLink RX4 21 "FixedKindsModel" "down" "[J") (by decide +kernel)
  obtain ⟨hwd, hu0, hd0, ho0⟩ := id hkd
  have au := fk_absT (a := u0.toInt) (A := 1000) (by omega) (by omega)
  have ad := fk_absT (a := d0.toInt) (A := 1000) (by omega) (by omega)
  have ao := fk_absT (a := o0.toInt) (A := 1000000) (by omega) (by omega)
  have bb := fk_bring_bd hwd v.toInt
  have bl := fk_lm hwd
  have ab := fk_absT (a := fk_bring w s1 v.toInt) (A := 9223372036854775808) (by omega) (by omega)
  refine lv_aload_n hx hb dX4_value_0 rfl (lv_at hl 0 rfl) ?_
  refine lv_bipush (v := 20) hx hb dX4_value_1 (by decide) ?_
  refine lv_aload_n hx hb dX4_value_3 rfl (lv_at hl 0 rfl) ?_
  refine lv_iload_n hx hb dX4_value_4 rfl (lv_at hl 2 rfl) ?_
  refine lv_lload_n hx hb dX4_value_5 rfl (lv_at hl 3 rfl) ?_
  refine fk_cl hD hS hA (va_runV (As := [.int (nI i), .long v]) (rest := [.int 20, .ref (am 0)]) ⟨hx, hb, hml, hown, hts⟩ (kX4_bring _ am tl cd kn lo tn wd sg up dn of bey rnd tx pt sn i w s1 v hi hwd hwi hsi) (cwV 2 hts gX4_value_X4_bring rfl rfl rfl (by decide +kernel) ⟨Nat.le_of_ble_eq_true rfl, Nat.le_of_ble_eq_true rfl⟩) (fk_preV 0 5 hK hN hP hD rfl rfl) rfl rfl hl.1 rfl (lv_room (Nat.le_of_ble_eq_true rfl)) dX4_value_6 ⟨Nat.le_of_ble_eq_true rfl, Nat.le_of_ble_eq_true rfl⟩) (fun r1 u H locs hw hP hD hS => ?_)
  have hP : va_P D vwCl (fk_wm cJ cI cZ am cd kn lo tn wd sg up dn of bey rnd tx pt sn ++ tl) H := hP
  have hD : va_D A (fk_wm cJ cI cZ am cd kn lo tn wd sg up dn of bey rnd tx pt sn ++ tl) := hD
  have hbr := hw
  refine fk_cv hD hS hA (va_runV (As := [.int 20, .long r1]) (rest := []) ⟨hx, hb, hml, hown, hts⟩ (kX4_set _ am tl cd kn lo tn wd sg up dn of bey rnd tx pt sn 20 r1 (by omega)) (cwV 2 hts gX4_value_X4_set rfl rfl rfl (by decide +kernel) ⟨Nat.le_of_ble_eq_true rfl, Nat.le_of_ble_eq_true rfl⟩) (fk_preV 0 5 hK hN hP hD rfl rfl) rfl rfl hl.1 rfl (lv_room (Nat.le_of_ble_eq_true rfl)) dX4_value_9 ⟨Nat.le_of_ble_eq_true rfl, Nat.le_of_ble_eq_true rfl⟩) (fun u2 H locs hw hP hD hS => ?_)
  have hP : va_P D vwCl (fk_wm cJ cI cZ am cd kn lo tn wd sg up dn of bey rnd tx u2.1 u2.2 ++ tl) H := hP
  have hD : va_D A (fk_wm cJ cI cZ am cd kn lo tn wd sg up dn of bey rnd tx u2.1 u2.2 ++ tl) := hD
  obtain ⟨gr3, kx4a, kx4b⟩ := hw
  have kx4 := fk_kr_1 kx4a kx4b
  have KK6 : fk_kr [p0, p0 + 1, 20, 23] pt sn u2.1 u2.2 := fk_kr_t (fk_kr_0 pt sn) kx4 (fun r hr => by simp at hr ⊢; omega)
  rw [hbr] at gr3
  refine lv_aload_n hx hb dX4_value_12 rfl (lv_at hl 0 rfl) ?_
  refine lv_iload_n hx hb dX4_value_13 rfl (lv_at hl 1 rfl) ?_
  refine lv_bipush (v := 20) hx hb dX4_value_14 (by decide) ?_
  refine lv_aload_n hx hb dX4_value_16 rfl (lv_at hl 0 rfl) ?_
  refine va_get (D := D) (ci := 5) (v := .ref (am 3)) (C := RX4) (T := TX4) (N := 14) hx hb hts k2 hown hK hP 0 rfl rfl 4 (by decide) k1 (fun _ h9 => h9) rfl dX4_value_17 ?_
  refine lv_iload_n hx hb dX4_value_20 rfl (lv_at hl 2 rfl) ?_
  refine fk_lald hx hb hK hP 3 0 rfl rfl (i := i) hi (by decide) dX4_value_21 ?_
  rw [hui]
  refine fk_cv hD hS hA (va_runV (As := [.int (nI p0), .int 20, .long u0]) (rest := []) ⟨hx, hb, hml, hown, hts⟩ (kX4_multiplyBy _ am tl cd kn lo tn wd sg up dn of bey rnd tx u2.1 u2.2 p0 20 u0 _ (by omega) (by omega) (by omega) (by omega) (by omega) gr3 (fk_absM ab au (by decide))) (cwV 3 hts gX4_value_X4_multiplyBy rfl rfl rfl (by decide +kernel) ⟨Nat.le_of_ble_eq_true rfl, Nat.le_of_ble_eq_true rfl⟩) (fk_preV 0 5 hK hN hP hD rfl rfl) rfl rfl hl.1 rfl (lv_room (Nat.le_of_ble_eq_true rfl)) dX4_value_22 ⟨Nat.le_of_ble_eq_true rfl, Nat.le_of_ble_eq_true rfl⟩) (fun u7 H locs hw hP hD hS => ?_)
  have hP : va_P D vwCl (fk_wm cJ cI cZ am cd kn lo tn wd sg up dn of bey rnd tx u7.1 u7.2 ++ tl) H := hP
  have hD : va_D A (fk_wm cJ cI cZ am cd kn lo tn wd sg up dn of bey rnd tx u7.1 u7.2 ++ tl) := hD
  obtain ⟨gr8, kx9⟩ := hw
  have gg11 := fk_G_kr gr3 kx9 (by simp <;> omega)
  have KK12 : fk_kr [p0, p0 + 1, 20, 23] pt sn u7.1 u7.2 := fk_kr_t KK6 kx9 (fun r hr => by simp at hr ⊢; omega)
  refine lv_aload_n hx hb dX4_value_25 rfl (lv_at hl 0 rfl) ?_
  refine lv_bipush (v := 20) hx hb dX4_value_26 (by decide) ?_
  refine lv_aload_n hx hb dX4_value_28 rfl (lv_at hl 0 rfl) ?_
  refine va_get (D := D) (ci := 5) (v := .ref (am 5)) (C := RX4) (T := TX4) (N := 14) hx hb hts k2 hown hK hP 0 rfl rfl 6 (by decide) k3 (fun _ h9 => h9) rfl dX4_value_29 ?_
  refine lv_iload_n hx hb dX4_value_32 rfl (lv_at hl 2 rfl) ?_
  refine fk_lald hx hb hK hP 5 0 rfl rfl (i := i) hi (by decide) dX4_value_33 ?_
  rw [hoi]
  refine fk_cv hD hS hA (va_runV (As := [.int 20, .long o0]) (rest := []) ⟨hx, hb, hml, hown, hts⟩ (kX4_set _ am tl cd kn lo tn wd sg up dn of bey rnd tx u7.1 u7.2 20 o0 (by omega)) (cwV 2 hts gX4_value_X4_set rfl rfl rfl (by decide +kernel) ⟨Nat.le_of_ble_eq_true rfl, Nat.le_of_ble_eq_true rfl⟩) (fk_preV 0 5 hK hN hP hD rfl rfl) rfl rfl hl.1 rfl (lv_room (Nat.le_of_ble_eq_true rfl)) dX4_value_34 ⟨Nat.le_of_ble_eq_true rfl, Nat.le_of_ble_eq_true rfl⟩) (fun u13 H locs hw hP hD hS => ?_)
  have hP : va_P D vwCl (fk_wm cJ cI cZ am cd kn lo tn wd sg up dn of bey rnd tx u13.1 u13.2 ++ tl) H := hP
  have hD : va_D A (fk_wm cJ cI cZ am cd kn lo tn wd sg up dn of bey rnd tx u13.1 u13.2 ++ tl) := hD
  obtain ⟨gr14, kx15a, kx15b⟩ := hw
  have kx15 := fk_kr_1 kx15a kx15b
  have gg17 := fk_G_kr gr8 kx15 (by simp <;> omega)
  have KK18 : fk_kr [p0, p0 + 1, 20, 23] pt sn u13.1 u13.2 := fk_kr_t KK12 kx15 (fun r hr => by simp at hr ⊢; omega)
  refine lv_aload_n hx hb dX4_value_37 rfl (lv_at hl 0 rfl) ?_
  refine lv_iload_n hx hb dX4_value_38 rfl (lv_at hl 1 rfl) ?_
  refine lv_iconst (v := 1) hx hb dX4_value_39 (by decide) ?_
  refine lv_iadd hx hb dX4_value_40 ?_
  refine lv_topi (fun x19 ex19 => ?_)
  have ex19q : x19 = nI (p0 + 1) := by
    rw [ex19]; exact nI_1 p0
  subst ex19q
  refine lv_bipush (v := 20) hx hb dX4_value_41 (by decide) ?_
  refine lv_aload_n hx hb dX4_value_43 rfl (lv_at hl 0 rfl) ?_
  refine va_get (D := D) (ci := 5) (v := .ref (am 4)) (C := RX4) (T := TX4) (N := 14) hx hb hts k2 hown hK hP 0 rfl rfl 5 (by decide) k4 (fun _ h9 => h9) rfl dX4_value_44 ?_
  refine lv_iload_n hx hb dX4_value_47 rfl (lv_at hl 2 rfl) ?_
  refine fk_lald hx hb hK hP 4 0 rfl rfl (i := i) hi (by decide) dX4_value_48 ?_
  rw [hdi]
  refine fk_cv hD hS hA (va_runV (As := [.int (nI (p0 + 1)), .int 20, .long d0]) (rest := []) ⟨hx, hb, hml, hown, hts⟩ (kX4_multiplyBy _ am tl cd kn lo tn wd sg up dn of bey rnd tx u13.1 u13.2 (p0 + 1) 20 d0 _ (by omega) (by omega) (by omega) (by omega) (by omega) gr14 (fk_absM ao ad (by decide))) (cwV 3 hts gX4_value_X4_multiplyBy rfl rfl rfl (by decide +kernel) ⟨Nat.le_of_ble_eq_true rfl, Nat.le_of_ble_eq_true rfl⟩) (fk_preV 0 5 hK hN hP hD rfl rfl) rfl rfl hl.1 rfl (lv_room (Nat.le_of_ble_eq_true rfl)) dX4_value_49 ⟨Nat.le_of_ble_eq_true rfl, Nat.le_of_ble_eq_true rfl⟩) (fun u20 H locs hw hP hD hS => ?_)
  have hP : va_P D vwCl (fk_wm cJ cI cZ am cd kn lo tn wd sg up dn of bey rnd tx u20.1 u20.2 ++ tl) H := hP
  have hD : va_D A (fk_wm cJ cI cZ am cd kn lo tn wd sg up dn of bey rnd tx u20.1 u20.2 ++ tl) := hD
  obtain ⟨gr21, kx22⟩ := hw
  have gg24 := fk_G_kr gg17 kx22 (by simp <;> omega)
  have gg25 := fk_G_kr gr14 kx22 (by simp <;> omega)
  have KK26 : fk_kr [p0, p0 + 1, 20, 23] pt sn u20.1 u20.2 := fk_kr_t KK18 kx22 (fun r hr => by simp at hr ⊢; omega)
  refine lv_aload_n hx hb dX4_value_52 rfl (lv_at hl 0 rfl) ?_
  refine lv_iload_n hx hb dX4_value_53 rfl (lv_at hl 1 rfl) ?_
  refine lv_iload_n hx hb dX4_value_54 rfl (lv_at hl 1 rfl) ?_
  refine lv_iload_n hx hb dX4_value_55 rfl (lv_at hl 1 rfl) ?_
  refine lv_iconst (v := 1) hx hb dX4_value_56 (by decide) ?_
  refine lv_iadd hx hb dX4_value_57 ?_
  refine lv_topi (fun x27 ex27 => ?_)
  have ex27q : x27 = nI (p0 + 1) := by
    rw [ex27]; exact nI_1 p0
  subst ex27q
  refine lv_iconst (v := 1) hx hb dX4_value_58 (by decide) ?_
  have m1 : fk_abs (fk_bring w s1 v.toInt * u0.toInt) ≤ 9223372036854775808000 := by rw [fk_abs_mul]; have := Int.mul_le_mul ab.2 au.2 au.1 (by omega); omega
  have m2 : fk_abs (o0.toInt * d0.toInt) ≤ 1000000000 := by rw [fk_abs_mul]; have := Int.mul_le_mul ao.2 ad.2 ad.1 (by omega); omega
  refine fk_cv hD hS hA (va_runV (As := [.int (nI p0), .int (nI p0), .int (nI (p0 + 1)), .int 1]) (rest := []) ⟨hx, hb, hml, hown, hts⟩ (kX4_add _ am tl cd kn lo tn wd sg up dn of bey rnd tx u20.1 u20.2 p0 p0 (p0 + 1) 1 _ _ (by omega) (by omega) (by omega) (Or.inl rfl) gg24 gr21 (by rw [fk_p16]; omega)) (cwV 4 hts gX4_value_X4_add rfl rfl rfl (by decide +kernel) ⟨Nat.le_of_ble_eq_true rfl, Nat.le_of_ble_eq_true rfl⟩) (fk_preV 0 5 hK hN hP hD rfl rfl) rfl rfl hl.1 rfl (lv_room (Nat.le_of_ble_eq_true rfl)) dX4_value_59 ⟨Nat.le_of_ble_eq_true rfl, Nat.le_of_ble_eq_true rfl⟩) (fun u28 H locs hw hP hD hS => ?_)
  have hP : va_P D vwCl (fk_wm cJ cI cZ am cd kn lo tn wd sg up dn of bey rnd tx u28.1 u28.2 ++ tl) H := hP
  have hD : va_D A (fk_wm cJ cI cZ am cd kn lo tn wd sg up dn of bey rnd tx u28.1 u28.2 ++ tl) := hD
  obtain ⟨gr29, kx30a, kx30b⟩ := hw
  have kx30 := fk_kr_1 kx30a kx30b
  have gg32 := fk_G_kr gr21 kx30 (by simp <;> omega)
  have KK33 : fk_kr [p0, p0 + 1, 20, 23] pt sn u28.1 u28.2 := fk_kr_t KK26 kx30 (fun r hr => by simp at hr ⊢; omega)
  rw [show (1 : Int32).toInt = 1 by decide, Int.mul_one] at gr29
  refine lv_aload_n hx hb dX4_value_62 rfl (lv_at hl 0 rfl) ?_
  refine lv_iload_n hx hb dX4_value_63 rfl (lv_at hl 1 rfl) ?_
  refine lv_iconst (v := 1) hx hb dX4_value_64 (by decide) ?_
  refine lv_iadd hx hb dX4_value_65 ?_
  refine lv_topi (fun x34 ex34 => ?_)
  have ex34q : x34 = nI (p0 + 1) := by
    rw [ex34]; exact nI_1 p0
  subst ex34q
  refine lv_aload_n hx hb dX4_value_66 rfl (lv_at hl 0 rfl) ?_
  refine va_get (D := D) (ci := 5) (v := .ref (am 4)) (C := RX4) (T := TX4) (N := 14) hx hb hts k2 hown hK hP 0 rfl rfl 5 (by decide) k4 (fun _ h9 => h9) rfl dX4_value_67 ?_
  refine lv_iload_n hx hb dX4_value_70 rfl (lv_at hl 2 rfl) ?_
  refine fk_lald hx hb hK hP 4 0 rfl rfl (i := i) hi (by decide) dX4_value_71 ?_
  rw [hdi]
  refine fk_cv hD hS hA (va_runV (As := [.int (nI (p0 + 1)), .long d0]) (rest := []) ⟨hx, hb, hml, hown, hts⟩ (kX4_set _ am tl cd kn lo tn wd sg up dn of bey rnd tx u28.1 u28.2 (p0 + 1) d0 (by omega)) (cwV 2 hts gX4_value_X4_set rfl rfl rfl (by decide +kernel) ⟨Nat.le_of_ble_eq_true rfl, Nat.le_of_ble_eq_true rfl⟩) (fk_preV 0 5 hK hN hP hD rfl rfl) rfl rfl hl.1 rfl (lv_room (Nat.le_of_ble_eq_true rfl)) dX4_value_72 ⟨Nat.le_of_ble_eq_true rfl, Nat.le_of_ble_eq_true rfl⟩) (fun u35 H locs hw hP hD hS => ?_)
  have hP : va_P D vwCl (fk_wm cJ cI cZ am cd kn lo tn wd sg up dn of bey rnd tx u35.1 u35.2 ++ tl) H := hP
  have hD : va_D A (fk_wm cJ cI cZ am cd kn lo tn wd sg up dn of bey rnd tx u35.1 u35.2 ++ tl) := hD
  obtain ⟨gr36, kx37a, kx37b⟩ := hw
  have kx37 := fk_kr_1 kx37a kx37b
  have gg39 := fk_G_kr gr29 kx37 (by simp <;> omega)
  have KK40 : fk_kr [p0, p0 + 1, 20, 23] pt sn u35.1 u35.2 := fk_kr_t KK33 kx37 (fun r hr => by simp at hr ⊢; omega)
  rw [hQQ]
  exact W.vret hx hb hr (fun t ht hW => ⟨⟨(u35.1, u35.2), rfl, ⟨gg39, gr36, KK40⟩, by rw [ht]; exact hP, va_K.moved hW.alike hK, hD⟩, hS.F ht⟩) hS.2.2 dX4_value_75
