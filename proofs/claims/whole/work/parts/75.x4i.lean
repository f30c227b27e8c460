/-! Reference: round, by program -/
theorem fk_cmp_ge (a : Int) : 0 ≤ (fk_cmp a).toInt ↔ ¬ a < 0 := by
  rcases fk_cmp_cases a with ⟨x, y⟩ | ⟨x, y⟩ | ⟨x, y⟩ <;> rw [y]
  · exact ⟨fun _ => by omega, fun _ => by decide⟩
  · exact ⟨fun h => absurd h (by decide), fun h => absurd x h⟩
  · exact ⟨fun _ => by omega, fun _ => by decide⟩
theorem fk_cmp_gt (a : Int) : 0 < (fk_cmp a).toInt ↔ 0 < a := by
  rcases fk_cmp_cases a with ⟨x, y⟩ | ⟨x, y⟩ | ⟨x, y⟩ <;> rw [y]
  · exact ⟨fun h => absurd h (by decide), fun h => by omega⟩
  · exact ⟨fun h => absurd h (by decide), fun h => by omega⟩
  · exact ⟨fun _ => x, fun _ => by decide⟩
theorem fk_cmp_l2 (a : Int) : (fk_cmp a).toInt64.toInt = (fk_cmp a).toInt := Int32.toInt_toInt64 _
theorem fk_sgn_cmp {a : Int} (h : a ≠ 0) : (fk_cmp a).toInt = if a < 0 then -1 else 1 := by
  rcases fk_cmp_cases a with ⟨x, y⟩ | ⟨x, y⟩ | ⟨x, y⟩ <;> rw [y]
  · exact absurd x h
  · rw [if_pos x]; decide
  · rw [if_neg (by omega)]; decide
theorem fi_rem2 {x : Int32} (h0 : 0 ≤ x.toInt) : (x - x / 2 * 2) = nI (x.toInt.toNat % 2) := by
  obtain ⟨m, rfl, hm⟩ := fi_of h0
  have hl := (nI m).toInt_lt
  have hb : m < 2 ^ 31 := by omega
  rw [show (2 : Int32) = nI 2 from rfl, pk_rem hb (by omega) (by omega), nI_toInt hb]
  congr 2
abbrev rmX4_round : Room := { frames := 3, cells := 0, slots := 0, locals := 73 }
set_option maxHeartbeats 4000000 in
set_option maxRecDepth 100000 in
/-- round -/
theorem kX4_round {l : Launch} {D : va_G} {cJ cC cI cZ cK : ClassId} (sz : Nat) (am : Nat → Nat) (tl : va_W) (cd kn lo tn : Int32) (wd sg : Nat → Int32) (up dn of : Nat → Int64) (bey rnd tx pt sn : Nat → Int32) (p0 : Nat) (r0 : Int32) (a b : Int) (hp : p0 ≤ 14) (gA : fk_G a p0 pt sn) (gB : fk_G b (p0 + 1) pt sn) (hb0 : 0 < b) (hab : fk_abs a < 28948022309329048855892746252171976963317496166410141009864396001978282409984) (hrd : r0 = 0 ∨ r0 = 1 ∨ r0 = 2 ∨ r0 = 3) (hb2 : b < 28948022309329048855892746252171976963317496166410141009864396001978282409984) : Met l yX4_round wsX4_round rmX4_round (va_Pc [.ref (am 0), .int (nI p0), .int r0] (fk_pre D (fk_ty cJ cC cI cZ cK) (fk_wm cJ cI cZ am cd kn lo tn wd sg up dn of bey rnd tx pt sn ++ tl) sz)) (va_Qv (fun u : Int32 × (Nat → Int32) × (Nat → Int32) => u.1 = (if a % b = 0 then 0 else 1) ∧ fk_G (fk_round r0 a b) 16 u.2.1 u.2.2 ∧ fk_kr [16, 17, 18, 22] pt sn u.2.1 u.2.2) (fk_Bd D (fk_ty cJ cC cI cZ cK) (va_A (fk_wm cJ cI cZ am cd kn lo tn wd sg up dn of bey rnd tx pt sn ++ tl) sz) (fun u : Int32 × (Nat → Int32) × (Nat → Int32) => fk_wm cJ cI cZ am cd kn u.1 tn wd sg up dn of bey rnd tx u.2.1 u.2.2 ++ tl)) (va_A (fk_wm cJ cI cZ am cd kn lo tn wd sg up dn of bey rnd tx pt sn ++ tl) sz)) 0 0 (va_A (fk_wm cJ cI cZ am cd kn lo tn wd sg up dn of bey rnd tx pt sn ++ tl) sz) := by
  refine fk_ofW cX4_round 5 none (fun A => va_Qv (fun u : Int32 × (Nat → Int32) × (Nat → Int32) => u.1 = (if a % b = 0 then 0 else 1) ∧ fk_G (fk_round r0 a b) 16 u.2.1 u.2.2 ∧ fk_kr [16, 17, 18, 22] pt sn u.2.1 u.2.2) (fk_Bd D (fk_ty cJ cC cI cZ cK) A (fun u : Int32 × (Nat → Int32) × (Nat → Int32) => fk_wm cJ cI cZ am cd kn u.1 tn wd sg up dn of bey rnd tx u.2.1 u.2.2 ++ tl)) A) rfl (by decide) (Nat.le_of_ble_eq_true rfl) ?_
  intro p e s m below meth c A ls args QQ hQQ hAt hP hK hN hD hA hS hl
  obtain ⟨⟨hx, hb, hml, hown, hts⟩, hr, hlocks, hin⟩ := hAt
  have hl : lv_has ls 5 [(0, .ref (am 0)), (1, .int (nI p0)), (2, .int r0)] := hl
  have k1 := hts (.fieldLink RX4 39 "FixedKindsModel" "sign" "[I") (by decide +kernel)
  have k2 := (by decide +kernel : ∀ w ∈ u_ws RX4 TX4 14, w ∈ wsX4_round)
  have k3 := hts (.fieldLink RX4 113 "FixedKindsModel" "lost" "Z") (by decide +kernel)
  have k4 := hts (.fieldLink RX4 36 "FixedKindsModel" "part" "[I") (by decide +kernel)
  have hbb : fk_abs b = b := by rw [fk_abs, if_neg (by omega)]
  refine lv_aload_n hx hb dX4_round_0 rfl (lv_at hl 0 rfl) ?_
  refine lv_bipush (v := 16) hx hb dX4_round_1 (by decide) ?_
  refine lv_bipush (v := 17) hx hb dX4_round_3 (by decide) ?_
  refine lv_iload_n hx hb dX4_round_5 rfl (lv_at hl 1 rfl) ?_
  refine lv_iload_n hx hb dX4_round_6 rfl (lv_at hl 1 rfl) ?_
  refine lv_iconst (v := 1) hx hb dX4_round_7 (by decide) ?_
  refine lv_iadd hx hb dX4_round_8 ?_
  refine lv_topi (fun x1 ex1 => ?_)
  have ex1q : x1 = nI (p0 + 1) := by
    rw [ex1]; exact nI_1 p0
  subst ex1q
  refine fk_cv hD hS hA (va_runV (As := [.int 16, .int 17, .int (nI p0), .int (nI (p0 + 1))]) (rest := []) ⟨hx, hb, hml, hown, hts⟩ (kX4_divide _ am tl cd kn lo tn wd sg up dn of bey rnd tx pt sn 16 17 p0 (p0 + 1) a b (by omega) (by omega) (by omega) (by omega) gA gB (by omega) hab) (cwV 4 hts gX4_round_X4_divide rfl rfl rfl (by decide +kernel) ⟨Nat.le_of_ble_eq_true rfl, Nat.le_of_ble_eq_true rfl⟩) (fk_preV 0 5 hK hN hP hD rfl rfl) rfl rfl hl.1 rfl (lv_room (Nat.le_of_ble_eq_true rfl)) dX4_round_9 ⟨Nat.le_of_ble_eq_true rfl, Nat.le_of_ble_eq_true rfl⟩) (fun u2 H locs hw hP hD hS => ?_)
  have hP : va_P D vwCl (fk_wm cJ cI cZ am cd kn lo tn wd sg up dn of bey rnd tx u2.1 u2.2 ++ tl) H := hP
  have hD : va_D A (fk_wm cJ cI cZ am cd kn lo tn wd sg up dn of bey rnd tx u2.1 u2.2 ++ tl) := hD
  obtain ⟨g16, g17, kx1⟩ := hw
  rw [hbb] at g17
  have hm0 := Int.emod_nonneg (fk_abs a) (show b ≠ 0 by omega)
  have hm1 := Int.emod_lt_of_pos (fk_abs a) hb0
  have hma : fk_abs (fk_abs a % b) = fk_abs a % b := by rw [fk_abs, if_neg (by omega)]
  have hbB := (fk_rg_bd gB.1).2
  rw [hbb] at hbB
  have gg4 := fk_G_kr gA kx1 (by simp <;> omega)
  have gg5 := fk_G_kr gB kx1 (by simp <;> omega)
  have KK6 : fk_kr [16, 17, 18, 22] pt sn u2.1 u2.2 := fk_kr_t (fk_kr_0 pt sn) kx1 (fun r hr => by simp at hr ⊢; omega)
  refine lv_aload_n hx hb dX4_round_12 rfl (lv_at hl 0 rfl) ?_
  refine lv_aload_n hx hb dX4_round_13 rfl (lv_at hl 0 rfl) ?_
  refine va_get (D := D) (ci := 5) (v := .ref (am 10)) (C := RX4) (T := TX4) (N := 14) hx hb hts k2 hown hK hP 0 rfl rfl 13 (by decide) k1 (fun _ h9 => h9) rfl dX4_round_14 ?_
  refine lv_bipush (v := 17) hx hb dX4_round_17 (by decide) ?_
  refine fk_iald hx hb hK hP 10 2 rfl rfl (i := 17) (by decide) (by decide) dX4_round_19 ?_
  refine lv_if_eq (tgt := 27) hx hb dX4_round_20 (by decide) (fun c_20 => ?_) (fun c_20 => ?_)
  · rw [g17.2, fk_cmp_ne] at c_20
    have hex : a % b = 0 := (fk_abs_mod a hb0).mp c_20
    refine lv_iconst (v := 0) hx hb dX4_round_27 (by decide) ?_
    refine va_put (D := D) (ci := 5) (v := .int 0) (ty := (.boolean)) (C := RX4) (T := TX4) (N := 14) hx hb hts k2 tyX4 tyX4_ok nmX4 hown hK hP hD hS 0 rfl rfl 9 (by decide) k3 (fun _ h9 => h9) rfl (by decide +kernel) rfl rfl (Nat.le_of_ble_eq_true rfl) dX4_round_28 (fun H locs hP hD hS => ?_)
    have hP : va_P D vwCl (fk_wm cJ cI cZ am cd kn 0 tn wd sg up dn of bey rnd tx u2.1 u2.2 ++ tl) H := hP
    have hD : va_D A (fk_wm cJ cI cZ am cd kn 0 tn wd sg up dn of bey rnd tx u2.1 u2.2 ++ tl) := hD
    refine lv_aload_n hx hb dX4_round_31 rfl (lv_at hl 0 rfl) ?_
    refine va_get (D := D) (ci := 5) (v := .int 0) (C := RX4) (T := TX4) (N := 14) hx hb hts k2 hown hK hP 0 rfl rfl 9 (by decide) k3 (fun _ h9 => h9) rfl dX4_round_32 ?_
    refine lv_if_ne (tgt := 39) hx hb dX4_round_35 (by decide) (fun c_35 => False.elim (absurd rfl c_35)) (fun c_35 => ?_)
    have hup : fk_up r0 a b = 0 := by rw [fk_up, if_pos hex]
    have hrr : fk_round r0 a b = fk_dq a b + 0 * (if a < 0 then -1 else 1) := fk_rdq hb0 0 (by rw [hup]; decide)
    rw [Int.zero_mul, Int.add_zero] at hrr
    rw [hQQ]
    exact W.vret hx hb hr (fun t ht hW => ⟨⟨(0, u2.1, u2.2), rfl, ⟨(by rw [if_pos hex]), (by rw [hrr]; exact g16), KK6⟩, by rw [ht]; exact hP, va_K.moved hW.alike hK, hD⟩, hS.F ht⟩) hS.2.2 dX4_round_38
  · rw [g17.2, fk_cmp_ne] at c_20
    have hex : ¬ a % b = 0 := fun q => c_20 ((fk_abs_mod a hb0).mpr q)
    refine lv_iconst (v := 1) hx hb dX4_round_23 (by decide) ?_
    refine lv_goto (tgt := 28) hx hb dX4_round_24 (by decide) ?_
    refine va_put (D := D) (ci := 5) (v := .int 1) (ty := (.boolean)) (C := RX4) (T := TX4) (N := 14) hx hb hts k2 tyX4 tyX4_ok nmX4 hown hK hP hD hS 0 rfl rfl 9 (by decide) k3 (fun _ h9 => h9) rfl (by decide +kernel) rfl rfl (Nat.le_of_ble_eq_true rfl) dX4_round_28 (fun H locs hP hD hS => ?_)
    have hP : va_P D vwCl (fk_wm cJ cI cZ am cd kn 1 tn wd sg up dn of bey rnd tx u2.1 u2.2 ++ tl) H := hP
    have hD : va_D A (fk_wm cJ cI cZ am cd kn 1 tn wd sg up dn of bey rnd tx u2.1 u2.2 ++ tl) := hD
    refine lv_aload_n hx hb dX4_round_31 rfl (lv_at hl 0 rfl) ?_
    refine va_get (D := D) (ci := 5) (v := .int 1) (C := RX4) (T := TX4) (N := 14) hx hb hts k2 hown hK hP 0 rfl rfl 9 (by decide) k3 (fun _ h9 => h9) rfl dX4_round_32 ?_
    refine lv_if_ne (tgt := 39) hx hb dX4_round_35 (by decide) (fun c_35 => ?_) (fun c_35 => False.elim (absurd c_35 (by decide)))
    refine lv_aload_n hx hb dX4_round_39 rfl (lv_at hl 0 rfl) ?_
    refine lv_bipush (v := 18) hx hb dX4_round_40 (by decide) ?_
    refine lv_bipush (v := 17) hx hb dX4_round_42 (by decide) ?_
    refine lv_bipush (v := 17) hx hb dX4_round_44 (by decide) ?_
    refine fk_cv hD hS hA (va_runV (As := [.int 18, .int 17, .int 17]) (rest := []) ⟨hx, hb, hml, hown, hts⟩ (kX4_addSizes _ am tl cd kn 1 tn wd sg up dn of bey rnd tx u2.1 u2.2 18 17 17 _ _ (by omega) (by omega) (by omega) g17.1 g17.1 (by rw [hma, fk_p16]; rw [fk_p16] at hbB; omega)) (cwV 3 hts gX4_round_X4_addSizes rfl rfl rfl (by decide +kernel) ⟨Nat.le_of_ble_eq_true rfl, Nat.le_of_ble_eq_true rfl⟩) (fk_preV 0 5 hK hN hP hD rfl rfl) rfl rfl hl.1 rfl (lv_room (Nat.le_of_ble_eq_true rfl)) dX4_round_46 ⟨Nat.le_of_ble_eq_true rfl, Nat.le_of_ble_eq_true rfl⟩) (fun pt7 H locs hw hP hD hS => ?_)
    have hP : va_P D vwCl (fk_wm cJ cI cZ am cd kn 1 tn wd sg up dn of bey rnd tx pt7 u2.2 ++ tl) H := hP
    have hD : va_D A (fk_wm cJ cI cZ am cd kn 1 tn wd sg up dn of bey rnd tx pt7 u2.2 ++ tl) := hD
    obtain ⟨hr18, f18⟩ := hw
    rw [hma] at hr18
    have kx2 := fk_kr_1 f18 (fk_fs_0 18 u2.2)
    have gg9 := fk_G_kr gg4 kx2 (by simp <;> omega)
    have gg10 := fk_G_kr gg5 kx2 (by simp <;> omega)
    have gg11 := fk_G_kr g16 kx2 (by simp <;> omega)
    have gg12 := fk_G_kr g17 kx2 (by simp <;> omega)
    have KK13 : fk_kr [16, 17, 18, 22] pt sn pt7 u2.2 := fk_kr_t KK6 kx2 (fun r hr => by simp at hr ⊢; omega)
    have ha0 : a ≠ 0 := fun q => hex (by rw [q]; simp)
    refine lv_aload_n hx hb dX4_round_49 rfl (lv_at hl 0 rfl) ?_
    refine lv_bipush (v := 18) hx hb dX4_round_50 (by decide) ?_
    refine lv_iload_n hx hb dX4_round_52 rfl (lv_at hl 1 rfl) ?_
    refine lv_iconst (v := 1) hx hb dX4_round_53 (by decide) ?_
    refine lv_iadd hx hb dX4_round_54 ?_
    refine lv_topi (fun x14 ex14 => ?_)
    have ex14q : x14 = nI (p0 + 1) := by
      rw [ex14]; exact nI_1 p0
    subst ex14q
    refine fk_ci hD hS hA (va_runV (As := [.int 18, .int (nI (p0 + 1))]) (rest := []) ⟨hx, hb, hml, hown, hts⟩ (kX4_sizes _ am tl cd kn 1 tn wd sg up dn of bey rnd tx pt7 u2.2 18 (p0 + 1) _ _ (by omega) (by omega) hr18 gg10.1) (cwV 2 hts gX4_round_X4_sizes rfl rfl rfl (by decide +kernel) ⟨Nat.le_of_ble_eq_true rfl, Nat.le_of_ble_eq_true rfl⟩) (fk_preV 0 5 hK hN hP hD rfl rfl) rfl rfl hl.1 rfl (lv_room (Nat.le_of_ble_eq_true rfl)) dX4_round_55 ⟨Nat.le_of_ble_eq_true rfl, Nat.le_of_ble_eq_true rfl⟩) (fun r15 u H locs hw hP hD hS => ?_)
    have hP : va_P D vwCl (fk_wm cJ cI cZ am cd kn 1 tn wd sg up dn of bey rnd tx pt7 u2.2 ++ tl) H := hP
    have hD : va_D A (fk_wm cJ cI cZ am cd kn 1 tn wd sg up dn of bey rnd tx pt7 u2.2 ++ tl) := hD
    rw [hbb] at hw
    obtain ⟨s1, s2⟩ := hw
    refine lv_istore_n (lv' := [(3, .int r15), (0, .ref (am 0)), (1, .int (nI p0)), (2, .int r0)]) hx hb dX4_round_58 rfl hl (by decide) rfl (fun ls hl => ?_)
    refine lv_iload_n hx hb dX4_round_59 rfl (lv_at hl 3 rfl) ?_
    refine lv_iconst (v := 1) hx hb dX4_round_60 (by decide) ?_
    refine lv_icmp_ne (tgt := 81) hx hb dX4_round_61 (by decide) (fun c_61 => ?_) (fun c_61 => ?_)
    · refine lv_iload_n hx hb dX4_round_81 rfl (lv_at hl 3 rfl) ?_
      refine lv_iconst (v := 2) hx hb dX4_round_82 (by decide) ?_
      refine lv_icmp_ne (tgt := 98) hx hb dX4_round_83 (by decide) (fun c_83 => ?_) (fun c_83 => ?_)
      · refine lv_iload_n hx hb dX4_round_98 rfl (lv_at hl 3 rfl) ?_
        refine lv_iconst (v := 3) hx hb dX4_round_99 (by decide) ?_
        refine lv_icmp_ne (tgt := 129) hx hb dX4_round_100 (by decide) (fun c_100 => ?_) (fun c_100 => ?_)
        · have hup : fk_up r0 a b = 0 := by rcases hrd with q | q | q | q; rw [fk_up, if_neg hex, fk_aw, if_pos q]; exact absurd q c_61; exact absurd q c_83; exact absurd q c_100
          refine lv_iconst (v := 0) hx hb dX4_round_129 (by decide) ?_
          refine lv_istore (lv' := [(4, .int 0), (3, .int r15), (0, .ref (am 0)), (1, .int (nI p0)), (2, .int r0)]) hx hb dX4_round_130 hl (by decide) rfl (fun ls hl => ?_)
          refine lv_aload_n hx hb dX4_round_132 rfl (lv_at hl 2 rfl) ?_
          refine lv_bipush (v := 18) hx hb dX4_round_133 (by decide) ?_
          refine lv_aload_n hx hb dX4_round_135 rfl (lv_at hl 2 rfl) ?_
          refine va_get (D := D) (ci := 5) (v := .ref (am 10)) (C := RX4) (T := TX4) (N := 14) hx hb hts k2 hown hK hP 0 rfl rfl 13 (by decide) k1 (fun _ h9 => h9) rfl dX4_round_136 ?_
          refine lv_iload_n hx hb dX4_round_139 rfl (lv_at hl 3 rfl) ?_
          refine fk_iald hx hb hK hP 10 2 rfl rfl (i := p0) (by omega) (by decide) dX4_round_140 ?_
          rw [gg9.2]
          refine lv_i2l hx hb dX4_round_141 rfl ?_
          refine lv_topl (fun x16 ex16 => ?_)
          refine fk_cv hD hS hA (va_runV (As := [.int 18, .long x16]) (rest := []) ⟨hx, hb, hml, hown, hts⟩ (kX4_set _ am tl cd kn 1 tn wd sg up dn of bey rnd tx pt7 u2.2 18 x16 (by omega)) (cwV 2 hts gX4_round_X4_set rfl rfl rfl (by decide +kernel) ⟨Nat.le_of_ble_eq_true rfl, Nat.le_of_ble_eq_true rfl⟩) (fk_preV 0 5 hK hN hP hD rfl rfl) rfl rfl hl.1 rfl (lv_room (Nat.le_of_ble_eq_true rfl)) dX4_round_142 ⟨Nat.le_of_ble_eq_true rfl, Nat.le_of_ble_eq_true rfl⟩) (fun u17 H locs hw hP hD hS => ?_)
          have hP : va_P D vwCl (fk_wm cJ cI cZ am cd kn 1 tn wd sg up dn of bey rnd tx u17.1 u17.2 ++ tl) H := hP
          have hD : va_D A (fk_wm cJ cI cZ am cd kn 1 tn wd sg up dn of bey rnd tx u17.1 u17.2 ++ tl) := hD
          obtain ⟨gr18, kx19a, kx19b⟩ := hw
          have kx19 := fk_kr_1 kx19a kx19b
          have gg21 := fk_G_kr gg9 kx19 (by simp <;> omega)
          have gg22 := fk_G_kr gg10 kx19 (by simp <;> omega)
          have gg23 := fk_G_kr gg11 kx19 (by simp <;> omega)
          have gg24 := fk_G_kr gg12 kx19 (by simp <;> omega)
          have KK25 : fk_kr [16, 17, 18, 22] pt sn u17.1 u17.2 := fk_kr_t KK13 kx19 (fun r hr => by simp at hr ⊢; omega)
          rw [ex16, fk_cmp_l2, fk_sgn_cmp ha0] at gr18
          refine lv_iload hx hb dX4_round_145 (lv_at hl 0 rfl) ?_
          refine lv_if_eq (tgt := 161) hx hb dX4_round_147 (by decide) (fun c_147 => ?_) (fun c_147 => False.elim (absurd rfl c_147))
          have hrr : fk_round r0 a b = fk_dq a b + 0 * (if a < 0 then -1 else 1) := fk_rdq hb0 0 (by rw [hup]; decide)
          rw [Int.zero_mul, Int.add_zero] at hrr
          rw [hQQ]
          exact W.vret hx hb hr (fun t ht hW => ⟨⟨(1, u17.1, u17.2), rfl, ⟨(by rw [if_neg hex]), (by rw [hrr]; exact gg23), KK25⟩, by rw [ht]; exact hP, va_K.moved hW.alike hK, hD⟩, hS.F ht⟩) hS.2.2 dX4_round_161
        · refine lv_iload_n hx hb dX4_round_103 rfl (lv_at hl 0 rfl) ?_
          refine lv_if_gt (tgt := 125) hx hb dX4_round_104 (by decide) (fun c_104 => ?_) (fun c_104 => ?_)
          · rw [Int32.lt_iff_toInt_lt, show (0 : Int32).toInt = 0 by decide] at c_104
            have hup : fk_up r0 a b = 1 := by have q := s1.mp c_104; rw [fk_up, if_neg hex, fk_aw, if_neg (by rw [c_100]; decide), if_neg c_61, if_neg (by omega), if_neg (by omega)]
            refine lv_iconst (v := 1) hx hb dX4_round_125 (by decide) ?_
            refine lv_goto (tgt := 130) hx hb dX4_round_126 (by decide) ?_
            refine lv_istore (lv' := [(4, .int 1), (3, .int r15), (0, .ref (am 0)), (1, .int (nI p0)), (2, .int r0)]) hx hb dX4_round_130 hl (by decide) rfl (fun ls hl => ?_)
            refine lv_aload_n hx hb dX4_round_132 rfl (lv_at hl 2 rfl) ?_
            refine lv_bipush (v := 18) hx hb dX4_round_133 (by decide) ?_
            refine lv_aload_n hx hb dX4_round_135 rfl (lv_at hl 2 rfl) ?_
            refine va_get (D := D) (ci := 5) (v := .ref (am 10)) (C := RX4) (T := TX4) (N := 14) hx hb hts k2 hown hK hP 0 rfl rfl 13 (by decide) k1 (fun _ h9 => h9) rfl dX4_round_136 ?_
            refine lv_iload_n hx hb dX4_round_139 rfl (lv_at hl 3 rfl) ?_
            refine fk_iald hx hb hK hP 10 2 rfl rfl (i := p0) (by omega) (by decide) dX4_round_140 ?_
            rw [gg9.2]
            refine lv_i2l hx hb dX4_round_141 rfl ?_
            refine lv_topl (fun x26 ex26 => ?_)
            refine fk_cv hD hS hA (va_runV (As := [.int 18, .long x26]) (rest := []) ⟨hx, hb, hml, hown, hts⟩ (kX4_set _ am tl cd kn 1 tn wd sg up dn of bey rnd tx pt7 u2.2 18 x26 (by omega)) (cwV 2 hts gX4_round_X4_set rfl rfl rfl (by decide +kernel) ⟨Nat.le_of_ble_eq_true rfl, Nat.le_of_ble_eq_true rfl⟩) (fk_preV 0 5 hK hN hP hD rfl rfl) rfl rfl hl.1 rfl (lv_room (Nat.le_of_ble_eq_true rfl)) dX4_round_142 ⟨Nat.le_of_ble_eq_true rfl, Nat.le_of_ble_eq_true rfl⟩) (fun u27 H locs hw hP hD hS => ?_)
            have hP : va_P D vwCl (fk_wm cJ cI cZ am cd kn 1 tn wd sg up dn of bey rnd tx u27.1 u27.2 ++ tl) H := hP
            have hD : va_D A (fk_wm cJ cI cZ am cd kn 1 tn wd sg up dn of bey rnd tx u27.1 u27.2 ++ tl) := hD
            obtain ⟨gr28, kx29a, kx29b⟩ := hw
            have kx29 := fk_kr_1 kx29a kx29b
            have gg31 := fk_G_kr gg9 kx29 (by simp <;> omega)
            have gg32 := fk_G_kr gg10 kx29 (by simp <;> omega)
            have gg33 := fk_G_kr gg11 kx29 (by simp <;> omega)
            have gg34 := fk_G_kr gg12 kx29 (by simp <;> omega)
            have KK35 : fk_kr [16, 17, 18, 22] pt sn u27.1 u27.2 := fk_kr_t KK13 kx29 (fun r hr => by simp at hr ⊢; omega)
            rw [ex26, fk_cmp_l2, fk_sgn_cmp ha0] at gr28
            refine lv_iload hx hb dX4_round_145 (lv_at hl 0 rfl) ?_
            refine lv_if_eq (tgt := 161) hx hb dX4_round_147 (by decide) (fun c_147 => False.elim (absurd c_147 (by decide))) (fun c_147 => ?_)
            refine lv_aload_n hx hb dX4_round_150 rfl (lv_at hl 2 rfl) ?_
            refine lv_bipush (v := 16) hx hb dX4_round_151 (by decide) ?_
            refine lv_bipush (v := 16) hx hb dX4_round_153 (by decide) ?_
            refine lv_bipush (v := 18) hx hb dX4_round_155 (by decide) ?_
            refine lv_iconst (v := 1) hx hb dX4_round_157 (by decide) ?_
            have hd := (fk_dq_G (x := a) (y := b) (by omega)).1
            rw [hbb] at hd
            have hdl : fk_abs a / b ≤ fk_abs a := Int.ediv_le_self _ (by have := fk_abs_cases a; omega)
            have hs1 : fk_abs (if a < 0 then (-1 : Int) else 1) = 1 := by split <;> decide
            refine fk_cv hD hS hA (va_runV (As := [.int 16, .int 16, .int 18, .int 1]) (rest := []) ⟨hx, hb, hml, hown, hts⟩ (kX4_add _ am tl cd kn 1 tn wd sg up dn of bey rnd tx u27.1 u27.2 16 16 18 1 _ _ (by omega) (by omega) (by omega) (Or.inl rfl) gg33 gr28 (by rw [hd, hs1, fk_p16]; omega)) (cwV 4 hts gX4_round_X4_add rfl rfl rfl (by decide +kernel) ⟨Nat.le_of_ble_eq_true rfl, Nat.le_of_ble_eq_true rfl⟩) (fk_preV 0 5 hK hN hP hD rfl rfl) rfl rfl hl.1 rfl (lv_room (Nat.le_of_ble_eq_true rfl)) dX4_round_158 ⟨Nat.le_of_ble_eq_true rfl, Nat.le_of_ble_eq_true rfl⟩) (fun u36 H locs hw hP hD hS => ?_)
            have hP : va_P D vwCl (fk_wm cJ cI cZ am cd kn 1 tn wd sg up dn of bey rnd tx u36.1 u36.2 ++ tl) H := hP
            have hD : va_D A (fk_wm cJ cI cZ am cd kn 1 tn wd sg up dn of bey rnd tx u36.1 u36.2 ++ tl) := hD
            obtain ⟨gr37, kx38a, kx38b⟩ := hw
            have kx38 := fk_kr_1 kx38a kx38b
            have gg40 := fk_G_kr gg31 kx38 (by simp <;> omega)
            have gg41 := fk_G_kr gg32 kx38 (by simp <;> omega)
            have KK42 : fk_kr [16, 17, 18, 22] pt sn u36.1 u36.2 := fk_kr_t KK35 kx38 (fun r hr => by simp at hr ⊢; omega)
            rw [show (1 : Int32).toInt = 1 by decide, Int.mul_one] at gr37
            have hrr : fk_round r0 a b = fk_dq a b + 1 * (if a < 0 then -1 else 1) := fk_rdq hb0 1 (by rw [hup]; decide)
            rw [Int.one_mul] at hrr
            rw [hQQ]
            exact W.vret hx hb hr (fun t ht hW => ⟨⟨(1, u36.1, u36.2), rfl, ⟨(by rw [if_neg hex]), (by rw [hrr]; exact gr37), KK42⟩, by rw [ht]; exact hP, va_K.moved hW.alike hK, hD⟩, hS.F ht⟩) hS.2.2 dX4_round_161
          · rw [Int32.lt_iff_toInt_lt, show (0 : Int32).toInt = 0 by decide] at c_104
            have hnl : ¬ b < fk_abs a % b + fk_abs a % b := fun q => c_104 (s1.mpr q)
            refine lv_iload_n hx hb dX4_round_107 rfl (lv_at hl 0 rfl) ?_
            refine lv_if_ne (tgt := 129) hx hb dX4_round_108 (by decide) (fun c_108 => ?_) (fun c_108 => ?_)
            · have hlt : fk_abs a % b + fk_abs a % b < b := by
                have q : r15.toInt ≠ 0 := fun q => c_108 (Int32.toInt_inj.mp (by rw [q]; decide))
                exact s2.mp (by omega)
              have hup : fk_up r0 a b = 0 := by rw [fk_up, if_neg hex, fk_aw, if_neg (by rw [c_100]; decide), if_neg c_61, if_neg (by omega), if_pos (by omega)]
              refine lv_iconst (v := 0) hx hb dX4_round_129 (by decide) ?_
              refine lv_istore (lv' := [(4, .int 0), (3, .int r15), (0, .ref (am 0)), (1, .int (nI p0)), (2, .int r0)]) hx hb dX4_round_130 hl (by decide) rfl (fun ls hl => ?_)
              refine lv_aload_n hx hb dX4_round_132 rfl (lv_at hl 2 rfl) ?_
              refine lv_bipush (v := 18) hx hb dX4_round_133 (by decide) ?_
              refine lv_aload_n hx hb dX4_round_135 rfl (lv_at hl 2 rfl) ?_
              refine va_get (D := D) (ci := 5) (v := .ref (am 10)) (C := RX4) (T := TX4) (N := 14) hx hb hts k2 hown hK hP 0 rfl rfl 13 (by decide) k1 (fun _ h9 => h9) rfl dX4_round_136 ?_
              refine lv_iload_n hx hb dX4_round_139 rfl (lv_at hl 3 rfl) ?_
              refine fk_iald hx hb hK hP 10 2 rfl rfl (i := p0) (by omega) (by decide) dX4_round_140 ?_
              rw [gg9.2]
              refine lv_i2l hx hb dX4_round_141 rfl ?_
              refine lv_topl (fun x43 ex43 => ?_)
              refine fk_cv hD hS hA (va_runV (As := [.int 18, .long x43]) (rest := []) ⟨hx, hb, hml, hown, hts⟩ (kX4_set _ am tl cd kn 1 tn wd sg up dn of bey rnd tx pt7 u2.2 18 x43 (by omega)) (cwV 2 hts gX4_round_X4_set rfl rfl rfl (by decide +kernel) ⟨Nat.le_of_ble_eq_true rfl, Nat.le_of_ble_eq_true rfl⟩) (fk_preV 0 5 hK hN hP hD rfl rfl) rfl rfl hl.1 rfl (lv_room (Nat.le_of_ble_eq_true rfl)) dX4_round_142 ⟨Nat.le_of_ble_eq_true rfl, Nat.le_of_ble_eq_true rfl⟩) (fun u44 H locs hw hP hD hS => ?_)
              have hP : va_P D vwCl (fk_wm cJ cI cZ am cd kn 1 tn wd sg up dn of bey rnd tx u44.1 u44.2 ++ tl) H := hP
              have hD : va_D A (fk_wm cJ cI cZ am cd kn 1 tn wd sg up dn of bey rnd tx u44.1 u44.2 ++ tl) := hD
              obtain ⟨gr45, kx46a, kx46b⟩ := hw
              have kx46 := fk_kr_1 kx46a kx46b
              have gg48 := fk_G_kr gg9 kx46 (by simp <;> omega)
              have gg49 := fk_G_kr gg10 kx46 (by simp <;> omega)
              have gg50 := fk_G_kr gg11 kx46 (by simp <;> omega)
              have gg51 := fk_G_kr gg12 kx46 (by simp <;> omega)
              have KK52 : fk_kr [16, 17, 18, 22] pt sn u44.1 u44.2 := fk_kr_t KK13 kx46 (fun r hr => by simp at hr ⊢; omega)
              rw [ex43, fk_cmp_l2, fk_sgn_cmp ha0] at gr45
              refine lv_iload hx hb dX4_round_145 (lv_at hl 0 rfl) ?_
              refine lv_if_eq (tgt := 161) hx hb dX4_round_147 (by decide) (fun c_147 => ?_) (fun c_147 => False.elim (absurd rfl c_147))
              have hrr : fk_round r0 a b = fk_dq a b + 0 * (if a < 0 then -1 else 1) := fk_rdq hb0 0 (by rw [hup]; decide)
              rw [Int.zero_mul, Int.add_zero] at hrr
              rw [hQQ]
              exact W.vret hx hb hr (fun t ht hW => ⟨⟨(1, u44.1, u44.2), rfl, ⟨(by rw [if_neg hex]), (by rw [hrr]; exact gg50), KK52⟩, by rw [ht]; exact hP, va_K.moved hW.alike hK, hD⟩, hS.F ht⟩) hS.2.2 dX4_round_161
            · have heq : 2 * (fk_abs a % b) - b = 0 := by
                have q : r15.toInt = 0 := by rw [c_108]; decide
                have z : ¬ fk_abs a % b + fk_abs a % b < b := fun z => by have := s2.mpr z; omega
                omega
              refine lv_aload_n hx hb dX4_round_111 rfl (lv_at hl 1 rfl) ?_
              refine va_get (D := D) (ci := 5) (v := .ref (am 9)) (C := RX4) (T := TX4) (N := 14) hx hb hts k2 hown hK hP 0 rfl rfl 12 (by decide) k4 (fun _ h9 => h9) rfl dX4_round_112 ?_
              refine lv_sipush (v := 256) hx hb dX4_round_115 (by decide) ?_
              refine fk_iald hx hb hK hP 9 2 rfl rfl (i := 256) (by decide) (by decide) dX4_round_118 ?_
              refine lv_iconst (v := 2) hx hb dX4_round_119 (by decide) ?_
              refine lv_irem hx hb dX4_round_120 (by decide) ?_
              refine lv_topi (fun x53 ex53 => ?_)
              have hodd : (fk_abs a / b) % 2 = (pt7 256).toInt % 2 ∧ 0 ≤ (pt7 256).toInt := by
                have d := (fk_dq_G (x := a) (y := b) (by omega)).1
                rw [hbb] at d
                have g := gg11.1
                rw [d] at g
                have l := fk_T_low (fk_M pt7 16) 15
                rw [show fk_T (fk_M pt7 16) (15 + 1) = fk_abs a / b from g.2] at l
                have b0 := g.1 0 (by omega)
                have m0 : fk_M pt7 16 0 = (pt7 256).toInt := rfl
                rw [m0] at l b0
                omega
              have ex53q : x53 = nI ((pt7 256).toInt.toNat % 2) := by
                rw [ex53]; exact fi_rem2 hodd.2
              subst ex53q
              refine lv_iconst (v := 1) hx hb dX4_round_121 (by decide) ?_
              refine lv_icmp_ne (tgt := 129) hx hb dX4_round_122 (by decide) (fun c_122 => ?_) (fun c_122 => ?_)
              · have hev : fk_abs a / b % 2 = 0 := by
                  have z : (pt7 256).toInt.toNat % 2 ≠ 1 := fun z => c_122 (by rw [z]; rfl)
                  omega
                have hup : fk_up r0 a b = 0 := by rw [fk_up, if_neg hex, fk_aw, if_neg (by rw [c_100]; decide), if_neg c_61, if_pos heq, if_neg (fun q => q.elim c_83 (fun z => z (by rw [if_pos hev])))]
                refine lv_iconst (v := 0) hx hb dX4_round_129 (by decide) ?_
                refine lv_istore (lv' := [(4, .int 0), (3, .int r15), (0, .ref (am 0)), (1, .int (nI p0)), (2, .int r0)]) hx hb dX4_round_130 hl (by decide) rfl (fun ls hl => ?_)
                refine lv_aload_n hx hb dX4_round_132 rfl (lv_at hl 2 rfl) ?_
                refine lv_bipush (v := 18) hx hb dX4_round_133 (by decide) ?_
                refine lv_aload_n hx hb dX4_round_135 rfl (lv_at hl 2 rfl) ?_
                refine va_get (D := D) (ci := 5) (v := .ref (am 10)) (C := RX4) (T := TX4) (N := 14) hx hb hts k2 hown hK hP 0 rfl rfl 13 (by decide) k1 (fun _ h9 => h9) rfl dX4_round_136 ?_
                refine lv_iload_n hx hb dX4_round_139 rfl (lv_at hl 3 rfl) ?_
                refine fk_iald hx hb hK hP 10 2 rfl rfl (i := p0) (by omega) (by decide) dX4_round_140 ?_
                rw [gg9.2]
                refine lv_i2l hx hb dX4_round_141 rfl ?_
                refine lv_topl (fun x54 ex54 => ?_)
                refine fk_cv hD hS hA (va_runV (As := [.int 18, .long x54]) (rest := []) ⟨hx, hb, hml, hown, hts⟩ (kX4_set _ am tl cd kn 1 tn wd sg up dn of bey rnd tx pt7 u2.2 18 x54 (by omega)) (cwV 2 hts gX4_round_X4_set rfl rfl rfl (by decide +kernel) ⟨Nat.le_of_ble_eq_true rfl, Nat.le_of_ble_eq_true rfl⟩) (fk_preV 0 5 hK hN hP hD rfl rfl) rfl rfl hl.1 rfl (lv_room (Nat.le_of_ble_eq_true rfl)) dX4_round_142 ⟨Nat.le_of_ble_eq_true rfl, Nat.le_of_ble_eq_true rfl⟩) (fun u55 H locs hw hP hD hS => ?_)
                have hP : va_P D vwCl (fk_wm cJ cI cZ am cd kn 1 tn wd sg up dn of bey rnd tx u55.1 u55.2 ++ tl) H := hP
                have hD : va_D A (fk_wm cJ cI cZ am cd kn 1 tn wd sg up dn of bey rnd tx u55.1 u55.2 ++ tl) := hD
                obtain ⟨gr56, kx57a, kx57b⟩ := hw
                have kx57 := fk_kr_1 kx57a kx57b
                have gg59 := fk_G_kr gg9 kx57 (by simp <;> omega)
                have gg60 := fk_G_kr gg10 kx57 (by simp <;> omega)
                have gg61 := fk_G_kr gg11 kx57 (by simp <;> omega)
                have gg62 := fk_G_kr gg12 kx57 (by simp <;> omega)
                have KK63 : fk_kr [16, 17, 18, 22] pt sn u55.1 u55.2 := fk_kr_t KK13 kx57 (fun r hr => by simp at hr ⊢; omega)
                rw [ex54, fk_cmp_l2, fk_sgn_cmp ha0] at gr56
                refine lv_iload hx hb dX4_round_145 (lv_at hl 0 rfl) ?_
                refine lv_if_eq (tgt := 161) hx hb dX4_round_147 (by decide) (fun c_147 => ?_) (fun c_147 => False.elim (absurd rfl c_147))
                have hrr : fk_round r0 a b = fk_dq a b + 0 * (if a < 0 then -1 else 1) := fk_rdq hb0 0 (by rw [hup]; decide)
                rw [Int.zero_mul, Int.add_zero] at hrr
                rw [hQQ]
                exact W.vret hx hb hr (fun t ht hW => ⟨⟨(1, u55.1, u55.2), rfl, ⟨(by rw [if_neg hex]), (by rw [hrr]; exact gg61), KK63⟩, by rw [ht]; exact hP, va_K.moved hW.alike hK, hD⟩, hS.F ht⟩) hS.2.2 dX4_round_161
              · have hod : ¬ fk_abs a / b % 2 = 0 := by
                  have z : (pt7 256).toInt.toNat % 2 = 1 := (nI_eq (a := (pt7 256).toInt.toNat % 2) (b := 1) (by omega) (by omega)).mp c_122
                  omega
                have hup : fk_up r0 a b = 1 := by rw [fk_up, if_neg hex, fk_aw, if_neg (by rw [c_100]; decide), if_neg c_61, if_pos heq, if_pos (Or.inr (by rw [if_neg hod]; decide))]
                refine lv_iconst (v := 1) hx hb dX4_round_125 (by decide) ?_
                refine lv_goto (tgt := 130) hx hb dX4_round_126 (by decide) ?_
                refine lv_istore (lv' := [(4, .int 1), (3, .int r15), (0, .ref (am 0)), (1, .int (nI p0)), (2, .int r0)]) hx hb dX4_round_130 hl (by decide) rfl (fun ls hl => ?_)
                refine lv_aload_n hx hb dX4_round_132 rfl (lv_at hl 2 rfl) ?_
                refine lv_bipush (v := 18) hx hb dX4_round_133 (by decide) ?_
                refine lv_aload_n hx hb dX4_round_135 rfl (lv_at hl 2 rfl) ?_
                refine va_get (D := D) (ci := 5) (v := .ref (am 10)) (C := RX4) (T := TX4) (N := 14) hx hb hts k2 hown hK hP 0 rfl rfl 13 (by decide) k1 (fun _ h9 => h9) rfl dX4_round_136 ?_
                refine lv_iload_n hx hb dX4_round_139 rfl (lv_at hl 3 rfl) ?_
                refine fk_iald hx hb hK hP 10 2 rfl rfl (i := p0) (by omega) (by decide) dX4_round_140 ?_
                rw [gg9.2]
                refine lv_i2l hx hb dX4_round_141 rfl ?_
                refine lv_topl (fun x64 ex64 => ?_)
                refine fk_cv hD hS hA (va_runV (As := [.int 18, .long x64]) (rest := []) ⟨hx, hb, hml, hown, hts⟩ (kX4_set _ am tl cd kn 1 tn wd sg up dn of bey rnd tx pt7 u2.2 18 x64 (by omega)) (cwV 2 hts gX4_round_X4_set rfl rfl rfl (by decide +kernel) ⟨Nat.le_of_ble_eq_true rfl, Nat.le_of_ble_eq_true rfl⟩) (fk_preV 0 5 hK hN hP hD rfl rfl) rfl rfl hl.1 rfl (lv_room (Nat.le_of_ble_eq_true rfl)) dX4_round_142 ⟨Nat.le_of_ble_eq_true rfl, Nat.le_of_ble_eq_true rfl⟩) (fun u65 H locs hw hP hD hS => ?_)
                have hP : va_P D vwCl (fk_wm cJ cI cZ am cd kn 1 tn wd sg up dn of bey rnd tx u65.1 u65.2 ++ tl) H := hP
                have hD : va_D A (fk_wm cJ cI cZ am cd kn 1 tn wd sg up dn of bey rnd tx u65.1 u65.2 ++ tl) := hD
                obtain ⟨gr66, kx67a, kx67b⟩ := hw
                have kx67 := fk_kr_1 kx67a kx67b
                have gg69 := fk_G_kr gg9 kx67 (by simp <;> omega)
                have gg70 := fk_G_kr gg10 kx67 (by simp <;> omega)
                have gg71 := fk_G_kr gg11 kx67 (by simp <;> omega)
                have gg72 := fk_G_kr gg12 kx67 (by simp <;> omega)
                have KK73 : fk_kr [16, 17, 18, 22] pt sn u65.1 u65.2 := fk_kr_t KK13 kx67 (fun r hr => by simp at hr ⊢; omega)
                rw [ex64, fk_cmp_l2, fk_sgn_cmp ha0] at gr66
                refine lv_iload hx hb dX4_round_145 (lv_at hl 0 rfl) ?_
                refine lv_if_eq (tgt := 161) hx hb dX4_round_147 (by decide) (fun c_147 => False.elim (absurd c_147 (by decide))) (fun c_147 => ?_)
                refine lv_aload_n hx hb dX4_round_150 rfl (lv_at hl 2 rfl) ?_
                refine lv_bipush (v := 16) hx hb dX4_round_151 (by decide) ?_
                refine lv_bipush (v := 16) hx hb dX4_round_153 (by decide) ?_
                refine lv_bipush (v := 18) hx hb dX4_round_155 (by decide) ?_
                refine lv_iconst (v := 1) hx hb dX4_round_157 (by decide) ?_
                have hd := (fk_dq_G (x := a) (y := b) (by omega)).1
                rw [hbb] at hd
                have hdl : fk_abs a / b ≤ fk_abs a := Int.ediv_le_self _ (by have := fk_abs_cases a; omega)
                have hs1 : fk_abs (if a < 0 then (-1 : Int) else 1) = 1 := by split <;> decide
                refine fk_cv hD hS hA (va_runV (As := [.int 16, .int 16, .int 18, .int 1]) (rest := []) ⟨hx, hb, hml, hown, hts⟩ (kX4_add _ am tl cd kn 1 tn wd sg up dn of bey rnd tx u65.1 u65.2 16 16 18 1 _ _ (by omega) (by omega) (by omega) (Or.inl rfl) gg71 gr66 (by rw [hd, hs1, fk_p16]; omega)) (cwV 4 hts gX4_round_X4_add rfl rfl rfl (by decide +kernel) ⟨Nat.le_of_ble_eq_true rfl, Nat.le_of_ble_eq_true rfl⟩) (fk_preV 0 5 hK hN hP hD rfl rfl) rfl rfl hl.1 rfl (lv_room (Nat.le_of_ble_eq_true rfl)) dX4_round_158 ⟨Nat.le_of_ble_eq_true rfl, Nat.le_of_ble_eq_true rfl⟩) (fun u74 H locs hw hP hD hS => ?_)
                have hP : va_P D vwCl (fk_wm cJ cI cZ am cd kn 1 tn wd sg up dn of bey rnd tx u74.1 u74.2 ++ tl) H := hP
                have hD : va_D A (fk_wm cJ cI cZ am cd kn 1 tn wd sg up dn of bey rnd tx u74.1 u74.2 ++ tl) := hD
                obtain ⟨gr75, kx76a, kx76b⟩ := hw
                have kx76 := fk_kr_1 kx76a kx76b
                have gg78 := fk_G_kr gg69 kx76 (by simp <;> omega)
                have gg79 := fk_G_kr gg70 kx76 (by simp <;> omega)
                have KK80 : fk_kr [16, 17, 18, 22] pt sn u74.1 u74.2 := fk_kr_t KK73 kx76 (fun r hr => by simp at hr ⊢; omega)
                rw [show (1 : Int32).toInt = 1 by decide, Int.mul_one] at gr75
                have hrr : fk_round r0 a b = fk_dq a b + 1 * (if a < 0 then -1 else 1) := fk_rdq hb0 1 (by rw [hup]; decide)
                rw [Int.one_mul] at hrr
                rw [hQQ]
                exact W.vret hx hb hr (fun t ht hW => ⟨⟨(1, u74.1, u74.2), rfl, ⟨(by rw [if_neg hex]), (by rw [hrr]; exact gr75), KK80⟩, by rw [ht]; exact hP, va_K.moved hW.alike hK, hD⟩, hS.F ht⟩) hS.2.2 dX4_round_161
      · refine lv_iload_n hx hb dX4_round_86 rfl (lv_at hl 0 rfl) ?_
        refine lv_if_lt (tgt := 94) hx hb dX4_round_87 (by decide) (fun c_87 => ?_) (fun c_87 => ?_)
        · rw [Int32.lt_iff_toInt_lt, show (0 : Int32).toInt = 0 by decide] at c_87
          have hup : fk_up r0 a b = 0 := by have q := s2.mp c_87; rw [fk_up, if_neg hex, fk_aw, if_neg (by rw [c_83]; decide), if_neg c_61, if_neg (by omega), if_pos (by omega)]
          refine lv_iconst (v := 0) hx hb dX4_round_94 (by decide) ?_
          refine lv_goto (tgt := 130) hx hb dX4_round_95 (by decide) ?_
          refine lv_istore (lv' := [(4, .int 0), (3, .int r15), (0, .ref (am 0)), (1, .int (nI p0)), (2, .int r0)]) hx hb dX4_round_130 hl (by decide) rfl (fun ls hl => ?_)
          refine lv_aload_n hx hb dX4_round_132 rfl (lv_at hl 2 rfl) ?_
          refine lv_bipush (v := 18) hx hb dX4_round_133 (by decide) ?_
          refine lv_aload_n hx hb dX4_round_135 rfl (lv_at hl 2 rfl) ?_
          refine va_get (D := D) (ci := 5) (v := .ref (am 10)) (C := RX4) (T := TX4) (N := 14) hx hb hts k2 hown hK hP 0 rfl rfl 13 (by decide) k1 (fun _ h9 => h9) rfl dX4_round_136 ?_
          refine lv_iload_n hx hb dX4_round_139 rfl (lv_at hl 3 rfl) ?_
          refine fk_iald hx hb hK hP 10 2 rfl rfl (i := p0) (by omega) (by decide) dX4_round_140 ?_
          rw [gg9.2]
          refine lv_i2l hx hb dX4_round_141 rfl ?_
          refine lv_topl (fun x81 ex81 => ?_)
          refine fk_cv hD hS hA (va_runV (As := [.int 18, .long x81]) (rest := []) ⟨hx, hb, hml, hown, hts⟩ (kX4_set _ am tl cd kn 1 tn wd sg up dn of bey rnd tx pt7 u2.2 18 x81 (by omega)) (cwV 2 hts gX4_round_X4_set rfl rfl rfl (by decide +kernel) ⟨Nat.le_of_ble_eq_true rfl, Nat.le_of_ble_eq_true rfl⟩) (fk_preV 0 5 hK hN hP hD rfl rfl) rfl rfl hl.1 rfl (lv_room (Nat.le_of_ble_eq_true rfl)) dX4_round_142 ⟨Nat.le_of_ble_eq_true rfl, Nat.le_of_ble_eq_true rfl⟩) (fun u82 H locs hw hP hD hS => ?_)
          have hP : va_P D vwCl (fk_wm cJ cI cZ am cd kn 1 tn wd sg up dn of bey rnd tx u82.1 u82.2 ++ tl) H := hP
          have hD : va_D A (fk_wm cJ cI cZ am cd kn 1 tn wd sg up dn of bey rnd tx u82.1 u82.2 ++ tl) := hD
          obtain ⟨gr83, kx84a, kx84b⟩ := hw
          have kx84 := fk_kr_1 kx84a kx84b
          have gg86 := fk_G_kr gg9 kx84 (by simp <;> omega)
          have gg87 := fk_G_kr gg10 kx84 (by simp <;> omega)
          have gg88 := fk_G_kr gg11 kx84 (by simp <;> omega)
          have gg89 := fk_G_kr gg12 kx84 (by simp <;> omega)
          have KK90 : fk_kr [16, 17, 18, 22] pt sn u82.1 u82.2 := fk_kr_t KK13 kx84 (fun r hr => by simp at hr ⊢; omega)
          rw [ex81, fk_cmp_l2, fk_sgn_cmp ha0] at gr83
          refine lv_iload hx hb dX4_round_145 (lv_at hl 0 rfl) ?_
          refine lv_if_eq (tgt := 161) hx hb dX4_round_147 (by decide) (fun c_147 => ?_) (fun c_147 => False.elim (absurd rfl c_147))
          have hrr : fk_round r0 a b = fk_dq a b + 0 * (if a < 0 then -1 else 1) := fk_rdq hb0 0 (by rw [hup]; decide)
          rw [Int.zero_mul, Int.add_zero] at hrr
          rw [hQQ]
          exact W.vret hx hb hr (fun t ht hW => ⟨⟨(1, u82.1, u82.2), rfl, ⟨(by rw [if_neg hex]), (by rw [hrr]; exact gg88), KK90⟩, by rw [ht]; exact hP, va_K.moved hW.alike hK, hD⟩, hS.F ht⟩) hS.2.2 dX4_round_161
        · rw [Int32.lt_iff_toInt_lt, show (0 : Int32).toInt = 0 by decide] at c_87
          have hge : ¬ fk_abs a % b + fk_abs a % b < b := fun q => c_87 (s2.mpr q)
          have hup : fk_up r0 a b = 1 := by
            rw [fk_up, if_neg hex, fk_aw, if_neg (by rw [c_83]; decide), if_neg c_61]
            by_cases q : 2 * (fk_abs a % b) - b = 0
            · rw [if_pos q, if_pos (Or.inl c_83)]
            · rw [if_neg q, if_neg (by omega)]
          refine lv_iconst (v := 1) hx hb dX4_round_90 (by decide) ?_
          refine lv_goto (tgt := 130) hx hb dX4_round_91 (by decide) ?_
          refine lv_istore (lv' := [(4, .int 1), (3, .int r15), (0, .ref (am 0)), (1, .int (nI p0)), (2, .int r0)]) hx hb dX4_round_130 hl (by decide) rfl (fun ls hl => ?_)
          refine lv_aload_n hx hb dX4_round_132 rfl (lv_at hl 2 rfl) ?_
          refine lv_bipush (v := 18) hx hb dX4_round_133 (by decide) ?_
          refine lv_aload_n hx hb dX4_round_135 rfl (lv_at hl 2 rfl) ?_
          refine va_get (D := D) (ci := 5) (v := .ref (am 10)) (C := RX4) (T := TX4) (N := 14) hx hb hts k2 hown hK hP 0 rfl rfl 13 (by decide) k1 (fun _ h9 => h9) rfl dX4_round_136 ?_
          refine lv_iload_n hx hb dX4_round_139 rfl (lv_at hl 3 rfl) ?_
          refine fk_iald hx hb hK hP 10 2 rfl rfl (i := p0) (by omega) (by decide) dX4_round_140 ?_
          rw [gg9.2]
          refine lv_i2l hx hb dX4_round_141 rfl ?_
          refine lv_topl (fun x91 ex91 => ?_)
          refine fk_cv hD hS hA (va_runV (As := [.int 18, .long x91]) (rest := []) ⟨hx, hb, hml, hown, hts⟩ (kX4_set _ am tl cd kn 1 tn wd sg up dn of bey rnd tx pt7 u2.2 18 x91 (by omega)) (cwV 2 hts gX4_round_X4_set rfl rfl rfl (by decide +kernel) ⟨Nat.le_of_ble_eq_true rfl, Nat.le_of_ble_eq_true rfl⟩) (fk_preV 0 5 hK hN hP hD rfl rfl) rfl rfl hl.1 rfl (lv_room (Nat.le_of_ble_eq_true rfl)) dX4_round_142 ⟨Nat.le_of_ble_eq_true rfl, Nat.le_of_ble_eq_true rfl⟩) (fun u92 H locs hw hP hD hS => ?_)
          have hP : va_P D vwCl (fk_wm cJ cI cZ am cd kn 1 tn wd sg up dn of bey rnd tx u92.1 u92.2 ++ tl) H := hP
          have hD : va_D A (fk_wm cJ cI cZ am cd kn 1 tn wd sg up dn of bey rnd tx u92.1 u92.2 ++ tl) := hD
          obtain ⟨gr93, kx94a, kx94b⟩ := hw
          have kx94 := fk_kr_1 kx94a kx94b
          have gg96 := fk_G_kr gg9 kx94 (by simp <;> omega)
          have gg97 := fk_G_kr gg10 kx94 (by simp <;> omega)
          have gg98 := fk_G_kr gg11 kx94 (by simp <;> omega)
          have gg99 := fk_G_kr gg12 kx94 (by simp <;> omega)
          have KK100 : fk_kr [16, 17, 18, 22] pt sn u92.1 u92.2 := fk_kr_t KK13 kx94 (fun r hr => by simp at hr ⊢; omega)
          rw [ex91, fk_cmp_l2, fk_sgn_cmp ha0] at gr93
          refine lv_iload hx hb dX4_round_145 (lv_at hl 0 rfl) ?_
          refine lv_if_eq (tgt := 161) hx hb dX4_round_147 (by decide) (fun c_147 => False.elim (absurd c_147 (by decide))) (fun c_147 => ?_)
          refine lv_aload_n hx hb dX4_round_150 rfl (lv_at hl 2 rfl) ?_
          refine lv_bipush (v := 16) hx hb dX4_round_151 (by decide) ?_
          refine lv_bipush (v := 16) hx hb dX4_round_153 (by decide) ?_
          refine lv_bipush (v := 18) hx hb dX4_round_155 (by decide) ?_
          refine lv_iconst (v := 1) hx hb dX4_round_157 (by decide) ?_
          have hd := (fk_dq_G (x := a) (y := b) (by omega)).1
          rw [hbb] at hd
          have hdl : fk_abs a / b ≤ fk_abs a := Int.ediv_le_self _ (by have := fk_abs_cases a; omega)
          have hs1 : fk_abs (if a < 0 then (-1 : Int) else 1) = 1 := by split <;> decide
          refine fk_cv hD hS hA (va_runV (As := [.int 16, .int 16, .int 18, .int 1]) (rest := []) ⟨hx, hb, hml, hown, hts⟩ (kX4_add _ am tl cd kn 1 tn wd sg up dn of bey rnd tx u92.1 u92.2 16 16 18 1 _ _ (by omega) (by omega) (by omega) (Or.inl rfl) gg98 gr93 (by rw [hd, hs1, fk_p16]; omega)) (cwV 4 hts gX4_round_X4_add rfl rfl rfl (by decide +kernel) ⟨Nat.le_of_ble_eq_true rfl, Nat.le_of_ble_eq_true rfl⟩) (fk_preV 0 5 hK hN hP hD rfl rfl) rfl rfl hl.1 rfl (lv_room (Nat.le_of_ble_eq_true rfl)) dX4_round_158 ⟨Nat.le_of_ble_eq_true rfl, Nat.le_of_ble_eq_true rfl⟩) (fun u101 H locs hw hP hD hS => ?_)
          have hP : va_P D vwCl (fk_wm cJ cI cZ am cd kn 1 tn wd sg up dn of bey rnd tx u101.1 u101.2 ++ tl) H := hP
          have hD : va_D A (fk_wm cJ cI cZ am cd kn 1 tn wd sg up dn of bey rnd tx u101.1 u101.2 ++ tl) := hD
          obtain ⟨gr102, kx103a, kx103b⟩ := hw
          have kx103 := fk_kr_1 kx103a kx103b
          have gg105 := fk_G_kr gg96 kx103 (by simp <;> omega)
          have gg106 := fk_G_kr gg97 kx103 (by simp <;> omega)
          have KK107 : fk_kr [16, 17, 18, 22] pt sn u101.1 u101.2 := fk_kr_t KK100 kx103 (fun r hr => by simp at hr ⊢; omega)
          rw [show (1 : Int32).toInt = 1 by decide, Int.mul_one] at gr102
          have hrr : fk_round r0 a b = fk_dq a b + 1 * (if a < 0 then -1 else 1) := fk_rdq hb0 1 (by rw [hup]; decide)
          rw [Int.one_mul] at hrr
          rw [hQQ]
          exact W.vret hx hb hr (fun t ht hW => ⟨⟨(1, u101.1, u101.2), rfl, ⟨(by rw [if_neg hex]), (by rw [hrr]; exact gr102), KK107⟩, by rw [ht]; exact hP, va_K.moved hW.alike hK, hD⟩, hS.F ht⟩) hS.2.2 dX4_round_161
    · refine lv_aload_n hx hb dX4_round_64 rfl (lv_at hl 1 rfl) ?_
      refine va_get (D := D) (ci := 5) (v := .ref (am 10)) (C := RX4) (T := TX4) (N := 14) hx hb hts k2 hown hK hP 0 rfl rfl 13 (by decide) k1 (fun _ h9 => h9) rfl dX4_round_65 ?_
      refine lv_iload_n hx hb dX4_round_68 rfl (lv_at hl 2 rfl) ?_
      refine fk_iald hx hb hK hP 10 2 rfl rfl (i := p0) (by omega) (by decide) dX4_round_69 ?_
      refine lv_if_ge (tgt := 77) hx hb dX4_round_70 (by decide) (fun c_70 => ?_) (fun c_70 => ?_)
      · rw [gg9.2, Int32.le_iff_toInt_le, show (0 : Int32).toInt = 0 by decide, fk_cmp_ge] at c_70
        have hup : fk_up r0 a b = 0 := by rw [fk_up, if_neg hex, fk_aw, if_neg (by rw [c_61]; decide), if_pos c_61, if_neg c_70]
        refine lv_iconst (v := 0) hx hb dX4_round_77 (by decide) ?_
        refine lv_goto (tgt := 130) hx hb dX4_round_78 (by decide) ?_
        refine lv_istore (lv' := [(4, .int 0), (3, .int r15), (0, .ref (am 0)), (1, .int (nI p0)), (2, .int r0)]) hx hb dX4_round_130 hl (by decide) rfl (fun ls hl => ?_)
        refine lv_aload_n hx hb dX4_round_132 rfl (lv_at hl 2 rfl) ?_
        refine lv_bipush (v := 18) hx hb dX4_round_133 (by decide) ?_
        refine lv_aload_n hx hb dX4_round_135 rfl (lv_at hl 2 rfl) ?_
        refine va_get (D := D) (ci := 5) (v := .ref (am 10)) (C := RX4) (T := TX4) (N := 14) hx hb hts k2 hown hK hP 0 rfl rfl 13 (by decide) k1 (fun _ h9 => h9) rfl dX4_round_136 ?_
        refine lv_iload_n hx hb dX4_round_139 rfl (lv_at hl 3 rfl) ?_
        refine fk_iald hx hb hK hP 10 2 rfl rfl (i := p0) (by omega) (by decide) dX4_round_140 ?_
        rw [gg9.2]
        refine lv_i2l hx hb dX4_round_141 rfl ?_
        refine lv_topl (fun x108 ex108 => ?_)
        refine fk_cv hD hS hA (va_runV (As := [.int 18, .long x108]) (rest := []) ⟨hx, hb, hml, hown, hts⟩ (kX4_set _ am tl cd kn 1 tn wd sg up dn of bey rnd tx pt7 u2.2 18 x108 (by omega)) (cwV 2 hts gX4_round_X4_set rfl rfl rfl (by decide +kernel) ⟨Nat.le_of_ble_eq_true rfl, Nat.le_of_ble_eq_true rfl⟩) (fk_preV 0 5 hK hN hP hD rfl rfl) rfl rfl hl.1 rfl (lv_room (Nat.le_of_ble_eq_true rfl)) dX4_round_142 ⟨Nat.le_of_ble_eq_true rfl, Nat.le_of_ble_eq_true rfl⟩) (fun u109 H locs hw hP hD hS => ?_)
        have hP : va_P D vwCl (fk_wm cJ cI cZ am cd kn 1 tn wd sg up dn of bey rnd tx u109.1 u109.2 ++ tl) H := hP
        have hD : va_D A (fk_wm cJ cI cZ am cd kn 1 tn wd sg up dn of bey rnd tx u109.1 u109.2 ++ tl) := hD
        obtain ⟨gr110, kx111a, kx111b⟩ := hw
        have kx111 := fk_kr_1 kx111a kx111b
        have gg113 := fk_G_kr gg9 kx111 (by simp <;> omega)
        have gg114 := fk_G_kr gg10 kx111 (by simp <;> omega)
        have gg115 := fk_G_kr gg11 kx111 (by simp <;> omega)
        have gg116 := fk_G_kr gg12 kx111 (by simp <;> omega)
        have KK117 : fk_kr [16, 17, 18, 22] pt sn u109.1 u109.2 := fk_kr_t KK13 kx111 (fun r hr => by simp at hr ⊢; omega)
        rw [ex108, fk_cmp_l2, fk_sgn_cmp ha0] at gr110
        refine lv_iload hx hb dX4_round_145 (lv_at hl 0 rfl) ?_
        refine lv_if_eq (tgt := 161) hx hb dX4_round_147 (by decide) (fun c_147 => ?_) (fun c_147 => False.elim (absurd rfl c_147))
        have hrr : fk_round r0 a b = fk_dq a b + 0 * (if a < 0 then -1 else 1) := fk_rdq hb0 0 (by rw [hup]; decide)
        rw [Int.zero_mul, Int.add_zero] at hrr
        rw [hQQ]
        exact W.vret hx hb hr (fun t ht hW => ⟨⟨(1, u109.1, u109.2), rfl, ⟨(by rw [if_neg hex]), (by rw [hrr]; exact gg115), KK117⟩, by rw [ht]; exact hP, va_K.moved hW.alike hK, hD⟩, hS.F ht⟩) hS.2.2 dX4_round_161
      · rw [gg9.2, Int32.le_iff_toInt_le, show (0 : Int32).toInt = 0 by decide, fk_cmp_ge] at c_70
        have hup : fk_up r0 a b = 1 := by rw [fk_up, if_neg hex, fk_aw, if_neg (by rw [c_61]; decide), if_pos c_61, if_pos (Classical.not_not.mp c_70)]
        refine lv_iconst (v := 1) hx hb dX4_round_73 (by decide) ?_
        refine lv_goto (tgt := 130) hx hb dX4_round_74 (by decide) ?_
        refine lv_istore (lv' := [(4, .int 1), (3, .int r15), (0, .ref (am 0)), (1, .int (nI p0)), (2, .int r0)]) hx hb dX4_round_130 hl (by decide) rfl (fun ls hl => ?_)
        refine lv_aload_n hx hb dX4_round_132 rfl (lv_at hl 2 rfl) ?_
        refine lv_bipush (v := 18) hx hb dX4_round_133 (by decide) ?_
        refine lv_aload_n hx hb dX4_round_135 rfl (lv_at hl 2 rfl) ?_
        refine va_get (D := D) (ci := 5) (v := .ref (am 10)) (C := RX4) (T := TX4) (N := 14) hx hb hts k2 hown hK hP 0 rfl rfl 13 (by decide) k1 (fun _ h9 => h9) rfl dX4_round_136 ?_
        refine lv_iload_n hx hb dX4_round_139 rfl (lv_at hl 3 rfl) ?_
        refine fk_iald hx hb hK hP 10 2 rfl rfl (i := p0) (by omega) (by decide) dX4_round_140 ?_
        rw [gg9.2]
        refine lv_i2l hx hb dX4_round_141 rfl ?_
        refine lv_topl (fun x118 ex118 => ?_)
        refine fk_cv hD hS hA (va_runV (As := [.int 18, .long x118]) (rest := []) ⟨hx, hb, hml, hown, hts⟩ (kX4_set _ am tl cd kn 1 tn wd sg up dn of bey rnd tx pt7 u2.2 18 x118 (by omega)) (cwV 2 hts gX4_round_X4_set rfl rfl rfl (by decide +kernel) ⟨Nat.le_of_ble_eq_true rfl, Nat.le_of_ble_eq_true rfl⟩) (fk_preV 0 5 hK hN hP hD rfl rfl) rfl rfl hl.1 rfl (lv_room (Nat.le_of_ble_eq_true rfl)) dX4_round_142 ⟨Nat.le_of_ble_eq_true rfl, Nat.le_of_ble_eq_true rfl⟩) (fun u119 H locs hw hP hD hS => ?_)
        have hP : va_P D vwCl (fk_wm cJ cI cZ am cd kn 1 tn wd sg up dn of bey rnd tx u119.1 u119.2 ++ tl) H := hP
        have hD : va_D A (fk_wm cJ cI cZ am cd kn 1 tn wd sg up dn of bey rnd tx u119.1 u119.2 ++ tl) := hD
        obtain ⟨gr120, kx121a, kx121b⟩ := hw
        have kx121 := fk_kr_1 kx121a kx121b
        have gg123 := fk_G_kr gg9 kx121 (by simp <;> omega)
        have gg124 := fk_G_kr gg10 kx121 (by simp <;> omega)
        have gg125 := fk_G_kr gg11 kx121 (by simp <;> omega)
        have gg126 := fk_G_kr gg12 kx121 (by simp <;> omega)
        have KK127 : fk_kr [16, 17, 18, 22] pt sn u119.1 u119.2 := fk_kr_t KK13 kx121 (fun r hr => by simp at hr ⊢; omega)
        rw [ex118, fk_cmp_l2, fk_sgn_cmp ha0] at gr120
        refine lv_iload hx hb dX4_round_145 (lv_at hl 0 rfl) ?_
        refine lv_if_eq (tgt := 161) hx hb dX4_round_147 (by decide) (fun c_147 => False.elim (absurd c_147 (by decide))) (fun c_147 => ?_)
        refine lv_aload_n hx hb dX4_round_150 rfl (lv_at hl 2 rfl) ?_
        refine lv_bipush (v := 16) hx hb dX4_round_151 (by decide) ?_
        refine lv_bipush (v := 16) hx hb dX4_round_153 (by decide) ?_
        refine lv_bipush (v := 18) hx hb dX4_round_155 (by decide) ?_
        refine lv_iconst (v := 1) hx hb dX4_round_157 (by decide) ?_
        have hd := (fk_dq_G (x := a) (y := b) (by omega)).1
        rw [hbb] at hd
        have hdl : fk_abs a / b ≤ fk_abs a := Int.ediv_le_self _ (by have := fk_abs_cases a; omega)
        have hs1 : fk_abs (if a < 0 then (-1 : Int) else 1) = 1 := by split <;> decide
        refine fk_cv hD hS hA (va_runV (As := [.int 16, .int 16, .int 18, .int 1]) (rest := []) ⟨hx, hb, hml, hown, hts⟩ (kX4_add _ am tl cd kn 1 tn wd sg up dn of bey rnd tx u119.1 u119.2 16 16 18 1 _ _ (by omega) (by omega) (by omega) (Or.inl rfl) gg125 gr120 (by rw [hd, hs1, fk_p16]; omega)) (cwV 4 hts gX4_round_X4_add rfl rfl rfl (by decide +kernel) ⟨Nat.le_of_ble_eq_true rfl, Nat.le_of_ble_eq_true rfl⟩) (fk_preV 0 5 hK hN hP hD rfl rfl) rfl rfl hl.1 rfl (lv_room (Nat.le_of_ble_eq_true rfl)) dX4_round_158 ⟨Nat.le_of_ble_eq_true rfl, Nat.le_of_ble_eq_true rfl⟩) (fun u128 H locs hw hP hD hS => ?_)
        have hP : va_P D vwCl (fk_wm cJ cI cZ am cd kn 1 tn wd sg up dn of bey rnd tx u128.1 u128.2 ++ tl) H := hP
        have hD : va_D A (fk_wm cJ cI cZ am cd kn 1 tn wd sg up dn of bey rnd tx u128.1 u128.2 ++ tl) := hD
        obtain ⟨gr129, kx130a, kx130b⟩ := hw
        have kx130 := fk_kr_1 kx130a kx130b
        have gg132 := fk_G_kr gg123 kx130 (by simp <;> omega)
        have gg133 := fk_G_kr gg124 kx130 (by simp <;> omega)
        have KK134 : fk_kr [16, 17, 18, 22] pt sn u128.1 u128.2 := fk_kr_t KK127 kx130 (fun r hr => by simp at hr ⊢; omega)
        rw [show (1 : Int32).toInt = 1 by decide, Int.mul_one] at gr129
        have hrr : fk_round r0 a b = fk_dq a b + 1 * (if a < 0 then -1 else 1) := fk_rdq hb0 1 (by rw [hup]; decide)
        rw [Int.one_mul] at hrr
        rw [hQQ]
        exact W.vret hx hb hr (fun t ht hW => ⟨⟨(1, u128.1, u128.2), rfl, ⟨(by rw [if_neg hex]), (by rw [hrr]; exact gr129), KK134⟩, by rw [ht]; exact hP, va_K.moved hW.alike hK, hD⟩, hS.F ht⟩) hS.2.2 dX4_round_161
