/-! Reference: multiplyBy, divide, by program -/
abbrev rmX4_multiplyBy : Room := { frames := 1, cells := 0, slots := 0, locals := 28 }
set_option maxHeartbeats 4000000 in
set_option maxRecDepth 100000 in
/-- multiplyBy -/
theorem kX4_multiplyBy {l : Launch} {D : va_G} {cJ cC cI cZ cK : ClassId} (sz : Nat) (am : Nat → Nat) (tl : va_W) (cd kn lo tn : Int32) (wd sg : Nat → Int32) (up dn of : Nat → Int64) (bey rnd tx pt sn : Nat → Int32) (p0 ra : Nat) (v : Int64) (x : Int) (hp : p0 < 24) (hra : ra < 24) (hn1 : p0 ≠ ra) (hn2 : ra ≠ 23) (hn3 : p0 ≠ 23) (gA : fk_G x ra pt sn) (hxy : fk_abs x * fk_abs v.toInt < 65536 ^ 16) : Met l yX4_multiplyBy wsX4_multiplyBy rmX4_multiplyBy (va_Pc [.ref (am 0), .int (nI p0), .int (nI ra), .long v] (fk_pre D (fk_ty cJ cC cI cZ cK) (fk_wm cJ cI cZ am cd kn lo tn wd sg up dn of bey rnd tx pt sn ++ tl) sz)) (va_Qv (fun u : (Nat → Int32) × (Nat → Int32) => fk_G (x * v.toInt) p0 u.1 u.2 ∧ fk_kr [p0, 23] pt sn u.1 u.2) (fk_Bd D (fk_ty cJ cC cI cZ cK) (va_A (fk_wm cJ cI cZ am cd kn lo tn wd sg up dn of bey rnd tx pt sn ++ tl) sz) (fun u : (Nat → Int32) × (Nat → Int32) => fk_wm cJ cI cZ am cd kn lo tn wd sg up dn of bey rnd tx u.1 u.2 ++ tl)) (va_A (fk_wm cJ cI cZ am cd kn lo tn wd sg up dn of bey rnd tx pt sn ++ tl) sz)) 0 0 (va_A (fk_wm cJ cI cZ am cd kn lo tn wd sg up dn of bey rnd tx pt sn ++ tl) sz) := by
  refine fk_ofW cX4_multiplyBy 5 none (fun A => va_Qv (fun u : (Nat → Int32) × (Nat → Int32) => fk_G (x * v.toInt) p0 u.1 u.2 ∧ fk_kr [p0, 23] pt sn u.1 u.2) (fk_Bd D (fk_ty cJ cC cI cZ cK) A (fun u : (Nat → Int32) × (Nat → Int32) => fk_wm cJ cI cZ am cd kn lo tn wd sg up dn of bey rnd tx u.1 u.2 ++ tl)) A) rfl (by decide) (Nat.le_of_ble_eq_true rfl) ?_
  intro p e s m below meth c A ls args QQ hQQ hAt hP hK hN hD hA hS hl
  obtain ⟨⟨hx, hb, hml, hown, hts⟩, hr, hlocks, hin⟩ := hAt
  have hl : lv_has ls 5 [(0, .ref (am 0)), (1, .int (nI p0)), (2, .int (nI ra)), (3, .long v)] := hl
  refine lv_aload_n hx hb dX4_multiplyBy_0 rfl (lv_at hl 0 rfl) ?_
  refine lv_bipush (v := 23) hx hb dX4_multiplyBy_1 (by decide) ?_
  refine lv_lload_n hx hb dX4_multiplyBy_3 rfl (lv_at hl 3 rfl) ?_
  refine fk_cv hD hS hA (va_runV (As := [.int 23, .long v]) (rest := []) ⟨hx, hb, hml, hown, hts⟩ (kX4_set _ am tl cd kn lo tn wd sg up dn of bey rnd tx pt sn 23 v (by omega)) (cwV 2 hts gX4_multiplyBy_X4_set rfl rfl rfl (by decide +kernel) ⟨Nat.le_of_ble_eq_true rfl, Nat.le_of_ble_eq_true rfl⟩) (fk_preV 0 5 hK hN hP hD rfl rfl) rfl rfl hl.1 rfl (lv_room (Nat.le_of_ble_eq_true rfl)) dX4_multiplyBy_4 ⟨Nat.le_of_ble_eq_true rfl, Nat.le_of_ble_eq_true rfl⟩) (fun u1 H locs hw hP hD hS => ?_)
  have hP : va_P D vwCl (fk_wm cJ cI cZ am cd kn lo tn wd sg up dn of bey rnd tx u1.1 u1.2 ++ tl) H := hP
  have hD : va_D A (fk_wm cJ cI cZ am cd kn lo tn wd sg up dn of bey rnd tx u1.1 u1.2 ++ tl) := hD
  obtain ⟨g23, f1, f2⟩ := hw
  have gA2 := fk_G_keep gA f1 f2 hn2
  have kr1 := fk_kr_1 f1 f2
  refine lv_aload_n hx hb dX4_multiplyBy_7 rfl (lv_at hl 0 rfl) ?_
  refine lv_iload_n hx hb dX4_multiplyBy_8 rfl (lv_at hl 1 rfl) ?_
  refine lv_iload_n hx hb dX4_multiplyBy_9 rfl (lv_at hl 2 rfl) ?_
  refine lv_bipush (v := 23) hx hb dX4_multiplyBy_10 (by decide) ?_
  refine fk_cv hD hS hA (va_runV (As := [.int (nI p0), .int (nI ra), .int 23]) (rest := []) ⟨hx, hb, hml, hown, hts⟩ (kX4_multiply _ am tl cd kn lo tn wd sg up dn of bey rnd tx u1.1 u1.2 p0 ra 23 x v.toInt hp hra (by omega) hn1 hn3 gA2 g23 hxy) (cwV 3 hts gX4_multiplyBy_X4_multiply rfl rfl rfl (by decide +kernel) ⟨Nat.le_of_ble_eq_true rfl, Nat.le_of_ble_eq_true rfl⟩) (fk_preV 0 5 hK hN hP hD rfl rfl) rfl rfl hl.1 rfl (lv_room (Nat.le_of_ble_eq_true rfl)) dX4_multiplyBy_12 ⟨Nat.le_of_ble_eq_true rfl, Nat.le_of_ble_eq_true rfl⟩) (fun u3 H locs hw hP hD hS => ?_)
  have hP : va_P D vwCl (fk_wm cJ cI cZ am cd kn lo tn wd sg up dn of bey rnd tx u3.1 u3.2 ++ tl) H := hP
  have hD : va_D A (fk_wm cJ cI cZ am cd kn lo tn wd sg up dn of bey rnd tx u3.1 u3.2 ++ tl) := hD
  obtain ⟨gP, f3, f4⟩ := hw
  have kr2 := fk_kr_1 f3 f4
  rw [hQQ]
  exact W.vret hx hb hr (fun t ht hW => ⟨⟨(u3.1, u3.2), rfl, ⟨gP, fk_kr_t kr1 kr2 (fun r hr => by simp at hr ⊢; omega)⟩, by rw [ht]; exact hP, va_K.moved hW.alike hK, hD⟩, hS.F ht⟩) hS.2.2 dX4_multiplyBy_15
abbrev rmX4_divide : Room := { frames := 2, cells := 0, slots := 0, locals := 46 }
set_option maxHeartbeats 4000000 in
set_option maxRecDepth 100000 in
/-- divide -/
theorem kX4_divide {l : Launch} {D : va_G} {cJ cC cI cZ cK : ClassId} (sz : Nat) (am : Nat → Nat) (tl : va_W) (cd kn lo tn : Int32) (wd sg : Nat → Int32) (up dn of : Nat → Int64) (bey rnd tx pt sn : Nat → Int32) (rq rr ra rb : Nat) (x y : Int) (hq : rq < 22 ∧ rr < 22 ∧ ra < 22 ∧ rb < 22) (hn1 : rr ≠ ra) (hn2 : rr ≠ rb) (hn3 : rq ≠ rr) (gA : fk_G x ra pt sn) (gB : fk_G y rb pt sn) (hy0 : y ≠ 0) (hxb : fk_abs x < 28948022309329048855892746252171976963317496166410141009864396001978282409984) : Met l yX4_divide wsX4_divide rmX4_divide (va_Pc [.ref (am 0), .int (nI rq), .int (nI rr), .int (nI ra), .int (nI rb)] (fk_pre D (fk_ty cJ cC cI cZ cK) (fk_wm cJ cI cZ am cd kn lo tn wd sg up dn of bey rnd tx pt sn ++ tl) sz)) (va_Qv (fun u : (Nat → Int32) × (Nat → Int32) => fk_G (fk_dq x y) rq u.1 u.2 ∧ fk_G (fk_abs x % fk_abs y) rr u.1 u.2 ∧ fk_kr [rq, rr, 22] pt sn u.1 u.2) (fk_Bd D (fk_ty cJ cC cI cZ cK) (va_A (fk_wm cJ cI cZ am cd kn lo tn wd sg up dn of bey rnd tx pt sn ++ tl) sz) (fun u : (Nat → Int32) × (Nat → Int32) => fk_wm cJ cI cZ am cd kn lo tn wd sg up dn of bey rnd tx u.1 u.2 ++ tl)) (va_A (fk_wm cJ cI cZ am cd kn lo tn wd sg up dn of bey rnd tx pt sn ++ tl) sz)) 0 0 (va_A (fk_wm cJ cI cZ am cd kn lo tn wd sg up dn of bey rnd tx pt sn ++ tl) sz) := by
  refine fk_ofW cX4_divide 8 none (fun A => va_Qv (fun u : (Nat → Int32) × (Nat → Int32) => fk_G (fk_dq x y) rq u.1 u.2 ∧ fk_G (fk_abs x % fk_abs y) rr u.1 u.2 ∧ fk_kr [rq, rr, 22] pt sn u.1 u.2) (fk_Bd D (fk_ty cJ cC cI cZ cK) A (fun u : (Nat → Int32) × (Nat → Int32) => fk_wm cJ cI cZ am cd kn lo tn wd sg up dn of bey rnd tx u.1 u.2 ++ tl)) A) rfl (by decide) (Nat.le_of_ble_eq_true rfl) ?_
  intro p e s m below meth c A ls args QQ hQQ hAt hP hK hN hD hA hS hl
  obtain ⟨⟨hx, hb, hml, hown, hts⟩, hr, hlocks, hin⟩ := hAt
  have hl : lv_has ls 8 [(0, .ref (am 0)), (1, .int (nI rq)), (2, .int (nI rr)), (3, .int (nI ra)), (4, .int (nI rb))] := hl
  have k1 := hts (.fieldLink RX4 39 "FixedKindsModel" "sign" "[I") (by decide +kernel)
  have k2 := (by decide +kernel : ∀ w ∈ u_ws RX4 TX4 14, w ∈ wsX4_divide)
  have k3 := hts (.fieldLink RX4 36 "FixedKindsModel" "part" "[I") (by decide +kernel)
  refine lv_aload_n hx hb dX4_divide_0 rfl (lv_at hl 0 rfl) ?_
  refine va_get (D := D) (ci := 5) (v := .ref (am 10)) (C := RX4) (T := TX4) (N := 14) hx hb hts k2 hown hK hP 0 rfl rfl 13 (by decide) k1 (fun _ h9 => h9) rfl dX4_divide_1 ?_
  refine lv_iload_n hx hb dX4_divide_4 rfl (lv_at hl 3 rfl) ?_
  refine fk_iald hx hb hK hP 10 2 rfl rfl (i := ra) (by omega) (by decide) dX4_divide_5 ?_
  refine lv_aload_n hx hb dX4_divide_6 rfl (lv_at hl 0 rfl) ?_
  refine va_get (D := D) (ci := 5) (v := .ref (am 10)) (C := RX4) (T := TX4) (N := 14) hx hb hts k2 hown hK hP 0 rfl rfl 13 (by decide) k1 (fun _ h9 => h9) rfl dX4_divide_7 ?_
  refine lv_iload hx hb dX4_divide_10 (lv_at hl 4 rfl) ?_
  refine fk_iald hx hb hK hP 10 2 rfl rfl (i := rb) (by omega) (by decide) dX4_divide_12 ?_
  refine lv_imul hx hb dX4_divide_13 ?_
  refine lv_topi (fun x1 ex1 => ?_)
  have ex1q : x1 = fk_cmp (x * y) := by
    rw [ex1, gA.2, gB.2]; exact fk_cmp_mul x y
  subst ex1q
  refine lv_istore (lv' := [(5, .int (fk_cmp (x * y))), (0, .ref (am 0)), (1, .int (nI rq)), (2, .int (nI rr)), (3, .int (nI ra)), (4, .int (nI rb))]) hx hb dX4_divide_14 hl (by decide) rfl (fun ls hl => ?_)
  refine lv_aload_n hx hb dX4_divide_16 rfl (lv_at hl 1 rfl) ?_
  refine lv_iload_n hx hb dX4_divide_17 rfl (lv_at hl 3 rfl) ?_
  refine lv_iload_n hx hb dX4_divide_18 rfl (lv_at hl 4 rfl) ?_
  refine fk_cv hD hS hA (va_runV (As := [.int (nI rr), .int (nI ra)]) (rest := []) ⟨hx, hb, hml, hown, hts⟩ (kX4_copy _ am tl cd kn lo tn wd sg up dn of bey rnd tx pt sn rr ra x (by omega) (by omega) hn1 gA) (cwV 2 hts gX4_divide_X4_copy rfl rfl rfl (by decide +kernel) ⟨Nat.le_of_ble_eq_true rfl, Nat.le_of_ble_eq_true rfl⟩) (fk_preV 0 5 hK hN hP hD rfl rfl) rfl rfl hl.1 rfl (lv_room (Nat.le_of_ble_eq_true rfl)) dX4_divide_19 ⟨Nat.le_of_ble_eq_true rfl, Nat.le_of_ble_eq_true rfl⟩) (fun u2 H locs hw hP hD hS => ?_)
  have hP : va_P D vwCl (fk_wm cJ cI cZ am cd kn lo tn wd sg up dn of bey rnd tx u2.1 u2.2 ++ tl) H := hP
  have hD : va_D A (fk_wm cJ cI cZ am cd kn lo tn wd sg up dn of bey rnd tx u2.1 u2.2 ++ tl) := hD
  obtain ⟨gR, f1, f2⟩ := hw
  have gB2 := fk_G_keep gB f1 f2 (Ne.symm hn2)
  have kr1 := fk_kr_1 f1 f2
  refine lv_aload_n hx hb dX4_divide_22 rfl (lv_at hl 1 rfl) ?_
  refine lv_bipush (v := 22) hx hb dX4_divide_23 (by decide) ?_
  refine lv_iload hx hb dX4_divide_25 (lv_at hl 5 rfl) ?_
  refine fk_cv hD hS hA (va_runV (As := [.int 22, .int (nI rb)]) (rest := []) ⟨hx, hb, hml, hown, hts⟩ (kX4_copy _ am tl cd kn lo tn wd sg up dn of bey rnd tx u2.1 u2.2 22 rb y (by omega) (by omega) (by omega) gB2) (cwV 2 hts gX4_divide_X4_copy rfl rfl rfl (by decide +kernel) ⟨Nat.le_of_ble_eq_true rfl, Nat.le_of_ble_eq_true rfl⟩) (fk_preV 0 5 hK hN hP hD rfl rfl) rfl rfl hl.1 rfl (lv_room (Nat.le_of_ble_eq_true rfl)) dX4_divide_27 ⟨Nat.le_of_ble_eq_true rfl, Nat.le_of_ble_eq_true rfl⟩) (fun u4 H locs hw hP hD hS => ?_)
  have hP : va_P D vwCl (fk_wm cJ cI cZ am cd kn lo tn wd sg up dn of bey rnd tx u4.1 u4.2 ++ tl) H := hP
  have hD : va_D A (fk_wm cJ cI cZ am cd kn lo tn wd sg up dn of bey rnd tx u4.1 u4.2 ++ tl) := hD
  obtain ⟨g22, f3, f4⟩ := hw
  have gR2 := fk_G_keep gR f3 f4 (by omega)
  have kr2 : fk_kr [rr, 22] pt sn u4.1 u4.2 := fk_kr_t kr1 (fk_kr_1 f3 f4) (fun r hr => by simp at hr ⊢; omega)
  refine lv_iconst (v := 0) hx hb dX4_divide_30 (by decide) ?_
  refine lv_istore (lv' := [(6, .int 0), (5, .int (fk_cmp (x * y))), (0, .ref (am 0)), (1, .int (nI rq)), (2, .int (nI rr)), (3, .int (nI ra)), (4, .int (nI rb))]) hx hb dX4_divide_31 hl (by decide) rfl (fun ls hl => ?_)
  have hX := (fk_rg_bd gA.1).1
  have hY1 : 1 ≤ fk_abs y := by have := fk_abs_cases y; omega
  have L33 : ∀ (fu33 : Nat) (d : Nat) (pv : Nat → Int32), 300 - d < fu33 → (fk_rg (fk_abs y * 2 ^ d) 22 pv) → (fk_rg (fk_abs x) rr pv) → (d ≤ 254) → (d = 0 ∨ fk_abs y * 2 ^ d ≤ 2 * fk_abs x) → (fk_kr [rr, 22] pt sn pv u4.2) → ∀ (H : Heap) (locs : List Loc) (ls : Array Slot), va_P D vwCl (fk_wm cJ cI cZ am cd kn lo tn wd sg up dn of bey rnd tx pv u4.2 ++ tl) H → va_D A (fk_wm cJ cI cZ am cd kn lo tn wd sg up dn of bey rnd tx pv u4.2 ++ tl) → va_S A s.heap H locs → lv_has ls 8 [(0, .ref (am 0)), (1, .int (nI rq)), (2, .int (nI rr)), (3, .int (nI ra)), (4, .int (nI rb)), (5, .int (fk_cmp (x * y))), (6, .int (nI d))] → W p l e rmX4_divide s m args below meth c H locs 0 0 QQ (F0 m 33 ls []) := by
    intro fu33
    induction fu33 with
    | zero => intro d pv hfu; exact absurd hfu (Nat.not_lt_zero _)
    | succ fu33 ih33 =>
      intro d pv hfu33 h22 hR hd hle hkr H locs ls hP hD hS hl
      refine lv_aload_n hx hb dX4_divide_33 rfl (lv_at hl 0 rfl) ?_
      refine lv_bipush (v := 22) hx hb dX4_divide_34 (by decide) ?_
      refine lv_iload_n hx hb dX4_divide_36 rfl (lv_at hl 2 rfl) ?_
      refine fk_ci hD hS hA (va_runV (As := [.int 22, .int (nI rr)]) (rest := []) ⟨hx, hb, hml, hown, hts⟩ (kX4_sizes _ am tl cd kn lo tn wd sg up dn of bey rnd tx pv u4.2 22 rr (fk_abs y * 2 ^ d) (fk_abs x) (by omega) (by omega) h22 hR) (cwV 2 hts gX4_divide_X4_sizes rfl rfl rfl (by decide +kernel) ⟨Nat.le_of_ble_eq_true rfl, Nat.le_of_ble_eq_true rfl⟩) (fk_preV 0 5 hK hN hP hD rfl rfl) rfl rfl hl.1 rfl (lv_room (Nat.le_of_ble_eq_true rfl)) dX4_divide_37 ⟨Nat.le_of_ble_eq_true rfl, Nat.le_of_ble_eq_true rfl⟩) (fun r6 u H locs hw hP hD hS => ?_)
      have hP : va_P D vwCl (fk_wm cJ cI cZ am cd kn lo tn wd sg up dn of bey rnd tx pv u4.2 ++ tl) H := hP
      have hD : va_D A (fk_wm cJ cI cZ am cd kn lo tn wd sg up dn of bey rnd tx pv u4.2 ++ tl) := hD
      obtain ⟨s1, s2⟩ := hw
      refine lv_if_gt (tgt := 59) hx hb dX4_divide_40 (by decide) (fun c_40 => ?_) (fun c_40 => ?_)
      · rw [Int32.lt_iff_toInt_lt, show (0 : Int32).toInt = 0 by decide] at c_40
        have hlt : fk_abs x < fk_abs y * 2 ^ d := s1.mp c_40
        refine lv_aload_n hx hb dX4_divide_59 rfl (lv_at hl 0 rfl) ?_
        refine lv_iload_n hx hb dX4_divide_60 rfl (lv_at hl 1 rfl) ?_
        refine lv_lconst (v := 0) hx hb dX4_divide_61 (by decide) ?_
        refine fk_cv hD hS hA (va_runV (As := [.int (nI rq), .long 0]) (rest := []) ⟨hx, hb, hml, hown, hts⟩ (kX4_set _ am tl cd kn lo tn wd sg up dn of bey rnd tx pv u4.2 rq 0 (by omega)) (cwV 2 hts gX4_divide_X4_set rfl rfl rfl (by decide +kernel) ⟨Nat.le_of_ble_eq_true rfl, Nat.le_of_ble_eq_true rfl⟩) (fk_preV 0 5 hK hN hP hD rfl rfl) rfl rfl hl.1 rfl (lv_room (Nat.le_of_ble_eq_true rfl)) dX4_divide_62 ⟨Nat.le_of_ble_eq_true rfl, Nat.le_of_ble_eq_true rfl⟩) (fun u7 H locs hw hP hD hS => ?_)
        have hP : va_P D vwCl (fk_wm cJ cI cZ am cd kn lo tn wd sg up dn of bey rnd tx u7.1 u7.2 ++ tl) H := hP
        have hD : va_D A (fk_wm cJ cI cZ am cd kn lo tn wd sg up dn of bey rnd tx u7.1 u7.2 ++ tl) := hD
        obtain ⟨gQ, f5, f6⟩ := hw
        have n22 := fk_rg_keep h22 f5 (by omega)
        have nR := fk_rg_keep hR f5 (by omega)
        have nQ : fk_rg 0 rq u7.1 := gQ.1
        have kr3 : fk_kr [rq, rr, 22] pt sn u7.1 u7.2 := fk_kr_t hkr (fk_kr_1 f5 f6) (fun r hr => by simp at hr ⊢; omega)
        refine lv_iconst (v := 0) hx hb dX4_divide_65 (by decide) ?_
        refine lv_istore (lv' := [(7, .int 0), (0, .ref (am 0)), (1, .int (nI rq)), (2, .int (nI rr)), (3, .int (nI ra)), (4, .int (nI rb)), (5, .int (fk_cmp (x * y))), (6, .int (nI d))]) hx hb dX4_divide_66 hl (by decide) rfl (fun ls hl => ?_)
        have L68 : ∀ (fu68 : Nat) (k : Nat) (pv2 : Nat → Int32) (sv2 : Nat → Int32) (qv : Int) (rv : Int), d - k < fu68 → (k ≤ d) → (fk_rg (fk_abs y * 2 ^ (d - k)) 22 pv2) → (fk_rg qv rq pv2) → (fk_rg rv rr pv2) → (fk_abs x = qv * (fk_abs y * 2 ^ (d - k)) + rv) → (rv < fk_abs y * 2 ^ (d - k)) → (fk_kr [rq, rr, 22] pt sn pv2 sv2) → ∀ (H : Heap) (locs : List Loc) (ls : Array Slot), va_P D vwCl (fk_wm cJ cI cZ am cd kn lo tn wd sg up dn of bey rnd tx pv2 sv2 ++ tl) H → va_D A (fk_wm cJ cI cZ am cd kn lo tn wd sg up dn of bey rnd tx pv2 sv2 ++ tl) → va_S A s.heap H locs → lv_has ls 8 [(0, .ref (am 0)), (1, .int (nI rq)), (2, .int (nI rr)), (3, .int (nI ra)), (4, .int (nI rb)), (5, .int (fk_cmp (x * y))), (6, .int (nI d)), (7, .int (nI k))] → W p l e rmX4_divide s m args below meth c H locs 0 0 QQ (F0 m 68 ls []) := by
          intro fu68
          induction fu68 with
          | zero => intro k pv2 sv2 qv rv hfu; exact absurd hfu (Nat.not_lt_zero _)
          | succ fu68 ih68 =>
            intro k pv2 sv2 qv rv hfu68 hk i22 iQ iR ie il ik H locs ls hP hD hS hl
            refine lv_iload hx hb dX4_divide_68 (lv_at hl 7 rfl) ?_
            refine lv_iload hx hb dX4_divide_70 (lv_at hl 6 rfl) ?_
            refine lv_icmp_ge (tgt := 132) hx hb dX4_divide_72 (by decide) (fun c_72 => ?_) (fun c_72 => ?_)
            · have hkd : k = d := by have q := (nI_leI (a := d) (b := k) (by omega) (by omega)).mp c_72; omega
              subst hkd
              rw [Nat.sub_self, Int.pow_zero, Int.mul_one] at ie il
              have hr0 := (fk_rg_bd iR).1
              have eq : fk_abs x / fk_abs y = qv := by rw [ie, Int.add_comm, Int.add_mul_ediv_right _ _ (by omega), Int.ediv_eq_zero_of_lt hr0 il]; omega
              have er : fk_abs x % fk_abs y = rv := by rw [ie, Int.add_comm, Int.add_mul_emod_self_right]; exact Int.emod_eq_of_lt hr0 il
              obtain ⟨dq1, dq2⟩ := fk_dq_G (x := x) hy0
              rw [eq] at dq1 dq2
              refine lv_aload_n hx hb dX4_divide_132 rfl (lv_at hl 0 rfl) ?_
              refine va_get (D := D) (ci := 5) (v := .ref (am 10)) (C := RX4) (T := TX4) (N := 14) hx hb hts k2 hown hK hP 0 rfl rfl 13 (by decide) k1 (fun _ h9 => h9) rfl dX4_divide_133 ?_
              refine lv_iload_n hx hb dX4_divide_136 rfl (lv_at hl 1 rfl) ?_
              refine lv_aload_n hx hb dX4_divide_137 rfl (lv_at hl 0 rfl) ?_
              refine lv_iload_n hx hb dX4_divide_138 rfl (lv_at hl 1 rfl) ?_
              refine fk_ci hD hS hA (va_runV (As := [.int (nI rq)]) (rest := [.int (nI rq), .ref (am 10)]) ⟨hx, hb, hml, hown, hts⟩ (kX4_nothing _ am tl cd kn lo tn wd sg up dn of bey rnd tx pv2 sv2 rq qv (by omega) iQ) (cwV 1 hts gX4_divide_X4_nothing rfl rfl rfl (by decide +kernel) ⟨Nat.le_of_ble_eq_true rfl, Nat.le_of_ble_eq_true rfl⟩) (fk_preV 0 5 hK hN hP hD rfl rfl) rfl rfl hl.1 rfl (lv_room (Nat.le_of_ble_eq_true rfl)) dX4_divide_139 ⟨Nat.le_of_ble_eq_true rfl, Nat.le_of_ble_eq_true rfl⟩) (fun r9 u H locs hw hP hD hS => ?_)
              have hP : va_P D vwCl (fk_wm cJ cI cZ am cd kn lo tn wd sg up dn of bey rnd tx pv2 sv2 ++ tl) H := hP
              have hD : va_D A (fk_wm cJ cI cZ am cd kn lo tn wd sg up dn of bey rnd tx pv2 sv2 ++ tl) := hD
              have zq := hw
              refine lv_if_eq (tgt := 149) hx hb dX4_divide_142 (by decide) (fun c_142 => ?_) (fun c_142 => ?_)
              · have hzq : ¬ qv = 0 := by intro q; rw [zq, if_pos q] at c_142; exact absurd c_142 (by decide)
                rw [if_neg hzq] at dq2
                refine lv_iload hx hb dX4_divide_149 (lv_at hl 5 rfl) ?_
                refine fk_iast hx hb hK hP hD hS 10 2 rfl rfl (i := rq) (by omega) (by decide) dX4_divide_151 (fun H locs hP hD hS => ?_)
                have hP : va_P D vwCl (fk_wm cJ cI cZ am cd kn lo tn wd sg up dn of bey rnd tx pv2 (upd sv2 rq (fk_cmp (x * y))) ++ tl) H := hP
                have hD : va_D A (fk_wm cJ cI cZ am cd kn lo tn wd sg up dn of bey rnd tx pv2 (upd sv2 rq (fk_cmp (x * y))) ++ tl) := hD
                refine lv_aload_n hx hb dX4_divide_152 rfl (lv_at hl 0 rfl) ?_
                refine va_get (D := D) (ci := 5) (v := .ref (am 10)) (C := RX4) (T := TX4) (N := 14) hx hb hts k2 hown hK hP 0 rfl rfl 13 (by decide) k1 (fun _ h9 => h9) rfl dX4_divide_153 ?_
                refine lv_iload_n hx hb dX4_divide_156 rfl (lv_at hl 2 rfl) ?_
                refine lv_aload_n hx hb dX4_divide_157 rfl (lv_at hl 0 rfl) ?_
                refine lv_iload_n hx hb dX4_divide_158 rfl (lv_at hl 2 rfl) ?_
                refine fk_ci hD hS hA (va_runV (As := [.int (nI rr)]) (rest := [.int (nI rr), .ref (am 10)]) ⟨hx, hb, hml, hown, hts⟩ (kX4_nothing _ am tl cd kn lo tn wd sg up dn of bey rnd tx pv2 (upd sv2 rq (fk_cmp (x * y))) rr rv (by omega) iR) (cwV 1 hts gX4_divide_X4_nothing rfl rfl rfl (by decide +kernel) ⟨Nat.le_of_ble_eq_true rfl, Nat.le_of_ble_eq_true rfl⟩) (fk_preV 0 5 hK hN hP hD rfl rfl) rfl rfl hl.1 rfl (lv_room (Nat.le_of_ble_eq_true rfl)) dX4_divide_159 ⟨Nat.le_of_ble_eq_true rfl, Nat.le_of_ble_eq_true rfl⟩) (fun r10 u H locs hw hP hD hS => ?_)
                have hP : va_P D vwCl (fk_wm cJ cI cZ am cd kn lo tn wd sg up dn of bey rnd tx pv2 (upd sv2 rq (fk_cmp (x * y))) ++ tl) H := hP
                have hD : va_D A (fk_wm cJ cI cZ am cd kn lo tn wd sg up dn of bey rnd tx pv2 (upd sv2 rq (fk_cmp (x * y))) ++ tl) := hD
                have zr := hw
                refine lv_if_eq (tgt := 169) hx hb dX4_divide_162 (by decide) (fun c_162 => ?_) (fun c_162 => ?_)
                · have hzr : fk_cmp rv = 1 := by have q : rv ≠ 0 := fun q => (by rw [zr, if_pos q] at c_162; exact absurd c_162 (by decide)); rw [fk_cmp, if_neg q, if_neg (by omega)]
                  refine lv_iconst (v := 1) hx hb dX4_divide_169 (by decide) ?_
                  refine fk_iast hx hb hK hP hD hS 10 2 rfl rfl (i := rr) (by omega) (by decide) dX4_divide_170 (fun H locs hP hD hS => ?_)
                  have hP : va_P D vwCl (fk_wm cJ cI cZ am cd kn lo tn wd sg up dn of bey rnd tx pv2 (upd (upd sv2 rq (fk_cmp (x * y))) rr 1) ++ tl) H := hP
                  have hD : va_D A (fk_wm cJ cI cZ am cd kn lo tn wd sg up dn of bey rnd tx pv2 (upd (upd sv2 rq (fk_cmp (x * y))) rr 1) ++ tl) := hD
                  have hae : fk_abs rv = rv := by rw [fk_abs, if_neg (by omega)]
                  have gq : fk_G (fk_dq x y) rq pv2 (upd (upd sv2 rq (fk_cmp (x * y))) rr 1) := ⟨by rw [dq1]; exact iQ, by rw [pk_un hn3, pk_us]; exact dq2.symm⟩
                  have gr : fk_G (fk_abs x % fk_abs y) rr pv2 (upd (upd sv2 rq (fk_cmp (x * y))) rr 1) := ⟨by rw [er, hae]; exact iR, by rw [er, pk_us]; exact hzr.symm⟩
                  have kk : fk_kr [rq, rr, 22] pt sn pv2 (upd (upd sv2 rq (fk_cmp (x * y))) rr 1) := fun r hr => by
                    obtain ⟨kr1, kr2⟩ := ik r hr
                    simp at hr
                    exact ⟨kr1, by rw [pk_un (by omega), pk_un (by omega)]; exact kr2⟩
                  rw [hQQ]
                  exact W.vret hx hb hr (fun t ht hW => ⟨⟨(pv2, upd (upd sv2 rq (fk_cmp (x * y))) rr 1), rfl, ⟨gq, gr, kk⟩, by rw [ht]; exact hP, va_K.moved hW.alike hK, hD⟩, hS.F ht⟩) hS.2.2 dX4_divide_171
                · have hzr : fk_cmp rv = 0 := by by_cases q : rv = 0; rw [fk_cmp, if_pos q]; rw [zr, if_neg q] at c_162; exact absurd rfl c_162
                  refine lv_iconst (v := 0) hx hb dX4_divide_165 (by decide) ?_
                  refine lv_goto (tgt := 170) hx hb dX4_divide_166 (by decide) ?_
                  refine fk_iast hx hb hK hP hD hS 10 2 rfl rfl (i := rr) (by omega) (by decide) dX4_divide_170 (fun H locs hP hD hS => ?_)
                  have hP : va_P D vwCl (fk_wm cJ cI cZ am cd kn lo tn wd sg up dn of bey rnd tx pv2 (upd (upd sv2 rq (fk_cmp (x * y))) rr 0) ++ tl) H := hP
                  have hD : va_D A (fk_wm cJ cI cZ am cd kn lo tn wd sg up dn of bey rnd tx pv2 (upd (upd sv2 rq (fk_cmp (x * y))) rr 0) ++ tl) := hD
                  have hae : fk_abs rv = rv := by rw [fk_abs, if_neg (by omega)]
                  have gq : fk_G (fk_dq x y) rq pv2 (upd (upd sv2 rq (fk_cmp (x * y))) rr 0) := ⟨by rw [dq1]; exact iQ, by rw [pk_un hn3, pk_us]; exact dq2.symm⟩
                  have gr : fk_G (fk_abs x % fk_abs y) rr pv2 (upd (upd sv2 rq (fk_cmp (x * y))) rr 0) := ⟨by rw [er, hae]; exact iR, by rw [er, pk_us]; exact hzr.symm⟩
                  have kk : fk_kr [rq, rr, 22] pt sn pv2 (upd (upd sv2 rq (fk_cmp (x * y))) rr 0) := fun r hr => by
                    obtain ⟨kr1, kr2⟩ := ik r hr
                    simp at hr
                    exact ⟨kr1, by rw [pk_un (by omega), pk_un (by omega)]; exact kr2⟩
                  rw [hQQ]
                  exact W.vret hx hb hr (fun t ht hW => ⟨⟨(pv2, upd (upd sv2 rq (fk_cmp (x * y))) rr 0), rfl, ⟨gq, gr, kk⟩, by rw [ht]; exact hP, va_K.moved hW.alike hK, hD⟩, hS.F ht⟩) hS.2.2 dX4_divide_171
              · have hzq : qv = 0 := by by_cases q : qv = 0; exact q; rw [zq, if_neg q] at c_142; exact absurd rfl c_142
                rw [if_pos hzq] at dq2
                refine lv_iconst (v := 0) hx hb dX4_divide_145 (by decide) ?_
                refine lv_goto (tgt := 151) hx hb dX4_divide_146 (by decide) ?_
                refine fk_iast hx hb hK hP hD hS 10 2 rfl rfl (i := rq) (by omega) (by decide) dX4_divide_151 (fun H locs hP hD hS => ?_)
                have hP : va_P D vwCl (fk_wm cJ cI cZ am cd kn lo tn wd sg up dn of bey rnd tx pv2 (upd sv2 rq 0) ++ tl) H := hP
                have hD : va_D A (fk_wm cJ cI cZ am cd kn lo tn wd sg up dn of bey rnd tx pv2 (upd sv2 rq 0) ++ tl) := hD
                refine lv_aload_n hx hb dX4_divide_152 rfl (lv_at hl 0 rfl) ?_
                refine va_get (D := D) (ci := 5) (v := .ref (am 10)) (C := RX4) (T := TX4) (N := 14) hx hb hts k2 hown hK hP 0 rfl rfl 13 (by decide) k1 (fun _ h9 => h9) rfl dX4_divide_153 ?_
                refine lv_iload_n hx hb dX4_divide_156 rfl (lv_at hl 2 rfl) ?_
                refine lv_aload_n hx hb dX4_divide_157 rfl (lv_at hl 0 rfl) ?_
                refine lv_iload_n hx hb dX4_divide_158 rfl (lv_at hl 2 rfl) ?_
                refine fk_ci hD hS hA (va_runV (As := [.int (nI rr)]) (rest := [.int (nI rr), .ref (am 10)]) ⟨hx, hb, hml, hown, hts⟩ (kX4_nothing _ am tl cd kn lo tn wd sg up dn of bey rnd tx pv2 (upd sv2 rq 0) rr rv (by omega) iR) (cwV 1 hts gX4_divide_X4_nothing rfl rfl rfl (by decide +kernel) ⟨Nat.le_of_ble_eq_true rfl, Nat.le_of_ble_eq_true rfl⟩) (fk_preV 0 5 hK hN hP hD rfl rfl) rfl rfl hl.1 rfl (lv_room (Nat.le_of_ble_eq_true rfl)) dX4_divide_159 ⟨Nat.le_of_ble_eq_true rfl, Nat.le_of_ble_eq_true rfl⟩) (fun r11 u H locs hw hP hD hS => ?_)
                have hP : va_P D vwCl (fk_wm cJ cI cZ am cd kn lo tn wd sg up dn of bey rnd tx pv2 (upd sv2 rq 0) ++ tl) H := hP
                have hD : va_D A (fk_wm cJ cI cZ am cd kn lo tn wd sg up dn of bey rnd tx pv2 (upd sv2 rq 0) ++ tl) := hD
                have zr := hw
                refine lv_if_eq (tgt := 169) hx hb dX4_divide_162 (by decide) (fun c_162 => ?_) (fun c_162 => ?_)
                · have hzr : fk_cmp rv = 1 := by have q : rv ≠ 0 := fun q => (by rw [zr, if_pos q] at c_162; exact absurd c_162 (by decide)); rw [fk_cmp, if_neg q, if_neg (by omega)]
                  refine lv_iconst (v := 1) hx hb dX4_divide_169 (by decide) ?_
                  refine fk_iast hx hb hK hP hD hS 10 2 rfl rfl (i := rr) (by omega) (by decide) dX4_divide_170 (fun H locs hP hD hS => ?_)
                  have hP : va_P D vwCl (fk_wm cJ cI cZ am cd kn lo tn wd sg up dn of bey rnd tx pv2 (upd (upd sv2 rq 0) rr 1) ++ tl) H := hP
                  have hD : va_D A (fk_wm cJ cI cZ am cd kn lo tn wd sg up dn of bey rnd tx pv2 (upd (upd sv2 rq 0) rr 1) ++ tl) := hD
                  have hae : fk_abs rv = rv := by rw [fk_abs, if_neg (by omega)]
                  have gq : fk_G (fk_dq x y) rq pv2 (upd (upd sv2 rq 0) rr 1) := ⟨by rw [dq1]; exact iQ, by rw [pk_un hn3, pk_us]; exact dq2.symm⟩
                  have gr : fk_G (fk_abs x % fk_abs y) rr pv2 (upd (upd sv2 rq 0) rr 1) := ⟨by rw [er, hae]; exact iR, by rw [er, pk_us]; exact hzr.symm⟩
                  have kk : fk_kr [rq, rr, 22] pt sn pv2 (upd (upd sv2 rq 0) rr 1) := fun r hr => by
                    obtain ⟨kr1, kr2⟩ := ik r hr
                    simp at hr
                    exact ⟨kr1, by rw [pk_un (by omega), pk_un (by omega)]; exact kr2⟩
                  rw [hQQ]
                  exact W.vret hx hb hr (fun t ht hW => ⟨⟨(pv2, upd (upd sv2 rq 0) rr 1), rfl, ⟨gq, gr, kk⟩, by rw [ht]; exact hP, va_K.moved hW.alike hK, hD⟩, hS.F ht⟩) hS.2.2 dX4_divide_171
                · have hzr : fk_cmp rv = 0 := by by_cases q : rv = 0; rw [fk_cmp, if_pos q]; rw [zr, if_neg q] at c_162; exact absurd rfl c_162
                  refine lv_iconst (v := 0) hx hb dX4_divide_165 (by decide) ?_
                  refine lv_goto (tgt := 170) hx hb dX4_divide_166 (by decide) ?_
                  refine fk_iast hx hb hK hP hD hS 10 2 rfl rfl (i := rr) (by omega) (by decide) dX4_divide_170 (fun H locs hP hD hS => ?_)
                  have hP : va_P D vwCl (fk_wm cJ cI cZ am cd kn lo tn wd sg up dn of bey rnd tx pv2 (upd (upd sv2 rq 0) rr 0) ++ tl) H := hP
                  have hD : va_D A (fk_wm cJ cI cZ am cd kn lo tn wd sg up dn of bey rnd tx pv2 (upd (upd sv2 rq 0) rr 0) ++ tl) := hD
                  have hae : fk_abs rv = rv := by rw [fk_abs, if_neg (by omega)]
                  have gq : fk_G (fk_dq x y) rq pv2 (upd (upd sv2 rq 0) rr 0) := ⟨by rw [dq1]; exact iQ, by rw [pk_un hn3, pk_us]; exact dq2.symm⟩
                  have gr : fk_G (fk_abs x % fk_abs y) rr pv2 (upd (upd sv2 rq 0) rr 0) := ⟨by rw [er, hae]; exact iR, by rw [er, pk_us]; exact hzr.symm⟩
                  have kk : fk_kr [rq, rr, 22] pt sn pv2 (upd (upd sv2 rq 0) rr 0) := fun r hr => by
                    obtain ⟨kr1, kr2⟩ := ik r hr
                    simp at hr
                    exact ⟨kr1, by rw [pk_un (by omega), pk_un (by omega)]; exact kr2⟩
                  rw [hQQ]
                  exact W.vret hx hb hr (fun t ht hW => ⟨⟨(pv2, upd (upd sv2 rq 0) rr 0), rfl, ⟨gq, gr, kk⟩, by rw [ht]; exact hP, va_K.moved hW.alike hK, hD⟩, hS.F ht⟩) hS.2.2 dX4_divide_171
            · have hkd : k < d := by rcases Nat.lt_or_ge k d with q | q; exact q; exact absurd ((nI_leI (a := d) (b := k) (by omega) (by omega)).mpr q) c_72
              have ep : fk_abs y * 2 ^ (d - k) = 2 * (fk_abs y * 2 ^ (d - (k + 1))) := by rw [show d - k = (d - (k + 1)) + 1 by omega, Int.pow_succ]; grind
              have eh : fk_abs y * 2 ^ (d - k) / 2 = fk_abs y * 2 ^ (d - (k + 1)) := by rw [ep]; omega
              have hZ : 1 ≤ fk_abs y * 2 ^ (d - (k + 1)) := by have q := fk_2p (d - (k + 1)); have z : 1 * 1 ≤ fk_abs y * 2 ^ (d - (k + 1)) := Int.mul_le_mul hY1 (by omega) (by omega) (by omega); omega
              have hr0 := (fk_rg_bd iR).1
              have hq0 := (fk_rg_bd iQ).1
              have hqX : qv * 2 ≤ fk_abs x := by
                rw [ep] at ie
                have z : qv * 2 * 1 ≤ qv * 2 * (fk_abs y * 2 ^ (d - (k + 1))) := Int.mul_le_mul_of_nonneg_left hZ (by omega)
                have z2 : qv * (2 * (fk_abs y * 2 ^ (d - (k + 1)))) = qv * 2 * (fk_abs y * 2 ^ (d - (k + 1))) := by grind
                omega
              refine lv_aload_n hx hb dX4_divide_75 rfl (lv_at hl 0 rfl) ?_
              refine lv_bipush (v := 22) hx hb dX4_divide_76 (by decide) ?_
              refine fk_cv hD hS hA (va_runV (As := [.int 22]) (rest := []) ⟨hx, hb, hml, hown, hts⟩ (kX4_halve _ am tl cd kn lo tn wd sg up dn of bey rnd tx pv2 sv2 22 (fk_abs y * 2 ^ (d - k)) (by omega) i22) (cwV 1 hts gX4_divide_X4_halve rfl rfl rfl (by decide +kernel) ⟨Nat.le_of_ble_eq_true rfl, Nat.le_of_ble_eq_true rfl⟩) (fk_preV 0 5 hK hN hP hD rfl rfl) rfl rfl hl.1 rfl (lv_room (Nat.le_of_ble_eq_true rfl)) dX4_divide_78 ⟨Nat.le_of_ble_eq_true rfl, Nat.le_of_ble_eq_true rfl⟩) (fun u12 H locs hw hP hD hS => ?_)
              have hP : va_P D vwCl (fk_wm cJ cI cZ am cd kn lo tn wd sg up dn of bey rnd tx u12.1 u12.2 ++ tl) H := hP
              have hD : va_D A (fk_wm cJ cI cZ am cd kn lo tn wd sg up dn of bey rnd tx u12.1 u12.2 ++ tl) := hD
              obtain ⟨r1, f7, f8, -⟩ := hw
              rw [eh] at r1
              have j22 := r1
              have jQ := fk_rg_keep iQ f7 (by omega)
              have jR := fk_rg_keep iR f7 (by omega)
              have jk : fk_kr [rq, rr, 22] pt sn u12.1 u12.2 := fk_kr_t ik (fk_kr_1 f7 f8) (fun r hr => by simp at hr ⊢; omega)
              refine lv_aload_n hx hb dX4_divide_81 rfl (lv_at hl 0 rfl) ?_
              refine lv_iload_n hx hb dX4_divide_82 rfl (lv_at hl 1 rfl) ?_
              refine lv_iload_n hx hb dX4_divide_83 rfl (lv_at hl 1 rfl) ?_
              refine lv_iload_n hx hb dX4_divide_84 rfl (lv_at hl 1 rfl) ?_
              refine fk_cv hD hS hA (va_runV (As := [.int (nI rq), .int (nI rq), .int (nI rq)]) (rest := []) ⟨hx, hb, hml, hown, hts⟩ (kX4_addSizes _ am tl cd kn lo tn wd sg up dn of bey rnd tx u12.1 u12.2 rq rq rq qv qv (by omega) (by omega) (by omega) jQ jQ (by rw [fk_p16]; omega)) (cwV 3 hts gX4_divide_X4_addSizes rfl rfl rfl (by decide +kernel) ⟨Nat.le_of_ble_eq_true rfl, Nat.le_of_ble_eq_true rfl⟩) (fk_preV 0 5 hK hN hP hD rfl rfl) rfl rfl hl.1 rfl (lv_room (Nat.le_of_ble_eq_true rfl)) dX4_divide_85 ⟨Nat.le_of_ble_eq_true rfl, Nat.le_of_ble_eq_true rfl⟩) (fun pt14 H locs hw hP hD hS => ?_)
              have hP : va_P D vwCl (fk_wm cJ cI cZ am cd kn lo tn wd sg up dn of bey rnd tx pt14 u12.2 ++ tl) H := hP
              have hD : va_D A (fk_wm cJ cI cZ am cd kn lo tn wd sg up dn of bey rnd tx pt14 u12.2 ++ tl) := hD
              obtain ⟨r1, f9⟩ := hw
              have lQ : fk_rg (2 * qv) rq pt14 := by rw [show 2 * qv = qv + qv by omega]; exact r1
              have b1 := fk_rg_keep j22 f9 (by omega)
              have lR := fk_rg_keep jR f9 (by omega)
              have lk : fk_kr [rq, rr, 22] pt sn pt14 u12.2 := fk_kr_t jk (fk_kr_1 f9 (fk_fs_0 rq _)) (fun r hr => by simp at hr ⊢; omega)
              refine lv_aload_n hx hb dX4_divide_88 rfl (lv_at hl 0 rfl) ?_
              refine lv_iload_n hx hb dX4_divide_89 rfl (lv_at hl 2 rfl) ?_
              refine lv_bipush (v := 22) hx hb dX4_divide_90 (by decide) ?_
              refine fk_ci hD hS hA (va_runV (As := [.int (nI rr), .int 22]) (rest := []) ⟨hx, hb, hml, hown, hts⟩ (kX4_sizes _ am tl cd kn lo tn wd sg up dn of bey rnd tx pt14 u12.2 rr 22 rv (fk_abs y * 2 ^ (d - (k + 1))) (by omega) (by omega) lR b1) (cwV 2 hts gX4_divide_X4_sizes rfl rfl rfl (by decide +kernel) ⟨Nat.le_of_ble_eq_true rfl, Nat.le_of_ble_eq_true rfl⟩) (fk_preV 0 5 hK hN hP hD rfl rfl) rfl rfl hl.1 rfl (lv_room (Nat.le_of_ble_eq_true rfl)) dX4_divide_92 ⟨Nat.le_of_ble_eq_true rfl, Nat.le_of_ble_eq_true rfl⟩) (fun r16 u H locs hw hP hD hS => ?_)
              have hP : va_P D vwCl (fk_wm cJ cI cZ am cd kn lo tn wd sg up dn of bey rnd tx pt14 u12.2 ++ tl) H := hP
              have hD : va_D A (fk_wm cJ cI cZ am cd kn lo tn wd sg up dn of bey rnd tx pt14 u12.2 ++ tl) := hD
              obtain ⟨s1, s2⟩ := hw
              refine lv_if_lt (tgt := 126) hx hb dX4_divide_95 (by decide) (fun c_95 => ?_) (fun c_95 => ?_)
              · rw [Int32.lt_iff_toInt_lt, show (0 : Int32).toInt = 0 by decide] at c_95
                have hlt2 : rv < fk_abs y * 2 ^ (d - (k + 1)) := s2.mp c_95
                have b4 : fk_abs x = 2 * qv * (fk_abs y * 2 ^ (d - (k + 1))) + rv := by rw [ie, ep]; grind
                have b5 := hlt2
                refine lv_iinc (v := nI (k + 1)) (lv' := [(7, .int (nI (k + 1))), (0, .ref (am 0)), (1, .int (nI rq)), (2, .int (nI rr)), (3, .int (nI ra)), (4, .int (nI rb)), (5, .int (fk_cmp (x * y))), (6, .int (nI d))]) hx hb dX4_divide_126 hl (k := 7) rfl (by exact nI_1 k) (by decide) rfl (fun ls hl => ?_)
                refine lv_goto (tgt := 68) hx hb dX4_divide_129 (by decide) ?_
                exact ih68 (k + 1) pt14 u12.2 (2 * qv) rv (by omega) (by omega) b1 lQ lR b4 b5 lk _ _ _ hP hD hS (lv_sub hl [1, 2, 3, 4, 5, 6, 7, 0] rfl)
              · rw [Int32.lt_iff_toInt_lt, show (0 : Int32).toInt = 0 by decide] at c_95
                have hge : fk_abs y * 2 ^ (d - (k + 1)) ≤ rv := by rcases Int.lt_or_le rv (fk_abs y * 2 ^ (d - (k + 1))) with q | q; exact absurd (s2.mpr q) c_95; exact q
                have b4 : fk_abs x = (2 * qv + 1) * (fk_abs y * 2 ^ (d - (k + 1))) + (rv - fk_abs y * 2 ^ (d - (k + 1))) := by rw [ie, ep]; grind
                have b5 : rv - fk_abs y * 2 ^ (d - (k + 1)) < fk_abs y * 2 ^ (d - (k + 1)) := by rw [ep] at il; omega
                refine lv_aload_n hx hb dX4_divide_98 rfl (lv_at hl 0 rfl) ?_
                refine lv_iload_n hx hb dX4_divide_99 rfl (lv_at hl 2 rfl) ?_
                refine lv_iload_n hx hb dX4_divide_100 rfl (lv_at hl 2 rfl) ?_
                refine lv_bipush (v := 22) hx hb dX4_divide_101 (by decide) ?_
                refine fk_cv hD hS hA (va_runV (As := [.int (nI rr), .int (nI rr), .int 22]) (rest := []) ⟨hx, hb, hml, hown, hts⟩ (kX4_lessSizes _ am tl cd kn lo tn wd sg up dn of bey rnd tx pt14 u12.2 rr rr 22 rv (fk_abs y * 2 ^ (d - (k + 1))) (by omega) (by omega) (by omega) lR b1 hge) (cwV 3 hts gX4_divide_X4_lessSizes rfl rfl rfl (by decide +kernel) ⟨Nat.le_of_ble_eq_true rfl, Nat.le_of_ble_eq_true rfl⟩) (fk_preV 0 5 hK hN hP hD rfl rfl) rfl rfl hl.1 rfl (lv_room (Nat.le_of_ble_eq_true rfl)) dX4_divide_103 ⟨Nat.le_of_ble_eq_true rfl, Nat.le_of_ble_eq_true rfl⟩) (fun pt17 H locs hw hP hD hS => ?_)
                have hP : va_P D vwCl (fk_wm cJ cI cZ am cd kn lo tn wd sg up dn of bey rnd tx pt17 u12.2 ++ tl) H := hP
                have hD : va_D A (fk_wm cJ cI cZ am cd kn lo tn wd sg up dn of bey rnd tx pt17 u12.2 ++ tl) := hD
                obtain ⟨mR, f10⟩ := hw
                have mQ := fk_rg_keep lQ f10 (by omega)
                have b1 := fk_rg_keep b1 f10 (by omega)
                have mk : fk_kr [rq, rr, 22] pt sn pt17 u12.2 := fk_kr_t lk (fk_kr_1 f10 (fk_fs_0 rr _)) (fun r hr => by simp at hr ⊢; omega)
                refine lv_aload_n hx hb dX4_divide_106 rfl (lv_at hl 0 rfl) ?_
                refine va_get (D := D) (ci := 5) (v := .ref (am 9)) (C := RX4) (T := TX4) (N := 14) hx hb hts k2 hown hK hP 0 rfl rfl 12 (by decide) k3 (fun _ h9 => h9) rfl dX4_divide_107 ?_
                refine lv_bipush (v := 16) hx hb dX4_divide_110 (by decide) ?_
                refine lv_iload_n hx hb dX4_divide_112 rfl (lv_at hl 1 rfl) ?_
                refine lv_imul hx hb dX4_divide_113 ?_
                refine lv_topi (fun x19 ex19 => ?_)
                have ex19q : x19 = nI (16 * rq) := by
                  rw [ex19]; exact pk_mul 16 rq
                subst ex19q
                refine lv_aload_n hx hb dX4_divide_114 rfl (lv_at hl 0 rfl) ?_
                refine va_get (D := D) (ci := 5) (v := .ref (am 9)) (C := RX4) (T := TX4) (N := 14) hx hb hts k2 hown hK hP 0 rfl rfl 12 (by decide) k3 (fun _ h9 => h9) rfl dX4_divide_115 ?_
                refine lv_bipush (v := 16) hx hb dX4_divide_118 (by decide) ?_
                refine lv_iload_n hx hb dX4_divide_120 rfl (lv_at hl 1 rfl) ?_
                refine lv_imul hx hb dX4_divide_121 ?_
                refine lv_topi (fun x20 ex20 => ?_)
                have ex20q : x20 = nI (16 * rq) := by
                  rw [ex20]; exact pk_mul 16 rq
                subst ex20q
                refine fk_iald hx hb hK hP 9 2 rfl rfl (i := 16 * rq) (by omega) (by decide) dX4_divide_122 ?_
                refine lv_iconst (v := 1) hx hb dX4_divide_123 (by decide) ?_
                refine lv_ior hx hb dX4_divide_124 ?_
                refine fk_iast hx hb hK hP hD hS 9 2 rfl rfl (i := 16 * rq) (by omega) (by decide) dX4_divide_125 (fun H locs hP hD hS => ?_)
                have hP : va_P D vwCl (fk_wm cJ cI cZ am cd kn lo tn wd sg up dn of bey rnd tx (upd pt17 (16 * rq) ((pt17 (16 * rq)) ||| 1)) u12.2 ++ tl) H := hP
                have hD : va_D A (fk_wm cJ cI cZ am cd kn lo tn wd sg up dn of bey rnd tx (upd pt17 (16 * rq) ((pt17 (16 * rq)) ||| 1)) u12.2 ++ tl) := hD
                have oQ := fk_rg_or1 mQ
                have f11 : fk_fp rq pt17 (upd pt17 (16 * rq) (pt17 (16 * rq) ||| 1)) := fun i hi => pk_un (by omega)
                have oR := fk_rg_keep mR f11 (by omega)
                have b1 := fk_rg_keep b1 f11 (by omega)
                have ok : fk_kr [rq, rr, 22] pt sn (upd pt17 (16 * rq) (pt17 (16 * rq) ||| 1)) u12.2 := fk_kr_t mk (fk_kr_1 f11 (fk_fs_0 rq _)) (fun r hr => by simp at hr ⊢; omega)
                refine lv_iinc (v := nI (k + 1)) (lv' := [(7, .int (nI (k + 1))), (0, .ref (am 0)), (1, .int (nI rq)), (2, .int (nI rr)), (3, .int (nI ra)), (4, .int (nI rb)), (5, .int (fk_cmp (x * y))), (6, .int (nI d))]) hx hb dX4_divide_126 hl (k := 7) rfl (by exact nI_1 k) (by decide) rfl (fun ls hl => ?_)
                refine lv_goto (tgt := 68) hx hb dX4_divide_129 (by decide) ?_
                exact ih68 (k + 1) (upd pt17 (16 * rq) ((pt17 (16 * rq)) ||| 1)) u12.2 (2 * qv + 1) (rv - fk_abs y * 2 ^ (d - (k + 1))) (by omega) (by omega) b1 oQ oR b4 b5 ok _ _ _ hP hD hS (lv_sub hl [1, 2, 3, 4, 5, 6, 7, 0] rfl)
        exact L68 (d + 1) 0 u7.1 u7.2 0 (fk_abs x) (by omega) (by omega) n22 nQ nR (by rw [Int.zero_mul, Int.zero_add]) hlt kr3 _ _ _ hP hD hS (lv_sub hl [1, 2, 3, 4, 5, 6, 7, 0] rfl)
      · rw [Int32.lt_iff_toInt_lt, show (0 : Int32).toInt = 0 by decide] at c_40
        have hle2 : fk_abs y * 2 ^ d ≤ fk_abs x := by rcases Int.lt_or_le (fk_abs x) (fk_abs y * 2 ^ d) with q | q; exact absurd (s1.mpr q) c_40; exact q
        have hd2 := fk_2d hY1 hle2 hxb
        have e2 : fk_abs y * 2 ^ d + fk_abs y * 2 ^ d = fk_abs y * 2 ^ (d + 1) := by rw [Int.pow_succ]; grind
        refine lv_aload_n hx hb dX4_divide_43 rfl (lv_at hl 0 rfl) ?_
        refine lv_bipush (v := 22) hx hb dX4_divide_44 (by decide) ?_
        refine lv_bipush (v := 22) hx hb dX4_divide_46 (by decide) ?_
        refine lv_bipush (v := 22) hx hb dX4_divide_48 (by decide) ?_
        refine fk_cv hD hS hA (va_runV (As := [.int 22, .int 22, .int 22]) (rest := []) ⟨hx, hb, hml, hown, hts⟩ (kX4_addSizes _ am tl cd kn lo tn wd sg up dn of bey rnd tx pv u4.2 22 22 22 (fk_abs y * 2 ^ d) (fk_abs y * 2 ^ d) (by omega) (by omega) (by omega) h22 h22 (by rw [fk_p16]; omega)) (cwV 3 hts gX4_divide_X4_addSizes rfl rfl rfl (by decide +kernel) ⟨Nat.le_of_ble_eq_true rfl, Nat.le_of_ble_eq_true rfl⟩) (fk_preV 0 5 hK hN hP hD rfl rfl) rfl rfl hl.1 rfl (lv_room (Nat.le_of_ble_eq_true rfl)) dX4_divide_50 ⟨Nat.le_of_ble_eq_true rfl, Nat.le_of_ble_eq_true rfl⟩) (fun pt21 H locs hw hP hD hS => ?_)
        have hP : va_P D vwCl (fk_wm cJ cI cZ am cd kn lo tn wd sg up dn of bey rnd tx pt21 u4.2 ++ tl) H := hP
        have hD : va_D A (fk_wm cJ cI cZ am cd kn lo tn wd sg up dn of bey rnd tx pt21 u4.2 ++ tl) := hD
        obtain ⟨r1, r2⟩ := hw
        rw [e2] at r1
        have a1 := r1
        have a2 := fk_rg_keep hR r2 (by omega)
        have a3 : d + 1 ≤ 254 := by omega
        have a4 : d + 1 = 0 ∨ fk_abs y * 2 ^ (d + 1) ≤ 2 * fk_abs x := Or.inr (by rw [← e2]; omega)
        have a5 : fk_kr [rr, 22] pt sn pt21 u4.2 := fk_kr_t hkr (fk_kr_1 r2 (fk_fs_0 22 _)) (fun r hr => by simp at hr ⊢; omega)
        refine lv_iinc (v := nI (d + 1)) (lv' := [(6, .int (nI (d + 1))), (0, .ref (am 0)), (1, .int (nI rq)), (2, .int (nI rr)), (3, .int (nI ra)), (4, .int (nI rb)), (5, .int (fk_cmp (x * y)))]) hx hb dX4_divide_53 hl (k := 6) rfl (by exact nI_1 d) (by decide) rfl (fun ls hl => ?_)
        refine lv_goto (tgt := 33) hx hb dX4_divide_56 (by decide) ?_
        exact ih33 (d + 1) pt21 (by omega) a1 a2 a3 a4 a5 _ _ _ hP hD hS (lv_sub hl [1, 2, 3, 4, 5, 6, 0] rfl)
  exact L33 301 0 u4.1 (by omega) (by rw [Int.pow_zero, Int.mul_one]; exact g22.1) gR2.1 (by omega) (Or.inl rfl) kr2 _ _ _ hP hD hS (lv_sub hl [2, 3, 4, 5, 6, 1, 0] rfl)
