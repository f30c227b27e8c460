/-! The law: convert, lost, physical, bound, compare, octet, half, by program -/
set_option maxHeartbeats 4000000 in
set_option maxRecDepth 100000 in
/-- convert -/
theorem lc_3 {p : Program} {l : Launch} {e : Env} {s : State} {m : MethodId} {below : List Frame} {meth : Method} {c : Code} {QQ : State → Prop} {H : Heap} {locs : List Loc} {ls : Array Slot} {D : va_G} {cJ cC cI cZ cK : ClassId} {ad am : Nat → Nat} {oA b L : Nat} {xs : Nat → Int32} {A : Nat → Prop} {i cells slots : Nat} (hC : fk_LC p l s m c D cJ cC cI cZ cK b L xs A) (hi : i + 9 ≤ L) (hJ : fk_J D cJ cC cI cZ cK ad am oA A s.heap H locs) (hl : lv_has ls 8 [(0, .ref b), (1, .ref (ad 0)), (2, .ref (am 0)), (3, .ref oA), (4, .int (nI i))]) (hc1 : cells + 1 ≤ 604189) (hs1 : slots + 7 ≤ 7283536) (kk : ∀ (H : Heap) (locs : List Loc) (ls : Array Slot), fk_J D cJ cC cI cZ cK ad am oA A s.heap H locs → lv_has ls 8 [(0, .ref b), (1, .ref (ad 0)), (2, .ref (am 0)), (3, .ref oA), (4, .int (nI i))] → W p l e room_1 s m #[Value.ref b] below meth c H locs (cells + 1) (slots + 7) QQ (F0 m 1132 ls [])) : W p l e room_1 s m #[Value.ref b] below meth c H locs cells slots QQ (F0 m 515 ls []) := by
  obtain ⟨hx, hb, hml, hown, htb, hX, hbl, hbA, hA, hK, hN, hXW, hlt, hL⟩ := hC
  have hts : ∀ w ∈ wsL_law, w.before #[Value.ref b] s = true := fun w h => htb w (wsL_law_in w h)
  obtain ⟨n, kf, ka, kt, kd, lo, cd, T, ch, f1, f2, f3, f4, f5, wd, sg, up, dn, of, bey, rnd, tx, pt, sn, fo, hP, hD, hS, hKL, hMT, hlo, hT1, hT2, hT3⟩ := hJ
  have hn40 := hKL.2.1
  have hKT := hKL.to (fk_wm cJ cI cZ am cd (nI n) lo (nI T.length) wd sg up dn of bey rnd tx pt sn) (oA, .inl (cJ, 1, .inr (.inl fo))) rfl
  have hP : va_P D vwCl ((fk_wx cJ cC cK ad kd (nI n) lo ch (nI (40 - T.length)) f1 f2 f3 f4 f5) ++ ((fk_wm cJ cI cZ am cd (nI n) lo (nI T.length) wd sg up dn of bey rnd tx pt sn) ++ ((oA, .inl (cJ, 1, .inr (.inl fo))) :: kt))) H := hP
  have hD : va_D A ((fk_wx cJ cC cK ad kd (nI n) lo ch (nI (40 - T.length)) f1 f2 f3 f4 f5) ++ ((fk_wm cJ cI cZ am cd (nI n) lo (nI T.length) wd sg up dn of bey rnd tx pt sn) ++ ((oA, .inl (cJ, 1, .inr (.inl fo))) :: kt))) := hD
  have k1 := hts (.constantLong RL 25 4294967295) (by decide +kernel)
  refine lv_aload_n hx hb dL_law_515 rfl (lv_at hl 1 rfl) ?_
  refine lv_aload_n hx hb dL_law_516 rfl (lv_at hl 0 rfl) ?_
  refine lv_iload hx hb dL_law_517 (lv_at hl 4 rfl) ?_
  refine lv_iconst (v := 1) hx hb dL_law_519 (by decide) ?_
  refine lv_iadd hx hb dL_law_520 ?_
  refine lv_topi (fun x1 ex1 => ?_)
  have ex1q : x1 = (nI (i + 1)) := by
    rw [ex1]; exact nI_add i 1
  subst ex1q
  refine fk_sld hx hb hX hbl hbA hS hL (k := i + 1) (by omega) dL_law_521 ?_
  refine lv_aload_n hx hb dL_law_522 rfl (lv_at hl 0 rfl) ?_
  refine lv_iload hx hb dL_law_523 (lv_at hl 4 rfl) ?_
  refine lv_iconst (v := 2) hx hb dL_law_525 (by decide) ?_
  refine lv_iadd hx hb dL_law_526 ?_
  refine lv_topi (fun x2 ex2 => ?_)
  have ex2q : x2 = (nI (i + 2)) := by
    rw [ex2]; exact nI_add i 2
  subst ex2q
  refine fk_sld hx hb hX hbl hbA hS hL (k := i + 2) (by omega) dL_law_527 ?_
  refine lv_i2l hx hb dL_law_528 rfl ?_
  refine lv_bipush (v := 32) hx hb dL_law_529 (by decide) ?_
  refine lv_lshl hx hb dL_law_531 rfl ?_
  refine lv_aload_n hx hb dL_law_532 rfl (lv_at hl 0 rfl) ?_
  refine lv_iload hx hb dL_law_533 (lv_at hl 4 rfl) ?_
  refine lv_iconst (v := 3) hx hb dL_law_535 (by decide) ?_
  refine lv_iadd hx hb dL_law_536 ?_
  refine lv_topi (fun x3 ex3 => ?_)
  have ex3q : x3 = (nI (i + 3)) := by
    rw [ex3]; exact nI_add i 3
  subst ex3q
  refine fk_sld hx hb hX hbl hbA hS hL (k := i + 3) (by omega) dL_law_537 ?_
  refine lv_i2l hx hb dL_law_538 rfl ?_
  refine lv_ldc2 (v := 4294967295) hx hb hown k1 dL_law_539 ?_
  refine lv_land hx hb dL_law_542 ?_
  refine lv_lor hx hb dL_law_543 ?_
  refine lv_topl (fun x4 ex4 => ?_)
  have ex4q : x4 = fk_lg (xs (i + 2)) (xs (i + 3)) := by
    rw [ex4]; rfl
  subst ex4q
  refine lv_aload_n hx hb dL_law_544 rfl (lv_at hl 0 rfl) ?_
  refine lv_iload hx hb dL_law_545 (lv_at hl 4 rfl) ?_
  refine lv_iconst (v := 4) hx hb dL_law_547 (by decide) ?_
  refine lv_iadd hx hb dL_law_548 ?_
  refine lv_topi (fun x5 ex5 => ?_)
  have ex5q : x5 = (nI (i + 4)) := by
    rw [ex5]; exact nI_add i 4
  subst ex5q
  refine fk_sld hx hb hX hbl hbA hS hL (k := i + 4) (by omega) dL_law_549 ?_
  refine fk_cl hD hS hA (va_runV (As := [.int (xs (i + 1)), .long (fk_lg (xs (i + 2)) (xs (i + 3))), .int (xs (i + 4))]) (rest := []) ⟨hx, hb, hml, hown, hts⟩ (kX3_convert _ ad ((fk_wm cJ cI cZ am cd (nI n) lo (nI T.length) wd sg up dn of bey rnd tx pt sn) ++ ((oA, .inl (cJ, 1, .inr (.inl fo))) :: kt)) kd lo ch (nI (40 - T.length)) f1 f2 f3 f4 f5 n kf ka (fun j => j + 12) (xs (i + 1)) (xs (i + 4)) (fk_lg (xs (i + 2)) (xs (i + 3))) hKT) (cwV 3 hts gL_law_X3_convert rfl rfl rfl (by decide +kernel) ⟨Nat.le_of_ble_eq_true rfl, Nat.le_of_ble_eq_true rfl⟩) (fk_preV 0 4 hK hN hP hD rfl rfl) rfl rfl hl.1 rfl (lv_room (Nat.le_of_ble_eq_true rfl)) dL_law_550 ⟨by show cells + 0 ≤ 604189; omega, by show slots + 0 ≤ 7283536; omega⟩) (fun r6 u1 H locs hwr6 hP hD hS => ?_)
  obtain ⟨l1, g1, g2, g3, g4, g5⟩ := u1
  obtain ⟨e1, e2⟩ := hwr6
  have e2 : l1 = (fk_lConv n kf lo (xs (i + 1)) (fk_lg (xs (i + 2)) (xs (i + 3))) (xs (i + 4))) := e2
  have hP : va_P D vwCl ((fk_wx cJ cC cK ad kd (nI n) l1 ch (nI (40 - T.length)) g1 g2 g3 g4 g5) ++ ((fk_wm cJ cI cZ am cd (nI n) lo (nI T.length) wd sg up dn of bey rnd tx pt sn) ++ ((oA, .inl (cJ, 1, .inr (.inl fo))) :: kt))) H := hP
  have hD : va_D A ((fk_wx cJ cC cK ad kd (nI n) l1 ch (nI (40 - T.length)) g1 g2 g3 g4 g5) ++ ((fk_wm cJ cI cZ am cd (nI n) lo (nI T.length) wd sg up dn of bey rnd tx pt sn) ++ ((oA, .inl (cJ, 1, .inr (.inl fo))) :: kt))) := hD
  rw [e2] at hP hD
  have hP : va_P D vwCl ((fk_wx cJ cC cK ad kd (nI n) (fk_lConv n kf lo (xs (i + 1)) (fk_lg (xs (i + 2)) (xs (i + 3))) (xs (i + 4))) ch (nI (40 - T.length)) g1 g2 g3 g4 g5) ++ ((fk_wm cJ cI cZ am cd (nI n) lo (nI T.length) wd sg up dn of bey rnd tx pt sn) ++ ((oA, .inl (cJ, 1, .inr (.inl fo))) :: kt))) H := hP
  have hD : va_D A ((fk_wx cJ cC cK ad kd (nI n) (fk_lConv n kf lo (xs (i + 1)) (fk_lg (xs (i + 2)) (xs (i + 3))) (xs (i + 4))) ch (nI (40 - T.length)) g1 g2 g3 g4 g5) ++ ((fk_wm cJ cI cZ am cd (nI n) lo (nI T.length) wd sg up dn of bey rnd tx pt sn) ++ ((oA, .inl (cJ, 1, .inr (.inl fo))) :: kt))) := hD
  refine lv_aload_n hx hb dL_law_553 rfl (lv_at hl 2 rfl) ?_
  refine lv_aload_n hx hb dL_law_554 rfl (lv_at hl 0 rfl) ?_
  refine lv_iload hx hb dL_law_555 (lv_at hl 4 rfl) ?_
  refine lv_iconst (v := 1) hx hb dL_law_557 (by decide) ?_
  refine lv_iadd hx hb dL_law_558 ?_
  refine lv_topi (fun x7 ex7 => ?_)
  have ex7q : x7 = (nI (i + 1)) := by
    rw [ex7]; exact nI_add i 1
  subst ex7q
  refine fk_sld hx hb hX hbl hbA hS hL (k := i + 1) (by omega) dL_law_559 ?_
  refine lv_aload_n hx hb dL_law_560 rfl (lv_at hl 0 rfl) ?_
  refine lv_iload hx hb dL_law_561 (lv_at hl 4 rfl) ?_
  refine lv_iconst (v := 2) hx hb dL_law_563 (by decide) ?_
  refine lv_iadd hx hb dL_law_564 ?_
  refine lv_topi (fun x8 ex8 => ?_)
  have ex8q : x8 = (nI (i + 2)) := by
    rw [ex8]; exact nI_add i 2
  subst ex8q
  refine fk_sld hx hb hX hbl hbA hS hL (k := i + 2) (by omega) dL_law_565 ?_
  refine lv_i2l hx hb dL_law_566 rfl ?_
  refine lv_bipush (v := 32) hx hb dL_law_567 (by decide) ?_
  refine lv_lshl hx hb dL_law_569 rfl ?_
  refine lv_aload_n hx hb dL_law_570 rfl (lv_at hl 0 rfl) ?_
  refine lv_iload hx hb dL_law_571 (lv_at hl 4 rfl) ?_
  refine lv_iconst (v := 3) hx hb dL_law_573 (by decide) ?_
  refine lv_iadd hx hb dL_law_574 ?_
  refine lv_topi (fun x9 ex9 => ?_)
  have ex9q : x9 = (nI (i + 3)) := by
    rw [ex9]; exact nI_add i 3
  subst ex9q
  refine fk_sld hx hb hX hbl hbA hS hL (k := i + 3) (by omega) dL_law_575 ?_
  refine lv_i2l hx hb dL_law_576 rfl ?_
  refine lv_ldc2 (v := 4294967295) hx hb hown k1 dL_law_577 ?_
  refine lv_land hx hb dL_law_580 ?_
  refine lv_lor hx hb dL_law_581 ?_
  refine lv_topl (fun x10 ex10 => ?_)
  have ex10q : x10 = fk_lg (xs (i + 2)) (xs (i + 3)) := by
    rw [ex10]; rfl
  subst ex10q
  refine lv_aload_n hx hb dL_law_582 rfl (lv_at hl 0 rfl) ?_
  refine lv_iload hx hb dL_law_583 (lv_at hl 4 rfl) ?_
  refine lv_iconst (v := 4) hx hb dL_law_585 (by decide) ?_
  refine lv_iadd hx hb dL_law_586 ?_
  refine lv_topi (fun x11 ex11 => ?_)
  have ex11q : x11 = (nI (i + 4)) := by
    rw [ex11]; exact nI_add i 4
  subst ex11q
  refine fk_sld hx hb hX hbl hbA hS hL (k := i + 4) (by omega) dL_law_587 ?_
  have hP : va_P D vwCl ((fk_wm cJ cI cZ am cd (nI n) lo (nI T.length) wd sg up dn of bey rnd tx pt sn) ++ (((oA, .inl (cJ, 1, .inr (.inl fo))) :: kt) ++ (fk_wx cJ cC cK ad kd (nI n) (fk_lConv n kf lo (xs (i + 1)) (fk_lg (xs (i + 2)) (xs (i + 3))) (xs (i + 4))) ch (nI (40 - T.length)) g1 g2 g3 g4 g5))) H := fk_swP hP
  have hD : va_D A ((fk_wm cJ cI cZ am cd (nI n) lo (nI T.length) wd sg up dn of bey rnd tx pt sn) ++ (((oA, .inl (cJ, 1, .inr (.inl fo))) :: kt) ++ (fk_wx cJ cC cK ad kd (nI n) (fk_lConv n kf lo (xs (i + 1)) (fk_lg (xs (i + 2)) (xs (i + 3))) (xs (i + 4))) ch (nI (40 - T.length)) g1 g2 g3 g4 g5))) := fk_swD hD
  refine fk_cl hD hS hA (va_runV (As := [.int (xs (i + 1)), .long (fk_lg (xs (i + 2)) (xs (i + 3))), .int (xs (i + 4))]) (rest := [.long r6]) ⟨hx, hb, hml, hown, hts⟩ (kX4_convert _ am (((oA, .inl (cJ, 1, .inr (.inl fo))) :: kt) ++ (fk_wx cJ cC cK ad kd (nI n) (fk_lConv n kf lo (xs (i + 1)) (fk_lg (xs (i + 2)) (xs (i + 3))) (xs (i + 4))) ch (nI (40 - T.length)) g1 g2 g3 g4 g5)) cd lo (nI T.length) wd sg up dn of bey rnd tx pt sn n kf (xs (i + 1)) (xs (i + 4)) (fk_lg (xs (i + 2)) (xs (i + 3))) hMT) (cwV 3 hts gL_law_X4_convert rfl rfl rfl (by decide +kernel) ⟨Nat.le_of_ble_eq_true rfl, Nat.le_of_ble_eq_true rfl⟩) (fk_preV 0 5 hK hN hP hD rfl rfl) rfl rfl hl.1 rfl (lv_room (Nat.le_of_ble_eq_true rfl)) dL_law_588 ⟨by show cells + 0 + 0 ≤ 604189; omega, by show slots + 0 + 0 ≤ 7283536; omega⟩) (fun r12 u2 H locs hwr12 hP hD hS => ?_)
  obtain ⟨l2, p2, s2⟩ := u2
  obtain ⟨e3, e4⟩ := hwr12
  have e4 : l2 = (fk_lConv n kf lo (xs (i + 1)) (fk_lg (xs (i + 2)) (xs (i + 3))) (xs (i + 4))) := e4
  have hP : va_P D vwCl ((fk_wm cJ cI cZ am 0 (nI n) l2 (nI T.length) wd sg up dn of bey rnd tx p2 s2) ++ (((oA, .inl (cJ, 1, .inr (.inl fo))) :: kt) ++ (fk_wx cJ cC cK ad kd (nI n) (fk_lConv n kf lo (xs (i + 1)) (fk_lg (xs (i + 2)) (xs (i + 3))) (xs (i + 4))) ch (nI (40 - T.length)) g1 g2 g3 g4 g5))) H := hP
  have hD : va_D A ((fk_wm cJ cI cZ am 0 (nI n) l2 (nI T.length) wd sg up dn of bey rnd tx p2 s2) ++ (((oA, .inl (cJ, 1, .inr (.inl fo))) :: kt) ++ (fk_wx cJ cC cK ad kd (nI n) (fk_lConv n kf lo (xs (i + 1)) (fk_lg (xs (i + 2)) (xs (i + 3))) (xs (i + 4))) ch (nI (40 - T.length)) g1 g2 g3 g4 g5))) := hD
  rw [e4] at hP hD
  have hP : va_P D vwCl ((fk_wx cJ cC cK ad kd (nI n) (fk_lConv n kf lo (xs (i + 1)) (fk_lg (xs (i + 2)) (xs (i + 3))) (xs (i + 4))) ch (nI (40 - T.length)) g1 g2 g3 g4 g5) ++ ((fk_wm cJ cI cZ am 0 (nI n) (fk_lConv n kf lo (xs (i + 1)) (fk_lg (xs (i + 2)) (xs (i + 3))) (xs (i + 4))) (nI T.length) wd sg up dn of bey rnd tx p2 s2) ++ ((oA, .inl (cJ, 1, .inr (.inl fo))) :: kt))) H := fk_swQ hP
  have hD : va_D A ((fk_wx cJ cC cK ad kd (nI n) (fk_lConv n kf lo (xs (i + 1)) (fk_lg (xs (i + 2)) (xs (i + 3))) (xs (i + 4))) ch (nI (40 - T.length)) g1 g2 g3 g4 g5) ++ ((fk_wm cJ cI cZ am 0 (nI n) (fk_lConv n kf lo (xs (i + 1)) (fk_lg (xs (i + 2)) (xs (i + 3))) (xs (i + 4))) (nI T.length) wd sg up dn of bey rnd tx p2 s2) ++ ((oA, .inl (cJ, 1, .inr (.inl fo))) :: kt))) := fk_swE hD
  refine W.lcmp hx hb dL_law_591 ?_
  refine lv_if_eq (tgt := 1132) hx hb dL_law_592 (by decide) (fun c_592 => ?_) (fun c_592 => False.elim ((by rw [lg_cmp_eq] at c_592; exact c_592 (Int64.toInt_inj.mp (by rw [e1, e3])))))
  refine W.widen (k := cells + 1) (n := slots + 7) (by omega) (by omega) ?_
  exact kk _ _ _ (fk_J.mk T hP hD hS hKL hMT (fk_lConv01 hlo) hT1 hT2 hT3) (lv_sub hl [0, 1, 2, 3, 4] rfl)
set_option maxHeartbeats 4000000 in
set_option maxRecDepth 100000 in
/-- lost -/
theorem lc_4 {p : Program} {l : Launch} {e : Env} {s : State} {m : MethodId} {below : List Frame} {meth : Method} {c : Code} {QQ : State → Prop} {H : Heap} {locs : List Loc} {ls : Array Slot} {D : va_G} {cJ cC cI cZ cK : ClassId} {ad am : Nat → Nat} {oA b L : Nat} {xs : Nat → Int32} {A : Nat → Prop} {i cells slots : Nat} (hC : fk_LC p l s m c D cJ cC cI cZ cK b L xs A) (hi : i + 9 ≤ L) (hJ : fk_J D cJ cC cI cZ cK ad am oA A s.heap H locs) (hl : lv_has ls 8 [(0, .ref b), (1, .ref (ad 0)), (2, .ref (am 0)), (3, .ref oA), (4, .int (nI i))]) (hc1 : cells + 1 ≤ 604189) (hs1 : slots + 7 ≤ 7283536) (kk : ∀ (H : Heap) (locs : List Loc) (ls : Array Slot), fk_J D cJ cC cI cZ cK ad am oA A s.heap H locs → lv_has ls 8 [(0, .ref b), (1, .ref (ad 0)), (2, .ref (am 0)), (3, .ref oA), (4, .int (nI i))] → W p l e room_1 s m #[Value.ref b] below meth c H locs (cells + 1) (slots + 7) QQ (F0 m 1132 ls [])) : W p l e room_1 s m #[Value.ref b] below meth c H locs cells slots QQ (F0 m 597 ls []) := by
  obtain ⟨hx, hb, hml, hown, htb, hX, hbl, hbA, hA, hK, hN, hXW, hlt, hL⟩ := hC
  have hts : ∀ w ∈ wsL_law, w.before #[Value.ref b] s = true := fun w h => htb w (wsL_law_in w h)
  obtain ⟨n, kf, ka, kt, kd, lo, cd, T, ch, f1, f2, f3, f4, f5, wd, sg, up, dn, of, bey, rnd, tx, pt, sn, fo, hP, hD, hS, hKL, hMT, hlo, hT1, hT2, hT3⟩ := hJ
  have hn40 := hKL.2.1
  have hKT := hKL.to (fk_wm cJ cI cZ am cd (nI n) lo (nI T.length) wd sg up dn of bey rnd tx pt sn) (oA, .inl (cJ, 1, .inr (.inl fo))) rfl
  have hP : va_P D vwCl ((fk_wx cJ cC cK ad kd (nI n) lo ch (nI (40 - T.length)) f1 f2 f3 f4 f5) ++ ((fk_wm cJ cI cZ am cd (nI n) lo (nI T.length) wd sg up dn of bey rnd tx pt sn) ++ ((oA, .inl (cJ, 1, .inr (.inl fo))) :: kt))) H := hP
  have hD : va_D A ((fk_wx cJ cC cK ad kd (nI n) lo ch (nI (40 - T.length)) f1 f2 f3 f4 f5) ++ ((fk_wm cJ cI cZ am cd (nI n) lo (nI T.length) wd sg up dn of bey rnd tx pt sn) ++ ((oA, .inl (cJ, 1, .inr (.inl fo))) :: kt))) := hD
  refine lv_aload_n hx hb dL_law_597 rfl (lv_at hl 1 rfl) ?_
  refine fk_ci hD hS hA (va_runV (As := []) (rest := []) ⟨hx, hb, hml, hown, hts⟩ (kX3_lost _ ad ((fk_wm cJ cI cZ am cd (nI n) lo (nI T.length) wd sg up dn of bey rnd tx pt sn) ++ ((oA, .inl (cJ, 1, .inr (.inl fo))) :: kt)) kd lo ch (nI (40 - T.length)) f1 f2 f3 f4 f5 n kf ka (fun j => j + 12)  hKT hlo) (cwV 0 hts gL_law_X3_lost rfl rfl rfl (by decide +kernel) ⟨Nat.le_of_ble_eq_true rfl, Nat.le_of_ble_eq_true rfl⟩) (fk_preV 0 4 hK hN hP hD rfl rfl) rfl rfl hl.1 rfl (lv_room (Nat.le_of_ble_eq_true rfl)) dL_law_598 ⟨by show cells + 0 ≤ 604189; omega, by show slots + 0 ≤ 7283536; omega⟩) (fun r1 u1 H locs hwr1 hP hD hS => ?_)
  have e1 := hwr1
  have hP : va_P D vwCl ((fk_wx cJ cC cK ad kd (nI n) lo ch (nI (40 - T.length)) f1 f2 f3 f4 f5) ++ ((fk_wm cJ cI cZ am cd (nI n) lo (nI T.length) wd sg up dn of bey rnd tx pt sn) ++ ((oA, .inl (cJ, 1, .inr (.inl fo))) :: kt))) H := hP
  have hD : va_D A ((fk_wx cJ cC cK ad kd (nI n) lo ch (nI (40 - T.length)) f1 f2 f3 f4 f5) ++ ((fk_wm cJ cI cZ am cd (nI n) lo (nI T.length) wd sg up dn of bey rnd tx pt sn) ++ ((oA, .inl (cJ, 1, .inr (.inl fo))) :: kt))) := hD
  refine lv_aload_n hx hb dL_law_601 rfl (lv_at hl 2 rfl) ?_
  have hP : va_P D vwCl ((fk_wm cJ cI cZ am cd (nI n) lo (nI T.length) wd sg up dn of bey rnd tx pt sn) ++ (((oA, .inl (cJ, 1, .inr (.inl fo))) :: kt) ++ (fk_wx cJ cC cK ad kd (nI n) lo ch (nI (40 - T.length)) f1 f2 f3 f4 f5))) H := fk_swP hP
  have hD : va_D A ((fk_wm cJ cI cZ am cd (nI n) lo (nI T.length) wd sg up dn of bey rnd tx pt sn) ++ (((oA, .inl (cJ, 1, .inr (.inl fo))) :: kt) ++ (fk_wx cJ cC cK ad kd (nI n) lo ch (nI (40 - T.length)) f1 f2 f3 f4 f5))) := fk_swD hD
  refine fk_ci hD hS hA (va_runV (As := []) (rest := [.int r1]) ⟨hx, hb, hml, hown, hts⟩ (kX4_lost _ am (((oA, .inl (cJ, 1, .inr (.inl fo))) :: kt) ++ (fk_wx cJ cC cK ad kd (nI n) lo ch (nI (40 - T.length)) f1 f2 f3 f4 f5)) cd lo (nI T.length) wd sg up dn of bey rnd tx pt sn n kf  hMT hlo) (cwV 0 hts gL_law_X4_lost rfl rfl rfl (by decide +kernel) ⟨Nat.le_of_ble_eq_true rfl, Nat.le_of_ble_eq_true rfl⟩) (fk_preV 0 5 hK hN hP hD rfl rfl) rfl rfl hl.1 rfl (lv_room (Nat.le_of_ble_eq_true rfl)) dL_law_602 ⟨by show cells + 0 + 0 ≤ 604189; omega, by show slots + 0 + 0 ≤ 7283536; omega⟩) (fun r2 u2 H locs hwr2 hP hD hS => ?_)
  have e3 := hwr2
  have hP : va_P D vwCl ((fk_wx cJ cC cK ad kd (nI n) lo ch (nI (40 - T.length)) f1 f2 f3 f4 f5) ++ ((fk_wm cJ cI cZ am 0 (nI n) lo (nI T.length) wd sg up dn of bey rnd tx pt sn) ++ ((oA, .inl (cJ, 1, .inr (.inl fo))) :: kt))) H := fk_swQ hP
  have hD : va_D A ((fk_wx cJ cC cK ad kd (nI n) lo ch (nI (40 - T.length)) f1 f2 f3 f4 f5) ++ ((fk_wm cJ cI cZ am 0 (nI n) lo (nI T.length) wd sg up dn of bey rnd tx pt sn) ++ ((oA, .inl (cJ, 1, .inr (.inl fo))) :: kt))) := fk_swE hD
  refine lv_icmp_eq (tgt := 1132) hx hb dL_law_605 (by decide) (fun c_605 => ?_) (fun c_605 => False.elim (c_605 (by rw [e1, e3])))
  refine W.widen (k := cells + 1) (n := slots + 7) (by omega) (by omega) ?_
  exact kk _ _ _ (fk_J.mk T hP hD hS hKL hMT hlo hT1 hT2 hT3) (lv_sub hl [0, 1, 2, 3, 4] rfl)
set_option maxHeartbeats 4000000 in
set_option maxRecDepth 100000 in
/-- physical -/
theorem lc_5 {p : Program} {l : Launch} {e : Env} {s : State} {m : MethodId} {below : List Frame} {meth : Method} {c : Code} {QQ : State → Prop} {H : Heap} {locs : List Loc} {ls : Array Slot} {D : va_G} {cJ cC cI cZ cK : ClassId} {ad am : Nat → Nat} {oA b L : Nat} {xs : Nat → Int32} {A : Nat → Prop} {i cells slots : Nat} (hC : fk_LC p l s m c D cJ cC cI cZ cK b L xs A) (hi : i + 9 ≤ L) (hJ : fk_J D cJ cC cI cZ cK ad am oA A s.heap H locs) (hl : lv_has ls 8 [(0, .ref b), (1, .ref (ad 0)), (2, .ref (am 0)), (3, .ref oA), (4, .int (nI i))]) (hc1 : cells + 1 ≤ 604189) (hs1 : slots + 7 ≤ 7283536) (kk : ∀ (H : Heap) (locs : List Loc) (ls : Array Slot), fk_J D cJ cC cI cZ cK ad am oA A s.heap H locs → lv_has ls 8 [(0, .ref b), (1, .ref (ad 0)), (2, .ref (am 0)), (3, .ref oA), (4, .int (nI i))] → W p l e room_1 s m #[Value.ref b] below meth c H locs (cells + 1) (slots + 7) QQ (F0 m 1132 ls [])) : W p l e room_1 s m #[Value.ref b] below meth c H locs cells slots QQ (F0 m 610 ls []) := by
  obtain ⟨hx, hb, hml, hown, htb, hX, hbl, hbA, hA, hK, hN, hXW, hlt, hL⟩ := hC
  have hts : ∀ w ∈ wsL_law, w.before #[Value.ref b] s = true := fun w h => htb w (wsL_law_in w h)
  obtain ⟨n, kf, ka, kt, kd, lo, cd, T, ch, f1, f2, f3, f4, f5, wd, sg, up, dn, of, bey, rnd, tx, pt, sn, fo, hP, hD, hS, hKL, hMT, hlo, hT1, hT2, hT3⟩ := hJ
  have hn40 := hKL.2.1
  have hKT := hKL.to (fk_wm cJ cI cZ am cd (nI n) lo (nI T.length) wd sg up dn of bey rnd tx pt sn) (oA, .inl (cJ, 1, .inr (.inl fo))) rfl
  have hP : va_P D vwCl ((fk_wx cJ cC cK ad kd (nI n) lo ch (nI (40 - T.length)) f1 f2 f3 f4 f5) ++ ((fk_wm cJ cI cZ am cd (nI n) lo (nI T.length) wd sg up dn of bey rnd tx pt sn) ++ ((oA, .inl (cJ, 1, .inr (.inl fo))) :: kt))) H := hP
  have hD : va_D A ((fk_wx cJ cC cK ad kd (nI n) lo ch (nI (40 - T.length)) f1 f2 f3 f4 f5) ++ ((fk_wm cJ cI cZ am cd (nI n) lo (nI T.length) wd sg up dn of bey rnd tx pt sn) ++ ((oA, .inl (cJ, 1, .inr (.inl fo))) :: kt))) := hD
  have k1 := hts (.constantLong RL 25 4294967295) (by decide +kernel)
  refine lv_aload_n hx hb dL_law_610 rfl (lv_at hl 1 rfl) ?_
  refine lv_aload_n hx hb dL_law_611 rfl (lv_at hl 0 rfl) ?_
  refine lv_iload hx hb dL_law_612 (lv_at hl 4 rfl) ?_
  refine lv_iconst (v := 1) hx hb dL_law_614 (by decide) ?_
  refine lv_iadd hx hb dL_law_615 ?_
  refine lv_topi (fun x1 ex1 => ?_)
  have ex1q : x1 = (nI (i + 1)) := by
    rw [ex1]; exact nI_add i 1
  subst ex1q
  refine fk_sld hx hb hX hbl hbA hS hL (k := i + 1) (by omega) dL_law_616 ?_
  refine lv_aload_n hx hb dL_law_617 rfl (lv_at hl 0 rfl) ?_
  refine lv_iload hx hb dL_law_618 (lv_at hl 4 rfl) ?_
  refine lv_iconst (v := 2) hx hb dL_law_620 (by decide) ?_
  refine lv_iadd hx hb dL_law_621 ?_
  refine lv_topi (fun x2 ex2 => ?_)
  have ex2q : x2 = (nI (i + 2)) := by
    rw [ex2]; exact nI_add i 2
  subst ex2q
  refine fk_sld hx hb hX hbl hbA hS hL (k := i + 2) (by omega) dL_law_622 ?_
  refine lv_i2l hx hb dL_law_623 rfl ?_
  refine lv_bipush (v := 32) hx hb dL_law_624 (by decide) ?_
  refine lv_lshl hx hb dL_law_626 rfl ?_
  refine lv_aload_n hx hb dL_law_627 rfl (lv_at hl 0 rfl) ?_
  refine lv_iload hx hb dL_law_628 (lv_at hl 4 rfl) ?_
  refine lv_iconst (v := 3) hx hb dL_law_630 (by decide) ?_
  refine lv_iadd hx hb dL_law_631 ?_
  refine lv_topi (fun x3 ex3 => ?_)
  have ex3q : x3 = (nI (i + 3)) := by
    rw [ex3]; exact nI_add i 3
  subst ex3q
  refine fk_sld hx hb hX hbl hbA hS hL (k := i + 3) (by omega) dL_law_632 ?_
  refine lv_i2l hx hb dL_law_633 rfl ?_
  refine lv_ldc2 (v := 4294967295) hx hb hown k1 dL_law_634 ?_
  refine lv_land hx hb dL_law_637 ?_
  refine lv_lor hx hb dL_law_638 ?_
  refine lv_topl (fun x4 ex4 => ?_)
  have ex4q : x4 = fk_lg (xs (i + 2)) (xs (i + 3)) := by
    rw [ex4]; rfl
  subst ex4q
  refine lv_aload_n hx hb dL_law_639 rfl (lv_at hl 0 rfl) ?_
  refine lv_iload hx hb dL_law_640 (lv_at hl 4 rfl) ?_
  refine lv_iconst (v := 4) hx hb dL_law_642 (by decide) ?_
  refine lv_iadd hx hb dL_law_643 ?_
  refine lv_topi (fun x5 ex5 => ?_)
  have ex5q : x5 = (nI (i + 4)) := by
    rw [ex5]; exact nI_add i 4
  subst ex5q
  refine fk_sld hx hb hX hbl hbA hS hL (k := i + 4) (by omega) dL_law_644 ?_
  refine fk_cl hD hS hA (va_runV (As := [.int (xs (i + 1)), .long (fk_lg (xs (i + 2)) (xs (i + 3))), .int (xs (i + 4))]) (rest := []) ⟨hx, hb, hml, hown, hts⟩ (kX3_physical _ ad ((fk_wm cJ cI cZ am cd (nI n) lo (nI T.length) wd sg up dn of bey rnd tx pt sn) ++ ((oA, .inl (cJ, 1, .inr (.inl fo))) :: kt)) kd lo ch (nI (40 - T.length)) f1 f2 f3 f4 f5 n kf ka (fun j => j + 12) (xs (i + 1)) (xs (i + 4)) (fk_lg (xs (i + 2)) (xs (i + 3))) hKT) (cwV 3 hts gL_law_X3_physical rfl rfl rfl (by decide +kernel) ⟨Nat.le_of_ble_eq_true rfl, Nat.le_of_ble_eq_true rfl⟩) (fk_preV 0 4 hK hN hP hD rfl rfl) rfl rfl hl.1 rfl (lv_room (Nat.le_of_ble_eq_true rfl)) dL_law_645 ⟨by show cells + 0 ≤ 604189; omega, by show slots + 0 ≤ 7283536; omega⟩) (fun r6 u1 H locs hwr6 hP hD hS => ?_)
  obtain ⟨l1, g1, g2, g3, g4, g5⟩ := u1
  obtain ⟨e1, e2⟩ := hwr6
  have e2 : l1 = lo := e2
  have hP : va_P D vwCl ((fk_wx cJ cC cK ad kd (nI n) l1 ch (nI (40 - T.length)) g1 g2 g3 g4 g5) ++ ((fk_wm cJ cI cZ am cd (nI n) lo (nI T.length) wd sg up dn of bey rnd tx pt sn) ++ ((oA, .inl (cJ, 1, .inr (.inl fo))) :: kt))) H := hP
  have hD : va_D A ((fk_wx cJ cC cK ad kd (nI n) l1 ch (nI (40 - T.length)) g1 g2 g3 g4 g5) ++ ((fk_wm cJ cI cZ am cd (nI n) lo (nI T.length) wd sg up dn of bey rnd tx pt sn) ++ ((oA, .inl (cJ, 1, .inr (.inl fo))) :: kt))) := hD
  rw [e2] at hP hD
  have hP : va_P D vwCl ((fk_wx cJ cC cK ad kd (nI n) lo ch (nI (40 - T.length)) g1 g2 g3 g4 g5) ++ ((fk_wm cJ cI cZ am cd (nI n) lo (nI T.length) wd sg up dn of bey rnd tx pt sn) ++ ((oA, .inl (cJ, 1, .inr (.inl fo))) :: kt))) H := hP
  have hD : va_D A ((fk_wx cJ cC cK ad kd (nI n) lo ch (nI (40 - T.length)) g1 g2 g3 g4 g5) ++ ((fk_wm cJ cI cZ am cd (nI n) lo (nI T.length) wd sg up dn of bey rnd tx pt sn) ++ ((oA, .inl (cJ, 1, .inr (.inl fo))) :: kt))) := hD
  refine lv_aload_n hx hb dL_law_648 rfl (lv_at hl 2 rfl) ?_
  refine lv_aload_n hx hb dL_law_649 rfl (lv_at hl 0 rfl) ?_
  refine lv_iload hx hb dL_law_650 (lv_at hl 4 rfl) ?_
  refine lv_iconst (v := 1) hx hb dL_law_652 (by decide) ?_
  refine lv_iadd hx hb dL_law_653 ?_
  refine lv_topi (fun x7 ex7 => ?_)
  have ex7q : x7 = (nI (i + 1)) := by
    rw [ex7]; exact nI_add i 1
  subst ex7q
  refine fk_sld hx hb hX hbl hbA hS hL (k := i + 1) (by omega) dL_law_654 ?_
  refine lv_aload_n hx hb dL_law_655 rfl (lv_at hl 0 rfl) ?_
  refine lv_iload hx hb dL_law_656 (lv_at hl 4 rfl) ?_
  refine lv_iconst (v := 2) hx hb dL_law_658 (by decide) ?_
  refine lv_iadd hx hb dL_law_659 ?_
  refine lv_topi (fun x8 ex8 => ?_)
  have ex8q : x8 = (nI (i + 2)) := by
    rw [ex8]; exact nI_add i 2
  subst ex8q
  refine fk_sld hx hb hX hbl hbA hS hL (k := i + 2) (by omega) dL_law_660 ?_
  refine lv_i2l hx hb dL_law_661 rfl ?_
  refine lv_bipush (v := 32) hx hb dL_law_662 (by decide) ?_
  refine lv_lshl hx hb dL_law_664 rfl ?_
  refine lv_aload_n hx hb dL_law_665 rfl (lv_at hl 0 rfl) ?_
  refine lv_iload hx hb dL_law_666 (lv_at hl 4 rfl) ?_
  refine lv_iconst (v := 3) hx hb dL_law_668 (by decide) ?_
  refine lv_iadd hx hb dL_law_669 ?_
  refine lv_topi (fun x9 ex9 => ?_)
  have ex9q : x9 = (nI (i + 3)) := by
    rw [ex9]; exact nI_add i 3
  subst ex9q
  refine fk_sld hx hb hX hbl hbA hS hL (k := i + 3) (by omega) dL_law_670 ?_
  refine lv_i2l hx hb dL_law_671 rfl ?_
  refine lv_ldc2 (v := 4294967295) hx hb hown k1 dL_law_672 ?_
  refine lv_land hx hb dL_law_675 ?_
  refine lv_lor hx hb dL_law_676 ?_
  refine lv_topl (fun x10 ex10 => ?_)
  have ex10q : x10 = fk_lg (xs (i + 2)) (xs (i + 3)) := by
    rw [ex10]; rfl
  subst ex10q
  refine lv_aload_n hx hb dL_law_677 rfl (lv_at hl 0 rfl) ?_
  refine lv_iload hx hb dL_law_678 (lv_at hl 4 rfl) ?_
  refine lv_iconst (v := 4) hx hb dL_law_680 (by decide) ?_
  refine lv_iadd hx hb dL_law_681 ?_
  refine lv_topi (fun x11 ex11 => ?_)
  have ex11q : x11 = (nI (i + 4)) := by
    rw [ex11]; exact nI_add i 4
  subst ex11q
  refine fk_sld hx hb hX hbl hbA hS hL (k := i + 4) (by omega) dL_law_682 ?_
  have hP : va_P D vwCl ((fk_wm cJ cI cZ am cd (nI n) lo (nI T.length) wd sg up dn of bey rnd tx pt sn) ++ (((oA, .inl (cJ, 1, .inr (.inl fo))) :: kt) ++ (fk_wx cJ cC cK ad kd (nI n) lo ch (nI (40 - T.length)) g1 g2 g3 g4 g5))) H := fk_swP hP
  have hD : va_D A ((fk_wm cJ cI cZ am cd (nI n) lo (nI T.length) wd sg up dn of bey rnd tx pt sn) ++ (((oA, .inl (cJ, 1, .inr (.inl fo))) :: kt) ++ (fk_wx cJ cC cK ad kd (nI n) lo ch (nI (40 - T.length)) g1 g2 g3 g4 g5))) := fk_swD hD
  refine fk_cl hD hS hA (va_runV (As := [.int (xs (i + 1)), .long (fk_lg (xs (i + 2)) (xs (i + 3))), .int (xs (i + 4))]) (rest := [.long r6]) ⟨hx, hb, hml, hown, hts⟩ (kX4_physical _ am (((oA, .inl (cJ, 1, .inr (.inl fo))) :: kt) ++ (fk_wx cJ cC cK ad kd (nI n) lo ch (nI (40 - T.length)) g1 g2 g3 g4 g5)) cd lo (nI T.length) wd sg up dn of bey rnd tx pt sn n kf (xs (i + 1)) (xs (i + 4)) (fk_lg (xs (i + 2)) (xs (i + 3))) hMT) (cwV 3 hts gL_law_X4_physical rfl rfl rfl (by decide +kernel) ⟨Nat.le_of_ble_eq_true rfl, Nat.le_of_ble_eq_true rfl⟩) (fk_preV 0 5 hK hN hP hD rfl rfl) rfl rfl hl.1 rfl (lv_room (Nat.le_of_ble_eq_true rfl)) dL_law_683 ⟨by show cells + 0 + 0 ≤ 604189; omega, by show slots + 0 + 0 ≤ 7283536; omega⟩) (fun r12 u2 H locs hwr12 hP hD hS => ?_)
  obtain ⟨l2, p2, s2⟩ := u2
  obtain ⟨e3, e4⟩ := hwr12
  have e4 : l2 = lo := e4
  have hP : va_P D vwCl ((fk_wm cJ cI cZ am 0 (nI n) l2 (nI T.length) wd sg up dn of bey rnd tx p2 s2) ++ (((oA, .inl (cJ, 1, .inr (.inl fo))) :: kt) ++ (fk_wx cJ cC cK ad kd (nI n) lo ch (nI (40 - T.length)) g1 g2 g3 g4 g5))) H := hP
  have hD : va_D A ((fk_wm cJ cI cZ am 0 (nI n) l2 (nI T.length) wd sg up dn of bey rnd tx p2 s2) ++ (((oA, .inl (cJ, 1, .inr (.inl fo))) :: kt) ++ (fk_wx cJ cC cK ad kd (nI n) lo ch (nI (40 - T.length)) g1 g2 g3 g4 g5))) := hD
  rw [e4] at hP hD
  have hP : va_P D vwCl ((fk_wx cJ cC cK ad kd (nI n) lo ch (nI (40 - T.length)) g1 g2 g3 g4 g5) ++ ((fk_wm cJ cI cZ am 0 (nI n) lo (nI T.length) wd sg up dn of bey rnd tx p2 s2) ++ ((oA, .inl (cJ, 1, .inr (.inl fo))) :: kt))) H := fk_swQ hP
  have hD : va_D A ((fk_wx cJ cC cK ad kd (nI n) lo ch (nI (40 - T.length)) g1 g2 g3 g4 g5) ++ ((fk_wm cJ cI cZ am 0 (nI n) lo (nI T.length) wd sg up dn of bey rnd tx p2 s2) ++ ((oA, .inl (cJ, 1, .inr (.inl fo))) :: kt))) := fk_swE hD
  refine W.lcmp hx hb dL_law_686 ?_
  refine lv_if_eq (tgt := 1132) hx hb dL_law_687 (by decide) (fun c_687 => ?_) (fun c_687 => False.elim ((by rw [lg_cmp_eq] at c_687; exact c_687 (Int64.toInt_inj.mp (by rw [e1, e3])))))
  refine W.widen (k := cells + 1) (n := slots + 7) (by omega) (by omega) ?_
  exact kk _ _ _ (fk_J.mk T hP hD hS hKL hMT hlo hT1 hT2 hT3) (lv_sub hl [0, 1, 2, 3, 4] rfl)
set_option maxHeartbeats 4000000 in
set_option maxRecDepth 100000 in
/-- bound -/
theorem lc_8 {p : Program} {l : Launch} {e : Env} {s : State} {m : MethodId} {below : List Frame} {meth : Method} {c : Code} {QQ : State → Prop} {H : Heap} {locs : List Loc} {ls : Array Slot} {D : va_G} {cJ cC cI cZ cK : ClassId} {ad am : Nat → Nat} {oA b L : Nat} {xs : Nat → Int32} {A : Nat → Prop} {i cells slots : Nat} (hC : fk_LC p l s m c D cJ cC cI cZ cK b L xs A) (hi : i + 9 ≤ L) (hJ : fk_J D cJ cC cI cZ cK ad am oA A s.heap H locs) (hl : lv_has ls 8 [(0, .ref b), (1, .ref (ad 0)), (2, .ref (am 0)), (3, .ref oA), (4, .int (nI i))]) (hc1 : cells + 1 ≤ 604189) (hs1 : slots + 7 ≤ 7283536) (kk : ∀ (H : Heap) (locs : List Loc) (ls : Array Slot), fk_J D cJ cC cI cZ cK ad am oA A s.heap H locs → lv_has ls 8 [(0, .ref b), (1, .ref (ad 0)), (2, .ref (am 0)), (3, .ref oA), (4, .int (nI i))] → W p l e room_1 s m #[Value.ref b] below meth c H locs (cells + 1) (slots + 7) QQ (F0 m 1132 ls [])) : W p l e room_1 s m #[Value.ref b] below meth c H locs cells slots QQ (F0 m 817 ls []) := by
  obtain ⟨hx, hb, hml, hown, htb, hX, hbl, hbA, hA, hK, hN, hXW, hlt, hL⟩ := hC
  have hts : ∀ w ∈ wsL_law, w.before #[Value.ref b] s = true := fun w h => htb w (wsL_law_in w h)
  obtain ⟨n, kf, ka, kt, kd, lo, cd, T, ch, f1, f2, f3, f4, f5, wd, sg, up, dn, of, bey, rnd, tx, pt, sn, fo, hP, hD, hS, hKL, hMT, hlo, hT1, hT2, hT3⟩ := hJ
  have hn40 := hKL.2.1
  have hKT := hKL.to (fk_wm cJ cI cZ am cd (nI n) lo (nI T.length) wd sg up dn of bey rnd tx pt sn) (oA, .inl (cJ, 1, .inr (.inl fo))) rfl
  have hP : va_P D vwCl ((fk_wx cJ cC cK ad kd (nI n) lo ch (nI (40 - T.length)) f1 f2 f3 f4 f5) ++ ((fk_wm cJ cI cZ am cd (nI n) lo (nI T.length) wd sg up dn of bey rnd tx pt sn) ++ ((oA, .inl (cJ, 1, .inr (.inl fo))) :: kt))) H := hP
  have hD : va_D A ((fk_wx cJ cC cK ad kd (nI n) lo ch (nI (40 - T.length)) f1 f2 f3 f4 f5) ++ ((fk_wm cJ cI cZ am cd (nI n) lo (nI T.length) wd sg up dn of bey rnd tx pt sn) ++ ((oA, .inl (cJ, 1, .inr (.inl fo))) :: kt))) := hD
  refine lv_aload_n hx hb dL_law_817 rfl (lv_at hl 1 rfl) ?_
  refine lv_aload_n hx hb dL_law_818 rfl (lv_at hl 0 rfl) ?_
  refine lv_iload hx hb dL_law_819 (lv_at hl 4 rfl) ?_
  refine lv_iconst (v := 1) hx hb dL_law_821 (by decide) ?_
  refine lv_iadd hx hb dL_law_822 ?_
  refine lv_topi (fun x1 ex1 => ?_)
  have ex1q : x1 = (nI (i + 1)) := by
    rw [ex1]; exact nI_add i 1
  subst ex1q
  refine fk_sld hx hb hX hbl hbA hS hL (k := i + 1) (by omega) dL_law_823 ?_
  refine lv_aload_n hx hb dL_law_824 rfl (lv_at hl 0 rfl) ?_
  refine lv_iload hx hb dL_law_825 (lv_at hl 4 rfl) ?_
  refine lv_iconst (v := 2) hx hb dL_law_827 (by decide) ?_
  refine lv_iadd hx hb dL_law_828 ?_
  refine lv_topi (fun x2 ex2 => ?_)
  have ex2q : x2 = (nI (i + 2)) := by
    rw [ex2]; exact nI_add i 2
  subst ex2q
  refine fk_sld hx hb hX hbl hbA hS hL (k := i + 2) (by omega) dL_law_829 ?_
  refine fk_cl hD hS hA (va_runV (As := [.int (xs (i + 1)), .int (xs (i + 2))]) (rest := []) ⟨hx, hb, hml, hown, hts⟩ (kX3_bound _ ad ((fk_wm cJ cI cZ am cd (nI n) lo (nI T.length) wd sg up dn of bey rnd tx pt sn) ++ ((oA, .inl (cJ, 1, .inr (.inl fo))) :: kt)) kd lo ch (nI (40 - T.length)) f1 f2 f3 f4 f5 n kf ka (fun j => j + 12) (xs (i + 1)) (xs (i + 2)) hKT) (cwV 2 hts gL_law_X3_bound rfl rfl rfl (by decide +kernel) ⟨Nat.le_of_ble_eq_true rfl, Nat.le_of_ble_eq_true rfl⟩) (fk_preV 0 4 hK hN hP hD rfl rfl) rfl rfl hl.1 rfl (lv_room (Nat.le_of_ble_eq_true rfl)) dL_law_830 ⟨by show cells + 0 ≤ 604189; omega, by show slots + 0 ≤ 7283536; omega⟩) (fun r3 u1 H locs hwr3 hP hD hS => ?_)
  have e1 := hwr3
  have hP : va_P D vwCl ((fk_wx cJ cC cK ad kd (nI n) lo ch (nI (40 - T.length)) f1 f2 f3 f4 f5) ++ ((fk_wm cJ cI cZ am cd (nI n) lo (nI T.length) wd sg up dn of bey rnd tx pt sn) ++ ((oA, .inl (cJ, 1, .inr (.inl fo))) :: kt))) H := hP
  have hD : va_D A ((fk_wx cJ cC cK ad kd (nI n) lo ch (nI (40 - T.length)) f1 f2 f3 f4 f5) ++ ((fk_wm cJ cI cZ am cd (nI n) lo (nI T.length) wd sg up dn of bey rnd tx pt sn) ++ ((oA, .inl (cJ, 1, .inr (.inl fo))) :: kt))) := hD
  refine lv_aload_n hx hb dL_law_833 rfl (lv_at hl 2 rfl) ?_
  refine lv_aload_n hx hb dL_law_834 rfl (lv_at hl 0 rfl) ?_
  refine lv_iload hx hb dL_law_835 (lv_at hl 4 rfl) ?_
  refine lv_iconst (v := 1) hx hb dL_law_837 (by decide) ?_
  refine lv_iadd hx hb dL_law_838 ?_
  refine lv_topi (fun x4 ex4 => ?_)
  have ex4q : x4 = (nI (i + 1)) := by
    rw [ex4]; exact nI_add i 1
  subst ex4q
  refine fk_sld hx hb hX hbl hbA hS hL (k := i + 1) (by omega) dL_law_839 ?_
  refine lv_aload_n hx hb dL_law_840 rfl (lv_at hl 0 rfl) ?_
  refine lv_iload hx hb dL_law_841 (lv_at hl 4 rfl) ?_
  refine lv_iconst (v := 2) hx hb dL_law_843 (by decide) ?_
  refine lv_iadd hx hb dL_law_844 ?_
  refine lv_topi (fun x5 ex5 => ?_)
  have ex5q : x5 = (nI (i + 2)) := by
    rw [ex5]; exact nI_add i 2
  subst ex5q
  refine fk_sld hx hb hX hbl hbA hS hL (k := i + 2) (by omega) dL_law_845 ?_
  have hP : va_P D vwCl ((fk_wm cJ cI cZ am cd (nI n) lo (nI T.length) wd sg up dn of bey rnd tx pt sn) ++ (((oA, .inl (cJ, 1, .inr (.inl fo))) :: kt) ++ (fk_wx cJ cC cK ad kd (nI n) lo ch (nI (40 - T.length)) f1 f2 f3 f4 f5))) H := fk_swP hP
  have hD : va_D A ((fk_wm cJ cI cZ am cd (nI n) lo (nI T.length) wd sg up dn of bey rnd tx pt sn) ++ (((oA, .inl (cJ, 1, .inr (.inl fo))) :: kt) ++ (fk_wx cJ cC cK ad kd (nI n) lo ch (nI (40 - T.length)) f1 f2 f3 f4 f5))) := fk_swD hD
  refine fk_cl hD hS hA (va_runV (As := [.int (xs (i + 1)), .int (xs (i + 2))]) (rest := [.long r3]) ⟨hx, hb, hml, hown, hts⟩ (kX4_bound _ am (((oA, .inl (cJ, 1, .inr (.inl fo))) :: kt) ++ (fk_wx cJ cC cK ad kd (nI n) lo ch (nI (40 - T.length)) f1 f2 f3 f4 f5)) cd lo (nI T.length) wd sg up dn of bey rnd tx pt sn n kf (xs (i + 1)) (xs (i + 2)) hMT) (cwV 2 hts gL_law_X4_bound rfl rfl rfl (by decide +kernel) ⟨Nat.le_of_ble_eq_true rfl, Nat.le_of_ble_eq_true rfl⟩) (fk_preV 0 5 hK hN hP hD rfl rfl) rfl rfl hl.1 rfl (lv_room (Nat.le_of_ble_eq_true rfl)) dL_law_846 ⟨by show cells + 0 + 0 ≤ 604189; omega, by show slots + 0 + 0 ≤ 7283536; omega⟩) (fun r6 u2 H locs hwr6 hP hD hS => ?_)
  have e3 := hwr6
  have hP : va_P D vwCl ((fk_wx cJ cC cK ad kd (nI n) lo ch (nI (40 - T.length)) f1 f2 f3 f4 f5) ++ ((fk_wm cJ cI cZ am 0 (nI n) lo (nI T.length) wd sg up dn of bey rnd tx pt sn) ++ ((oA, .inl (cJ, 1, .inr (.inl fo))) :: kt))) H := fk_swQ hP
  have hD : va_D A ((fk_wx cJ cC cK ad kd (nI n) lo ch (nI (40 - T.length)) f1 f2 f3 f4 f5) ++ ((fk_wm cJ cI cZ am 0 (nI n) lo (nI T.length) wd sg up dn of bey rnd tx pt sn) ++ ((oA, .inl (cJ, 1, .inr (.inl fo))) :: kt))) := fk_swE hD
  refine W.lcmp hx hb dL_law_849 ?_
  refine lv_if_eq (tgt := 1132) hx hb dL_law_850 (by decide) (fun c_850 => ?_) (fun c_850 => False.elim ((by rw [lg_cmp_eq] at c_850; exact c_850 (Int64.toInt_inj.mp (by rw [e1, e3])))))
  refine W.widen (k := cells + 1) (n := slots + 7) (by omega) (by omega) ?_
  exact kk _ _ _ (fk_J.mk T hP hD hS hKL hMT hlo hT1 hT2 hT3) (lv_sub hl [0, 1, 2, 3, 4] rfl)
set_option maxHeartbeats 4000000 in
set_option maxRecDepth 100000 in
/-- compare -/
theorem lc_9 {p : Program} {l : Launch} {e : Env} {s : State} {m : MethodId} {below : List Frame} {meth : Method} {c : Code} {QQ : State → Prop} {H : Heap} {locs : List Loc} {ls : Array Slot} {D : va_G} {cJ cC cI cZ cK : ClassId} {ad am : Nat → Nat} {oA b L : Nat} {xs : Nat → Int32} {A : Nat → Prop} {i cells slots : Nat} (hC : fk_LC p l s m c D cJ cC cI cZ cK b L xs A) (hi : i + 9 ≤ L) (hJ : fk_J D cJ cC cI cZ cK ad am oA A s.heap H locs) (hl : lv_has ls 8 [(0, .ref b), (1, .ref (ad 0)), (2, .ref (am 0)), (3, .ref oA), (4, .int (nI i))]) (hc1 : cells + 1 ≤ 604189) (hs1 : slots + 7 ≤ 7283536) (kk : ∀ (H : Heap) (locs : List Loc) (ls : Array Slot), fk_J D cJ cC cI cZ cK ad am oA A s.heap H locs → lv_has ls 8 [(0, .ref b), (1, .ref (ad 0)), (2, .ref (am 0)), (3, .ref oA), (4, .int (nI i))] → W p l e room_1 s m #[Value.ref b] below meth c H locs (cells + 1) (slots + 7) QQ (F0 m 1132 ls [])) : W p l e room_1 s m #[Value.ref b] below meth c H locs cells slots QQ (F0 m 855 ls []) := by
  obtain ⟨hx, hb, hml, hown, htb, hX, hbl, hbA, hA, hK, hN, hXW, hlt, hL⟩ := hC
  have hts : ∀ w ∈ wsL_law, w.before #[Value.ref b] s = true := fun w h => htb w (wsL_law_in w h)
  obtain ⟨n, kf, ka, kt, kd, lo, cd, T, ch, f1, f2, f3, f4, f5, wd, sg, up, dn, of, bey, rnd, tx, pt, sn, fo, hP, hD, hS, hKL, hMT, hlo, hT1, hT2, hT3⟩ := hJ
  have hn40 := hKL.2.1
  have hKT := hKL.to (fk_wm cJ cI cZ am cd (nI n) lo (nI T.length) wd sg up dn of bey rnd tx pt sn) (oA, .inl (cJ, 1, .inr (.inl fo))) rfl
  have hP : va_P D vwCl ((fk_wx cJ cC cK ad kd (nI n) lo ch (nI (40 - T.length)) f1 f2 f3 f4 f5) ++ ((fk_wm cJ cI cZ am cd (nI n) lo (nI T.length) wd sg up dn of bey rnd tx pt sn) ++ ((oA, .inl (cJ, 1, .inr (.inl fo))) :: kt))) H := hP
  have hD : va_D A ((fk_wx cJ cC cK ad kd (nI n) lo ch (nI (40 - T.length)) f1 f2 f3 f4 f5) ++ ((fk_wm cJ cI cZ am cd (nI n) lo (nI T.length) wd sg up dn of bey rnd tx pt sn) ++ ((oA, .inl (cJ, 1, .inr (.inl fo))) :: kt))) := hD
  have k1 := hts (.constantLong RL 25 4294967295) (by decide +kernel)
  refine lv_aload_n hx hb dL_law_855 rfl (lv_at hl 1 rfl) ?_
  refine lv_aload_n hx hb dL_law_856 rfl (lv_at hl 0 rfl) ?_
  refine lv_iload hx hb dL_law_857 (lv_at hl 4 rfl) ?_
  refine lv_iconst (v := 1) hx hb dL_law_859 (by decide) ?_
  refine lv_iadd hx hb dL_law_860 ?_
  refine lv_topi (fun x1 ex1 => ?_)
  have ex1q : x1 = (nI (i + 1)) := by
    rw [ex1]; exact nI_add i 1
  subst ex1q
  refine fk_sld hx hb hX hbl hbA hS hL (k := i + 1) (by omega) dL_law_861 ?_
  refine lv_aload_n hx hb dL_law_862 rfl (lv_at hl 0 rfl) ?_
  refine lv_iload hx hb dL_law_863 (lv_at hl 4 rfl) ?_
  refine lv_iconst (v := 2) hx hb dL_law_865 (by decide) ?_
  refine lv_iadd hx hb dL_law_866 ?_
  refine lv_topi (fun x2 ex2 => ?_)
  have ex2q : x2 = (nI (i + 2)) := by
    rw [ex2]; exact nI_add i 2
  subst ex2q
  refine fk_sld hx hb hX hbl hbA hS hL (k := i + 2) (by omega) dL_law_867 ?_
  refine lv_i2l hx hb dL_law_868 rfl ?_
  refine lv_bipush (v := 32) hx hb dL_law_869 (by decide) ?_
  refine lv_lshl hx hb dL_law_871 rfl ?_
  refine lv_aload_n hx hb dL_law_872 rfl (lv_at hl 0 rfl) ?_
  refine lv_iload hx hb dL_law_873 (lv_at hl 4 rfl) ?_
  refine lv_iconst (v := 3) hx hb dL_law_875 (by decide) ?_
  refine lv_iadd hx hb dL_law_876 ?_
  refine lv_topi (fun x3 ex3 => ?_)
  have ex3q : x3 = (nI (i + 3)) := by
    rw [ex3]; exact nI_add i 3
  subst ex3q
  refine fk_sld hx hb hX hbl hbA hS hL (k := i + 3) (by omega) dL_law_877 ?_
  refine lv_i2l hx hb dL_law_878 rfl ?_
  refine lv_ldc2 (v := 4294967295) hx hb hown k1 dL_law_879 ?_
  refine lv_land hx hb dL_law_882 ?_
  refine lv_lor hx hb dL_law_883 ?_
  refine lv_topl (fun x4 ex4 => ?_)
  have ex4q : x4 = fk_lg (xs (i + 2)) (xs (i + 3)) := by
    rw [ex4]; rfl
  subst ex4q
  refine lv_aload_n hx hb dL_law_884 rfl (lv_at hl 0 rfl) ?_
  refine lv_iload hx hb dL_law_885 (lv_at hl 4 rfl) ?_
  refine lv_iconst (v := 4) hx hb dL_law_887 (by decide) ?_
  refine lv_iadd hx hb dL_law_888 ?_
  refine lv_topi (fun x5 ex5 => ?_)
  have ex5q : x5 = (nI (i + 4)) := by
    rw [ex5]; exact nI_add i 4
  subst ex5q
  refine fk_sld hx hb hX hbl hbA hS hL (k := i + 4) (by omega) dL_law_889 ?_
  refine lv_aload_n hx hb dL_law_890 rfl (lv_at hl 0 rfl) ?_
  refine lv_iload hx hb dL_law_891 (lv_at hl 4 rfl) ?_
  refine lv_iconst (v := 5) hx hb dL_law_893 (by decide) ?_
  refine lv_iadd hx hb dL_law_894 ?_
  refine lv_topi (fun x6 ex6 => ?_)
  have ex6q : x6 = (nI (i + 5)) := by
    rw [ex6]; exact nI_add i 5
  subst ex6q
  refine fk_sld hx hb hX hbl hbA hS hL (k := i + 5) (by omega) dL_law_895 ?_
  refine lv_i2l hx hb dL_law_896 rfl ?_
  refine lv_bipush (v := 32) hx hb dL_law_897 (by decide) ?_
  refine lv_lshl hx hb dL_law_899 rfl ?_
  refine lv_aload_n hx hb dL_law_900 rfl (lv_at hl 0 rfl) ?_
  refine lv_iload hx hb dL_law_901 (lv_at hl 4 rfl) ?_
  refine lv_bipush (v := 6) hx hb dL_law_903 (by decide) ?_
  refine lv_iadd hx hb dL_law_905 ?_
  refine lv_topi (fun x7 ex7 => ?_)
  have ex7q : x7 = (nI (i + 6)) := by
    rw [ex7]; exact nI_add i 6
  subst ex7q
  refine fk_sld hx hb hX hbl hbA hS hL (k := i + 6) (by omega) dL_law_906 ?_
  refine lv_i2l hx hb dL_law_907 rfl ?_
  refine lv_ldc2 (v := 4294967295) hx hb hown k1 dL_law_908 ?_
  refine lv_land hx hb dL_law_911 ?_
  refine lv_lor hx hb dL_law_912 ?_
  refine lv_topl (fun x8 ex8 => ?_)
  have ex8q : x8 = fk_lg (xs (i + 5)) (xs (i + 6)) := by
    rw [ex8]; rfl
  subst ex8q
  refine fk_ci hD hS hA (va_runV (As := [.int (xs (i + 1)), .long (fk_lg (xs (i + 2)) (xs (i + 3))), .int (xs (i + 4)), .long (fk_lg (xs (i + 5)) (xs (i + 6)))]) (rest := []) ⟨hx, hb, hml, hown, hts⟩ (kX3_compare _ ad ((fk_wm cJ cI cZ am cd (nI n) lo (nI T.length) wd sg up dn of bey rnd tx pt sn) ++ ((oA, .inl (cJ, 1, .inr (.inl fo))) :: kt)) kd lo ch (nI (40 - T.length)) f1 f2 f3 f4 f5 n kf ka (fun j => j + 12) (xs (i + 1)) (xs (i + 4)) (fk_lg (xs (i + 2)) (xs (i + 3))) (fk_lg (xs (i + 5)) (xs (i + 6))) hKT) (cwV 4 hts gL_law_X3_compare rfl rfl rfl (by decide +kernel) ⟨Nat.le_of_ble_eq_true rfl, Nat.le_of_ble_eq_true rfl⟩) (fk_preV 0 4 hK hN hP hD rfl rfl) rfl rfl hl.1 rfl (lv_room (Nat.le_of_ble_eq_true rfl)) dL_law_913 ⟨by show cells + 0 ≤ 604189; omega, by show slots + 0 ≤ 7283536; omega⟩) (fun r9 u1 H locs hwr9 hP hD hS => ?_)
  obtain ⟨l1, g1, g2, g3, g4, g5⟩ := u1
  obtain ⟨e1, e2⟩ := hwr9
  have e2 : l1 = lo := e2
  have hP : va_P D vwCl ((fk_wx cJ cC cK ad kd (nI n) l1 ch (nI (40 - T.length)) g1 g2 g3 g4 g5) ++ ((fk_wm cJ cI cZ am cd (nI n) lo (nI T.length) wd sg up dn of bey rnd tx pt sn) ++ ((oA, .inl (cJ, 1, .inr (.inl fo))) :: kt))) H := hP
  have hD : va_D A ((fk_wx cJ cC cK ad kd (nI n) l1 ch (nI (40 - T.length)) g1 g2 g3 g4 g5) ++ ((fk_wm cJ cI cZ am cd (nI n) lo (nI T.length) wd sg up dn of bey rnd tx pt sn) ++ ((oA, .inl (cJ, 1, .inr (.inl fo))) :: kt))) := hD
  rw [e2] at hP hD
  have hP : va_P D vwCl ((fk_wx cJ cC cK ad kd (nI n) lo ch (nI (40 - T.length)) g1 g2 g3 g4 g5) ++ ((fk_wm cJ cI cZ am cd (nI n) lo (nI T.length) wd sg up dn of bey rnd tx pt sn) ++ ((oA, .inl (cJ, 1, .inr (.inl fo))) :: kt))) H := hP
  have hD : va_D A ((fk_wx cJ cC cK ad kd (nI n) lo ch (nI (40 - T.length)) g1 g2 g3 g4 g5) ++ ((fk_wm cJ cI cZ am cd (nI n) lo (nI T.length) wd sg up dn of bey rnd tx pt sn) ++ ((oA, .inl (cJ, 1, .inr (.inl fo))) :: kt))) := hD
  refine lv_aload_n hx hb dL_law_916 rfl (lv_at hl 2 rfl) ?_
  refine lv_aload_n hx hb dL_law_917 rfl (lv_at hl 0 rfl) ?_
  refine lv_iload hx hb dL_law_918 (lv_at hl 4 rfl) ?_
  refine lv_iconst (v := 1) hx hb dL_law_920 (by decide) ?_
  refine lv_iadd hx hb dL_law_921 ?_
  refine lv_topi (fun x10 ex10 => ?_)
  have ex10q : x10 = (nI (i + 1)) := by
    rw [ex10]; exact nI_add i 1
  subst ex10q
  refine fk_sld hx hb hX hbl hbA hS hL (k := i + 1) (by omega) dL_law_922 ?_
  refine lv_aload_n hx hb dL_law_923 rfl (lv_at hl 0 rfl) ?_
  refine lv_iload hx hb dL_law_924 (lv_at hl 4 rfl) ?_
  refine lv_iconst (v := 2) hx hb dL_law_926 (by decide) ?_
  refine lv_iadd hx hb dL_law_927 ?_
  refine lv_topi (fun x11 ex11 => ?_)
  have ex11q : x11 = (nI (i + 2)) := by
    rw [ex11]; exact nI_add i 2
  subst ex11q
  refine fk_sld hx hb hX hbl hbA hS hL (k := i + 2) (by omega) dL_law_928 ?_
  refine lv_i2l hx hb dL_law_929 rfl ?_
  refine lv_bipush (v := 32) hx hb dL_law_930 (by decide) ?_
  refine lv_lshl hx hb dL_law_932 rfl ?_
  refine lv_aload_n hx hb dL_law_933 rfl (lv_at hl 0 rfl) ?_
  refine lv_iload hx hb dL_law_934 (lv_at hl 4 rfl) ?_
  refine lv_iconst (v := 3) hx hb dL_law_936 (by decide) ?_
  refine lv_iadd hx hb dL_law_937 ?_
  refine lv_topi (fun x12 ex12 => ?_)
  have ex12q : x12 = (nI (i + 3)) := by
    rw [ex12]; exact nI_add i 3
  subst ex12q
  refine fk_sld hx hb hX hbl hbA hS hL (k := i + 3) (by omega) dL_law_938 ?_
  refine lv_i2l hx hb dL_law_939 rfl ?_
  refine lv_ldc2 (v := 4294967295) hx hb hown k1 dL_law_940 ?_
  refine lv_land hx hb dL_law_943 ?_
  refine lv_lor hx hb dL_law_944 ?_
  refine lv_topl (fun x13 ex13 => ?_)
  have ex13q : x13 = fk_lg (xs (i + 2)) (xs (i + 3)) := by
    rw [ex13]; rfl
  subst ex13q
  refine lv_aload_n hx hb dL_law_945 rfl (lv_at hl 0 rfl) ?_
  refine lv_iload hx hb dL_law_946 (lv_at hl 4 rfl) ?_
  refine lv_iconst (v := 4) hx hb dL_law_948 (by decide) ?_
  refine lv_iadd hx hb dL_law_949 ?_
  refine lv_topi (fun x14 ex14 => ?_)
  have ex14q : x14 = (nI (i + 4)) := by
    rw [ex14]; exact nI_add i 4
  subst ex14q
  refine fk_sld hx hb hX hbl hbA hS hL (k := i + 4) (by omega) dL_law_950 ?_
  refine lv_aload_n hx hb dL_law_951 rfl (lv_at hl 0 rfl) ?_
  refine lv_iload hx hb dL_law_952 (lv_at hl 4 rfl) ?_
  refine lv_iconst (v := 5) hx hb dL_law_954 (by decide) ?_
  refine lv_iadd hx hb dL_law_955 ?_
  refine lv_topi (fun x15 ex15 => ?_)
  have ex15q : x15 = (nI (i + 5)) := by
    rw [ex15]; exact nI_add i 5
  subst ex15q
  refine fk_sld hx hb hX hbl hbA hS hL (k := i + 5) (by omega) dL_law_956 ?_
  refine lv_i2l hx hb dL_law_957 rfl ?_
  refine lv_bipush (v := 32) hx hb dL_law_958 (by decide) ?_
  refine lv_lshl hx hb dL_law_960 rfl ?_
  refine lv_aload_n hx hb dL_law_961 rfl (lv_at hl 0 rfl) ?_
  refine lv_iload hx hb dL_law_962 (lv_at hl 4 rfl) ?_
  refine lv_bipush (v := 6) hx hb dL_law_964 (by decide) ?_
  refine lv_iadd hx hb dL_law_966 ?_
  refine lv_topi (fun x16 ex16 => ?_)
  have ex16q : x16 = (nI (i + 6)) := by
    rw [ex16]; exact nI_add i 6
  subst ex16q
  refine fk_sld hx hb hX hbl hbA hS hL (k := i + 6) (by omega) dL_law_967 ?_
  refine lv_i2l hx hb dL_law_968 rfl ?_
  refine lv_ldc2 (v := 4294967295) hx hb hown k1 dL_law_969 ?_
  refine lv_land hx hb dL_law_972 ?_
  refine lv_lor hx hb dL_law_973 ?_
  refine lv_topl (fun x17 ex17 => ?_)
  have ex17q : x17 = fk_lg (xs (i + 5)) (xs (i + 6)) := by
    rw [ex17]; rfl
  subst ex17q
  have hP : va_P D vwCl ((fk_wm cJ cI cZ am cd (nI n) lo (nI T.length) wd sg up dn of bey rnd tx pt sn) ++ (((oA, .inl (cJ, 1, .inr (.inl fo))) :: kt) ++ (fk_wx cJ cC cK ad kd (nI n) lo ch (nI (40 - T.length)) g1 g2 g3 g4 g5))) H := fk_swP hP
  have hD : va_D A ((fk_wm cJ cI cZ am cd (nI n) lo (nI T.length) wd sg up dn of bey rnd tx pt sn) ++ (((oA, .inl (cJ, 1, .inr (.inl fo))) :: kt) ++ (fk_wx cJ cC cK ad kd (nI n) lo ch (nI (40 - T.length)) g1 g2 g3 g4 g5))) := fk_swD hD
  refine fk_ci hD hS hA (va_runV (As := [.int (xs (i + 1)), .long (fk_lg (xs (i + 2)) (xs (i + 3))), .int (xs (i + 4)), .long (fk_lg (xs (i + 5)) (xs (i + 6)))]) (rest := [.int r9]) ⟨hx, hb, hml, hown, hts⟩ (kX4_compare _ am (((oA, .inl (cJ, 1, .inr (.inl fo))) :: kt) ++ (fk_wx cJ cC cK ad kd (nI n) lo ch (nI (40 - T.length)) g1 g2 g3 g4 g5)) cd lo (nI T.length) wd sg up dn of bey rnd tx pt sn n kf (xs (i + 1)) (xs (i + 4)) (fk_lg (xs (i + 2)) (xs (i + 3))) (fk_lg (xs (i + 5)) (xs (i + 6))) hMT) (cwV 4 hts gL_law_X4_compare rfl rfl rfl (by decide +kernel) ⟨Nat.le_of_ble_eq_true rfl, Nat.le_of_ble_eq_true rfl⟩) (fk_preV 0 5 hK hN hP hD rfl rfl) rfl rfl hl.1 rfl (lv_room (Nat.le_of_ble_eq_true rfl)) dL_law_974 ⟨by show cells + 0 + 0 ≤ 604189; omega, by show slots + 0 + 0 ≤ 7283536; omega⟩) (fun r18 u2 H locs hwr18 hP hD hS => ?_)
  obtain ⟨l2, p2, s2⟩ := u2
  obtain ⟨e3, e4⟩ := hwr18
  have e4 : l2 = lo := e4
  have hP : va_P D vwCl ((fk_wm cJ cI cZ am 0 (nI n) l2 (nI T.length) wd sg up dn of bey rnd tx p2 s2) ++ (((oA, .inl (cJ, 1, .inr (.inl fo))) :: kt) ++ (fk_wx cJ cC cK ad kd (nI n) lo ch (nI (40 - T.length)) g1 g2 g3 g4 g5))) H := hP
  have hD : va_D A ((fk_wm cJ cI cZ am 0 (nI n) l2 (nI T.length) wd sg up dn of bey rnd tx p2 s2) ++ (((oA, .inl (cJ, 1, .inr (.inl fo))) :: kt) ++ (fk_wx cJ cC cK ad kd (nI n) lo ch (nI (40 - T.length)) g1 g2 g3 g4 g5))) := hD
  rw [e4] at hP hD
  have hP : va_P D vwCl ((fk_wx cJ cC cK ad kd (nI n) lo ch (nI (40 - T.length)) g1 g2 g3 g4 g5) ++ ((fk_wm cJ cI cZ am 0 (nI n) lo (nI T.length) wd sg up dn of bey rnd tx p2 s2) ++ ((oA, .inl (cJ, 1, .inr (.inl fo))) :: kt))) H := fk_swQ hP
  have hD : va_D A ((fk_wx cJ cC cK ad kd (nI n) lo ch (nI (40 - T.length)) g1 g2 g3 g4 g5) ++ ((fk_wm cJ cI cZ am 0 (nI n) lo (nI T.length) wd sg up dn of bey rnd tx p2 s2) ++ ((oA, .inl (cJ, 1, .inr (.inl fo))) :: kt))) := fk_swE hD
  refine lv_icmp_eq (tgt := 1132) hx hb dL_law_977 (by decide) (fun c_977 => ?_) (fun c_977 => False.elim (c_977 (by rw [e1, e3])))
  refine W.widen (k := cells + 1) (n := slots + 7) (by omega) (by omega) ?_
  exact kk _ _ _ (fk_J.mk T hP hD hS hKL hMT hlo hT1 hT2 hT3) (lv_sub hl [0, 1, 2, 3, 4] rfl)
set_option maxHeartbeats 4000000 in
set_option maxRecDepth 100000 in
/-- octet -/
theorem lc_10 {p : Program} {l : Launch} {e : Env} {s : State} {m : MethodId} {below : List Frame} {meth : Method} {c : Code} {QQ : State → Prop} {H : Heap} {locs : List Loc} {ls : Array Slot} {D : va_G} {cJ cC cI cZ cK : ClassId} {ad am : Nat → Nat} {oA b L : Nat} {xs : Nat → Int32} {A : Nat → Prop} {i cells slots : Nat} (hC : fk_LC p l s m c D cJ cC cI cZ cK b L xs A) (hi : i + 9 ≤ L) (hJ : fk_J D cJ cC cI cZ cK ad am oA A s.heap H locs) (hl : lv_has ls 8 [(0, .ref b), (1, .ref (ad 0)), (2, .ref (am 0)), (3, .ref oA), (4, .int (nI i))]) (hc1 : cells + 1 ≤ 604189) (hs1 : slots + 7 ≤ 7283536) (kk : ∀ (H : Heap) (locs : List Loc) (ls : Array Slot), fk_J D cJ cC cI cZ cK ad am oA A s.heap H locs → lv_has ls 8 [(0, .ref b), (1, .ref (ad 0)), (2, .ref (am 0)), (3, .ref oA), (4, .int (nI i))] → W p l e room_1 s m #[Value.ref b] below meth c H locs (cells + 1) (slots + 7) QQ (F0 m 1132 ls [])) : W p l e room_1 s m #[Value.ref b] below meth c H locs cells slots QQ (F0 m 982 ls []) := by
  obtain ⟨hx, hb, hml, hown, htb, hX, hbl, hbA, hA, hK, hN, hXW, hlt, hL⟩ := hC
  have hts : ∀ w ∈ wsL_law, w.before #[Value.ref b] s = true := fun w h => htb w (wsL_law_in w h)
  obtain ⟨n, kf, ka, kt, kd, lo, cd, T, ch, f1, f2, f3, f4, f5, wd, sg, up, dn, of, bey, rnd, tx, pt, sn, fo, hP, hD, hS, hKL, hMT, hlo, hT1, hT2, hT3⟩ := hJ
  have hn40 := hKL.2.1
  have hKT := hKL.to (fk_wm cJ cI cZ am cd (nI n) lo (nI T.length) wd sg up dn of bey rnd tx pt sn) (oA, .inl (cJ, 1, .inr (.inl fo))) rfl
  have hP : va_P D vwCl ((fk_wx cJ cC cK ad kd (nI n) lo ch (nI (40 - T.length)) f1 f2 f3 f4 f5) ++ ((fk_wm cJ cI cZ am cd (nI n) lo (nI T.length) wd sg up dn of bey rnd tx pt sn) ++ ((oA, .inl (cJ, 1, .inr (.inl fo))) :: kt))) H := hP
  have hD : va_D A ((fk_wx cJ cC cK ad kd (nI n) lo ch (nI (40 - T.length)) f1 f2 f3 f4 f5) ++ ((fk_wm cJ cI cZ am cd (nI n) lo (nI T.length) wd sg up dn of bey rnd tx pt sn) ++ ((oA, .inl (cJ, 1, .inr (.inl fo))) :: kt))) := hD
  have k1 := hts (.constantLong RL 25 4294967295) (by decide +kernel)
  refine lv_aload_n hx hb dL_law_982 rfl (lv_at hl 1 rfl) ?_
  refine lv_aload_n hx hb dL_law_983 rfl (lv_at hl 0 rfl) ?_
  refine lv_iload hx hb dL_law_984 (lv_at hl 4 rfl) ?_
  refine lv_iconst (v := 1) hx hb dL_law_986 (by decide) ?_
  refine lv_iadd hx hb dL_law_987 ?_
  refine lv_topi (fun x1 ex1 => ?_)
  have ex1q : x1 = (nI (i + 1)) := by
    rw [ex1]; exact nI_add i 1
  subst ex1q
  refine fk_sld hx hb hX hbl hbA hS hL (k := i + 1) (by omega) dL_law_988 ?_
  refine lv_aload_n hx hb dL_law_989 rfl (lv_at hl 0 rfl) ?_
  refine lv_iload hx hb dL_law_990 (lv_at hl 4 rfl) ?_
  refine lv_iconst (v := 2) hx hb dL_law_992 (by decide) ?_
  refine lv_iadd hx hb dL_law_993 ?_
  refine lv_topi (fun x2 ex2 => ?_)
  have ex2q : x2 = (nI (i + 2)) := by
    rw [ex2]; exact nI_add i 2
  subst ex2q
  refine fk_sld hx hb hX hbl hbA hS hL (k := i + 2) (by omega) dL_law_994 ?_
  refine lv_i2l hx hb dL_law_995 rfl ?_
  refine lv_bipush (v := 32) hx hb dL_law_996 (by decide) ?_
  refine lv_lshl hx hb dL_law_998 rfl ?_
  refine lv_aload_n hx hb dL_law_999 rfl (lv_at hl 0 rfl) ?_
  refine lv_iload hx hb dL_law_1000 (lv_at hl 4 rfl) ?_
  refine lv_iconst (v := 3) hx hb dL_law_1002 (by decide) ?_
  refine lv_iadd hx hb dL_law_1003 ?_
  refine lv_topi (fun x3 ex3 => ?_)
  have ex3q : x3 = (nI (i + 3)) := by
    rw [ex3]; exact nI_add i 3
  subst ex3q
  refine fk_sld hx hb hX hbl hbA hS hL (k := i + 3) (by omega) dL_law_1004 ?_
  refine lv_i2l hx hb dL_law_1005 rfl ?_
  refine lv_ldc2 (v := 4294967295) hx hb hown k1 dL_law_1006 ?_
  refine lv_land hx hb dL_law_1009 ?_
  refine lv_lor hx hb dL_law_1010 ?_
  refine lv_topl (fun x4 ex4 => ?_)
  have ex4q : x4 = fk_lg (xs (i + 2)) (xs (i + 3)) := by
    rw [ex4]; rfl
  subst ex4q
  refine lv_aload_n hx hb dL_law_1011 rfl (lv_at hl 0 rfl) ?_
  refine lv_iload hx hb dL_law_1012 (lv_at hl 4 rfl) ?_
  refine lv_iconst (v := 4) hx hb dL_law_1014 (by decide) ?_
  refine lv_iadd hx hb dL_law_1015 ?_
  refine lv_topi (fun x5 ex5 => ?_)
  have ex5q : x5 = (nI (i + 4)) := by
    rw [ex5]; exact nI_add i 4
  subst ex5q
  refine fk_sld hx hb hX hbl hbA hS hL (k := i + 4) (by omega) dL_law_1016 ?_
  refine fk_ci hD hS hA (va_runV (As := [.int (xs (i + 1)), .long (fk_lg (xs (i + 2)) (xs (i + 3))), .int (xs (i + 4))]) (rest := []) ⟨hx, hb, hml, hown, hts⟩ (kX3_octet _ ad ((fk_wm cJ cI cZ am cd (nI n) lo (nI T.length) wd sg up dn of bey rnd tx pt sn) ++ ((oA, .inl (cJ, 1, .inr (.inl fo))) :: kt)) kd lo ch (nI (40 - T.length)) f1 f2 f3 f4 f5 n kf ka (fun j => j + 12) (xs (i + 1)) (xs (i + 4)) (fk_lg (xs (i + 2)) (xs (i + 3))) hKT) (cwV 3 hts gL_law_X3_octet rfl rfl rfl (by decide +kernel) ⟨Nat.le_of_ble_eq_true rfl, Nat.le_of_ble_eq_true rfl⟩) (fk_preV 0 4 hK hN hP hD rfl rfl) rfl rfl hl.1 rfl (lv_room (Nat.le_of_ble_eq_true rfl)) dL_law_1017 ⟨by show cells + 0 ≤ 604189; omega, by show slots + 0 ≤ 7283536; omega⟩) (fun r6 u1 H locs hwr6 hP hD hS => ?_)
  have e1 := hwr6
  have hP : va_P D vwCl ((fk_wx cJ cC cK ad kd (nI n) lo ch (nI (40 - T.length)) f1 f2 f3 f4 f5) ++ ((fk_wm cJ cI cZ am cd (nI n) lo (nI T.length) wd sg up dn of bey rnd tx pt sn) ++ ((oA, .inl (cJ, 1, .inr (.inl fo))) :: kt))) H := hP
  have hD : va_D A ((fk_wx cJ cC cK ad kd (nI n) lo ch (nI (40 - T.length)) f1 f2 f3 f4 f5) ++ ((fk_wm cJ cI cZ am cd (nI n) lo (nI T.length) wd sg up dn of bey rnd tx pt sn) ++ ((oA, .inl (cJ, 1, .inr (.inl fo))) :: kt))) := hD
  refine lv_aload_n hx hb dL_law_1020 rfl (lv_at hl 2 rfl) ?_
  refine lv_aload_n hx hb dL_law_1021 rfl (lv_at hl 0 rfl) ?_
  refine lv_iload hx hb dL_law_1022 (lv_at hl 4 rfl) ?_
  refine lv_iconst (v := 1) hx hb dL_law_1024 (by decide) ?_
  refine lv_iadd hx hb dL_law_1025 ?_
  refine lv_topi (fun x7 ex7 => ?_)
  have ex7q : x7 = (nI (i + 1)) := by
    rw [ex7]; exact nI_add i 1
  subst ex7q
  refine fk_sld hx hb hX hbl hbA hS hL (k := i + 1) (by omega) dL_law_1026 ?_
  refine lv_aload_n hx hb dL_law_1027 rfl (lv_at hl 0 rfl) ?_
  refine lv_iload hx hb dL_law_1028 (lv_at hl 4 rfl) ?_
  refine lv_iconst (v := 2) hx hb dL_law_1030 (by decide) ?_
  refine lv_iadd hx hb dL_law_1031 ?_
  refine lv_topi (fun x8 ex8 => ?_)
  have ex8q : x8 = (nI (i + 2)) := by
    rw [ex8]; exact nI_add i 2
  subst ex8q
  refine fk_sld hx hb hX hbl hbA hS hL (k := i + 2) (by omega) dL_law_1032 ?_
  refine lv_i2l hx hb dL_law_1033 rfl ?_
  refine lv_bipush (v := 32) hx hb dL_law_1034 (by decide) ?_
  refine lv_lshl hx hb dL_law_1036 rfl ?_
  refine lv_aload_n hx hb dL_law_1037 rfl (lv_at hl 0 rfl) ?_
  refine lv_iload hx hb dL_law_1038 (lv_at hl 4 rfl) ?_
  refine lv_iconst (v := 3) hx hb dL_law_1040 (by decide) ?_
  refine lv_iadd hx hb dL_law_1041 ?_
  refine lv_topi (fun x9 ex9 => ?_)
  have ex9q : x9 = (nI (i + 3)) := by
    rw [ex9]; exact nI_add i 3
  subst ex9q
  refine fk_sld hx hb hX hbl hbA hS hL (k := i + 3) (by omega) dL_law_1042 ?_
  refine lv_i2l hx hb dL_law_1043 rfl ?_
  refine lv_ldc2 (v := 4294967295) hx hb hown k1 dL_law_1044 ?_
  refine lv_land hx hb dL_law_1047 ?_
  refine lv_lor hx hb dL_law_1048 ?_
  refine lv_topl (fun x10 ex10 => ?_)
  have ex10q : x10 = fk_lg (xs (i + 2)) (xs (i + 3)) := by
    rw [ex10]; rfl
  subst ex10q
  refine lv_aload_n hx hb dL_law_1049 rfl (lv_at hl 0 rfl) ?_
  refine lv_iload hx hb dL_law_1050 (lv_at hl 4 rfl) ?_
  refine lv_iconst (v := 4) hx hb dL_law_1052 (by decide) ?_
  refine lv_iadd hx hb dL_law_1053 ?_
  refine lv_topi (fun x11 ex11 => ?_)
  have ex11q : x11 = (nI (i + 4)) := by
    rw [ex11]; exact nI_add i 4
  subst ex11q
  refine fk_sld hx hb hX hbl hbA hS hL (k := i + 4) (by omega) dL_law_1054 ?_
  have hP : va_P D vwCl ((fk_wm cJ cI cZ am cd (nI n) lo (nI T.length) wd sg up dn of bey rnd tx pt sn) ++ (((oA, .inl (cJ, 1, .inr (.inl fo))) :: kt) ++ (fk_wx cJ cC cK ad kd (nI n) lo ch (nI (40 - T.length)) f1 f2 f3 f4 f5))) H := fk_swP hP
  have hD : va_D A ((fk_wm cJ cI cZ am cd (nI n) lo (nI T.length) wd sg up dn of bey rnd tx pt sn) ++ (((oA, .inl (cJ, 1, .inr (.inl fo))) :: kt) ++ (fk_wx cJ cC cK ad kd (nI n) lo ch (nI (40 - T.length)) f1 f2 f3 f4 f5))) := fk_swD hD
  refine fk_ci hD hS hA (va_runV (As := [.int (xs (i + 1)), .long (fk_lg (xs (i + 2)) (xs (i + 3))), .int (xs (i + 4))]) (rest := [.int r6]) ⟨hx, hb, hml, hown, hts⟩ (kX4_octet _ am (((oA, .inl (cJ, 1, .inr (.inl fo))) :: kt) ++ (fk_wx cJ cC cK ad kd (nI n) lo ch (nI (40 - T.length)) f1 f2 f3 f4 f5)) cd lo (nI T.length) wd sg up dn of bey rnd tx pt sn n kf (xs (i + 1)) (xs (i + 4)) (fk_lg (xs (i + 2)) (xs (i + 3))) hMT) (cwV 3 hts gL_law_X4_octet rfl rfl rfl (by decide +kernel) ⟨Nat.le_of_ble_eq_true rfl, Nat.le_of_ble_eq_true rfl⟩) (fk_preV 0 5 hK hN hP hD rfl rfl) rfl rfl hl.1 rfl (lv_room (Nat.le_of_ble_eq_true rfl)) dL_law_1055 ⟨by show cells + 0 + 0 ≤ 604189; omega, by show slots + 0 + 0 ≤ 7283536; omega⟩) (fun r12 u2 H locs hwr12 hP hD hS => ?_)
  have e3 := hwr12
  have hP : va_P D vwCl ((fk_wx cJ cC cK ad kd (nI n) lo ch (nI (40 - T.length)) f1 f2 f3 f4 f5) ++ ((fk_wm cJ cI cZ am 0 (nI n) lo (nI T.length) wd sg up dn of bey rnd tx pt sn) ++ ((oA, .inl (cJ, 1, .inr (.inl fo))) :: kt))) H := fk_swQ hP
  have hD : va_D A ((fk_wx cJ cC cK ad kd (nI n) lo ch (nI (40 - T.length)) f1 f2 f3 f4 f5) ++ ((fk_wm cJ cI cZ am 0 (nI n) lo (nI T.length) wd sg up dn of bey rnd tx pt sn) ++ ((oA, .inl (cJ, 1, .inr (.inl fo))) :: kt))) := fk_swE hD
  refine lv_icmp_eq (tgt := 1132) hx hb dL_law_1058 (by decide) (fun c_1058 => ?_) (fun c_1058 => False.elim (c_1058 (by rw [e1, e3])))
  refine W.widen (k := cells + 1) (n := slots + 7) (by omega) (by omega) ?_
  exact kk _ _ _ (fk_J.mk T hP hD hS hKL hMT hlo hT1 hT2 hT3) (lv_sub hl [0, 1, 2, 3, 4] rfl)
set_option maxHeartbeats 4000000 in
set_option maxRecDepth 100000 in
/-- half -/
theorem lc_11 {p : Program} {l : Launch} {e : Env} {s : State} {m : MethodId} {below : List Frame} {meth : Method} {c : Code} {QQ : State → Prop} {H : Heap} {locs : List Loc} {ls : Array Slot} {D : va_G} {cJ cC cI cZ cK : ClassId} {ad am : Nat → Nat} {oA b L : Nat} {xs : Nat → Int32} {A : Nat → Prop} {i cells slots : Nat} (hC : fk_LC p l s m c D cJ cC cI cZ cK b L xs A) (hi : i + 9 ≤ L) (hJ : fk_J D cJ cC cI cZ cK ad am oA A s.heap H locs) (hl : lv_has ls 8 [(0, .ref b), (1, .ref (ad 0)), (2, .ref (am 0)), (3, .ref oA), (4, .int (nI i))]) (hc1 : cells + 1 ≤ 604189) (hs1 : slots + 7 ≤ 7283536) (kk : ∀ (H : Heap) (locs : List Loc) (ls : Array Slot), fk_J D cJ cC cI cZ cK ad am oA A s.heap H locs → lv_has ls 8 [(0, .ref b), (1, .ref (ad 0)), (2, .ref (am 0)), (3, .ref oA), (4, .int (nI i))] → W p l e room_1 s m #[Value.ref b] below meth c H locs (cells + 1) (slots + 7) QQ (F0 m 1132 ls [])) : W p l e room_1 s m #[Value.ref b] below meth c H locs cells slots QQ (F0 m 1063 ls []) := by
  obtain ⟨hx, hb, hml, hown, htb, hX, hbl, hbA, hA, hK, hN, hXW, hlt, hL⟩ := hC
  have hts : ∀ w ∈ wsL_law, w.before #[Value.ref b] s = true := fun w h => htb w (wsL_law_in w h)
  obtain ⟨n, kf, ka, kt, kd, lo, cd, T, ch, f1, f2, f3, f4, f5, wd, sg, up, dn, of, bey, rnd, tx, pt, sn, fo, hP, hD, hS, hKL, hMT, hlo, hT1, hT2, hT3⟩ := hJ
  have hn40 := hKL.2.1
  have hKT := hKL.to (fk_wm cJ cI cZ am cd (nI n) lo (nI T.length) wd sg up dn of bey rnd tx pt sn) (oA, .inl (cJ, 1, .inr (.inl fo))) rfl
  have hP : va_P D vwCl ((fk_wx cJ cC cK ad kd (nI n) lo ch (nI (40 - T.length)) f1 f2 f3 f4 f5) ++ ((fk_wm cJ cI cZ am cd (nI n) lo (nI T.length) wd sg up dn of bey rnd tx pt sn) ++ ((oA, .inl (cJ, 1, .inr (.inl fo))) :: kt))) H := hP
  have hD : va_D A ((fk_wx cJ cC cK ad kd (nI n) lo ch (nI (40 - T.length)) f1 f2 f3 f4 f5) ++ ((fk_wm cJ cI cZ am cd (nI n) lo (nI T.length) wd sg up dn of bey rnd tx pt sn) ++ ((oA, .inl (cJ, 1, .inr (.inl fo))) :: kt))) := hD
  have k1 := hts (.constantLong RL 25 4294967295) (by decide +kernel)
  refine lv_aload_n hx hb dL_law_1063 rfl (lv_at hl 1 rfl) ?_
  refine lv_aload_n hx hb dL_law_1064 rfl (lv_at hl 0 rfl) ?_
  refine lv_iload hx hb dL_law_1065 (lv_at hl 4 rfl) ?_
  refine lv_iconst (v := 1) hx hb dL_law_1067 (by decide) ?_
  refine lv_iadd hx hb dL_law_1068 ?_
  refine lv_topi (fun x1 ex1 => ?_)
  have ex1q : x1 = (nI (i + 1)) := by
    rw [ex1]; exact nI_add i 1
  subst ex1q
  refine fk_sld hx hb hX hbl hbA hS hL (k := i + 1) (by omega) dL_law_1069 ?_
  refine lv_aload_n hx hb dL_law_1070 rfl (lv_at hl 0 rfl) ?_
  refine lv_iload hx hb dL_law_1071 (lv_at hl 4 rfl) ?_
  refine lv_iconst (v := 2) hx hb dL_law_1073 (by decide) ?_
  refine lv_iadd hx hb dL_law_1074 ?_
  refine lv_topi (fun x2 ex2 => ?_)
  have ex2q : x2 = (nI (i + 2)) := by
    rw [ex2]; exact nI_add i 2
  subst ex2q
  refine fk_sld hx hb hX hbl hbA hS hL (k := i + 2) (by omega) dL_law_1075 ?_
  refine lv_i2l hx hb dL_law_1076 rfl ?_
  refine lv_bipush (v := 32) hx hb dL_law_1077 (by decide) ?_
  refine lv_lshl hx hb dL_law_1079 rfl ?_
  refine lv_aload_n hx hb dL_law_1080 rfl (lv_at hl 0 rfl) ?_
  refine lv_iload hx hb dL_law_1081 (lv_at hl 4 rfl) ?_
  refine lv_iconst (v := 3) hx hb dL_law_1083 (by decide) ?_
  refine lv_iadd hx hb dL_law_1084 ?_
  refine lv_topi (fun x3 ex3 => ?_)
  have ex3q : x3 = (nI (i + 3)) := by
    rw [ex3]; exact nI_add i 3
  subst ex3q
  refine fk_sld hx hb hX hbl hbA hS hL (k := i + 3) (by omega) dL_law_1085 ?_
  refine lv_i2l hx hb dL_law_1086 rfl ?_
  refine lv_ldc2 (v := 4294967295) hx hb hown k1 dL_law_1087 ?_
  refine lv_land hx hb dL_law_1090 ?_
  refine lv_lor hx hb dL_law_1091 ?_
  refine lv_topl (fun x4 ex4 => ?_)
  have ex4q : x4 = fk_lg (xs (i + 2)) (xs (i + 3)) := by
    rw [ex4]; rfl
  subst ex4q
  refine fk_ci hD hS hA (va_runV (As := [.int (xs (i + 1)), .long (fk_lg (xs (i + 2)) (xs (i + 3)))]) (rest := []) ⟨hx, hb, hml, hown, hts⟩ (kX3_half _ ad ((fk_wm cJ cI cZ am cd (nI n) lo (nI T.length) wd sg up dn of bey rnd tx pt sn) ++ ((oA, .inl (cJ, 1, .inr (.inl fo))) :: kt)) kd lo ch (nI (40 - T.length)) f1 f2 f3 f4 f5 n kf ka (fun j => j + 12) (xs (i + 1)) (fk_lg (xs (i + 2)) (xs (i + 3))) hKT) (cwV 2 hts gL_law_X3_half rfl rfl rfl (by decide +kernel) ⟨Nat.le_of_ble_eq_true rfl, Nat.le_of_ble_eq_true rfl⟩) (fk_preV 0 4 hK hN hP hD rfl rfl) rfl rfl hl.1 rfl (lv_room (Nat.le_of_ble_eq_true rfl)) dL_law_1092 ⟨by show cells + 0 ≤ 604189; omega, by show slots + 0 ≤ 7283536; omega⟩) (fun r5 u1 H locs hwr5 hP hD hS => ?_)
  have e1 := hwr5
  have hP : va_P D vwCl ((fk_wx cJ cC cK ad kd (nI n) lo ch (nI (40 - T.length)) f1 f2 f3 f4 f5) ++ ((fk_wm cJ cI cZ am cd (nI n) lo (nI T.length) wd sg up dn of bey rnd tx pt sn) ++ ((oA, .inl (cJ, 1, .inr (.inl fo))) :: kt))) H := hP
  have hD : va_D A ((fk_wx cJ cC cK ad kd (nI n) lo ch (nI (40 - T.length)) f1 f2 f3 f4 f5) ++ ((fk_wm cJ cI cZ am cd (nI n) lo (nI T.length) wd sg up dn of bey rnd tx pt sn) ++ ((oA, .inl (cJ, 1, .inr (.inl fo))) :: kt))) := hD
  refine lv_aload_n hx hb dL_law_1095 rfl (lv_at hl 2 rfl) ?_
  refine lv_aload_n hx hb dL_law_1096 rfl (lv_at hl 0 rfl) ?_
  refine lv_iload hx hb dL_law_1097 (lv_at hl 4 rfl) ?_
  refine lv_iconst (v := 1) hx hb dL_law_1099 (by decide) ?_
  refine lv_iadd hx hb dL_law_1100 ?_
  refine lv_topi (fun x6 ex6 => ?_)
  have ex6q : x6 = (nI (i + 1)) := by
    rw [ex6]; exact nI_add i 1
  subst ex6q
  refine fk_sld hx hb hX hbl hbA hS hL (k := i + 1) (by omega) dL_law_1101 ?_
  refine lv_aload_n hx hb dL_law_1102 rfl (lv_at hl 0 rfl) ?_
  refine lv_iload hx hb dL_law_1103 (lv_at hl 4 rfl) ?_
  refine lv_iconst (v := 2) hx hb dL_law_1105 (by decide) ?_
  refine lv_iadd hx hb dL_law_1106 ?_
  refine lv_topi (fun x7 ex7 => ?_)
  have ex7q : x7 = (nI (i + 2)) := by
    rw [ex7]; exact nI_add i 2
  subst ex7q
  refine fk_sld hx hb hX hbl hbA hS hL (k := i + 2) (by omega) dL_law_1107 ?_
  refine lv_i2l hx hb dL_law_1108 rfl ?_
  refine lv_bipush (v := 32) hx hb dL_law_1109 (by decide) ?_
  refine lv_lshl hx hb dL_law_1111 rfl ?_
  refine lv_aload_n hx hb dL_law_1112 rfl (lv_at hl 0 rfl) ?_
  refine lv_iload hx hb dL_law_1113 (lv_at hl 4 rfl) ?_
  refine lv_iconst (v := 3) hx hb dL_law_1115 (by decide) ?_
  refine lv_iadd hx hb dL_law_1116 ?_
  refine lv_topi (fun x8 ex8 => ?_)
  have ex8q : x8 = (nI (i + 3)) := by
    rw [ex8]; exact nI_add i 3
  subst ex8q
  refine fk_sld hx hb hX hbl hbA hS hL (k := i + 3) (by omega) dL_law_1117 ?_
  refine lv_i2l hx hb dL_law_1118 rfl ?_
  refine lv_ldc2 (v := 4294967295) hx hb hown k1 dL_law_1119 ?_
  refine lv_land hx hb dL_law_1122 ?_
  refine lv_lor hx hb dL_law_1123 ?_
  refine lv_topl (fun x9 ex9 => ?_)
  have ex9q : x9 = fk_lg (xs (i + 2)) (xs (i + 3)) := by
    rw [ex9]; rfl
  subst ex9q
  have hP : va_P D vwCl ((fk_wm cJ cI cZ am cd (nI n) lo (nI T.length) wd sg up dn of bey rnd tx pt sn) ++ (((oA, .inl (cJ, 1, .inr (.inl fo))) :: kt) ++ (fk_wx cJ cC cK ad kd (nI n) lo ch (nI (40 - T.length)) f1 f2 f3 f4 f5))) H := fk_swP hP
  have hD : va_D A ((fk_wm cJ cI cZ am cd (nI n) lo (nI T.length) wd sg up dn of bey rnd tx pt sn) ++ (((oA, .inl (cJ, 1, .inr (.inl fo))) :: kt) ++ (fk_wx cJ cC cK ad kd (nI n) lo ch (nI (40 - T.length)) f1 f2 f3 f4 f5))) := fk_swD hD
  refine fk_ci hD hS hA (va_runV (As := [.int (xs (i + 1)), .long (fk_lg (xs (i + 2)) (xs (i + 3)))]) (rest := [.int r5]) ⟨hx, hb, hml, hown, hts⟩ (kX4_half _ am (((oA, .inl (cJ, 1, .inr (.inl fo))) :: kt) ++ (fk_wx cJ cC cK ad kd (nI n) lo ch (nI (40 - T.length)) f1 f2 f3 f4 f5)) cd lo (nI T.length) wd sg up dn of bey rnd tx pt sn n kf (xs (i + 1)) (fk_lg (xs (i + 2)) (xs (i + 3))) hMT) (cwV 2 hts gL_law_X4_half rfl rfl rfl (by decide +kernel) ⟨Nat.le_of_ble_eq_true rfl, Nat.le_of_ble_eq_true rfl⟩) (fk_preV 0 5 hK hN hP hD rfl rfl) rfl rfl hl.1 rfl (lv_room (Nat.le_of_ble_eq_true rfl)) dL_law_1124 ⟨by show cells + 0 + 0 ≤ 604189; omega, by show slots + 0 + 0 ≤ 7283536; omega⟩) (fun r10 u2 H locs hwr10 hP hD hS => ?_)
  have e3 := hwr10
  have hP : va_P D vwCl ((fk_wx cJ cC cK ad kd (nI n) lo ch (nI (40 - T.length)) f1 f2 f3 f4 f5) ++ ((fk_wm cJ cI cZ am 0 (nI n) lo (nI T.length) wd sg up dn of bey rnd tx pt sn) ++ ((oA, .inl (cJ, 1, .inr (.inl fo))) :: kt))) H := fk_swQ hP
  have hD : va_D A ((fk_wx cJ cC cK ad kd (nI n) lo ch (nI (40 - T.length)) f1 f2 f3 f4 f5) ++ ((fk_wm cJ cI cZ am 0 (nI n) lo (nI T.length) wd sg up dn of bey rnd tx pt sn) ++ ((oA, .inl (cJ, 1, .inr (.inl fo))) :: kt))) := fk_swE hD
  refine lv_icmp_eq (tgt := 1132) hx hb dL_law_1127 (by decide) (fun c_1127 => ?_) (fun c_1127 => False.elim (c_1127 (by rw [e1, e3])))
  refine W.widen (k := cells + 1) (n := slots + 7) (by omega) (by omega) ?_
  exact kk _ _ _ (fk_J.mk T hP hD hS hKL hMT hlo hT1 hT2 hT3) (lv_sub hl [0, 1, 2, 3, 4] rfl)
