/-! The law: apply, at, by program -/
set_option maxHeartbeats 4000000 in
set_option maxRecDepth 100000 in
/-- apply -/
theorem lc_2 {p : Program} {l : Launch} {e : Env} {s : State} {m : MethodId} {below : List Frame} {meth : Method} {c : Code} {QQ : State → Prop} {H : Heap} {locs : List Loc} {ls : Array Slot} {D : va_G} {cJ cC cI cZ cK : ClassId} {ad am : Nat → Nat} {oA b L : Nat} {xs : Nat → Int32} {A : Nat → Prop} {i cells slots : Nat} (hC : fk_LC p l s m c D cJ cC cI cZ cK b L xs A) (hi : i + 9 ≤ L) (hJ : fk_J D cJ cC cI cZ cK ad am oA A s.heap H locs) (hl : lv_has ls 8 [(0, .ref b), (1, .ref (ad 0)), (2, .ref (am 0)), (3, .ref oA), (4, .int (nI i))]) (hc1 : cells + 1 ≤ 604189) (hs1 : slots + 7 ≤ 7283536) (kk : ∀ (H : Heap) (locs : List Loc) (ls : Array Slot), fk_J D cJ cC cI cZ cK ad am oA A s.heap H locs → lv_has ls 8 [(0, .ref b), (1, .ref (ad 0)), (2, .ref (am 0)), (3, .ref oA), (4, .int (nI i))] → W p l e room_1 s m #[Value.ref b] below meth c H locs (cells + 1) (slots + 7) QQ (F0 m 1132 ls [])) : W p l e room_1 s m #[Value.ref b] below meth c H locs cells slots QQ (F0 m 344 ls []) := by
  obtain ⟨hx, hb, hml, hown, htb, hX, hbl, hbA, hA, hK, hN, hXW, hlt, hL⟩ := hC
  have hts : ∀ w ∈ wsL_law, w.before #[Value.ref b] s = true := fun w h => htb w (wsL_law_in w h)
  obtain ⟨n, kf, ka, kt, kd, lo, cd, T, ch, f1, f2, f3, f4, f5, wd, sg, up, dn, of, bey, rnd, tx, pt, sn, fo, hP, hD, hS, hKL, hMT, hlo, hT1, hT2, hT3⟩ := hJ
  have hn40 := hKL.2.1
  have hKT := hKL.to (fk_wm cJ cI cZ am cd (nI n) lo (nI T.length) wd sg up dn of bey rnd tx pt sn) (oA, .inl (cJ, 1, .inr (.inl fo))) rfl
  have hP : va_P D vwCl ((fk_wx cJ cC cK ad kd (nI n) lo ch (nI (40 - T.length)) f1 f2 f3 f4 f5) ++ ((fk_wm cJ cI cZ am cd (nI n) lo (nI T.length) wd sg up dn of bey rnd tx pt sn) ++ ((oA, .inl (cJ, 1, .inr (.inl fo))) :: kt))) H := hP
  have hD : va_D A ((fk_wx cJ cC cK ad kd (nI n) lo ch (nI (40 - T.length)) f1 f2 f3 f4 f5) ++ ((fk_wm cJ cI cZ am cd (nI n) lo (nI T.length) wd sg up dn of bey rnd tx pt sn) ++ ((oA, .inl (cJ, 1, .inr (.inl fo))) :: kt))) := hD
  have k1 := hts (.constantLong RL 25 4294967295) (by decide +kernel)
  refine lv_aload_n hx hb dL_law_344 rfl (lv_at hl 1 rfl) ?_
  refine lv_aload_n hx hb dL_law_345 rfl (lv_at hl 0 rfl) ?_
  refine lv_iload hx hb dL_law_346 (lv_at hl 4 rfl) ?_
  refine lv_iconst (v := 1) hx hb dL_law_348 (by decide) ?_
  refine lv_iadd hx hb dL_law_349 ?_
  refine lv_topi (fun x1 ex1 => ?_)
  have ex1q : x1 = (nI (i + 1)) := by
    rw [ex1]; exact nI_add i 1
  subst ex1q
  refine fk_sld hx hb hX hbl hbA hS hL (k := i + 1) (by omega) dL_law_350 ?_
  refine lv_aload_n hx hb dL_law_351 rfl (lv_at hl 0 rfl) ?_
  refine lv_iload hx hb dL_law_352 (lv_at hl 4 rfl) ?_
  refine lv_iconst (v := 2) hx hb dL_law_354 (by decide) ?_
  refine lv_iadd hx hb dL_law_355 ?_
  refine lv_topi (fun x2 ex2 => ?_)
  have ex2q : x2 = (nI (i + 2)) := by
    rw [ex2]; exact nI_add i 2
  subst ex2q
  refine fk_sld hx hb hX hbl hbA hS hL (k := i + 2) (by omega) dL_law_356 ?_
  refine lv_aload_n hx hb dL_law_357 rfl (lv_at hl 0 rfl) ?_
  refine lv_iload hx hb dL_law_358 (lv_at hl 4 rfl) ?_
  refine lv_iconst (v := 3) hx hb dL_law_360 (by decide) ?_
  refine lv_iadd hx hb dL_law_361 ?_
  refine lv_topi (fun x3 ex3 => ?_)
  have ex3q : x3 = (nI (i + 3)) := by
    rw [ex3]; exact nI_add i 3
  subst ex3q
  refine fk_sld hx hb hX hbl hbA hS hL (k := i + 3) (by omega) dL_law_362 ?_
  refine lv_i2l hx hb dL_law_363 rfl ?_
  refine lv_bipush (v := 32) hx hb dL_law_364 (by decide) ?_
  refine lv_lshl hx hb dL_law_366 rfl ?_
  refine lv_aload_n hx hb dL_law_367 rfl (lv_at hl 0 rfl) ?_
  refine lv_iload hx hb dL_law_368 (lv_at hl 4 rfl) ?_
  refine lv_iconst (v := 4) hx hb dL_law_370 (by decide) ?_
  refine lv_iadd hx hb dL_law_371 ?_
  refine lv_topi (fun x4 ex4 => ?_)
  have ex4q : x4 = (nI (i + 4)) := by
    rw [ex4]; exact nI_add i 4
  subst ex4q
  refine fk_sld hx hb hX hbl hbA hS hL (k := i + 4) (by omega) dL_law_372 ?_
  refine lv_i2l hx hb dL_law_373 rfl ?_
  refine lv_ldc2 (v := 4294967295) hx hb hown k1 dL_law_374 ?_
  refine lv_land hx hb dL_law_377 ?_
  refine lv_lor hx hb dL_law_378 ?_
  refine lv_topl (fun x5 ex5 => ?_)
  have ex5q : x5 = fk_lg (xs (i + 3)) (xs (i + 4)) := by
    rw [ex5]; rfl
  subst ex5q
  refine lv_aload_n hx hb dL_law_379 rfl (lv_at hl 0 rfl) ?_
  refine lv_iload hx hb dL_law_380 (lv_at hl 4 rfl) ?_
  refine lv_iconst (v := 5) hx hb dL_law_382 (by decide) ?_
  refine lv_iadd hx hb dL_law_383 ?_
  refine lv_topi (fun x6 ex6 => ?_)
  have ex6q : x6 = (nI (i + 5)) := by
    rw [ex6]; exact nI_add i 5
  subst ex6q
  refine fk_sld hx hb hX hbl hbA hS hL (k := i + 5) (by omega) dL_law_384 ?_
  refine lv_aload_n hx hb dL_law_385 rfl (lv_at hl 0 rfl) ?_
  refine lv_iload hx hb dL_law_386 (lv_at hl 4 rfl) ?_
  refine lv_bipush (v := 6) hx hb dL_law_388 (by decide) ?_
  refine lv_iadd hx hb dL_law_390 ?_
  refine lv_topi (fun x7 ex7 => ?_)
  have ex7q : x7 = (nI (i + 6)) := by
    rw [ex7]; exact nI_add i 6
  subst ex7q
  refine fk_sld hx hb hX hbl hbA hS hL (k := i + 6) (by omega) dL_law_391 ?_
  refine lv_i2l hx hb dL_law_392 rfl ?_
  refine lv_bipush (v := 32) hx hb dL_law_393 (by decide) ?_
  refine lv_lshl hx hb dL_law_395 rfl ?_
  refine lv_aload_n hx hb dL_law_396 rfl (lv_at hl 0 rfl) ?_
  refine lv_iload hx hb dL_law_397 (lv_at hl 4 rfl) ?_
  refine lv_bipush (v := 7) hx hb dL_law_399 (by decide) ?_
  refine lv_iadd hx hb dL_law_401 ?_
  refine lv_topi (fun x8 ex8 => ?_)
  have ex8q : x8 = (nI (i + 7)) := by
    rw [ex8]; exact nI_add i 7
  subst ex8q
  refine fk_sld hx hb hX hbl hbA hS hL (k := i + 7) (by omega) dL_law_402 ?_
  refine lv_i2l hx hb dL_law_403 rfl ?_
  refine lv_ldc2 (v := 4294967295) hx hb hown k1 dL_law_404 ?_
  refine lv_land hx hb dL_law_407 ?_
  refine lv_lor hx hb dL_law_408 ?_
  refine lv_topl (fun x9 ex9 => ?_)
  have ex9q : x9 = fk_lg (xs (i + 6)) (xs (i + 7)) := by
    rw [ex9]; rfl
  subst ex9q
  refine lv_aload_n hx hb dL_law_409 rfl (lv_at hl 3 rfl) ?_
  refine fk_xi hD hS hA (vx_runSX (hh := [(0, 15, 18, 13)]) (As := [.ref (ad 0), .int (xs (i + 1)), .int (xs (i + 2)), .long (fk_lg (xs (i + 3)) (xs (i + 4))), .int (xs (i + 5)), .long (fk_lg (xs (i + 6)) (xs (i + 7))), .ref oA]) (rest := []) ⟨hx, hb, hml, hown, hts⟩ (kL_apply _ ad ((fk_wm cJ cI cZ am cd (nI n) lo (nI T.length) wd sg up dn of bey rnd tx pt sn) ++ ((oA, .inl (cJ, 1, .inr (.inl fo))) :: kt)) kd lo ch (nI (40 - T.length)) f1 f2 f3 f4 f5 n kf ka (fun j => j + 12) oA 11 fo (xs (i + 1)) (xs (i + 2)) (xs (i + 5)) (fk_lg (xs (i + 3)) (xs (i + 4))) (fk_lg (xs (i + 6)) (xs (i + 7))) hlt hKT rfl) (vx_cwSW 7 hts gL_law_L_apply rfl rfl rfl (by decide +kernel) ⟨Nat.le_of_ble_eq_true rfl, Nat.le_of_ble_eq_true rfl⟩) (fk_preST hXW hS hA hK hN hP hD) rfl rfl hl.1 rfl (lv_room (Nat.le_of_ble_eq_true rfl)) dL_law_410 ⟨by show cells + 1 ≤ 604189; omega, by show slots + 6 ≤ 7283536; omega⟩) (fun ce q9 u9 H locs hpx hP hD hS hq1 hq2 hq3 => False.elim hpx) (fun r10 u1 H locs hwr10 hP hD hS => ?_)
  obtain ⟨⟨l1, g1, g2, g3, g4, g5⟩, o1⟩ := u1
  rcases hwr10 with ⟨ea, er, e2, e5⟩ | ⟨ea, er, e2, v, ev, e5⟩
  · have e2 : l1 = lo := e2
    have e5 : o1 = fo := e5
    have hP : va_P D vwCl ((fk_wx cJ cC cK ad kd (nI n) l1 ch (nI (40 - T.length)) g1 g2 g3 g4 g5) ++ ((fk_wm cJ cI cZ am cd (nI n) lo (nI T.length) wd sg up dn of bey rnd tx pt sn) ++ ((oA, .inl (cJ, 1, .inr (.inl o1))) :: kt))) H := hP
    have hD : va_D A ((fk_wx cJ cC cK ad kd (nI n) l1 ch (nI (40 - T.length)) g1 g2 g3 g4 g5) ++ ((fk_wm cJ cI cZ am cd (nI n) lo (nI T.length) wd sg up dn of bey rnd tx pt sn) ++ ((oA, .inl (cJ, 1, .inr (.inl o1))) :: kt))) := hD
    rw [e2, e5] at hP hD
    have hP : va_P D vwCl ((fk_wx cJ cC cK ad kd (nI n) lo ch (nI (40 - T.length)) g1 g2 g3 g4 g5) ++ ((fk_wm cJ cI cZ am cd (nI n) lo (nI T.length) wd sg up dn of bey rnd tx pt sn) ++ ((oA, .inl (cJ, 1, .inr (.inl fo))) :: kt))) H := hP
    have hD : va_D A ((fk_wx cJ cC cK ad kd (nI n) lo ch (nI (40 - T.length)) g1 g2 g3 g4 g5) ++ ((fk_wm cJ cI cZ am cd (nI n) lo (nI T.length) wd sg up dn of bey rnd tx pt sn) ++ ((oA, .inl (cJ, 1, .inr (.inl fo))) :: kt))) := hD
    subst er
    refine lv_istore (lv' := [(5, .int 1), (0, .ref b), (1, .ref (ad 0)), (2, .ref (am 0)), (3, .ref oA), (4, .int (nI i))]) hx hb dL_law_413 hl (by decide) rfl (fun ls hl => ?_)
    refine lv_aload_n hx hb dL_law_415 rfl (lv_at hl 3 rfl) ?_
    refine lv_aload_n hx hb dL_law_416 rfl (lv_at hl 1 rfl) ?_
    refine lv_iload hx hb dL_law_417 (lv_at hl 5 rfl) ?_
    refine lv_iconst (v := 1) hx hb dL_law_419 (by decide) ?_
    refine lv_iadd hx hb dL_law_420 ?_
    refine lv_topi (fun x11 ex11 => ?_)
    have ex11q : x11 = (nI (i + 1)) := by
      rw [ex11]; exact nI_add i 1
    subst ex11q
    refine fk_sld hx hb hX hbl hbA hS hL (k := i + 1) (by omega) dL_law_421 ?_
    refine lv_aload_n hx hb dL_law_422 rfl (lv_at hl 1 rfl) ?_
    refine lv_iload hx hb dL_law_423 (lv_at hl 5 rfl) ?_
    refine lv_iconst (v := 2) hx hb dL_law_425 (by decide) ?_
    refine lv_iadd hx hb dL_law_426 ?_
    refine lv_topi (fun x12 ex12 => ?_)
    have ex12q : x12 = (nI (i + 2)) := by
      rw [ex12]; exact nI_add i 2
    subst ex12q
    refine fk_sld hx hb hX hbl hbA hS hL (k := i + 2) (by omega) dL_law_427 ?_
    refine lv_aload_n hx hb dL_law_428 rfl (lv_at hl 1 rfl) ?_
    refine lv_iload hx hb dL_law_429 (lv_at hl 5 rfl) ?_
    refine lv_iconst (v := 3) hx hb dL_law_431 (by decide) ?_
    refine lv_iadd hx hb dL_law_432 ?_
    refine lv_topi (fun x13 ex13 => ?_)
    have ex13q : x13 = (nI (i + 3)) := by
      rw [ex13]; exact nI_add i 3
    subst ex13q
    refine fk_sld hx hb hX hbl hbA hS hL (k := i + 3) (by omega) dL_law_433 ?_
    refine lv_i2l hx hb dL_law_434 rfl ?_
    refine lv_bipush (v := 32) hx hb dL_law_435 (by decide) ?_
    refine lv_lshl hx hb dL_law_437 rfl ?_
    refine lv_aload_n hx hb dL_law_438 rfl (lv_at hl 1 rfl) ?_
    refine lv_iload hx hb dL_law_439 (lv_at hl 5 rfl) ?_
    refine lv_iconst (v := 4) hx hb dL_law_441 (by decide) ?_
    refine lv_iadd hx hb dL_law_442 ?_
    refine lv_topi (fun x14 ex14 => ?_)
    have ex14q : x14 = (nI (i + 4)) := by
      rw [ex14]; exact nI_add i 4
    subst ex14q
    refine fk_sld hx hb hX hbl hbA hS hL (k := i + 4) (by omega) dL_law_443 ?_
    refine lv_i2l hx hb dL_law_444 rfl ?_
    refine lv_ldc2 (v := 4294967295) hx hb hown k1 dL_law_445 ?_
    refine lv_land hx hb dL_law_448 ?_
    refine lv_lor hx hb dL_law_449 ?_
    refine lv_topl (fun x15 ex15 => ?_)
    have ex15q : x15 = fk_lg (xs (i + 3)) (xs (i + 4)) := by
      rw [ex15]; rfl
    subst ex15q
    refine lv_aload_n hx hb dL_law_450 rfl (lv_at hl 1 rfl) ?_
    refine lv_iload hx hb dL_law_451 (lv_at hl 5 rfl) ?_
    refine lv_iconst (v := 5) hx hb dL_law_453 (by decide) ?_
    refine lv_iadd hx hb dL_law_454 ?_
    refine lv_topi (fun x16 ex16 => ?_)
    have ex16q : x16 = (nI (i + 5)) := by
      rw [ex16]; exact nI_add i 5
    subst ex16q
    refine fk_sld hx hb hX hbl hbA hS hL (k := i + 5) (by omega) dL_law_455 ?_
    refine lv_aload_n hx hb dL_law_456 rfl (lv_at hl 1 rfl) ?_
    refine lv_iload hx hb dL_law_457 (lv_at hl 5 rfl) ?_
    refine lv_bipush (v := 6) hx hb dL_law_459 (by decide) ?_
    refine lv_iadd hx hb dL_law_461 ?_
    refine lv_topi (fun x17 ex17 => ?_)
    have ex17q : x17 = (nI (i + 6)) := by
      rw [ex17]; exact nI_add i 6
    subst ex17q
    refine fk_sld hx hb hX hbl hbA hS hL (k := i + 6) (by omega) dL_law_462 ?_
    refine lv_i2l hx hb dL_law_463 rfl ?_
    refine lv_bipush (v := 32) hx hb dL_law_464 (by decide) ?_
    refine lv_lshl hx hb dL_law_466 rfl ?_
    refine lv_aload_n hx hb dL_law_467 rfl (lv_at hl 1 rfl) ?_
    refine lv_iload hx hb dL_law_468 (lv_at hl 5 rfl) ?_
    refine lv_bipush (v := 7) hx hb dL_law_470 (by decide) ?_
    refine lv_iadd hx hb dL_law_472 ?_
    refine lv_topi (fun x18 ex18 => ?_)
    have ex18q : x18 = (nI (i + 7)) := by
      rw [ex18]; exact nI_add i 7
    subst ex18q
    refine fk_sld hx hb hX hbl hbA hS hL (k := i + 7) (by omega) dL_law_473 ?_
    refine lv_i2l hx hb dL_law_474 rfl ?_
    refine lv_ldc2 (v := 4294967295) hx hb hown k1 dL_law_475 ?_
    refine lv_land hx hb dL_law_478 ?_
    refine lv_lor hx hb dL_law_479 ?_
    refine lv_topl (fun x19 ex19 => ?_)
    have ex19q : x19 = fk_lg (xs (i + 6)) (xs (i + 7)) := by
      rw [ex19]; rfl
    subst ex19q
    have hP : va_P D vwCl ((fk_wm cJ cI cZ am cd (nI n) lo (nI T.length) wd sg up dn of bey rnd tx pt sn) ++ (((oA, .inl (cJ, 1, .inr (.inl fo))) :: kt) ++ (fk_wx cJ cC cK ad kd (nI n) lo ch (nI (40 - T.length)) g1 g2 g3 g4 g5))) H := fk_swP hP
    have hD : va_D A ((fk_wm cJ cI cZ am cd (nI n) lo (nI T.length) wd sg up dn of bey rnd tx pt sn) ++ (((oA, .inl (cJ, 1, .inr (.inl fo))) :: kt) ++ (fk_wx cJ cC cK ad kd (nI n) lo ch (nI (40 - T.length)) g1 g2 g3 g4 g5))) := fk_swD hD
    refine fk_cl hD hS hA (va_runV (As := [.int (xs (i + 1)), .int (xs (i + 2)), .long (fk_lg (xs (i + 3)) (xs (i + 4))), .int (xs (i + 5)), .long (fk_lg (xs (i + 6)) (xs (i + 7)))]) (rest := []) ⟨hx, hb, hml, hown, hts⟩ (kX4_apply _ am (((oA, .inl (cJ, 1, .inr (.inl fo))) :: kt) ++ (fk_wx cJ cC cK ad kd (nI n) lo ch (nI (40 - T.length)) g1 g2 g3 g4 g5)) cd lo (nI T.length) wd sg up dn of bey rnd tx pt sn n kf (xs (i + 1)) (xs (i + 2)) (xs (i + 5)) (fk_lg (xs (i + 3)) (xs (i + 4))) (fk_lg (xs (i + 6)) (xs (i + 7))) hMT) (cwV 5 hts gL_law_X4_apply rfl rfl rfl (by decide +kernel) ⟨Nat.le_of_ble_eq_true rfl, Nat.le_of_ble_eq_true rfl⟩) (fk_preV 0 5 hK hN hP hD rfl rfl) rfl rfl hl.1 rfl (lv_room (Nat.le_of_ble_eq_true rfl)) dL_law_480 ⟨by show cells + 1 + 0 ≤ 604189; omega, by show slots + 6 + 0 ≤ 7283536; omega⟩) (fun r20 u2 H locs hwr20 hP hD hS => ?_)
    obtain ⟨d2, l2, p2, s2⟩ := u2
    obtain ⟨e3, e4⟩ : d2 = 1 ∧ l2 = lo := by
      rcases hwr20 with ⟨ya, y1, y2⟩ | ⟨ya, y1, y2, y3⟩
      · exact ⟨y1, y2⟩
      · exact absurd ea ya
    have hP : va_P D vwCl ((fk_wm cJ cI cZ am d2 (nI n) l2 (nI T.length) wd sg up dn of bey rnd tx p2 s2) ++ (((oA, .inl (cJ, 1, .inr (.inl fo))) :: kt) ++ (fk_wx cJ cC cK ad kd (nI n) lo ch (nI (40 - T.length)) g1 g2 g3 g4 g5))) H := hP
    have hD : va_D A ((fk_wm cJ cI cZ am d2 (nI n) l2 (nI T.length) wd sg up dn of bey rnd tx p2 s2) ++ (((oA, .inl (cJ, 1, .inr (.inl fo))) :: kt) ++ (fk_wx cJ cC cK ad kd (nI n) lo ch (nI (40 - T.length)) g1 g2 g3 g4 g5))) := hD
    rw [e3, e4] at hP hD
    have hP : va_P D vwCl ((fk_wx cJ cC cK ad kd (nI n) lo ch (nI (40 - T.length)) g1 g2 g3 g4 g5) ++ ((fk_wm cJ cI cZ am 1 (nI n) lo (nI T.length) wd sg up dn of bey rnd tx p2 s2) ++ ((oA, .inl (cJ, 1, .inr (.inl fo))) :: kt))) H := fk_swQ hP
    have hD : va_D A ((fk_wx cJ cC cK ad kd (nI n) lo ch (nI (40 - T.length)) g1 g2 g3 g4 g5) ++ ((fk_wm cJ cI cZ am 1 (nI n) lo (nI T.length) wd sg up dn of bey rnd tx p2 s2) ++ ((oA, .inl (cJ, 1, .inr (.inl fo))) :: kt))) := fk_swE hD
    refine lv_lstore (lv' := [(6, .long r20), (5, .int 1), (0, .ref b), (1, .ref (ad 0)), (2, .ref (am 0)), (3, .ref oA), (4, .int (nI i))]) hx hb dL_law_483 hl (by decide) rfl (fun ls hl => ?_)
    refine lv_aload_n hx hb dL_law_485 rfl (lv_at hl 4 rfl) ?_
    have hP : va_P D vwCl ((fk_wm cJ cI cZ am 1 (nI n) lo (nI T.length) wd sg up dn of bey rnd tx p2 s2) ++ (((oA, .inl (cJ, 1, .inr (.inl fo))) :: kt) ++ (fk_wx cJ cC cK ad kd (nI n) lo ch (nI (40 - T.length)) g1 g2 g3 g4 g5))) H := fk_swP hP
    have hD : va_D A ((fk_wm cJ cI cZ am 1 (nI n) lo (nI T.length) wd sg up dn of bey rnd tx p2 s2) ++ (((oA, .inl (cJ, 1, .inr (.inl fo))) :: kt) ++ (fk_wx cJ cC cK ad kd (nI n) lo ch (nI (40 - T.length)) g1 g2 g3 g4 g5))) := fk_swD hD
    refine fk_ci hD hS hA (va_runV (As := []) (rest := []) ⟨hx, hb, hml, hown, hts⟩ (kX4_thrown _ am (((oA, .inl (cJ, 1, .inr (.inl fo))) :: kt) ++ (fk_wx cJ cC cK ad kd (nI n) lo ch (nI (40 - T.length)) g1 g2 g3 g4 g5)) 1 lo (nI T.length) wd sg up dn of bey rnd tx p2 s2 n kf hMT) (cwV 0 hts gL_law_X4_thrown rfl rfl rfl (by decide +kernel) ⟨Nat.le_of_ble_eq_true rfl, Nat.le_of_ble_eq_true rfl⟩) (fk_preV 0 5 hK hN hP hD rfl rfl) rfl rfl hl.1 rfl (lv_room (Nat.le_of_ble_eq_true rfl)) dL_law_486 ⟨by show cells + 1 + 0 + 0 ≤ 604189; omega, by show slots + 6 + 0 + 0 ≤ 7283536; omega⟩) (fun r21 u3 H locs hwr21 hP hD hS => ?_)
    have e9 : r21 = 1 := hwr21
    subst e9
    have hP : va_P D vwCl ((fk_wx cJ cC cK ad kd (nI n) lo ch (nI (40 - T.length)) g1 g2 g3 g4 g5) ++ ((fk_wm cJ cI cZ am 1 (nI n) lo (nI T.length) wd sg up dn of bey rnd tx p2 s2) ++ ((oA, .inl (cJ, 1, .inr (.inl fo))) :: kt))) H := fk_swQ hP
    have hD : va_D A ((fk_wx cJ cC cK ad kd (nI n) lo ch (nI (40 - T.length)) g1 g2 g3 g4 g5) ++ ((fk_wm cJ cI cZ am 1 (nI n) lo (nI T.length) wd sg up dn of bey rnd tx p2 s2) ++ ((oA, .inl (cJ, 1, .inr (.inl fo))) :: kt))) := fk_swE hD
    refine lv_iload hx hb dL_law_489 (lv_at hl 1 rfl) ?_
    refine lv_icmp_eq (tgt := 496) hx hb dL_law_491 (by decide) (fun c_491 => ?_) (fun c_491 => False.elim (c_491 rfl))
    refine lv_iload hx hb dL_law_496 (lv_at hl 1 rfl) ?_
    refine lv_if_ne (tgt := 512) hx hb dL_law_498 (by decide) (fun c_498 => ?_) (fun c_498 => False.elim (absurd c_498 (by decide)))
    refine lv_goto (tgt := 1132) hx hb dL_law_512 (by decide) ?_
    refine W.widen (k := cells + 1) (n := slots + 7) (by omega) (by omega) ?_
    exact kk _ _ _ (fk_J.mk T hP hD hS hKL hMT hlo hT1 hT2 hT3) (lv_sub hl [2, 3, 4, 5, 6] rfl)
  · have e2 : l1 = (fk_lApp n kf lo (xs (i + 1)) (xs (i + 2)) (fk_lg (xs (i + 3)) (xs (i + 4))) (xs (i + 5)) (fk_lg (xs (i + 6)) (xs (i + 7)))) := e2
    have e5 : o1 = vp_updL fo 0 v := e5
    have hP : va_P D vwCl ((fk_wx cJ cC cK ad kd (nI n) l1 ch (nI (40 - T.length)) g1 g2 g3 g4 g5) ++ ((fk_wm cJ cI cZ am cd (nI n) lo (nI T.length) wd sg up dn of bey rnd tx pt sn) ++ ((oA, .inl (cJ, 1, .inr (.inl o1))) :: kt))) H := hP
    have hD : va_D A ((fk_wx cJ cC cK ad kd (nI n) l1 ch (nI (40 - T.length)) g1 g2 g3 g4 g5) ++ ((fk_wm cJ cI cZ am cd (nI n) lo (nI T.length) wd sg up dn of bey rnd tx pt sn) ++ ((oA, .inl (cJ, 1, .inr (.inl o1))) :: kt))) := hD
    rw [e2, e5] at hP hD
    have hP : va_P D vwCl ((fk_wx cJ cC cK ad kd (nI n) (fk_lApp n kf lo (xs (i + 1)) (xs (i + 2)) (fk_lg (xs (i + 3)) (xs (i + 4))) (xs (i + 5)) (fk_lg (xs (i + 6)) (xs (i + 7)))) ch (nI (40 - T.length)) g1 g2 g3 g4 g5) ++ ((fk_wm cJ cI cZ am cd (nI n) lo (nI T.length) wd sg up dn of bey rnd tx pt sn) ++ ((oA, .inl (cJ, 1, .inr (.inl (vp_updL fo 0 v)))) :: kt))) H := hP
    have hD : va_D A ((fk_wx cJ cC cK ad kd (nI n) (fk_lApp n kf lo (xs (i + 1)) (xs (i + 2)) (fk_lg (xs (i + 3)) (xs (i + 4))) (xs (i + 5)) (fk_lg (xs (i + 6)) (xs (i + 7)))) ch (nI (40 - T.length)) g1 g2 g3 g4 g5) ++ ((fk_wm cJ cI cZ am cd (nI n) lo (nI T.length) wd sg up dn of bey rnd tx pt sn) ++ ((oA, .inl (cJ, 1, .inr (.inl (vp_updL fo 0 v)))) :: kt))) := hD
    subst er
    refine lv_istore (lv' := [(5, .int 0), (0, .ref b), (1, .ref (ad 0)), (2, .ref (am 0)), (3, .ref oA), (4, .int (nI i))]) hx hb dL_law_413 hl (by decide) rfl (fun ls hl => ?_)
    refine lv_aload_n hx hb dL_law_415 rfl (lv_at hl 3 rfl) ?_
    refine lv_aload_n hx hb dL_law_416 rfl (lv_at hl 1 rfl) ?_
    refine lv_iload hx hb dL_law_417 (lv_at hl 5 rfl) ?_
    refine lv_iconst (v := 1) hx hb dL_law_419 (by decide) ?_
    refine lv_iadd hx hb dL_law_420 ?_
    refine lv_topi (fun x22 ex22 => ?_)
    have ex22q : x22 = (nI (i + 1)) := by
      rw [ex22]; exact nI_add i 1
    subst ex22q
    refine fk_sld hx hb hX hbl hbA hS hL (k := i + 1) (by omega) dL_law_421 ?_
    refine lv_aload_n hx hb dL_law_422 rfl (lv_at hl 1 rfl) ?_
    refine lv_iload hx hb dL_law_423 (lv_at hl 5 rfl) ?_
    refine lv_iconst (v := 2) hx hb dL_law_425 (by decide) ?_
    refine lv_iadd hx hb dL_law_426 ?_
    refine lv_topi (fun x23 ex23 => ?_)
    have ex23q : x23 = (nI (i + 2)) := by
      rw [ex23]; exact nI_add i 2
    subst ex23q
    refine fk_sld hx hb hX hbl hbA hS hL (k := i + 2) (by omega) dL_law_427 ?_
    refine lv_aload_n hx hb dL_law_428 rfl (lv_at hl 1 rfl) ?_
    refine lv_iload hx hb dL_law_429 (lv_at hl 5 rfl) ?_
    refine lv_iconst (v := 3) hx hb dL_law_431 (by decide) ?_
    refine lv_iadd hx hb dL_law_432 ?_
    refine lv_topi (fun x24 ex24 => ?_)
    have ex24q : x24 = (nI (i + 3)) := by
      rw [ex24]; exact nI_add i 3
    subst ex24q
    refine fk_sld hx hb hX hbl hbA hS hL (k := i + 3) (by omega) dL_law_433 ?_
    refine lv_i2l hx hb dL_law_434 rfl ?_
    refine lv_bipush (v := 32) hx hb dL_law_435 (by decide) ?_
    refine lv_lshl hx hb dL_law_437 rfl ?_
    refine lv_aload_n hx hb dL_law_438 rfl (lv_at hl 1 rfl) ?_
    refine lv_iload hx hb dL_law_439 (lv_at hl 5 rfl) ?_
    refine lv_iconst (v := 4) hx hb dL_law_441 (by decide) ?_
    refine lv_iadd hx hb dL_law_442 ?_
    refine lv_topi (fun x25 ex25 => ?_)
    have ex25q : x25 = (nI (i + 4)) := by
      rw [ex25]; exact nI_add i 4
    subst ex25q
    refine fk_sld hx hb hX hbl hbA hS hL (k := i + 4) (by omega) dL_law_443 ?_
    refine lv_i2l hx hb dL_law_444 rfl ?_
    refine lv_ldc2 (v := 4294967295) hx hb hown k1 dL_law_445 ?_
    refine lv_land hx hb dL_law_448 ?_
    refine lv_lor hx hb dL_law_449 ?_
    refine lv_topl (fun x26 ex26 => ?_)
    have ex26q : x26 = fk_lg (xs (i + 3)) (xs (i + 4)) := by
      rw [ex26]; rfl
    subst ex26q
    refine lv_aload_n hx hb dL_law_450 rfl (lv_at hl 1 rfl) ?_
    refine lv_iload hx hb dL_law_451 (lv_at hl 5 rfl) ?_
    refine lv_iconst (v := 5) hx hb dL_law_453 (by decide) ?_
    refine lv_iadd hx hb dL_law_454 ?_
    refine lv_topi (fun x27 ex27 => ?_)
    have ex27q : x27 = (nI (i + 5)) := by
      rw [ex27]; exact nI_add i 5
    subst ex27q
    refine fk_sld hx hb hX hbl hbA hS hL (k := i + 5) (by omega) dL_law_455 ?_
    refine lv_aload_n hx hb dL_law_456 rfl (lv_at hl 1 rfl) ?_
    refine lv_iload hx hb dL_law_457 (lv_at hl 5 rfl) ?_
    refine lv_bipush (v := 6) hx hb dL_law_459 (by decide) ?_
    refine lv_iadd hx hb dL_law_461 ?_
    refine lv_topi (fun x28 ex28 => ?_)
    have ex28q : x28 = (nI (i + 6)) := by
      rw [ex28]; exact nI_add i 6
    subst ex28q
    refine fk_sld hx hb hX hbl hbA hS hL (k := i + 6) (by omega) dL_law_462 ?_
    refine lv_i2l hx hb dL_law_463 rfl ?_
    refine lv_bipush (v := 32) hx hb dL_law_464 (by decide) ?_
    refine lv_lshl hx hb dL_law_466 rfl ?_
    refine lv_aload_n hx hb dL_law_467 rfl (lv_at hl 1 rfl) ?_
    refine lv_iload hx hb dL_law_468 (lv_at hl 5 rfl) ?_
    refine lv_bipush (v := 7) hx hb dL_law_470 (by decide) ?_
    refine lv_iadd hx hb dL_law_472 ?_
    refine lv_topi (fun x29 ex29 => ?_)
    have ex29q : x29 = (nI (i + 7)) := by
      rw [ex29]; exact nI_add i 7
    subst ex29q
    refine fk_sld hx hb hX hbl hbA hS hL (k := i + 7) (by omega) dL_law_473 ?_
    refine lv_i2l hx hb dL_law_474 rfl ?_
    refine lv_ldc2 (v := 4294967295) hx hb hown k1 dL_law_475 ?_
    refine lv_land hx hb dL_law_478 ?_
    refine lv_lor hx hb dL_law_479 ?_
    refine lv_topl (fun x30 ex30 => ?_)
    have ex30q : x30 = fk_lg (xs (i + 6)) (xs (i + 7)) := by
      rw [ex30]; rfl
    subst ex30q
    have hP : va_P D vwCl ((fk_wm cJ cI cZ am cd (nI n) lo (nI T.length) wd sg up dn of bey rnd tx pt sn) ++ (((oA, .inl (cJ, 1, .inr (.inl (vp_updL fo 0 v)))) :: kt) ++ (fk_wx cJ cC cK ad kd (nI n) (fk_lApp n kf lo (xs (i + 1)) (xs (i + 2)) (fk_lg (xs (i + 3)) (xs (i + 4))) (xs (i + 5)) (fk_lg (xs (i + 6)) (xs (i + 7)))) ch (nI (40 - T.length)) g1 g2 g3 g4 g5))) H := fk_swP hP
    have hD : va_D A ((fk_wm cJ cI cZ am cd (nI n) lo (nI T.length) wd sg up dn of bey rnd tx pt sn) ++ (((oA, .inl (cJ, 1, .inr (.inl (vp_updL fo 0 v)))) :: kt) ++ (fk_wx cJ cC cK ad kd (nI n) (fk_lApp n kf lo (xs (i + 1)) (xs (i + 2)) (fk_lg (xs (i + 3)) (xs (i + 4))) (xs (i + 5)) (fk_lg (xs (i + 6)) (xs (i + 7)))) ch (nI (40 - T.length)) g1 g2 g3 g4 g5))) := fk_swD hD
    refine fk_cl hD hS hA (va_runV (As := [.int (xs (i + 1)), .int (xs (i + 2)), .long (fk_lg (xs (i + 3)) (xs (i + 4))), .int (xs (i + 5)), .long (fk_lg (xs (i + 6)) (xs (i + 7)))]) (rest := []) ⟨hx, hb, hml, hown, hts⟩ (kX4_apply _ am (((oA, .inl (cJ, 1, .inr (.inl (vp_updL fo 0 v)))) :: kt) ++ (fk_wx cJ cC cK ad kd (nI n) (fk_lApp n kf lo (xs (i + 1)) (xs (i + 2)) (fk_lg (xs (i + 3)) (xs (i + 4))) (xs (i + 5)) (fk_lg (xs (i + 6)) (xs (i + 7)))) ch (nI (40 - T.length)) g1 g2 g3 g4 g5)) cd lo (nI T.length) wd sg up dn of bey rnd tx pt sn n kf (xs (i + 1)) (xs (i + 2)) (xs (i + 5)) (fk_lg (xs (i + 3)) (xs (i + 4))) (fk_lg (xs (i + 6)) (xs (i + 7))) hMT) (cwV 5 hts gL_law_X4_apply rfl rfl rfl (by decide +kernel) ⟨Nat.le_of_ble_eq_true rfl, Nat.le_of_ble_eq_true rfl⟩) (fk_preV 0 5 hK hN hP hD rfl rfl) rfl rfl hl.1 rfl (lv_room (Nat.le_of_ble_eq_true rfl)) dL_law_480 ⟨by show cells + 1 + 0 ≤ 604189; omega, by show slots + 6 + 0 ≤ 7283536; omega⟩) (fun r31 u2 H locs hwr31 hP hD hS => ?_)
    obtain ⟨d2, l2, p2, s2⟩ := u2
    obtain ⟨e3, e6, e4⟩ : d2 = 0 ∧ r31.toInt = fk_sApp n kf (xs (i + 1)) (xs (i + 2)) (fk_lg (xs (i + 3)) (xs (i + 4))) (xs (i + 5)) (fk_lg (xs (i + 6)) (xs (i + 7))) ∧ l2 = (fk_lApp n kf lo (xs (i + 1)) (xs (i + 2)) (fk_lg (xs (i + 3)) (xs (i + 4))) (xs (i + 5)) (fk_lg (xs (i + 6)) (xs (i + 7)))) := by
      rcases hwr31 with ⟨ya, y1, y2⟩ | ⟨ya, y1, y2, y3⟩
      · exact absurd ya ea
      · exact ⟨y1, y2, y3⟩
    have hP : va_P D vwCl ((fk_wm cJ cI cZ am d2 (nI n) l2 (nI T.length) wd sg up dn of bey rnd tx p2 s2) ++ (((oA, .inl (cJ, 1, .inr (.inl (vp_updL fo 0 v)))) :: kt) ++ (fk_wx cJ cC cK ad kd (nI n) (fk_lApp n kf lo (xs (i + 1)) (xs (i + 2)) (fk_lg (xs (i + 3)) (xs (i + 4))) (xs (i + 5)) (fk_lg (xs (i + 6)) (xs (i + 7)))) ch (nI (40 - T.length)) g1 g2 g3 g4 g5))) H := hP
    have hD : va_D A ((fk_wm cJ cI cZ am d2 (nI n) l2 (nI T.length) wd sg up dn of bey rnd tx p2 s2) ++ (((oA, .inl (cJ, 1, .inr (.inl (vp_updL fo 0 v)))) :: kt) ++ (fk_wx cJ cC cK ad kd (nI n) (fk_lApp n kf lo (xs (i + 1)) (xs (i + 2)) (fk_lg (xs (i + 3)) (xs (i + 4))) (xs (i + 5)) (fk_lg (xs (i + 6)) (xs (i + 7)))) ch (nI (40 - T.length)) g1 g2 g3 g4 g5))) := hD
    rw [e3, e4] at hP hD
    have hP : va_P D vwCl ((fk_wx cJ cC cK ad kd (nI n) (fk_lApp n kf lo (xs (i + 1)) (xs (i + 2)) (fk_lg (xs (i + 3)) (xs (i + 4))) (xs (i + 5)) (fk_lg (xs (i + 6)) (xs (i + 7)))) ch (nI (40 - T.length)) g1 g2 g3 g4 g5) ++ ((fk_wm cJ cI cZ am 0 (nI n) (fk_lApp n kf lo (xs (i + 1)) (xs (i + 2)) (fk_lg (xs (i + 3)) (xs (i + 4))) (xs (i + 5)) (fk_lg (xs (i + 6)) (xs (i + 7)))) (nI T.length) wd sg up dn of bey rnd tx p2 s2) ++ ((oA, .inl (cJ, 1, .inr (.inl (vp_updL fo 0 v)))) :: kt))) H := fk_swQ hP
    have hD : va_D A ((fk_wx cJ cC cK ad kd (nI n) (fk_lApp n kf lo (xs (i + 1)) (xs (i + 2)) (fk_lg (xs (i + 3)) (xs (i + 4))) (xs (i + 5)) (fk_lg (xs (i + 6)) (xs (i + 7)))) ch (nI (40 - T.length)) g1 g2 g3 g4 g5) ++ ((fk_wm cJ cI cZ am 0 (nI n) (fk_lApp n kf lo (xs (i + 1)) (xs (i + 2)) (fk_lg (xs (i + 3)) (xs (i + 4))) (xs (i + 5)) (fk_lg (xs (i + 6)) (xs (i + 7)))) (nI T.length) wd sg up dn of bey rnd tx p2 s2) ++ ((oA, .inl (cJ, 1, .inr (.inl (vp_updL fo 0 v)))) :: kt))) := fk_swE hD
    refine lv_lstore (lv' := [(6, .long r31), (5, .int 0), (0, .ref b), (1, .ref (ad 0)), (2, .ref (am 0)), (3, .ref oA), (4, .int (nI i))]) hx hb dL_law_483 hl (by decide) rfl (fun ls hl => ?_)
    refine lv_aload_n hx hb dL_law_485 rfl (lv_at hl 4 rfl) ?_
    have hP : va_P D vwCl ((fk_wm cJ cI cZ am 0 (nI n) (fk_lApp n kf lo (xs (i + 1)) (xs (i + 2)) (fk_lg (xs (i + 3)) (xs (i + 4))) (xs (i + 5)) (fk_lg (xs (i + 6)) (xs (i + 7)))) (nI T.length) wd sg up dn of bey rnd tx p2 s2) ++ (((oA, .inl (cJ, 1, .inr (.inl (vp_updL fo 0 v)))) :: kt) ++ (fk_wx cJ cC cK ad kd (nI n) (fk_lApp n kf lo (xs (i + 1)) (xs (i + 2)) (fk_lg (xs (i + 3)) (xs (i + 4))) (xs (i + 5)) (fk_lg (xs (i + 6)) (xs (i + 7)))) ch (nI (40 - T.length)) g1 g2 g3 g4 g5))) H := fk_swP hP
    have hD : va_D A ((fk_wm cJ cI cZ am 0 (nI n) (fk_lApp n kf lo (xs (i + 1)) (xs (i + 2)) (fk_lg (xs (i + 3)) (xs (i + 4))) (xs (i + 5)) (fk_lg (xs (i + 6)) (xs (i + 7)))) (nI T.length) wd sg up dn of bey rnd tx p2 s2) ++ (((oA, .inl (cJ, 1, .inr (.inl (vp_updL fo 0 v)))) :: kt) ++ (fk_wx cJ cC cK ad kd (nI n) (fk_lApp n kf lo (xs (i + 1)) (xs (i + 2)) (fk_lg (xs (i + 3)) (xs (i + 4))) (xs (i + 5)) (fk_lg (xs (i + 6)) (xs (i + 7)))) ch (nI (40 - T.length)) g1 g2 g3 g4 g5))) := fk_swD hD
    refine fk_ci hD hS hA (va_runV (As := []) (rest := []) ⟨hx, hb, hml, hown, hts⟩ (kX4_thrown _ am (((oA, .inl (cJ, 1, .inr (.inl (vp_updL fo 0 v)))) :: kt) ++ (fk_wx cJ cC cK ad kd (nI n) (fk_lApp n kf lo (xs (i + 1)) (xs (i + 2)) (fk_lg (xs (i + 3)) (xs (i + 4))) (xs (i + 5)) (fk_lg (xs (i + 6)) (xs (i + 7)))) ch (nI (40 - T.length)) g1 g2 g3 g4 g5)) 0 (fk_lApp n kf lo (xs (i + 1)) (xs (i + 2)) (fk_lg (xs (i + 3)) (xs (i + 4))) (xs (i + 5)) (fk_lg (xs (i + 6)) (xs (i + 7)))) (nI T.length) wd sg up dn of bey rnd tx p2 s2 n kf hMT) (cwV 0 hts gL_law_X4_thrown rfl rfl rfl (by decide +kernel) ⟨Nat.le_of_ble_eq_true rfl, Nat.le_of_ble_eq_true rfl⟩) (fk_preV 0 5 hK hN hP hD rfl rfl) rfl rfl hl.1 rfl (lv_room (Nat.le_of_ble_eq_true rfl)) dL_law_486 ⟨by show cells + 1 + 0 + 0 ≤ 604189; omega, by show slots + 6 + 0 + 0 ≤ 7283536; omega⟩) (fun r32 u3 H locs hwr32 hP hD hS => ?_)
    have e9 : r32 = 0 := hwr32
    subst e9
    have hP : va_P D vwCl ((fk_wx cJ cC cK ad kd (nI n) (fk_lApp n kf lo (xs (i + 1)) (xs (i + 2)) (fk_lg (xs (i + 3)) (xs (i + 4))) (xs (i + 5)) (fk_lg (xs (i + 6)) (xs (i + 7)))) ch (nI (40 - T.length)) g1 g2 g3 g4 g5) ++ ((fk_wm cJ cI cZ am 0 (nI n) (fk_lApp n kf lo (xs (i + 1)) (xs (i + 2)) (fk_lg (xs (i + 3)) (xs (i + 4))) (xs (i + 5)) (fk_lg (xs (i + 6)) (xs (i + 7)))) (nI T.length) wd sg up dn of bey rnd tx p2 s2) ++ ((oA, .inl (cJ, 1, .inr (.inl (vp_updL fo 0 v)))) :: kt))) H := fk_swQ hP
    have hD : va_D A ((fk_wx cJ cC cK ad kd (nI n) (fk_lApp n kf lo (xs (i + 1)) (xs (i + 2)) (fk_lg (xs (i + 3)) (xs (i + 4))) (xs (i + 5)) (fk_lg (xs (i + 6)) (xs (i + 7)))) ch (nI (40 - T.length)) g1 g2 g3 g4 g5) ++ ((fk_wm cJ cI cZ am 0 (nI n) (fk_lApp n kf lo (xs (i + 1)) (xs (i + 2)) (fk_lg (xs (i + 3)) (xs (i + 4))) (xs (i + 5)) (fk_lg (xs (i + 6)) (xs (i + 7)))) (nI T.length) wd sg up dn of bey rnd tx p2 s2) ++ ((oA, .inl (cJ, 1, .inr (.inl (vp_updL fo 0 v)))) :: kt))) := fk_swE hD
    refine lv_iload hx hb dL_law_489 (lv_at hl 1 rfl) ?_
    refine lv_icmp_eq (tgt := 496) hx hb dL_law_491 (by decide) (fun c_491 => ?_) (fun c_491 => False.elim (c_491 rfl))
    refine lv_iload hx hb dL_law_496 (lv_at hl 1 rfl) ?_
    refine lv_if_ne (tgt := 512) hx hb dL_law_498 (by decide) (fun c_498 => False.elim (c_498 rfl)) (fun c_498 => ?_)
    refine lv_aload_n hx hb dL_law_501 rfl (lv_at hl 5 rfl) ?_
    refine lv_iconst (v := 0) hx hb dL_law_502 (by decide) ?_
    refine fk_lald hx hb hK hP 26 0 rfl rfl (i := 0) (by decide) (by decide) dL_law_503 ?_
    refine lv_lload hx hb dL_law_504 (lv_at hl 0 rfl) ?_
    refine W.lcmp hx hb dL_law_506 ?_
    refine lv_if_eq (tgt := 512) hx hb dL_law_507 (by decide) (fun c_507 => ?_) (fun c_507 => False.elim ((by rw [lg_cmp_eq] at c_507; exact c_507 (by rw [fk_lu]; exact Int64.toInt_inj.mp (ev.trans e6.symm)))))
    refine lv_goto (tgt := 1132) hx hb dL_law_512 (by decide) ?_
    refine W.widen (k := cells + 1) (n := slots + 7) (by omega) (by omega) ?_
    exact kk _ _ _ (fk_J.mk T hP hD hS hKL hMT (fk_lApp01 hlo) hT1 hT2 hT3) (lv_sub hl [2, 3, 4, 5, 6] rfl)
set_option maxRecDepth 20000 in
theorem gL_tbl_L_atT : GoodIn lw_tbl (va_wsS RL 66 yL_at wsL_atT) := goodIn_of _ (by decide +kernel)
set_option maxHeartbeats 4000000 in
set_option maxRecDepth 100000 in
/-- at -/
theorem lc_7 {p : Program} {l : Launch} {e : Env} {s : State} {m : MethodId} {below : List Frame} {meth : Method} {c : Code} {QQ : State → Prop} {H : Heap} {locs : List Loc} {ls : Array Slot} {D : va_G} {cJ cC cI cZ cK : ClassId} {ad am : Nat → Nat} {oA b L : Nat} {xs : Nat → Int32} {A : Nat → Prop} {i cells slots : Nat} (hC : fk_LC p l s m c D cJ cC cI cZ cK b L xs A) (hi : i + 9 ≤ L) (hJ : fk_J D cJ cC cI cZ cK ad am oA A s.heap H locs) (hl : lv_has ls 8 [(0, .ref b), (1, .ref (ad 0)), (2, .ref (am 0)), (3, .ref oA), (4, .int (nI i))]) (hc1 : cells + 1 ≤ 604189) (hs1 : slots + 7 ≤ 7283536) (kk : ∀ (H : Heap) (locs : List Loc) (ls : Array Slot), fk_J D cJ cC cI cZ cK ad am oA A s.heap H locs → lv_has ls 8 [(0, .ref b), (1, .ref (ad 0)), (2, .ref (am 0)), (3, .ref oA), (4, .int (nI i))] → W p l e room_1 s m #[Value.ref b] below meth c H locs (cells + 1) (slots + 7) QQ (F0 m 1132 ls [])) : W p l e room_1 s m #[Value.ref b] below meth c H locs cells slots QQ (F0 m 761 ls []) := by
  obtain ⟨hx, hb, hml, hown, htb, hX, hbl, hbA, hA, hK, hN, hXW, hlt, hL⟩ := hC
  have hts : ∀ w ∈ wsL_law, w.before #[Value.ref b] s = true := fun w h => htb w (wsL_law_in w h)
  obtain ⟨n, kf, ka, kt, kd, lo, cd, T, ch, f1, f2, f3, f4, f5, wd, sg, up, dn, of, bey, rnd, tx, pt, sn, fo, hP, hD, hS, hKL, hMT, hlo, hT1, hT2, hT3⟩ := hJ
  have hn40 := hKL.2.1
  have hKT := hKL.to (fk_wm cJ cI cZ am cd (nI n) lo (nI T.length) wd sg up dn of bey rnd tx pt sn) (oA, .inl (cJ, 1, .inr (.inl fo))) rfl
  have hP : va_P D vwCl ((fk_wx cJ cC cK ad kd (nI n) lo ch (nI (40 - T.length)) f1 f2 f3 f4 f5) ++ ((fk_wm cJ cI cZ am cd (nI n) lo (nI T.length) wd sg up dn of bey rnd tx pt sn) ++ ((oA, .inl (cJ, 1, .inr (.inl fo))) :: kt))) H := hP
  have hD : va_D A ((fk_wx cJ cC cK ad kd (nI n) lo ch (nI (40 - T.length)) f1 f2 f3 f4 f5) ++ ((fk_wm cJ cI cZ am cd (nI n) lo (nI T.length) wd sg up dn of bey rnd tx pt sn) ++ ((oA, .inl (cJ, 1, .inr (.inl fo))) :: kt))) := hD
  refine lv_aload_n hx hb dL_law_761 rfl (lv_at hl 1 rfl) ?_
  refine lv_aload_n hx hb dL_law_762 rfl (lv_at hl 0 rfl) ?_
  refine lv_iload hx hb dL_law_763 (lv_at hl 4 rfl) ?_
  refine lv_iconst (v := 1) hx hb dL_law_765 (by decide) ?_
  refine lv_iadd hx hb dL_law_766 ?_
  refine lv_topi (fun x1 ex1 => ?_)
  have ex1q : x1 = (nI (i + 1)) := by
    rw [ex1]; exact nI_add i 1
  subst ex1q
  refine fk_sld hx hb hX hbl hbA hS hL (k := i + 1) (by omega) dL_law_767 ?_
  refine lv_aload_n hx hb dL_law_768 rfl (lv_at hl 3 rfl) ?_
  refine fk_xi hD hS hA (vx_runSX (hh := [(0, 9, 12, 19)]) (As := [.ref (ad 0), .int (xs (i + 1)), .ref oA]) (rest := []) ⟨hx, hb, hml, hown, htb⟩ (kL_at _ ad ((fk_wm cJ cI cZ am cd (nI n) lo (nI T.length) wd sg up dn of bey rnd tx pt sn) ++ ((oA, .inl (cJ, 1, .inr (.inl fo))) :: kt)) kd lo ch (40 - T.length) f1 f2 f3 f4 f5 n oA 11 fo (xs (i + 1)) hlt (by omega) rfl) (vx_cwSW 3 htb gL_tbl_L_atT rfl rfl rfl (by decide +kernel) ⟨Nat.le_of_ble_eq_true rfl, Nat.le_of_ble_eq_true rfl⟩) (fk_preST hXW hS hA hK hN hP hD) rfl rfl hl.1 rfl (lv_room (Nat.le_of_ble_eq_true rfl)) dL_law_769 ⟨by show cells + 1 ≤ 604189; omega, by show slots + 6 ≤ 7283536; omega⟩) (fun ce q9 u9 H locs hpx hP hD hS hq1 hq2 hq3 => False.elim hpx) (fun r2 u1 H locs hwr2 hP hD hS => ?_)
  rcases hwr2 with ⟨ea, er, e5⟩ | ⟨b1, hb1, hi1, er, e5⟩
  · have hP : va_P D vwCl ((fk_wx cJ cC cK ad kd (nI n) lo ch (nI (40 - T.length)) f1 f2 f3 f4 f5) ++ ((fk_wm cJ cI cZ am cd (nI n) lo (nI T.length) wd sg up dn of bey rnd tx pt sn) ++ ((oA, .inl (cJ, 1, .inr (.inl u1))) :: kt))) H := hP
    have hD : va_D A ((fk_wx cJ cC cK ad kd (nI n) lo ch (nI (40 - T.length)) f1 f2 f3 f4 f5) ++ ((fk_wm cJ cI cZ am cd (nI n) lo (nI T.length) wd sg up dn of bey rnd tx pt sn) ++ ((oA, .inl (cJ, 1, .inr (.inl u1))) :: kt))) := hD
    rw [e5] at hP hD
    have hP : va_P D vwCl ((fk_wx cJ cC cK ad kd (nI n) lo ch (nI (40 - T.length)) f1 f2 f3 f4 f5) ++ ((fk_wm cJ cI cZ am cd (nI n) lo (nI T.length) wd sg up dn of bey rnd tx pt sn) ++ ((oA, .inl (cJ, 1, .inr (.inl fo))) :: kt))) H := hP
    have hD : va_D A ((fk_wx cJ cC cK ad kd (nI n) lo ch (nI (40 - T.length)) f1 f2 f3 f4 f5) ++ ((fk_wm cJ cI cZ am cd (nI n) lo (nI T.length) wd sg up dn of bey rnd tx pt sn) ++ ((oA, .inl (cJ, 1, .inr (.inl fo))) :: kt))) := hD
    subst er
    refine lv_istore (lv' := [(5, .int 1), (0, .ref b), (1, .ref (ad 0)), (2, .ref (am 0)), (3, .ref oA), (4, .int (nI i))]) hx hb dL_law_772 hl (by decide) rfl (fun ls hl => ?_)
    refine lv_aload_n hx hb dL_law_774 rfl (lv_at hl 3 rfl) ?_
    refine lv_aload_n hx hb dL_law_775 rfl (lv_at hl 1 rfl) ?_
    refine lv_iload hx hb dL_law_776 (lv_at hl 5 rfl) ?_
    refine lv_iconst (v := 1) hx hb dL_law_778 (by decide) ?_
    refine lv_iadd hx hb dL_law_779 ?_
    refine lv_topi (fun x3 ex3 => ?_)
    have ex3q : x3 = (nI (i + 1)) := by
      rw [ex3]; exact nI_add i 1
    subst ex3q
    refine fk_sld hx hb hX hbl hbA hS hL (k := i + 1) (by omega) dL_law_780 ?_
    have hP : va_P D vwCl ((fk_wm cJ cI cZ am cd (nI n) lo (nI T.length) wd sg up dn of bey rnd tx pt sn) ++ (((oA, .inl (cJ, 1, .inr (.inl fo))) :: kt) ++ (fk_wx cJ cC cK ad kd (nI n) lo ch (nI (40 - T.length)) f1 f2 f3 f4 f5))) H := fk_swP hP
    have hD : va_D A ((fk_wm cJ cI cZ am cd (nI n) lo (nI T.length) wd sg up dn of bey rnd tx pt sn) ++ (((oA, .inl (cJ, 1, .inr (.inl fo))) :: kt) ++ (fk_wx cJ cC cK ad kd (nI n) lo ch (nI (40 - T.length)) f1 f2 f3 f4 f5))) := fk_swD hD
    refine fk_ci hD hS hA (va_runV (As := [.int (xs (i + 1))]) (rest := []) ⟨hx, hb, hml, hown, hts⟩ (kX4_at _ am (((oA, .inl (cJ, 1, .inr (.inl fo))) :: kt) ++ (fk_wx cJ cC cK ad kd (nI n) lo ch (nI (40 - T.length)) f1 f2 f3 f4 f5)) cd lo wd sg up dn of bey rnd tx pt sn n kf T.length (xs (i + 1)) hMT (by omega)) (cwV 1 hts gL_law_X4_at rfl rfl rfl (by decide +kernel) ⟨Nat.le_of_ble_eq_true rfl, Nat.le_of_ble_eq_true rfl⟩) (fk_preV 0 5 hK hN hP hD rfl rfl) rfl rfl hl.1 rfl (lv_room (Nat.le_of_ble_eq_true rfl)) dL_law_781 ⟨by show cells + 1 + 0 ≤ 604189; omega, by show slots + 6 + 0 ≤ 7283536; omega⟩) (fun r4 d2 H locs hwr4 hP hD hS => ?_)
    have e3 : d2 = 1 := by
      rcases hwr4 with ⟨ya, y1, y2⟩ | ⟨b2, hb2, hi2, y1, y2⟩
      · exact y2
      · rw [hi2, nI_toInt (by omega)] at ea; omega
    have hP : va_P D vwCl ((fk_wm cJ cI cZ am d2 (nI n) lo (nI T.length) wd sg up dn of bey rnd tx pt sn) ++ (((oA, .inl (cJ, 1, .inr (.inl fo))) :: kt) ++ (fk_wx cJ cC cK ad kd (nI n) lo ch (nI (40 - T.length)) f1 f2 f3 f4 f5))) H := hP
    have hD : va_D A ((fk_wm cJ cI cZ am d2 (nI n) lo (nI T.length) wd sg up dn of bey rnd tx pt sn) ++ (((oA, .inl (cJ, 1, .inr (.inl fo))) :: kt) ++ (fk_wx cJ cC cK ad kd (nI n) lo ch (nI (40 - T.length)) f1 f2 f3 f4 f5))) := hD
    rw [e3] at hP hD
    have hP : va_P D vwCl ((fk_wx cJ cC cK ad kd (nI n) lo ch (nI (40 - T.length)) f1 f2 f3 f4 f5) ++ ((fk_wm cJ cI cZ am 1 (nI n) lo (nI T.length) wd sg up dn of bey rnd tx pt sn) ++ ((oA, .inl (cJ, 1, .inr (.inl fo))) :: kt))) H := fk_swQ hP
    have hD : va_D A ((fk_wx cJ cC cK ad kd (nI n) lo ch (nI (40 - T.length)) f1 f2 f3 f4 f5) ++ ((fk_wm cJ cI cZ am 1 (nI n) lo (nI T.length) wd sg up dn of bey rnd tx pt sn) ++ ((oA, .inl (cJ, 1, .inr (.inl fo))) :: kt))) := fk_swE hD
    refine lv_istore (lv' := [(6, .int r4), (5, .int 1), (0, .ref b), (1, .ref (ad 0)), (2, .ref (am 0)), (3, .ref oA), (4, .int (nI i))]) hx hb dL_law_784 hl (by decide) rfl (fun ls hl => ?_)
    refine lv_aload_n hx hb dL_law_786 rfl (lv_at hl 4 rfl) ?_
    have hP : va_P D vwCl ((fk_wm cJ cI cZ am 1 (nI n) lo (nI T.length) wd sg up dn of bey rnd tx pt sn) ++ (((oA, .inl (cJ, 1, .inr (.inl fo))) :: kt) ++ (fk_wx cJ cC cK ad kd (nI n) lo ch (nI (40 - T.length)) f1 f2 f3 f4 f5))) H := fk_swP hP
    have hD : va_D A ((fk_wm cJ cI cZ am 1 (nI n) lo (nI T.length) wd sg up dn of bey rnd tx pt sn) ++ (((oA, .inl (cJ, 1, .inr (.inl fo))) :: kt) ++ (fk_wx cJ cC cK ad kd (nI n) lo ch (nI (40 - T.length)) f1 f2 f3 f4 f5))) := fk_swD hD
    refine fk_ci hD hS hA (va_runV (As := []) (rest := []) ⟨hx, hb, hml, hown, hts⟩ (kX4_thrown _ am (((oA, .inl (cJ, 1, .inr (.inl fo))) :: kt) ++ (fk_wx cJ cC cK ad kd (nI n) lo ch (nI (40 - T.length)) f1 f2 f3 f4 f5)) 1 lo (nI T.length) wd sg up dn of bey rnd tx pt sn n kf hMT) (cwV 0 hts gL_law_X4_thrown rfl rfl rfl (by decide +kernel) ⟨Nat.le_of_ble_eq_true rfl, Nat.le_of_ble_eq_true rfl⟩) (fk_preV 0 5 hK hN hP hD rfl rfl) rfl rfl hl.1 rfl (lv_room (Nat.le_of_ble_eq_true rfl)) dL_law_787 ⟨by show cells + 1 + 0 + 0 ≤ 604189; omega, by show slots + 6 + 0 + 0 ≤ 7283536; omega⟩) (fun r5 u3 H locs hwr5 hP hD hS => ?_)
    have e9 : r5 = 1 := hwr5
    subst e9
    have hP : va_P D vwCl ((fk_wx cJ cC cK ad kd (nI n) lo ch (nI (40 - T.length)) f1 f2 f3 f4 f5) ++ ((fk_wm cJ cI cZ am 1 (nI n) lo (nI T.length) wd sg up dn of bey rnd tx pt sn) ++ ((oA, .inl (cJ, 1, .inr (.inl fo))) :: kt))) H := fk_swQ hP
    have hD : va_D A ((fk_wx cJ cC cK ad kd (nI n) lo ch (nI (40 - T.length)) f1 f2 f3 f4 f5) ++ ((fk_wm cJ cI cZ am 1 (nI n) lo (nI T.length) wd sg up dn of bey rnd tx pt sn) ++ ((oA, .inl (cJ, 1, .inr (.inl fo))) :: kt))) := fk_swE hD
    refine lv_iload hx hb dL_law_790 (lv_at hl 1 rfl) ?_
    refine lv_icmp_eq (tgt := 797) hx hb dL_law_792 (by decide) (fun c_792 => ?_) (fun c_792 => False.elim (c_792 rfl))
    refine lv_iload hx hb dL_law_797 (lv_at hl 1 rfl) ?_
    refine lv_if_ne (tgt := 814) hx hb dL_law_799 (by decide) (fun c_799 => ?_) (fun c_799 => False.elim (absurd c_799 (by decide)))
    refine lv_goto (tgt := 1132) hx hb dL_law_814 (by decide) ?_
    refine W.widen (k := cells + 1) (n := slots + 7) (by omega) (by omega) ?_
    exact kk _ _ _ (fk_J.mk T hP hD hS hKL hMT hlo hT1 hT2 hT3) (lv_sub hl [2, 3, 4, 5, 6] rfl)
  · have hP : va_P D vwCl ((fk_wx cJ cC cK ad kd (nI n) lo ch (nI (40 - T.length)) f1 f2 f3 f4 f5) ++ ((fk_wm cJ cI cZ am cd (nI n) lo (nI T.length) wd sg up dn of bey rnd tx pt sn) ++ ((oA, .inl (cJ, 1, .inr (.inl u1))) :: kt))) H := hP
    have hD : va_D A ((fk_wx cJ cC cK ad kd (nI n) lo ch (nI (40 - T.length)) f1 f2 f3 f4 f5) ++ ((fk_wm cJ cI cZ am cd (nI n) lo (nI T.length) wd sg up dn of bey rnd tx pt sn) ++ ((oA, .inl (cJ, 1, .inr (.inl u1))) :: kt))) := hD
    rw [e5] at hP hD
    have hP : va_P D vwCl ((fk_wx cJ cC cK ad kd (nI n) lo ch (nI (40 - T.length)) f1 f2 f3 f4 f5) ++ ((fk_wm cJ cI cZ am cd (nI n) lo (nI T.length) wd sg up dn of bey rnd tx pt sn) ++ ((oA, .inl (cJ, 1, .inr (.inl (vp_updL fo 0 (ch (40 - T.length + b1)).toInt64)))) :: kt))) H := hP
    have hD : va_D A ((fk_wx cJ cC cK ad kd (nI n) lo ch (nI (40 - T.length)) f1 f2 f3 f4 f5) ++ ((fk_wm cJ cI cZ am cd (nI n) lo (nI T.length) wd sg up dn of bey rnd tx pt sn) ++ ((oA, .inl (cJ, 1, .inr (.inl (vp_updL fo 0 (ch (40 - T.length + b1)).toInt64)))) :: kt))) := hD
    subst er
    refine lv_istore (lv' := [(5, .int 0), (0, .ref b), (1, .ref (ad 0)), (2, .ref (am 0)), (3, .ref oA), (4, .int (nI i))]) hx hb dL_law_772 hl (by decide) rfl (fun ls hl => ?_)
    refine lv_aload_n hx hb dL_law_774 rfl (lv_at hl 3 rfl) ?_
    refine lv_aload_n hx hb dL_law_775 rfl (lv_at hl 1 rfl) ?_
    refine lv_iload hx hb dL_law_776 (lv_at hl 5 rfl) ?_
    refine lv_iconst (v := 1) hx hb dL_law_778 (by decide) ?_
    refine lv_iadd hx hb dL_law_779 ?_
    refine lv_topi (fun x6 ex6 => ?_)
    have ex6q : x6 = (nI (i + 1)) := by
      rw [ex6]; exact nI_add i 1
    subst ex6q
    refine fk_sld hx hb hX hbl hbA hS hL (k := i + 1) (by omega) dL_law_780 ?_
    have hP : va_P D vwCl ((fk_wm cJ cI cZ am cd (nI n) lo (nI T.length) wd sg up dn of bey rnd tx pt sn) ++ (((oA, .inl (cJ, 1, .inr (.inl (vp_updL fo 0 (ch (40 - T.length + b1)).toInt64)))) :: kt) ++ (fk_wx cJ cC cK ad kd (nI n) lo ch (nI (40 - T.length)) f1 f2 f3 f4 f5))) H := fk_swP hP
    have hD : va_D A ((fk_wm cJ cI cZ am cd (nI n) lo (nI T.length) wd sg up dn of bey rnd tx pt sn) ++ (((oA, .inl (cJ, 1, .inr (.inl (vp_updL fo 0 (ch (40 - T.length + b1)).toInt64)))) :: kt) ++ (fk_wx cJ cC cK ad kd (nI n) lo ch (nI (40 - T.length)) f1 f2 f3 f4 f5))) := fk_swD hD
    refine fk_ci hD hS hA (va_runV (As := [.int (xs (i + 1))]) (rest := []) ⟨hx, hb, hml, hown, hts⟩ (kX4_at _ am (((oA, .inl (cJ, 1, .inr (.inl (vp_updL fo 0 (ch (40 - T.length + b1)).toInt64)))) :: kt) ++ (fk_wx cJ cC cK ad kd (nI n) lo ch (nI (40 - T.length)) f1 f2 f3 f4 f5)) cd lo wd sg up dn of bey rnd tx pt sn n kf T.length (xs (i + 1)) hMT (by omega)) (cwV 1 hts gL_law_X4_at rfl rfl rfl (by decide +kernel) ⟨Nat.le_of_ble_eq_true rfl, Nat.le_of_ble_eq_true rfl⟩) (fk_preV 0 5 hK hN hP hD rfl rfl) rfl rfl hl.1 rfl (lv_room (Nat.le_of_ble_eq_true rfl)) dL_law_781 ⟨by show cells + 1 + 0 ≤ 604189; omega, by show slots + 6 + 0 ≤ 7283536; omega⟩) (fun r7 d2 H locs hwr7 hP hD hS => ?_)
    obtain ⟨e3, e6⟩ : d2 = 0 ∧ r7 = tx b1 := by
      rcases hwr7 with ⟨ya, y1, y2⟩ | ⟨b2, hb2, hi2, y1, y2⟩
      · rw [hi1, nI_toInt (by omega)] at ya; omega
      · have hbb : b2 = b1 := by
          have z := congrArg Int32.toInt (hi2.symm.trans hi1)
          rw [nI_toInt (by omega), nI_toInt (by omega)] at z; omega
        subst hbb
        exact ⟨y2, y1⟩
    have hP : va_P D vwCl ((fk_wm cJ cI cZ am d2 (nI n) lo (nI T.length) wd sg up dn of bey rnd tx pt sn) ++ (((oA, .inl (cJ, 1, .inr (.inl (vp_updL fo 0 (ch (40 - T.length + b1)).toInt64)))) :: kt) ++ (fk_wx cJ cC cK ad kd (nI n) lo ch (nI (40 - T.length)) f1 f2 f3 f4 f5))) H := hP
    have hD : va_D A ((fk_wm cJ cI cZ am d2 (nI n) lo (nI T.length) wd sg up dn of bey rnd tx pt sn) ++ (((oA, .inl (cJ, 1, .inr (.inl (vp_updL fo 0 (ch (40 - T.length + b1)).toInt64)))) :: kt) ++ (fk_wx cJ cC cK ad kd (nI n) lo ch (nI (40 - T.length)) f1 f2 f3 f4 f5))) := hD
    rw [e3] at hP hD
    have hP : va_P D vwCl ((fk_wx cJ cC cK ad kd (nI n) lo ch (nI (40 - T.length)) f1 f2 f3 f4 f5) ++ ((fk_wm cJ cI cZ am 0 (nI n) lo (nI T.length) wd sg up dn of bey rnd tx pt sn) ++ ((oA, .inl (cJ, 1, .inr (.inl (vp_updL fo 0 (ch (40 - T.length + b1)).toInt64)))) :: kt))) H := fk_swQ hP
    have hD : va_D A ((fk_wx cJ cC cK ad kd (nI n) lo ch (nI (40 - T.length)) f1 f2 f3 f4 f5) ++ ((fk_wm cJ cI cZ am 0 (nI n) lo (nI T.length) wd sg up dn of bey rnd tx pt sn) ++ ((oA, .inl (cJ, 1, .inr (.inl (vp_updL fo 0 (ch (40 - T.length + b1)).toInt64)))) :: kt))) := fk_swE hD
    refine lv_istore (lv' := [(6, .int r7), (5, .int 0), (0, .ref b), (1, .ref (ad 0)), (2, .ref (am 0)), (3, .ref oA), (4, .int (nI i))]) hx hb dL_law_784 hl (by decide) rfl (fun ls hl => ?_)
    refine lv_aload_n hx hb dL_law_786 rfl (lv_at hl 4 rfl) ?_
    have hP : va_P D vwCl ((fk_wm cJ cI cZ am 0 (nI n) lo (nI T.length) wd sg up dn of bey rnd tx pt sn) ++ (((oA, .inl (cJ, 1, .inr (.inl (vp_updL fo 0 (ch (40 - T.length + b1)).toInt64)))) :: kt) ++ (fk_wx cJ cC cK ad kd (nI n) lo ch (nI (40 - T.length)) f1 f2 f3 f4 f5))) H := fk_swP hP
    have hD : va_D A ((fk_wm cJ cI cZ am 0 (nI n) lo (nI T.length) wd sg up dn of bey rnd tx pt sn) ++ (((oA, .inl (cJ, 1, .inr (.inl (vp_updL fo 0 (ch (40 - T.length + b1)).toInt64)))) :: kt) ++ (fk_wx cJ cC cK ad kd (nI n) lo ch (nI (40 - T.length)) f1 f2 f3 f4 f5))) := fk_swD hD
    refine fk_ci hD hS hA (va_runV (As := []) (rest := []) ⟨hx, hb, hml, hown, hts⟩ (kX4_thrown _ am (((oA, .inl (cJ, 1, .inr (.inl (vp_updL fo 0 (ch (40 - T.length + b1)).toInt64)))) :: kt) ++ (fk_wx cJ cC cK ad kd (nI n) lo ch (nI (40 - T.length)) f1 f2 f3 f4 f5)) 0 lo (nI T.length) wd sg up dn of bey rnd tx pt sn n kf hMT) (cwV 0 hts gL_law_X4_thrown rfl rfl rfl (by decide +kernel) ⟨Nat.le_of_ble_eq_true rfl, Nat.le_of_ble_eq_true rfl⟩) (fk_preV 0 5 hK hN hP hD rfl rfl) rfl rfl hl.1 rfl (lv_room (Nat.le_of_ble_eq_true rfl)) dL_law_787 ⟨by show cells + 1 + 0 + 0 ≤ 604189; omega, by show slots + 6 + 0 + 0 ≤ 7283536; omega⟩) (fun r8 u3 H locs hwr8 hP hD hS => ?_)
    have e9 : r8 = 0 := hwr8
    subst e9
    have hP : va_P D vwCl ((fk_wx cJ cC cK ad kd (nI n) lo ch (nI (40 - T.length)) f1 f2 f3 f4 f5) ++ ((fk_wm cJ cI cZ am 0 (nI n) lo (nI T.length) wd sg up dn of bey rnd tx pt sn) ++ ((oA, .inl (cJ, 1, .inr (.inl (vp_updL fo 0 (ch (40 - T.length + b1)).toInt64)))) :: kt))) H := fk_swQ hP
    have hD : va_D A ((fk_wx cJ cC cK ad kd (nI n) lo ch (nI (40 - T.length)) f1 f2 f3 f4 f5) ++ ((fk_wm cJ cI cZ am 0 (nI n) lo (nI T.length) wd sg up dn of bey rnd tx pt sn) ++ ((oA, .inl (cJ, 1, .inr (.inl (vp_updL fo 0 (ch (40 - T.length + b1)).toInt64)))) :: kt))) := fk_swE hD
    refine lv_iload hx hb dL_law_790 (lv_at hl 1 rfl) ?_
    refine lv_icmp_eq (tgt := 797) hx hb dL_law_792 (by decide) (fun c_792 => ?_) (fun c_792 => False.elim (c_792 rfl))
    refine lv_iload hx hb dL_law_797 (lv_at hl 1 rfl) ?_
    refine lv_if_ne (tgt := 814) hx hb dL_law_799 (by decide) (fun c_799 => False.elim (c_799 rfl)) (fun c_799 => ?_)
    refine lv_aload_n hx hb dL_law_802 rfl (lv_at hl 5 rfl) ?_
    refine lv_iconst (v := 0) hx hb dL_law_803 (by decide) ?_
    refine fk_lald hx hb hK hP 26 0 rfl rfl (i := 0) (by decide) (by decide) dL_law_804 ?_
    refine lv_iload hx hb dL_law_805 (lv_at hl 0 rfl) ?_
    refine lv_i2l hx hb dL_law_807 rfl ?_
    refine W.lcmp hx hb dL_law_808 ?_
    refine lv_if_eq (tgt := 814) hx hb dL_law_809 (by decide) (fun c_809 => ?_) (fun c_809 => False.elim ((by rw [lg_cmp_eq] at c_809; exact c_809 (by rw [fk_lu, e6, fk_chr hT2 hT3 hT1 (by omega)]))))
    refine lv_goto (tgt := 1132) hx hb dL_law_814 (by decide) ?_
    refine W.widen (k := cells + 1) (n := slots + 7) (by omega) (by omega) ?_
    exact kk _ _ _ (fk_J.mk T hP hD hS hKL hMT hlo hT1 hT2 hT3) (lv_sub hl [2, 3, 4, 5, 6] rfl)
