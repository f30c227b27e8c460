/-! The law: rule, text, kind, by program -/
set_option maxHeartbeats 4000000 in
set_option maxRecDepth 100000 in
/-- rule -/
theorem lc_1 {p : Program} {l : Launch} {e : Env} {s : State} {m : MethodId} {below : List Frame} {meth : Method} {c : Code} {QQ : State → Prop} {H : Heap} {locs : List Loc} {ls : Array Slot} {D : va_G} {cJ cC cI cZ cK : ClassId} {ad am : Nat → Nat} {oA b L : Nat} {xs : Nat → Int32} {A : Nat → Prop} {i cells slots : Nat} (hC : fk_LC p l s m c D cJ cC cI cZ cK b L xs A) (hi : i + 9 ≤ L) (hJ : fk_J D cJ cC cI cZ cK ad am oA A s.heap H locs) (hl : lv_has ls 8 [(0, .ref b), (1, .ref (ad 0)), (2, .ref (am 0)), (3, .ref oA), (4, .int (nI i))]) (hc1 : cells + 1 ≤ 604189) (hs1 : slots + 7 ≤ 7283536) (kk : ∀ (H : Heap) (locs : List Loc) (ls : Array Slot), fk_J D cJ cC cI cZ cK ad am oA A s.heap H locs → lv_has ls 8 [(0, .ref b), (1, .ref (ad 0)), (2, .ref (am 0)), (3, .ref oA), (4, .int (nI i))] → W p l e room_1 s m #[Value.ref b] below meth c H locs (cells + 1) (slots + 7) QQ (F0 m 1132 ls [])) : W p l e room_1 s m #[Value.ref b] below meth c H locs cells slots QQ (F0 m 295 ls []) := by
  obtain ⟨hx, hb, hml, hown, htb, hX, hbl, hbA, hA, hK, hN, hXW, hlt, hL⟩ := hC
  have hts : ∀ w ∈ wsL_law, w.before #[Value.ref b] s = true := fun w h => htb w (wsL_law_in w h)
  obtain ⟨n, kf, ka, kt, kd, lo, cd, T, ch, f1, f2, f3, f4, f5, wd, sg, up, dn, of, bey, rnd, tx, pt, sn, fo, hP, hD, hS, hKL, hMT, hlo, hT1, hT2, hT3⟩ := hJ
  have hn40 := hKL.2.1
  have hKT := hKL.to (fk_wm cJ cI cZ am cd (nI n) lo (nI T.length) wd sg up dn of bey rnd tx pt sn) (oA, .inl (cJ, 1, .inr (.inl fo))) rfl
  have hP : va_P D vwCl ((fk_wx cJ cC cK ad kd (nI n) lo ch (nI (40 - T.length)) f1 f2 f3 f4 f5) ++ ((fk_wm cJ cI cZ am cd (nI n) lo (nI T.length) wd sg up dn of bey rnd tx pt sn) ++ ((oA, .inl (cJ, 1, .inr (.inl fo))) :: kt))) H := hP
  have hD : va_D A ((fk_wx cJ cC cK ad kd (nI n) lo ch (nI (40 - T.length)) f1 f2 f3 f4 f5) ++ ((fk_wm cJ cI cZ am cd (nI n) lo (nI T.length) wd sg up dn of bey rnd tx pt sn) ++ ((oA, .inl (cJ, 1, .inr (.inl fo))) :: kt))) := hD
  refine lv_aload_n hx hb dL_law_295 rfl (lv_at hl 1 rfl) ?_
  refine lv_aload_n hx hb dL_law_296 rfl (lv_at hl 0 rfl) ?_
  refine lv_iload hx hb dL_law_297 (lv_at hl 4 rfl) ?_
  refine lv_iconst (v := 1) hx hb dL_law_299 (by decide) ?_
  refine lv_iadd hx hb dL_law_300 ?_
  refine lv_topi (fun x1 ex1 => ?_)
  have ex1q : x1 = (nI (i + 1)) := by
    rw [ex1]; exact nI_add i 1
  subst ex1q
  refine fk_sld hx hb hX hbl hbA hS hL (k := i + 1) (by omega) dL_law_301 ?_
  refine lv_aload_n hx hb dL_law_302 rfl (lv_at hl 0 rfl) ?_
  refine lv_iload hx hb dL_law_303 (lv_at hl 4 rfl) ?_
  refine lv_iconst (v := 2) hx hb dL_law_305 (by decide) ?_
  refine lv_iadd hx hb dL_law_306 ?_
  refine lv_topi (fun x2 ex2 => ?_)
  have ex2q : x2 = (nI (i + 2)) := by
    rw [ex2]; exact nI_add i 2
  subst ex2q
  refine fk_sld hx hb hX hbl hbA hS hL (k := i + 2) (by omega) dL_law_307 ?_
  refine lv_aload_n hx hb dL_law_308 rfl (lv_at hl 0 rfl) ?_
  refine lv_iload hx hb dL_law_309 (lv_at hl 4 rfl) ?_
  refine lv_iconst (v := 3) hx hb dL_law_311 (by decide) ?_
  refine lv_iadd hx hb dL_law_312 ?_
  refine lv_topi (fun x3 ex3 => ?_)
  have ex3q : x3 = (nI (i + 3)) := by
    rw [ex3]; exact nI_add i 3
  subst ex3q
  refine fk_sld hx hb hX hbl hbA hS hL (k := i + 3) (by omega) dL_law_313 ?_
  refine fk_ci hD hS hA (va_runV (As := [.int (xs (i + 1)), .int (xs (i + 2)), .int (xs (i + 3))]) (rest := []) ⟨hx, hb, hml, hown, hts⟩ (kX3_rule _ ad ((fk_wm cJ cI cZ am cd (nI n) lo (nI T.length) wd sg up dn of bey rnd tx pt sn) ++ ((oA, .inl (cJ, 1, .inr (.inl fo))) :: kt)) kd lo ch (nI (40 - T.length)) f1 f2 f3 f4 f5 n kf ka (fun j => j + 12) (xs (i + 1)) (xs (i + 2)) (xs (i + 3)) hKT) (cwV 3 hts gL_law_X3_rule rfl rfl rfl (by decide +kernel) ⟨Nat.le_of_ble_eq_true rfl, Nat.le_of_ble_eq_true rfl⟩) (fk_preV 0 4 hK hN hP hD rfl rfl) rfl rfl hl.1 rfl (lv_room (Nat.le_of_ble_eq_true rfl)) dL_law_314 ⟨by show cells + 0 ≤ 604189; omega, by show slots + 0 ≤ 7283536; omega⟩) (fun r4 u1 H locs hwr4 hP hD hS => ?_)
  rcases hwr4 with ⟨ea, er, ey⟩ | ⟨ea, eb, er, ey⟩ | ⟨j, hj, ej, eb, er, ey⟩
  · have hd9 : True := trivial
    subst ey
    have hP : va_P D vwCl ((fk_wx cJ cC cK ad kd (nI n) lo ch (nI (40 - T.length)) f1 f2 f3 f4 f5) ++ ((fk_wm cJ cI cZ am cd (nI n) lo (nI T.length) wd sg up dn of bey rnd tx pt sn) ++ ((oA, .inl (cJ, 1, .inr (.inl fo))) :: kt))) H := hP
    have hD : va_D A ((fk_wx cJ cC cK ad kd (nI n) lo ch (nI (40 - T.length)) f1 f2 f3 f4 f5) ++ ((fk_wm cJ cI cZ am cd (nI n) lo (nI T.length) wd sg up dn of bey rnd tx pt sn) ++ ((oA, .inl (cJ, 1, .inr (.inl fo))) :: kt))) := hD
    refine lv_aload_n hx hb dL_law_317 rfl (lv_at hl 2 rfl) ?_
    refine lv_aload_n hx hb dL_law_318 rfl (lv_at hl 0 rfl) ?_
    refine lv_iload hx hb dL_law_319 (lv_at hl 4 rfl) ?_
    refine lv_iconst (v := 1) hx hb dL_law_321 (by decide) ?_
    refine lv_iadd hx hb dL_law_322 ?_
    refine lv_topi (fun x5 ex5 => ?_)
    have ex5q : x5 = (nI (i + 1)) := by
      rw [ex5]; exact nI_add i 1
    subst ex5q
    refine fk_sld hx hb hX hbl hbA hS hL (k := i + 1) (by omega) dL_law_323 ?_
    refine lv_aload_n hx hb dL_law_324 rfl (lv_at hl 0 rfl) ?_
    refine lv_iload hx hb dL_law_325 (lv_at hl 4 rfl) ?_
    refine lv_iconst (v := 2) hx hb dL_law_327 (by decide) ?_
    refine lv_iadd hx hb dL_law_328 ?_
    refine lv_topi (fun x6 ex6 => ?_)
    have ex6q : x6 = (nI (i + 2)) := by
      rw [ex6]; exact nI_add i 2
    subst ex6q
    refine fk_sld hx hb hX hbl hbA hS hL (k := i + 2) (by omega) dL_law_329 ?_
    refine lv_aload_n hx hb dL_law_330 rfl (lv_at hl 0 rfl) ?_
    refine lv_iload hx hb dL_law_331 (lv_at hl 4 rfl) ?_
    refine lv_iconst (v := 3) hx hb dL_law_333 (by decide) ?_
    refine lv_iadd hx hb dL_law_334 ?_
    refine lv_topi (fun x7 ex7 => ?_)
    have ex7q : x7 = (nI (i + 3)) := by
      rw [ex7]; exact nI_add i 3
    subst ex7q
    refine fk_sld hx hb hX hbl hbA hS hL (k := i + 3) (by omega) dL_law_335 ?_
    have hP : va_P D vwCl ((fk_wm cJ cI cZ am cd (nI n) lo (nI T.length) wd sg up dn of bey rnd tx pt sn) ++ (((oA, .inl (cJ, 1, .inr (.inl fo))) :: kt) ++ (fk_wx cJ cC cK ad kd (nI n) lo ch (nI (40 - T.length)) f1 f2 f3 f4 f5))) H := fk_swP hP
    have hD : va_D A ((fk_wm cJ cI cZ am cd (nI n) lo (nI T.length) wd sg up dn of bey rnd tx pt sn) ++ (((oA, .inl (cJ, 1, .inr (.inl fo))) :: kt) ++ (fk_wx cJ cC cK ad kd (nI n) lo ch (nI (40 - T.length)) f1 f2 f3 f4 f5))) := fk_swD hD
    refine fk_ci hD hS hA (va_runV (As := [.int (xs (i + 1)), .int (xs (i + 2)), .int (xs (i + 3))]) (rest := [.int r4]) ⟨hx, hb, hml, hown, hts⟩ (kX4_rule _ am (((oA, .inl (cJ, 1, .inr (.inl fo))) :: kt) ++ (fk_wx cJ cC cK ad kd (nI n) lo ch (nI (40 - T.length)) f1 f2 f3 f4 f5)) cd lo (nI T.length) wd sg up dn of bey rnd tx pt sn n kf (xs (i + 1)) (xs (i + 2)) (xs (i + 3)) hMT) (cwV 3 hts gL_law_X4_rule rfl rfl rfl (by decide +kernel) ⟨Nat.le_of_ble_eq_true rfl, Nat.le_of_ble_eq_true rfl⟩) (fk_preV 0 5 hK hN hP hD rfl rfl) rfl rfl hl.1 rfl (lv_room (Nat.le_of_ble_eq_true rfl)) dL_law_336 ⟨by show cells + 0 + 0 ≤ 604189; omega, by show slots + 0 + 0 ≤ 7283536; omega⟩) (fun r8 u2 H locs hwr8 hP hD hS => ?_)
    obtain ⟨e3, e4⟩ : r8 = -1 ∧ u2 = (bey, rnd) := by
      rcases hwr8 with ⟨ya, yr, yy⟩ | ⟨ya, yb, yr, yy⟩ | ⟨k, hk, yj, yb, yr, yy⟩
      · exact ⟨yr, yy⟩
      · exact absurd ea ya
      · exact absurd (yj ▸ ea) (fk_no_j hk hn40)
    subst e4
    have hP : va_P D vwCl ((fk_wx cJ cC cK ad kd (nI n) lo ch (nI (40 - T.length)) f1 f2 f3 f4 f5) ++ ((fk_wm cJ cI cZ am 0 (nI n) lo (nI T.length) wd sg up dn of bey rnd tx pt sn) ++ ((oA, .inl (cJ, 1, .inr (.inl fo))) :: kt))) H := fk_swQ hP
    have hD : va_D A ((fk_wx cJ cC cK ad kd (nI n) lo ch (nI (40 - T.length)) f1 f2 f3 f4 f5) ++ ((fk_wm cJ cI cZ am 0 (nI n) lo (nI T.length) wd sg up dn of bey rnd tx pt sn) ++ ((oA, .inl (cJ, 1, .inr (.inl fo))) :: kt))) := fk_swE hD
    refine lv_icmp_eq (tgt := 1132) hx hb dL_law_339 (by decide) (fun c_339 => ?_) (fun c_339 => False.elim (c_339 (by rw [er, e3])))
    refine W.widen (k := cells + 1) (n := slots + 7) (by omega) (by omega) ?_
    exact kk _ _ _ (fk_J.mk T hP hD hS hKL hMT hlo hT1 hT2 hT3) (lv_sub hl [0, 1, 2, 3, 4] rfl)
  · have hd9 : True := trivial
    subst ey
    have hP : va_P D vwCl ((fk_wx cJ cC cK ad kd (nI n) lo ch (nI (40 - T.length)) f1 f2 f3 f4 f5) ++ ((fk_wm cJ cI cZ am cd (nI n) lo (nI T.length) wd sg up dn of bey rnd tx pt sn) ++ ((oA, .inl (cJ, 1, .inr (.inl fo))) :: kt))) H := hP
    have hD : va_D A ((fk_wx cJ cC cK ad kd (nI n) lo ch (nI (40 - T.length)) f1 f2 f3 f4 f5) ++ ((fk_wm cJ cI cZ am cd (nI n) lo (nI T.length) wd sg up dn of bey rnd tx pt sn) ++ ((oA, .inl (cJ, 1, .inr (.inl fo))) :: kt))) := hD
    refine lv_aload_n hx hb dL_law_317 rfl (lv_at hl 2 rfl) ?_
    refine lv_aload_n hx hb dL_law_318 rfl (lv_at hl 0 rfl) ?_
    refine lv_iload hx hb dL_law_319 (lv_at hl 4 rfl) ?_
    refine lv_iconst (v := 1) hx hb dL_law_321 (by decide) ?_
    refine lv_iadd hx hb dL_law_322 ?_
    refine lv_topi (fun x9 ex9 => ?_)
    have ex9q : x9 = (nI (i + 1)) := by
      rw [ex9]; exact nI_add i 1
    subst ex9q
    refine fk_sld hx hb hX hbl hbA hS hL (k := i + 1) (by omega) dL_law_323 ?_
    refine lv_aload_n hx hb dL_law_324 rfl (lv_at hl 0 rfl) ?_
    refine lv_iload hx hb dL_law_325 (lv_at hl 4 rfl) ?_
    refine lv_iconst (v := 2) hx hb dL_law_327 (by decide) ?_
    refine lv_iadd hx hb dL_law_328 ?_
    refine lv_topi (fun x10 ex10 => ?_)
    have ex10q : x10 = (nI (i + 2)) := by
      rw [ex10]; exact nI_add i 2
    subst ex10q
    refine fk_sld hx hb hX hbl hbA hS hL (k := i + 2) (by omega) dL_law_329 ?_
    refine lv_aload_n hx hb dL_law_330 rfl (lv_at hl 0 rfl) ?_
    refine lv_iload hx hb dL_law_331 (lv_at hl 4 rfl) ?_
    refine lv_iconst (v := 3) hx hb dL_law_333 (by decide) ?_
    refine lv_iadd hx hb dL_law_334 ?_
    refine lv_topi (fun x11 ex11 => ?_)
    have ex11q : x11 = (nI (i + 3)) := by
      rw [ex11]; exact nI_add i 3
    subst ex11q
    refine fk_sld hx hb hX hbl hbA hS hL (k := i + 3) (by omega) dL_law_335 ?_
    have hP : va_P D vwCl ((fk_wm cJ cI cZ am cd (nI n) lo (nI T.length) wd sg up dn of bey rnd tx pt sn) ++ (((oA, .inl (cJ, 1, .inr (.inl fo))) :: kt) ++ (fk_wx cJ cC cK ad kd (nI n) lo ch (nI (40 - T.length)) f1 f2 f3 f4 f5))) H := fk_swP hP
    have hD : va_D A ((fk_wm cJ cI cZ am cd (nI n) lo (nI T.length) wd sg up dn of bey rnd tx pt sn) ++ (((oA, .inl (cJ, 1, .inr (.inl fo))) :: kt) ++ (fk_wx cJ cC cK ad kd (nI n) lo ch (nI (40 - T.length)) f1 f2 f3 f4 f5))) := fk_swD hD
    refine fk_ci hD hS hA (va_runV (As := [.int (xs (i + 1)), .int (xs (i + 2)), .int (xs (i + 3))]) (rest := [.int r4]) ⟨hx, hb, hml, hown, hts⟩ (kX4_rule _ am (((oA, .inl (cJ, 1, .inr (.inl fo))) :: kt) ++ (fk_wx cJ cC cK ad kd (nI n) lo ch (nI (40 - T.length)) f1 f2 f3 f4 f5)) cd lo (nI T.length) wd sg up dn of bey rnd tx pt sn n kf (xs (i + 1)) (xs (i + 2)) (xs (i + 3)) hMT) (cwV 3 hts gL_law_X4_rule rfl rfl rfl (by decide +kernel) ⟨Nat.le_of_ble_eq_true rfl, Nat.le_of_ble_eq_true rfl⟩) (fk_preV 0 5 hK hN hP hD rfl rfl) rfl rfl hl.1 rfl (lv_room (Nat.le_of_ble_eq_true rfl)) dL_law_336 ⟨by show cells + 0 + 0 ≤ 604189; omega, by show slots + 0 + 0 ≤ 7283536; omega⟩) (fun r12 u2 H locs hwr12 hP hD hS => ?_)
    obtain ⟨e3, e4⟩ : r12 = -2 ∧ u2 = (bey, rnd) := by
      rcases hwr12 with ⟨ya, yr, yy⟩ | ⟨ya, yb, yr, yy⟩ | ⟨k, hk, yj, yb, yr, yy⟩
      · exact absurd ya ea
      · exact ⟨yr, yy⟩
      · exact absurd eb yb
    subst e4
    have hP : va_P D vwCl ((fk_wx cJ cC cK ad kd (nI n) lo ch (nI (40 - T.length)) f1 f2 f3 f4 f5) ++ ((fk_wm cJ cI cZ am 0 (nI n) lo (nI T.length) wd sg up dn of bey rnd tx pt sn) ++ ((oA, .inl (cJ, 1, .inr (.inl fo))) :: kt))) H := fk_swQ hP
    have hD : va_D A ((fk_wx cJ cC cK ad kd (nI n) lo ch (nI (40 - T.length)) f1 f2 f3 f4 f5) ++ ((fk_wm cJ cI cZ am 0 (nI n) lo (nI T.length) wd sg up dn of bey rnd tx pt sn) ++ ((oA, .inl (cJ, 1, .inr (.inl fo))) :: kt))) := fk_swE hD
    refine lv_icmp_eq (tgt := 1132) hx hb dL_law_339 (by decide) (fun c_339 => ?_) (fun c_339 => False.elim (c_339 (by rw [er, e3])))
    refine W.widen (k := cells + 1) (n := slots + 7) (by omega) (by omega) ?_
    exact kk _ _ _ (fk_J.mk T hP hD hS hKL hMT hlo hT1 hT2 hT3) (lv_sub hl [0, 1, 2, 3, 4] rfl)
  · subst ey
    have hP : va_P D vwCl ((fk_wx cJ cC cK ad kd (nI n) lo ch (nI (40 - T.length)) f1 f2 f3 f4 f5) ++ ((fk_wm cJ cI cZ am cd (nI n) lo (nI T.length) wd sg up dn of bey rnd tx pt sn) ++ ((oA, .inl (cJ, 1, .inr (.inl fo))) :: kt)).set (j + 12) (ka j, fk_ke ((kf j).1, (kf j).2.1, (kf j).2.2.1, (kf j).2.2.2.1, (kf j).2.2.2.2.1, (xs (i + 2)), (xs (i + 3))))) H := hP
    have hD : va_D A ((fk_wx cJ cC cK ad kd (nI n) lo ch (nI (40 - T.length)) f1 f2 f3 f4 f5) ++ ((fk_wm cJ cI cZ am cd (nI n) lo (nI T.length) wd sg up dn of bey rnd tx pt sn) ++ ((oA, .inl (cJ, 1, .inr (.inl fo))) :: kt)).set (j + 12) (ka j, fk_ke ((kf j).1, (kf j).2.1, (kf j).2.2.1, (kf j).2.2.2.1, (kf j).2.2.2.2.1, (xs (i + 2)), (xs (i + 3))))) := hD
    rw [fk_set12 (fk_wm cJ cI cZ am cd (nI n) lo (nI T.length) wd sg up dn of bey rnd tx pt sn) (oA, .inl (cJ, 1, .inr (.inl fo))) (ka j, fk_ke ((kf j).1, (kf j).2.1, (kf j).2.2.1, (kf j).2.2.2.1, (kf j).2.2.2.2.1, (xs (i + 2)), (xs (i + 3)))) kt j rfl] at hP hD
    have hP : va_P D vwCl ((fk_wx cJ cC cK ad kd (nI n) lo ch (nI (40 - T.length)) f1 f2 f3 f4 f5) ++ ((fk_wm cJ cI cZ am cd (nI n) lo (nI T.length) wd sg up dn of bey rnd tx pt sn) ++ ((oA, .inl (cJ, 1, .inr (.inl fo))) :: (kt.set j (ka j, fk_ke ((kf j).1, (kf j).2.1, (kf j).2.2.1, (kf j).2.2.2.1, (kf j).2.2.2.2.1, (xs (i + 2)), (xs (i + 3)))))))) H := hP
    have hD : va_D A ((fk_wx cJ cC cK ad kd (nI n) lo ch (nI (40 - T.length)) f1 f2 f3 f4 f5) ++ ((fk_wm cJ cI cZ am cd (nI n) lo (nI T.length) wd sg up dn of bey rnd tx pt sn) ++ ((oA, .inl (cJ, 1, .inr (.inl fo))) :: (kt.set j (ka j, fk_ke ((kf j).1, (kf j).2.1, (kf j).2.2.1, (kf j).2.2.2.1, (kf j).2.2.2.2.1, (xs (i + 2)), (xs (i + 3)))))))) := hD
    refine lv_aload_n hx hb dL_law_317 rfl (lv_at hl 2 rfl) ?_
    refine lv_aload_n hx hb dL_law_318 rfl (lv_at hl 0 rfl) ?_
    refine lv_iload hx hb dL_law_319 (lv_at hl 4 rfl) ?_
    refine lv_iconst (v := 1) hx hb dL_law_321 (by decide) ?_
    refine lv_iadd hx hb dL_law_322 ?_
    refine lv_topi (fun x13 ex13 => ?_)
    have ex13q : x13 = (nI (i + 1)) := by
      rw [ex13]; exact nI_add i 1
    subst ex13q
    refine fk_sld hx hb hX hbl hbA hS hL (k := i + 1) (by omega) dL_law_323 ?_
    refine lv_aload_n hx hb dL_law_324 rfl (lv_at hl 0 rfl) ?_
    refine lv_iload hx hb dL_law_325 (lv_at hl 4 rfl) ?_
    refine lv_iconst (v := 2) hx hb dL_law_327 (by decide) ?_
    refine lv_iadd hx hb dL_law_328 ?_
    refine lv_topi (fun x14 ex14 => ?_)
    have ex14q : x14 = (nI (i + 2)) := by
      rw [ex14]; exact nI_add i 2
    subst ex14q
    refine fk_sld hx hb hX hbl hbA hS hL (k := i + 2) (by omega) dL_law_329 ?_
    refine lv_aload_n hx hb dL_law_330 rfl (lv_at hl 0 rfl) ?_
    refine lv_iload hx hb dL_law_331 (lv_at hl 4 rfl) ?_
    refine lv_iconst (v := 3) hx hb dL_law_333 (by decide) ?_
    refine lv_iadd hx hb dL_law_334 ?_
    refine lv_topi (fun x15 ex15 => ?_)
    have ex15q : x15 = (nI (i + 3)) := by
      rw [ex15]; exact nI_add i 3
    subst ex15q
    refine fk_sld hx hb hX hbl hbA hS hL (k := i + 3) (by omega) dL_law_335 ?_
    have hP : va_P D vwCl ((fk_wm cJ cI cZ am cd (nI n) lo (nI T.length) wd sg up dn of bey rnd tx pt sn) ++ (((oA, .inl (cJ, 1, .inr (.inl fo))) :: (kt.set j (ka j, fk_ke ((kf j).1, (kf j).2.1, (kf j).2.2.1, (kf j).2.2.2.1, (kf j).2.2.2.2.1, (xs (i + 2)), (xs (i + 3)))))) ++ (fk_wx cJ cC cK ad kd (nI n) lo ch (nI (40 - T.length)) f1 f2 f3 f4 f5))) H := fk_swP hP
    have hD : va_D A ((fk_wm cJ cI cZ am cd (nI n) lo (nI T.length) wd sg up dn of bey rnd tx pt sn) ++ (((oA, .inl (cJ, 1, .inr (.inl fo))) :: (kt.set j (ka j, fk_ke ((kf j).1, (kf j).2.1, (kf j).2.2.1, (kf j).2.2.2.1, (kf j).2.2.2.2.1, (xs (i + 2)), (xs (i + 3)))))) ++ (fk_wx cJ cC cK ad kd (nI n) lo ch (nI (40 - T.length)) f1 f2 f3 f4 f5))) := fk_swD hD
    refine fk_ci hD hS hA (va_runV (As := [.int (xs (i + 1)), .int (xs (i + 2)), .int (xs (i + 3))]) (rest := [.int r4]) ⟨hx, hb, hml, hown, hts⟩ (kX4_rule _ am (((oA, .inl (cJ, 1, .inr (.inl fo))) :: (kt.set j (ka j, fk_ke ((kf j).1, (kf j).2.1, (kf j).2.2.1, (kf j).2.2.2.1, (kf j).2.2.2.2.1, (xs (i + 2)), (xs (i + 3)))))) ++ (fk_wx cJ cC cK ad kd (nI n) lo ch (nI (40 - T.length)) f1 f2 f3 f4 f5)) cd lo (nI T.length) wd sg up dn of bey rnd tx pt sn n kf (xs (i + 1)) (xs (i + 2)) (xs (i + 3)) hMT) (cwV 3 hts gL_law_X4_rule rfl rfl rfl (by decide +kernel) ⟨Nat.le_of_ble_eq_true rfl, Nat.le_of_ble_eq_true rfl⟩) (fk_preV 0 5 hK hN hP hD rfl rfl) rfl rfl hl.1 rfl (lv_room (Nat.le_of_ble_eq_true rfl)) dL_law_336 ⟨by show cells + 0 + 0 ≤ 604189; omega, by show slots + 0 + 0 ≤ 7283536; omega⟩) (fun r16 u2 H locs hwr16 hP hD hS => ?_)
    obtain ⟨e3, e4⟩ : r16 = 1 ∧ u2 = (upd bey (j + 1) (xs (i + 2)), upd rnd (j + 1) (xs (i + 3))) := by
      rcases hwr16 with ⟨ya, yr, yy⟩ | ⟨ya, yb, yr, yy⟩ | ⟨k, hk, yj, yb, yr, yy⟩
      · exact absurd (ej ▸ ya) (fk_no_j hj hn40)
      · exact absurd yb eb
      · have hjk : k = j := fk_jj hk hj hn40 (yj.symm.trans ej)
        subst hjk
        exact ⟨yr, yy⟩
    subst e4
    have hP : va_P D vwCl ((fk_wx cJ cC cK ad kd (nI n) lo ch (nI (40 - T.length)) f1 f2 f3 f4 f5) ++ ((fk_wm cJ cI cZ am 0 (nI n) lo (nI T.length) wd sg up dn of (upd bey (j + 1) (xs (i + 2))) (upd rnd (j + 1) (xs (i + 3))) tx pt sn) ++ ((oA, .inl (cJ, 1, .inr (.inl fo))) :: (kt.set j (ka j, fk_ke ((kf j).1, (kf j).2.1, (kf j).2.2.1, (kf j).2.2.2.1, (kf j).2.2.2.2.1, (xs (i + 2)), (xs (i + 3)))))))) H := fk_swQ hP
    have hD : va_D A ((fk_wx cJ cC cK ad kd (nI n) lo ch (nI (40 - T.length)) f1 f2 f3 f4 f5) ++ ((fk_wm cJ cI cZ am 0 (nI n) lo (nI T.length) wd sg up dn of (upd bey (j + 1) (xs (i + 2))) (upd rnd (j + 1) (xs (i + 3))) tx pt sn) ++ ((oA, .inl (cJ, 1, .inr (.inl fo))) :: (kt.set j (ka j, fk_ke ((kf j).1, (kf j).2.1, (kf j).2.2.1, (kf j).2.2.2.1, (kf j).2.2.2.2.1, (xs (i + 2)), (xs (i + 3)))))))) := fk_swE hD
    refine lv_icmp_eq (tgt := 1132) hx hb dL_law_339 (by decide) (fun c_339 => ?_) (fun c_339 => False.elim (c_339 (by rw [er, e3])))
    refine W.widen (k := cells + 1) (n := slots + 7) (by omega) (by omega) ?_
    exact kk _ _ _ (fk_J.mk T hP hD hS (hKL.rule hj eb) (hMT.rule hj eb) hlo hT1 hT2 hT3) (lv_sub hl [0, 1, 2, 3, 4] rfl)
set_option maxHeartbeats 4000000 in
set_option maxRecDepth 100000 in
/-- text -/
theorem lc_6 {p : Program} {l : Launch} {e : Env} {s : State} {m : MethodId} {below : List Frame} {meth : Method} {c : Code} {QQ : State → Prop} {H : Heap} {locs : List Loc} {ls : Array Slot} {D : va_G} {cJ cC cI cZ cK : ClassId} {ad am : Nat → Nat} {oA b L : Nat} {xs : Nat → Int32} {A : Nat → Prop} {i cells slots : Nat} (hC : fk_LC p l s m c D cJ cC cI cZ cK b L xs A) (hi : i + 9 ≤ L) (hJ : fk_J D cJ cC cI cZ cK ad am oA A s.heap H locs) (hl : lv_has ls 8 [(0, .ref b), (1, .ref (ad 0)), (2, .ref (am 0)), (3, .ref oA), (4, .int (nI i))]) (hc1 : cells + 1 ≤ 604189) (hs1 : slots + 7 ≤ 7283536) (kk : ∀ (H : Heap) (locs : List Loc) (ls : Array Slot), fk_J D cJ cC cI cZ cK ad am oA A s.heap H locs → lv_has ls 8 [(0, .ref b), (1, .ref (ad 0)), (2, .ref (am 0)), (3, .ref oA), (4, .int (nI i))] → W p l e room_1 s m #[Value.ref b] below meth c H locs (cells + 1) (slots + 7) QQ (F0 m 1132 ls [])) : W p l e room_1 s m #[Value.ref b] below meth c H locs cells slots QQ (F0 m 692 ls []) := by
  obtain ⟨hx, hb, hml, hown, htb, hX, hbl, hbA, hA, hK, hN, hXW, hlt, hL⟩ := hC
  have hts : ∀ w ∈ wsL_law, w.before #[Value.ref b] s = true := fun w h => htb w (wsL_law_in w h)
  obtain ⟨n, kf, ka, kt, kd, lo, cd, T, ch, f1, f2, f3, f4, f5, wd, sg, up, dn, of, bey, rnd, tx, pt, sn, fo, hP, hD, hS, hKL, hMT, hlo, hT1, hT2, hT3⟩ := hJ
  have hn40 := hKL.2.1
  have hKT := hKL.to (fk_wm cJ cI cZ am cd (nI n) lo (nI T.length) wd sg up dn of bey rnd tx pt sn) (oA, .inl (cJ, 1, .inr (.inl fo))) rfl
  have hP : va_P D vwCl ((fk_wx cJ cC cK ad kd (nI n) lo ch (nI (40 - T.length)) f1 f2 f3 f4 f5) ++ ((fk_wm cJ cI cZ am cd (nI n) lo (nI T.length) wd sg up dn of bey rnd tx pt sn) ++ ((oA, .inl (cJ, 1, .inr (.inl fo))) :: kt))) H := hP
  have hD : va_D A ((fk_wx cJ cC cK ad kd (nI n) lo ch (nI (40 - T.length)) f1 f2 f3 f4 f5) ++ ((fk_wm cJ cI cZ am cd (nI n) lo (nI T.length) wd sg up dn of bey rnd tx pt sn) ++ ((oA, .inl (cJ, 1, .inr (.inl fo))) :: kt))) := hD
  have k1 := hts (.constantLong RL 25 4294967295) (by decide +kernel)
  refine lv_aload_n hx hb dL_law_692 rfl (lv_at hl 1 rfl) ?_
  refine lv_aload_n hx hb dL_law_693 rfl (lv_at hl 0 rfl) ?_
  refine lv_iload hx hb dL_law_694 (lv_at hl 4 rfl) ?_
  refine lv_iconst (v := 1) hx hb dL_law_696 (by decide) ?_
  refine lv_iadd hx hb dL_law_697 ?_
  refine lv_topi (fun x1 ex1 => ?_)
  have ex1q : x1 = (nI (i + 1)) := by
    rw [ex1]; exact nI_add i 1
  subst ex1q
  refine fk_sld hx hb hX hbl hbA hS hL (k := i + 1) (by omega) dL_law_698 ?_
  refine lv_aload_n hx hb dL_law_699 rfl (lv_at hl 0 rfl) ?_
  refine lv_iload hx hb dL_law_700 (lv_at hl 4 rfl) ?_
  refine lv_iconst (v := 2) hx hb dL_law_702 (by decide) ?_
  refine lv_iadd hx hb dL_law_703 ?_
  refine lv_topi (fun x2 ex2 => ?_)
  have ex2q : x2 = (nI (i + 2)) := by
    rw [ex2]; exact nI_add i 2
  subst ex2q
  refine fk_sld hx hb hX hbl hbA hS hL (k := i + 2) (by omega) dL_law_704 ?_
  refine lv_i2l hx hb dL_law_705 rfl ?_
  refine lv_bipush (v := 32) hx hb dL_law_706 (by decide) ?_
  refine lv_lshl hx hb dL_law_708 rfl ?_
  refine lv_aload_n hx hb dL_law_709 rfl (lv_at hl 0 rfl) ?_
  refine lv_iload hx hb dL_law_710 (lv_at hl 4 rfl) ?_
  refine lv_iconst (v := 3) hx hb dL_law_712 (by decide) ?_
  refine lv_iadd hx hb dL_law_713 ?_
  refine lv_topi (fun x3 ex3 => ?_)
  have ex3q : x3 = (nI (i + 3)) := by
    rw [ex3]; exact nI_add i 3
  subst ex3q
  refine fk_sld hx hb hX hbl hbA hS hL (k := i + 3) (by omega) dL_law_714 ?_
  refine lv_i2l hx hb dL_law_715 rfl ?_
  refine lv_ldc2 (v := 4294967295) hx hb hown k1 dL_law_716 ?_
  refine lv_land hx hb dL_law_719 ?_
  refine lv_lor hx hb dL_law_720 ?_
  refine lv_topl (fun x4 ex4 => ?_)
  have ex4q : x4 = fk_lg (xs (i + 2)) (xs (i + 3)) := by
    rw [ex4]; rfl
  subst ex4q
  refine fk_ci hD hS hA (va_runV (As := [.int (xs (i + 1)), .long (fk_lg (xs (i + 2)) (xs (i + 3)))]) (rest := []) ⟨hx, hb, hml, hown, hts⟩ (kX3_text _ ad ((fk_wm cJ cI cZ am cd (nI n) lo (nI T.length) wd sg up dn of bey rnd tx pt sn) ++ ((oA, .inl (cJ, 1, .inr (.inl fo))) :: kt)) kd lo ch (40 - T.length) f1 f2 f3 f4 f5 n kf ka (fun j => j + 12) (xs (i + 1)) (fk_lg (xs (i + 2)) (xs (i + 3))) hKT) (cwV 2 hts gL_law_X3_text rfl rfl rfl (by decide +kernel) ⟨Nat.le_of_ble_eq_true rfl, Nat.le_of_ble_eq_true rfl⟩) (fk_preV 0 4 hK hN hP hD rfl rfl) rfl rfl hl.1 rfl (lv_room (Nat.le_of_ble_eq_true rfl)) dL_law_721 ⟨by show cells + 0 ≤ 604189; omega, by show slots + 0 ≤ 7283536; omega⟩) (fun r5 u1 H locs hwr5 hP hD hS => ?_)
  obtain ⟨c1, t1, g1, g2⟩ := u1
  rcases hwr5 with ⟨ea, er, e1, e2⟩ | ⟨j, hj, ej, er, e2, el, et⟩
  · have e1 : c1 = ch := e1
    have e2 : t1 = 40 - T.length := e2
    have hP : va_P D vwCl ((fk_wx cJ cC cK ad kd (nI n) lo c1 (nI t1) g1 g2 f3 f4 f5) ++ ((fk_wm cJ cI cZ am cd (nI n) lo (nI T.length) wd sg up dn of bey rnd tx pt sn) ++ ((oA, .inl (cJ, 1, .inr (.inl fo))) :: kt))) H := hP
    have hD : va_D A ((fk_wx cJ cC cK ad kd (nI n) lo c1 (nI t1) g1 g2 f3 f4 f5) ++ ((fk_wm cJ cI cZ am cd (nI n) lo (nI T.length) wd sg up dn of bey rnd tx pt sn) ++ ((oA, .inl (cJ, 1, .inr (.inl fo))) :: kt))) := hD
    rw [e1, e2] at hP hD
    have hP : va_P D vwCl ((fk_wx cJ cC cK ad kd (nI n) lo ch (nI (40 - T.length)) g1 g2 f3 f4 f5) ++ ((fk_wm cJ cI cZ am cd (nI n) lo (nI T.length) wd sg up dn of bey rnd tx pt sn) ++ ((oA, .inl (cJ, 1, .inr (.inl fo))) :: kt))) H := hP
    have hD : va_D A ((fk_wx cJ cC cK ad kd (nI n) lo ch (nI (40 - T.length)) g1 g2 f3 f4 f5) ++ ((fk_wm cJ cI cZ am cd (nI n) lo (nI T.length) wd sg up dn of bey rnd tx pt sn) ++ ((oA, .inl (cJ, 1, .inr (.inl fo))) :: kt))) := hD
    refine lv_aload_n hx hb dL_law_724 rfl (lv_at hl 2 rfl) ?_
    refine lv_aload_n hx hb dL_law_725 rfl (lv_at hl 0 rfl) ?_
    refine lv_iload hx hb dL_law_726 (lv_at hl 4 rfl) ?_
    refine lv_iconst (v := 1) hx hb dL_law_728 (by decide) ?_
    refine lv_iadd hx hb dL_law_729 ?_
    refine lv_topi (fun x6 ex6 => ?_)
    have ex6q : x6 = (nI (i + 1)) := by
      rw [ex6]; exact nI_add i 1
    subst ex6q
    refine fk_sld hx hb hX hbl hbA hS hL (k := i + 1) (by omega) dL_law_730 ?_
    refine lv_aload_n hx hb dL_law_731 rfl (lv_at hl 0 rfl) ?_
    refine lv_iload hx hb dL_law_732 (lv_at hl 4 rfl) ?_
    refine lv_iconst (v := 2) hx hb dL_law_734 (by decide) ?_
    refine lv_iadd hx hb dL_law_735 ?_
    refine lv_topi (fun x7 ex7 => ?_)
    have ex7q : x7 = (nI (i + 2)) := by
      rw [ex7]; exact nI_add i 2
    subst ex7q
    refine fk_sld hx hb hX hbl hbA hS hL (k := i + 2) (by omega) dL_law_736 ?_
    refine lv_i2l hx hb dL_law_737 rfl ?_
    refine lv_bipush (v := 32) hx hb dL_law_738 (by decide) ?_
    refine lv_lshl hx hb dL_law_740 rfl ?_
    refine lv_aload_n hx hb dL_law_741 rfl (lv_at hl 0 rfl) ?_
    refine lv_iload hx hb dL_law_742 (lv_at hl 4 rfl) ?_
    refine lv_iconst (v := 3) hx hb dL_law_744 (by decide) ?_
    refine lv_iadd hx hb dL_law_745 ?_
    refine lv_topi (fun x8 ex8 => ?_)
    have ex8q : x8 = (nI (i + 3)) := by
      rw [ex8]; exact nI_add i 3
    subst ex8q
    refine fk_sld hx hb hX hbl hbA hS hL (k := i + 3) (by omega) dL_law_746 ?_
    refine lv_i2l hx hb dL_law_747 rfl ?_
    refine lv_ldc2 (v := 4294967295) hx hb hown k1 dL_law_748 ?_
    refine lv_land hx hb dL_law_751 ?_
    refine lv_lor hx hb dL_law_752 ?_
    refine lv_topl (fun x9 ex9 => ?_)
    have ex9q : x9 = fk_lg (xs (i + 2)) (xs (i + 3)) := by
      rw [ex9]; rfl
    subst ex9q
    have hP : va_P D vwCl ((fk_wm cJ cI cZ am cd (nI n) lo (nI T.length) wd sg up dn of bey rnd tx pt sn) ++ (((oA, .inl (cJ, 1, .inr (.inl fo))) :: kt) ++ (fk_wx cJ cC cK ad kd (nI n) lo ch (nI (40 - T.length)) g1 g2 f3 f4 f5))) H := fk_swP hP
    have hD : va_D A ((fk_wm cJ cI cZ am cd (nI n) lo (nI T.length) wd sg up dn of bey rnd tx pt sn) ++ (((oA, .inl (cJ, 1, .inr (.inl fo))) :: kt) ++ (fk_wx cJ cC cK ad kd (nI n) lo ch (nI (40 - T.length)) g1 g2 f3 f4 f5))) := fk_swD hD
    refine fk_ci hD hS hA (va_runV (As := [.int (xs (i + 1)), .long (fk_lg (xs (i + 2)) (xs (i + 3)))]) (rest := [.int r5]) ⟨hx, hb, hml, hown, hts⟩ (kX4_text _ am (((oA, .inl (cJ, 1, .inr (.inl fo))) :: kt) ++ (fk_wx cJ cC cK ad kd (nI n) lo ch (nI (40 - T.length)) g1 g2 f3 f4 f5)) cd lo (nI T.length) wd sg up dn of bey rnd tx pt sn n kf (xs (i + 1)) (fk_lg (xs (i + 2)) (xs (i + 3))) hMT hlo) (cwV 2 hts gL_law_X4_text rfl rfl rfl (by decide +kernel) ⟨Nat.le_of_ble_eq_true rfl, Nat.le_of_ble_eq_true rfl⟩) (fk_preV 0 5 hK hN hP hD rfl rfl) rfl rfl hl.1 rfl (lv_room (Nat.le_of_ble_eq_true rfl)) dL_law_753 ⟨by show cells + 0 + 0 ≤ 604189; omega, by show slots + 0 + 0 ≤ 7283536; omega⟩) (fun r10 u2 H locs hwr10 hP hD hS => ?_)
    obtain ⟨n2, x2, p2, s2⟩ := u2
    obtain ⟨e3, e4, e5⟩ : r10 = -1 ∧ n2 = nI T.length ∧ x2 = tx := by
      rcases hwr10 with ⟨ya, yr, y1, y2⟩ | ⟨k, hk, yj, yr, y1, y2, y3⟩
      · exact ⟨yr, y1, y2⟩
      · exact absurd (yj ▸ ea) (fk_no_j hk hn40)
    have hP : va_P D vwCl ((fk_wm cJ cI cZ am 0 (nI n) lo n2 wd sg up dn of bey rnd x2 p2 s2) ++ (((oA, .inl (cJ, 1, .inr (.inl fo))) :: kt) ++ (fk_wx cJ cC cK ad kd (nI n) lo ch (nI (40 - T.length)) g1 g2 f3 f4 f5))) H := hP
    have hD : va_D A ((fk_wm cJ cI cZ am 0 (nI n) lo n2 wd sg up dn of bey rnd x2 p2 s2) ++ (((oA, .inl (cJ, 1, .inr (.inl fo))) :: kt) ++ (fk_wx cJ cC cK ad kd (nI n) lo ch (nI (40 - T.length)) g1 g2 f3 f4 f5))) := hD
    rw [e4, e5] at hP hD
    have hP : va_P D vwCl ((fk_wx cJ cC cK ad kd (nI n) lo ch (nI (40 - T.length)) g1 g2 f3 f4 f5) ++ ((fk_wm cJ cI cZ am 0 (nI n) lo (nI T.length) wd sg up dn of bey rnd tx p2 s2) ++ ((oA, .inl (cJ, 1, .inr (.inl fo))) :: kt))) H := fk_swQ hP
    have hD : va_D A ((fk_wx cJ cC cK ad kd (nI n) lo ch (nI (40 - T.length)) g1 g2 f3 f4 f5) ++ ((fk_wm cJ cI cZ am 0 (nI n) lo (nI T.length) wd sg up dn of bey rnd tx p2 s2) ++ ((oA, .inl (cJ, 1, .inr (.inl fo))) :: kt))) := fk_swE hD
    refine lv_icmp_eq (tgt := 1132) hx hb dL_law_756 (by decide) (fun c_756 => ?_) (fun c_756 => False.elim (c_756 (by rw [er, e3])))
    refine W.widen (k := cells + 1) (n := slots + 7) (by omega) (by omega) ?_
    exact kk _ _ _ (fk_J.mk T hP hD hS hKL hMT hlo hT1 hT2 hT3) (lv_sub hl [0, 1, 2, 3, 4] rfl)
  · have e2 : t1 = 40 - (fk_txt (fk_v (kf j) (fk_lg (xs (i + 2)) (xs (i + 3)))) (fk_dn (kf j))).length := e2
    subst e2
    have hP : va_P D vwCl ((fk_wx cJ cC cK ad kd (nI n) lo c1 (nI (40 - (fk_txt (fk_v (kf j) (fk_lg (xs (i + 2)) (xs (i + 3)))) (fk_dn (kf j))).length)) g1 g2 f3 f4 f5) ++ ((fk_wm cJ cI cZ am cd (nI n) lo (nI T.length) wd sg up dn of bey rnd tx pt sn) ++ ((oA, .inl (cJ, 1, .inr (.inl fo))) :: kt))) H := hP
    have hD : va_D A ((fk_wx cJ cC cK ad kd (nI n) lo c1 (nI (40 - (fk_txt (fk_v (kf j) (fk_lg (xs (i + 2)) (xs (i + 3)))) (fk_dn (kf j))).length)) g1 g2 f3 f4 f5) ++ ((fk_wm cJ cI cZ am cd (nI n) lo (nI T.length) wd sg up dn of bey rnd tx pt sn) ++ ((oA, .inl (cJ, 1, .inr (.inl fo))) :: kt))) := hD
    refine lv_aload_n hx hb dL_law_724 rfl (lv_at hl 2 rfl) ?_
    refine lv_aload_n hx hb dL_law_725 rfl (lv_at hl 0 rfl) ?_
    refine lv_iload hx hb dL_law_726 (lv_at hl 4 rfl) ?_
    refine lv_iconst (v := 1) hx hb dL_law_728 (by decide) ?_
    refine lv_iadd hx hb dL_law_729 ?_
    refine lv_topi (fun x11 ex11 => ?_)
    have ex11q : x11 = (nI (i + 1)) := by
      rw [ex11]; exact nI_add i 1
    subst ex11q
    refine fk_sld hx hb hX hbl hbA hS hL (k := i + 1) (by omega) dL_law_730 ?_
    refine lv_aload_n hx hb dL_law_731 rfl (lv_at hl 0 rfl) ?_
    refine lv_iload hx hb dL_law_732 (lv_at hl 4 rfl) ?_
    refine lv_iconst (v := 2) hx hb dL_law_734 (by decide) ?_
    refine lv_iadd hx hb dL_law_735 ?_
    refine lv_topi (fun x12 ex12 => ?_)
    have ex12q : x12 = (nI (i + 2)) := by
      rw [ex12]; exact nI_add i 2
    subst ex12q
    refine fk_sld hx hb hX hbl hbA hS hL (k := i + 2) (by omega) dL_law_736 ?_
    refine lv_i2l hx hb dL_law_737 rfl ?_
    refine lv_bipush (v := 32) hx hb dL_law_738 (by decide) ?_
    refine lv_lshl hx hb dL_law_740 rfl ?_
    refine lv_aload_n hx hb dL_law_741 rfl (lv_at hl 0 rfl) ?_
    refine lv_iload hx hb dL_law_742 (lv_at hl 4 rfl) ?_
    refine lv_iconst (v := 3) hx hb dL_law_744 (by decide) ?_
    refine lv_iadd hx hb dL_law_745 ?_
    refine lv_topi (fun x13 ex13 => ?_)
    have ex13q : x13 = (nI (i + 3)) := by
      rw [ex13]; exact nI_add i 3
    subst ex13q
    refine fk_sld hx hb hX hbl hbA hS hL (k := i + 3) (by omega) dL_law_746 ?_
    refine lv_i2l hx hb dL_law_747 rfl ?_
    refine lv_ldc2 (v := 4294967295) hx hb hown k1 dL_law_748 ?_
    refine lv_land hx hb dL_law_751 ?_
    refine lv_lor hx hb dL_law_752 ?_
    refine lv_topl (fun x14 ex14 => ?_)
    have ex14q : x14 = fk_lg (xs (i + 2)) (xs (i + 3)) := by
      rw [ex14]; rfl
    subst ex14q
    have hP : va_P D vwCl ((fk_wm cJ cI cZ am cd (nI n) lo (nI T.length) wd sg up dn of bey rnd tx pt sn) ++ (((oA, .inl (cJ, 1, .inr (.inl fo))) :: kt) ++ (fk_wx cJ cC cK ad kd (nI n) lo c1 (nI (40 - (fk_txt (fk_v (kf j) (fk_lg (xs (i + 2)) (xs (i + 3)))) (fk_dn (kf j))).length)) g1 g2 f3 f4 f5))) H := fk_swP hP
    have hD : va_D A ((fk_wm cJ cI cZ am cd (nI n) lo (nI T.length) wd sg up dn of bey rnd tx pt sn) ++ (((oA, .inl (cJ, 1, .inr (.inl fo))) :: kt) ++ (fk_wx cJ cC cK ad kd (nI n) lo c1 (nI (40 - (fk_txt (fk_v (kf j) (fk_lg (xs (i + 2)) (xs (i + 3)))) (fk_dn (kf j))).length)) g1 g2 f3 f4 f5))) := fk_swD hD
    refine fk_ci hD hS hA (va_runV (As := [.int (xs (i + 1)), .long (fk_lg (xs (i + 2)) (xs (i + 3)))]) (rest := [.int r5]) ⟨hx, hb, hml, hown, hts⟩ (kX4_text _ am (((oA, .inl (cJ, 1, .inr (.inl fo))) :: kt) ++ (fk_wx cJ cC cK ad kd (nI n) lo c1 (nI (40 - (fk_txt (fk_v (kf j) (fk_lg (xs (i + 2)) (xs (i + 3)))) (fk_dn (kf j))).length)) g1 g2 f3 f4 f5)) cd lo (nI T.length) wd sg up dn of bey rnd tx pt sn n kf (xs (i + 1)) (fk_lg (xs (i + 2)) (xs (i + 3))) hMT hlo) (cwV 2 hts gL_law_X4_text rfl rfl rfl (by decide +kernel) ⟨Nat.le_of_ble_eq_true rfl, Nat.le_of_ble_eq_true rfl⟩) (fk_preV 0 5 hK hN hP hD rfl rfl) rfl rfl hl.1 rfl (lv_room (Nat.le_of_ble_eq_true rfl)) dL_law_753 ⟨by show cells + 0 + 0 ≤ 604189; omega, by show slots + 0 + 0 ≤ 7283536; omega⟩) (fun r15 u2 H locs hwr15 hP hD hS => ?_)
    obtain ⟨n2, x2, p2, s2⟩ := u2
    obtain ⟨e3, e4, e5, e6⟩ : r15 = nI (fk_txt (fk_v (kf j) (fk_lg (xs (i + 2)) (xs (i + 3)))) (fk_dn (kf j))).length ∧ n2 = nI (fk_txt (fk_v (kf j) (fk_lg (xs (i + 2)) (xs (i + 3)))) (fk_dn (kf j))).length ∧ (fk_txt (fk_v (kf j) (fk_lg (xs (i + 2)) (xs (i + 3)))) (fk_dn (kf j))).length ≤ 36 ∧ fk_Rx (fk_txt (fk_v (kf j) (fk_lg (xs (i + 2)) (xs (i + 3)))) (fk_dn (kf j))) x2 := by
      rcases hwr15 with ⟨ya, yr, y1, y2⟩ | ⟨k, hk, yj, yr, y1, y2, y3⟩
      · exact absurd (ej ▸ ya) (fk_no_j hj hn40)
      · have hjk : k = j := fk_jj hk hj hn40 (yj.symm.trans ej)
        subst hjk
        exact ⟨yr, y1, y2, y3⟩
    subst e4
    have hP : va_P D vwCl ((fk_wx cJ cC cK ad kd (nI n) lo c1 (nI (40 - (fk_txt (fk_v (kf j) (fk_lg (xs (i + 2)) (xs (i + 3)))) (fk_dn (kf j))).length)) g1 g2 f3 f4 f5) ++ ((fk_wm cJ cI cZ am 0 (nI n) lo (nI (fk_txt (fk_v (kf j) (fk_lg (xs (i + 2)) (xs (i + 3)))) (fk_dn (kf j))).length) wd sg up dn of bey rnd x2 p2 s2) ++ ((oA, .inl (cJ, 1, .inr (.inl fo))) :: kt))) H := fk_swQ hP
    have hD : va_D A ((fk_wx cJ cC cK ad kd (nI n) lo c1 (nI (40 - (fk_txt (fk_v (kf j) (fk_lg (xs (i + 2)) (xs (i + 3)))) (fk_dn (kf j))).length)) g1 g2 f3 f4 f5) ++ ((fk_wm cJ cI cZ am 0 (nI n) lo (nI (fk_txt (fk_v (kf j) (fk_lg (xs (i + 2)) (xs (i + 3)))) (fk_dn (kf j))).length) wd sg up dn of bey rnd x2 p2 s2) ++ ((oA, .inl (cJ, 1, .inr (.inl fo))) :: kt))) := fk_swE hD
    refine lv_icmp_eq (tgt := 1132) hx hb dL_law_756 (by decide) (fun c_756 => ?_) (fun c_756 => False.elim (c_756 (by rw [er, e3])))
    refine W.widen (k := cells + 1) (n := slots + 7) (by omega) (by omega) ?_
    exact kk _ _ _ (fk_J.mk (fk_txt (fk_v (kf j) (fk_lg (xs (i + 2)) (xs (i + 3)))) (fk_dn (kf j))) hP hD hS hKL hMT hlo e5 et e6) (lv_sub hl [0, 1, 2, 3, 4] rfl)
set_option maxHeartbeats 4000000 in
set_option maxRecDepth 100000 in
/-- kind -/
theorem lc_0 {p : Program} {l : Launch} {e : Env} {s : State} {m : MethodId} {below : List Frame} {meth : Method} {c : Code} {QQ : State → Prop} {H : Heap} {locs : List Loc} {ls : Array Slot} {D : va_G} {cJ cC cI cZ cK : ClassId} {ad am : Nat → Nat} {oA b L : Nat} {xs : Nat → Int32} {A : Nat → Prop} {i cells slots : Nat} (hC : fk_LC p l s m c D cJ cC cI cZ cK b L xs A) (hi : i + 9 ≤ L) (hJ : fk_J D cJ cC cI cZ cK ad am oA A s.heap H locs) (hl : lv_has ls 8 [(0, .ref b), (1, .ref (ad 0)), (2, .ref (am 0)), (3, .ref oA), (4, .int (nI i))]) (hc1 : cells + 1 ≤ 604189) (hs1 : slots + 7 ≤ 7283536) (kk : ∀ (H : Heap) (locs : List Loc) (ls : Array Slot), fk_J D cJ cC cI cZ cK ad am oA A s.heap H locs → lv_has ls 8 [(0, .ref b), (1, .ref (ad 0)), (2, .ref (am 0)), (3, .ref oA), (4, .int (nI i))] → W p l e room_1 s m #[Value.ref b] below meth c H locs (cells + 1) (slots + 7) QQ (F0 m 1132 ls [])) : W p l e room_1 s m #[Value.ref b] below meth c H locs cells slots QQ (F0 m 104 ls []) := by
  obtain ⟨hx, hb, hml, hown, htb, hX, hbl, hbA, hA, hK, hN, hXW, hlt, hL⟩ := hC
  have hts : ∀ w ∈ wsL_law, w.before #[Value.ref b] s = true := fun w h => htb w (wsL_law_in w h)
  obtain ⟨n, kf, ka, kt, kd, lo, cd, T, ch, f1, f2, f3, f4, f5, wd, sg, up, dn, of, bey, rnd, tx, pt, sn, fo, hP, hD, hS, hKL, hMT, hlo, hT1, hT2, hT3⟩ := hJ
  have hn40 := hKL.2.1
  have hKT := hKL.to (fk_wm cJ cI cZ am cd (nI n) lo (nI T.length) wd sg up dn of bey rnd tx pt sn) (oA, .inl (cJ, 1, .inr (.inl fo))) rfl
  have hP : va_P D vwCl ((fk_wx cJ cC cK ad kd (nI n) lo ch (nI (40 - T.length)) f1 f2 f3 f4 f5) ++ ((fk_wm cJ cI cZ am cd (nI n) lo (nI T.length) wd sg up dn of bey rnd tx pt sn) ++ ((oA, .inl (cJ, 1, .inr (.inl fo))) :: kt))) H := hP
  have hD : va_D A ((fk_wx cJ cC cK ad kd (nI n) lo ch (nI (40 - T.length)) f1 f2 f3 f4 f5) ++ ((fk_wm cJ cI cZ am cd (nI n) lo (nI T.length) wd sg up dn of bey rnd tx pt sn) ++ ((oA, .inl (cJ, 1, .inr (.inl fo))) :: kt))) := hD
  have k1 := hts (.constantLong RL 25 4294967295) (by decide +kernel)
  refine lv_aload_n hx hb dL_law_104 rfl (lv_at hl 1 rfl) ?_
  refine lv_aload_n hx hb dL_law_105 rfl (lv_at hl 0 rfl) ?_
  refine lv_iload hx hb dL_law_106 (lv_at hl 4 rfl) ?_
  refine lv_iconst (v := 1) hx hb dL_law_108 (by decide) ?_
  refine lv_iadd hx hb dL_law_109 ?_
  refine lv_topi (fun x1 ex1 => ?_)
  have ex1q : x1 = (nI (i + 1)) := by
    rw [ex1]; exact nI_add i 1
  subst ex1q
  refine fk_sld hx hb hX hbl hbA hS hL (k := i + 1) (by omega) dL_law_110 ?_
  refine lv_aload_n hx hb dL_law_111 rfl (lv_at hl 0 rfl) ?_
  refine lv_iload hx hb dL_law_112 (lv_at hl 4 rfl) ?_
  refine lv_iconst (v := 2) hx hb dL_law_114 (by decide) ?_
  refine lv_iadd hx hb dL_law_115 ?_
  refine lv_topi (fun x2 ex2 => ?_)
  have ex2q : x2 = (nI (i + 2)) := by
    rw [ex2]; exact nI_add i 2
  subst ex2q
  refine fk_sld hx hb hX hbl hbA hS hL (k := i + 2) (by omega) dL_law_116 ?_
  refine lv_if_eq (tgt := 124) hx hb dL_law_117 (by decide) (fun c_117 => ?_) (fun c_117 => ?_)
  · refine lv_iconst (v := 0) hx hb dL_law_124 (by decide) ?_
    refine lv_aload_n hx hb dL_law_125 rfl (lv_at hl 0 rfl) ?_
    refine lv_iload hx hb dL_law_126 (lv_at hl 4 rfl) ?_
    refine lv_iconst (v := 3) hx hb dL_law_128 (by decide) ?_
    refine lv_iadd hx hb dL_law_129 ?_
    refine lv_topi (fun x3 ex3 => ?_)
    have ex3q : x3 = (nI (i + 3)) := by
      rw [ex3]; exact nI_add i 3
    subst ex3q
    refine fk_sld hx hb hX hbl hbA hS hL (k := i + 3) (by omega) dL_law_130 ?_
    refine lv_i2l hx hb dL_law_131 rfl ?_
    refine lv_bipush (v := 32) hx hb dL_law_132 (by decide) ?_
    refine lv_lshl hx hb dL_law_134 rfl ?_
    refine lv_aload_n hx hb dL_law_135 rfl (lv_at hl 0 rfl) ?_
    refine lv_iload hx hb dL_law_136 (lv_at hl 4 rfl) ?_
    refine lv_iconst (v := 4) hx hb dL_law_138 (by decide) ?_
    refine lv_iadd hx hb dL_law_139 ?_
    refine lv_topi (fun x4 ex4 => ?_)
    have ex4q : x4 = (nI (i + 4)) := by
      rw [ex4]; exact nI_add i 4
    subst ex4q
    refine fk_sld hx hb hX hbl hbA hS hL (k := i + 4) (by omega) dL_law_140 ?_
    refine lv_i2l hx hb dL_law_141 rfl ?_
    refine lv_ldc2 (v := 4294967295) hx hb hown k1 dL_law_142 ?_
    refine lv_land hx hb dL_law_145 ?_
    refine lv_lor hx hb dL_law_146 ?_
    refine lv_topl (fun x5 ex5 => ?_)
    have ex5q : x5 = fk_lg (xs (i + 3)) (xs (i + 4)) := by
      rw [ex5]; rfl
    subst ex5q
    refine lv_aload_n hx hb dL_law_147 rfl (lv_at hl 0 rfl) ?_
    refine lv_iload hx hb dL_law_148 (lv_at hl 4 rfl) ?_
    refine lv_iconst (v := 5) hx hb dL_law_150 (by decide) ?_
    refine lv_iadd hx hb dL_law_151 ?_
    refine lv_topi (fun x6 ex6 => ?_)
    have ex6q : x6 = (nI (i + 5)) := by
      rw [ex6]; exact nI_add i 5
    subst ex6q
    refine fk_sld hx hb hX hbl hbA hS hL (k := i + 5) (by omega) dL_law_152 ?_
    refine lv_i2l hx hb dL_law_153 rfl ?_
    refine lv_bipush (v := 32) hx hb dL_law_154 (by decide) ?_
    refine lv_lshl hx hb dL_law_156 rfl ?_
    refine lv_aload_n hx hb dL_law_157 rfl (lv_at hl 0 rfl) ?_
    refine lv_iload hx hb dL_law_158 (lv_at hl 4 rfl) ?_
    refine lv_bipush (v := 6) hx hb dL_law_160 (by decide) ?_
    refine lv_iadd hx hb dL_law_162 ?_
    refine lv_topi (fun x7 ex7 => ?_)
    have ex7q : x7 = (nI (i + 6)) := by
      rw [ex7]; exact nI_add i 6
    subst ex7q
    refine fk_sld hx hb hX hbl hbA hS hL (k := i + 6) (by omega) dL_law_163 ?_
    refine lv_i2l hx hb dL_law_164 rfl ?_
    refine lv_ldc2 (v := 4294967295) hx hb hown k1 dL_law_165 ?_
    refine lv_land hx hb dL_law_168 ?_
    refine lv_lor hx hb dL_law_169 ?_
    refine lv_topl (fun x8 ex8 => ?_)
    have ex8q : x8 = fk_lg (xs (i + 5)) (xs (i + 6)) := by
      rw [ex8]; rfl
    subst ex8q
    refine lv_aload_n hx hb dL_law_170 rfl (lv_at hl 0 rfl) ?_
    refine lv_iload hx hb dL_law_171 (lv_at hl 4 rfl) ?_
    refine lv_bipush (v := 7) hx hb dL_law_173 (by decide) ?_
    refine lv_iadd hx hb dL_law_175 ?_
    refine lv_topi (fun x9 ex9 => ?_)
    have ex9q : x9 = (nI (i + 7)) := by
      rw [ex9]; exact nI_add i 7
    subst ex9q
    refine fk_sld hx hb hX hbl hbA hS hL (k := i + 7) (by omega) dL_law_176 ?_
    refine lv_i2l hx hb dL_law_177 rfl ?_
    refine lv_bipush (v := 32) hx hb dL_law_178 (by decide) ?_
    refine lv_lshl hx hb dL_law_180 rfl ?_
    refine lv_aload_n hx hb dL_law_181 rfl (lv_at hl 0 rfl) ?_
    refine lv_iload hx hb dL_law_182 (lv_at hl 4 rfl) ?_
    refine lv_bipush (v := 8) hx hb dL_law_184 (by decide) ?_
    refine lv_iadd hx hb dL_law_186 ?_
    refine lv_topi (fun x10 ex10 => ?_)
    have ex10q : x10 = (nI (i + 8)) := by
      rw [ex10]; exact nI_add i 8
    subst ex10q
    refine fk_sld hx hb hX hbl hbA hS hL (k := i + 8) (by omega) dL_law_187 ?_
    refine lv_i2l hx hb dL_law_188 rfl ?_
    refine lv_ldc2 (v := 4294967295) hx hb hown k1 dL_law_189 ?_
    refine lv_land hx hb dL_law_192 ?_
    refine lv_lor hx hb dL_law_193 ?_
    refine lv_topl (fun x11 ex11 => ?_)
    have ex11q : x11 = fk_lg (xs (i + 7)) (xs (i + 8)) := by
      rw [ex11]; rfl
    subst ex11q
    refine fk_ci hD hS hA (va_runV (As := [.int (xs (i + 1)), .int 0, .long (fk_lg (xs (i + 3)) (xs (i + 4))), .long (fk_lg (xs (i + 5)) (xs (i + 6))), .long (fk_lg (xs (i + 7)) (xs (i + 8)))]) (rest := []) ⟨hx, hb, hml, hown, hts⟩ (kX3_kind _ ad ((fk_wm cJ cI cZ am cd (nI n) lo (nI T.length) wd sg up dn of bey rnd tx pt sn) ++ ((oA, .inl (cJ, 1, .inr (.inl fo))) :: kt)) kd lo ch (nI (40 - T.length)) f1 f2 f3 f4 f5 n kf ka (fun j => j + 12) (xs (i + 1)) 0 (fk_lg (xs (i + 3)) (xs (i + 4))) (fk_lg (xs (i + 5)) (xs (i + 6))) (fk_lg (xs (i + 7)) (xs (i + 8))) hKT (Or.inl rfl)) (cwV 5 hts gL_law_X3_kind rfl rfl rfl (by decide +kernel) ⟨Nat.le_of_ble_eq_true rfl, Nat.le_of_ble_eq_true rfl⟩) (fk_preV 0 4 hK hN hP hD rfl rfl) rfl rfl hl.1 rfl (lv_room (Nat.le_of_ble_eq_true rfl)) dL_law_194 ⟨by show cells + 1 ≤ 604189; omega, by show slots + 7 ≤ 7283536; omega⟩) (fun r12 u1 H locs hwr12 hP hD hS => ?_)
    rcases hwr12 with ⟨ea, er, ey⟩ | ⟨ea, en, er, ey⟩ | ⟨ea, en, eu, er, ey⟩ | ⟨ea, en, eu, er, q, ey⟩
    · subst ey
      have hP : va_P D vwCl ((fk_wx cJ cC cK ad kd (nI n) lo ch (nI (40 - T.length)) f1 f2 f3 f4 f5) ++ ((fk_wm cJ cI cZ am cd (nI n) lo (nI T.length) wd sg up dn of bey rnd tx pt sn) ++ ((oA, .inl (cJ, 1, .inr (.inl fo))) :: kt))) H := hP
      have hD : va_D A ((fk_wx cJ cC cK ad kd (nI n) lo ch (nI (40 - T.length)) f1 f2 f3 f4 f5) ++ ((fk_wm cJ cI cZ am cd (nI n) lo (nI T.length) wd sg up dn of bey rnd tx pt sn) ++ ((oA, .inl (cJ, 1, .inr (.inl fo))) :: kt))) := hD
      refine lv_aload_n hx hb dL_law_197 rfl (lv_at hl 2 rfl) ?_
      refine lv_aload_n hx hb dL_law_198 rfl (lv_at hl 0 rfl) ?_
      refine lv_iload hx hb dL_law_199 (lv_at hl 4 rfl) ?_
      refine lv_iconst (v := 1) hx hb dL_law_201 (by decide) ?_
      refine lv_iadd hx hb dL_law_202 ?_
      refine lv_topi (fun x13 ex13 => ?_)
      have ex13q : x13 = (nI (i + 1)) := by
        rw [ex13]; exact nI_add i 1
      subst ex13q
      refine fk_sld hx hb hX hbl hbA hS hL (k := i + 1) (by omega) dL_law_203 ?_
      refine lv_aload_n hx hb dL_law_204 rfl (lv_at hl 0 rfl) ?_
      refine lv_iload hx hb dL_law_205 (lv_at hl 4 rfl) ?_
      refine lv_iconst (v := 2) hx hb dL_law_207 (by decide) ?_
      refine lv_iadd hx hb dL_law_208 ?_
      refine lv_topi (fun x14 ex14 => ?_)
      have ex14q : x14 = (nI (i + 2)) := by
        rw [ex14]; exact nI_add i 2
      subst ex14q
      refine fk_sld hx hb hX hbl hbA hS hL (k := i + 2) (by omega) dL_law_209 ?_
      refine lv_if_eq (tgt := 217) hx hb dL_law_210 (by decide) (fun c_210 => ?_) (fun c_210 => False.elim (c_210 c_117))
      refine lv_iconst (v := 0) hx hb dL_law_217 (by decide) ?_
      refine lv_aload_n hx hb dL_law_218 rfl (lv_at hl 0 rfl) ?_
      refine lv_iload hx hb dL_law_219 (lv_at hl 4 rfl) ?_
      refine lv_iconst (v := 3) hx hb dL_law_221 (by decide) ?_
      refine lv_iadd hx hb dL_law_222 ?_
      refine lv_topi (fun x15 ex15 => ?_)
      have ex15q : x15 = (nI (i + 3)) := by
        rw [ex15]; exact nI_add i 3
      subst ex15q
      refine fk_sld hx hb hX hbl hbA hS hL (k := i + 3) (by omega) dL_law_223 ?_
      refine lv_i2l hx hb dL_law_224 rfl ?_
      refine lv_bipush (v := 32) hx hb dL_law_225 (by decide) ?_
      refine lv_lshl hx hb dL_law_227 rfl ?_
      refine lv_aload_n hx hb dL_law_228 rfl (lv_at hl 0 rfl) ?_
      refine lv_iload hx hb dL_law_229 (lv_at hl 4 rfl) ?_
      refine lv_iconst (v := 4) hx hb dL_law_231 (by decide) ?_
      refine lv_iadd hx hb dL_law_232 ?_
      refine lv_topi (fun x16 ex16 => ?_)
      have ex16q : x16 = (nI (i + 4)) := by
        rw [ex16]; exact nI_add i 4
      subst ex16q
      refine fk_sld hx hb hX hbl hbA hS hL (k := i + 4) (by omega) dL_law_233 ?_
      refine lv_i2l hx hb dL_law_234 rfl ?_
      refine lv_ldc2 (v := 4294967295) hx hb hown k1 dL_law_235 ?_
      refine lv_land hx hb dL_law_238 ?_
      refine lv_lor hx hb dL_law_239 ?_
      refine lv_topl (fun x17 ex17 => ?_)
      have ex17q : x17 = fk_lg (xs (i + 3)) (xs (i + 4)) := by
        rw [ex17]; rfl
      subst ex17q
      refine lv_aload_n hx hb dL_law_240 rfl (lv_at hl 0 rfl) ?_
      refine lv_iload hx hb dL_law_241 (lv_at hl 4 rfl) ?_
      refine lv_iconst (v := 5) hx hb dL_law_243 (by decide) ?_
      refine lv_iadd hx hb dL_law_244 ?_
      refine lv_topi (fun x18 ex18 => ?_)
      have ex18q : x18 = (nI (i + 5)) := by
        rw [ex18]; exact nI_add i 5
      subst ex18q
      refine fk_sld hx hb hX hbl hbA hS hL (k := i + 5) (by omega) dL_law_245 ?_
      refine lv_i2l hx hb dL_law_246 rfl ?_
      refine lv_bipush (v := 32) hx hb dL_law_247 (by decide) ?_
      refine lv_lshl hx hb dL_law_249 rfl ?_
      refine lv_aload_n hx hb dL_law_250 rfl (lv_at hl 0 rfl) ?_
      refine lv_iload hx hb dL_law_251 (lv_at hl 4 rfl) ?_
      refine lv_bipush (v := 6) hx hb dL_law_253 (by decide) ?_
      refine lv_iadd hx hb dL_law_255 ?_
      refine lv_topi (fun x19 ex19 => ?_)
      have ex19q : x19 = (nI (i + 6)) := by
        rw [ex19]; exact nI_add i 6
      subst ex19q
      refine fk_sld hx hb hX hbl hbA hS hL (k := i + 6) (by omega) dL_law_256 ?_
      refine lv_i2l hx hb dL_law_257 rfl ?_
      refine lv_ldc2 (v := 4294967295) hx hb hown k1 dL_law_258 ?_
      refine lv_land hx hb dL_law_261 ?_
      refine lv_lor hx hb dL_law_262 ?_
      refine lv_topl (fun x20 ex20 => ?_)
      have ex20q : x20 = fk_lg (xs (i + 5)) (xs (i + 6)) := by
        rw [ex20]; rfl
      subst ex20q
      refine lv_aload_n hx hb dL_law_263 rfl (lv_at hl 0 rfl) ?_
      refine lv_iload hx hb dL_law_264 (lv_at hl 4 rfl) ?_
      refine lv_bipush (v := 7) hx hb dL_law_266 (by decide) ?_
      refine lv_iadd hx hb dL_law_268 ?_
      refine lv_topi (fun x21 ex21 => ?_)
      have ex21q : x21 = (nI (i + 7)) := by
        rw [ex21]; exact nI_add i 7
      subst ex21q
      refine fk_sld hx hb hX hbl hbA hS hL (k := i + 7) (by omega) dL_law_269 ?_
      refine lv_i2l hx hb dL_law_270 rfl ?_
      refine lv_bipush (v := 32) hx hb dL_law_271 (by decide) ?_
      refine lv_lshl hx hb dL_law_273 rfl ?_
      refine lv_aload_n hx hb dL_law_274 rfl (lv_at hl 0 rfl) ?_
      refine lv_iload hx hb dL_law_275 (lv_at hl 4 rfl) ?_
      refine lv_bipush (v := 8) hx hb dL_law_277 (by decide) ?_
      refine lv_iadd hx hb dL_law_279 ?_
      refine lv_topi (fun x22 ex22 => ?_)
      have ex22q : x22 = (nI (i + 8)) := by
        rw [ex22]; exact nI_add i 8
      subst ex22q
      refine fk_sld hx hb hX hbl hbA hS hL (k := i + 8) (by omega) dL_law_280 ?_
      refine lv_i2l hx hb dL_law_281 rfl ?_
      refine lv_ldc2 (v := 4294967295) hx hb hown k1 dL_law_282 ?_
      refine lv_land hx hb dL_law_285 ?_
      refine lv_lor hx hb dL_law_286 ?_
      refine lv_topl (fun x23 ex23 => ?_)
      have ex23q : x23 = fk_lg (xs (i + 7)) (xs (i + 8)) := by
        rw [ex23]; rfl
      subst ex23q
      have hP : va_P D vwCl ((fk_wm cJ cI cZ am cd (nI n) lo (nI T.length) wd sg up dn of bey rnd tx pt sn) ++ (((oA, .inl (cJ, 1, .inr (.inl fo))) :: kt) ++ (fk_wx cJ cC cK ad kd (nI n) lo ch (nI (40 - T.length)) f1 f2 f3 f4 f5))) H := fk_swP hP
      have hD : va_D A ((fk_wm cJ cI cZ am cd (nI n) lo (nI T.length) wd sg up dn of bey rnd tx pt sn) ++ (((oA, .inl (cJ, 1, .inr (.inl fo))) :: kt) ++ (fk_wx cJ cC cK ad kd (nI n) lo ch (nI (40 - T.length)) f1 f2 f3 f4 f5))) := fk_swD hD
      refine fk_ci hD hS hA (va_runV (As := [.int (xs (i + 1)), .int 0, .long (fk_lg (xs (i + 3)) (xs (i + 4))), .long (fk_lg (xs (i + 5)) (xs (i + 6))), .long (fk_lg (xs (i + 7)) (xs (i + 8)))]) (rest := [.int r12]) ⟨hx, hb, hml, hown, hts⟩ (kX4_kind _ am (((oA, .inl (cJ, 1, .inr (.inl fo))) :: kt) ++ (fk_wx cJ cC cK ad kd (nI n) lo ch (nI (40 - T.length)) f1 f2 f3 f4 f5)) cd lo (nI T.length) wd sg up dn of bey rnd tx pt sn n kf (xs (i + 1)) 0 (fk_lg (xs (i + 3)) (xs (i + 4))) (fk_lg (xs (i + 5)) (xs (i + 6))) (fk_lg (xs (i + 7)) (xs (i + 8))) hMT (Or.inl rfl)) (cwV 5 hts gL_law_X4_kind rfl rfl rfl (by decide +kernel) ⟨Nat.le_of_ble_eq_true rfl, Nat.le_of_ble_eq_true rfl⟩) (fk_preV 0 5 hK hN hP hD rfl rfl) rfl rfl hl.1 rfl (lv_room (Nat.le_of_ble_eq_true rfl)) dL_law_287 ⟨by show cells + 1 + 0 ≤ 604189; omega, by show slots + 7 + 0 ≤ 7283536; omega⟩) (fun r24 u2 H locs hwr24 hP hD hS => ?_)
      obtain ⟨e3, e4⟩ : r24 = -2 ∧ u2 = (n, wd, sg, up, dn, of) := by
        rcases hwr24 with ⟨ya, yr, yy⟩ | ⟨ya, yn, yr, yy⟩ | ⟨ya, yn, yu, yr, yy⟩ | ⟨ya, yn, yu, yr, yy⟩
        · exact ⟨yr, yy⟩
        · exact absurd ea ya
        · exact absurd ea ya
        · exact absurd ea ya
      subst e4
      have hP : va_P D vwCl ((fk_wx cJ cC cK ad kd (nI n) lo ch (nI (40 - T.length)) f1 f2 f3 f4 f5) ++ ((fk_wm cJ cI cZ am 0 (nI n) lo (nI T.length) wd sg up dn of bey rnd tx pt sn) ++ ((oA, .inl (cJ, 1, .inr (.inl fo))) :: kt))) H := fk_swQ hP
      have hD : va_D A ((fk_wx cJ cC cK ad kd (nI n) lo ch (nI (40 - T.length)) f1 f2 f3 f4 f5) ++ ((fk_wm cJ cI cZ am 0 (nI n) lo (nI T.length) wd sg up dn of bey rnd tx pt sn) ++ ((oA, .inl (cJ, 1, .inr (.inl fo))) :: kt))) := fk_swE hD
      refine lv_icmp_eq (tgt := 1132) hx hb dL_law_290 (by decide) (fun c_290 => ?_) (fun c_290 => False.elim (c_290 (by rw [er, e3])))
      refine W.widen (k := cells + 1) (n := slots + 7) (by omega) (by omega) ?_
      exact kk _ _ _ (fk_J.mk T hP hD hS hKL hMT hlo hT1 hT2 hT3) (lv_sub hl [0, 1, 2, 3, 4] rfl)
    · subst ey
      have hP : va_P D vwCl ((fk_wx cJ cC cK ad kd (nI n) lo ch (nI (40 - T.length)) f1 f2 f3 f4 f5) ++ ((fk_wm cJ cI cZ am cd (nI n) lo (nI T.length) wd sg up dn of bey rnd tx pt sn) ++ ((oA, .inl (cJ, 1, .inr (.inl fo))) :: kt))) H := hP
      have hD : va_D A ((fk_wx cJ cC cK ad kd (nI n) lo ch (nI (40 - T.length)) f1 f2 f3 f4 f5) ++ ((fk_wm cJ cI cZ am cd (nI n) lo (nI T.length) wd sg up dn of bey rnd tx pt sn) ++ ((oA, .inl (cJ, 1, .inr (.inl fo))) :: kt))) := hD
      refine lv_aload_n hx hb dL_law_197 rfl (lv_at hl 2 rfl) ?_
      refine lv_aload_n hx hb dL_law_198 rfl (lv_at hl 0 rfl) ?_
      refine lv_iload hx hb dL_law_199 (lv_at hl 4 rfl) ?_
      refine lv_iconst (v := 1) hx hb dL_law_201 (by decide) ?_
      refine lv_iadd hx hb dL_law_202 ?_
      refine lv_topi (fun x25 ex25 => ?_)
      have ex25q : x25 = (nI (i + 1)) := by
        rw [ex25]; exact nI_add i 1
      subst ex25q
      refine fk_sld hx hb hX hbl hbA hS hL (k := i + 1) (by omega) dL_law_203 ?_
      refine lv_aload_n hx hb dL_law_204 rfl (lv_at hl 0 rfl) ?_
      refine lv_iload hx hb dL_law_205 (lv_at hl 4 rfl) ?_
      refine lv_iconst (v := 2) hx hb dL_law_207 (by decide) ?_
      refine lv_iadd hx hb dL_law_208 ?_
      refine lv_topi (fun x26 ex26 => ?_)
      have ex26q : x26 = (nI (i + 2)) := by
        rw [ex26]; exact nI_add i 2
      subst ex26q
      refine fk_sld hx hb hX hbl hbA hS hL (k := i + 2) (by omega) dL_law_209 ?_
      refine lv_if_eq (tgt := 217) hx hb dL_law_210 (by decide) (fun c_210 => ?_) (fun c_210 => False.elim (c_210 c_117))
      refine lv_iconst (v := 0) hx hb dL_law_217 (by decide) ?_
      refine lv_aload_n hx hb dL_law_218 rfl (lv_at hl 0 rfl) ?_
      refine lv_iload hx hb dL_law_219 (lv_at hl 4 rfl) ?_
      refine lv_iconst (v := 3) hx hb dL_law_221 (by decide) ?_
      refine lv_iadd hx hb dL_law_222 ?_
      refine lv_topi (fun x27 ex27 => ?_)
      have ex27q : x27 = (nI (i + 3)) := by
        rw [ex27]; exact nI_add i 3
      subst ex27q
      refine fk_sld hx hb hX hbl hbA hS hL (k := i + 3) (by omega) dL_law_223 ?_
      refine lv_i2l hx hb dL_law_224 rfl ?_
      refine lv_bipush (v := 32) hx hb dL_law_225 (by decide) ?_
      refine lv_lshl hx hb dL_law_227 rfl ?_
      refine lv_aload_n hx hb dL_law_228 rfl (lv_at hl 0 rfl) ?_
      refine lv_iload hx hb dL_law_229 (lv_at hl 4 rfl) ?_
      refine lv_iconst (v := 4) hx hb dL_law_231 (by decide) ?_
      refine lv_iadd hx hb dL_law_232 ?_
      refine lv_topi (fun x28 ex28 => ?_)
      have ex28q : x28 = (nI (i + 4)) := by
        rw [ex28]; exact nI_add i 4
      subst ex28q
      refine fk_sld hx hb hX hbl hbA hS hL (k := i + 4) (by omega) dL_law_233 ?_
      refine lv_i2l hx hb dL_law_234 rfl ?_
      refine lv_ldc2 (v := 4294967295) hx hb hown k1 dL_law_235 ?_
      refine lv_land hx hb dL_law_238 ?_
      refine lv_lor hx hb dL_law_239 ?_
      refine lv_topl (fun x29 ex29 => ?_)
      have ex29q : x29 = fk_lg (xs (i + 3)) (xs (i + 4)) := by
        rw [ex29]; rfl
      subst ex29q
      refine lv_aload_n hx hb dL_law_240 rfl (lv_at hl 0 rfl) ?_
      refine lv_iload hx hb dL_law_241 (lv_at hl 4 rfl) ?_
      refine lv_iconst (v := 5) hx hb dL_law_243 (by decide) ?_
      refine lv_iadd hx hb dL_law_244 ?_
      refine lv_topi (fun x30 ex30 => ?_)
      have ex30q : x30 = (nI (i + 5)) := by
        rw [ex30]; exact nI_add i 5
      subst ex30q
      refine fk_sld hx hb hX hbl hbA hS hL (k := i + 5) (by omega) dL_law_245 ?_
      refine lv_i2l hx hb dL_law_246 rfl ?_
      refine lv_bipush (v := 32) hx hb dL_law_247 (by decide) ?_
      refine lv_lshl hx hb dL_law_249 rfl ?_
      refine lv_aload_n hx hb dL_law_250 rfl (lv_at hl 0 rfl) ?_
      refine lv_iload hx hb dL_law_251 (lv_at hl 4 rfl) ?_
      refine lv_bipush (v := 6) hx hb dL_law_253 (by decide) ?_
      refine lv_iadd hx hb dL_law_255 ?_
      refine lv_topi (fun x31 ex31 => ?_)
      have ex31q : x31 = (nI (i + 6)) := by
        rw [ex31]; exact nI_add i 6
      subst ex31q
      refine fk_sld hx hb hX hbl hbA hS hL (k := i + 6) (by omega) dL_law_256 ?_
      refine lv_i2l hx hb dL_law_257 rfl ?_
      refine lv_ldc2 (v := 4294967295) hx hb hown k1 dL_law_258 ?_
      refine lv_land hx hb dL_law_261 ?_
      refine lv_lor hx hb dL_law_262 ?_
      refine lv_topl (fun x32 ex32 => ?_)
      have ex32q : x32 = fk_lg (xs (i + 5)) (xs (i + 6)) := by
        rw [ex32]; rfl
      subst ex32q
      refine lv_aload_n hx hb dL_law_263 rfl (lv_at hl 0 rfl) ?_
      refine lv_iload hx hb dL_law_264 (lv_at hl 4 rfl) ?_
      refine lv_bipush (v := 7) hx hb dL_law_266 (by decide) ?_
      refine lv_iadd hx hb dL_law_268 ?_
      refine lv_topi (fun x33 ex33 => ?_)
      have ex33q : x33 = (nI (i + 7)) := by
        rw [ex33]; exact nI_add i 7
      subst ex33q
      refine fk_sld hx hb hX hbl hbA hS hL (k := i + 7) (by omega) dL_law_269 ?_
      refine lv_i2l hx hb dL_law_270 rfl ?_
      refine lv_bipush (v := 32) hx hb dL_law_271 (by decide) ?_
      refine lv_lshl hx hb dL_law_273 rfl ?_
      refine lv_aload_n hx hb dL_law_274 rfl (lv_at hl 0 rfl) ?_
      refine lv_iload hx hb dL_law_275 (lv_at hl 4 rfl) ?_
      refine lv_bipush (v := 8) hx hb dL_law_277 (by decide) ?_
      refine lv_iadd hx hb dL_law_279 ?_
      refine lv_topi (fun x34 ex34 => ?_)
      have ex34q : x34 = (nI (i + 8)) := by
        rw [ex34]; exact nI_add i 8
      subst ex34q
      refine fk_sld hx hb hX hbl hbA hS hL (k := i + 8) (by omega) dL_law_280 ?_
      refine lv_i2l hx hb dL_law_281 rfl ?_
      refine lv_ldc2 (v := 4294967295) hx hb hown k1 dL_law_282 ?_
      refine lv_land hx hb dL_law_285 ?_
      refine lv_lor hx hb dL_law_286 ?_
      refine lv_topl (fun x35 ex35 => ?_)
      have ex35q : x35 = fk_lg (xs (i + 7)) (xs (i + 8)) := by
        rw [ex35]; rfl
      subst ex35q
      have hP : va_P D vwCl ((fk_wm cJ cI cZ am cd (nI n) lo (nI T.length) wd sg up dn of bey rnd tx pt sn) ++ (((oA, .inl (cJ, 1, .inr (.inl fo))) :: kt) ++ (fk_wx cJ cC cK ad kd (nI n) lo ch (nI (40 - T.length)) f1 f2 f3 f4 f5))) H := fk_swP hP
      have hD : va_D A ((fk_wm cJ cI cZ am cd (nI n) lo (nI T.length) wd sg up dn of bey rnd tx pt sn) ++ (((oA, .inl (cJ, 1, .inr (.inl fo))) :: kt) ++ (fk_wx cJ cC cK ad kd (nI n) lo ch (nI (40 - T.length)) f1 f2 f3 f4 f5))) := fk_swD hD
      refine fk_ci hD hS hA (va_runV (As := [.int (xs (i + 1)), .int 0, .long (fk_lg (xs (i + 3)) (xs (i + 4))), .long (fk_lg (xs (i + 5)) (xs (i + 6))), .long (fk_lg (xs (i + 7)) (xs (i + 8)))]) (rest := [.int r12]) ⟨hx, hb, hml, hown, hts⟩ (kX4_kind _ am (((oA, .inl (cJ, 1, .inr (.inl fo))) :: kt) ++ (fk_wx cJ cC cK ad kd (nI n) lo ch (nI (40 - T.length)) f1 f2 f3 f4 f5)) cd lo (nI T.length) wd sg up dn of bey rnd tx pt sn n kf (xs (i + 1)) 0 (fk_lg (xs (i + 3)) (xs (i + 4))) (fk_lg (xs (i + 5)) (xs (i + 6))) (fk_lg (xs (i + 7)) (xs (i + 8))) hMT (Or.inl rfl)) (cwV 5 hts gL_law_X4_kind rfl rfl rfl (by decide +kernel) ⟨Nat.le_of_ble_eq_true rfl, Nat.le_of_ble_eq_true rfl⟩) (fk_preV 0 5 hK hN hP hD rfl rfl) rfl rfl hl.1 rfl (lv_room (Nat.le_of_ble_eq_true rfl)) dL_law_287 ⟨by show cells + 1 + 0 ≤ 604189; omega, by show slots + 7 + 0 ≤ 7283536; omega⟩) (fun r36 u2 H locs hwr36 hP hD hS => ?_)
      obtain ⟨e3, e4⟩ : r36 = -4 ∧ u2 = (n, wd, sg, up, dn, of) := by
        rcases hwr36 with ⟨ya, yr, yy⟩ | ⟨ya, yn, yr, yy⟩ | ⟨ya, yn, yu, yr, yy⟩ | ⟨ya, yn, yu, yr, yy⟩
        · exact absurd ya ea
        · exact ⟨yr, yy⟩
        · omega
        · omega
      subst e4
      have hP : va_P D vwCl ((fk_wx cJ cC cK ad kd (nI n) lo ch (nI (40 - T.length)) f1 f2 f3 f4 f5) ++ ((fk_wm cJ cI cZ am 0 (nI n) lo (nI T.length) wd sg up dn of bey rnd tx pt sn) ++ ((oA, .inl (cJ, 1, .inr (.inl fo))) :: kt))) H := fk_swQ hP
      have hD : va_D A ((fk_wx cJ cC cK ad kd (nI n) lo ch (nI (40 - T.length)) f1 f2 f3 f4 f5) ++ ((fk_wm cJ cI cZ am 0 (nI n) lo (nI T.length) wd sg up dn of bey rnd tx pt sn) ++ ((oA, .inl (cJ, 1, .inr (.inl fo))) :: kt))) := fk_swE hD
      refine lv_icmp_eq (tgt := 1132) hx hb dL_law_290 (by decide) (fun c_290 => ?_) (fun c_290 => False.elim (c_290 (by rw [er, e3])))
      refine W.widen (k := cells + 1) (n := slots + 7) (by omega) (by omega) ?_
      exact kk _ _ _ (fk_J.mk T hP hD hS hKL hMT hlo hT1 hT2 hT3) (lv_sub hl [0, 1, 2, 3, 4] rfl)
    · subst ey
      have hP : va_P D vwCl ((fk_wx cJ cC cK ad kd (nI n) lo ch (nI (40 - T.length)) f1 f2 f3 f4 f5) ++ ((fk_wm cJ cI cZ am cd (nI n) lo (nI T.length) wd sg up dn of bey rnd tx pt sn) ++ ((oA, .inl (cJ, 1, .inr (.inl fo))) :: kt))) H := hP
      have hD : va_D A ((fk_wx cJ cC cK ad kd (nI n) lo ch (nI (40 - T.length)) f1 f2 f3 f4 f5) ++ ((fk_wm cJ cI cZ am cd (nI n) lo (nI T.length) wd sg up dn of bey rnd tx pt sn) ++ ((oA, .inl (cJ, 1, .inr (.inl fo))) :: kt))) := hD
      refine lv_aload_n hx hb dL_law_197 rfl (lv_at hl 2 rfl) ?_
      refine lv_aload_n hx hb dL_law_198 rfl (lv_at hl 0 rfl) ?_
      refine lv_iload hx hb dL_law_199 (lv_at hl 4 rfl) ?_
      refine lv_iconst (v := 1) hx hb dL_law_201 (by decide) ?_
      refine lv_iadd hx hb dL_law_202 ?_
      refine lv_topi (fun x37 ex37 => ?_)
      have ex37q : x37 = (nI (i + 1)) := by
        rw [ex37]; exact nI_add i 1
      subst ex37q
      refine fk_sld hx hb hX hbl hbA hS hL (k := i + 1) (by omega) dL_law_203 ?_
      refine lv_aload_n hx hb dL_law_204 rfl (lv_at hl 0 rfl) ?_
      refine lv_iload hx hb dL_law_205 (lv_at hl 4 rfl) ?_
      refine lv_iconst (v := 2) hx hb dL_law_207 (by decide) ?_
      refine lv_iadd hx hb dL_law_208 ?_
      refine lv_topi (fun x38 ex38 => ?_)
      have ex38q : x38 = (nI (i + 2)) := by
        rw [ex38]; exact nI_add i 2
      subst ex38q
      refine fk_sld hx hb hX hbl hbA hS hL (k := i + 2) (by omega) dL_law_209 ?_
      refine lv_if_eq (tgt := 217) hx hb dL_law_210 (by decide) (fun c_210 => ?_) (fun c_210 => False.elim (c_210 c_117))
      refine lv_iconst (v := 0) hx hb dL_law_217 (by decide) ?_
      refine lv_aload_n hx hb dL_law_218 rfl (lv_at hl 0 rfl) ?_
      refine lv_iload hx hb dL_law_219 (lv_at hl 4 rfl) ?_
      refine lv_iconst (v := 3) hx hb dL_law_221 (by decide) ?_
      refine lv_iadd hx hb dL_law_222 ?_
      refine lv_topi (fun x39 ex39 => ?_)
      have ex39q : x39 = (nI (i + 3)) := by
        rw [ex39]; exact nI_add i 3
      subst ex39q
      refine fk_sld hx hb hX hbl hbA hS hL (k := i + 3) (by omega) dL_law_223 ?_
      refine lv_i2l hx hb dL_law_224 rfl ?_
      refine lv_bipush (v := 32) hx hb dL_law_225 (by decide) ?_
      refine lv_lshl hx hb dL_law_227 rfl ?_
      refine lv_aload_n hx hb dL_law_228 rfl (lv_at hl 0 rfl) ?_
      refine lv_iload hx hb dL_law_229 (lv_at hl 4 rfl) ?_
      refine lv_iconst (v := 4) hx hb dL_law_231 (by decide) ?_
      refine lv_iadd hx hb dL_law_232 ?_
      refine lv_topi (fun x40 ex40 => ?_)
      have ex40q : x40 = (nI (i + 4)) := by
        rw [ex40]; exact nI_add i 4
      subst ex40q
      refine fk_sld hx hb hX hbl hbA hS hL (k := i + 4) (by omega) dL_law_233 ?_
      refine lv_i2l hx hb dL_law_234 rfl ?_
      refine lv_ldc2 (v := 4294967295) hx hb hown k1 dL_law_235 ?_
      refine lv_land hx hb dL_law_238 ?_
      refine lv_lor hx hb dL_law_239 ?_
      refine lv_topl (fun x41 ex41 => ?_)
      have ex41q : x41 = fk_lg (xs (i + 3)) (xs (i + 4)) := by
        rw [ex41]; rfl
      subst ex41q
      refine lv_aload_n hx hb dL_law_240 rfl (lv_at hl 0 rfl) ?_
      refine lv_iload hx hb dL_law_241 (lv_at hl 4 rfl) ?_
      refine lv_iconst (v := 5) hx hb dL_law_243 (by decide) ?_
      refine lv_iadd hx hb dL_law_244 ?_
      refine lv_topi (fun x42 ex42 => ?_)
      have ex42q : x42 = (nI (i + 5)) := by
        rw [ex42]; exact nI_add i 5
      subst ex42q
      refine fk_sld hx hb hX hbl hbA hS hL (k := i + 5) (by omega) dL_law_245 ?_
      refine lv_i2l hx hb dL_law_246 rfl ?_
      refine lv_bipush (v := 32) hx hb dL_law_247 (by decide) ?_
      refine lv_lshl hx hb dL_law_249 rfl ?_
      refine lv_aload_n hx hb dL_law_250 rfl (lv_at hl 0 rfl) ?_
      refine lv_iload hx hb dL_law_251 (lv_at hl 4 rfl) ?_
      refine lv_bipush (v := 6) hx hb dL_law_253 (by decide) ?_
      refine lv_iadd hx hb dL_law_255 ?_
      refine lv_topi (fun x43 ex43 => ?_)
      have ex43q : x43 = (nI (i + 6)) := by
        rw [ex43]; exact nI_add i 6
      subst ex43q
      refine fk_sld hx hb hX hbl hbA hS hL (k := i + 6) (by omega) dL_law_256 ?_
      refine lv_i2l hx hb dL_law_257 rfl ?_
      refine lv_ldc2 (v := 4294967295) hx hb hown k1 dL_law_258 ?_
      refine lv_land hx hb dL_law_261 ?_
      refine lv_lor hx hb dL_law_262 ?_
      refine lv_topl (fun x44 ex44 => ?_)
      have ex44q : x44 = fk_lg (xs (i + 5)) (xs (i + 6)) := by
        rw [ex44]; rfl
      subst ex44q
      refine lv_aload_n hx hb dL_law_263 rfl (lv_at hl 0 rfl) ?_
      refine lv_iload hx hb dL_law_264 (lv_at hl 4 rfl) ?_
      refine lv_bipush (v := 7) hx hb dL_law_266 (by decide) ?_
      refine lv_iadd hx hb dL_law_268 ?_
      refine lv_topi (fun x45 ex45 => ?_)
      have ex45q : x45 = (nI (i + 7)) := by
        rw [ex45]; exact nI_add i 7
      subst ex45q
      refine fk_sld hx hb hX hbl hbA hS hL (k := i + 7) (by omega) dL_law_269 ?_
      refine lv_i2l hx hb dL_law_270 rfl ?_
      refine lv_bipush (v := 32) hx hb dL_law_271 (by decide) ?_
      refine lv_lshl hx hb dL_law_273 rfl ?_
      refine lv_aload_n hx hb dL_law_274 rfl (lv_at hl 0 rfl) ?_
      refine lv_iload hx hb dL_law_275 (lv_at hl 4 rfl) ?_
      refine lv_bipush (v := 8) hx hb dL_law_277 (by decide) ?_
      refine lv_iadd hx hb dL_law_279 ?_
      refine lv_topi (fun x46 ex46 => ?_)
      have ex46q : x46 = (nI (i + 8)) := by
        rw [ex46]; exact nI_add i 8
      subst ex46q
      refine fk_sld hx hb hX hbl hbA hS hL (k := i + 8) (by omega) dL_law_280 ?_
      refine lv_i2l hx hb dL_law_281 rfl ?_
      refine lv_ldc2 (v := 4294967295) hx hb hown k1 dL_law_282 ?_
      refine lv_land hx hb dL_law_285 ?_
      refine lv_lor hx hb dL_law_286 ?_
      refine lv_topl (fun x47 ex47 => ?_)
      have ex47q : x47 = fk_lg (xs (i + 7)) (xs (i + 8)) := by
        rw [ex47]; rfl
      subst ex47q
      have hP : va_P D vwCl ((fk_wm cJ cI cZ am cd (nI n) lo (nI T.length) wd sg up dn of bey rnd tx pt sn) ++ (((oA, .inl (cJ, 1, .inr (.inl fo))) :: kt) ++ (fk_wx cJ cC cK ad kd (nI n) lo ch (nI (40 - T.length)) f1 f2 f3 f4 f5))) H := fk_swP hP
      have hD : va_D A ((fk_wm cJ cI cZ am cd (nI n) lo (nI T.length) wd sg up dn of bey rnd tx pt sn) ++ (((oA, .inl (cJ, 1, .inr (.inl fo))) :: kt) ++ (fk_wx cJ cC cK ad kd (nI n) lo ch (nI (40 - T.length)) f1 f2 f3 f4 f5))) := fk_swD hD
      refine fk_ci hD hS hA (va_runV (As := [.int (xs (i + 1)), .int 0, .long (fk_lg (xs (i + 3)) (xs (i + 4))), .long (fk_lg (xs (i + 5)) (xs (i + 6))), .long (fk_lg (xs (i + 7)) (xs (i + 8)))]) (rest := [.int r12]) ⟨hx, hb, hml, hown, hts⟩ (kX4_kind _ am (((oA, .inl (cJ, 1, .inr (.inl fo))) :: kt) ++ (fk_wx cJ cC cK ad kd (nI n) lo ch (nI (40 - T.length)) f1 f2 f3 f4 f5)) cd lo (nI T.length) wd sg up dn of bey rnd tx pt sn n kf (xs (i + 1)) 0 (fk_lg (xs (i + 3)) (xs (i + 4))) (fk_lg (xs (i + 5)) (xs (i + 6))) (fk_lg (xs (i + 7)) (xs (i + 8))) hMT (Or.inl rfl)) (cwV 5 hts gL_law_X4_kind rfl rfl rfl (by decide +kernel) ⟨Nat.le_of_ble_eq_true rfl, Nat.le_of_ble_eq_true rfl⟩) (fk_preV 0 5 hK hN hP hD rfl rfl) rfl rfl hl.1 rfl (lv_room (Nat.le_of_ble_eq_true rfl)) dL_law_287 ⟨by show cells + 1 + 0 ≤ 604189; omega, by show slots + 7 + 0 ≤ 7283536; omega⟩) (fun r48 u2 H locs hwr48 hP hD hS => ?_)
      obtain ⟨e3, e4⟩ : r48 = 0 ∧ u2 = (n, wd, sg, up, dn, of) := by
        rcases hwr48 with ⟨ya, yr, yy⟩ | ⟨ya, yn, yr, yy⟩ | ⟨ya, yn, yu, yr, yy⟩ | ⟨ya, yn, yu, yr, yy⟩
        · exact absurd ya ea
        · omega
        · exact ⟨yr, yy⟩
        · exact absurd eu yu
      subst e4
      have hP : va_P D vwCl ((fk_wx cJ cC cK ad kd (nI n) lo ch (nI (40 - T.length)) f1 f2 f3 f4 f5) ++ ((fk_wm cJ cI cZ am 0 (nI n) lo (nI T.length) wd sg up dn of bey rnd tx pt sn) ++ ((oA, .inl (cJ, 1, .inr (.inl fo))) :: kt))) H := fk_swQ hP
      have hD : va_D A ((fk_wx cJ cC cK ad kd (nI n) lo ch (nI (40 - T.length)) f1 f2 f3 f4 f5) ++ ((fk_wm cJ cI cZ am 0 (nI n) lo (nI T.length) wd sg up dn of bey rnd tx pt sn) ++ ((oA, .inl (cJ, 1, .inr (.inl fo))) :: kt))) := fk_swE hD
      refine lv_icmp_eq (tgt := 1132) hx hb dL_law_290 (by decide) (fun c_290 => ?_) (fun c_290 => False.elim (c_290 (by rw [er, e3])))
      refine W.widen (k := cells + 1) (n := slots + 7) (by omega) (by omega) ?_
      exact kk _ _ _ (fk_J.mk T hP hD hS hKL hMT hlo hT1 hT2 hT3) (lv_sub hl [0, 1, 2, 3, 4] rfl)
    · subst ey
      obtain ⟨hok, hwn⟩ := fk_okK ea eu (Or.inl rfl)
      have hP : va_P D vwCl ((fk_wx cJ cC cK ad (va_up kd n (some q)) (nI (n + 1)) lo ch (nI (40 - T.length)) f1 f2 f3 f4 f5) ++ (((fk_wm cJ cI cZ am cd (nI n) lo (nI T.length) wd sg up dn of bey rnd tx pt sn) ++ ((oA, .inl (cJ, 1, .inr (.inl fo))) :: kt)) ++ [(q, fk_ke (fk_mkK (xs (i + 1)) 0 (fk_lg (xs (i + 3)) (xs (i + 4))) (fk_lg (xs (i + 5)) (xs (i + 6))) (fk_lg (xs (i + 7)) (xs (i + 8)))))])) H := hP
      have hD : va_D A ((fk_wx cJ cC cK ad (va_up kd n (some q)) (nI (n + 1)) lo ch (nI (40 - T.length)) f1 f2 f3 f4 f5) ++ (((fk_wm cJ cI cZ am cd (nI n) lo (nI T.length) wd sg up dn of bey rnd tx pt sn) ++ ((oA, .inl (cJ, 1, .inr (.inl fo))) :: kt)) ++ [(q, fk_ke (fk_mkK (xs (i + 1)) 0 (fk_lg (xs (i + 3)) (xs (i + 4))) (fk_lg (xs (i + 5)) (xs (i + 6))) (fk_lg (xs (i + 7)) (xs (i + 8)))))])) := hD
      rw [List.append_assoc _ _ [(q, fk_ke (fk_mkK (xs (i + 1)) 0 (fk_lg (xs (i + 3)) (xs (i + 4))) (fk_lg (xs (i + 5)) (xs (i + 6))) (fk_lg (xs (i + 7)) (xs (i + 8)))))], List.cons_append] at hP hD
      have hP : va_P D vwCl ((fk_wx cJ cC cK ad (va_up kd n (some q)) (nI (n + 1)) lo ch (nI (40 - T.length)) f1 f2 f3 f4 f5) ++ ((fk_wm cJ cI cZ am cd (nI n) lo (nI T.length) wd sg up dn of bey rnd tx pt sn) ++ ((oA, .inl (cJ, 1, .inr (.inl fo))) :: (kt ++ [(q, fk_ke (fk_mkK (xs (i + 1)) 0 (fk_lg (xs (i + 3)) (xs (i + 4))) (fk_lg (xs (i + 5)) (xs (i + 6))) (fk_lg (xs (i + 7)) (xs (i + 8)))))])))) H := hP
      have hD : va_D A ((fk_wx cJ cC cK ad (va_up kd n (some q)) (nI (n + 1)) lo ch (nI (40 - T.length)) f1 f2 f3 f4 f5) ++ ((fk_wm cJ cI cZ am cd (nI n) lo (nI T.length) wd sg up dn of bey rnd tx pt sn) ++ ((oA, .inl (cJ, 1, .inr (.inl fo))) :: (kt ++ [(q, fk_ke (fk_mkK (xs (i + 1)) 0 (fk_lg (xs (i + 3)) (xs (i + 4))) (fk_lg (xs (i + 5)) (xs (i + 6))) (fk_lg (xs (i + 7)) (xs (i + 8)))))])))) := hD
      refine lv_aload_n hx hb dL_law_197 rfl (lv_at hl 2 rfl) ?_
      refine lv_aload_n hx hb dL_law_198 rfl (lv_at hl 0 rfl) ?_
      refine lv_iload hx hb dL_law_199 (lv_at hl 4 rfl) ?_
      refine lv_iconst (v := 1) hx hb dL_law_201 (by decide) ?_
      refine lv_iadd hx hb dL_law_202 ?_
      refine lv_topi (fun x49 ex49 => ?_)
      have ex49q : x49 = (nI (i + 1)) := by
        rw [ex49]; exact nI_add i 1
      subst ex49q
      refine fk_sld hx hb hX hbl hbA hS hL (k := i + 1) (by omega) dL_law_203 ?_
      refine lv_aload_n hx hb dL_law_204 rfl (lv_at hl 0 rfl) ?_
      refine lv_iload hx hb dL_law_205 (lv_at hl 4 rfl) ?_
      refine lv_iconst (v := 2) hx hb dL_law_207 (by decide) ?_
      refine lv_iadd hx hb dL_law_208 ?_
      refine lv_topi (fun x50 ex50 => ?_)
      have ex50q : x50 = (nI (i + 2)) := by
        rw [ex50]; exact nI_add i 2
      subst ex50q
      refine fk_sld hx hb hX hbl hbA hS hL (k := i + 2) (by omega) dL_law_209 ?_
      refine lv_if_eq (tgt := 217) hx hb dL_law_210 (by decide) (fun c_210 => ?_) (fun c_210 => False.elim (c_210 c_117))
      refine lv_iconst (v := 0) hx hb dL_law_217 (by decide) ?_
      refine lv_aload_n hx hb dL_law_218 rfl (lv_at hl 0 rfl) ?_
      refine lv_iload hx hb dL_law_219 (lv_at hl 4 rfl) ?_
      refine lv_iconst (v := 3) hx hb dL_law_221 (by decide) ?_
      refine lv_iadd hx hb dL_law_222 ?_
      refine lv_topi (fun x51 ex51 => ?_)
      have ex51q : x51 = (nI (i + 3)) := by
        rw [ex51]; exact nI_add i 3
      subst ex51q
      refine fk_sld hx hb hX hbl hbA hS hL (k := i + 3) (by omega) dL_law_223 ?_
      refine lv_i2l hx hb dL_law_224 rfl ?_
      refine lv_bipush (v := 32) hx hb dL_law_225 (by decide) ?_
      refine lv_lshl hx hb dL_law_227 rfl ?_
      refine lv_aload_n hx hb dL_law_228 rfl (lv_at hl 0 rfl) ?_
      refine lv_iload hx hb dL_law_229 (lv_at hl 4 rfl) ?_
      refine lv_iconst (v := 4) hx hb dL_law_231 (by decide) ?_
      refine lv_iadd hx hb dL_law_232 ?_
      refine lv_topi (fun x52 ex52 => ?_)
      have ex52q : x52 = (nI (i + 4)) := by
        rw [ex52]; exact nI_add i 4
      subst ex52q
      refine fk_sld hx hb hX hbl hbA hS hL (k := i + 4) (by omega) dL_law_233 ?_
      refine lv_i2l hx hb dL_law_234 rfl ?_
      refine lv_ldc2 (v := 4294967295) hx hb hown k1 dL_law_235 ?_
      refine lv_land hx hb dL_law_238 ?_
      refine lv_lor hx hb dL_law_239 ?_
      refine lv_topl (fun x53 ex53 => ?_)
      have ex53q : x53 = fk_lg (xs (i + 3)) (xs (i + 4)) := by
        rw [ex53]; rfl
      subst ex53q
      refine lv_aload_n hx hb dL_law_240 rfl (lv_at hl 0 rfl) ?_
      refine lv_iload hx hb dL_law_241 (lv_at hl 4 rfl) ?_
      refine lv_iconst (v := 5) hx hb dL_law_243 (by decide) ?_
      refine lv_iadd hx hb dL_law_244 ?_
      refine lv_topi (fun x54 ex54 => ?_)
      have ex54q : x54 = (nI (i + 5)) := by
        rw [ex54]; exact nI_add i 5
      subst ex54q
      refine fk_sld hx hb hX hbl hbA hS hL (k := i + 5) (by omega) dL_law_245 ?_
      refine lv_i2l hx hb dL_law_246 rfl ?_
      refine lv_bipush (v := 32) hx hb dL_law_247 (by decide) ?_
      refine lv_lshl hx hb dL_law_249 rfl ?_
      refine lv_aload_n hx hb dL_law_250 rfl (lv_at hl 0 rfl) ?_
      refine lv_iload hx hb dL_law_251 (lv_at hl 4 rfl) ?_
      refine lv_bipush (v := 6) hx hb dL_law_253 (by decide) ?_
      refine lv_iadd hx hb dL_law_255 ?_
      refine lv_topi (fun x55 ex55 => ?_)
      have ex55q : x55 = (nI (i + 6)) := by
        rw [ex55]; exact nI_add i 6
      subst ex55q
      refine fk_sld hx hb hX hbl hbA hS hL (k := i + 6) (by omega) dL_law_256 ?_
      refine lv_i2l hx hb dL_law_257 rfl ?_
      refine lv_ldc2 (v := 4294967295) hx hb hown k1 dL_law_258 ?_
      refine lv_land hx hb dL_law_261 ?_
      refine lv_lor hx hb dL_law_262 ?_
      refine lv_topl (fun x56 ex56 => ?_)
      have ex56q : x56 = fk_lg (xs (i + 5)) (xs (i + 6)) := by
        rw [ex56]; rfl
      subst ex56q
      refine lv_aload_n hx hb dL_law_263 rfl (lv_at hl 0 rfl) ?_
      refine lv_iload hx hb dL_law_264 (lv_at hl 4 rfl) ?_
      refine lv_bipush (v := 7) hx hb dL_law_266 (by decide) ?_
      refine lv_iadd hx hb dL_law_268 ?_
      refine lv_topi (fun x57 ex57 => ?_)
      have ex57q : x57 = (nI (i + 7)) := by
        rw [ex57]; exact nI_add i 7
      subst ex57q
      refine fk_sld hx hb hX hbl hbA hS hL (k := i + 7) (by omega) dL_law_269 ?_
      refine lv_i2l hx hb dL_law_270 rfl ?_
      refine lv_bipush (v := 32) hx hb dL_law_271 (by decide) ?_
      refine lv_lshl hx hb dL_law_273 rfl ?_
      refine lv_aload_n hx hb dL_law_274 rfl (lv_at hl 0 rfl) ?_
      refine lv_iload hx hb dL_law_275 (lv_at hl 4 rfl) ?_
      refine lv_bipush (v := 8) hx hb dL_law_277 (by decide) ?_
      refine lv_iadd hx hb dL_law_279 ?_
      refine lv_topi (fun x58 ex58 => ?_)
      have ex58q : x58 = (nI (i + 8)) := by
        rw [ex58]; exact nI_add i 8
      subst ex58q
      refine fk_sld hx hb hX hbl hbA hS hL (k := i + 8) (by omega) dL_law_280 ?_
      refine lv_i2l hx hb dL_law_281 rfl ?_
      refine lv_ldc2 (v := 4294967295) hx hb hown k1 dL_law_282 ?_
      refine lv_land hx hb dL_law_285 ?_
      refine lv_lor hx hb dL_law_286 ?_
      refine lv_topl (fun x59 ex59 => ?_)
      have ex59q : x59 = fk_lg (xs (i + 7)) (xs (i + 8)) := by
        rw [ex59]; rfl
      subst ex59q
      have hP : va_P D vwCl ((fk_wm cJ cI cZ am cd (nI n) lo (nI T.length) wd sg up dn of bey rnd tx pt sn) ++ (((oA, .inl (cJ, 1, .inr (.inl fo))) :: (kt ++ [(q, fk_ke (fk_mkK (xs (i + 1)) 0 (fk_lg (xs (i + 3)) (xs (i + 4))) (fk_lg (xs (i + 5)) (xs (i + 6))) (fk_lg (xs (i + 7)) (xs (i + 8)))))])) ++ (fk_wx cJ cC cK ad (va_up kd n (some q)) (nI (n + 1)) lo ch (nI (40 - T.length)) f1 f2 f3 f4 f5))) H := fk_swP hP
      have hD : va_D A ((fk_wm cJ cI cZ am cd (nI n) lo (nI T.length) wd sg up dn of bey rnd tx pt sn) ++ (((oA, .inl (cJ, 1, .inr (.inl fo))) :: (kt ++ [(q, fk_ke (fk_mkK (xs (i + 1)) 0 (fk_lg (xs (i + 3)) (xs (i + 4))) (fk_lg (xs (i + 5)) (xs (i + 6))) (fk_lg (xs (i + 7)) (xs (i + 8)))))])) ++ (fk_wx cJ cC cK ad (va_up kd n (some q)) (nI (n + 1)) lo ch (nI (40 - T.length)) f1 f2 f3 f4 f5))) := fk_swD hD
      refine fk_ci hD hS hA (va_runV (As := [.int (xs (i + 1)), .int 0, .long (fk_lg (xs (i + 3)) (xs (i + 4))), .long (fk_lg (xs (i + 5)) (xs (i + 6))), .long (fk_lg (xs (i + 7)) (xs (i + 8)))]) (rest := [.int r12]) ⟨hx, hb, hml, hown, hts⟩ (kX4_kind _ am (((oA, .inl (cJ, 1, .inr (.inl fo))) :: (kt ++ [(q, fk_ke (fk_mkK (xs (i + 1)) 0 (fk_lg (xs (i + 3)) (xs (i + 4))) (fk_lg (xs (i + 5)) (xs (i + 6))) (fk_lg (xs (i + 7)) (xs (i + 8)))))])) ++ (fk_wx cJ cC cK ad (va_up kd n (some q)) (nI (n + 1)) lo ch (nI (40 - T.length)) f1 f2 f3 f4 f5)) cd lo (nI T.length) wd sg up dn of bey rnd tx pt sn n kf (xs (i + 1)) 0 (fk_lg (xs (i + 3)) (xs (i + 4))) (fk_lg (xs (i + 5)) (xs (i + 6))) (fk_lg (xs (i + 7)) (xs (i + 8))) hMT (Or.inl rfl)) (cwV 5 hts gL_law_X4_kind rfl rfl rfl (by decide +kernel) ⟨Nat.le_of_ble_eq_true rfl, Nat.le_of_ble_eq_true rfl⟩) (fk_preV 0 5 hK hN hP hD rfl rfl) rfl rfl hl.1 rfl (lv_room (Nat.le_of_ble_eq_true rfl)) dL_law_287 ⟨by show cells + 1 + 0 ≤ 604189; omega, by show slots + 7 + 0 ≤ 7283536; omega⟩) (fun r60 u2 H locs hwr60 hP hD hS => ?_)
      obtain ⟨e3, e4⟩ : r60 = nI (n + 1) ∧ u2 = (n + 1, upd wd (n + 1) (xs (i + 1)), upd sg (n + 1) 0, vp_updL up (n + 1) (fk_lg (xs (i + 3)) (xs (i + 4))), vp_updL dn (n + 1) (fk_lg (xs (i + 5)) (xs (i + 6))), vp_updL of (n + 1) (fk_lg (xs (i + 7)) (xs (i + 8)))) := by
        rcases hwr60 with ⟨ya, yr, yy⟩ | ⟨ya, yn, yr, yy⟩ | ⟨ya, yn, yu, yr, yy⟩ | ⟨ya, yn, yu, yr, yy⟩
        · exact absurd ya ea
        · omega
        · exact absurd yu eu
        · exact ⟨yr, yy⟩
      subst e4
      have hP : va_P D vwCl ((fk_wx cJ cC cK ad (va_up kd n (some q)) (nI (n + 1)) lo ch (nI (40 - T.length)) f1 f2 f3 f4 f5) ++ ((fk_wm cJ cI cZ am 0 (nI (n + 1)) lo (nI T.length) (upd wd (n + 1) (xs (i + 1))) (upd sg (n + 1) 0) (vp_updL up (n + 1) (fk_lg (xs (i + 3)) (xs (i + 4)))) (vp_updL dn (n + 1) (fk_lg (xs (i + 5)) (xs (i + 6)))) (vp_updL of (n + 1) (fk_lg (xs (i + 7)) (xs (i + 8)))) bey rnd tx pt sn) ++ ((oA, .inl (cJ, 1, .inr (.inl fo))) :: (kt ++ [(q, fk_ke (fk_mkK (xs (i + 1)) 0 (fk_lg (xs (i + 3)) (xs (i + 4))) (fk_lg (xs (i + 5)) (xs (i + 6))) (fk_lg (xs (i + 7)) (xs (i + 8)))))])))) H := fk_swQ hP
      have hD : va_D A ((fk_wx cJ cC cK ad (va_up kd n (some q)) (nI (n + 1)) lo ch (nI (40 - T.length)) f1 f2 f3 f4 f5) ++ ((fk_wm cJ cI cZ am 0 (nI (n + 1)) lo (nI T.length) (upd wd (n + 1) (xs (i + 1))) (upd sg (n + 1) 0) (vp_updL up (n + 1) (fk_lg (xs (i + 3)) (xs (i + 4)))) (vp_updL dn (n + 1) (fk_lg (xs (i + 5)) (xs (i + 6)))) (vp_updL of (n + 1) (fk_lg (xs (i + 7)) (xs (i + 8)))) bey rnd tx pt sn) ++ ((oA, .inl (cJ, 1, .inr (.inl fo))) :: (kt ++ [(q, fk_ke (fk_mkK (xs (i + 1)) 0 (fk_lg (xs (i + 3)) (xs (i + 4))) (fk_lg (xs (i + 5)) (xs (i + 6))) (fk_lg (xs (i + 7)) (xs (i + 8)))))])))) := fk_swE hD
      refine lv_icmp_eq (tgt := 1132) hx hb dL_law_290 (by decide) (fun c_290 => ?_) (fun c_290 => False.elim (c_290 (by rw [er, e3])))
      refine W.widen (k := cells + 1) (n := slots + 7) (by omega) (by omega) ?_
      exact kk _ _ _ (fk_J.mk T hP hD hS (hKL.kind en hok q) (hMT.kind en hok hwn) hlo hT1 hT2 hT3) (lv_sub hl [0, 1, 2, 3, 4] rfl)
  · refine lv_iconst (v := 1) hx hb dL_law_120 (by decide) ?_
    refine lv_goto (tgt := 125) hx hb dL_law_121 (by decide) ?_
    refine lv_aload_n hx hb dL_law_125 rfl (lv_at hl 0 rfl) ?_
    refine lv_iload hx hb dL_law_126 (lv_at hl 4 rfl) ?_
    refine lv_iconst (v := 3) hx hb dL_law_128 (by decide) ?_
    refine lv_iadd hx hb dL_law_129 ?_
    refine lv_topi (fun x61 ex61 => ?_)
    have ex61q : x61 = (nI (i + 3)) := by
      rw [ex61]; exact nI_add i 3
    subst ex61q
    refine fk_sld hx hb hX hbl hbA hS hL (k := i + 3) (by omega) dL_law_130 ?_
    refine lv_i2l hx hb dL_law_131 rfl ?_
    refine lv_bipush (v := 32) hx hb dL_law_132 (by decide) ?_
    refine lv_lshl hx hb dL_law_134 rfl ?_
    refine lv_aload_n hx hb dL_law_135 rfl (lv_at hl 0 rfl) ?_
    refine lv_iload hx hb dL_law_136 (lv_at hl 4 rfl) ?_
    refine lv_iconst (v := 4) hx hb dL_law_138 (by decide) ?_
    refine lv_iadd hx hb dL_law_139 ?_
    refine lv_topi (fun x62 ex62 => ?_)
    have ex62q : x62 = (nI (i + 4)) := by
      rw [ex62]; exact nI_add i 4
    subst ex62q
    refine fk_sld hx hb hX hbl hbA hS hL (k := i + 4) (by omega) dL_law_140 ?_
    refine lv_i2l hx hb dL_law_141 rfl ?_
    refine lv_ldc2 (v := 4294967295) hx hb hown k1 dL_law_142 ?_
    refine lv_land hx hb dL_law_145 ?_
    refine lv_lor hx hb dL_law_146 ?_
    refine lv_topl (fun x63 ex63 => ?_)
    have ex63q : x63 = fk_lg (xs (i + 3)) (xs (i + 4)) := by
      rw [ex63]; rfl
    subst ex63q
    refine lv_aload_n hx hb dL_law_147 rfl (lv_at hl 0 rfl) ?_
    refine lv_iload hx hb dL_law_148 (lv_at hl 4 rfl) ?_
    refine lv_iconst (v := 5) hx hb dL_law_150 (by decide) ?_
    refine lv_iadd hx hb dL_law_151 ?_
    refine lv_topi (fun x64 ex64 => ?_)
    have ex64q : x64 = (nI (i + 5)) := by
      rw [ex64]; exact nI_add i 5
    subst ex64q
    refine fk_sld hx hb hX hbl hbA hS hL (k := i + 5) (by omega) dL_law_152 ?_
    refine lv_i2l hx hb dL_law_153 rfl ?_
    refine lv_bipush (v := 32) hx hb dL_law_154 (by decide) ?_
    refine lv_lshl hx hb dL_law_156 rfl ?_
    refine lv_aload_n hx hb dL_law_157 rfl (lv_at hl 0 rfl) ?_
    refine lv_iload hx hb dL_law_158 (lv_at hl 4 rfl) ?_
    refine lv_bipush (v := 6) hx hb dL_law_160 (by decide) ?_
    refine lv_iadd hx hb dL_law_162 ?_
    refine lv_topi (fun x65 ex65 => ?_)
    have ex65q : x65 = (nI (i + 6)) := by
      rw [ex65]; exact nI_add i 6
    subst ex65q
    refine fk_sld hx hb hX hbl hbA hS hL (k := i + 6) (by omega) dL_law_163 ?_
    refine lv_i2l hx hb dL_law_164 rfl ?_
    refine lv_ldc2 (v := 4294967295) hx hb hown k1 dL_law_165 ?_
    refine lv_land hx hb dL_law_168 ?_
    refine lv_lor hx hb dL_law_169 ?_
    refine lv_topl (fun x66 ex66 => ?_)
    have ex66q : x66 = fk_lg (xs (i + 5)) (xs (i + 6)) := by
      rw [ex66]; rfl
    subst ex66q
    refine lv_aload_n hx hb dL_law_170 rfl (lv_at hl 0 rfl) ?_
    refine lv_iload hx hb dL_law_171 (lv_at hl 4 rfl) ?_
    refine lv_bipush (v := 7) hx hb dL_law_173 (by decide) ?_
    refine lv_iadd hx hb dL_law_175 ?_
    refine lv_topi (fun x67 ex67 => ?_)
    have ex67q : x67 = (nI (i + 7)) := by
      rw [ex67]; exact nI_add i 7
    subst ex67q
    refine fk_sld hx hb hX hbl hbA hS hL (k := i + 7) (by omega) dL_law_176 ?_
    refine lv_i2l hx hb dL_law_177 rfl ?_
    refine lv_bipush (v := 32) hx hb dL_law_178 (by decide) ?_
    refine lv_lshl hx hb dL_law_180 rfl ?_
    refine lv_aload_n hx hb dL_law_181 rfl (lv_at hl 0 rfl) ?_
    refine lv_iload hx hb dL_law_182 (lv_at hl 4 rfl) ?_
    refine lv_bipush (v := 8) hx hb dL_law_184 (by decide) ?_
    refine lv_iadd hx hb dL_law_186 ?_
    refine lv_topi (fun x68 ex68 => ?_)
    have ex68q : x68 = (nI (i + 8)) := by
      rw [ex68]; exact nI_add i 8
    subst ex68q
    refine fk_sld hx hb hX hbl hbA hS hL (k := i + 8) (by omega) dL_law_187 ?_
    refine lv_i2l hx hb dL_law_188 rfl ?_
    refine lv_ldc2 (v := 4294967295) hx hb hown k1 dL_law_189 ?_
    refine lv_land hx hb dL_law_192 ?_
    refine lv_lor hx hb dL_law_193 ?_
    refine lv_topl (fun x69 ex69 => ?_)
    have ex69q : x69 = fk_lg (xs (i + 7)) (xs (i + 8)) := by
      rw [ex69]; rfl
    subst ex69q
    refine fk_ci hD hS hA (va_runV (As := [.int (xs (i + 1)), .int 1, .long (fk_lg (xs (i + 3)) (xs (i + 4))), .long (fk_lg (xs (i + 5)) (xs (i + 6))), .long (fk_lg (xs (i + 7)) (xs (i + 8)))]) (rest := []) ⟨hx, hb, hml, hown, hts⟩ (kX3_kind _ ad ((fk_wm cJ cI cZ am cd (nI n) lo (nI T.length) wd sg up dn of bey rnd tx pt sn) ++ ((oA, .inl (cJ, 1, .inr (.inl fo))) :: kt)) kd lo ch (nI (40 - T.length)) f1 f2 f3 f4 f5 n kf ka (fun j => j + 12) (xs (i + 1)) 1 (fk_lg (xs (i + 3)) (xs (i + 4))) (fk_lg (xs (i + 5)) (xs (i + 6))) (fk_lg (xs (i + 7)) (xs (i + 8))) hKT (Or.inr rfl)) (cwV 5 hts gL_law_X3_kind rfl rfl rfl (by decide +kernel) ⟨Nat.le_of_ble_eq_true rfl, Nat.le_of_ble_eq_true rfl⟩) (fk_preV 0 4 hK hN hP hD rfl rfl) rfl rfl hl.1 rfl (lv_room (Nat.le_of_ble_eq_true rfl)) dL_law_194 ⟨by show cells + 1 ≤ 604189; omega, by show slots + 7 ≤ 7283536; omega⟩) (fun r70 u1 H locs hwr70 hP hD hS => ?_)
    rcases hwr70 with ⟨ea, er, ey⟩ | ⟨ea, en, er, ey⟩ | ⟨ea, en, eu, er, ey⟩ | ⟨ea, en, eu, er, q, ey⟩
    · subst ey
      have hP : va_P D vwCl ((fk_wx cJ cC cK ad kd (nI n) lo ch (nI (40 - T.length)) f1 f2 f3 f4 f5) ++ ((fk_wm cJ cI cZ am cd (nI n) lo (nI T.length) wd sg up dn of bey rnd tx pt sn) ++ ((oA, .inl (cJ, 1, .inr (.inl fo))) :: kt))) H := hP
      have hD : va_D A ((fk_wx cJ cC cK ad kd (nI n) lo ch (nI (40 - T.length)) f1 f2 f3 f4 f5) ++ ((fk_wm cJ cI cZ am cd (nI n) lo (nI T.length) wd sg up dn of bey rnd tx pt sn) ++ ((oA, .inl (cJ, 1, .inr (.inl fo))) :: kt))) := hD
      refine lv_aload_n hx hb dL_law_197 rfl (lv_at hl 2 rfl) ?_
      refine lv_aload_n hx hb dL_law_198 rfl (lv_at hl 0 rfl) ?_
      refine lv_iload hx hb dL_law_199 (lv_at hl 4 rfl) ?_
      refine lv_iconst (v := 1) hx hb dL_law_201 (by decide) ?_
      refine lv_iadd hx hb dL_law_202 ?_
      refine lv_topi (fun x71 ex71 => ?_)
      have ex71q : x71 = (nI (i + 1)) := by
        rw [ex71]; exact nI_add i 1
      subst ex71q
      refine fk_sld hx hb hX hbl hbA hS hL (k := i + 1) (by omega) dL_law_203 ?_
      refine lv_aload_n hx hb dL_law_204 rfl (lv_at hl 0 rfl) ?_
      refine lv_iload hx hb dL_law_205 (lv_at hl 4 rfl) ?_
      refine lv_iconst (v := 2) hx hb dL_law_207 (by decide) ?_
      refine lv_iadd hx hb dL_law_208 ?_
      refine lv_topi (fun x72 ex72 => ?_)
      have ex72q : x72 = (nI (i + 2)) := by
        rw [ex72]; exact nI_add i 2
      subst ex72q
      refine fk_sld hx hb hX hbl hbA hS hL (k := i + 2) (by omega) dL_law_209 ?_
      refine lv_if_eq (tgt := 217) hx hb dL_law_210 (by decide) (fun c_210 => False.elim (c_117 c_210)) (fun c_210 => ?_)
      refine lv_iconst (v := 1) hx hb dL_law_213 (by decide) ?_
      refine lv_goto (tgt := 218) hx hb dL_law_214 (by decide) ?_
      refine lv_aload_n hx hb dL_law_218 rfl (lv_at hl 0 rfl) ?_
      refine lv_iload hx hb dL_law_219 (lv_at hl 4 rfl) ?_
      refine lv_iconst (v := 3) hx hb dL_law_221 (by decide) ?_
      refine lv_iadd hx hb dL_law_222 ?_
      refine lv_topi (fun x73 ex73 => ?_)
      have ex73q : x73 = (nI (i + 3)) := by
        rw [ex73]; exact nI_add i 3
      subst ex73q
      refine fk_sld hx hb hX hbl hbA hS hL (k := i + 3) (by omega) dL_law_223 ?_
      refine lv_i2l hx hb dL_law_224 rfl ?_
      refine lv_bipush (v := 32) hx hb dL_law_225 (by decide) ?_
      refine lv_lshl hx hb dL_law_227 rfl ?_
      refine lv_aload_n hx hb dL_law_228 rfl (lv_at hl 0 rfl) ?_
      refine lv_iload hx hb dL_law_229 (lv_at hl 4 rfl) ?_
      refine lv_iconst (v := 4) hx hb dL_law_231 (by decide) ?_
      refine lv_iadd hx hb dL_law_232 ?_
      refine lv_topi (fun x74 ex74 => ?_)
      have ex74q : x74 = (nI (i + 4)) := by
        rw [ex74]; exact nI_add i 4
      subst ex74q
      refine fk_sld hx hb hX hbl hbA hS hL (k := i + 4) (by omega) dL_law_233 ?_
      refine lv_i2l hx hb dL_law_234 rfl ?_
      refine lv_ldc2 (v := 4294967295) hx hb hown k1 dL_law_235 ?_
      refine lv_land hx hb dL_law_238 ?_
      refine lv_lor hx hb dL_law_239 ?_
      refine lv_topl (fun x75 ex75 => ?_)
      have ex75q : x75 = fk_lg (xs (i + 3)) (xs (i + 4)) := by
        rw [ex75]; rfl
      subst ex75q
      refine lv_aload_n hx hb dL_law_240 rfl (lv_at hl 0 rfl) ?_
      refine lv_iload hx hb dL_law_241 (lv_at hl 4 rfl) ?_
      refine lv_iconst (v := 5) hx hb dL_law_243 (by decide) ?_
      refine lv_iadd hx hb dL_law_244 ?_
      refine lv_topi (fun x76 ex76 => ?_)
      have ex76q : x76 = (nI (i + 5)) := by
        rw [ex76]; exact nI_add i 5
      subst ex76q
      refine fk_sld hx hb hX hbl hbA hS hL (k := i + 5) (by omega) dL_law_245 ?_
      refine lv_i2l hx hb dL_law_246 rfl ?_
      refine lv_bipush (v := 32) hx hb dL_law_247 (by decide) ?_
      refine lv_lshl hx hb dL_law_249 rfl ?_
      refine lv_aload_n hx hb dL_law_250 rfl (lv_at hl 0 rfl) ?_
      refine lv_iload hx hb dL_law_251 (lv_at hl 4 rfl) ?_
      refine lv_bipush (v := 6) hx hb dL_law_253 (by decide) ?_
      refine lv_iadd hx hb dL_law_255 ?_
      refine lv_topi (fun x77 ex77 => ?_)
      have ex77q : x77 = (nI (i + 6)) := by
        rw [ex77]; exact nI_add i 6
      subst ex77q
      refine fk_sld hx hb hX hbl hbA hS hL (k := i + 6) (by omega) dL_law_256 ?_
      refine lv_i2l hx hb dL_law_257 rfl ?_
      refine lv_ldc2 (v := 4294967295) hx hb hown k1 dL_law_258 ?_
      refine lv_land hx hb dL_law_261 ?_
      refine lv_lor hx hb dL_law_262 ?_
      refine lv_topl (fun x78 ex78 => ?_)
      have ex78q : x78 = fk_lg (xs (i + 5)) (xs (i + 6)) := by
        rw [ex78]; rfl
      subst ex78q
      refine lv_aload_n hx hb dL_law_263 rfl (lv_at hl 0 rfl) ?_
      refine lv_iload hx hb dL_law_264 (lv_at hl 4 rfl) ?_
      refine lv_bipush (v := 7) hx hb dL_law_266 (by decide) ?_
      refine lv_iadd hx hb dL_law_268 ?_
      refine lv_topi (fun x79 ex79 => ?_)
      have ex79q : x79 = (nI (i + 7)) := by
        rw [ex79]; exact nI_add i 7
      subst ex79q
      refine fk_sld hx hb hX hbl hbA hS hL (k := i + 7) (by omega) dL_law_269 ?_
      refine lv_i2l hx hb dL_law_270 rfl ?_
      refine lv_bipush (v := 32) hx hb dL_law_271 (by decide) ?_
      refine lv_lshl hx hb dL_law_273 rfl ?_
      refine lv_aload_n hx hb dL_law_274 rfl (lv_at hl 0 rfl) ?_
      refine lv_iload hx hb dL_law_275 (lv_at hl 4 rfl) ?_
      refine lv_bipush (v := 8) hx hb dL_law_277 (by decide) ?_
      refine lv_iadd hx hb dL_law_279 ?_
      refine lv_topi (fun x80 ex80 => ?_)
      have ex80q : x80 = (nI (i + 8)) := by
        rw [ex80]; exact nI_add i 8
      subst ex80q
      refine fk_sld hx hb hX hbl hbA hS hL (k := i + 8) (by omega) dL_law_280 ?_
      refine lv_i2l hx hb dL_law_281 rfl ?_
      refine lv_ldc2 (v := 4294967295) hx hb hown k1 dL_law_282 ?_
      refine lv_land hx hb dL_law_285 ?_
      refine lv_lor hx hb dL_law_286 ?_
      refine lv_topl (fun x81 ex81 => ?_)
      have ex81q : x81 = fk_lg (xs (i + 7)) (xs (i + 8)) := by
        rw [ex81]; rfl
      subst ex81q
      have hP : va_P D vwCl ((fk_wm cJ cI cZ am cd (nI n) lo (nI T.length) wd sg up dn of bey rnd tx pt sn) ++ (((oA, .inl (cJ, 1, .inr (.inl fo))) :: kt) ++ (fk_wx cJ cC cK ad kd (nI n) lo ch (nI (40 - T.length)) f1 f2 f3 f4 f5))) H := fk_swP hP
      have hD : va_D A ((fk_wm cJ cI cZ am cd (nI n) lo (nI T.length) wd sg up dn of bey rnd tx pt sn) ++ (((oA, .inl (cJ, 1, .inr (.inl fo))) :: kt) ++ (fk_wx cJ cC cK ad kd (nI n) lo ch (nI (40 - T.length)) f1 f2 f3 f4 f5))) := fk_swD hD
      refine fk_ci hD hS hA (va_runV (As := [.int (xs (i + 1)), .int 1, .long (fk_lg (xs (i + 3)) (xs (i + 4))), .long (fk_lg (xs (i + 5)) (xs (i + 6))), .long (fk_lg (xs (i + 7)) (xs (i + 8)))]) (rest := [.int r70]) ⟨hx, hb, hml, hown, hts⟩ (kX4_kind _ am (((oA, .inl (cJ, 1, .inr (.inl fo))) :: kt) ++ (fk_wx cJ cC cK ad kd (nI n) lo ch (nI (40 - T.length)) f1 f2 f3 f4 f5)) cd lo (nI T.length) wd sg up dn of bey rnd tx pt sn n kf (xs (i + 1)) 1 (fk_lg (xs (i + 3)) (xs (i + 4))) (fk_lg (xs (i + 5)) (xs (i + 6))) (fk_lg (xs (i + 7)) (xs (i + 8))) hMT (Or.inr rfl)) (cwV 5 hts gL_law_X4_kind rfl rfl rfl (by decide +kernel) ⟨Nat.le_of_ble_eq_true rfl, Nat.le_of_ble_eq_true rfl⟩) (fk_preV 0 5 hK hN hP hD rfl rfl) rfl rfl hl.1 rfl (lv_room (Nat.le_of_ble_eq_true rfl)) dL_law_287 ⟨by show cells + 1 + 0 ≤ 604189; omega, by show slots + 7 + 0 ≤ 7283536; omega⟩) (fun r82 u2 H locs hwr82 hP hD hS => ?_)
      obtain ⟨e3, e4⟩ : r82 = -2 ∧ u2 = (n, wd, sg, up, dn, of) := by
        rcases hwr82 with ⟨ya, yr, yy⟩ | ⟨ya, yn, yr, yy⟩ | ⟨ya, yn, yu, yr, yy⟩ | ⟨ya, yn, yu, yr, yy⟩
        · exact ⟨yr, yy⟩
        · exact absurd ea ya
        · exact absurd ea ya
        · exact absurd ea ya
      subst e4
      have hP : va_P D vwCl ((fk_wx cJ cC cK ad kd (nI n) lo ch (nI (40 - T.length)) f1 f2 f3 f4 f5) ++ ((fk_wm cJ cI cZ am 0 (nI n) lo (nI T.length) wd sg up dn of bey rnd tx pt sn) ++ ((oA, .inl (cJ, 1, .inr (.inl fo))) :: kt))) H := fk_swQ hP
      have hD : va_D A ((fk_wx cJ cC cK ad kd (nI n) lo ch (nI (40 - T.length)) f1 f2 f3 f4 f5) ++ ((fk_wm cJ cI cZ am 0 (nI n) lo (nI T.length) wd sg up dn of bey rnd tx pt sn) ++ ((oA, .inl (cJ, 1, .inr (.inl fo))) :: kt))) := fk_swE hD
      refine lv_icmp_eq (tgt := 1132) hx hb dL_law_290 (by decide) (fun c_290 => ?_) (fun c_290 => False.elim (c_290 (by rw [er, e3])))
      refine W.widen (k := cells + 1) (n := slots + 7) (by omega) (by omega) ?_
      exact kk _ _ _ (fk_J.mk T hP hD hS hKL hMT hlo hT1 hT2 hT3) (lv_sub hl [0, 1, 2, 3, 4] rfl)
    · subst ey
      have hP : va_P D vwCl ((fk_wx cJ cC cK ad kd (nI n) lo ch (nI (40 - T.length)) f1 f2 f3 f4 f5) ++ ((fk_wm cJ cI cZ am cd (nI n) lo (nI T.length) wd sg up dn of bey rnd tx pt sn) ++ ((oA, .inl (cJ, 1, .inr (.inl fo))) :: kt))) H := hP
      have hD : va_D A ((fk_wx cJ cC cK ad kd (nI n) lo ch (nI (40 - T.length)) f1 f2 f3 f4 f5) ++ ((fk_wm cJ cI cZ am cd (nI n) lo (nI T.length) wd sg up dn of bey rnd tx pt sn) ++ ((oA, .inl (cJ, 1, .inr (.inl fo))) :: kt))) := hD
      refine lv_aload_n hx hb dL_law_197 rfl (lv_at hl 2 rfl) ?_
      refine lv_aload_n hx hb dL_law_198 rfl (lv_at hl 0 rfl) ?_
      refine lv_iload hx hb dL_law_199 (lv_at hl 4 rfl) ?_
      refine lv_iconst (v := 1) hx hb dL_law_201 (by decide) ?_
      refine lv_iadd hx hb dL_law_202 ?_
      refine lv_topi (fun x83 ex83 => ?_)
      have ex83q : x83 = (nI (i + 1)) := by
        rw [ex83]; exact nI_add i 1
      subst ex83q
      refine fk_sld hx hb hX hbl hbA hS hL (k := i + 1) (by omega) dL_law_203 ?_
      refine lv_aload_n hx hb dL_law_204 rfl (lv_at hl 0 rfl) ?_
      refine lv_iload hx hb dL_law_205 (lv_at hl 4 rfl) ?_
      refine lv_iconst (v := 2) hx hb dL_law_207 (by decide) ?_
      refine lv_iadd hx hb dL_law_208 ?_
      refine lv_topi (fun x84 ex84 => ?_)
      have ex84q : x84 = (nI (i + 2)) := by
        rw [ex84]; exact nI_add i 2
      subst ex84q
      refine fk_sld hx hb hX hbl hbA hS hL (k := i + 2) (by omega) dL_law_209 ?_
      refine lv_if_eq (tgt := 217) hx hb dL_law_210 (by decide) (fun c_210 => False.elim (c_117 c_210)) (fun c_210 => ?_)
      refine lv_iconst (v := 1) hx hb dL_law_213 (by decide) ?_
      refine lv_goto (tgt := 218) hx hb dL_law_214 (by decide) ?_
      refine lv_aload_n hx hb dL_law_218 rfl (lv_at hl 0 rfl) ?_
      refine lv_iload hx hb dL_law_219 (lv_at hl 4 rfl) ?_
      refine lv_iconst (v := 3) hx hb dL_law_221 (by decide) ?_
      refine lv_iadd hx hb dL_law_222 ?_
      refine lv_topi (fun x85 ex85 => ?_)
      have ex85q : x85 = (nI (i + 3)) := by
        rw [ex85]; exact nI_add i 3
      subst ex85q
      refine fk_sld hx hb hX hbl hbA hS hL (k := i + 3) (by omega) dL_law_223 ?_
      refine lv_i2l hx hb dL_law_224 rfl ?_
      refine lv_bipush (v := 32) hx hb dL_law_225 (by decide) ?_
      refine lv_lshl hx hb dL_law_227 rfl ?_
      refine lv_aload_n hx hb dL_law_228 rfl (lv_at hl 0 rfl) ?_
      refine lv_iload hx hb dL_law_229 (lv_at hl 4 rfl) ?_
      refine lv_iconst (v := 4) hx hb dL_law_231 (by decide) ?_
      refine lv_iadd hx hb dL_law_232 ?_
      refine lv_topi (fun x86 ex86 => ?_)
      have ex86q : x86 = (nI (i + 4)) := by
        rw [ex86]; exact nI_add i 4
      subst ex86q
      refine fk_sld hx hb hX hbl hbA hS hL (k := i + 4) (by omega) dL_law_233 ?_
      refine lv_i2l hx hb dL_law_234 rfl ?_
      refine lv_ldc2 (v := 4294967295) hx hb hown k1 dL_law_235 ?_
      refine lv_land hx hb dL_law_238 ?_
      refine lv_lor hx hb dL_law_239 ?_
      refine lv_topl (fun x87 ex87 => ?_)
      have ex87q : x87 = fk_lg (xs (i + 3)) (xs (i + 4)) := by
        rw [ex87]; rfl
      subst ex87q
      refine lv_aload_n hx hb dL_law_240 rfl (lv_at hl 0 rfl) ?_
      refine lv_iload hx hb dL_law_241 (lv_at hl 4 rfl) ?_
      refine lv_iconst (v := 5) hx hb dL_law_243 (by decide) ?_
      refine lv_iadd hx hb dL_law_244 ?_
      refine lv_topi (fun x88 ex88 => ?_)
      have ex88q : x88 = (nI (i + 5)) := by
        rw [ex88]; exact nI_add i 5
      subst ex88q
      refine fk_sld hx hb hX hbl hbA hS hL (k := i + 5) (by omega) dL_law_245 ?_
      refine lv_i2l hx hb dL_law_246 rfl ?_
      refine lv_bipush (v := 32) hx hb dL_law_247 (by decide) ?_
      refine lv_lshl hx hb dL_law_249 rfl ?_
      refine lv_aload_n hx hb dL_law_250 rfl (lv_at hl 0 rfl) ?_
      refine lv_iload hx hb dL_law_251 (lv_at hl 4 rfl) ?_
      refine lv_bipush (v := 6) hx hb dL_law_253 (by decide) ?_
      refine lv_iadd hx hb dL_law_255 ?_
      refine lv_topi (fun x89 ex89 => ?_)
      have ex89q : x89 = (nI (i + 6)) := by
        rw [ex89]; exact nI_add i 6
      subst ex89q
      refine fk_sld hx hb hX hbl hbA hS hL (k := i + 6) (by omega) dL_law_256 ?_
      refine lv_i2l hx hb dL_law_257 rfl ?_
      refine lv_ldc2 (v := 4294967295) hx hb hown k1 dL_law_258 ?_
      refine lv_land hx hb dL_law_261 ?_
      refine lv_lor hx hb dL_law_262 ?_
      refine lv_topl (fun x90 ex90 => ?_)
      have ex90q : x90 = fk_lg (xs (i + 5)) (xs (i + 6)) := by
        rw [ex90]; rfl
      subst ex90q
      refine lv_aload_n hx hb dL_law_263 rfl (lv_at hl 0 rfl) ?_
      refine lv_iload hx hb dL_law_264 (lv_at hl 4 rfl) ?_
      refine lv_bipush (v := 7) hx hb dL_law_266 (by decide) ?_
      refine lv_iadd hx hb dL_law_268 ?_
      refine lv_topi (fun x91 ex91 => ?_)
      have ex91q : x91 = (nI (i + 7)) := by
        rw [ex91]; exact nI_add i 7
      subst ex91q
      refine fk_sld hx hb hX hbl hbA hS hL (k := i + 7) (by omega) dL_law_269 ?_
      refine lv_i2l hx hb dL_law_270 rfl ?_
      refine lv_bipush (v := 32) hx hb dL_law_271 (by decide) ?_
      refine lv_lshl hx hb dL_law_273 rfl ?_
      refine lv_aload_n hx hb dL_law_274 rfl (lv_at hl 0 rfl) ?_
      refine lv_iload hx hb dL_law_275 (lv_at hl 4 rfl) ?_
      refine lv_bipush (v := 8) hx hb dL_law_277 (by decide) ?_
      refine lv_iadd hx hb dL_law_279 ?_
      refine lv_topi (fun x92 ex92 => ?_)
      have ex92q : x92 = (nI (i + 8)) := by
        rw [ex92]; exact nI_add i 8
      subst ex92q
      refine fk_sld hx hb hX hbl hbA hS hL (k := i + 8) (by omega) dL_law_280 ?_
      refine lv_i2l hx hb dL_law_281 rfl ?_
      refine lv_ldc2 (v := 4294967295) hx hb hown k1 dL_law_282 ?_
      refine lv_land hx hb dL_law_285 ?_
      refine lv_lor hx hb dL_law_286 ?_
      refine lv_topl (fun x93 ex93 => ?_)
      have ex93q : x93 = fk_lg (xs (i + 7)) (xs (i + 8)) := by
        rw [ex93]; rfl
      subst ex93q
      have hP : va_P D vwCl ((fk_wm cJ cI cZ am cd (nI n) lo (nI T.length) wd sg up dn of bey rnd tx pt sn) ++ (((oA, .inl (cJ, 1, .inr (.inl fo))) :: kt) ++ (fk_wx cJ cC cK ad kd (nI n) lo ch (nI (40 - T.length)) f1 f2 f3 f4 f5))) H := fk_swP hP
      have hD : va_D A ((fk_wm cJ cI cZ am cd (nI n) lo (nI T.length) wd sg up dn of bey rnd tx pt sn) ++ (((oA, .inl (cJ, 1, .inr (.inl fo))) :: kt) ++ (fk_wx cJ cC cK ad kd (nI n) lo ch (nI (40 - T.length)) f1 f2 f3 f4 f5))) := fk_swD hD
      refine fk_ci hD hS hA (va_runV (As := [.int (xs (i + 1)), .int 1, .long (fk_lg (xs (i + 3)) (xs (i + 4))), .long (fk_lg (xs (i + 5)) (xs (i + 6))), .long (fk_lg (xs (i + 7)) (xs (i + 8)))]) (rest := [.int r70]) ⟨hx, hb, hml, hown, hts⟩ (kX4_kind _ am (((oA, .inl (cJ, 1, .inr (.inl fo))) :: kt) ++ (fk_wx cJ cC cK ad kd (nI n) lo ch (nI (40 - T.length)) f1 f2 f3 f4 f5)) cd lo (nI T.length) wd sg up dn of bey rnd tx pt sn n kf (xs (i + 1)) 1 (fk_lg (xs (i + 3)) (xs (i + 4))) (fk_lg (xs (i + 5)) (xs (i + 6))) (fk_lg (xs (i + 7)) (xs (i + 8))) hMT (Or.inr rfl)) (cwV 5 hts gL_law_X4_kind rfl rfl rfl (by decide +kernel) ⟨Nat.le_of_ble_eq_true rfl, Nat.le_of_ble_eq_true rfl⟩) (fk_preV 0 5 hK hN hP hD rfl rfl) rfl rfl hl.1 rfl (lv_room (Nat.le_of_ble_eq_true rfl)) dL_law_287 ⟨by show cells + 1 + 0 ≤ 604189; omega, by show slots + 7 + 0 ≤ 7283536; omega⟩) (fun r94 u2 H locs hwr94 hP hD hS => ?_)
      obtain ⟨e3, e4⟩ : r94 = -4 ∧ u2 = (n, wd, sg, up, dn, of) := by
        rcases hwr94 with ⟨ya, yr, yy⟩ | ⟨ya, yn, yr, yy⟩ | ⟨ya, yn, yu, yr, yy⟩ | ⟨ya, yn, yu, yr, yy⟩
        · exact absurd ya ea
        · exact ⟨yr, yy⟩
        · omega
        · omega
      subst e4
      have hP : va_P D vwCl ((fk_wx cJ cC cK ad kd (nI n) lo ch (nI (40 - T.length)) f1 f2 f3 f4 f5) ++ ((fk_wm cJ cI cZ am 0 (nI n) lo (nI T.length) wd sg up dn of bey rnd tx pt sn) ++ ((oA, .inl (cJ, 1, .inr (.inl fo))) :: kt))) H := fk_swQ hP
      have hD : va_D A ((fk_wx cJ cC cK ad kd (nI n) lo ch (nI (40 - T.length)) f1 f2 f3 f4 f5) ++ ((fk_wm cJ cI cZ am 0 (nI n) lo (nI T.length) wd sg up dn of bey rnd tx pt sn) ++ ((oA, .inl (cJ, 1, .inr (.inl fo))) :: kt))) := fk_swE hD
      refine lv_icmp_eq (tgt := 1132) hx hb dL_law_290 (by decide) (fun c_290 => ?_) (fun c_290 => False.elim (c_290 (by rw [er, e3])))
      refine W.widen (k := cells + 1) (n := slots + 7) (by omega) (by omega) ?_
      exact kk _ _ _ (fk_J.mk T hP hD hS hKL hMT hlo hT1 hT2 hT3) (lv_sub hl [0, 1, 2, 3, 4] rfl)
    · subst ey
      have hP : va_P D vwCl ((fk_wx cJ cC cK ad kd (nI n) lo ch (nI (40 - T.length)) f1 f2 f3 f4 f5) ++ ((fk_wm cJ cI cZ am cd (nI n) lo (nI T.length) wd sg up dn of bey rnd tx pt sn) ++ ((oA, .inl (cJ, 1, .inr (.inl fo))) :: kt))) H := hP
      have hD : va_D A ((fk_wx cJ cC cK ad kd (nI n) lo ch (nI (40 - T.length)) f1 f2 f3 f4 f5) ++ ((fk_wm cJ cI cZ am cd (nI n) lo (nI T.length) wd sg up dn of bey rnd tx pt sn) ++ ((oA, .inl (cJ, 1, .inr (.inl fo))) :: kt))) := hD
      refine lv_aload_n hx hb dL_law_197 rfl (lv_at hl 2 rfl) ?_
      refine lv_aload_n hx hb dL_law_198 rfl (lv_at hl 0 rfl) ?_
      refine lv_iload hx hb dL_law_199 (lv_at hl 4 rfl) ?_
      refine lv_iconst (v := 1) hx hb dL_law_201 (by decide) ?_
      refine lv_iadd hx hb dL_law_202 ?_
      refine lv_topi (fun x95 ex95 => ?_)
      have ex95q : x95 = (nI (i + 1)) := by
        rw [ex95]; exact nI_add i 1
      subst ex95q
      refine fk_sld hx hb hX hbl hbA hS hL (k := i + 1) (by omega) dL_law_203 ?_
      refine lv_aload_n hx hb dL_law_204 rfl (lv_at hl 0 rfl) ?_
      refine lv_iload hx hb dL_law_205 (lv_at hl 4 rfl) ?_
      refine lv_iconst (v := 2) hx hb dL_law_207 (by decide) ?_
      refine lv_iadd hx hb dL_law_208 ?_
      refine lv_topi (fun x96 ex96 => ?_)
      have ex96q : x96 = (nI (i + 2)) := by
        rw [ex96]; exact nI_add i 2
      subst ex96q
      refine fk_sld hx hb hX hbl hbA hS hL (k := i + 2) (by omega) dL_law_209 ?_
      refine lv_if_eq (tgt := 217) hx hb dL_law_210 (by decide) (fun c_210 => False.elim (c_117 c_210)) (fun c_210 => ?_)
      refine lv_iconst (v := 1) hx hb dL_law_213 (by decide) ?_
      refine lv_goto (tgt := 218) hx hb dL_law_214 (by decide) ?_
      refine lv_aload_n hx hb dL_law_218 rfl (lv_at hl 0 rfl) ?_
      refine lv_iload hx hb dL_law_219 (lv_at hl 4 rfl) ?_
      refine lv_iconst (v := 3) hx hb dL_law_221 (by decide) ?_
      refine lv_iadd hx hb dL_law_222 ?_
      refine lv_topi (fun x97 ex97 => ?_)
      have ex97q : x97 = (nI (i + 3)) := by
        rw [ex97]; exact nI_add i 3
      subst ex97q
      refine fk_sld hx hb hX hbl hbA hS hL (k := i + 3) (by omega) dL_law_223 ?_
      refine lv_i2l hx hb dL_law_224 rfl ?_
      refine lv_bipush (v := 32) hx hb dL_law_225 (by decide) ?_
      refine lv_lshl hx hb dL_law_227 rfl ?_
      refine lv_aload_n hx hb dL_law_228 rfl (lv_at hl 0 rfl) ?_
      refine lv_iload hx hb dL_law_229 (lv_at hl 4 rfl) ?_
      refine lv_iconst (v := 4) hx hb dL_law_231 (by decide) ?_
      refine lv_iadd hx hb dL_law_232 ?_
      refine lv_topi (fun x98 ex98 => ?_)
      have ex98q : x98 = (nI (i + 4)) := by
        rw [ex98]; exact nI_add i 4
      subst ex98q
      refine fk_sld hx hb hX hbl hbA hS hL (k := i + 4) (by omega) dL_law_233 ?_
      refine lv_i2l hx hb dL_law_234 rfl ?_
      refine lv_ldc2 (v := 4294967295) hx hb hown k1 dL_law_235 ?_
      refine lv_land hx hb dL_law_238 ?_
      refine lv_lor hx hb dL_law_239 ?_
      refine lv_topl (fun x99 ex99 => ?_)
      have ex99q : x99 = fk_lg (xs (i + 3)) (xs (i + 4)) := by
        rw [ex99]; rfl
      subst ex99q
      refine lv_aload_n hx hb dL_law_240 rfl (lv_at hl 0 rfl) ?_
      refine lv_iload hx hb dL_law_241 (lv_at hl 4 rfl) ?_
      refine lv_iconst (v := 5) hx hb dL_law_243 (by decide) ?_
      refine lv_iadd hx hb dL_law_244 ?_
      refine lv_topi (fun x100 ex100 => ?_)
      have ex100q : x100 = (nI (i + 5)) := by
        rw [ex100]; exact nI_add i 5
      subst ex100q
      refine fk_sld hx hb hX hbl hbA hS hL (k := i + 5) (by omega) dL_law_245 ?_
      refine lv_i2l hx hb dL_law_246 rfl ?_
      refine lv_bipush (v := 32) hx hb dL_law_247 (by decide) ?_
      refine lv_lshl hx hb dL_law_249 rfl ?_
      refine lv_aload_n hx hb dL_law_250 rfl (lv_at hl 0 rfl) ?_
      refine lv_iload hx hb dL_law_251 (lv_at hl 4 rfl) ?_
      refine lv_bipush (v := 6) hx hb dL_law_253 (by decide) ?_
      refine lv_iadd hx hb dL_law_255 ?_
      refine lv_topi (fun x101 ex101 => ?_)
      have ex101q : x101 = (nI (i + 6)) := by
        rw [ex101]; exact nI_add i 6
      subst ex101q
      refine fk_sld hx hb hX hbl hbA hS hL (k := i + 6) (by omega) dL_law_256 ?_
      refine lv_i2l hx hb dL_law_257 rfl ?_
      refine lv_ldc2 (v := 4294967295) hx hb hown k1 dL_law_258 ?_
      refine lv_land hx hb dL_law_261 ?_
      refine lv_lor hx hb dL_law_262 ?_
      refine lv_topl (fun x102 ex102 => ?_)
      have ex102q : x102 = fk_lg (xs (i + 5)) (xs (i + 6)) := by
        rw [ex102]; rfl
      subst ex102q
      refine lv_aload_n hx hb dL_law_263 rfl (lv_at hl 0 rfl) ?_
      refine lv_iload hx hb dL_law_264 (lv_at hl 4 rfl) ?_
      refine lv_bipush (v := 7) hx hb dL_law_266 (by decide) ?_
      refine lv_iadd hx hb dL_law_268 ?_
      refine lv_topi (fun x103 ex103 => ?_)
      have ex103q : x103 = (nI (i + 7)) := by
        rw [ex103]; exact nI_add i 7
      subst ex103q
      refine fk_sld hx hb hX hbl hbA hS hL (k := i + 7) (by omega) dL_law_269 ?_
      refine lv_i2l hx hb dL_law_270 rfl ?_
      refine lv_bipush (v := 32) hx hb dL_law_271 (by decide) ?_
      refine lv_lshl hx hb dL_law_273 rfl ?_
      refine lv_aload_n hx hb dL_law_274 rfl (lv_at hl 0 rfl) ?_
      refine lv_iload hx hb dL_law_275 (lv_at hl 4 rfl) ?_
      refine lv_bipush (v := 8) hx hb dL_law_277 (by decide) ?_
      refine lv_iadd hx hb dL_law_279 ?_
      refine lv_topi (fun x104 ex104 => ?_)
      have ex104q : x104 = (nI (i + 8)) := by
        rw [ex104]; exact nI_add i 8
      subst ex104q
      refine fk_sld hx hb hX hbl hbA hS hL (k := i + 8) (by omega) dL_law_280 ?_
      refine lv_i2l hx hb dL_law_281 rfl ?_
      refine lv_ldc2 (v := 4294967295) hx hb hown k1 dL_law_282 ?_
      refine lv_land hx hb dL_law_285 ?_
      refine lv_lor hx hb dL_law_286 ?_
      refine lv_topl (fun x105 ex105 => ?_)
      have ex105q : x105 = fk_lg (xs (i + 7)) (xs (i + 8)) := by
        rw [ex105]; rfl
      subst ex105q
      have hP : va_P D vwCl ((fk_wm cJ cI cZ am cd (nI n) lo (nI T.length) wd sg up dn of bey rnd tx pt sn) ++ (((oA, .inl (cJ, 1, .inr (.inl fo))) :: kt) ++ (fk_wx cJ cC cK ad kd (nI n) lo ch (nI (40 - T.length)) f1 f2 f3 f4 f5))) H := fk_swP hP
      have hD : va_D A ((fk_wm cJ cI cZ am cd (nI n) lo (nI T.length) wd sg up dn of bey rnd tx pt sn) ++ (((oA, .inl (cJ, 1, .inr (.inl fo))) :: kt) ++ (fk_wx cJ cC cK ad kd (nI n) lo ch (nI (40 - T.length)) f1 f2 f3 f4 f5))) := fk_swD hD
      refine fk_ci hD hS hA (va_runV (As := [.int (xs (i + 1)), .int 1, .long (fk_lg (xs (i + 3)) (xs (i + 4))), .long (fk_lg (xs (i + 5)) (xs (i + 6))), .long (fk_lg (xs (i + 7)) (xs (i + 8)))]) (rest := [.int r70]) ⟨hx, hb, hml, hown, hts⟩ (kX4_kind _ am (((oA, .inl (cJ, 1, .inr (.inl fo))) :: kt) ++ (fk_wx cJ cC cK ad kd (nI n) lo ch (nI (40 - T.length)) f1 f2 f3 f4 f5)) cd lo (nI T.length) wd sg up dn of bey rnd tx pt sn n kf (xs (i + 1)) 1 (fk_lg (xs (i + 3)) (xs (i + 4))) (fk_lg (xs (i + 5)) (xs (i + 6))) (fk_lg (xs (i + 7)) (xs (i + 8))) hMT (Or.inr rfl)) (cwV 5 hts gL_law_X4_kind rfl rfl rfl (by decide +kernel) ⟨Nat.le_of_ble_eq_true rfl, Nat.le_of_ble_eq_true rfl⟩) (fk_preV 0 5 hK hN hP hD rfl rfl) rfl rfl hl.1 rfl (lv_room (Nat.le_of_ble_eq_true rfl)) dL_law_287 ⟨by show cells + 1 + 0 ≤ 604189; omega, by show slots + 7 + 0 ≤ 7283536; omega⟩) (fun r106 u2 H locs hwr106 hP hD hS => ?_)
      obtain ⟨e3, e4⟩ : r106 = 0 ∧ u2 = (n, wd, sg, up, dn, of) := by
        rcases hwr106 with ⟨ya, yr, yy⟩ | ⟨ya, yn, yr, yy⟩ | ⟨ya, yn, yu, yr, yy⟩ | ⟨ya, yn, yu, yr, yy⟩
        · exact absurd ya ea
        · omega
        · exact ⟨yr, yy⟩
        · exact absurd eu yu
      subst e4
      have hP : va_P D vwCl ((fk_wx cJ cC cK ad kd (nI n) lo ch (nI (40 - T.length)) f1 f2 f3 f4 f5) ++ ((fk_wm cJ cI cZ am 0 (nI n) lo (nI T.length) wd sg up dn of bey rnd tx pt sn) ++ ((oA, .inl (cJ, 1, .inr (.inl fo))) :: kt))) H := fk_swQ hP
      have hD : va_D A ((fk_wx cJ cC cK ad kd (nI n) lo ch (nI (40 - T.length)) f1 f2 f3 f4 f5) ++ ((fk_wm cJ cI cZ am 0 (nI n) lo (nI T.length) wd sg up dn of bey rnd tx pt sn) ++ ((oA, .inl (cJ, 1, .inr (.inl fo))) :: kt))) := fk_swE hD
      refine lv_icmp_eq (tgt := 1132) hx hb dL_law_290 (by decide) (fun c_290 => ?_) (fun c_290 => False.elim (c_290 (by rw [er, e3])))
      refine W.widen (k := cells + 1) (n := slots + 7) (by omega) (by omega) ?_
      exact kk _ _ _ (fk_J.mk T hP hD hS hKL hMT hlo hT1 hT2 hT3) (lv_sub hl [0, 1, 2, 3, 4] rfl)
    · subst ey
      obtain ⟨hok, hwn⟩ := fk_okK ea eu (Or.inr rfl)
      have hP : va_P D vwCl ((fk_wx cJ cC cK ad (va_up kd n (some q)) (nI (n + 1)) lo ch (nI (40 - T.length)) f1 f2 f3 f4 f5) ++ (((fk_wm cJ cI cZ am cd (nI n) lo (nI T.length) wd sg up dn of bey rnd tx pt sn) ++ ((oA, .inl (cJ, 1, .inr (.inl fo))) :: kt)) ++ [(q, fk_ke (fk_mkK (xs (i + 1)) 1 (fk_lg (xs (i + 3)) (xs (i + 4))) (fk_lg (xs (i + 5)) (xs (i + 6))) (fk_lg (xs (i + 7)) (xs (i + 8)))))])) H := hP
      have hD : va_D A ((fk_wx cJ cC cK ad (va_up kd n (some q)) (nI (n + 1)) lo ch (nI (40 - T.length)) f1 f2 f3 f4 f5) ++ (((fk_wm cJ cI cZ am cd (nI n) lo (nI T.length) wd sg up dn of bey rnd tx pt sn) ++ ((oA, .inl (cJ, 1, .inr (.inl fo))) :: kt)) ++ [(q, fk_ke (fk_mkK (xs (i + 1)) 1 (fk_lg (xs (i + 3)) (xs (i + 4))) (fk_lg (xs (i + 5)) (xs (i + 6))) (fk_lg (xs (i + 7)) (xs (i + 8)))))])) := hD
      rw [List.append_assoc _ _ [(q, fk_ke (fk_mkK (xs (i + 1)) 1 (fk_lg (xs (i + 3)) (xs (i + 4))) (fk_lg (xs (i + 5)) (xs (i + 6))) (fk_lg (xs (i + 7)) (xs (i + 8)))))], List.cons_append] at hP hD
      have hP : va_P D vwCl ((fk_wx cJ cC cK ad (va_up kd n (some q)) (nI (n + 1)) lo ch (nI (40 - T.length)) f1 f2 f3 f4 f5) ++ ((fk_wm cJ cI cZ am cd (nI n) lo (nI T.length) wd sg up dn of bey rnd tx pt sn) ++ ((oA, .inl (cJ, 1, .inr (.inl fo))) :: (kt ++ [(q, fk_ke (fk_mkK (xs (i + 1)) 1 (fk_lg (xs (i + 3)) (xs (i + 4))) (fk_lg (xs (i + 5)) (xs (i + 6))) (fk_lg (xs (i + 7)) (xs (i + 8)))))])))) H := hP
      have hD : va_D A ((fk_wx cJ cC cK ad (va_up kd n (some q)) (nI (n + 1)) lo ch (nI (40 - T.length)) f1 f2 f3 f4 f5) ++ ((fk_wm cJ cI cZ am cd (nI n) lo (nI T.length) wd sg up dn of bey rnd tx pt sn) ++ ((oA, .inl (cJ, 1, .inr (.inl fo))) :: (kt ++ [(q, fk_ke (fk_mkK (xs (i + 1)) 1 (fk_lg (xs (i + 3)) (xs (i + 4))) (fk_lg (xs (i + 5)) (xs (i + 6))) (fk_lg (xs (i + 7)) (xs (i + 8)))))])))) := hD
      refine lv_aload_n hx hb dL_law_197 rfl (lv_at hl 2 rfl) ?_
      refine lv_aload_n hx hb dL_law_198 rfl (lv_at hl 0 rfl) ?_
      refine lv_iload hx hb dL_law_199 (lv_at hl 4 rfl) ?_
      refine lv_iconst (v := 1) hx hb dL_law_201 (by decide) ?_
      refine lv_iadd hx hb dL_law_202 ?_
      refine lv_topi (fun x107 ex107 => ?_)
      have ex107q : x107 = (nI (i + 1)) := by
        rw [ex107]; exact nI_add i 1
      subst ex107q
      refine fk_sld hx hb hX hbl hbA hS hL (k := i + 1) (by omega) dL_law_203 ?_
      refine lv_aload_n hx hb dL_law_204 rfl (lv_at hl 0 rfl) ?_
      refine lv_iload hx hb dL_law_205 (lv_at hl 4 rfl) ?_
      refine lv_iconst (v := 2) hx hb dL_law_207 (by decide) ?_
      refine lv_iadd hx hb dL_law_208 ?_
      refine lv_topi (fun x108 ex108 => ?_)
      have ex108q : x108 = (nI (i + 2)) := by
        rw [ex108]; exact nI_add i 2
      subst ex108q
      refine fk_sld hx hb hX hbl hbA hS hL (k := i + 2) (by omega) dL_law_209 ?_
      refine lv_if_eq (tgt := 217) hx hb dL_law_210 (by decide) (fun c_210 => False.elim (c_117 c_210)) (fun c_210 => ?_)
      refine lv_iconst (v := 1) hx hb dL_law_213 (by decide) ?_
      refine lv_goto (tgt := 218) hx hb dL_law_214 (by decide) ?_
      refine lv_aload_n hx hb dL_law_218 rfl (lv_at hl 0 rfl) ?_
      refine lv_iload hx hb dL_law_219 (lv_at hl 4 rfl) ?_
      refine lv_iconst (v := 3) hx hb dL_law_221 (by decide) ?_
      refine lv_iadd hx hb dL_law_222 ?_
      refine lv_topi (fun x109 ex109 => ?_)
      have ex109q : x109 = (nI (i + 3)) := by
        rw [ex109]; exact nI_add i 3
      subst ex109q
      refine fk_sld hx hb hX hbl hbA hS hL (k := i + 3) (by omega) dL_law_223 ?_
      refine lv_i2l hx hb dL_law_224 rfl ?_
      refine lv_bipush (v := 32) hx hb dL_law_225 (by decide) ?_
      refine lv_lshl hx hb dL_law_227 rfl ?_
      refine lv_aload_n hx hb dL_law_228 rfl (lv_at hl 0 rfl) ?_
      refine lv_iload hx hb dL_law_229 (lv_at hl 4 rfl) ?_
      refine lv_iconst (v := 4) hx hb dL_law_231 (by decide) ?_
      refine lv_iadd hx hb dL_law_232 ?_
      refine lv_topi (fun x110 ex110 => ?_)
      have ex110q : x110 = (nI (i + 4)) := by
        rw [ex110]; exact nI_add i 4
      subst ex110q
      refine fk_sld hx hb hX hbl hbA hS hL (k := i + 4) (by omega) dL_law_233 ?_
      refine lv_i2l hx hb dL_law_234 rfl ?_
      refine lv_ldc2 (v := 4294967295) hx hb hown k1 dL_law_235 ?_
      refine lv_land hx hb dL_law_238 ?_
      refine lv_lor hx hb dL_law_239 ?_
      refine lv_topl (fun x111 ex111 => ?_)
      have ex111q : x111 = fk_lg (xs (i + 3)) (xs (i + 4)) := by
        rw [ex111]; rfl
      subst ex111q
      refine lv_aload_n hx hb dL_law_240 rfl (lv_at hl 0 rfl) ?_
      refine lv_iload hx hb dL_law_241 (lv_at hl 4 rfl) ?_
      refine lv_iconst (v := 5) hx hb dL_law_243 (by decide) ?_
      refine lv_iadd hx hb dL_law_244 ?_
      refine lv_topi (fun x112 ex112 => ?_)
      have ex112q : x112 = (nI (i + 5)) := by
        rw [ex112]; exact nI_add i 5
      subst ex112q
      refine fk_sld hx hb hX hbl hbA hS hL (k := i + 5) (by omega) dL_law_245 ?_
      refine lv_i2l hx hb dL_law_246 rfl ?_
      refine lv_bipush (v := 32) hx hb dL_law_247 (by decide) ?_
      refine lv_lshl hx hb dL_law_249 rfl ?_
      refine lv_aload_n hx hb dL_law_250 rfl (lv_at hl 0 rfl) ?_
      refine lv_iload hx hb dL_law_251 (lv_at hl 4 rfl) ?_
      refine lv_bipush (v := 6) hx hb dL_law_253 (by decide) ?_
      refine lv_iadd hx hb dL_law_255 ?_
      refine lv_topi (fun x113 ex113 => ?_)
      have ex113q : x113 = (nI (i + 6)) := by
        rw [ex113]; exact nI_add i 6
      subst ex113q
      refine fk_sld hx hb hX hbl hbA hS hL (k := i + 6) (by omega) dL_law_256 ?_
      refine lv_i2l hx hb dL_law_257 rfl ?_
      refine lv_ldc2 (v := 4294967295) hx hb hown k1 dL_law_258 ?_
      refine lv_land hx hb dL_law_261 ?_
      refine lv_lor hx hb dL_law_262 ?_
      refine lv_topl (fun x114 ex114 => ?_)
      have ex114q : x114 = fk_lg (xs (i + 5)) (xs (i + 6)) := by
        rw [ex114]; rfl
      subst ex114q
      refine lv_aload_n hx hb dL_law_263 rfl (lv_at hl 0 rfl) ?_
      refine lv_iload hx hb dL_law_264 (lv_at hl 4 rfl) ?_
      refine lv_bipush (v := 7) hx hb dL_law_266 (by decide) ?_
      refine lv_iadd hx hb dL_law_268 ?_
      refine lv_topi (fun x115 ex115 => ?_)
      have ex115q : x115 = (nI (i + 7)) := by
        rw [ex115]; exact nI_add i 7
      subst ex115q
      refine fk_sld hx hb hX hbl hbA hS hL (k := i + 7) (by omega) dL_law_269 ?_
      refine lv_i2l hx hb dL_law_270 rfl ?_
      refine lv_bipush (v := 32) hx hb dL_law_271 (by decide) ?_
      refine lv_lshl hx hb dL_law_273 rfl ?_
      refine lv_aload_n hx hb dL_law_274 rfl (lv_at hl 0 rfl) ?_
      refine lv_iload hx hb dL_law_275 (lv_at hl 4 rfl) ?_
      refine lv_bipush (v := 8) hx hb dL_law_277 (by decide) ?_
      refine lv_iadd hx hb dL_law_279 ?_
      refine lv_topi (fun x116 ex116 => ?_)
      have ex116q : x116 = (nI (i + 8)) := by
        rw [ex116]; exact nI_add i 8
      subst ex116q
      refine fk_sld hx hb hX hbl hbA hS hL (k := i + 8) (by omega) dL_law_280 ?_
      refine lv_i2l hx hb dL_law_281 rfl ?_
      refine lv_ldc2 (v := 4294967295) hx hb hown k1 dL_law_282 ?_
      refine lv_land hx hb dL_law_285 ?_
      refine lv_lor hx hb dL_law_286 ?_
      refine lv_topl (fun x117 ex117 => ?_)
      have ex117q : x117 = fk_lg (xs (i + 7)) (xs (i + 8)) := by
        rw [ex117]; rfl
      subst ex117q
      have hP : va_P D vwCl ((fk_wm cJ cI cZ am cd (nI n) lo (nI T.length) wd sg up dn of bey rnd tx pt sn) ++ (((oA, .inl (cJ, 1, .inr (.inl fo))) :: (kt ++ [(q, fk_ke (fk_mkK (xs (i + 1)) 1 (fk_lg (xs (i + 3)) (xs (i + 4))) (fk_lg (xs (i + 5)) (xs (i + 6))) (fk_lg (xs (i + 7)) (xs (i + 8)))))])) ++ (fk_wx cJ cC cK ad (va_up kd n (some q)) (nI (n + 1)) lo ch (nI (40 - T.length)) f1 f2 f3 f4 f5))) H := fk_swP hP
      have hD : va_D A ((fk_wm cJ cI cZ am cd (nI n) lo (nI T.length) wd sg up dn of bey rnd tx pt sn) ++ (((oA, .inl (cJ, 1, .inr (.inl fo))) :: (kt ++ [(q, fk_ke (fk_mkK (xs (i + 1)) 1 (fk_lg (xs (i + 3)) (xs (i + 4))) (fk_lg (xs (i + 5)) (xs (i + 6))) (fk_lg (xs (i + 7)) (xs (i + 8)))))])) ++ (fk_wx cJ cC cK ad (va_up kd n (some q)) (nI (n + 1)) lo ch (nI (40 - T.length)) f1 f2 f3 f4 f5))) := fk_swD hD
      refine fk_ci hD hS hA (va_runV (As := [.int (xs (i + 1)), .int 1, .long (fk_lg (xs (i + 3)) (xs (i + 4))), .long (fk_lg (xs (i + 5)) (xs (i + 6))), .long (fk_lg (xs (i + 7)) (xs (i + 8)))]) (rest := [.int r70]) ⟨hx, hb, hml, hown, hts⟩ (kX4_kind _ am (((oA, .inl (cJ, 1, .inr (.inl fo))) :: (kt ++ [(q, fk_ke (fk_mkK (xs (i + 1)) 1 (fk_lg (xs (i + 3)) (xs (i + 4))) (fk_lg (xs (i + 5)) (xs (i + 6))) (fk_lg (xs (i + 7)) (xs (i + 8)))))])) ++ (fk_wx cJ cC cK ad (va_up kd n (some q)) (nI (n + 1)) lo ch (nI (40 - T.length)) f1 f2 f3 f4 f5)) cd lo (nI T.length) wd sg up dn of bey rnd tx pt sn n kf (xs (i + 1)) 1 (fk_lg (xs (i + 3)) (xs (i + 4))) (fk_lg (xs (i + 5)) (xs (i + 6))) (fk_lg (xs (i + 7)) (xs (i + 8))) hMT (Or.inr rfl)) (cwV 5 hts gL_law_X4_kind rfl rfl rfl (by decide +kernel) ⟨Nat.le_of_ble_eq_true rfl, Nat.le_of_ble_eq_true rfl⟩) (fk_preV 0 5 hK hN hP hD rfl rfl) rfl rfl hl.1 rfl (lv_room (Nat.le_of_ble_eq_true rfl)) dL_law_287 ⟨by show cells + 1 + 0 ≤ 604189; omega, by show slots + 7 + 0 ≤ 7283536; omega⟩) (fun r118 u2 H locs hwr118 hP hD hS => ?_)
      obtain ⟨e3, e4⟩ : r118 = nI (n + 1) ∧ u2 = (n + 1, upd wd (n + 1) (xs (i + 1)), upd sg (n + 1) 1, vp_updL up (n + 1) (fk_lg (xs (i + 3)) (xs (i + 4))), vp_updL dn (n + 1) (fk_lg (xs (i + 5)) (xs (i + 6))), vp_updL of (n + 1) (fk_lg (xs (i + 7)) (xs (i + 8)))) := by
        rcases hwr118 with ⟨ya, yr, yy⟩ | ⟨ya, yn, yr, yy⟩ | ⟨ya, yn, yu, yr, yy⟩ | ⟨ya, yn, yu, yr, yy⟩
        · exact absurd ya ea
        · omega
        · exact absurd yu eu
        · exact ⟨yr, yy⟩
      subst e4
      have hP : va_P D vwCl ((fk_wx cJ cC cK ad (va_up kd n (some q)) (nI (n + 1)) lo ch (nI (40 - T.length)) f1 f2 f3 f4 f5) ++ ((fk_wm cJ cI cZ am 0 (nI (n + 1)) lo (nI T.length) (upd wd (n + 1) (xs (i + 1))) (upd sg (n + 1) 1) (vp_updL up (n + 1) (fk_lg (xs (i + 3)) (xs (i + 4)))) (vp_updL dn (n + 1) (fk_lg (xs (i + 5)) (xs (i + 6)))) (vp_updL of (n + 1) (fk_lg (xs (i + 7)) (xs (i + 8)))) bey rnd tx pt sn) ++ ((oA, .inl (cJ, 1, .inr (.inl fo))) :: (kt ++ [(q, fk_ke (fk_mkK (xs (i + 1)) 1 (fk_lg (xs (i + 3)) (xs (i + 4))) (fk_lg (xs (i + 5)) (xs (i + 6))) (fk_lg (xs (i + 7)) (xs (i + 8)))))])))) H := fk_swQ hP
      have hD : va_D A ((fk_wx cJ cC cK ad (va_up kd n (some q)) (nI (n + 1)) lo ch (nI (40 - T.length)) f1 f2 f3 f4 f5) ++ ((fk_wm cJ cI cZ am 0 (nI (n + 1)) lo (nI T.length) (upd wd (n + 1) (xs (i + 1))) (upd sg (n + 1) 1) (vp_updL up (n + 1) (fk_lg (xs (i + 3)) (xs (i + 4)))) (vp_updL dn (n + 1) (fk_lg (xs (i + 5)) (xs (i + 6)))) (vp_updL of (n + 1) (fk_lg (xs (i + 7)) (xs (i + 8)))) bey rnd tx pt sn) ++ ((oA, .inl (cJ, 1, .inr (.inl fo))) :: (kt ++ [(q, fk_ke (fk_mkK (xs (i + 1)) 1 (fk_lg (xs (i + 3)) (xs (i + 4))) (fk_lg (xs (i + 5)) (xs (i + 6))) (fk_lg (xs (i + 7)) (xs (i + 8)))))])))) := fk_swE hD
      refine lv_icmp_eq (tgt := 1132) hx hb dL_law_290 (by decide) (fun c_290 => ?_) (fun c_290 => False.elim (c_290 (by rw [er, e3])))
      refine W.widen (k := cells + 1) (n := slots + 7) (by omega) (by omega) ?_
      exact kk _ _ _ (fk_J.mk T hP hD hS (hKL.kind en hok q) (hMT.kind en hok hwn) hlo hT1 hT2 hT3) (lv_sub hl [0, 1, 2, 3, 4] rfl)
