/-! The law's own apply and at, by program -/
def wsL_atT : List Cond := .codeWith yL_at cL_at 4 (some .int) [(0, 9, 12, 19)] :: .classLink RL 19 RJx00060 :: (wsL_at.tail ++ (vx_atS RX3 139 RJx00060 ["java/lang/IndexOutOfBoundsException", "java/lang/RuntimeException", "java/lang/Exception"]).filter goodWord)
set_option maxRecDepth 20000 in
theorem gL_at_X3_atT : GoodIn wsL_atT (wsV RL 15 RX3 yX3_at wsX3_atT) := goodIn_of _ (by decide +kernel)
abbrev rmL_apply : Room := { frames := 8, cells := 1, slots := 6, locals := 195 }
set_option maxHeartbeats 4000000 in
set_option maxRecDepth 100000 in
/-- the law's own apply -/
theorem kL_apply {l : Launch} {D : va_G} {cJ cC cI cZ cK : ClassId} (sz : Nat) (ad : Nat → Nat) (tl : va_W) (kd : Nat → Option Nat) (lo : Int32) (ch : Nat → Int32) (ts : Int32) (f1 f2 f3 f4 f5 : Nat → Int64) (n : Nat) (kf : Nat → fk_K) (ka kp : Nat → Nat) (oA jo : Nat) (fo : Nat → Int64) (op num num2 : Int32) (x y : Int64) (hlt : l.stackTraces = false) (hKT : fk_KT n kf kd ka kp tl) (hqo : tl[jo]? = some (oA, .inl (cJ, 1, .inr (.inl fo)))) : vx_Met l yL_apply wsL_apply rmL_apply (va_Pc [.ref (ad 0), .int op, .int num, .long x, .int num2, .long y, .ref oA] (fk_preT D (fk_ty cJ cC cI cZ cK) (fk_wx cJ cC cK ad kd (nI n) lo ch ts f1 f2 f3 f4 f5 ++ tl) sz)) (va_Qi (fun (r : Int32) (u : (Int32 × (Nat → Int64) × (Nat → Int64) × (Nat → Int64) × (Nat → Int64) × (Nat → Int64)) × (Nat → Int64)) => (fk_thr n kf op num num2 y ∧ r = 1 ∧ u.1.1 = lo ∧ u.2 = fo) ∨ (¬ fk_thr n kf op num num2 y ∧ r = 0 ∧ u.1.1 = fk_lApp n kf lo op num x num2 y ∧ ∃ v : Int64, v.toInt = fk_sApp n kf op num x num2 y ∧ u.2 = vp_updL fo 0 v)) (fk_Bd D (fk_ty cJ cC cI cZ cK) (va_A (fk_wx cJ cC cK ad kd (nI n) lo ch ts f1 f2 f3 f4 f5 ++ tl) sz) (fun u : (Int32 × (Nat → Int64) × (Nat → Int64) × (Nat → Int64) × (Nat → Int64) × (Nat → Int64)) × (Nat → Int64) => fk_wx cJ cC cK ad kd (nI n) u.1.1 ch ts u.1.2.1 u.1.2.2.1 u.1.2.2.2.1 u.1.2.2.2.2.1 u.1.2.2.2.2.2 ++ tl.set jo (oA, .inl (cJ, 1, .inr (.inl u.2))))) (va_A (fk_wx cJ cC cK ad kd (nI n) lo ch ts f1 f2 f3 f4 f5 ++ tl) sz)) (vx_X (fun _ : Unit => False) (fun (E : String) (u : Unit) (t : State) => E = "" ∧ fk_Bd D (fk_ty cJ cC cI cZ cK) (va_A (fk_wx cJ cC cK ad kd (nI n) lo ch ts f1 f2 f3 f4 f5 ++ tl) sz) (fun _ : Unit => fk_wx cJ cC cK ad kd (nI n) lo ch ts f1 f2 f3 f4 f5 ++ tl) u t) (va_A (fk_wx cJ cC cK ad kd (nI n) lo ch ts f1 f2 f3 f4 f5 ++ tl) sz)) 1 6 (va_A (fk_wx cJ cC cK ad kd (nI n) lo ch ts f1 f2 f3 f4 f5 ++ tl) sz) := by
  refine fk_ofXH (y := yL_apply) (ws := wsL_apply) (rm := rmL_apply) (av := [.ref (ad 0), .int op, .int num, .long x, .int num2, .long y, .ref oA]) (D := D) (tys := (fk_ty cJ cC cI cZ cK)) cL_apply 10 (some .int) [(0, 15, 18, 13)] (fun A => va_Qi (fun (r : Int32) (u : (Int32 × (Nat → Int64) × (Nat → Int64) × (Nat → Int64) × (Nat → Int64) × (Nat → Int64)) × (Nat → Int64)) => (fk_thr n kf op num num2 y ∧ r = 1 ∧ u.1.1 = lo ∧ u.2 = fo) ∨ (¬ fk_thr n kf op num num2 y ∧ r = 0 ∧ u.1.1 = fk_lApp n kf lo op num x num2 y ∧ ∃ v : Int64, v.toInt = fk_sApp n kf op num x num2 y ∧ u.2 = vp_updL fo 0 v)) (fk_Bd D (fk_ty cJ cC cI cZ cK) A (fun u : (Int32 × (Nat → Int64) × (Nat → Int64) × (Nat → Int64) × (Nat → Int64) × (Nat → Int64)) × (Nat → Int64) => fk_wx cJ cC cK ad kd (nI n) u.1.1 ch ts u.1.2.1 u.1.2.2.1 u.1.2.2.2.1 u.1.2.2.2.2.1 u.1.2.2.2.2.2 ++ tl.set jo (oA, .inl (cJ, 1, .inr (.inl u.2))))) A) (fun A => vx_X (fun _ : Unit => False) (fun (E : String) (u : Unit) (t : State) => E = "" ∧ fk_Bd D (fk_ty cJ cC cI cZ cK) A (fun _ : Unit => fk_wx cJ cC cK ad kd (nI n) lo ch ts f1 f2 f3 f4 f5 ++ tl) u t) A) rfl (by decide) (Nat.le_of_ble_eq_true rfl) ?_
  intro p e s m below meth c A ls args QQ hQQ hAt hP hK hN hD hA hS hl htab hXW
  obtain ⟨⟨hx, hb, hml, hown, hts⟩, hr, hlocks, hin⟩ := hAt
  have hl : lv_has ls 10 [(0, .ref (ad 0)), (1, .int op), (2, .int num), (3, .long x), (5, .int num2), (6, .long y), (8, .ref oA)] := hl
  have k1 := hts (.classLink RL 13 "java/lang/ArithmeticException") (by decide +kernel)
  have hn40 := hKT.1
  refine lv_aload hx hb dL_apply_0 (lv_at hl 6 rfl) ?_
  refine lv_iconst (v := 0) hx hb dL_apply_2 (by decide) ?_
  refine lv_aload_n hx hb dL_apply_3 rfl (lv_at hl 0 rfl) ?_
  refine lv_iload_n hx hb dL_apply_4 rfl (lv_at hl 1 rfl) ?_
  refine lv_iload_n hx hb dL_apply_5 rfl (lv_at hl 2 rfl) ?_
  refine lv_lload_n hx hb dL_apply_6 rfl (lv_at hl 3 rfl) ?_
  refine lv_iload hx hb dL_apply_7 (lv_at hl 4 rfl) ?_
  refine lv_lload hx hb dL_apply_9 (lv_at hl 5 rfl) ?_
  refine fk_xl hD hS hA (vx_runV (As := [.int op, .int num, .long x, .int num2, .long y]) (rest := [.int 0, .ref oA]) ⟨hx, hb, hml, hown, hts⟩ (kX3_apply _ ad tl kd lo ch ts f1 f2 f3 f4 f5 n kf ka kp op num num2 x y hlt hKT) (cwV 5 hts gL_apply_X3_apply rfl rfl rfl (by decide +kernel) ⟨Nat.le_of_ble_eq_true rfl, Nat.le_of_ble_eq_true rfl⟩) (fk_preVT 0 4 hXW hS hA hK hN hP hD rfl rfl) rfl rfl hl.1 rfl (lv_room (Nat.le_of_ble_eq_true rfl)) dL_apply_11 ⟨Nat.le_of_ble_eq_true rfl, Nat.le_of_ble_eq_true rfl⟩) (fun ce q9 u1 H locs hpx hP hD hS hq1 hq2 hq3 => ?_) (fun r1 u1 H locs hw hP hD hS => ?_)
  · have hP : va_P D vwCl (fk_wx cJ cC cK ad kd (nI n) u1.1 ch ts u1.2.1 u1.2.2.1 u1.2.2.2.1 u1.2.2.2.2.1 u1.2.2.2.2.2 ++ tl) H := hP
    have hD : va_D A (fk_wx cJ cC cK ad kd (nI n) u1.1 ch ts u1.2.1 u1.2.2.1 u1.2.2.2.1 u1.2.2.2.2.1 u1.2.2.2.2.2 ++ tl) := hD
    refine fk_catch (own := RL) (name := "java/lang/ArithmeticException") hown ⟨0, 15, 18, 13⟩ htab rfl (by decide) k1 (hXW.1.use args _ (by decide +kernel)) hq1 hq2 hq3 ?_
    refine lv_astore (lv' := [(9, .ref q9), (0, .ref (ad 0)), (1, .int op), (2, .int num), (3, .long x), (5, .int num2), (6, .long y), (8, .ref oA)]) hx hb dL_apply_18 hl (by decide) rfl (fun ls hl => ?_)
    refine lv_iconst (v := 1) hx hb dL_apply_20 (by decide) ?_
    have hs0 := fk_s0 hqo
    have hP : va_P D vwCl (fk_wx cJ cC cK ad kd (nI n) u1.1 ch ts u1.2.1 u1.2.2.1 u1.2.2.2.1 u1.2.2.2.2.1 u1.2.2.2.2.2 ++ tl.set jo (oA, .inl (cJ, 1, .inr (.inl fo)))) H := by rw [hs0]; exact hP
    have hD : va_D A (fk_wx cJ cC cK ad kd (nI n) u1.1 ch ts u1.2.1 u1.2.2.1 u1.2.2.2.1 u1.2.2.2.2.1 u1.2.2.2.2.2 ++ tl.set jo (oA, .inl (cJ, 1, .inr (.inl fo)))) := by rw [hs0]; exact hD
    rw [hQQ]
    refine vx_ret ?_
    exact W.iret (v := 1) hx hb hr (fun t ht hW => ⟨⟨1, (u1, fo), rfl, Or.inl ⟨hpx.1, rfl, hpx.2, rfl⟩, by rw [ht]; exact hP, va_K.moved hW.alike hK, hD⟩, hS.F ht⟩) hS.2.2 dL_apply_21
  · have hP : va_P D vwCl (fk_wx cJ cC cK ad kd (nI n) u1.1 ch ts u1.2.1 u1.2.2.1 u1.2.2.2.1 u1.2.2.2.2.1 u1.2.2.2.2.2 ++ tl) H := hP
    have hD : va_D A (fk_wx cJ cC cK ad kd (nI n) u1.1 ch ts u1.2.1 u1.2.2.1 u1.2.2.2.1 u1.2.2.2.2.1 u1.2.2.2.2.2 ++ tl) := hD
    refine fk_last hx hb hK hP hD hS (jo + 15) 0 (fk_tl hqo) rfl (i := 0) (by decide) (by decide) dL_apply_14 (fun H locs hP hD hS => ?_)
    have hP : va_P D vwCl (fk_wx cJ cC cK ad kd (nI n) u1.1 ch ts u1.2.1 u1.2.2.1 u1.2.2.2.1 u1.2.2.2.2.1 u1.2.2.2.2.2 ++ (tl.set jo (oA, .inl (cJ, 1, .inr (.inl (vp_updL fo 0 r1)))))) H := hP
    have hD : va_D A (fk_wx cJ cC cK ad kd (nI n) u1.1 ch ts u1.2.1 u1.2.2.1 u1.2.2.2.1 u1.2.2.2.2.1 u1.2.2.2.2.2 ++ (tl.set jo (oA, .inl (cJ, 1, .inr (.inl (vp_updL fo 0 r1)))))) := hD
    refine lv_goto (tgt := 22) hx hb dL_apply_15 (by decide) ?_
    refine lv_iconst (v := 0) hx hb dL_apply_22 (by decide) ?_
    rw [hQQ]
    refine vx_ret ?_
    exact W.iret (v := 0) hx hb hr (fun t ht hW => ⟨⟨0, (u1, vp_updL fo 0 r1), rfl, Or.inr ⟨hw.1, rfl, hw.2.2, r1, hw.2.1, rfl⟩, by rw [ht]; exact hP, va_K.moved hW.alike hK, hD⟩, hS.F ht⟩) hS.2.2 dL_apply_23
abbrev rmL_at : Room := { frames := 8, cells := 1, slots := 6, locals := 116 }
set_option maxHeartbeats 4000000 in
set_option maxRecDepth 100000 in
/-- the law's own at -/
theorem kL_at {l : Launch} {D : va_G} {cJ cC cI cZ cK : ClassId} (sz : Nat) (ad : Nat → Nat) (tl : va_W) (kd : Nat → Option Nat) (lo : Int32) (ch : Nat → Int32) (tt : Nat) (f1 f2 f3 f4 f5 : Nat → Int64) (n : Nat) (oA jo : Nat) (fo : Nat → Int64) (i0 : Int32) (hlt : l.stackTraces = false) (htt : tt ≤ 40) (hqo : tl[jo]? = some (oA, .inl (cJ, 1, .inr (.inl fo)))) : vx_Met l yL_at wsL_atT rmL_at (va_Pc [.ref (ad 0), .int i0, .ref oA] (fk_preT D (fk_ty cJ cC cI cZ cK) (fk_wx cJ cC cK ad kd (nI n) lo ch (nI tt) f1 f2 f3 f4 f5 ++ tl) sz)) (va_Qi (fun (r : Int32) (u : Nat → Int64) => ((i0.toInt < 0 ∨ (40 : Int) ≤ i0.toInt + tt) ∧ r = 1 ∧ u = fo) ∨ ∃ b : Nat, b + tt < 40 ∧ i0 = nI b ∧ r = 0 ∧ u = vp_updL fo 0 (ch (tt + b)).toInt64) (fk_Bd D (fk_ty cJ cC cI cZ cK) (va_A (fk_wx cJ cC cK ad kd (nI n) lo ch (nI tt) f1 f2 f3 f4 f5 ++ tl) sz) (fun u : Nat → Int64 => fk_wx cJ cC cK ad kd (nI n) lo ch (nI tt) f1 f2 f3 f4 f5 ++ tl.set jo (oA, .inl (cJ, 1, .inr (.inl u))))) (va_A (fk_wx cJ cC cK ad kd (nI n) lo ch (nI tt) f1 f2 f3 f4 f5 ++ tl) sz)) (vx_X (fun _ : Unit => False) (fun (E : String) (u : Unit) (t : State) => E = "" ∧ fk_Bd D (fk_ty cJ cC cI cZ cK) (va_A (fk_wx cJ cC cK ad kd (nI n) lo ch (nI tt) f1 f2 f3 f4 f5 ++ tl) sz) (fun _ : Unit => fk_wx cJ cC cK ad kd (nI n) lo ch (nI tt) f1 f2 f3 f4 f5 ++ tl) u t) (va_A (fk_wx cJ cC cK ad kd (nI n) lo ch (nI tt) f1 f2 f3 f4 f5 ++ tl) sz)) 1 6 (va_A (fk_wx cJ cC cK ad kd (nI n) lo ch (nI tt) f1 f2 f3 f4 f5 ++ tl) sz) := by
  refine fk_ofXH (y := yL_at) (ws := wsL_atT) (rm := rmL_at) (av := [.ref (ad 0), .int i0, .ref oA]) (D := D) (tys := (fk_ty cJ cC cI cZ cK)) cL_at 4 (some .int) [(0, 9, 12, 19)] (fun A => va_Qi (fun (r : Int32) (u : Nat → Int64) => ((i0.toInt < 0 ∨ (40 : Int) ≤ i0.toInt + tt) ∧ r = 1 ∧ u = fo) ∨ ∃ b : Nat, b + tt < 40 ∧ i0 = nI b ∧ r = 0 ∧ u = vp_updL fo 0 (ch (tt + b)).toInt64) (fk_Bd D (fk_ty cJ cC cI cZ cK) A (fun u : Nat → Int64 => fk_wx cJ cC cK ad kd (nI n) lo ch (nI tt) f1 f2 f3 f4 f5 ++ tl.set jo (oA, .inl (cJ, 1, .inr (.inl u))))) A) (fun A => vx_X (fun _ : Unit => False) (fun (E : String) (u : Unit) (t : State) => E = "" ∧ fk_Bd D (fk_ty cJ cC cI cZ cK) A (fun _ : Unit => fk_wx cJ cC cK ad kd (nI n) lo ch (nI tt) f1 f2 f3 f4 f5 ++ tl) u t) A) rfl (by decide) (Nat.le_of_ble_eq_true rfl) ?_
  intro p e s m below meth c A ls args QQ hQQ hAt hP hK hN hD hA hS hl htab hXW
  obtain ⟨⟨hx, hb, hml, hown, hts⟩, hr, hlocks, hin⟩ := hAt
  have hl : lv_has ls 4 [(0, .ref (ad 0)), (1, .int i0), (2, .ref oA)] := hl
  have k1 := hts (.classLink RL 19 RJx00060) (by decide +kernel)
  refine lv_aload_n hx hb dL_at_0 rfl (lv_at hl 2 rfl) ?_
  refine lv_iconst (v := 0) hx hb dL_at_1 (by decide) ?_
  refine lv_aload_n hx hb dL_at_2 rfl (lv_at hl 0 rfl) ?_
  refine lv_iload_n hx hb dL_at_3 rfl (lv_at hl 1 rfl) ?_
  refine fk_xi hD hS hA (vx_runV (As := [.int i0]) (rest := [.int 0, .ref oA]) ⟨hx, hb, hml, hown, hts⟩ (kX3_at _ ad tl kd lo ch tt f1 f2 f3 f4 f5 n i0 hlt htt) (cwV 1 hts gL_at_X3_atT rfl rfl rfl (by decide +kernel) ⟨Nat.le_of_ble_eq_true rfl, Nat.le_of_ble_eq_true rfl⟩) (fk_preVT 0 4 hXW hS hA hK hN hP hD rfl rfl) rfl rfl hl.1 rfl (lv_room (Nat.le_of_ble_eq_true rfl)) dL_at_4 ⟨Nat.le_of_ble_eq_true rfl, Nat.le_of_ble_eq_true rfl⟩) (fun ce q9 u1 H locs hpx hP hD hS hq1 hq2 hq3 => ?_) (fun r1 u1 H locs hw hP hD hS => ?_)
  · have hP : va_P D vwCl (fk_wx cJ cC cK ad kd (nI n) lo ch (nI tt) f1 f2 f3 f4 f5 ++ tl) H := hP
    have hD : va_D A (fk_wx cJ cC cK ad kd (nI n) lo ch (nI tt) f1 f2 f3 f4 f5 ++ tl) := hD
    refine fk_catch (own := RL) (name := RJx00060) hown ⟨0, 9, 12, 19⟩ htab rfl (by decide) k1 (hXW.1.use args _ (by decide +kernel)) hq1 hq2 hq3 ?_
    refine lv_astore_n (lv' := [(3, .ref q9), (0, .ref (ad 0)), (1, .int i0), (2, .ref oA)]) hx hb dL_at_12 rfl hl (by decide) rfl (fun ls hl => ?_)
    refine lv_iconst (v := 1) hx hb dL_at_13 (by decide) ?_
    have hs0 := fk_s0 hqo
    have hP : va_P D vwCl (fk_wx cJ cC cK ad kd (nI n) lo ch (nI tt) f1 f2 f3 f4 f5 ++ tl.set jo (oA, .inl (cJ, 1, .inr (.inl fo)))) H := by rw [hs0]; exact hP
    have hD : va_D A (fk_wx cJ cC cK ad kd (nI n) lo ch (nI tt) f1 f2 f3 f4 f5 ++ tl.set jo (oA, .inl (cJ, 1, .inr (.inl fo)))) := by rw [hs0]; exact hD
    rw [hQQ]
    refine vx_ret ?_
    exact W.iret (v := 1) hx hb hr (fun t ht hW => ⟨⟨1, fo, rfl, Or.inl ⟨hpx, rfl, rfl⟩, by rw [ht]; exact hP, va_K.moved hW.alike hK, hD⟩, hS.F ht⟩) hS.2.2 dL_at_14
  · have hP : va_P D vwCl (fk_wx cJ cC cK ad kd (nI n) lo ch (nI tt) f1 f2 f3 f4 f5 ++ tl) H := hP
    have hD : va_D A (fk_wx cJ cC cK ad kd (nI n) lo ch (nI tt) f1 f2 f3 f4 f5 ++ tl) := hD
    refine lv_i2l hx hb dL_at_7 rfl ?_
    refine fk_last hx hb hK hP hD hS (jo + 15) 0 (fk_tl hqo) rfl (i := 0) (by decide) (by decide) dL_at_8 (fun H locs hP hD hS => ?_)
    have hP : va_P D vwCl (fk_wx cJ cC cK ad kd (nI n) lo ch (nI tt) f1 f2 f3 f4 f5 ++ (tl.set jo (oA, .inl (cJ, 1, .inr (.inl (vp_updL fo 0 r1.toInt64)))))) H := hP
    have hD : va_D A (fk_wx cJ cC cK ad kd (nI n) lo ch (nI tt) f1 f2 f3 f4 f5 ++ (tl.set jo (oA, .inl (cJ, 1, .inr (.inl (vp_updL fo 0 r1.toInt64)))))) := hD
    refine lv_goto (tgt := 15) hx hb dL_at_9 (by decide) ?_
    refine lv_iconst (v := 0) hx hb dL_at_15 (by decide) ?_
    obtain ⟨b, hb1, hb2, hb3⟩ := hw
    rw [hQQ]
    refine vx_ret ?_
    exact W.iret (v := 0) hx hb hr (fun t ht hW => ⟨⟨0, vp_updL fo 0 (r1).toInt64, rfl, Or.inr ⟨b, hb1, hb2, rfl, by rw [hb3]⟩, by rw [ht]; exact hP, va_K.moved hW.alike hK, hD⟩, hS.F ht⟩) hS.2.2 dL_at_16
