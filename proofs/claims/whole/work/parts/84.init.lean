/-! Constructors, by program -/
theorem fk_ga {l : va_W} {k : Nat} {x : Nat × va_E} (pre : va_W) (h : l[k]? = some x) : (pre ++ l)[pre.length + k]? = some x := by
  rw [List.getElem?_append_right (by omega), Nat.add_sub_cancel_left]; exact h
theorem fk_gs (pre l : va_W) (k : Nat) (x : Nat × va_E) : (pre ++ l).set (pre.length + k) x = pre ++ l.set k x := by
  rw [List.set_append_right _ _ (by omega), Nat.add_sub_cancel_left]
/-- as fk_pre, and the class of rows of kinds is there -/
abbrev fk_preO (D : va_G) (tys : List (ClassId × FieldType)) (ws : va_W) (sz : Nat) (U : State) : Prop := fk_pre D tys ws sz U ∧ va_AO "FixedKinds$Kind" U
theorem fk_blindO {D : va_G} {tys : List (ClassId × FieldType)} {ws : va_W} {sz : Nat} {av : List Value} : FrameBlind (va_Pc av (fk_preO D tys ws sz)) := fun a U g mk q => by
  obtain ⟨q0, ⟨q1, qP, qK, qN, qD⟩, qO⟩ := q
  exact ⟨q0, ⟨q1, qP, va_K.moved (u := U) (U := U.calling g mk a) (Vm.Alike.refl U.vm) qK, fk_NW.same (u := U) (U := U.calling g mk a) rfl qN, qD⟩, va_AO.moved (u := U) (U := U.calling g mk a) (Vm.Alike.refl U.vm) qO⟩
theorem fk_preSO {s : State} {H : Heap} {D : va_G} {tys : List (ClassId × FieldType)} {ws : va_W} {A : Nat → Prop} {av : List Value} (hO : va_AO "FixedKinds$Kind" s) (hK : va_K D vwCl tys s) (hN : fk_NW s) (hP : va_P D vwCl ws H) (hD : va_D A ws) : PreS s H (va_Pc av (fk_preO D tys ws H.size)) av :=
  ⟨fk_blindO, fun U hU hW => ⟨rfl, ⟨by rw [hU], by rw [hU]; exact hP, va_K.moved hW.alike hK, hN.warm hW, hD.weaken (fun _ _ _ _ => trivial)⟩, va_AO.moved hW.alike hO⟩⟩
theorem fk_ofWO {l : Launch} {y : MethodName} {ws ws' : List Cond} {rm : Room} (cc : ByteArray) (maxL : Nat) (ret : Option FieldType) {D : va_G} {tys : List (ClassId × FieldType)} {w0 : va_W} {av : List Value} (Qc : (Nat → Prop) → Array Value → State → Outcome → State → Prop) {mc ms sz : Nat}
    (hw : ws = Cond.code y cc maxL ret :: ws') (hy : plainName y.cls = true) (hn : (lg_sl av).length ≤ maxL)
    (body : ∀ (p : Program) (e : Env) (s : State) (m : MethodId) (below : List Frame) (meth : Method) (c : Code) (A : Nat → Prop) (ls : Array Slot) (args : Array Value) (QQ : State → Prop), QQ = MQ below (Qc A) args s mc ms A → fk_At p s m meth c y cc maxL ret args ws → va_P D vwCl w0 s.heap → va_K D vwCl tys s → fk_NW s → va_D A w0 → (∀ q : Nat, s.heap.size ≤ q → A q) → va_S A s.heap s.heap [] → lv_has ls maxL (lv_args 0 av) → va_AO "FixedKinds$Kind" s →
      W p l e rm s m args below meth c s.heap [] 0 0 QQ (F0 m 0 ls [])) :
    Met l y ws rm (va_Pc av (fk_preO D tys w0 sz)) (Qc (va_A w0 sz)) mc ms (va_A w0 sz) := by
  subst hw
  refine Met.ofW (cc := cc) (maxL := maxL) (ret := ret) hy rfl ?_
  intro p e s m args below meth c s₁ B hml hv
  obtain ⟨rfl, ⟨hsz, hP, hK, hN, hD0⟩, hO⟩ := hv
  subst hsz
  have hl := lv_entry av hn
  rw [lg_entry_eq]
  exact body p e s m below meth c _ _ _ _ rfl ⟨⟨B.exec, B.bytes, hml, findClass_of_methodNamed B.named, atoms_spec (ws := Cond.code y cc maxL ret :: ws') B.pre⟩, B.returns, B.notSynchronized, (name_of_methodNamed B.named B.method).1⟩ hP hK hN (hD0.self (sz := s.heap.size)) (fun q h => Or.inr h) va_S.rf hl hO
abbrev rmX2_init : Room := { frames := 1, cells := 1, slots := 12, locals := 20 }
set_option maxHeartbeats 4000000 in
set_option maxRecDepth 100000 in
/-- Whole() -/
theorem kX2_init {l : Launch} {D : va_G} {cJ cC cI cZ cK : ClassId} (sz : Nat) (pre : va_W) (h0 : Nat)  : Met l yX2_init wsX2_init rmX2_init (va_Pc [.ref h0] (fk_pre D (fk_ty cJ cC cI cZ cK) (pre ++ [(h0, .inr (3, [.null]))]) sz)) (va_Qv (fun _ : Nat => True) (fk_Bd D (fk_ty cJ cC cI cZ cK) (va_A (pre ++ [(h0, .inr (3, [.null]))]) sz) (fun u : Nat => pre ++ [(h0, .inr (3, [.ref u])), (u, .inl (cJ, 12, .inr (.inl (fun _ => (0 : Int64)))))])) (va_A (pre ++ [(h0, .inr (3, [.null]))]) sz)) 1 12 (va_A (pre ++ [(h0, .inr (3, [.null]))]) sz) := by
  refine fk_ofW (y := yX2_init) (ws := wsX2_init) (rm := rmX2_init) (av := [.ref h0]) (D := D) (tys := fk_ty cJ cC cI cZ cK) cX2_init 1 none (fun A => va_Qv (fun _ : Nat => True) (fk_Bd D (fk_ty cJ cC cI cZ cK) A (fun u : Nat => pre ++ [(h0, .inr (3, [.ref u])), (u, .inl (cJ, 12, .inr (.inl (fun _ => (0 : Int64)))))])) A) rfl (by decide) (Nat.le_of_ble_eq_true rfl) ?_
  intro p e s m below meth c A ls args QQ hQQ hAt hP hK hN hD hA hS hl
  obtain ⟨⟨hx, hb, hml, hown, hts⟩, hr, hlocks, hin⟩ := hAt
  have hl : lv_has ls 1 [(0, .ref h0)] := hl
  have k1 := hts (.methodLink RX2 3 objectInit) (by decide +kernel)
  have k2 := hts (.instanceMethod objectInit) (by decide +kernel)
  have k3 := hts (.arrayClass .long) (by decide +kernel)
  have k4 := hts (.fieldLink RX2 9 "FixedKinds$Whole" "limbs" "[J") (by decide +kernel)
  have k5 := (by decide +kernel : ∀ w ∈ u_ws RX2 TX2 1, w ∈ wsX2_init)
  refine lv_aload_n hx hb dX2_init_0 rfl (lv_at hl 0 rfl) ?_
  refine W.objInit hx hb hown k1 k2 (hts _ (List.mem_of_getElem? (l := wsX2_init) (i := 3) rfl)) rfl (by rw [hml]; exact hl.1) rfl dX2_init_1 (Nat.le_of_ble_eq_true rfl) (Nat.le_of_ble_eq_true rfl) ?_
  refine W.eq (g2 := F0 m 4 ls []) rfl ?_
  refine lv_aload_n hx hb dX2_init_4 rfl (lv_at hl 0 rfl) ?_
  refine lv_bipush (v := 12) hx hb dX2_init_5 (by decide) ?_
  refine va_newa (atype := .long) (a0 := (12, .inr (.inl (fun _ => (0 : Int64))))) hx hb k3 rfl hK hP hD hS hA (fun _ => rfl) (by decide) (by decide) (by decide) (Nat.le_of_ble_eq_true rfl) (Nat.le_of_ble_eq_true rfl) dX2_init_7 (fun q1 cN H hKn hP hD hS => ?_)
  rw [fk_cAeq hK hKn (i := 0) (j := 5) rfl rfl, List.append_assoc] at hP hD
  have hP : va_P D vwCl (pre ++ [(h0, .inr (3, [.null])), (q1, .inl (cJ, 12, .inr (.inl (fun _ => (0 : Int64)))))]) H := hP
  have hD : va_D A (pre ++ [(h0, .inr (3, [.null])), (q1, .inl (cJ, 12, .inr (.inl (fun _ => (0 : Int64)))))]) := hD
  refine va_putF (D := D) (ci := 3) (v := .ref q1) (ty := (.array .long)) (C := RX2) (T := TX2) (N := 1) hx hb hts k5 tyX2 tyX2_ok nmX2 hown hK hP hD hS (pre.length + 0) (fk_ga pre rfl) rfl 0 (by decide) k4 (fun _ h9 => h9) rfl hin rfl (by decide +kernel) rfl rfl (Nat.le_of_ble_eq_true rfl) dX2_init_9 (fun H locs hP hD hS => ?_)
  rw [fk_gs] at hP hD
  have hP : va_P D vwCl (pre ++ [(h0, .inr (3, [.ref q1])), (q1, .inl (cJ, 12, .inr (.inl (fun _ => (0 : Int64)))))]) H := hP
  have hD : va_D A (pre ++ [(h0, .inr (3, [.ref q1])), (q1, .inl (cJ, 12, .inr (.inl (fun _ => (0 : Int64)))))]) := hD
  rw [hQQ]
  exact W.vret hx hb hr (fun t ht hW => ⟨⟨q1, rfl, trivial, by rw [ht]; exact hP, va_K.moved hW.alike hK, hD⟩, hS.F ht⟩) hS.2.2 dX2_init_12
abbrev rmX0_init : Room := { frames := 2, cells := 4, slots := 26, locals := 40 }
set_option maxHeartbeats 4000000 in
set_option maxRecDepth 100000 in
/-- Fraction() -/
theorem kX0_init {l : Launch} {D : va_G} {cJ cC cI cZ cK : ClassId} (sz : Nat) (pre : va_W) (h0 : Nat)  : Met l yX0_init wsX0_init rmX0_init (va_Pc [.ref h0] (fk_pre D (fk_ty cJ cC cI cZ cK) (pre ++ [(h0, .inr (1, [.null, .null]))]) sz)) (va_Qv (fun _ : Nat × Nat × Nat × Nat => True) (fk_Bd D (fk_ty cJ cC cI cZ cK) (va_A (pre ++ [(h0, .inr (1, [.null, .null]))]) sz) (fun u : Nat × Nat × Nat × Nat => pre ++ [(h0, .inr (1, [.ref u.1, .ref u.2.2.1])), (u.1, .inr (3, [.ref u.2.1])), (u.2.1, .inl (cJ, 12, .inr (.inl (fun _ => (0 : Int64))))), (u.2.2.1, .inr (3, [.ref u.2.2.2])), (u.2.2.2, .inl (cJ, 12, .inr (.inl (fun _ => (0 : Int64)))))])) (va_A (pre ++ [(h0, .inr (1, [.null, .null]))]) sz)) 4 26 (va_A (pre ++ [(h0, .inr (1, [.null, .null]))]) sz) := by
  refine fk_ofW (y := yX0_init) (ws := wsX0_init) (rm := rmX0_init) (av := [.ref h0]) (D := D) (tys := fk_ty cJ cC cI cZ cK) cX0_init 1 none (fun A => va_Qv (fun _ : Nat × Nat × Nat × Nat => True) (fk_Bd D (fk_ty cJ cC cI cZ cK) A (fun u : Nat × Nat × Nat × Nat => pre ++ [(h0, .inr (1, [.ref u.1, .ref u.2.2.1])), (u.1, .inr (3, [.ref u.2.1])), (u.2.1, .inl (cJ, 12, .inr (.inl (fun _ => (0 : Int64))))), (u.2.2.1, .inr (3, [.ref u.2.2.2])), (u.2.2.2, .inl (cJ, 12, .inr (.inl (fun _ => (0 : Int64)))))])) A) rfl (by decide) (Nat.le_of_ble_eq_true rfl) ?_
  intro p e s m below meth c A ls args QQ hQQ hAt hP hK hN hD hA hS hl
  obtain ⟨⟨hx, hb, hml, hown, hts⟩, hr, hlocks, hin⟩ := hAt
  have hl : lv_has ls 1 [(0, .ref h0)] := hl
  have k1 := hts (.methodLink RX0 3 objectInit) (by decide +kernel)
  have k2 := hts (.instanceMethod objectInit) (by decide +kernel)
  have k3 := (by decide +kernel : ∀ w ∈ u_ws RX2 TX2 1, w ∈ wsX0_init)
  have k4 := hts (.classLink RX0 9 RX2) (by decide +kernel)
  have k5 := hts (.instantiable RX2 1) (by decide +kernel)
  have k6 := hts (.initialized RX2) (by decide +kernel)
  have k7 := hN _ fkn_X0_11
  have k8 := hts (.instanceMethod yX2_init) (by decide +kernel)
  have k9 := hts (.fieldLink RX0 12 "FixedKinds$Fraction" "above" "LFixedKinds$Whole;") (by decide +kernel)
  have k10 := (by decide +kernel : ∀ w ∈ u_ws RX0 TX0 2, w ∈ wsX0_init)
  have k11 := hts (.fieldLink RX0 18 "FixedKinds$Fraction" "below" "LFixedKinds$Whole;") (by decide +kernel)
  refine lv_aload_n hx hb dX0_init_0 rfl (lv_at hl 0 rfl) ?_
  refine W.objInit hx hb hown k1 k2 (hts _ (List.mem_of_getElem? (l := wsX0_init) (i := 3) rfl)) rfl (by rw [hml]; exact hl.1) rfl dX0_init_1 (Nat.le_of_ble_eq_true rfl) (Nat.le_of_ble_eq_true rfl) ?_
  refine W.eq (g2 := F0 m 4 ls []) rfl ?_
  refine lv_aload_n hx hb dX0_init_4 rfl (lv_at hl 0 rfl) ?_
  refine va_new (ci := 3) (fs := [.null]) (C := RX2) (T := TX2) (N := 1) hx hb hts k3 tyX2 tyX2_ok hown k4 k5 k6 hK hP hD hS hA rfl (fun j hj => by rcases (show j = 0 by omega) with rfl <;> rfl) (Nat.le_of_ble_eq_true rfl) (Nat.le_of_ble_eq_true rfl) dX0_init_5 (fun q1 H hP hD hS => ?_)
  refine lv_dup hx hb dX0_init_8 rfl ?_
  refine fk_cv hD hS hA (va_runIN (As := []) (rest := [.ref q1, .ref h0]) ⟨hx, hb, hml, hown, hts⟩ (kX2_init _ (pre ++ [(h0, .inr (1, [.null, .null]))]) q1) ⟨va_cnB 0 hts gX0_init_X2_init_n11 rfl rfl rfl k7 k6 (by decide +kernel) ⟨Nat.le_of_ble_eq_true rfl, Nat.le_of_ble_eq_true rfl⟩, rfl, k8⟩ (fk_preS hK hN hP hD) rfl rfl hl.1 rfl (lv_room (Nat.le_of_ble_eq_true rfl)) dX0_init_9 ⟨Nat.le_of_ble_eq_true rfl, Nat.le_of_ble_eq_true rfl⟩) (fun u2 H locs hw hP hD hS => ?_)
  rw [List.append_assoc] at hP hD
  have hP : va_P D vwCl (pre ++ [(h0, .inr (1, [.null, .null])), (q1, .inr (3, [.ref u2])), (u2, .inl (cJ, 12, .inr (.inl (fun _ => (0 : Int64)))))]) H := hP
  have hD : va_D A (pre ++ [(h0, .inr (1, [.null, .null])), (q1, .inr (3, [.ref u2])), (u2, .inl (cJ, 12, .inr (.inl (fun _ => (0 : Int64)))))]) := hD
  refine va_putF (D := D) (ci := 1) (v := .ref q1) (ty := (.object "FixedKinds$Whole")) (C := RX0) (T := TX0) (N := 2) hx hb hts k10 tyX0 tyX0_ok nmX0 hown hK hP hD hS (pre.length + 0) (fk_ga pre rfl) rfl 0 (by decide) k9 (fun _ h9 => h9) rfl hin rfl (by decide +kernel) rfl rfl (Nat.le_of_ble_eq_true rfl) dX0_init_12 (fun H locs hP hD hS => ?_)
  rw [fk_gs] at hP hD
  have hP : va_P D vwCl (pre ++ [(h0, .inr (1, [.ref q1, .null])), (q1, .inr (3, [.ref u2])), (u2, .inl (cJ, 12, .inr (.inl (fun _ => (0 : Int64)))))]) H := hP
  have hD : va_D A (pre ++ [(h0, .inr (1, [.ref q1, .null])), (q1, .inr (3, [.ref u2])), (u2, .inl (cJ, 12, .inr (.inl (fun _ => (0 : Int64)))))]) := hD
  refine lv_aload_n hx hb dX0_init_15 rfl (lv_at hl 0 rfl) ?_
  refine va_new (ci := 3) (fs := [.null]) (C := RX2) (T := TX2) (N := 1) hx hb hts k3 tyX2 tyX2_ok hown k4 k5 k6 hK hP hD hS hA rfl (fun j hj => by rcases (show j = 0 by omega) with rfl <;> rfl) (Nat.le_of_ble_eq_true rfl) (Nat.le_of_ble_eq_true rfl) dX0_init_16 (fun q4 H hP hD hS => ?_)
  refine lv_dup hx hb dX0_init_19 rfl ?_
  refine fk_cv hD hS hA (va_runIN (As := []) (rest := [.ref q4, .ref h0]) ⟨hx, hb, hml, hown, hts⟩ (kX2_init _ (pre ++ [(h0, .inr (1, [.ref q1, .null])), (q1, .inr (3, [.ref u2])), (u2, .inl (cJ, 12, .inr (.inl (fun _ => (0 : Int64)))))]) q4) ⟨va_cnB 0 hts gX0_init_X2_init_n11 rfl rfl rfl k7 k6 (by decide +kernel) ⟨Nat.le_of_ble_eq_true rfl, Nat.le_of_ble_eq_true rfl⟩, rfl, k8⟩ (fk_preS hK hN hP hD) rfl rfl hl.1 rfl (lv_room (Nat.le_of_ble_eq_true rfl)) dX0_init_20 ⟨Nat.le_of_ble_eq_true rfl, Nat.le_of_ble_eq_true rfl⟩) (fun u5 H locs hw hP hD hS => ?_)
  rw [List.append_assoc] at hP hD
  have hP : va_P D vwCl (pre ++ [(h0, .inr (1, [.ref q1, .null])), (q1, .inr (3, [.ref u2])), (u2, .inl (cJ, 12, .inr (.inl (fun _ => (0 : Int64))))), (q4, .inr (3, [.ref u5])), (u5, .inl (cJ, 12, .inr (.inl (fun _ => (0 : Int64)))))]) H := hP
  have hD : va_D A (pre ++ [(h0, .inr (1, [.ref q1, .null])), (q1, .inr (3, [.ref u2])), (u2, .inl (cJ, 12, .inr (.inl (fun _ => (0 : Int64))))), (q4, .inr (3, [.ref u5])), (u5, .inl (cJ, 12, .inr (.inl (fun _ => (0 : Int64)))))]) := hD
  refine va_putF (D := D) (ci := 1) (v := .ref q4) (ty := (.object "FixedKinds$Whole")) (C := RX0) (T := TX0) (N := 2) hx hb hts k10 tyX0 tyX0_ok nmX0 hown hK hP hD hS (pre.length + 0) (fk_ga pre rfl) rfl 1 (by decide) k11 (fun _ h9 => h9) rfl hin rfl (by decide +kernel) rfl rfl (Nat.le_of_ble_eq_true rfl) dX0_init_23 (fun H locs hP hD hS => ?_)
  rw [fk_gs] at hP hD
  have hP : va_P D vwCl (pre ++ [(h0, .inr (1, [.ref q1, .ref q4])), (q1, .inr (3, [.ref u2])), (u2, .inl (cJ, 12, .inr (.inl (fun _ => (0 : Int64))))), (q4, .inr (3, [.ref u5])), (u5, .inl (cJ, 12, .inr (.inl (fun _ => (0 : Int64)))))]) H := hP
  have hD : va_D A (pre ++ [(h0, .inr (1, [.ref q1, .ref q4])), (q1, .inr (3, [.ref u2])), (u2, .inl (cJ, 12, .inr (.inl (fun _ => (0 : Int64))))), (q4, .inr (3, [.ref u5])), (u5, .inl (cJ, 12, .inr (.inl (fun _ => (0 : Int64)))))]) := hD
  rw [hQQ]
  exact W.vret hx hb hr (fun t ht hW => ⟨⟨(q1, u2, q4, u5), rfl, trivial, by rw [ht]; exact hP, va_K.moved hW.alike hK, hD⟩, hS.F ht⟩) hS.2.2 dX0_init_26
abbrev rmX3_init : Room := { frames := 3, cells := 14, slots := 149, locals := 60 }
set_option maxHeartbeats 4000000 in
set_option maxRecDepth 100000 in
/-- FixedKinds() -/
theorem kX3_init {l : Launch} {D : va_G} {cJ cC cI cZ cK : ClassId} (sz : Nat) (pre : va_W) (h0 : Nat)  : Met l yX3_init wsX3_init rmX3_init (va_Pc [.ref h0] (fk_preO D (fk_ty cJ cC cI cZ cK) (pre ++ [(h0, .inr (4, [.null, .int 0, .int 0, .null, .int 0, .null, .null, .null]))]) sz)) (va_Qv (fun ad : Nat → Nat => ad 0 = h0) (fk_Bd D (fk_ty cJ cC cI cZ cK) (va_A (pre ++ [(h0, .inr (4, [.null, .int 0, .int 0, .null, .int 0, .null, .null, .null]))]) sz) (fun ad : Nat → Nat => pre ++ fk_wx cJ cC cK ad (fun _ => none) 0 0 (fun _ => 0) 40 (fun _ => (0 : Int64)) (fun _ => (0 : Int64)) (fun _ => (0 : Int64)) (fun _ => (0 : Int64)) (fun _ => (0 : Int64)))) (va_A (pre ++ [(h0, .inr (4, [.null, .int 0, .int 0, .null, .int 0, .null, .null, .null]))]) sz)) 14 149 (va_A (pre ++ [(h0, .inr (4, [.null, .int 0, .int 0, .null, .int 0, .null, .null, .null]))]) sz) := by
  refine fk_ofWO (y := yX3_init) (ws := wsX3_init) (rm := rmX3_init) (av := [.ref h0]) (D := D) (tys := fk_ty cJ cC cI cZ cK) cX3_init 1 none (fun A => va_Qv (fun ad : Nat → Nat => ad 0 = h0) (fk_Bd D (fk_ty cJ cC cI cZ cK) A (fun ad : Nat → Nat => pre ++ fk_wx cJ cC cK ad (fun _ => none) 0 0 (fun _ => 0) 40 (fun _ => (0 : Int64)) (fun _ => (0 : Int64)) (fun _ => (0 : Int64)) (fun _ => (0 : Int64)) (fun _ => (0 : Int64)))) A) rfl (by decide) (Nat.le_of_ble_eq_true rfl) ?_
  intro p e s m below meth c A ls args QQ hQQ hAt hP hK hN hD hA hS hl hO
  obtain ⟨⟨hx, hb, hml, hown, hts⟩, hr, hlocks, hin⟩ := hAt
  have hl : lv_has ls 1 [(0, .ref h0)] := hl
  have k1 := hts (.methodLink RX3 1 objectInit) (by decide +kernel)
  have k2 := hts (.instanceMethod objectInit) (by decide +kernel)
  have k3 := hts (.classLink RX3 9 RX1) (by decide +kernel)
  have k4 := hts (.fieldLink RX3 11 "FixedKinds" "kinds" "[LFixedKinds$Kind;") (by decide +kernel)
  have k5 := (by decide +kernel : ∀ w ∈ u_ws RX3 TX3 8, w ∈ wsX3_init)
  have k6 := hts (.fieldLink RX3 15 "FixedKinds" "kindCount" "I") (by decide +kernel)
  have k7 := hts (.fieldLink RX3 19 "FixedKinds" "somethingLost" "Z") (by decide +kernel)
  have k8 := hts (.arrayClass .char) (by decide +kernel)
  have k9 := hts (.fieldLink RX3 23 "FixedKinds" "characters" "[C") (by decide +kernel)
  have k10 := hts (.fieldLink RX3 27 "FixedKinds" "textStart" "I") (by decide +kernel)
  have k11 := (by decide +kernel : ∀ w ∈ u_ws RX0 TX0 2, w ∈ wsX3_init)
  have k12 := hts (.classLink RX3 30 RX0) (by decide +kernel)
  have k13 := hts (.instantiable RX0 2) (by decide +kernel)
  have k14 := hts (.initialized RX0) (by decide +kernel)
  have k15 := hN _ fkn_X3_32
  have k16 := hts (.instanceMethod yX0_init) (by decide +kernel)
  have k17 := hts (.fieldLink RX3 33 "FixedKinds" "first" "LFixedKinds$Fraction;") (by decide +kernel)
  have k18 := hts (.fieldLink RX3 37 "FixedKinds" "second" "LFixedKinds$Fraction;") (by decide +kernel)
  have k19 := (by decide +kernel : ∀ w ∈ u_ws RX2 TX2 1, w ∈ wsX3_init)
  have k20 := hts (.classLink RX3 40 RX2) (by decide +kernel)
  have k21 := hts (.instantiable RX2 1) (by decide +kernel)
  have k22 := hts (.initialized RX2) (by decide +kernel)
  have k23 := hN _ fkn_X3_42
  have k24 := hts (.instanceMethod yX2_init) (by decide +kernel)
  have k25 := hts (.fieldLink RX3 43 "FixedKinds" "result" "LFixedKinds$Whole;") (by decide +kernel)
  refine lv_aload_n hx hb dX3_init_0 rfl (lv_at hl 0 rfl) ?_
  refine W.objInit hx hb hown k1 k2 (hts _ (List.mem_of_getElem? (l := wsX3_init) (i := 3) rfl)) rfl (by rw [hml]; exact hl.1) rfl dX3_init_1 (Nat.le_of_ble_eq_true rfl) (Nat.le_of_ble_eq_true rfl) ?_
  refine W.eq (g2 := F0 m 4 ls []) rfl ?_
  refine lv_aload_n hx hb dX3_init_4 rfl (lv_at hl 0 rfl) ?_
  refine lv_bipush (v := 40) hx hb dX3_init_5 (by decide) ?_
  refine va_newq (C := "FixedKinds$Kind") hx hb hown k3 hO hK hP hD hS hA (by decide) (N' := 40) (by decide) (by decide) (Nat.le_of_ble_eq_true rfl) (Nat.le_of_ble_eq_true rfl) dX3_init_7 (fun q1 cN H hKn hP hD hS => ?_)
  rw [fk_cAeq hK hKn (i := 4) (j := 5) rfl rfl, List.append_assoc] at hP hD
  have hP : va_P D vwCl (pre ++ [(h0, .inr (4, [.null, .int 0, .int 0, .null, .int 0, .null, .null, .null])), (q1, .inl (cK, 40, .inr (.inr (.inr (.inr (fun _ => (none : Option Nat)))))))]) H := hP
  have hD : va_D A (pre ++ [(h0, .inr (4, [.null, .int 0, .int 0, .null, .int 0, .null, .null, .null])), (q1, .inl (cK, 40, .inr (.inr (.inr (.inr (fun _ => (none : Option Nat)))))))]) := hD
  refine va_putF (D := D) (ci := 4) (v := .ref q1) (ty := (.array (.object "FixedKinds$Kind"))) (C := RX3) (T := TX3) (N := 8) hx hb hts k5 tyX3 tyX3_ok nmX3 hown hK hP hD hS (pre.length + 0) (fk_ga pre rfl) rfl 0 (by decide) k4 (fun _ h9 => h9) rfl hin rfl (by decide +kernel) rfl rfl (Nat.le_of_ble_eq_true rfl) dX3_init_10 (fun H locs hP hD hS => ?_)
  rw [fk_gs] at hP hD
  have hP : va_P D vwCl (pre ++ [(h0, .inr (4, [.ref q1, .int 0, .int 0, .null, .int 0, .null, .null, .null])), (q1, .inl (cK, 40, .inr (.inr (.inr (.inr (fun _ => (none : Option Nat)))))))]) H := hP
  have hD : va_D A (pre ++ [(h0, .inr (4, [.ref q1, .int 0, .int 0, .null, .int 0, .null, .null, .null])), (q1, .inl (cK, 40, .inr (.inr (.inr (.inr (fun _ => (none : Option Nat)))))))]) := hD
  refine lv_aload_n hx hb dX3_init_13 rfl (lv_at hl 0 rfl) ?_
  refine lv_iconst (v := 0) hx hb dX3_init_14 (by decide) ?_
  refine va_put (D := D) (ci := 4) (v := .int 0) (ty := (.int)) (C := RX3) (T := TX3) (N := 8) hx hb hts k5 tyX3 tyX3_ok nmX3 hown hK hP hD hS (pre.length + 0) (fk_ga pre rfl) rfl 1 (by decide) k6 (fun _ h9 => h9) rfl (by decide +kernel) rfl rfl (Nat.le_of_ble_eq_true rfl) dX3_init_15 (fun H locs hP hD hS => ?_)
  rw [fk_gs] at hP hD
  have hP : va_P D vwCl (pre ++ [(h0, .inr (4, [.ref q1, .int 0, .int 0, .null, .int 0, .null, .null, .null])), (q1, .inl (cK, 40, .inr (.inr (.inr (.inr (fun _ => (none : Option Nat)))))))]) H := hP
  have hD : va_D A (pre ++ [(h0, .inr (4, [.ref q1, .int 0, .int 0, .null, .int 0, .null, .null, .null])), (q1, .inl (cK, 40, .inr (.inr (.inr (.inr (fun _ => (none : Option Nat)))))))]) := hD
  refine lv_aload_n hx hb dX3_init_18 rfl (lv_at hl 0 rfl) ?_
  refine lv_iconst (v := 0) hx hb dX3_init_19 (by decide) ?_
  refine va_put (D := D) (ci := 4) (v := .int 0) (ty := (.boolean)) (C := RX3) (T := TX3) (N := 8) hx hb hts k5 tyX3 tyX3_ok nmX3 hown hK hP hD hS (pre.length + 0) (fk_ga pre rfl) rfl 2 (by decide) k7 (fun _ h9 => h9) rfl (by decide +kernel) rfl rfl (Nat.le_of_ble_eq_true rfl) dX3_init_20 (fun H locs hP hD hS => ?_)
  rw [fk_gs] at hP hD
  have hP : va_P D vwCl (pre ++ [(h0, .inr (4, [.ref q1, .int 0, .int 0, .null, .int 0, .null, .null, .null])), (q1, .inl (cK, 40, .inr (.inr (.inr (.inr (fun _ => (none : Option Nat)))))))]) H := hP
  have hD : va_D A (pre ++ [(h0, .inr (4, [.ref q1, .int 0, .int 0, .null, .int 0, .null, .null, .null])), (q1, .inl (cK, 40, .inr (.inr (.inr (.inr (fun _ => (none : Option Nat)))))))]) := hD
  refine lv_aload_n hx hb dX3_init_23 rfl (lv_at hl 0 rfl) ?_
  refine lv_bipush (v := 40) hx hb dX3_init_24 (by decide) ?_
  refine va_newa (atype := .char) (a0 := (40, .inl (fun _ => (0 : Int32)))) hx hb k8 rfl hK hP hD hS hA (fun _ => rfl) (by decide) (by decide) (by decide) (Nat.le_of_ble_eq_true rfl) (Nat.le_of_ble_eq_true rfl) dX3_init_26 (fun q2 cN H hKn hP hD hS => ?_)
  rw [fk_cAeq hK hKn (i := 1) (j := 5) rfl rfl, List.append_assoc] at hP hD
  have hP : va_P D vwCl (pre ++ [(h0, .inr (4, [.ref q1, .int 0, .int 0, .null, .int 0, .null, .null, .null])), (q1, .inl (cK, 40, .inr (.inr (.inr (.inr (fun _ => (none : Option Nat))))))), (q2, .inl (cC, 40, .inl (fun _ => (0 : Int32))))]) H := hP
  have hD : va_D A (pre ++ [(h0, .inr (4, [.ref q1, .int 0, .int 0, .null, .int 0, .null, .null, .null])), (q1, .inl (cK, 40, .inr (.inr (.inr (.inr (fun _ => (none : Option Nat))))))), (q2, .inl (cC, 40, .inl (fun _ => (0 : Int32))))]) := hD
  refine va_putF (D := D) (ci := 4) (v := .ref q2) (ty := (.array .char)) (C := RX3) (T := TX3) (N := 8) hx hb hts k5 tyX3 tyX3_ok nmX3 hown hK hP hD hS (pre.length + 0) (fk_ga pre rfl) rfl 3 (by decide) k9 (fun _ h9 => h9) rfl hin rfl (by decide +kernel) rfl rfl (Nat.le_of_ble_eq_true rfl) dX3_init_28 (fun H locs hP hD hS => ?_)
  rw [fk_gs] at hP hD
  have hP : va_P D vwCl (pre ++ [(h0, .inr (4, [.ref q1, .int 0, .int 0, .ref q2, .int 0, .null, .null, .null])), (q1, .inl (cK, 40, .inr (.inr (.inr (.inr (fun _ => (none : Option Nat))))))), (q2, .inl (cC, 40, .inl (fun _ => (0 : Int32))))]) H := hP
  have hD : va_D A (pre ++ [(h0, .inr (4, [.ref q1, .int 0, .int 0, .ref q2, .int 0, .null, .null, .null])), (q1, .inl (cK, 40, .inr (.inr (.inr (.inr (fun _ => (none : Option Nat))))))), (q2, .inl (cC, 40, .inl (fun _ => (0 : Int32))))]) := hD
  refine lv_aload_n hx hb dX3_init_31 rfl (lv_at hl 0 rfl) ?_
  refine lv_bipush (v := 40) hx hb dX3_init_32 (by decide) ?_
  refine va_put (D := D) (ci := 4) (v := .int 40) (ty := (.int)) (C := RX3) (T := TX3) (N := 8) hx hb hts k5 tyX3 tyX3_ok nmX3 hown hK hP hD hS (pre.length + 0) (fk_ga pre rfl) rfl 4 (by decide) k10 (fun _ h9 => h9) rfl (by decide +kernel) rfl rfl (Nat.le_of_ble_eq_true rfl) dX3_init_34 (fun H locs hP hD hS => ?_)
  rw [fk_gs] at hP hD
  have hP : va_P D vwCl (pre ++ [(h0, .inr (4, [.ref q1, .int 0, .int 0, .ref q2, .int 40, .null, .null, .null])), (q1, .inl (cK, 40, .inr (.inr (.inr (.inr (fun _ => (none : Option Nat))))))), (q2, .inl (cC, 40, .inl (fun _ => (0 : Int32))))]) H := hP
  have hD : va_D A (pre ++ [(h0, .inr (4, [.ref q1, .int 0, .int 0, .ref q2, .int 40, .null, .null, .null])), (q1, .inl (cK, 40, .inr (.inr (.inr (.inr (fun _ => (none : Option Nat))))))), (q2, .inl (cC, 40, .inl (fun _ => (0 : Int32))))]) := hD
  refine lv_aload_n hx hb dX3_init_37 rfl (lv_at hl 0 rfl) ?_
  refine va_new (ci := 1) (fs := [.null, .null]) (C := RX0) (T := TX0) (N := 2) hx hb hts k11 tyX0 tyX0_ok hown k12 k13 k14 hK hP hD hS hA rfl (fun j hj => by rcases (show j = 0 ∨ j = 1 by omega) with rfl | rfl <;> rfl) (Nat.le_of_ble_eq_true rfl) (Nat.le_of_ble_eq_true rfl) dX3_init_38 (fun q3 H hP hD hS => ?_)
  refine lv_dup hx hb dX3_init_41 rfl ?_
  refine fk_cv hD hS hA (va_runIN (As := []) (rest := [.ref q3, .ref h0]) ⟨hx, hb, hml, hown, hts⟩ (kX0_init _ (pre ++ [(h0, .inr (4, [.ref q1, .int 0, .int 0, .ref q2, .int 40, .null, .null, .null])), (q1, .inl (cK, 40, .inr (.inr (.inr (.inr (fun _ => (none : Option Nat))))))), (q2, .inl (cC, 40, .inl (fun _ => (0 : Int32))))]) q3) ⟨va_cnB 0 hts gX3_init_X0_init_n32 rfl rfl rfl k15 k14 (by decide +kernel) ⟨Nat.le_of_ble_eq_true rfl, Nat.le_of_ble_eq_true rfl⟩, rfl, k16⟩ (fk_preS hK hN hP hD) rfl rfl hl.1 rfl (lv_room (Nat.le_of_ble_eq_true rfl)) dX3_init_42 ⟨Nat.le_of_ble_eq_true rfl, Nat.le_of_ble_eq_true rfl⟩) (fun u4 H locs hw hP hD hS => ?_)
  rw [List.append_assoc] at hP hD
  have hP : va_P D vwCl (pre ++ [(h0, .inr (4, [.ref q1, .int 0, .int 0, .ref q2, .int 40, .null, .null, .null])), (q1, .inl (cK, 40, .inr (.inr (.inr (.inr (fun _ => (none : Option Nat))))))), (q2, .inl (cC, 40, .inl (fun _ => (0 : Int32)))), (q3, .inr (1, [.ref (u4.1), .ref (u4.2.2.1)])), ((u4.1), .inr (3, [.ref (u4.2.1)])), ((u4.2.1), .inl (cJ, 12, .inr (.inl (fun _ => (0 : Int64))))), ((u4.2.2.1), .inr (3, [.ref (u4.2.2.2)])), ((u4.2.2.2), .inl (cJ, 12, .inr (.inl (fun _ => (0 : Int64)))))]) H := hP
  have hD : va_D A (pre ++ [(h0, .inr (4, [.ref q1, .int 0, .int 0, .ref q2, .int 40, .null, .null, .null])), (q1, .inl (cK, 40, .inr (.inr (.inr (.inr (fun _ => (none : Option Nat))))))), (q2, .inl (cC, 40, .inl (fun _ => (0 : Int32)))), (q3, .inr (1, [.ref (u4.1), .ref (u4.2.2.1)])), ((u4.1), .inr (3, [.ref (u4.2.1)])), ((u4.2.1), .inl (cJ, 12, .inr (.inl (fun _ => (0 : Int64))))), ((u4.2.2.1), .inr (3, [.ref (u4.2.2.2)])), ((u4.2.2.2), .inl (cJ, 12, .inr (.inl (fun _ => (0 : Int64)))))]) := hD
  refine va_putF (D := D) (ci := 4) (v := .ref q3) (ty := (.object "FixedKinds$Fraction")) (C := RX3) (T := TX3) (N := 8) hx hb hts k5 tyX3 tyX3_ok nmX3 hown hK hP hD hS (pre.length + 0) (fk_ga pre rfl) rfl 5 (by decide) k17 (fun _ h9 => h9) rfl hin rfl (by decide +kernel) rfl rfl (Nat.le_of_ble_eq_true rfl) dX3_init_45 (fun H locs hP hD hS => ?_)
  rw [fk_gs] at hP hD
  have hP : va_P D vwCl (pre ++ [(h0, .inr (4, [.ref q1, .int 0, .int 0, .ref q2, .int 40, .ref q3, .null, .null])), (q1, .inl (cK, 40, .inr (.inr (.inr (.inr (fun _ => (none : Option Nat))))))), (q2, .inl (cC, 40, .inl (fun _ => (0 : Int32)))), (q3, .inr (1, [.ref (u4.1), .ref (u4.2.2.1)])), ((u4.1), .inr (3, [.ref (u4.2.1)])), ((u4.2.1), .inl (cJ, 12, .inr (.inl (fun _ => (0 : Int64))))), ((u4.2.2.1), .inr (3, [.ref (u4.2.2.2)])), ((u4.2.2.2), .inl (cJ, 12, .inr (.inl (fun _ => (0 : Int64)))))]) H := hP
  have hD : va_D A (pre ++ [(h0, .inr (4, [.ref q1, .int 0, .int 0, .ref q2, .int 40, .ref q3, .null, .null])), (q1, .inl (cK, 40, .inr (.inr (.inr (.inr (fun _ => (none : Option Nat))))))), (q2, .inl (cC, 40, .inl (fun _ => (0 : Int32)))), (q3, .inr (1, [.ref (u4.1), .ref (u4.2.2.1)])), ((u4.1), .inr (3, [.ref (u4.2.1)])), ((u4.2.1), .inl (cJ, 12, .inr (.inl (fun _ => (0 : Int64))))), ((u4.2.2.1), .inr (3, [.ref (u4.2.2.2)])), ((u4.2.2.2), .inl (cJ, 12, .inr (.inl (fun _ => (0 : Int64)))))]) := hD
  refine lv_aload_n hx hb dX3_init_48 rfl (lv_at hl 0 rfl) ?_
  refine va_new (ci := 1) (fs := [.null, .null]) (C := RX0) (T := TX0) (N := 2) hx hb hts k11 tyX0 tyX0_ok hown k12 k13 k14 hK hP hD hS hA rfl (fun j hj => by rcases (show j = 0 ∨ j = 1 by omega) with rfl | rfl <;> rfl) (Nat.le_of_ble_eq_true rfl) (Nat.le_of_ble_eq_true rfl) dX3_init_49 (fun q6 H hP hD hS => ?_)
  refine lv_dup hx hb dX3_init_52 rfl ?_
  refine fk_cv hD hS hA (va_runIN (As := []) (rest := [.ref q6, .ref h0]) ⟨hx, hb, hml, hown, hts⟩ (kX0_init _ (pre ++ [(h0, .inr (4, [.ref q1, .int 0, .int 0, .ref q2, .int 40, .ref q3, .null, .null])), (q1, .inl (cK, 40, .inr (.inr (.inr (.inr (fun _ => (none : Option Nat))))))), (q2, .inl (cC, 40, .inl (fun _ => (0 : Int32)))), (q3, .inr (1, [.ref (u4.1), .ref (u4.2.2.1)])), ((u4.1), .inr (3, [.ref (u4.2.1)])), ((u4.2.1), .inl (cJ, 12, .inr (.inl (fun _ => (0 : Int64))))), ((u4.2.2.1), .inr (3, [.ref (u4.2.2.2)])), ((u4.2.2.2), .inl (cJ, 12, .inr (.inl (fun _ => (0 : Int64)))))]) q6) ⟨va_cnB 0 hts gX3_init_X0_init_n32 rfl rfl rfl k15 k14 (by decide +kernel) ⟨Nat.le_of_ble_eq_true rfl, Nat.le_of_ble_eq_true rfl⟩, rfl, k16⟩ (fk_preS hK hN hP hD) rfl rfl hl.1 rfl (lv_room (Nat.le_of_ble_eq_true rfl)) dX3_init_53 ⟨Nat.le_of_ble_eq_true rfl, Nat.le_of_ble_eq_true rfl⟩) (fun u7 H locs hw hP hD hS => ?_)
  rw [List.append_assoc] at hP hD
  have hP : va_P D vwCl (pre ++ [(h0, .inr (4, [.ref q1, .int 0, .int 0, .ref q2, .int 40, .ref q3, .null, .null])), (q1, .inl (cK, 40, .inr (.inr (.inr (.inr (fun _ => (none : Option Nat))))))), (q2, .inl (cC, 40, .inl (fun _ => (0 : Int32)))), (q3, .inr (1, [.ref (u4.1), .ref (u4.2.2.1)])), ((u4.1), .inr (3, [.ref (u4.2.1)])), ((u4.2.1), .inl (cJ, 12, .inr (.inl (fun _ => (0 : Int64))))), ((u4.2.2.1), .inr (3, [.ref (u4.2.2.2)])), ((u4.2.2.2), .inl (cJ, 12, .inr (.inl (fun _ => (0 : Int64))))), (q6, .inr (1, [.ref (u7.1), .ref (u7.2.2.1)])), ((u7.1), .inr (3, [.ref (u7.2.1)])), ((u7.2.1), .inl (cJ, 12, .inr (.inl (fun _ => (0 : Int64))))), ((u7.2.2.1), .inr (3, [.ref (u7.2.2.2)])), ((u7.2.2.2), .inl (cJ, 12, .inr (.inl (fun _ => (0 : Int64)))))]) H := hP
  have hD : va_D A (pre ++ [(h0, .inr (4, [.ref q1, .int 0, .int 0, .ref q2, .int 40, .ref q3, .null, .null])), (q1, .inl (cK, 40, .inr (.inr (.inr (.inr (fun _ => (none : Option Nat))))))), (q2, .inl (cC, 40, .inl (fun _ => (0 : Int32)))), (q3, .inr (1, [.ref (u4.1), .ref (u4.2.2.1)])), ((u4.1), .inr (3, [.ref (u4.2.1)])), ((u4.2.1), .inl (cJ, 12, .inr (.inl (fun _ => (0 : Int64))))), ((u4.2.2.1), .inr (3, [.ref (u4.2.2.2)])), ((u4.2.2.2), .inl (cJ, 12, .inr (.inl (fun _ => (0 : Int64))))), (q6, .inr (1, [.ref (u7.1), .ref (u7.2.2.1)])), ((u7.1), .inr (3, [.ref (u7.2.1)])), ((u7.2.1), .inl (cJ, 12, .inr (.inl (fun _ => (0 : Int64))))), ((u7.2.2.1), .inr (3, [.ref (u7.2.2.2)])), ((u7.2.2.2), .inl (cJ, 12, .inr (.inl (fun _ => (0 : Int64)))))]) := hD
  refine va_putF (D := D) (ci := 4) (v := .ref q6) (ty := (.object "FixedKinds$Fraction")) (C := RX3) (T := TX3) (N := 8) hx hb hts k5 tyX3 tyX3_ok nmX3 hown hK hP hD hS (pre.length + 0) (fk_ga pre rfl) rfl 6 (by decide) k18 (fun _ h9 => h9) rfl hin rfl (by decide +kernel) rfl rfl (Nat.le_of_ble_eq_true rfl) dX3_init_56 (fun H locs hP hD hS => ?_)
  rw [fk_gs] at hP hD
  have hP : va_P D vwCl (pre ++ [(h0, .inr (4, [.ref q1, .int 0, .int 0, .ref q2, .int 40, .ref q3, .ref q6, .null])), (q1, .inl (cK, 40, .inr (.inr (.inr (.inr (fun _ => (none : Option Nat))))))), (q2, .inl (cC, 40, .inl (fun _ => (0 : Int32)))), (q3, .inr (1, [.ref (u4.1), .ref (u4.2.2.1)])), ((u4.1), .inr (3, [.ref (u4.2.1)])), ((u4.2.1), .inl (cJ, 12, .inr (.inl (fun _ => (0 : Int64))))), ((u4.2.2.1), .inr (3, [.ref (u4.2.2.2)])), ((u4.2.2.2), .inl (cJ, 12, .inr (.inl (fun _ => (0 : Int64))))), (q6, .inr (1, [.ref (u7.1), .ref (u7.2.2.1)])), ((u7.1), .inr (3, [.ref (u7.2.1)])), ((u7.2.1), .inl (cJ, 12, .inr (.inl (fun _ => (0 : Int64))))), ((u7.2.2.1), .inr (3, [.ref (u7.2.2.2)])), ((u7.2.2.2), .inl (cJ, 12, .inr (.inl (fun _ => (0 : Int64)))))]) H := hP
  have hD : va_D A (pre ++ [(h0, .inr (4, [.ref q1, .int 0, .int 0, .ref q2, .int 40, .ref q3, .ref q6, .null])), (q1, .inl (cK, 40, .inr (.inr (.inr (.inr (fun _ => (none : Option Nat))))))), (q2, .inl (cC, 40, .inl (fun _ => (0 : Int32)))), (q3, .inr (1, [.ref (u4.1), .ref (u4.2.2.1)])), ((u4.1), .inr (3, [.ref (u4.2.1)])), ((u4.2.1), .inl (cJ, 12, .inr (.inl (fun _ => (0 : Int64))))), ((u4.2.2.1), .inr (3, [.ref (u4.2.2.2)])), ((u4.2.2.2), .inl (cJ, 12, .inr (.inl (fun _ => (0 : Int64))))), (q6, .inr (1, [.ref (u7.1), .ref (u7.2.2.1)])), ((u7.1), .inr (3, [.ref (u7.2.1)])), ((u7.2.1), .inl (cJ, 12, .inr (.inl (fun _ => (0 : Int64))))), ((u7.2.2.1), .inr (3, [.ref (u7.2.2.2)])), ((u7.2.2.2), .inl (cJ, 12, .inr (.inl (fun _ => (0 : Int64)))))]) := hD
  refine lv_aload_n hx hb dX3_init_59 rfl (lv_at hl 0 rfl) ?_
  refine va_new (ci := 3) (fs := [.null]) (C := RX2) (T := TX2) (N := 1) hx hb hts k19 tyX2 tyX2_ok hown k20 k21 k22 hK hP hD hS hA rfl (fun j hj => by rcases (show j = 0 by omega) with rfl <;> rfl) (Nat.le_of_ble_eq_true rfl) (Nat.le_of_ble_eq_true rfl) dX3_init_60 (fun q9 H hP hD hS => ?_)
  refine lv_dup hx hb dX3_init_63 rfl ?_
  refine fk_cv hD hS hA (va_runIN (As := []) (rest := [.ref q9, .ref h0]) ⟨hx, hb, hml, hown, hts⟩ (kX2_init _ (pre ++ [(h0, .inr (4, [.ref q1, .int 0, .int 0, .ref q2, .int 40, .ref q3, .ref q6, .null])), (q1, .inl (cK, 40, .inr (.inr (.inr (.inr (fun _ => (none : Option Nat))))))), (q2, .inl (cC, 40, .inl (fun _ => (0 : Int32)))), (q3, .inr (1, [.ref (u4.1), .ref (u4.2.2.1)])), ((u4.1), .inr (3, [.ref (u4.2.1)])), ((u4.2.1), .inl (cJ, 12, .inr (.inl (fun _ => (0 : Int64))))), ((u4.2.2.1), .inr (3, [.ref (u4.2.2.2)])), ((u4.2.2.2), .inl (cJ, 12, .inr (.inl (fun _ => (0 : Int64))))), (q6, .inr (1, [.ref (u7.1), .ref (u7.2.2.1)])), ((u7.1), .inr (3, [.ref (u7.2.1)])), ((u7.2.1), .inl (cJ, 12, .inr (.inl (fun _ => (0 : Int64))))), ((u7.2.2.1), .inr (3, [.ref (u7.2.2.2)])), ((u7.2.2.2), .inl (cJ, 12, .inr (.inl (fun _ => (0 : Int64)))))]) q9) ⟨va_cnB 0 hts gX3_init_X2_init_n42 rfl rfl rfl k23 k22 (by decide +kernel) ⟨Nat.le_of_ble_eq_true rfl, Nat.le_of_ble_eq_true rfl⟩, rfl, k24⟩ (fk_preS hK hN hP hD) rfl rfl hl.1 rfl (lv_room (Nat.le_of_ble_eq_true rfl)) dX3_init_64 ⟨Nat.le_of_ble_eq_true rfl, Nat.le_of_ble_eq_true rfl⟩) (fun u10 H locs hw hP hD hS => ?_)
  rw [List.append_assoc] at hP hD
  have hP : va_P D vwCl (pre ++ [(h0, .inr (4, [.ref q1, .int 0, .int 0, .ref q2, .int 40, .ref q3, .ref q6, .null])), (q1, .inl (cK, 40, .inr (.inr (.inr (.inr (fun _ => (none : Option Nat))))))), (q2, .inl (cC, 40, .inl (fun _ => (0 : Int32)))), (q3, .inr (1, [.ref (u4.1), .ref (u4.2.2.1)])), ((u4.1), .inr (3, [.ref (u4.2.1)])), ((u4.2.1), .inl (cJ, 12, .inr (.inl (fun _ => (0 : Int64))))), ((u4.2.2.1), .inr (3, [.ref (u4.2.2.2)])), ((u4.2.2.2), .inl (cJ, 12, .inr (.inl (fun _ => (0 : Int64))))), (q6, .inr (1, [.ref (u7.1), .ref (u7.2.2.1)])), ((u7.1), .inr (3, [.ref (u7.2.1)])), ((u7.2.1), .inl (cJ, 12, .inr (.inl (fun _ => (0 : Int64))))), ((u7.2.2.1), .inr (3, [.ref (u7.2.2.2)])), ((u7.2.2.2), .inl (cJ, 12, .inr (.inl (fun _ => (0 : Int64))))), (q9, .inr (3, [.ref u10])), (u10, .inl (cJ, 12, .inr (.inl (fun _ => (0 : Int64)))))]) H := hP
  have hD : va_D A (pre ++ [(h0, .inr (4, [.ref q1, .int 0, .int 0, .ref q2, .int 40, .ref q3, .ref q6, .null])), (q1, .inl (cK, 40, .inr (.inr (.inr (.inr (fun _ => (none : Option Nat))))))), (q2, .inl (cC, 40, .inl (fun _ => (0 : Int32)))), (q3, .inr (1, [.ref (u4.1), .ref (u4.2.2.1)])), ((u4.1), .inr (3, [.ref (u4.2.1)])), ((u4.2.1), .inl (cJ, 12, .inr (.inl (fun _ => (0 : Int64))))), ((u4.2.2.1), .inr (3, [.ref (u4.2.2.2)])), ((u4.2.2.2), .inl (cJ, 12, .inr (.inl (fun _ => (0 : Int64))))), (q6, .inr (1, [.ref (u7.1), .ref (u7.2.2.1)])), ((u7.1), .inr (3, [.ref (u7.2.1)])), ((u7.2.1), .inl (cJ, 12, .inr (.inl (fun _ => (0 : Int64))))), ((u7.2.2.1), .inr (3, [.ref (u7.2.2.2)])), ((u7.2.2.2), .inl (cJ, 12, .inr (.inl (fun _ => (0 : Int64))))), (q9, .inr (3, [.ref u10])), (u10, .inl (cJ, 12, .inr (.inl (fun _ => (0 : Int64)))))]) := hD
  refine va_putF (D := D) (ci := 4) (v := .ref q9) (ty := (.object "FixedKinds$Whole")) (C := RX3) (T := TX3) (N := 8) hx hb hts k5 tyX3 tyX3_ok nmX3 hown hK hP hD hS (pre.length + 0) (fk_ga pre rfl) rfl 7 (by decide) k25 (fun _ h9 => h9) rfl hin rfl (by decide +kernel) rfl rfl (Nat.le_of_ble_eq_true rfl) dX3_init_67 (fun H locs hP hD hS => ?_)
  rw [fk_gs] at hP hD
  have hP : va_P D vwCl (pre ++ [(h0, .inr (4, [.ref q1, .int 0, .int 0, .ref q2, .int 40, .ref q3, .ref q6, .ref q9])), (q1, .inl (cK, 40, .inr (.inr (.inr (.inr (fun _ => (none : Option Nat))))))), (q2, .inl (cC, 40, .inl (fun _ => (0 : Int32)))), (q3, .inr (1, [.ref (u4.1), .ref (u4.2.2.1)])), ((u4.1), .inr (3, [.ref (u4.2.1)])), ((u4.2.1), .inl (cJ, 12, .inr (.inl (fun _ => (0 : Int64))))), ((u4.2.2.1), .inr (3, [.ref (u4.2.2.2)])), ((u4.2.2.2), .inl (cJ, 12, .inr (.inl (fun _ => (0 : Int64))))), (q6, .inr (1, [.ref (u7.1), .ref (u7.2.2.1)])), ((u7.1), .inr (3, [.ref (u7.2.1)])), ((u7.2.1), .inl (cJ, 12, .inr (.inl (fun _ => (0 : Int64))))), ((u7.2.2.1), .inr (3, [.ref (u7.2.2.2)])), ((u7.2.2.2), .inl (cJ, 12, .inr (.inl (fun _ => (0 : Int64))))), (q9, .inr (3, [.ref u10])), (u10, .inl (cJ, 12, .inr (.inl (fun _ => (0 : Int64)))))]) H := hP
  have hD : va_D A (pre ++ [(h0, .inr (4, [.ref q1, .int 0, .int 0, .ref q2, .int 40, .ref q3, .ref q6, .ref q9])), (q1, .inl (cK, 40, .inr (.inr (.inr (.inr (fun _ => (none : Option Nat))))))), (q2, .inl (cC, 40, .inl (fun _ => (0 : Int32)))), (q3, .inr (1, [.ref (u4.1), .ref (u4.2.2.1)])), ((u4.1), .inr (3, [.ref (u4.2.1)])), ((u4.2.1), .inl (cJ, 12, .inr (.inl (fun _ => (0 : Int64))))), ((u4.2.2.1), .inr (3, [.ref (u4.2.2.2)])), ((u4.2.2.2), .inl (cJ, 12, .inr (.inl (fun _ => (0 : Int64))))), (q6, .inr (1, [.ref (u7.1), .ref (u7.2.2.1)])), ((u7.1), .inr (3, [.ref (u7.2.1)])), ((u7.2.1), .inl (cJ, 12, .inr (.inl (fun _ => (0 : Int64))))), ((u7.2.2.1), .inr (3, [.ref (u7.2.2.2)])), ((u7.2.2.2), .inl (cJ, 12, .inr (.inl (fun _ => (0 : Int64))))), (q9, .inr (3, [.ref u10])), (u10, .inl (cJ, 12, .inr (.inl (fun _ => (0 : Int64)))))]) := hD
  obtain ⟨ad, had⟩ : ∃ ad : Nat → Nat, ad = fun k => match k with | 0 => h0 | 1 => q1 | 2 => q2 | 3 => q3 | 4 => (u4.1) | 5 => (u4.2.1) | 6 => (u4.2.2.1) | 7 => (u4.2.2.2) | 8 => q6 | 9 => (u7.1) | 10 => (u7.2.1) | 11 => (u7.2.2.1) | 12 => (u7.2.2.2) | 13 => q9 | 14 => u10 | _ => 0 := ⟨_, rfl⟩
  have hP : va_P D vwCl (pre ++ fk_wx cJ cC cK ad (fun _ => none) 0 0 (fun _ => 0) 40 (fun _ => (0 : Int64)) (fun _ => (0 : Int64)) (fun _ => (0 : Int64)) (fun _ => (0 : Int64)) (fun _ => (0 : Int64))) H := by rw [had]; exact hP
  have hD : va_D A (pre ++ fk_wx cJ cC cK ad (fun _ => none) 0 0 (fun _ => 0) 40 (fun _ => (0 : Int64)) (fun _ => (0 : Int64)) (fun _ => (0 : Int64)) (fun _ => (0 : Int64)) (fun _ => (0 : Int64))) := by rw [had]; exact hD
  rw [hQQ]
  exact W.vret hx hb hr (fun t ht hW => ⟨⟨ad, rfl, (congrFun had 0), by rw [ht]; exact hP, va_K.moved hW.alike hK, hD⟩, hS.F ht⟩) hS.2.2 dX3_init_70
abbrev rmX4_init : Room := { frames := 1, cells := 10, slots := 775, locals := 20 }
set_option maxHeartbeats 4000000 in
set_option maxRecDepth 100000 in
/-- FixedKindsModel() -/
theorem kX4_init {l : Launch} {D : va_G} {cJ cC cI cZ cK : ClassId} (sz : Nat) (pre : va_W) (h0 : Nat)  : Met l yX4_init wsX4_init rmX4_init (va_Pc [.ref h0] (fk_pre D (fk_ty cJ cC cI cZ cK) (pre ++ [(h0, .inr (5, [.int 0, .int 0, .null, .null, .null, .null, .null, .null, .null, .int 0, .int 0, .null, .null, .null]))]) sz)) (va_Qv (fun am : Nat → Nat => am 0 = h0) (fk_Bd D (fk_ty cJ cC cI cZ cK) (va_A (pre ++ [(h0, .inr (5, [.int 0, .int 0, .null, .null, .null, .null, .null, .null, .null, .int 0, .int 0, .null, .null, .null]))]) sz) (fun am : Nat → Nat => pre ++ fk_wm cJ cI cZ am 0 0 0 0 (fun _ => 0) (fun _ => 0) (fun _ => (0 : Int64)) (fun _ => (0 : Int64)) (fun _ => (0 : Int64)) (fun _ => 0) (fun _ => 0) (fun _ => 0) (fun _ => 0) (fun _ => 0))) (va_A (pre ++ [(h0, .inr (5, [.int 0, .int 0, .null, .null, .null, .null, .null, .null, .null, .int 0, .int 0, .null, .null, .null]))]) sz)) 10 775 (va_A (pre ++ [(h0, .inr (5, [.int 0, .int 0, .null, .null, .null, .null, .null, .null, .null, .int 0, .int 0, .null, .null, .null]))]) sz) := by
  refine fk_ofW (y := yX4_init) (ws := wsX4_init) (rm := rmX4_init) (av := [.ref h0]) (D := D) (tys := fk_ty cJ cC cI cZ cK) cX4_init 1 none (fun A => va_Qv (fun am : Nat → Nat => am 0 = h0) (fk_Bd D (fk_ty cJ cC cI cZ cK) A (fun am : Nat → Nat => pre ++ fk_wm cJ cI cZ am 0 0 0 0 (fun _ => 0) (fun _ => 0) (fun _ => (0 : Int64)) (fun _ => (0 : Int64)) (fun _ => (0 : Int64)) (fun _ => 0) (fun _ => 0) (fun _ => 0) (fun _ => 0) (fun _ => 0))) A) rfl (by decide) (Nat.le_of_ble_eq_true rfl) ?_
  intro p e s m below meth c A ls args QQ hQQ hAt hP hK hN hD hA hS hl
  obtain ⟨⟨hx, hb, hml, hown, hts⟩, hr, hlocks, hin⟩ := hAt
  have hl : lv_has ls 1 [(0, .ref h0)] := hl
  have k1 := hts (.methodLink RX4 1 objectInit) (by decide +kernel)
  have k2 := hts (.instanceMethod objectInit) (by decide +kernel)
  have k3 := hts (.arrayClass .int) (by decide +kernel)
  have k4 := hts (.fieldLink RX4 7 "FixedKindsModel" "width" "[I") (by decide +kernel)
  have k5 := (by decide +kernel : ∀ w ∈ u_ws RX4 TX4 14, w ∈ wsX4_init)
  have k6 := hts (.arrayClass .boolean) (by decide +kernel)
  have k7 := hts (.fieldLink RX4 13 "FixedKindsModel" "signed" "[Z") (by decide +kernel)
  have k8 := hts (.arrayClass .long) (by decide +kernel)
  have k9 := hts (.fieldLink RX4 17 "FixedKindsModel" "up" "[J") (by decide +kernel)
  have k10 := hts (.fieldLink RX4 21 "FixedKindsModel" "down" "[J") (by decide +kernel)
  have k11 := hts (.fieldLink RX4 24 "FixedKindsModel" "offset" "[J") (by decide +kernel)
  have k12 := hts (.fieldLink RX4 27 "FixedKindsModel" "beyond" "[I") (by decide +kernel)
  have k13 := hts (.fieldLink RX4 30 "FixedKindsModel" "rounding" "[I") (by decide +kernel)
  have k14 := hts (.fieldLink RX4 33 "FixedKindsModel" "text" "[I") (by decide +kernel)
  have k15 := hts (.fieldLink RX4 36 "FixedKindsModel" "part" "[I") (by decide +kernel)
  have k16 := hts (.fieldLink RX4 39 "FixedKindsModel" "sign" "[I") (by decide +kernel)
  refine lv_aload_n hx hb dX4_init_0 rfl (lv_at hl 0 rfl) ?_
  refine W.objInit hx hb hown k1 k2 (hts _ (List.mem_of_getElem? (l := wsX4_init) (i := 3) rfl)) rfl (by rw [hml]; exact hl.1) rfl dX4_init_1 (Nat.le_of_ble_eq_true rfl) (Nat.le_of_ble_eq_true rfl) ?_
  refine W.eq (g2 := F0 m 4 ls []) rfl ?_
  refine lv_aload_n hx hb dX4_init_4 rfl (lv_at hl 0 rfl) ?_
  refine lv_bipush (v := 41) hx hb dX4_init_5 (by decide) ?_
  refine va_newa (atype := .int) (a0 := (41, .inl (fun _ => (0 : Int32)))) hx hb k3 rfl hK hP hD hS hA (fun _ => rfl) (by decide) (by decide) (by decide) (Nat.le_of_ble_eq_true rfl) (Nat.le_of_ble_eq_true rfl) dX4_init_7 (fun q1 cN H hKn hP hD hS => ?_)
  rw [fk_cAeq hK hKn (i := 2) (j := 5) rfl rfl, List.append_assoc] at hP hD
  have hP : va_P D vwCl (pre ++ [(h0, .inr (5, [.int 0, .int 0, .null, .null, .null, .null, .null, .null, .null, .int 0, .int 0, .null, .null, .null])), (q1, .inl (cI, 41, .inl (fun _ => (0 : Int32))))]) H := hP
  have hD : va_D A (pre ++ [(h0, .inr (5, [.int 0, .int 0, .null, .null, .null, .null, .null, .null, .null, .int 0, .int 0, .null, .null, .null])), (q1, .inl (cI, 41, .inl (fun _ => (0 : Int32))))]) := hD
  refine va_putF (D := D) (ci := 5) (v := .ref q1) (ty := (.array .int)) (C := RX4) (T := TX4) (N := 14) hx hb hts k5 tyX4 tyX4_ok nmX4 hown hK hP hD hS (pre.length + 0) (fk_ga pre rfl) rfl 2 (by decide) k4 (fun _ h9 => h9) rfl hin rfl (by decide +kernel) rfl rfl (Nat.le_of_ble_eq_true rfl) dX4_init_9 (fun H locs hP hD hS => ?_)
  rw [fk_gs] at hP hD
  have hP : va_P D vwCl (pre ++ [(h0, .inr (5, [.int 0, .int 0, .ref q1, .null, .null, .null, .null, .null, .null, .int 0, .int 0, .null, .null, .null])), (q1, .inl (cI, 41, .inl (fun _ => (0 : Int32))))]) H := hP
  have hD : va_D A (pre ++ [(h0, .inr (5, [.int 0, .int 0, .ref q1, .null, .null, .null, .null, .null, .null, .int 0, .int 0, .null, .null, .null])), (q1, .inl (cI, 41, .inl (fun _ => (0 : Int32))))]) := hD
  refine lv_aload_n hx hb dX4_init_12 rfl (lv_at hl 0 rfl) ?_
  refine lv_bipush (v := 41) hx hb dX4_init_13 (by decide) ?_
  refine va_newa (atype := .boolean) (a0 := (41, .inl (fun _ => (0 : Int32)))) hx hb k6 rfl hK hP hD hS hA (fun _ => rfl) (by decide) (by decide) (by decide) (Nat.le_of_ble_eq_true rfl) (Nat.le_of_ble_eq_true rfl) dX4_init_15 (fun q2 cN H hKn hP hD hS => ?_)
  rw [fk_cAeq hK hKn (i := 3) (j := 5) rfl rfl, List.append_assoc] at hP hD
  have hP : va_P D vwCl (pre ++ [(h0, .inr (5, [.int 0, .int 0, .ref q1, .null, .null, .null, .null, .null, .null, .int 0, .int 0, .null, .null, .null])), (q1, .inl (cI, 41, .inl (fun _ => (0 : Int32)))), (q2, .inl (cZ, 41, .inl (fun _ => (0 : Int32))))]) H := hP
  have hD : va_D A (pre ++ [(h0, .inr (5, [.int 0, .int 0, .ref q1, .null, .null, .null, .null, .null, .null, .int 0, .int 0, .null, .null, .null])), (q1, .inl (cI, 41, .inl (fun _ => (0 : Int32)))), (q2, .inl (cZ, 41, .inl (fun _ => (0 : Int32))))]) := hD
  refine va_putF (D := D) (ci := 5) (v := .ref q2) (ty := (.array .boolean)) (C := RX4) (T := TX4) (N := 14) hx hb hts k5 tyX4 tyX4_ok nmX4 hown hK hP hD hS (pre.length + 0) (fk_ga pre rfl) rfl 3 (by decide) k7 (fun _ h9 => h9) rfl hin rfl (by decide +kernel) rfl rfl (Nat.le_of_ble_eq_true rfl) dX4_init_17 (fun H locs hP hD hS => ?_)
  rw [fk_gs] at hP hD
  have hP : va_P D vwCl (pre ++ [(h0, .inr (5, [.int 0, .int 0, .ref q1, .ref q2, .null, .null, .null, .null, .null, .int 0, .int 0, .null, .null, .null])), (q1, .inl (cI, 41, .inl (fun _ => (0 : Int32)))), (q2, .inl (cZ, 41, .inl (fun _ => (0 : Int32))))]) H := hP
  have hD : va_D A (pre ++ [(h0, .inr (5, [.int 0, .int 0, .ref q1, .ref q2, .null, .null, .null, .null, .null, .int 0, .int 0, .null, .null, .null])), (q1, .inl (cI, 41, .inl (fun _ => (0 : Int32)))), (q2, .inl (cZ, 41, .inl (fun _ => (0 : Int32))))]) := hD
  refine lv_aload_n hx hb dX4_init_20 rfl (lv_at hl 0 rfl) ?_
  refine lv_bipush (v := 41) hx hb dX4_init_21 (by decide) ?_
  refine va_newa (atype := .long) (a0 := (41, .inr (.inl (fun _ => (0 : Int64))))) hx hb k8 rfl hK hP hD hS hA (fun _ => rfl) (by decide) (by decide) (by decide) (Nat.le_of_ble_eq_true rfl) (Nat.le_of_ble_eq_true rfl) dX4_init_23 (fun q3 cN H hKn hP hD hS => ?_)
  rw [fk_cAeq hK hKn (i := 0) (j := 5) rfl rfl, List.append_assoc] at hP hD
  have hP : va_P D vwCl (pre ++ [(h0, .inr (5, [.int 0, .int 0, .ref q1, .ref q2, .null, .null, .null, .null, .null, .int 0, .int 0, .null, .null, .null])), (q1, .inl (cI, 41, .inl (fun _ => (0 : Int32)))), (q2, .inl (cZ, 41, .inl (fun _ => (0 : Int32)))), (q3, .inl (cJ, 41, .inr (.inl (fun _ => (0 : Int64)))))]) H := hP
  have hD : va_D A (pre ++ [(h0, .inr (5, [.int 0, .int 0, .ref q1, .ref q2, .null, .null, .null, .null, .null, .int 0, .int 0, .null, .null, .null])), (q1, .inl (cI, 41, .inl (fun _ => (0 : Int32)))), (q2, .inl (cZ, 41, .inl (fun _ => (0 : Int32)))), (q3, .inl (cJ, 41, .inr (.inl (fun _ => (0 : Int64)))))]) := hD
  refine va_putF (D := D) (ci := 5) (v := .ref q3) (ty := (.array .long)) (C := RX4) (T := TX4) (N := 14) hx hb hts k5 tyX4 tyX4_ok nmX4 hown hK hP hD hS (pre.length + 0) (fk_ga pre rfl) rfl 4 (by decide) k9 (fun _ h9 => h9) rfl hin rfl (by decide +kernel) rfl rfl (Nat.le_of_ble_eq_true rfl) dX4_init_25 (fun H locs hP hD hS => ?_)
  rw [fk_gs] at hP hD
  have hP : va_P D vwCl (pre ++ [(h0, .inr (5, [.int 0, .int 0, .ref q1, .ref q2, .ref q3, .null, .null, .null, .null, .int 0, .int 0, .null, .null, .null])), (q1, .inl (cI, 41, .inl (fun _ => (0 : Int32)))), (q2, .inl (cZ, 41, .inl (fun _ => (0 : Int32)))), (q3, .inl (cJ, 41, .inr (.inl (fun _ => (0 : Int64)))))]) H := hP
  have hD : va_D A (pre ++ [(h0, .inr (5, [.int 0, .int 0, .ref q1, .ref q2, .ref q3, .null, .null, .null, .null, .int 0, .int 0, .null, .null, .null])), (q1, .inl (cI, 41, .inl (fun _ => (0 : Int32)))), (q2, .inl (cZ, 41, .inl (fun _ => (0 : Int32)))), (q3, .inl (cJ, 41, .inr (.inl (fun _ => (0 : Int64)))))]) := hD
  refine lv_aload_n hx hb dX4_init_28 rfl (lv_at hl 0 rfl) ?_
  refine lv_bipush (v := 41) hx hb dX4_init_29 (by decide) ?_
  refine va_newa (atype := .long) (a0 := (41, .inr (.inl (fun _ => (0 : Int64))))) hx hb k8 rfl hK hP hD hS hA (fun _ => rfl) (by decide) (by decide) (by decide) (Nat.le_of_ble_eq_true rfl) (Nat.le_of_ble_eq_true rfl) dX4_init_31 (fun q4 cN H hKn hP hD hS => ?_)
  rw [fk_cAeq hK hKn (i := 0) (j := 5) rfl rfl, List.append_assoc] at hP hD
  have hP : va_P D vwCl (pre ++ [(h0, .inr (5, [.int 0, .int 0, .ref q1, .ref q2, .ref q3, .null, .null, .null, .null, .int 0, .int 0, .null, .null, .null])), (q1, .inl (cI, 41, .inl (fun _ => (0 : Int32)))), (q2, .inl (cZ, 41, .inl (fun _ => (0 : Int32)))), (q3, .inl (cJ, 41, .inr (.inl (fun _ => (0 : Int64))))), (q4, .inl (cJ, 41, .inr (.inl (fun _ => (0 : Int64)))))]) H := hP
  have hD : va_D A (pre ++ [(h0, .inr (5, [.int 0, .int 0, .ref q1, .ref q2, .ref q3, .null, .null, .null, .null, .int 0, .int 0, .null, .null, .null])), (q1, .inl (cI, 41, .inl (fun _ => (0 : Int32)))), (q2, .inl (cZ, 41, .inl (fun _ => (0 : Int32)))), (q3, .inl (cJ, 41, .inr (.inl (fun _ => (0 : Int64))))), (q4, .inl (cJ, 41, .inr (.inl (fun _ => (0 : Int64)))))]) := hD
  refine va_putF (D := D) (ci := 5) (v := .ref q4) (ty := (.array .long)) (C := RX4) (T := TX4) (N := 14) hx hb hts k5 tyX4 tyX4_ok nmX4 hown hK hP hD hS (pre.length + 0) (fk_ga pre rfl) rfl 5 (by decide) k10 (fun _ h9 => h9) rfl hin rfl (by decide +kernel) rfl rfl (Nat.le_of_ble_eq_true rfl) dX4_init_33 (fun H locs hP hD hS => ?_)
  rw [fk_gs] at hP hD
  have hP : va_P D vwCl (pre ++ [(h0, .inr (5, [.int 0, .int 0, .ref q1, .ref q2, .ref q3, .ref q4, .null, .null, .null, .int 0, .int 0, .null, .null, .null])), (q1, .inl (cI, 41, .inl (fun _ => (0 : Int32)))), (q2, .inl (cZ, 41, .inl (fun _ => (0 : Int32)))), (q3, .inl (cJ, 41, .inr (.inl (fun _ => (0 : Int64))))), (q4, .inl (cJ, 41, .inr (.inl (fun _ => (0 : Int64)))))]) H := hP
  have hD : va_D A (pre ++ [(h0, .inr (5, [.int 0, .int 0, .ref q1, .ref q2, .ref q3, .ref q4, .null, .null, .null, .int 0, .int 0, .null, .null, .null])), (q1, .inl (cI, 41, .inl (fun _ => (0 : Int32)))), (q2, .inl (cZ, 41, .inl (fun _ => (0 : Int32)))), (q3, .inl (cJ, 41, .inr (.inl (fun _ => (0 : Int64))))), (q4, .inl (cJ, 41, .inr (.inl (fun _ => (0 : Int64)))))]) := hD
  refine lv_aload_n hx hb dX4_init_36 rfl (lv_at hl 0 rfl) ?_
  refine lv_bipush (v := 41) hx hb dX4_init_37 (by decide) ?_
  refine va_newa (atype := .long) (a0 := (41, .inr (.inl (fun _ => (0 : Int64))))) hx hb k8 rfl hK hP hD hS hA (fun _ => rfl) (by decide) (by decide) (by decide) (Nat.le_of_ble_eq_true rfl) (Nat.le_of_ble_eq_true rfl) dX4_init_39 (fun q5 cN H hKn hP hD hS => ?_)
  rw [fk_cAeq hK hKn (i := 0) (j := 5) rfl rfl, List.append_assoc] at hP hD
  have hP : va_P D vwCl (pre ++ [(h0, .inr (5, [.int 0, .int 0, .ref q1, .ref q2, .ref q3, .ref q4, .null, .null, .null, .int 0, .int 0, .null, .null, .null])), (q1, .inl (cI, 41, .inl (fun _ => (0 : Int32)))), (q2, .inl (cZ, 41, .inl (fun _ => (0 : Int32)))), (q3, .inl (cJ, 41, .inr (.inl (fun _ => (0 : Int64))))), (q4, .inl (cJ, 41, .inr (.inl (fun _ => (0 : Int64))))), (q5, .inl (cJ, 41, .inr (.inl (fun _ => (0 : Int64)))))]) H := hP
  have hD : va_D A (pre ++ [(h0, .inr (5, [.int 0, .int 0, .ref q1, .ref q2, .ref q3, .ref q4, .null, .null, .null, .int 0, .int 0, .null, .null, .null])), (q1, .inl (cI, 41, .inl (fun _ => (0 : Int32)))), (q2, .inl (cZ, 41, .inl (fun _ => (0 : Int32)))), (q3, .inl (cJ, 41, .inr (.inl (fun _ => (0 : Int64))))), (q4, .inl (cJ, 41, .inr (.inl (fun _ => (0 : Int64))))), (q5, .inl (cJ, 41, .inr (.inl (fun _ => (0 : Int64)))))]) := hD
  refine va_putF (D := D) (ci := 5) (v := .ref q5) (ty := (.array .long)) (C := RX4) (T := TX4) (N := 14) hx hb hts k5 tyX4 tyX4_ok nmX4 hown hK hP hD hS (pre.length + 0) (fk_ga pre rfl) rfl 6 (by decide) k11 (fun _ h9 => h9) rfl hin rfl (by decide +kernel) rfl rfl (Nat.le_of_ble_eq_true rfl) dX4_init_41 (fun H locs hP hD hS => ?_)
  rw [fk_gs] at hP hD
  have hP : va_P D vwCl (pre ++ [(h0, .inr (5, [.int 0, .int 0, .ref q1, .ref q2, .ref q3, .ref q4, .ref q5, .null, .null, .int 0, .int 0, .null, .null, .null])), (q1, .inl (cI, 41, .inl (fun _ => (0 : Int32)))), (q2, .inl (cZ, 41, .inl (fun _ => (0 : Int32)))), (q3, .inl (cJ, 41, .inr (.inl (fun _ => (0 : Int64))))), (q4, .inl (cJ, 41, .inr (.inl (fun _ => (0 : Int64))))), (q5, .inl (cJ, 41, .inr (.inl (fun _ => (0 : Int64)))))]) H := hP
  have hD : va_D A (pre ++ [(h0, .inr (5, [.int 0, .int 0, .ref q1, .ref q2, .ref q3, .ref q4, .ref q5, .null, .null, .int 0, .int 0, .null, .null, .null])), (q1, .inl (cI, 41, .inl (fun _ => (0 : Int32)))), (q2, .inl (cZ, 41, .inl (fun _ => (0 : Int32)))), (q3, .inl (cJ, 41, .inr (.inl (fun _ => (0 : Int64))))), (q4, .inl (cJ, 41, .inr (.inl (fun _ => (0 : Int64))))), (q5, .inl (cJ, 41, .inr (.inl (fun _ => (0 : Int64)))))]) := hD
  refine lv_aload_n hx hb dX4_init_44 rfl (lv_at hl 0 rfl) ?_
  refine lv_bipush (v := 41) hx hb dX4_init_45 (by decide) ?_
  refine va_newa (atype := .int) (a0 := (41, .inl (fun _ => (0 : Int32)))) hx hb k3 rfl hK hP hD hS hA (fun _ => rfl) (by decide) (by decide) (by decide) (Nat.le_of_ble_eq_true rfl) (Nat.le_of_ble_eq_true rfl) dX4_init_47 (fun q6 cN H hKn hP hD hS => ?_)
  rw [fk_cAeq hK hKn (i := 2) (j := 5) rfl rfl, List.append_assoc] at hP hD
  have hP : va_P D vwCl (pre ++ [(h0, .inr (5, [.int 0, .int 0, .ref q1, .ref q2, .ref q3, .ref q4, .ref q5, .null, .null, .int 0, .int 0, .null, .null, .null])), (q1, .inl (cI, 41, .inl (fun _ => (0 : Int32)))), (q2, .inl (cZ, 41, .inl (fun _ => (0 : Int32)))), (q3, .inl (cJ, 41, .inr (.inl (fun _ => (0 : Int64))))), (q4, .inl (cJ, 41, .inr (.inl (fun _ => (0 : Int64))))), (q5, .inl (cJ, 41, .inr (.inl (fun _ => (0 : Int64))))), (q6, .inl (cI, 41, .inl (fun _ => (0 : Int32))))]) H := hP
  have hD : va_D A (pre ++ [(h0, .inr (5, [.int 0, .int 0, .ref q1, .ref q2, .ref q3, .ref q4, .ref q5, .null, .null, .int 0, .int 0, .null, .null, .null])), (q1, .inl (cI, 41, .inl (fun _ => (0 : Int32)))), (q2, .inl (cZ, 41, .inl (fun _ => (0 : Int32)))), (q3, .inl (cJ, 41, .inr (.inl (fun _ => (0 : Int64))))), (q4, .inl (cJ, 41, .inr (.inl (fun _ => (0 : Int64))))), (q5, .inl (cJ, 41, .inr (.inl (fun _ => (0 : Int64))))), (q6, .inl (cI, 41, .inl (fun _ => (0 : Int32))))]) := hD
  refine va_putF (D := D) (ci := 5) (v := .ref q6) (ty := (.array .int)) (C := RX4) (T := TX4) (N := 14) hx hb hts k5 tyX4 tyX4_ok nmX4 hown hK hP hD hS (pre.length + 0) (fk_ga pre rfl) rfl 7 (by decide) k12 (fun _ h9 => h9) rfl hin rfl (by decide +kernel) rfl rfl (Nat.le_of_ble_eq_true rfl) dX4_init_49 (fun H locs hP hD hS => ?_)
  rw [fk_gs] at hP hD
  have hP : va_P D vwCl (pre ++ [(h0, .inr (5, [.int 0, .int 0, .ref q1, .ref q2, .ref q3, .ref q4, .ref q5, .ref q6, .null, .int 0, .int 0, .null, .null, .null])), (q1, .inl (cI, 41, .inl (fun _ => (0 : Int32)))), (q2, .inl (cZ, 41, .inl (fun _ => (0 : Int32)))), (q3, .inl (cJ, 41, .inr (.inl (fun _ => (0 : Int64))))), (q4, .inl (cJ, 41, .inr (.inl (fun _ => (0 : Int64))))), (q5, .inl (cJ, 41, .inr (.inl (fun _ => (0 : Int64))))), (q6, .inl (cI, 41, .inl (fun _ => (0 : Int32))))]) H := hP
  have hD : va_D A (pre ++ [(h0, .inr (5, [.int 0, .int 0, .ref q1, .ref q2, .ref q3, .ref q4, .ref q5, .ref q6, .null, .int 0, .int 0, .null, .null, .null])), (q1, .inl (cI, 41, .inl (fun _ => (0 : Int32)))), (q2, .inl (cZ, 41, .inl (fun _ => (0 : Int32)))), (q3, .inl (cJ, 41, .inr (.inl (fun _ => (0 : Int64))))), (q4, .inl (cJ, 41, .inr (.inl (fun _ => (0 : Int64))))), (q5, .inl (cJ, 41, .inr (.inl (fun _ => (0 : Int64))))), (q6, .inl (cI, 41, .inl (fun _ => (0 : Int32))))]) := hD
  refine lv_aload_n hx hb dX4_init_52 rfl (lv_at hl 0 rfl) ?_
  refine lv_bipush (v := 41) hx hb dX4_init_53 (by decide) ?_
  refine va_newa (atype := .int) (a0 := (41, .inl (fun _ => (0 : Int32)))) hx hb k3 rfl hK hP hD hS hA (fun _ => rfl) (by decide) (by decide) (by decide) (Nat.le_of_ble_eq_true rfl) (Nat.le_of_ble_eq_true rfl) dX4_init_55 (fun q7 cN H hKn hP hD hS => ?_)
  rw [fk_cAeq hK hKn (i := 2) (j := 5) rfl rfl, List.append_assoc] at hP hD
  have hP : va_P D vwCl (pre ++ [(h0, .inr (5, [.int 0, .int 0, .ref q1, .ref q2, .ref q3, .ref q4, .ref q5, .ref q6, .null, .int 0, .int 0, .null, .null, .null])), (q1, .inl (cI, 41, .inl (fun _ => (0 : Int32)))), (q2, .inl (cZ, 41, .inl (fun _ => (0 : Int32)))), (q3, .inl (cJ, 41, .inr (.inl (fun _ => (0 : Int64))))), (q4, .inl (cJ, 41, .inr (.inl (fun _ => (0 : Int64))))), (q5, .inl (cJ, 41, .inr (.inl (fun _ => (0 : Int64))))), (q6, .inl (cI, 41, .inl (fun _ => (0 : Int32)))), (q7, .inl (cI, 41, .inl (fun _ => (0 : Int32))))]) H := hP
  have hD : va_D A (pre ++ [(h0, .inr (5, [.int 0, .int 0, .ref q1, .ref q2, .ref q3, .ref q4, .ref q5, .ref q6, .null, .int 0, .int 0, .null, .null, .null])), (q1, .inl (cI, 41, .inl (fun _ => (0 : Int32)))), (q2, .inl (cZ, 41, .inl (fun _ => (0 : Int32)))), (q3, .inl (cJ, 41, .inr (.inl (fun _ => (0 : Int64))))), (q4, .inl (cJ, 41, .inr (.inl (fun _ => (0 : Int64))))), (q5, .inl (cJ, 41, .inr (.inl (fun _ => (0 : Int64))))), (q6, .inl (cI, 41, .inl (fun _ => (0 : Int32)))), (q7, .inl (cI, 41, .inl (fun _ => (0 : Int32))))]) := hD
  refine va_putF (D := D) (ci := 5) (v := .ref q7) (ty := (.array .int)) (C := RX4) (T := TX4) (N := 14) hx hb hts k5 tyX4 tyX4_ok nmX4 hown hK hP hD hS (pre.length + 0) (fk_ga pre rfl) rfl 8 (by decide) k13 (fun _ h9 => h9) rfl hin rfl (by decide +kernel) rfl rfl (Nat.le_of_ble_eq_true rfl) dX4_init_57 (fun H locs hP hD hS => ?_)
  rw [fk_gs] at hP hD
  have hP : va_P D vwCl (pre ++ [(h0, .inr (5, [.int 0, .int 0, .ref q1, .ref q2, .ref q3, .ref q4, .ref q5, .ref q6, .ref q7, .int 0, .int 0, .null, .null, .null])), (q1, .inl (cI, 41, .inl (fun _ => (0 : Int32)))), (q2, .inl (cZ, 41, .inl (fun _ => (0 : Int32)))), (q3, .inl (cJ, 41, .inr (.inl (fun _ => (0 : Int64))))), (q4, .inl (cJ, 41, .inr (.inl (fun _ => (0 : Int64))))), (q5, .inl (cJ, 41, .inr (.inl (fun _ => (0 : Int64))))), (q6, .inl (cI, 41, .inl (fun _ => (0 : Int32)))), (q7, .inl (cI, 41, .inl (fun _ => (0 : Int32))))]) H := hP
  have hD : va_D A (pre ++ [(h0, .inr (5, [.int 0, .int 0, .ref q1, .ref q2, .ref q3, .ref q4, .ref q5, .ref q6, .ref q7, .int 0, .int 0, .null, .null, .null])), (q1, .inl (cI, 41, .inl (fun _ => (0 : Int32)))), (q2, .inl (cZ, 41, .inl (fun _ => (0 : Int32)))), (q3, .inl (cJ, 41, .inr (.inl (fun _ => (0 : Int64))))), (q4, .inl (cJ, 41, .inr (.inl (fun _ => (0 : Int64))))), (q5, .inl (cJ, 41, .inr (.inl (fun _ => (0 : Int64))))), (q6, .inl (cI, 41, .inl (fun _ => (0 : Int32)))), (q7, .inl (cI, 41, .inl (fun _ => (0 : Int32))))]) := hD
  refine lv_aload_n hx hb dX4_init_60 rfl (lv_at hl 0 rfl) ?_
  refine lv_bipush (v := 80) hx hb dX4_init_61 (by decide) ?_
  refine va_newa (atype := .int) (a0 := (80, .inl (fun _ => (0 : Int32)))) hx hb k3 rfl hK hP hD hS hA (fun _ => rfl) (by decide) (by decide) (by decide) (Nat.le_of_ble_eq_true rfl) (Nat.le_of_ble_eq_true rfl) dX4_init_63 (fun q8 cN H hKn hP hD hS => ?_)
  rw [fk_cAeq hK hKn (i := 2) (j := 5) rfl rfl, List.append_assoc] at hP hD
  have hP : va_P D vwCl (pre ++ [(h0, .inr (5, [.int 0, .int 0, .ref q1, .ref q2, .ref q3, .ref q4, .ref q5, .ref q6, .ref q7, .int 0, .int 0, .null, .null, .null])), (q1, .inl (cI, 41, .inl (fun _ => (0 : Int32)))), (q2, .inl (cZ, 41, .inl (fun _ => (0 : Int32)))), (q3, .inl (cJ, 41, .inr (.inl (fun _ => (0 : Int64))))), (q4, .inl (cJ, 41, .inr (.inl (fun _ => (0 : Int64))))), (q5, .inl (cJ, 41, .inr (.inl (fun _ => (0 : Int64))))), (q6, .inl (cI, 41, .inl (fun _ => (0 : Int32)))), (q7, .inl (cI, 41, .inl (fun _ => (0 : Int32)))), (q8, .inl (cI, 80, .inl (fun _ => (0 : Int32))))]) H := hP
  have hD : va_D A (pre ++ [(h0, .inr (5, [.int 0, .int 0, .ref q1, .ref q2, .ref q3, .ref q4, .ref q5, .ref q6, .ref q7, .int 0, .int 0, .null, .null, .null])), (q1, .inl (cI, 41, .inl (fun _ => (0 : Int32)))), (q2, .inl (cZ, 41, .inl (fun _ => (0 : Int32)))), (q3, .inl (cJ, 41, .inr (.inl (fun _ => (0 : Int64))))), (q4, .inl (cJ, 41, .inr (.inl (fun _ => (0 : Int64))))), (q5, .inl (cJ, 41, .inr (.inl (fun _ => (0 : Int64))))), (q6, .inl (cI, 41, .inl (fun _ => (0 : Int32)))), (q7, .inl (cI, 41, .inl (fun _ => (0 : Int32)))), (q8, .inl (cI, 80, .inl (fun _ => (0 : Int32))))]) := hD
  refine va_putF (D := D) (ci := 5) (v := .ref q8) (ty := (.array .int)) (C := RX4) (T := TX4) (N := 14) hx hb hts k5 tyX4 tyX4_ok nmX4 hown hK hP hD hS (pre.length + 0) (fk_ga pre rfl) rfl 11 (by decide) k14 (fun _ h9 => h9) rfl hin rfl (by decide +kernel) rfl rfl (Nat.le_of_ble_eq_true rfl) dX4_init_65 (fun H locs hP hD hS => ?_)
  rw [fk_gs] at hP hD
  have hP : va_P D vwCl (pre ++ [(h0, .inr (5, [.int 0, .int 0, .ref q1, .ref q2, .ref q3, .ref q4, .ref q5, .ref q6, .ref q7, .int 0, .int 0, .ref q8, .null, .null])), (q1, .inl (cI, 41, .inl (fun _ => (0 : Int32)))), (q2, .inl (cZ, 41, .inl (fun _ => (0 : Int32)))), (q3, .inl (cJ, 41, .inr (.inl (fun _ => (0 : Int64))))), (q4, .inl (cJ, 41, .inr (.inl (fun _ => (0 : Int64))))), (q5, .inl (cJ, 41, .inr (.inl (fun _ => (0 : Int64))))), (q6, .inl (cI, 41, .inl (fun _ => (0 : Int32)))), (q7, .inl (cI, 41, .inl (fun _ => (0 : Int32)))), (q8, .inl (cI, 80, .inl (fun _ => (0 : Int32))))]) H := hP
  have hD : va_D A (pre ++ [(h0, .inr (5, [.int 0, .int 0, .ref q1, .ref q2, .ref q3, .ref q4, .ref q5, .ref q6, .ref q7, .int 0, .int 0, .ref q8, .null, .null])), (q1, .inl (cI, 41, .inl (fun _ => (0 : Int32)))), (q2, .inl (cZ, 41, .inl (fun _ => (0 : Int32)))), (q3, .inl (cJ, 41, .inr (.inl (fun _ => (0 : Int64))))), (q4, .inl (cJ, 41, .inr (.inl (fun _ => (0 : Int64))))), (q5, .inl (cJ, 41, .inr (.inl (fun _ => (0 : Int64))))), (q6, .inl (cI, 41, .inl (fun _ => (0 : Int32)))), (q7, .inl (cI, 41, .inl (fun _ => (0 : Int32)))), (q8, .inl (cI, 80, .inl (fun _ => (0 : Int32))))]) := hD
  refine lv_aload_n hx hb dX4_init_68 rfl (lv_at hl 0 rfl) ?_
  refine lv_sipush (v := 384) hx hb dX4_init_69 (by decide) ?_
  refine va_newa (atype := .int) (a0 := (384, .inl (fun _ => (0 : Int32)))) hx hb k3 rfl hK hP hD hS hA (fun _ => rfl) (by decide) (by decide) (by decide) (Nat.le_of_ble_eq_true rfl) (Nat.le_of_ble_eq_true rfl) dX4_init_72 (fun q9 cN H hKn hP hD hS => ?_)
  rw [fk_cAeq hK hKn (i := 2) (j := 5) rfl rfl, List.append_assoc] at hP hD
  have hP : va_P D vwCl (pre ++ [(h0, .inr (5, [.int 0, .int 0, .ref q1, .ref q2, .ref q3, .ref q4, .ref q5, .ref q6, .ref q7, .int 0, .int 0, .ref q8, .null, .null])), (q1, .inl (cI, 41, .inl (fun _ => (0 : Int32)))), (q2, .inl (cZ, 41, .inl (fun _ => (0 : Int32)))), (q3, .inl (cJ, 41, .inr (.inl (fun _ => (0 : Int64))))), (q4, .inl (cJ, 41, .inr (.inl (fun _ => (0 : Int64))))), (q5, .inl (cJ, 41, .inr (.inl (fun _ => (0 : Int64))))), (q6, .inl (cI, 41, .inl (fun _ => (0 : Int32)))), (q7, .inl (cI, 41, .inl (fun _ => (0 : Int32)))), (q8, .inl (cI, 80, .inl (fun _ => (0 : Int32)))), (q9, .inl (cI, 384, .inl (fun _ => (0 : Int32))))]) H := hP
  have hD : va_D A (pre ++ [(h0, .inr (5, [.int 0, .int 0, .ref q1, .ref q2, .ref q3, .ref q4, .ref q5, .ref q6, .ref q7, .int 0, .int 0, .ref q8, .null, .null])), (q1, .inl (cI, 41, .inl (fun _ => (0 : Int32)))), (q2, .inl (cZ, 41, .inl (fun _ => (0 : Int32)))), (q3, .inl (cJ, 41, .inr (.inl (fun _ => (0 : Int64))))), (q4, .inl (cJ, 41, .inr (.inl (fun _ => (0 : Int64))))), (q5, .inl (cJ, 41, .inr (.inl (fun _ => (0 : Int64))))), (q6, .inl (cI, 41, .inl (fun _ => (0 : Int32)))), (q7, .inl (cI, 41, .inl (fun _ => (0 : Int32)))), (q8, .inl (cI, 80, .inl (fun _ => (0 : Int32)))), (q9, .inl (cI, 384, .inl (fun _ => (0 : Int32))))]) := hD
  refine va_putF (D := D) (ci := 5) (v := .ref q9) (ty := (.array .int)) (C := RX4) (T := TX4) (N := 14) hx hb hts k5 tyX4 tyX4_ok nmX4 hown hK hP hD hS (pre.length + 0) (fk_ga pre rfl) rfl 12 (by decide) k15 (fun _ h9 => h9) rfl hin rfl (by decide +kernel) rfl rfl (Nat.le_of_ble_eq_true rfl) dX4_init_74 (fun H locs hP hD hS => ?_)
  rw [fk_gs] at hP hD
  have hP : va_P D vwCl (pre ++ [(h0, .inr (5, [.int 0, .int 0, .ref q1, .ref q2, .ref q3, .ref q4, .ref q5, .ref q6, .ref q7, .int 0, .int 0, .ref q8, .ref q9, .null])), (q1, .inl (cI, 41, .inl (fun _ => (0 : Int32)))), (q2, .inl (cZ, 41, .inl (fun _ => (0 : Int32)))), (q3, .inl (cJ, 41, .inr (.inl (fun _ => (0 : Int64))))), (q4, .inl (cJ, 41, .inr (.inl (fun _ => (0 : Int64))))), (q5, .inl (cJ, 41, .inr (.inl (fun _ => (0 : Int64))))), (q6, .inl (cI, 41, .inl (fun _ => (0 : Int32)))), (q7, .inl (cI, 41, .inl (fun _ => (0 : Int32)))), (q8, .inl (cI, 80, .inl (fun _ => (0 : Int32)))), (q9, .inl (cI, 384, .inl (fun _ => (0 : Int32))))]) H := hP
  have hD : va_D A (pre ++ [(h0, .inr (5, [.int 0, .int 0, .ref q1, .ref q2, .ref q3, .ref q4, .ref q5, .ref q6, .ref q7, .int 0, .int 0, .ref q8, .ref q9, .null])), (q1, .inl (cI, 41, .inl (fun _ => (0 : Int32)))), (q2, .inl (cZ, 41, .inl (fun _ => (0 : Int32)))), (q3, .inl (cJ, 41, .inr (.inl (fun _ => (0 : Int64))))), (q4, .inl (cJ, 41, .inr (.inl (fun _ => (0 : Int64))))), (q5, .inl (cJ, 41, .inr (.inl (fun _ => (0 : Int64))))), (q6, .inl (cI, 41, .inl (fun _ => (0 : Int32)))), (q7, .inl (cI, 41, .inl (fun _ => (0 : Int32)))), (q8, .inl (cI, 80, .inl (fun _ => (0 : Int32)))), (q9, .inl (cI, 384, .inl (fun _ => (0 : Int32))))]) := hD
  refine lv_aload_n hx hb dX4_init_77 rfl (lv_at hl 0 rfl) ?_
  refine lv_bipush (v := 24) hx hb dX4_init_78 (by decide) ?_
  refine va_newa (atype := .int) (a0 := (24, .inl (fun _ => (0 : Int32)))) hx hb k3 rfl hK hP hD hS hA (fun _ => rfl) (by decide) (by decide) (by decide) (Nat.le_of_ble_eq_true rfl) (Nat.le_of_ble_eq_true rfl) dX4_init_80 (fun q10 cN H hKn hP hD hS => ?_)
  rw [fk_cAeq hK hKn (i := 2) (j := 5) rfl rfl, List.append_assoc] at hP hD
  have hP : va_P D vwCl (pre ++ [(h0, .inr (5, [.int 0, .int 0, .ref q1, .ref q2, .ref q3, .ref q4, .ref q5, .ref q6, .ref q7, .int 0, .int 0, .ref q8, .ref q9, .null])), (q1, .inl (cI, 41, .inl (fun _ => (0 : Int32)))), (q2, .inl (cZ, 41, .inl (fun _ => (0 : Int32)))), (q3, .inl (cJ, 41, .inr (.inl (fun _ => (0 : Int64))))), (q4, .inl (cJ, 41, .inr (.inl (fun _ => (0 : Int64))))), (q5, .inl (cJ, 41, .inr (.inl (fun _ => (0 : Int64))))), (q6, .inl (cI, 41, .inl (fun _ => (0 : Int32)))), (q7, .inl (cI, 41, .inl (fun _ => (0 : Int32)))), (q8, .inl (cI, 80, .inl (fun _ => (0 : Int32)))), (q9, .inl (cI, 384, .inl (fun _ => (0 : Int32)))), (q10, .inl (cI, 24, .inl (fun _ => (0 : Int32))))]) H := hP
  have hD : va_D A (pre ++ [(h0, .inr (5, [.int 0, .int 0, .ref q1, .ref q2, .ref q3, .ref q4, .ref q5, .ref q6, .ref q7, .int 0, .int 0, .ref q8, .ref q9, .null])), (q1, .inl (cI, 41, .inl (fun _ => (0 : Int32)))), (q2, .inl (cZ, 41, .inl (fun _ => (0 : Int32)))), (q3, .inl (cJ, 41, .inr (.inl (fun _ => (0 : Int64))))), (q4, .inl (cJ, 41, .inr (.inl (fun _ => (0 : Int64))))), (q5, .inl (cJ, 41, .inr (.inl (fun _ => (0 : Int64))))), (q6, .inl (cI, 41, .inl (fun _ => (0 : Int32)))), (q7, .inl (cI, 41, .inl (fun _ => (0 : Int32)))), (q8, .inl (cI, 80, .inl (fun _ => (0 : Int32)))), (q9, .inl (cI, 384, .inl (fun _ => (0 : Int32)))), (q10, .inl (cI, 24, .inl (fun _ => (0 : Int32))))]) := hD
  refine va_putF (D := D) (ci := 5) (v := .ref q10) (ty := (.array .int)) (C := RX4) (T := TX4) (N := 14) hx hb hts k5 tyX4 tyX4_ok nmX4 hown hK hP hD hS (pre.length + 0) (fk_ga pre rfl) rfl 13 (by decide) k16 (fun _ h9 => h9) rfl hin rfl (by decide +kernel) rfl rfl (Nat.le_of_ble_eq_true rfl) dX4_init_82 (fun H locs hP hD hS => ?_)
  rw [fk_gs] at hP hD
  have hP : va_P D vwCl (pre ++ [(h0, .inr (5, [.int 0, .int 0, .ref q1, .ref q2, .ref q3, .ref q4, .ref q5, .ref q6, .ref q7, .int 0, .int 0, .ref q8, .ref q9, .ref q10])), (q1, .inl (cI, 41, .inl (fun _ => (0 : Int32)))), (q2, .inl (cZ, 41, .inl (fun _ => (0 : Int32)))), (q3, .inl (cJ, 41, .inr (.inl (fun _ => (0 : Int64))))), (q4, .inl (cJ, 41, .inr (.inl (fun _ => (0 : Int64))))), (q5, .inl (cJ, 41, .inr (.inl (fun _ => (0 : Int64))))), (q6, .inl (cI, 41, .inl (fun _ => (0 : Int32)))), (q7, .inl (cI, 41, .inl (fun _ => (0 : Int32)))), (q8, .inl (cI, 80, .inl (fun _ => (0 : Int32)))), (q9, .inl (cI, 384, .inl (fun _ => (0 : Int32)))), (q10, .inl (cI, 24, .inl (fun _ => (0 : Int32))))]) H := hP
  have hD : va_D A (pre ++ [(h0, .inr (5, [.int 0, .int 0, .ref q1, .ref q2, .ref q3, .ref q4, .ref q5, .ref q6, .ref q7, .int 0, .int 0, .ref q8, .ref q9, .ref q10])), (q1, .inl (cI, 41, .inl (fun _ => (0 : Int32)))), (q2, .inl (cZ, 41, .inl (fun _ => (0 : Int32)))), (q3, .inl (cJ, 41, .inr (.inl (fun _ => (0 : Int64))))), (q4, .inl (cJ, 41, .inr (.inl (fun _ => (0 : Int64))))), (q5, .inl (cJ, 41, .inr (.inl (fun _ => (0 : Int64))))), (q6, .inl (cI, 41, .inl (fun _ => (0 : Int32)))), (q7, .inl (cI, 41, .inl (fun _ => (0 : Int32)))), (q8, .inl (cI, 80, .inl (fun _ => (0 : Int32)))), (q9, .inl (cI, 384, .inl (fun _ => (0 : Int32)))), (q10, .inl (cI, 24, .inl (fun _ => (0 : Int32))))]) := hD
  obtain ⟨am, ham⟩ : ∃ am : Nat → Nat, am = fun k => match k with | 0 => h0 | 1 => q1 | 2 => q2 | 3 => q3 | 4 => q4 | 5 => q5 | 6 => q6 | 7 => q7 | 8 => q8 | 9 => q9 | 10 => q10 | _ => 0 := ⟨_, rfl⟩
  have hP : va_P D vwCl (pre ++ fk_wm cJ cI cZ am 0 0 0 0 (fun _ => 0) (fun _ => 0) (fun _ => (0 : Int64)) (fun _ => (0 : Int64)) (fun _ => (0 : Int64)) (fun _ => 0) (fun _ => 0) (fun _ => 0) (fun _ => 0) (fun _ => 0)) H := by rw [ham]; exact hP
  have hD : va_D A (pre ++ fk_wm cJ cI cZ am 0 0 0 0 (fun _ => 0) (fun _ => 0) (fun _ => (0 : Int64)) (fun _ => (0 : Int64)) (fun _ => (0 : Int64)) (fun _ => 0) (fun _ => 0) (fun _ => 0) (fun _ => 0) (fun _ => 0)) := by rw [ham]; exact hD
  rw [hQQ]
  exact W.vret hx hb hr (fun t ht hW => ⟨⟨am, rfl, (congrFun ham 0), by rw [ht]; exact hP, va_K.moved hW.alike hK, hD⟩, hS.F ht⟩) hS.2.2 dX4_init_85
