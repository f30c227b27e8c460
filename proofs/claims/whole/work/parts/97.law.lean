/-! The law: its loop, its entry -/
/-! THE CLAIM OUT OF ONE WALK OF THE LAW'S BODY. Your part is whole_start (and what it stands on); all else here is the same for every law, but numbers. -/
def R_law : String := "FixedKindsLaw"
def lw_P (b : Addr) (xs : List Int32) (args : Array Value) (s : State) : Prop := args = #[.ref b] ∧ s.IntsAt b xs ∧ xs.length ≤ 4608 ∧ (Jvm.Cond.and given_1 narrow_1).before args s = true
def lw_Q (_ : Array Value) (s : State) (o : Outcome) (t : State) : Prop := o = .returned (some (.int 1)) ∧ Framed s o t [] 604189 7283536
def lw_Z (below : List Frame) (a : Array Value) (s : State) : State → Prop := fun t => ∃ o, t.status = .running ∧ Ended t below o ∧ lw_Q a s o t
/-- the law's own end, with 1 on the stack, nothing written that was there before, its room as the claim has it -/
theorem lw_ret {p : Program} {l : Launch} {e : Env} {s : State} {m : MethodId} {below : List Frame} {meth : Method} {c : Code} {b : Nat} (hx : p.tables.exec = Jvm.exec) (hb : c.code = code) (hr : meth.sig.returnType = ret) (hlocks : meth.locks = false) {pc : Nat} {H : Heap} {ls : Array Slot} (hdg : decode code pc = .ok (.ireturn, 1)) : W p l e room_1 s m #[Value.ref b] below meth c H [] 604189 7283536 (lw_Z below #[Value.ref b] s) (F0 m pc ls [.int 1]) := by
  intro T hT X
  obtain ⟨fs, hret, hrun, hended, hW, hframe⟩ := X.leave (v := some (.int 1)) (hlocks := hlocks) (fun h => by rw [hr] at h; cases h)
  have hmeth' : T.vm.method? m = some meth := X.method'
  refine ⟨T.setFrames fs, ?_, .returned (some (.int 1)), hrun, hended, rfl, ⟨_, rfl⟩, hW, hframe⟩
  jvm_step X.here [X.here.top, hx, hb, hdg, hmeth', hr, ret, narrow_b1]
  (try refine ⟨rfl, ?_⟩); (try refine ⟨rfl, ?_⟩)
  first | (intro acts; rw [hret _ acts rfl rfl rfl]) | rw [hret _ _ rfl rfl rfl]
  exact Steps.refl _
/-- what holds at the law's entry: the machine, the code, the tables' words (any of lw_tbl by 'hts w (by decide +kernel)'), the script of L ints xs at the cell b, what the Statement gives of the start (any of its parts by flat_of_before) -/
def lw_At (p : Program) (s : State) (m : MethodId) (meth : Method) (c : Code) (b L : Nat) (xs : Nat → Int32) : Prop :=
  p.tables.exec = Jvm.exec ∧ c.code = code ∧ meth.sig.returnType = ret ∧ c.maxLocals = 8 ∧ s.vm.findClass R_law = some m.cls ∧ (∀ w ∈ lw_tbl, w.before #[Value.ref b] s = true) ∧ va_X b L xs s s.heap ∧ b < s.heap.size ∧ meth.locks = false ∧ (Jvm.Cond.and given_1 narrow_1).before #[Value.ref b] s = true
set_option maxHeartbeats 4000000 in
set_option maxRecDepth 100000 in
/-- the law's loop -/
theorem fk_loop {p : Program} {l : Launch} {e : Env} {s : State} {m : MethodId} {below : List Frame} {meth : Method} {c : Code} {D : va_G} {cJ cC cI cZ cK : ClassId} {ad am : Nat → Nat} {oA b L : Nat} {xs : Nat → Int32} {A : Nat → Prop} (hC : fk_LC p l s m c D cJ cC cI cZ cK b L xs A) (hAA : ∀ q : Nat, A q → s.heap.size ≤ q) (hr : meth.sig.returnType = ret) (hlocks : meth.locks = false) : ∀ (fu i : Nat), i ≤ L + 8 → L + 8 < i + fu → ∀ (H : Heap) (locs : List Loc) (ls : Array Slot), fk_J D cJ cC cI cZ cK ad am oA A s.heap H locs → lv_has ls 8 [(0, .ref b), (1, .ref (ad 0)), (2, .ref (am 0)), (3, .ref oA), (4, .int (nI i))] → W p l e room_1 s m #[Value.ref b] below meth c H locs (100 + i) (2000 + i) (lw_Z below #[Value.ref b] s) (F0 m 23 ls []) := by
  obtain ⟨hx, hb, hml, hown, htb, hX, hbl, hbA, hA, hK, hN, hXW, hlt, hL⟩ := id hC
  intro fu
  induction fu with
  | zero => intro i h1 h2; exact absurd h2 (by omega)
  | succ fu ih =>
    intro i h1 h2 H locs ls hJ hl
    have hS : va_S A s.heap H locs := by
      obtain ⟨n, kf, ka, kt, kd, lo, cd, T, ch, f1, f2, f3, f4, f5, wd, sg, up, dn, of, bey, rnd, tx, pt, sn, fo, hP, hD, hS, hrest⟩ := hJ
      exact hS
    refine lv_iload hx hb dL_law_23 (lv_at hl 4 rfl) ?_
    refine lv_aload_n hx hb dL_law_25 rfl (lv_at hl 0 rfl) ?_
    refine va_slen hx hb hX hbl hbA hS dL_law_26 ?_
    refine lv_bipush (v := 9) hx hb dL_law_27 (by decide) ?_
    refine lv_isub hx hb dL_law_29 ?_
    refine lv_topi (fun x1 ex1 => ?_)
    have hx1 : x1.toInt = (L : Int) - 9 := by
      rw [ex1, Int32.toInt_sub, show (Int32.ofNat L).toInt = (L : Int) from nI_toInt (by omega), show (9 : Int32).toInt = 9 by decide]
      exact Int.bmod_eq_of_le (by omega) (by omega)
    refine lv_icmp_gt (tgt := 1138) hx hb dL_law_30 (by decide) (fun c_30 => ?_) (fun c_30 => ?_)
    · refine lv_iconst (v := 1) hx hb dL_law_1138 (by decide) ?_
      refine va_forget (fun q hq => hAA _ (hS.2.2 q hq)) ?_
      refine W.widen (k := 604189) (n := 7283536) (by omega) (by omega) ?_
      exact lw_ret hx hb hr hlocks dL_law_1139
    · have hi : i + 9 ≤ L := by
        rw [Int32.lt_iff_toInt_lt, hx1, nI_toInt (by omega)] at c_30
        omega
      have kk : ∀ (H : Heap) (locs : List Loc) (ls : Array Slot), fk_J D cJ cC cI cZ cK ad am oA A s.heap H locs → lv_has ls 8 [(0, .ref b), (1, .ref (ad 0)), (2, .ref (am 0)), (3, .ref oA), (4, .int (nI i))] → W p l e room_1 s m #[Value.ref b] below meth c H locs (100 + i + 1) (2000 + i + 7) (lw_Z below #[Value.ref b] s) (F0 m 1132 ls []) := by
        intro H locs ls hJ hl
        refine lv_iinc (v := nI (i + 9)) (lv' := [(4, .int (nI (i + 9))), (0, .ref b), (1, .ref (ad 0)), (2, .ref (am 0)), (3, .ref oA)]) hx hb dL_law_1132 hl (k := 4) rfl (by exact nI_add i 9) (by decide) rfl (fun ls hl => ?_)
        refine lv_goto (tgt := 23) hx hb dL_law_1135 (by decide) ?_
        refine W.widen (k := 100 + (i + 9)) (n := 2000 + (i + 9)) (by omega) (by omega) ?_
        exact ih (i + 9) (by omega) (by omega) _ _ _ hJ (lv_sub hl [1, 2, 3, 4, 0] rfl)
      refine lv_aload_n hx hb dL_law_33 rfl (lv_at hl 0 rfl) ?_
      refine lv_iload hx hb dL_law_34 (lv_at hl 4 rfl) ?_
      refine fk_sld hx hb hX hbl hbA hS hL (k := i) (by omega) dL_law_36 ?_
      refine lv_bipush (v := 15) hx hb dL_law_37 (by decide) ?_
      refine lv_iand hx hb dL_law_39 ?_
      refine lv_topi (fun x2 ex2 => ?_)
      rcases (show (x2.toInt < 0 ∨ 11 < x2.toInt) ∨ x2.toInt = 0 ∨ x2.toInt = 1 ∨ x2.toInt = 2 ∨ x2.toInt = 3 ∨ x2.toInt = 4 ∨ x2.toInt = 5 ∨ x2.toInt = 6 ∨ x2.toInt = 7 ∨ x2.toInt = 8 ∨ x2.toInt = 9 ∨ x2.toInt = 10 ∨ x2.toInt = 11 by omega) with q | q | q | q | q | q | q | q | q | q | q | q | q
      · refine lv_tableOut (tgt := 1132) hx hb dL_law_40 q (by decide) ?_
        refine W.widen (k := 100 + i + 1) (n := 2000 + i + 7) (by omega) (by omega) ?_
        exact kk _ _ _ hJ hl
      · refine lv_tableIn (off := 64) (tgt := 104) hx hb dL_law_40 (by omega) (by omega) (by rw [q]; rfl) (by decide) ?_
        exact lc_0 hC hi hJ hl (by omega) (by omega) kk
      · refine lv_tableIn (off := 255) (tgt := 295) hx hb dL_law_40 (by omega) (by omega) (by rw [q]; rfl) (by decide) ?_
        exact lc_1 hC hi hJ hl (by omega) (by omega) kk
      · refine lv_tableIn (off := 304) (tgt := 344) hx hb dL_law_40 (by omega) (by omega) (by rw [q]; rfl) (by decide) ?_
        exact lc_2 hC hi hJ hl (by omega) (by omega) kk
      · refine lv_tableIn (off := 475) (tgt := 515) hx hb dL_law_40 (by omega) (by omega) (by rw [q]; rfl) (by decide) ?_
        exact lc_3 hC hi hJ hl (by omega) (by omega) kk
      · refine lv_tableIn (off := 557) (tgt := 597) hx hb dL_law_40 (by omega) (by omega) (by rw [q]; rfl) (by decide) ?_
        exact lc_4 hC hi hJ hl (by omega) (by omega) kk
      · refine lv_tableIn (off := 570) (tgt := 610) hx hb dL_law_40 (by omega) (by omega) (by rw [q]; rfl) (by decide) ?_
        exact lc_5 hC hi hJ hl (by omega) (by omega) kk
      · refine lv_tableIn (off := 652) (tgt := 692) hx hb dL_law_40 (by omega) (by omega) (by rw [q]; rfl) (by decide) ?_
        exact lc_6 hC hi hJ hl (by omega) (by omega) kk
      · refine lv_tableIn (off := 721) (tgt := 761) hx hb dL_law_40 (by omega) (by omega) (by rw [q]; rfl) (by decide) ?_
        exact lc_7 hC hi hJ hl (by omega) (by omega) kk
      · refine lv_tableIn (off := 777) (tgt := 817) hx hb dL_law_40 (by omega) (by omega) (by rw [q]; rfl) (by decide) ?_
        exact lc_8 hC hi hJ hl (by omega) (by omega) kk
      · refine lv_tableIn (off := 815) (tgt := 855) hx hb dL_law_40 (by omega) (by omega) (by rw [q]; rfl) (by decide) ?_
        exact lc_9 hC hi hJ hl (by omega) (by omega) kk
      · refine lv_tableIn (off := 942) (tgt := 982) hx hb dL_law_40 (by omega) (by omega) (by rw [q]; rfl) (by decide) ?_
        exact lc_10 hC hi hJ hl (by omega) (by omega) kk
      · refine lv_tableIn (off := 1023) (tgt := 1063) hx hb dL_law_40 (by omega) (by omega) (by rw [q]; rfl) (by decide) ?_
        exact lc_11 hC hi hJ hl (by omega) (by omega) kk
theorem fk_arrJ {s : State} {args : Array Value} (h : (Cond.arrayClass .long).before args s = true) : ∃ cA : ClassId, ArrOfT s cA .long ∧ va_RA s cA .long := by
  obtain ⟨c, k, comp, h1, h2, h3⟩ := Cond.arrayClass_spec h
  exact ⟨c, fun n z => ⟨fun k h => (by cases h), k, h2, comp, h3⟩, h1⟩
theorem fk_arrC {s : State} {args : Array Value} (h : (Cond.arrayClass .char).before args s = true) : ∃ cA : ClassId, ArrOfT s cA .char ∧ va_RA s cA .char := by
  obtain ⟨c, k, comp, h1, h2, h3⟩ := Cond.arrayClass_spec h
  exact ⟨c, fun n z => ⟨fun k h => (by cases h), k, h2, comp, h3⟩, h1⟩
theorem fk_arrI {s : State} {args : Array Value} (h : (Cond.arrayClass .int).before args s = true) : ∃ cA : ClassId, ArrOfT s cA .int ∧ va_RA s cA .int := by
  obtain ⟨c, k, comp, h1, h2, h3⟩ := Cond.arrayClass_spec h
  exact ⟨c, fun n z => ⟨fun k h => (by cases h), k, h2, comp, h3⟩, h1⟩
theorem fk_arrZ {s : State} {args : Array Value} (h : (Cond.arrayClass .boolean).before args s = true) : ∃ cA : ClassId, ArrOfT s cA .boolean ∧ va_RA s cA .boolean := by
  obtain ⟨c, k, comp, h1, h2, h3⟩ := Cond.arrayClass_spec h
  exact ⟨c, fun n z => ⟨fun k h => (by cases h), k, h2, comp, h3⟩, h1⟩
theorem fk_arrK {s : State} {args : Array Value} (h : (Cond.arrayOver (.object "FixedKinds$Kind")).before args s = true) : ∃ cA : ClassId, ArrOfT s cA (.object "FixedKinds$Kind") ∧ va_RA s cA (.object "FixedKinds$Kind") := by
  obtain ⟨comp, c, k, h1, -, h3, h4, h5⟩ := Cond.arrayOver_spec h
  exact ⟨c, fun n z => ⟨fun k h => (by cases h), k, h3, comp, h4⟩, k, comp, h3, h4, h1, h5⟩
theorem fk_str {s : State} {args : Array Value} {own tx : String} {k : Nat} {cc : ClassId} (hc : s.vm.findClass own = some cc) (h : (Cond.stringRef own k tx).before args s = true) : ∃ a, vk_R own k tx a s := by
  obtain ⟨_, _, _, a, -, -, -, -, -, he⟩ := Cond.stringRef_spec hc h
  exact ⟨a, vk_R.of h he⟩
set_option maxHeartbeats 4000000 in
set_option maxRecDepth 100000 in
/-- THE LAW, from its entry -/
theorem whole_start {p : Program} {e : Env} {s : State} {m : MethodId} {below : List Frame} {meth : Method} {c : Code} (l : Launch) (hlt : l.stackTraces = false) {b L : Nat} {xs : Nat → Int32} (hL : L ≤ 4608) (C0 : lw_At p s m meth c b L xs) : W p l e room_1 s m #[Value.ref b] below meth c s.heap [] 0 0 (lw_Z below #[Value.ref b] s) (entryFrame m ([Value.ref b] : List Value).toArray 8) := by
  obtain ⟨hx, hb, hr, hml, hown, htb, hX, hbl, hlocks, hgv⟩ := id C0
  have hts : ∀ w ∈ wsL_law, w.before #[Value.ref b] s = true := fun w h => htb w (wsL_law_in w h)
  have hT1 : ∀ w ∈ tables_1, w.before #[Value.ref b] s = true := fun w h => htb w (List.mem_append_right _ h)
  have hfl := flat_of_before _ hgv
  obtain ⟨A, hAe⟩ : ∃ A : Nat → Prop, A = fun q : Nat => s.heap.size ≤ q := ⟨_, rfl⟩
  have hA : ∀ q : Nat, s.heap.size ≤ q → A q := fun q h => by rw [hAe]; exact h
  have hAA : ∀ q : Nat, A q → s.heap.size ≤ q := fun q h => by rw [hAe] at h; exact h
  have hbA : ¬ A b := fun h => absurd (hAA b h) (Nat.not_le.mpr hbl)
  obtain ⟨c0, iS0, hKn0⟩ := u_known (C := RJx00060) (T := TJx00060) (N := 6) (n := 6) htb inJx00060 (htb (.instantiable RJx00060 6) (by decide +kernel))
  obtain ⟨c1, iS1, hKn1⟩ := u_known (C := RX0) (T := TX0) (N := 2) (n := 2) htb inX0 (htb (.instantiable RX0 2) (by decide +kernel))
  obtain ⟨c2, iS2, hKn2⟩ := u_known (C := RX1) (T := TX1) (N := 7) (n := 7) htb inX1 (htb (.instantiable RX1 7) (by decide +kernel))
  obtain ⟨c3, iS3, hKn3⟩ := u_known (C := RX2) (T := TX2) (N := 1) (n := 1) htb inX2 (htb (.instantiable RX2 1) (by decide +kernel))
  obtain ⟨c4, iS4, hKn4⟩ := u_known (C := RX3) (T := TX3) (N := 8) (n := 8) htb inX3 (htb (.instantiable RX3 8) (by decide +kernel))
  obtain ⟨c5, iS5, hKn5⟩ := u_known (C := RX4) (T := TX4) (N := 14) (n := 14) htb inX4 (htb (.instantiable RX4 14) (by decide +kernel))
  obtain ⟨D, hKc⟩ : ∃ D : va_G, ∀ (k : Nat) (q : vw_C), vwCl[k]? = some q → u_Kn s q.1 q.2.1 q.2.2 (D.1 k) (D.2 k) := by
    refine ⟨(fun k => if k = 0 then c0 else if k = 1 then c1 else if k = 2 then c2 else if k = 3 then c3 else if k = 4 then c4 else c5, fun k => if k = 0 then iS0 else if k = 1 then iS1 else if k = 2 then iS2 else if k = 3 then iS3 else if k = 4 then iS4 else iS5), ?_⟩
    intro k q hq
    match k, hq with
    | 0, hq => cases hq; exact hKn0
    | 1, hq => cases hq; exact hKn1
    | 2, hq => cases hq; exact hKn2
    | 3, hq => cases hq; exact hKn3
    | 4, hq => cases hq; exact hKn4
    | 5, hq => cases hq; exact hKn5
    | k + 6, hq => simp [vwCl] at hq
  have hO : va_AO "FixedKinds$Kind" s := va_AO.of (htb (.arrayOver (.object "FixedKinds$Kind")) (by decide +kernel))
  obtain ⟨cJ, hJ1, hJ2⟩ := fk_arrJ (htb (.arrayClass .long) (by decide +kernel))
  obtain ⟨cC, hC1, hC2⟩ := fk_arrC (htb (.arrayClass .char) (by decide +kernel))
  obtain ⟨cI, hI1, hI2⟩ := fk_arrI (htb (.arrayClass .int) (by decide +kernel))
  obtain ⟨cZ, hZ1, hZ2⟩ := fk_arrZ (htb (.arrayClass .boolean) (by decide +kernel))
  obtain ⟨cK, hK1, hK2⟩ := fk_arrK (va_AO.use (A := #[]) hO)
  have hK : va_K D vwCl (fk_ty cJ cC cI cZ cK) s := by
    refine ⟨hKc, fun k q hq => ?_⟩
    match k, hq with
    | 0, hq => cases hq; exact ⟨hJ1, hJ2⟩
    | 1, hq => cases hq; exact ⟨hC1, hC2⟩
    | 2, hq => cases hq; exact ⟨hI1, hI2⟩
    | 3, hq => cases hq; exact ⟨hZ1, hZ2⟩
    | 4, hq => cases hq; exact ⟨hK1, hK2⟩
    | k + 5, hq => simp [fk_ty] at hq
  have hN : fk_NW s := fk_NW.of hT1
  have hno : ∀ a : Nat, a < s.heap.size → ¬ A a := fun a h q => absurd (hAA a q) (Nat.not_le.mpr h)
  have hini : (Cond.initialized Bundle.tN).before #[Value.ref b] s = true := htb (.initialized Bundle.tN) (by decide +kernel)
  have hXW : fk_XW A s s.heap := ⟨fk_TW.of hT1, fk_str hKn4.2.1 (htb (.stringRef RX3 82 "a quotient by the value 0") (by decide +kernel)), fk_str hKn4.2.1 (htb (.stringRef RX3 137 "no such character") (by decide +kernel)),
    vx_Zqof (htb (.laysStatic Bundle.tN "UNASSIGNED_STACK" Bundle.steD) (by decide +kernel)) hini (hfl (.isRef (.static Bundle.tN "UNASSIGNED_STACK" Bundle.steD)) (by decide +kernel)) hno,
    vx_Zqof (htb (.laysStatic Bundle.tN "SUPPRESSED_SENTINEL" Bundle.listD) (by decide +kernel)) hini (hfl (.isRef (.static Bundle.tN "SUPPRESSED_SENTINEL" Bundle.listD)) (by decide +kernel)) hno⟩
  have hown : s.vm.findClass RL = some m.cls := hown
  have hC : fk_LC p l s m c D cJ cC cI cZ cK b L xs A := ⟨hx, hb, hml, hown, htb, hX, hbl, hbA, hA, hK, hN, hXW, hlt, hL⟩
  have hS : va_S A s.heap s.heap [] := va_S.rf
  have hP : va_P D vwCl [] s.heap := fun k q h => by simp at h
  have hD : va_D A [] := ⟨fun i j p q h => by simp at h, fun k q h => by simp at h⟩
  have hl := lv_entry ([.ref b]) (n := 8) (Nat.le_of_ble_eq_true rfl)
  rw [lg_entry_eq]
  generalize (lg_sl ([.ref b]) ++ List.replicate (8 - (lg_sl ([.ref b])).length) Slot.unset).toArray = ls at hl ⊢
  have hl : lv_has ls 8 [(0, .ref b)] := hl
  refine va_new (ci := 4) (fs := [.null, .int 0, .int 0, .null, .int 0, .null, .null, .null]) (C := RX3) (T := TX3) (N := 8) hx hb hts inlX3 tyX3 tyX3_ok hown (hts (.classLink RL 8 RX3) (by decide +kernel)) (hts (.instantiable RX3 8) (by decide +kernel)) (hts (.initialized RX3) (by decide +kernel)) hK hP hD hS hA rfl (fun j hj => by rcases (show j = 0 ∨ j = 1 ∨ j = 2 ∨ j = 3 ∨ j = 4 ∨ j = 5 ∨ j = 6 ∨ j = 7 by omega) with rfl | rfl | rfl | rfl | rfl | rfl | rfl | rfl <;> rfl) (Nat.le_of_ble_eq_true rfl) (Nat.le_of_ble_eq_true rfl) dL_law_0 (fun q1 H hP hD hS => ?_)
  refine lv_dup hx hb dL_law_3 rfl ?_
  refine fk_cv hD hS hA (va_runI (As := []) (rest := [.ref q1]) ⟨hx, hb, hml, hown, hts⟩ (kX3_init _ [] q1) (cwI 0 hts gL_law_X3_init rfl rfl rfl (hts (.initialized RX3) (by decide +kernel)) (hts (.methodLink RL 21 yX3_init) (by decide +kernel)) (hts (.instanceMethod yX3_init) (by decide +kernel)) rfl (by decide +kernel) ⟨Nat.le_of_ble_eq_true rfl, Nat.le_of_ble_eq_true rfl⟩) (fk_preSO hO hK hN hP hD) rfl rfl hl.1 rfl (lv_room (Nat.le_of_ble_eq_true rfl)) dL_law_4 ⟨Nat.le_of_ble_eq_true rfl, Nat.le_of_ble_eq_true rfl⟩) (fun ad H locs hw hP hD hS => ?_)
  rw [← hw]
  have hP : va_P D vwCl (fk_wx cJ cC cK ad (fun _ => none) 0 0 (fun _ => 0) 40 (fun _ => (0 : Int64)) (fun _ => (0 : Int64)) (fun _ => (0 : Int64)) (fun _ => (0 : Int64)) (fun _ => (0 : Int64))) H := hP
  have hD : va_D A (fk_wx cJ cC cK ad (fun _ => none) 0 0 (fun _ => 0) 40 (fun _ => (0 : Int64)) (fun _ => (0 : Int64)) (fun _ => (0 : Int64)) (fun _ => (0 : Int64)) (fun _ => (0 : Int64))) := hD
  refine lv_astore_n (lv' := [(1, .ref (ad 0)), (0, .ref b)]) hx hb dL_law_7 rfl hl (by decide) rfl (fun ls hl => ?_)
  refine va_new (ci := 5) (fs := [.int 0, .int 0, .null, .null, .null, .null, .null, .null, .null, .int 0, .int 0, .null, .null, .null]) (C := RX4) (T := TX4) (N := 14) hx hb hts inlX4 tyX4 tyX4_ok hown (hts (.classLink RL 22 RX4) (by decide +kernel)) (hts (.instantiable RX4 14) (by decide +kernel)) (hts (.initialized RX4) (by decide +kernel)) hK hP hD hS hA rfl (fun j hj => by rcases (show j = 0 ∨ j = 1 ∨ j = 2 ∨ j = 3 ∨ j = 4 ∨ j = 5 ∨ j = 6 ∨ j = 7 ∨ j = 8 ∨ j = 9 ∨ j = 10 ∨ j = 11 ∨ j = 12 ∨ j = 13 by omega) with rfl | rfl | rfl | rfl | rfl | rfl | rfl | rfl | rfl | rfl | rfl | rfl | rfl | rfl <;> rfl) (Nat.le_of_ble_eq_true rfl) (Nat.le_of_ble_eq_true rfl) dL_law_8 (fun q2 H hP hD hS => ?_)
  refine lv_dup hx hb dL_law_11 rfl ?_
  refine fk_cv hD hS hA (va_runI (As := []) (rest := [.ref q2]) ⟨hx, hb, hml, hown, hts⟩ (kX4_init _ (fk_wx cJ cC cK ad (fun _ => none) 0 0 (fun _ => 0) 40 (fun _ => (0 : Int64)) (fun _ => (0 : Int64)) (fun _ => (0 : Int64)) (fun _ => (0 : Int64)) (fun _ => (0 : Int64))) q2) (cwI 0 hts gL_law_X4_init rfl rfl rfl (hts (.initialized RX4) (by decide +kernel)) (hts (.methodLink RL 24 yX4_init) (by decide +kernel)) (hts (.instanceMethod yX4_init) (by decide +kernel)) rfl (by decide +kernel) ⟨Nat.le_of_ble_eq_true rfl, Nat.le_of_ble_eq_true rfl⟩) (fk_preS hK hN hP hD) rfl rfl hl.1 rfl (lv_room (Nat.le_of_ble_eq_true rfl)) dL_law_12 ⟨Nat.le_of_ble_eq_true rfl, Nat.le_of_ble_eq_true rfl⟩) (fun am H locs hw hP hD hS => ?_)
  rw [← hw]
  have hP : va_P D vwCl ((fk_wx cJ cC cK ad (fun _ => none) 0 0 (fun _ => 0) 40 (fun _ => (0 : Int64)) (fun _ => (0 : Int64)) (fun _ => (0 : Int64)) (fun _ => (0 : Int64)) (fun _ => (0 : Int64))) ++ (fk_wm cJ cI cZ am 0 0 0 0 (fun _ => 0) (fun _ => 0) (fun _ => (0 : Int64)) (fun _ => (0 : Int64)) (fun _ => (0 : Int64)) (fun _ => 0) (fun _ => 0) (fun _ => 0) (fun _ => 0) (fun _ => 0))) H := hP
  have hD : va_D A ((fk_wx cJ cC cK ad (fun _ => none) 0 0 (fun _ => 0) 40 (fun _ => (0 : Int64)) (fun _ => (0 : Int64)) (fun _ => (0 : Int64)) (fun _ => (0 : Int64)) (fun _ => (0 : Int64))) ++ (fk_wm cJ cI cZ am 0 0 0 0 (fun _ => 0) (fun _ => 0) (fun _ => (0 : Int64)) (fun _ => (0 : Int64)) (fun _ => (0 : Int64)) (fun _ => 0) (fun _ => 0) (fun _ => 0) (fun _ => 0) (fun _ => 0))) := hD
  refine lv_astore_n (lv' := [(2, .ref (am 0)), (1, .ref (ad 0)), (0, .ref b)]) hx hb dL_law_15 rfl hl (by decide) rfl (fun ls hl => ?_)
  refine lv_iconst (v := 1) hx hb dL_law_16 (by decide) ?_
  refine va_newa (atype := .long) (a0 := (1, .inr (.inl (fun _ => (0 : Int64))))) hx hb (hts (.arrayClass .long) (by decide +kernel)) rfl hK hP hD hS hA (fun _ => rfl) (by decide) (by decide) (by decide) (Nat.le_of_ble_eq_true rfl) (Nat.le_of_ble_eq_true rfl) dL_law_17 (fun oA cN H hKn hP hD hS => ?_)
  rw [fk_cAeq hK hKn (i := 0) (j := 5) rfl rfl, List.append_assoc] at hP hD
  refine lv_astore_n (lv' := [(3, .ref oA), (2, .ref (am 0)), (1, .ref (ad 0)), (0, .ref b)]) hx hb dL_law_19 rfl hl (by decide) rfl (fun ls hl => ?_)
  refine lv_iconst (v := 0) hx hb dL_law_20 (by decide) ?_
  refine lv_istore (lv' := [(4, .int (nI 0)), (3, .ref oA), (2, .ref (am 0)), (1, .ref (ad 0)), (0, .ref b)]) hx hb dL_law_21 hl (by decide) rfl (fun ls hl => ?_)
  refine W.widen (k := 100 + 0) (n := 2000 + 0) (by omega) (by omega) ?_
  have hP : va_P D vwCl ((fk_wx cJ cC cK ad (fun _ => none) (nI 0) 0 (fun _ => 0) (nI (40 - ([] : List Int32).length)) (fun _ => (0 : Int64)) (fun _ => (0 : Int64)) (fun _ => (0 : Int64)) (fun _ => (0 : Int64)) (fun _ => (0 : Int64))) ++ ((fk_wm cJ cI cZ am 0 (nI 0) 0 (nI ([] : List Int32).length) (fun _ => 0) (fun _ => 0) (fun _ => (0 : Int64)) (fun _ => (0 : Int64)) (fun _ => (0 : Int64)) (fun _ => 0) (fun _ => 0) (fun _ => 0) (fun _ => 0) (fun _ => 0)) ++ ((oA, .inl (cJ, 1, .inr (.inl (fun _ => (0 : Int64))))) :: []))) H := hP
  have hD : va_D A ((fk_wx cJ cC cK ad (fun _ => none) (nI 0) 0 (fun _ => 0) (nI (40 - ([] : List Int32).length)) (fun _ => (0 : Int64)) (fun _ => (0 : Int64)) (fun _ => (0 : Int64)) (fun _ => (0 : Int64)) (fun _ => (0 : Int64))) ++ ((fk_wm cJ cI cZ am 0 (nI 0) 0 (nI ([] : List Int32).length) (fun _ => 0) (fun _ => 0) (fun _ => (0 : Int64)) (fun _ => (0 : Int64)) (fun _ => (0 : Int64)) (fun _ => 0) (fun _ => 0) (fun _ => 0) (fun _ => 0) (fun _ => 0)) ++ ((oA, .inl (cJ, 1, .inr (.inl (fun _ => (0 : Int64))))) :: []))) := hD
  have hKL : fk_KL 0 (fun _ => fk_mkK 0 0 0 0 0) (fun _ => none) (fun _ => 0) [] := ⟨rfl, Nat.zero_le 40, fun j h => absurd h (Nat.not_lt_zero j)⟩
  have hMT : fk_MT 0 (fun _ => fk_mkK 0 0 0 0 0) (fun _ => 0) (fun _ => 0) (fun _ => (0 : Int64)) (fun _ => (0 : Int64)) (fun _ => (0 : Int64)) (fun _ => 0) (fun _ => 0) := ⟨Nat.zero_le 40, fun j h => absurd h (Nat.not_lt_zero j), fun i _ _ => ⟨rfl, rfl⟩⟩
  exact fk_loop hC hAA hr hlocks (L + 9) 0 (by omega) (by omega) _ _ _ (fk_J.mk [] hP hD hS hKL hMT (Or.inl rfl) (by decide) (fk_Tx_0 _) (fun i h => absurd h (Nat.not_lt_zero i))) (lv_sub hl [4, 3, 2, 1, 0] rfl)
