/-! Contracts of methods that may throw. -/
def fk_isT : Cond → Bool
  | .declares _ => true
  | .castable _ _ => true
  | _ => false
def fk_thw : List Cond := tables_1.filter fk_isT
/-- words of the tables that a throw needs and that no list of good words may hold -/
def fk_TW (U : State) : Prop := ∀ w ∈ fk_thw, va_Nw w U
theorem fk_TW.same {u U : State} (h : u.vm = U.vm) (hN : fk_TW u) : fk_TW U := by
  intro w hw
  have h1 := hN w hw
  have h2 : fk_isT w = true := (List.mem_filter.mp hw).2
  cases w <;> first | (simp [fk_isT] at h2; done) | exact va_Nw.same rfl h h1
theorem fk_TW.warm {s U : State} (hW : s.WarmedH U.vm) (hN : fk_TW s) : fk_TW U := by
  intro w hw
  have h1 := hN w hw
  have h2 : fk_isT w = true := (List.mem_filter.mp hw).2
  cases w <;> first | (simp [fk_isT] at h2; done) | exact va_Nw.warmD hW h1 | exact va_Nw.warmC hW h1
theorem fk_TW.of {s : State} {args : Array Value} (h : ∀ w ∈ tables_1, w.before args s = true) : fk_TW s := by
  intro w hw
  obtain ⟨h1, h2⟩ := List.mem_filter.mp hw
  have h3 := h w h1
  cases w <;> first | (simp [fk_isT] at h2; done) | exact va_Nw.of rfl h3
theorem fk_TW.use {s : State} (hN : fk_TW s) (args : Array Value) : ∀ w ∈ fk_thw, w.before args s = true := by
  intro w hw
  have h1 := hN w hw
  have h2 : fk_isT w = true := (List.mem_filter.mp hw).2
  cases w <;> first | (simp [fk_isT] at h2; done) | exact va_Nw.use rfl h1
/-- what a throw needs of the machine -/
def fk_XW (A : Nat → Prop) (U : State) (H : Heap) : Prop := fk_TW U ∧ (∃ a, vk_R RX3 82 "a quotient by the value 0" a U) ∧ (∃ a, vk_R RX3 137 "no such character" a U) ∧ vx_Zq Bundle.tN "UNASSIGNED_STACK" Bundle.steD A U H ∧ vx_Zq Bundle.tN "SUPPRESSED_SENTINEL" Bundle.listD A U H
theorem fk_XW.goes {s U : State} {A B : Nat → Prop} {H : Heap} {locs : List Loc} (h : fk_XW A s s.heap) (hS : va_S A s.heap H locs) (hW : s.WarmedH U.vm) (hB : ∀ q, B q → A q) : fk_XW B U H := by
  obtain ⟨h1, ⟨a2, h2⟩, ⟨a3, h3⟩, h4, h5⟩ := h
  exact ⟨h1.warm hW, ⟨a2, vk_R.warm hW h2⟩, ⟨a3, vk_R.warm hW h3⟩, vx_Zq.moved hW.alike ((h4.kept hS.2.1).narrow hB), vx_Zq.moved hW.alike ((h5.kept hS.2.1).narrow hB)⟩
abbrev fk_preT (D : va_G) (tys : List (ClassId × FieldType)) (ws : va_W) (sz : Nat) (U : State) : Prop := fk_pre D tys ws sz U ∧ fk_XW (va_A ws sz) U U.heap
theorem fk_blindT {D : va_G} {tys : List (ClassId × FieldType)} {ws : va_W} {sz : Nat} {av : List Value} : FrameBlind (va_Pc av (fk_preT D tys ws sz)) := fun a U g mk q => by
  obtain ⟨q0, ⟨q1, qP, qK, qN, qD⟩, x1, ⟨a2, x2⟩, ⟨a3, x3⟩, x4, x5⟩ := q
  exact ⟨q0, ⟨q1, qP, va_K.moved (u := U) (U := U.calling g mk a) (Vm.Alike.refl U.vm) qK, fk_NW.same (u := U) (U := U.calling g mk a) rfl qN, qD⟩,
    fk_TW.same (u := U) (U := U.calling g mk a) rfl x1, ⟨a2, vk_R.same (u := U) (U := U.calling g mk a) rfl x2⟩, ⟨a3, vk_R.same (u := U) (U := U.calling g mk a) rfl x3⟩,
    vx_Zq.moved (u := U) (U := U.calling g mk a) (Vm.Alike.refl U.vm) x4, vx_Zq.moved (u := U) (U := U.calling g mk a) (Vm.Alike.refl U.vm) x5⟩
section FkThrow
variable {p : Program} {l : Launch} {e : Env} {R : Room} {s : State} {m : MethodId} {args : Array Value} {below : List Frame} {meth : Method} {c : Code} {H H0 : Heap} {locs : List Loc} {cells slots mc ms : Nat} {Q : State → Prop} {pc : Nat} {ls : Array Slot} {st0 rest : List Value} {D : va_G} {tys : List (ClassId × FieldType)} {ws : va_W} {A : Nat → Prop} {a : Array Value} {S SX : Type}
theorem fk_preVT {b : Nat} {r : vw_C} {fs av : List Value} (q0 ci : Nat) (hX : fk_XW A s s.heap) (hS : va_S A s.heap H locs) (hA : ∀ q, s.heap.size ≤ q → A q) (hK : va_K D vwCl tys s) (hN : fk_NW s) (hP : va_P D vwCl ws H) (hD : va_D A ws) (hc : vwCl[ci]? = some r) (he : ws[q0]? = some (b, .inr (ci, fs))) : PreV s H r.1 b (va_Pc (.ref b :: av) (fk_preT D tys ws H.size)) av :=
  ⟨fk_blindT, va_recv hK hP hc he, fun U hU hW => ⟨rfl, ⟨by rw [hU], by rw [hU]; exact hP, va_K.moved hW.alike hK, hN.warm hW, hD.weaken (fun _ _ _ _ => trivial)⟩, by rw [hU]; exact hX.goes hS hW (fk_fr hD hS hA)⟩⟩
theorem fk_preST {av : List Value} (hX : fk_XW A s s.heap) (hS : va_S A s.heap H locs) (hA : ∀ q, s.heap.size ≤ q → A q) (hK : va_K D vwCl tys s) (hN : fk_NW s) (hP : va_P D vwCl ws H) (hD : va_D A ws) : PreS s H (va_Pc av (fk_preT D tys ws H.size)) av :=
  ⟨fk_blindT, fun U hU hW => ⟨rfl, ⟨by rw [hU], by rw [hU]; exact hP, va_K.moved hW.alike hK, hN.warm hW, hD.weaken (fun _ _ _ _ => trivial)⟩, by rw [hU]; exact hX.goes hS hW (fk_fr hD hS hA)⟩⟩
theorem fk_xl {E0 : String} {post : Int64 → S → Prop} {px : SX → Prop} {w1 : S → va_W} {wx : SX → va_W} (hD : va_D A ws) (hS : va_S A H0 H locs) (hA : ∀ q, H0.size ≤ q → A q)
    (hr : vx_Run p l e R s m args below meth c H locs cells slots mc ms (F0 m pc ls st0) rest (va_Ql post (fk_Bd D tys (va_A ws H.size) w1) (va_A ws H.size) a) (vx_X px (fun E u t => E = E0 ∧ fk_Bd D tys (va_A ws H.size) wx u t) (va_A ws H.size)) (va_A ws H.size))
    (kx : ∀ (ce : Cell) (q9 : Addr) (u : SX) (H1 : Heap) (locs1 : List Loc), px u → va_P D vwCl (wx u) H1 → va_D A (wx u) → va_S A H0 H1 locs1 → H1[q9]? = some ce → ce.vm = .none → s.vm.findClass E0 = some ce.cls → vx_W p l e R s m args below meth c H1 locs1 (cells + mc) (slots + ms) Q (F0 m pc ls rest) q9)
    (kk : ∀ (r : Int64) (u : S) (H1 : Heap) (locs1 : List Loc), post r u → va_P D vwCl (w1 u) H1 → va_D A (w1 u) → va_S A H0 H1 locs1 → W p l e R s m args below meth c H1 locs1 (cells + mc) (slots + ms) Q (F0 m (pc + 3) ls (.long r :: rest))) :
    W p l e R s m args below meth c H locs cells slots Q (F0 m pc ls st0) := by
  have hF := fk_fr hD hS hA
  refine vx_calll hr hS (fun q _ h => hF q h) hF (fun q _ h => hF q h) (fun E ce q9 u t H1 locs1 ht hvm hp hB hz hk hS1 h1 h2 h3 => ?_) (fun r u t H1 locs1 ht hvm hw hB hz hk hS1 => ?_)
  · obtain ⟨rfl, hP1, -, hD1⟩ := hB
    rw [ht] at hP1
    exact kx ce q9 u H1 locs1 hp hP1 (hD1.weaken (fun _ _ _ h => hF _ h)) hS1 h1 h2 h3
  · obtain ⟨hP1, -, hD1⟩ := hB
    rw [ht] at hP1
    exact kk r u H1 locs1 hw hP1 (hD1.weaken (fun _ _ _ h => hF _ h)) hS1
theorem fk_xi {E0 : String} {post : Int32 → S → Prop} {px : SX → Prop} {w1 : S → va_W} {wx : SX → va_W} (hD : va_D A ws) (hS : va_S A H0 H locs) (hA : ∀ q, H0.size ≤ q → A q)
    (hr : vx_Run p l e R s m args below meth c H locs cells slots mc ms (F0 m pc ls st0) rest (va_Qi post (fk_Bd D tys (va_A ws H.size) w1) (va_A ws H.size) a) (vx_X px (fun E u t => E = E0 ∧ fk_Bd D tys (va_A ws H.size) wx u t) (va_A ws H.size)) (va_A ws H.size))
    (kx : ∀ (ce : Cell) (q9 : Addr) (u : SX) (H1 : Heap) (locs1 : List Loc), px u → va_P D vwCl (wx u) H1 → va_D A (wx u) → va_S A H0 H1 locs1 → H1[q9]? = some ce → ce.vm = .none → s.vm.findClass E0 = some ce.cls → vx_W p l e R s m args below meth c H1 locs1 (cells + mc) (slots + ms) Q (F0 m pc ls rest) q9)
    (kk : ∀ (r : Int32) (u : S) (H1 : Heap) (locs1 : List Loc), post r u → va_P D vwCl (w1 u) H1 → va_D A (w1 u) → va_S A H0 H1 locs1 → W p l e R s m args below meth c H1 locs1 (cells + mc) (slots + ms) Q (F0 m (pc + 3) ls (.int r :: rest))) :
    W p l e R s m args below meth c H locs cells slots Q (F0 m pc ls st0) := by
  have hF := fk_fr hD hS hA
  refine vx_calli hr hS (fun q _ h => hF q h) hF (fun q _ h => hF q h) (fun E ce q9 u t H1 locs1 ht hvm hp hB hz hk hS1 h1 h2 h3 => ?_) (fun r u t H1 locs1 ht hvm hw hB hz hk hS1 => ?_)
  · obtain ⟨rfl, hP1, -, hD1⟩ := hB
    rw [ht] at hP1
    exact kx ce q9 u H1 locs1 hp hP1 (hD1.weaken (fun _ _ _ h => hF _ h)) hS1 h1 h2 h3
  · obtain ⟨hP1, -, hD1⟩ := hB
    rw [ht] at hP1
    exact kk r u H1 locs1 hw hP1 (hD1.weaken (fun _ _ _ h => hF _ h)) hS1
/-- what lies behind a throw: the world as it was -/
theorem fk_thrown {E : String} {px : SX → Prop} {wx : SX → va_W} {t : State} (u : SX) (hp : px u) (hS : va_S A s.heap H locs) (hK : va_K D vwCl tys s) (hP : va_P D vwCl (wx u) H) (hD : va_D A (wx u)) (hvm : s.vm.Alike t.vm) (h1 : H.size ≤ t.heap.size) (h2 : ∀ q : Nat, q < H.size → t.heap[q]? = H[q]?) : vx_X px (fun E9 u t => E9 = E ∧ fk_Bd D tys A wx u t) A E s t :=
  ⟨u, hp, ⟨rfl, hP.kept (fun k x hx => h2 _ ((hP k x hx).lt)), va_K.moved hvm hK, hD⟩, Nat.le_trans hS.1 h1, fun q g1 g2 => (h2 q (Nat.lt_of_lt_of_le g1 hS.1)).trans (hS.2.1 q g1 g2)⟩
end FkThrow
theorem fk_ofX {l : Launch} {y : MethodName} {ws ws' : List Cond} {rm : Room} (cc : ByteArray) (maxL : Nat) (ret : Option FieldType) {D : va_G} {tys : List (ClassId × FieldType)} {w0 : va_W} {av : List Value} (Qc : (Nat → Prop) → Array Value → State → Outcome → State → Prop) (XC : (Nat → Prop) → String → State → State → Prop) {mc ms sz : Nat}
    (hw : ws = Cond.code y cc maxL ret :: ws') (hy : plainName y.cls = true) (hn : (lg_sl av).length ≤ maxL)
    (body : ∀ (p : Program) (e : Env) (s : State) (m : MethodId) (below : List Frame) (meth : Method) (c : Code) (A : Nat → Prop) (ls : Array Slot) (args : Array Value) (QQ : State → Prop), QQ = vx_MQ below (Qc A) (XC A) args s mc ms A → fk_At p s m meth c y cc maxL ret args ws → va_P D vwCl w0 s.heap → va_K D vwCl tys s → fk_NW s → va_D A w0 → (∀ q : Nat, s.heap.size ≤ q → A q) → va_S A s.heap s.heap [] → lv_has ls maxL (lv_args 0 av) → (∀ x ∈ c.exceptionTable.toList, False) → fk_XW A s s.heap →
      W p l e rm s m args below meth c s.heap [] 0 0 QQ (F0 m 0 ls [])) :
    vx_Met l y ws rm (va_Pc av (fk_preT D tys w0 sz)) (Qc (va_A w0 sz)) (XC (va_A w0 sz)) mc ms (va_A w0 sz) := by
  subst hw
  refine vx_ofW (cc := cc) (maxL := maxL) (ret := ret) hy rfl ?_
  intro p e s m args below meth c s₁ B hml htab hv
  obtain ⟨rfl, ⟨hsz, hP, hK, hN, hD0⟩, hX⟩ := hv
  subst hsz
  have hl := lv_entry av hn
  rw [lg_entry_eq]
  exact body p e s m below meth c _ _ _ _ rfl ⟨⟨B.exec, B.bytes, hml, findClass_of_methodNamed B.named, atoms_spec (ws := Cond.code y cc maxL ret :: ws') B.pre⟩, B.returns, B.notSynchronized, (name_of_methodNamed B.named B.method).1⟩ hP hK hN (hD0.self (sz := s.heap.size)) (fun q h => Or.inr h) va_S.rf hl htab hX
theorem fk_ofXH {l : Launch} {y : MethodName} {ws ws' : List Cond} {rm : Room} (cc : ByteArray) (maxL : Nat) (ret : Option FieldType) (hh : List (Nat × Nat × Nat × Nat)) {D : va_G} {tys : List (ClassId × FieldType)} {w0 : va_W} {av : List Value} (Qc : (Nat → Prop) → Array Value → State → Outcome → State → Prop) (XC : (Nat → Prop) → String → State → State → Prop) {mc ms sz : Nat}
    (hw : ws = Cond.codeWith y cc maxL ret hh :: ws') (hy : plainName y.cls = true) (hn : (lg_sl av).length ≤ maxL)
    (body : ∀ (p : Program) (e : Env) (s : State) (m : MethodId) (below : List Frame) (meth : Method) (c : Code) (A : Nat → Prop) (ls : Array Slot) (args : Array Value) (QQ : State → Prop), QQ = vx_MQ below (Qc A) (XC A) args s mc ms A → fk_At p s m meth c y cc maxL ret args ws → va_P D vwCl w0 s.heap → va_K D vwCl tys s → fk_NW s → va_D A w0 → (∀ q : Nat, s.heap.size ≤ q → A q) → va_S A s.heap s.heap [] → lv_has ls maxL (lv_args 0 av) → c.exceptionTable.toList = tableOf hh → fk_XW A s s.heap →
      W p l e rm s m args below meth c s.heap [] 0 0 QQ (F0 m 0 ls [])) :
    vx_Met l y ws rm (va_Pc av (fk_preT D tys w0 sz)) (Qc (va_A w0 sz)) (XC (va_A w0 sz)) mc ms (va_A w0 sz) := by
  subst hw
  refine vx_ofWH (cc := cc) (maxL := maxL) (ret := ret) (hh := hh) hy rfl ?_
  intro p e s m args below meth c s₁ B hml hv
  obtain ⟨rfl, ⟨hsz, hP, hK, hN, hD0⟩, hX⟩ := hv
  subst hsz
  have hl := lv_entry av hn
  have htab := vx_table (x := y) B (atoms_spec (ws := Cond.codeWith y cc maxL ret hh :: ws') B.pre _ List.mem_cons_self)
  rw [lg_entry_eq]
  exact body p e s m below meth c _ _ _ _ rfl ⟨⟨B.exec, B.bytes, hml, findClass_of_methodNamed B.named, atoms_spec (ws := Cond.codeWith y cc maxL ret hh :: ws') B.pre⟩, B.returns, B.notSynchronized, (name_of_methodNamed B.named B.method).1⟩ hP hK hN (hD0.self (sz := s.heap.size)) (fun q h => Or.inr h) va_S.rf hl htab hX
/-! PUTting 0 goes by the ratio. -/
theorem fk_abs_sc {b n : Int} (hb : 0 < b) : fk_abs (b * n) = b * fk_abs n := by
  rw [fk_abs_mul, show fk_abs b = b by rw [fk_abs, if_neg (by omega)]]
theorem fk_neg_sc {b n : Int} (hb : 0 < b) : b * n < 0 ↔ n < 0 := by
  constructor
  · intro h
    rcases Int.lt_or_le n 0 with q | q
    · exact q
    · have := Int.mul_nonneg (Int.le_of_lt hb) q; omega
  · intro h; exact Int.mul_neg_of_pos_of_neg hb h
theorem fk_zero_sc {b n : Int} (hb : 0 < b) : b * n = 0 ↔ n = 0 := by
  constructor
  · intro h
    rcases Int.mul_eq_zero.mp h with q | q
    · omega
    · exact q
  · intro h; rw [h, Int.mul_zero]
theorem fk_round_sc (rd : Int32) {b n d : Int} (hb : 0 < b) : fk_round rd (b * n) (b * d) = fk_round rd n d := by
  have e1 : fk_abs (b * n) / (b * d) = fk_abs n / d := by rw [fk_abs_sc hb, Int.mul_ediv_mul_of_pos _ _ hb]
  have e2 : fk_abs (b * n) % (b * d) = b * (fk_abs n % d) := by rw [fk_abs_sc hb, Int.mul_emod_mul_of_pos _ _ hb]
  have e3 : (b * n % (b * d) = 0) = (n % d = 0) := by rw [Int.mul_emod_mul_of_pos _ _ hb]; exact propext (fk_zero_sc hb)
  have e4 : (b * n < 0) = (n < 0) := propext (fk_neg_sc hb)
  have e5 : 2 * (b * (fk_abs n % d)) - b * d = b * (2 * (fk_abs n % d) - d) := by grind
  have e6 : (b * (2 * (fk_abs n % d) - d) = 0) = (2 * (fk_abs n % d) - d = 0) := propext (fk_zero_sc hb)
  have e7 : (b * (2 * (fk_abs n % d) - d) < 0) = (2 * (fk_abs n % d) - d < 0) := propext (fk_neg_sc hb)
  have eu : fk_up rd (b * n) (b * d) = fk_up rd n d := by
    unfold fk_up fk_aw
    simp only [e1, e2, e3, e4, e5, e6, e7]
  rw [fk_round, fk_round, e1, eu]
  simp only [e4]
theorem fk_P_0 (K : fk_K) {b : Int} (hb : 0 < b) : fk_P K 0 b = fk_P K 0 1 := by
  have e : ∀ rd up dn of, fk_pR rd up dn of 0 b = fk_pR rd up dn of 0 1 := by
    intro rd up dn of
    rw [fk_pR, fk_pR, fk_pN, fk_pD, fk_pN, fk_pD, show (0 + b * -of.toInt) * dn.toInt = b * ((0 + 1 * -of.toInt) * dn.toInt) by grind, fk_round_sc rd hb, Int.one_mul, Int.one_mul]
  rw [fk_P, fk_P, fk_put, fk_put, e]
