/-! Contracts over one world that stays the caller's: start, call, end. -/
def fk_isN : Cond → Bool
  | .methodLinkNest .. => true
  | .fieldLinkNest .. => true
  | _ => false
def fk_nest : List Cond := tables_1.filter fk_isN
/-- the links among nest mates, as the tables have them -/
def fk_NW (U : State) : Prop := ∀ w ∈ fk_nest, va_Nw w U
theorem fk_NW.same {u U : State} (h : u.vm = U.vm) (hN : fk_NW u) : fk_NW U := by
  intro w hw
  have h1 := hN w hw
  have h2 : fk_isN w = true := (List.mem_filter.mp hw).2
  cases w <;> first | (simp [fk_isN] at h2; done) | exact va_Nw.same rfl h h1
theorem fk_NW.warm {s U : State} (hW : s.WarmedH U.vm) (hN : fk_NW s) : fk_NW U := by
  intro w hw
  have h1 := hN w hw
  have h2 : fk_isN w = true := (List.mem_filter.mp hw).2
  cases w <;> first | (simp [fk_isN] at h2; done) | exact va_Nw.warmM hW h1 | exact va_Nw.warmF hW h1
theorem fk_NW.of {s : State} {args : Array Value} (h : ∀ w ∈ tables_1, w.before args s = true) : fk_NW s := by
  intro w hw
  obtain ⟨h1, h2⟩ := List.mem_filter.mp hw
  have h3 := h w h1
  cases w <;> first | (simp [fk_isN] at h2; done) | exact va_Nw.of rfl h3
abbrev fk_pre (D : va_G) (tys : List (ClassId × FieldType)) (ws : va_W) (sz : Nat) (U : State) : Prop := U.heap.size = sz ∧ va_P D vwCl ws U.heap ∧ va_K D vwCl tys U ∧ fk_NW U ∧ va_D (fun _ => True) ws
abbrev fk_Bd {S : Type} (D : va_G) (tys : List (ClassId × FieldType)) (A : Nat → Prop) (w1 : S → va_W) (u : S) (t : State) : Prop := va_P D vwCl (w1 u) t.heap ∧ va_K D vwCl tys t ∧ va_D A (w1 u)
theorem fk_blind {D : va_G} {tys : List (ClassId × FieldType)} {ws : va_W} {sz : Nat} {av : List Value} : FrameBlind (va_Pc av (fk_pre D tys ws sz)) := fun a U g mk q => by
  obtain ⟨q0, q1, qP, qK, qN, qD⟩ := q
  exact ⟨q0, q1, qP, va_K.moved (u := U) (U := U.calling g mk a) (Vm.Alike.refl U.vm) qK, fk_NW.same (u := U) (U := U.calling g mk a) rfl qN, qD⟩
theorem fk_preV {s : State} {H : Heap} {D : va_G} {tys : List (ClassId × FieldType)} {ws : va_W} {A : Nat → Prop} {b : Nat} {r : vw_C} {fs : List Value} {av : List Value} (q0 ci : Nat) (hK : va_K D vwCl tys s) (hN : fk_NW s) (hP : va_P D vwCl ws H) (hD : va_D A ws) (hc : vwCl[ci]? = some r) (he : ws[q0]? = some (b, .inr (ci, fs))) : PreV s H r.1 b (va_Pc (.ref b :: av) (fk_pre D tys ws H.size)) av :=
  ⟨fk_blind, va_recv hK hP hc he, fun U hU hW => ⟨rfl, by rw [hU], by rw [hU]; exact hP, va_K.moved hW.alike hK, hN.warm hW, hD.weaken (fun _ _ _ _ => trivial)⟩⟩
theorem fk_preS {s : State} {H : Heap} {D : va_G} {tys : List (ClassId × FieldType)} {ws : va_W} {A : Nat → Prop} {av : List Value} (hK : va_K D vwCl tys s) (hN : fk_NW s) (hP : va_P D vwCl ws H) (hD : va_D A ws) : PreS s H (va_Pc av (fk_pre D tys ws H.size)) av :=
  ⟨fk_blind, fun U hU hW => ⟨rfl, by rw [hU], by rw [hU]; exact hP, va_K.moved hW.alike hK, hN.warm hW, hD.weaken (fun _ _ _ _ => trivial)⟩⟩
section FkCalls
variable {p : Program} {l : Launch} {e : Env} {R : Room} {s : State} {m : MethodId} {args : Array Value} {below : List Frame} {meth : Method} {c : Code} {H H0 : Heap} {locs : List Loc} {cells slots mc ms : Nat} {Q : State → Prop} {pc : Nat} {ls : Array Slot} {st0 rest : List Value} {D : va_G} {tys : List (ClassId × FieldType)} {ws : va_W} {A : Nat → Prop} {a : Array Value} {S : Type}
theorem fk_fr (hD : va_D A ws) (hS : va_S A H0 H locs) (hA : ∀ q, H0.size ≤ q → A q) : ∀ q, va_A ws H.size q → A q := by
  intro q hq
  rcases hq with ⟨k, e, hk⟩ | hq
  · exact hD.2 k (q, e) hk
  · exact hA q (Nat.le_trans hS.1 hq)
theorem fk_cv {post : S → Prop} {w1 : S → va_W} (hD : va_D A ws) (hS : va_S A H0 H locs) (hA : ∀ q, H0.size ≤ q → A q)
    (hr : va_Run p l e R s m args below meth c H locs cells slots mc ms (F0 m pc ls st0) rest (va_Qv post (fk_Bd D tys (va_A ws H.size) w1) (va_A ws H.size) a) (va_A ws H.size))
    (kk : ∀ (u : S) (H1 : Heap) (locs1 : List Loc), post u → va_P D vwCl (w1 u) H1 → va_D A (w1 u) → va_S A H0 H1 locs1 → W p l e R s m args below meth c H1 locs1 (cells + mc) (slots + ms) Q (F0 m (pc + 3) ls rest)) :
    W p l e R s m args below meth c H locs cells slots Q (F0 m pc ls st0) := by
  have hF := fk_fr hD hS hA
  refine va_callv hr hS (fun q _ h => hF q h) hF (fun u t H1 locs1 ht hvm hw hB hz hk hS1 => ?_)
  obtain ⟨hP1, -, hD1⟩ := hB
  rw [ht] at hP1
  exact kk u H1 locs1 hw hP1 (hD1.weaken (fun _ _ _ h => hF _ h)) hS1
theorem fk_ci {post : Int32 → S → Prop} {w1 : S → va_W} (hD : va_D A ws) (hS : va_S A H0 H locs) (hA : ∀ q, H0.size ≤ q → A q)
    (hr : va_Run p l e R s m args below meth c H locs cells slots mc ms (F0 m pc ls st0) rest (va_Qi post (fk_Bd D tys (va_A ws H.size) w1) (va_A ws H.size) a) (va_A ws H.size))
    (kk : ∀ (r : Int32) (u : S) (H1 : Heap) (locs1 : List Loc), post r u → va_P D vwCl (w1 u) H1 → va_D A (w1 u) → va_S A H0 H1 locs1 → W p l e R s m args below meth c H1 locs1 (cells + mc) (slots + ms) Q (F0 m (pc + 3) ls (.int r :: rest))) :
    W p l e R s m args below meth c H locs cells slots Q (F0 m pc ls st0) := by
  have hF := fk_fr hD hS hA
  refine va_calli hr hS (fun q _ h => hF q h) hF (fun r u t H1 locs1 ht hvm hw hB hz hk hS1 => ?_)
  obtain ⟨hP1, -, hD1⟩ := hB
  rw [ht] at hP1
  exact kk r u H1 locs1 hw hP1 (hD1.weaken (fun _ _ _ h => hF _ h)) hS1
theorem fk_cl {post : Int64 → S → Prop} {w1 : S → va_W} (hD : va_D A ws) (hS : va_S A H0 H locs) (hA : ∀ q, H0.size ≤ q → A q)
    (hr : va_Run p l e R s m args below meth c H locs cells slots mc ms (F0 m pc ls st0) rest (va_Ql post (fk_Bd D tys (va_A ws H.size) w1) (va_A ws H.size) a) (va_A ws H.size))
    (kk : ∀ (r : Int64) (u : S) (H1 : Heap) (locs1 : List Loc), post r u → va_P D vwCl (w1 u) H1 → va_D A (w1 u) → va_S A H0 H1 locs1 → W p l e R s m args below meth c H1 locs1 (cells + mc) (slots + ms) Q (F0 m (pc + 3) ls (.long r :: rest))) :
    W p l e R s m args below meth c H locs cells slots Q (F0 m pc ls st0) := by
  have hF := fk_fr hD hS hA
  refine va_calll hr hS (fun q _ h => hF q h) hF (fun r u t H1 locs1 ht hvm hw hB hz hk hS1 => ?_)
  obtain ⟨hP1, -, hD1⟩ := hB
  rw [ht] at hP1
  exact kk r u H1 locs1 hw hP1 (hD1.weaken (fun _ _ _ h => hF _ h)) hS1
theorem fk_cq {post : Option Nat → S → Prop} {w1 : S → va_W} (hD : va_D A ws) (hS : va_S A H0 H locs) (hA : ∀ q, H0.size ≤ q → A q)
    (hr : va_Run p l e R s m args below meth c H locs cells slots mc ms (F0 m pc ls st0) rest (va_Qq post (fk_Bd D tys (va_A ws H.size) w1) (va_A ws H.size) a) (va_A ws H.size))
    (kk : ∀ (r : Option Nat) (u : S) (H1 : Heap) (locs1 : List Loc), post r u → va_P D vwCl (w1 u) H1 → va_D A (w1 u) → va_S A H0 H1 locs1 → W p l e R s m args below meth c H1 locs1 (cells + mc) (slots + ms) Q (F0 m (pc + 3) ls (va_rf r :: rest))) :
    W p l e R s m args below meth c H locs cells slots Q (F0 m pc ls st0) := by
  have hF := fk_fr hD hS hA
  refine va_callq hr hS (fun q _ h => hF q h) hF (fun r u t H1 locs1 ht hvm hw hB hz hk hS1 => ?_)
  obtain ⟨hP1, -, hD1⟩ := hB
  rw [ht] at hP1
  exact kk r u H1 locs1 hw hP1 (hD1.weaken (fun _ _ _ h => hF _ h)) hS1
end FkCalls
/-- what a body's walk begins with -/
abbrev fk_At (p : Program) (s : State) (m : MethodId) (meth : Method) (c : Code) (y : MethodName) (cc : ByteArray) (maxL : Nat) (ret : Option FieldType) (args : Array Value) (Ts : List Cond) : Prop :=
  CallFix p m c cc maxL s args Ts y.cls ∧ meth.sig.returnType = ret ∧ meth.locks = false ∧ meth.name = y.name
theorem fk_ofW {l : Launch} {y : MethodName} {ws ws' : List Cond} {rm : Room} (cc : ByteArray) (maxL : Nat) (ret : Option FieldType) {D : va_G} {tys : List (ClassId × FieldType)} {w0 : va_W} {av : List Value} (Qc : (Nat → Prop) → Array Value → State → Outcome → State → Prop) {mc ms sz : Nat}
    (hw : ws = Cond.code y cc maxL ret :: ws') (hy : plainName y.cls = true) (hn : (lg_sl av).length ≤ maxL)
    (body : ∀ (p : Program) (e : Env) (s : State) (m : MethodId) (below : List Frame) (meth : Method) (c : Code) (A : Nat → Prop) (ls : Array Slot) (args : Array Value) (QQ : State → Prop), QQ = MQ below (Qc A) args s mc ms A → fk_At p s m meth c y cc maxL ret args ws → va_P D vwCl w0 s.heap → va_K D vwCl tys s → fk_NW s → va_D A w0 → (∀ q : Nat, s.heap.size ≤ q → A q) → va_S A s.heap s.heap [] → lv_has ls maxL (lv_args 0 av) →
      W p l e rm s m args below meth c s.heap [] 0 0 QQ (F0 m 0 ls [])) :
    Met l y ws rm (va_Pc av (fk_pre D tys w0 sz)) (Qc (va_A w0 sz)) mc ms (va_A w0 sz) := by
  subst hw
  refine Met.ofW (cc := cc) (maxL := maxL) (ret := ret) hy rfl ?_
  intro p e s m args below meth c s₁ B hml hv
  obtain ⟨rfl, hsz, hP, hK, hN, hD0⟩ := hv
  subst hsz
  have hl := lv_entry av hn
  rw [lg_entry_eq]
  exact body p e s m below meth c _ _ _ _ rfl ⟨⟨B.exec, B.bytes, hml, findClass_of_methodNamed B.named, atoms_spec (ws := Cond.code y cc maxL ret :: ws') B.pre⟩, B.returns, B.notSynchronized, (name_of_methodNamed B.named B.method).1⟩ hP hK hN (hD0.self (sz := s.heap.size)) (fun q h => Or.inr h) va_S.rf hl
theorem fk_sn {α : Type} {ws : List α} {i j : Nat} {x y : α} (h : ws[i]? = some x) (hn : j ≠ i) : (ws.set j y)[i]? = some x := by
  rw [List.getElem?_set_ne hn]; exact h
theorem fk_ss {α : Type} {ws : List α} {i : Nat} {x y : α} (h : ws[i]? = some x) : (ws.set i y)[i]? = some y := by
  have hl : i < ws.length := (List.getElem?_eq_some_iff.mp h).1
  rw [List.getElem?_set_self hl]
theorem fk_s2 {α : Type} (ws : List α) (i : Nat) (x y : α) : (ws.set i x).set i y = ws.set i y := List.set_set ..
theorem fk_s0 {α : Type} {ws : List α} {i : Nat} {x : α} (h : ws[i]? = some x) : ws.set i x = ws := by
  obtain ⟨hl, e⟩ := List.getElem?_eq_some_iff.mp h
  rw [← e]; exact List.set_getElem_self hl
theorem fk_s3 {α : Type} {ws : List α} {i j : Nat} {x y z : α} (h : i ≠ j) : ((ws.set i x).set j y).set i z = (ws.set i z).set j y := by
  rw [List.set_comm _ _ h, List.set_set]; exact List.set_comm _ _ h.symm
