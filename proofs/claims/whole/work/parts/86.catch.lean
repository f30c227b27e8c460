/-! A method whose table has one row: what is thrown over it is caught there. -/
section FkCatch
variable {p : Program} {l : Launch} {e : Env} {R : Room} {s : State} {m : MethodId} {args : Array Value} {below : List Frame} {meth : Method} {c : Code} {H : Heap} {locs : List Loc} {cells slots : Nat} {Q : State → Prop} {pc : Nat} {ls : Array Slot} {rest : List Value}
/-- the search through a table of one row, of a class that links -/
theorem fk_search {S : State} {g : JFrame} {q : Addr} {x : ExceptionTableEntry} {k : ClassId} {ce : Cell} (hm : S.vm.method? g.method = some meth) (hc : meth.code = some c) (htab : c.exceptionTable.toList = [x]) (hcov : covers x g.pc = true) (h0 : x.catchType ≠ 0)
    (hlk : S.vm.ClassLinks e.platform g.method.cls x.catchType k) (hce : S.heap[q]? = some ce) (hvm : ce.vm = .none) (hk1 : ∃ k1, S.vm.classes[ce.cls]? = some k1) (hk2 : ∃ k2, S.vm.classes[k]? = some k2) (hfit : S.vm.assignable ce.cls k = true) (Qh : Handler → Pre) (E : CtlPost) (d : Bool) (acts : List Action) :
    wp (findHandler g q) Qh E e d acts S ↔ Qh (.found x.handlerPc) d acts (S.setVm (S.vm.noted g.method.cls x.catchType (.cls k))) := by
  have hal : S.vm.Alike (S.vm.noted g.method.cls x.catchType (.cls k)) := (Vm.Alike.refl S.vm).noted _ _ _
  obtain ⟨k1, e1⟩ := hk1
  obtain ⟨k2, e2⟩ := hk2
  obtain ⟨j1, f1, -⟩ := hal.2.2 _ _ e1
  obtain ⟨j2, f2, -⟩ := hal.2.2 _ _ e2
  have hfit2 : (S.vm.noted g.method.cls x.catchType (.cls k)).assignable ce.cls k = true := by rw [hal.assignable]; exact hfit
  have hobj : ∀ z, ce.vm ≠ .statics z := fun z h => by rw [hvm] at h; cases h
  obtain ⟨r1, r2⟩ := (resolveClass_links e.toSetting hlk).op (op := VmOp.resolveClass g.method.cls x.catchType) rfl
  unfold covers at hcov
  rw [W.findHandler_eq hm hc, htab]
  simp [findHandler.go, hcov, h0, r1, r2, hce, hobj, f1, f2, hfit2, VmOp.dirties, VmOp.acts]
theorem fk_catch {own name : String} {E : String} {ce : Cell} {q : Addr} (hown : s.vm.findClass own = some m.cls) (x : ExceptionTableEntry) (htab : c.exceptionTable.toList = [x]) (hcov : covers x pc = true) (h0 : x.catchType ≠ 0)
    (hlink : (Cond.classLink own x.catchType name).before args s = true) (hcast : (Cond.castable E name).before args s = true) (hcell : H[q]? = some ce) (hv : ce.vm = .none) (hcl : s.vm.findClass E = some ce.cls)
    (kk : W p l e R s m args below meth c H locs cells slots Q (F0 m x.handlerPc ls [.ref q])) : vx_W p l e R s m args below meth c H locs cells slots Q (F0 m pc ls rest) q := by
  intro T hT X
  have hpl : e.platform.magicAccessors = ({} : Platform).magicAccessors := by rw [X.admits.platform]
  obtain ⟨a1, a2, b1, b2, hasg⟩ := Cond.castable_spec hcast
  cases Option.some.inj (b1.symm.trans hcl)
  obtain ⟨a3, b3, hlk⟩ := Cond.classLink_spec hown hlink e.platform hpl
  cases Option.some.inj (b2.symm.trans b3)
  obtain ⟨dk, _, _, kt, hd, _, _, _, _, hkt, _, hopen⟩ := hlk.here
  have hW := X.warmed.noted hd hopen (State.rightAt_cls hlk)
  obtain ⟨kt2, hkt2, -⟩ := X.warmed.alike.2.2 _ _ hkt
  obtain ⟨kc, hkc, -⟩ := Vm.findClass_spec hcl
  obtain ⟨kc2, hkc2, -⟩ := X.warmed.alike.2.2 _ _ hkc
  have hfit : T.vm.assignable ce.cls a2 = true := by rw [X.warmed.alike.assignable]; exact hasg
  obtain ⟨t, st, hq⟩ := kk (T.setVm (T.vm.noted m.cls x.catchType (.cls a2))) hT (X.noted hW)
  refine ⟨t, ?_, hq⟩
  have hA : At T (F0 m pc ls rest).method c below := X.here
  obtain ⟨hgo, hin⟩ := hA.throwing q
  refine Steps.head hgo hin ?_
  rw [stepThread_throwing (frames_entered hA.top _)]
  have hfd : ∀ (Qh : Handler → Pre) (E : CtlPost) (d : Bool) (acts : List Action), wp (findHandler (F0 m pc ls rest) q) Qh E e d acts ((T.setTop (F0 m pc ls rest)).pushFrame (.throwing q)) ↔ Qh (.found x.handlerPc) d acts (((T.setTop (F0 m pc ls rest)).pushFrame (.throwing q)).setVm (T.vm.noted m.cls x.catchType (.cls a2))) := fun Qh E d acts =>
    fk_search (e := e) (S := (T.setTop (F0 m pc ls rest)).pushFrame (.throwing q)) (g := F0 m pc ls rest) X.method' X.code htab hcov h0 (X.warmed.classLinks hlk) (by rw [← hT] at hcell; exact hcell) hv ⟨kc2, hkc2⟩ ⟨kt2, hkt2⟩ hfit Qh E d acts
  have hs : (stepThrowing e ((T.setTop (F0 m pc ls rest)).pushFrame (.throwing q)) q (.java (F0 m pc ls rest) :: T.frames.tail)).Is ((((T.setTop (F0 m pc ls rest)).pushFrame (.throwing q)).setVm (T.vm.noted m.cls x.catchType (.cls a2))).setFrames (.java (F0 m x.handlerPc ls [.ref q]) :: T.frames.tail)) [] := by
    simp only [stepThrowing, searchFrame, vmDo]
    generalize hr : Sem.go _ e false [] _ = res
    obtain ⟨as, rfl, ha⟩ := Sem.eq_ok_of hr (a := Handler.found x.handlerPc) (s' := ((T.setTop (F0 m pc ls rest)).pushFrame (.throwing q)).setVm (T.vm.noted m.cls x.catchType (.cls a2))) (acts' := []) (by simp [hfd _ _ _ _])
    exact ⟨rfl, ha⟩
  rw [hs.1]
  obtain ⟨g0, hg0⟩ := Option.isSome_iff_exists.mp hA.top
  obtain ⟨r, hr⟩ := State.topJava?_eq_some.mp hg0
  have hr2 : (T.setVm (T.vm.noted m.cls x.catchType (.cls a2))).frames = .java g0 :: r := hr
  rw [State.setTop_of_frames _ hr2] at st
  have e3 : (((T.setTop (F0 m pc ls rest)).pushFrame (.throwing q)).setVm (T.vm.noted m.cls x.catchType (.cls a2))).setFrames (.java (F0 m x.handlerPc ls [.ref q]) :: T.frames.tail) = (T.setVm (T.vm.noted m.cls x.catchType (.cls a2))).setFrames (.java (F0 m x.handlerPc ls [.ref q]) :: r) := by
    have z : ∀ (u : State) (v : Vm) (F G : List Frame), ((u.setFrames F).setVm v).setFrames G = (u.setVm v).setFrames G := fun u v F G => by
      rw [show (u.setFrames F).setVm v = (u.setVm v).setFrames F from rfl, State.setFrames_setFrames]
    rw [State.pushFrame, z, State.setTop_of_frames _ hr, z, hr]
    rfl
  rw [e3]
  exact st
end FkCatch
