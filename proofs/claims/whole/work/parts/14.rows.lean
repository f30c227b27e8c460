/-! Array rows with the place as a natural number; the array types of both; the links among nest mates by name. -/
abbrev fk_ty (cJ cC cI cZ cK : ClassId) : List (ClassId × FieldType) := [(cJ, .long), (cC, .char), (cI, .int), (cZ, .boolean), (cK, .object "FixedKinds$Kind")]
theorem fk_neA {ws : va_W} {q0 q1 a b : Nat} {x : Nat × List Value} {y : ClassId × vp_A} (h0 : ws[q0]? = some (a, .inr x)) (h1 : ws[q1]? = some (b, .inl y)) : q1 ≠ q0 := by
  intro h; subst h; rw [h0] at h1; simp at h1
section FkRows
variable {p : Program} {l : Launch} {e : Env} {R : Room} {s : State} {m : MethodId} {args : Array Value} {below : List Frame} {meth : Method} {c : Code} {H H0 : Heap} {locs : List Loc} {cells slots : Nat} {Q : State → Prop} {pc : Nat} {ls : Array Slot} {rest : List Value} {D : va_G} {cl : List vw_C} {tys : List (ClassId × FieldType)} {ws : va_W} {A : Nat → Prop} {cc : ByteArray} {a : Nat}
theorem fk_lald (hexec : p.tables.exec = Jvm.exec) (hb : c.code = cc) (hK : va_K D cl tys s) (hP : va_P D cl ws H) (q0 t0 : Nat) {cA : ClassId} {n : Nat} {f : Nat → Int64} (ha : ws[q0]? = some (a, .inl (cA, n, .inr (.inl f)))) (ht : tys[t0]? = some (cA, .long)) {i : Nat} (hi : i < n) (hn : n < 2 ^ 31) (hdg : decode cc pc = .ok (.laload, 1))
    (kk : W p l e R s m args below meth c H locs cells slots Q (F0 m (pc + 1) ls (.long (f i) :: rest))) : W p l e R s m args below meth c H locs cells slots Q (F0 m pc ls (.int (nI i) :: .ref a :: rest)) := by
  refine va_lald hexec hb hK hP q0 t0 ha ht (vp_in_nI hi hn) hdg ?_
  rw [nI_clamp (by omega)]; exact kk
theorem fk_last (hexec : p.tables.exec = Jvm.exec) (hb : c.code = cc) (hK : va_K D cl tys s) (hP : va_P D cl ws H) (hD : va_D A ws) (hS : va_S A H0 H locs) (q0 t0 : Nat) {cA : ClassId} {n : Nat} {f : Nat → Int64} (ha : ws[q0]? = some (a, .inl (cA, n, .inr (.inl f)))) (ht : tys[t0]? = some (cA, .long)) {i : Nat} {x : Int64} (hi : i < n) (hn : n < 2 ^ 31) (hdg : decode cc pc = .ok (.lastore, 1))
    (kk : ∀ (H1 : Heap) (locs1 : List Loc), va_P D cl (ws.set q0 (a, .inl (cA, n, .inr (.inl (vp_updL f i x))))) H1 → va_D A (ws.set q0 (a, .inl (cA, n, .inr (.inl (vp_updL f i x))))) → va_S A H0 H1 locs1 → W p l e R s m args below meth c H1 locs1 cells slots Q (F0 m (pc + 1) ls rest)) : W p l e R s m args below meth c H locs cells slots Q (F0 m pc ls (.long x :: .int (nI i) :: .ref a :: rest)) := by
  refine va_last hexec hb hK hP hD hS q0 t0 ha ht (vp_in_nI hi hn) hdg (fun H1 locs1 h1 h2 h3 => ?_)
  rw [nI_clamp (by omega)] at h1 h2
  exact kk H1 locs1 h1 h2 h3
theorem fk_iald (hexec : p.tables.exec = Jvm.exec) (hb : c.code = cc) (hK : va_K D cl tys s) (hP : va_P D cl ws H) (q0 t0 : Nat) {cA : ClassId} {n : Nat} {f : Nat → Int32} (ha : ws[q0]? = some (a, .inl (cA, n, .inl f))) (ht : tys[t0]? = some (cA, .int)) {i : Nat} (hi : i < n) (hn : n < 2 ^ 31) (hdg : decode cc pc = .ok (.iaload, 1))
    (kk : W p l e R s m args below meth c H locs cells slots Q (F0 m (pc + 1) ls (.int (f i) :: rest))) : W p l e R s m args below meth c H locs cells slots Q (F0 m pc ls (.int (nI i) :: .ref a :: rest)) := by
  refine va_iald hexec hb hK hP q0 t0 ha ht (vp_in_nI hi hn) hdg ?_
  rw [nI_clamp (by omega)]; exact kk
theorem fk_iast (hexec : p.tables.exec = Jvm.exec) (hb : c.code = cc) (hK : va_K D cl tys s) (hP : va_P D cl ws H) (hD : va_D A ws) (hS : va_S A H0 H locs) (q0 t0 : Nat) {cA : ClassId} {n : Nat} {f : Nat → Int32} (ha : ws[q0]? = some (a, .inl (cA, n, .inl f))) (ht : tys[t0]? = some (cA, .int)) {i : Nat} {x : Int32} (hi : i < n) (hn : n < 2 ^ 31) (hdg : decode cc pc = .ok (.iastore, 1))
    (kk : ∀ (H1 : Heap) (locs1 : List Loc), va_P D cl (ws.set q0 (a, .inl (cA, n, .inl (upd f i x)))) H1 → va_D A (ws.set q0 (a, .inl (cA, n, .inl (upd f i x)))) → va_S A H0 H1 locs1 → W p l e R s m args below meth c H1 locs1 cells slots Q (F0 m (pc + 1) ls rest)) : W p l e R s m args below meth c H locs cells slots Q (F0 m pc ls (.int x :: .int (nI i) :: .ref a :: rest)) := by
  refine va_iast hexec hb hK hP hD hS q0 t0 ha ht (vp_in_nI hi hn) hdg (fun H1 locs1 h1 h2 h3 => ?_)
  rw [nI_clamp (by omega)] at h1 h2
  exact kk H1 locs1 h1 h2 h3
theorem fk_cald (hexec : p.tables.exec = Jvm.exec) (hb : c.code = cc) (hK : va_K D cl tys s) (hP : va_P D cl ws H) (q0 t0 : Nat) {cA : ClassId} {n : Nat} {f : Nat → Int32} (ha : ws[q0]? = some (a, .inl (cA, n, .inl f))) (ht : tys[t0]? = some (cA, .char)) {i : Nat} (hi : i < n) (hn : n < 2 ^ 31) (hdg : decode cc pc = .ok (.caload, 1))
    (kk : W p l e R s m args below meth c H locs cells slots Q (F0 m (pc + 1) ls (.int (f i) :: rest))) : W p l e R s m args below meth c H locs cells slots Q (F0 m pc ls (.int (nI i) :: .ref a :: rest)) := by
  refine va_cald hexec hb hK hP q0 t0 ha ht (vp_in_nI hi hn) hdg ?_
  rw [nI_clamp (by omega)]; exact kk
theorem fk_cast (hexec : p.tables.exec = Jvm.exec) (hb : c.code = cc) (hK : va_K D cl tys s) (hP : va_P D cl ws H) (hD : va_D A ws) (hS : va_S A H0 H locs) (q0 t0 : Nat) {cA : ClassId} {n : Nat} {f : Nat → Int32} (ha : ws[q0]? = some (a, .inl (cA, n, .inl f))) (ht : tys[t0]? = some (cA, .char)) {i : Nat} {x : Int32} (hi : i < n) (hn : n < 2 ^ 31) (hdg : decode cc pc = .ok (.castore, 1))
    (kk : ∀ (H1 : Heap) (locs1 : List Loc), va_P D cl (ws.set q0 (a, .inl (cA, n, .inl (upd f i (vp_nar .char x))))) H1 → va_D A (ws.set q0 (a, .inl (cA, n, .inl (upd f i (vp_nar .char x))))) → va_S A H0 H1 locs1 → W p l e R s m args below meth c H1 locs1 cells slots Q (F0 m (pc + 1) ls rest)) : W p l e R s m args below meth c H locs cells slots Q (F0 m pc ls (.int x :: .int (nI i) :: .ref a :: rest)) := by
  refine va_cast hexec hb hK hP hD hS q0 t0 ha ht (vp_in_nI hi hn) hdg (fun H1 locs1 h1 h2 h3 => ?_)
  rw [nI_clamp (by omega)] at h1 h2
  exact kk H1 locs1 h1 h2 h3
theorem fk_zald (hexec : p.tables.exec = Jvm.exec) (hb : c.code = cc) (hK : va_K D cl tys s) (hP : va_P D cl ws H) (q0 t0 : Nat) {cA : ClassId} {n : Nat} {f : Nat → Int32} (ha : ws[q0]? = some (a, .inl (cA, n, .inl f))) (ht : tys[t0]? = some (cA, .boolean)) {i : Nat} (hi : i < n) (hn : n < 2 ^ 31) (hdg : decode cc pc = .ok (.baload, 1))
    (kk : W p l e R s m args below meth c H locs cells slots Q (F0 m (pc + 1) ls (.int (f i) :: rest))) : W p l e R s m args below meth c H locs cells slots Q (F0 m pc ls (.int (nI i) :: .ref a :: rest)) := by
  refine va_zald hexec hb hK hP q0 t0 ha ht (vp_in_nI hi hn) hdg ?_
  rw [nI_clamp (by omega)]; exact kk
theorem fk_zast (hexec : p.tables.exec = Jvm.exec) (hb : c.code = cc) (hK : va_K D cl tys s) (hP : va_P D cl ws H) (hD : va_D A ws) (hS : va_S A H0 H locs) (q0 t0 : Nat) {cA : ClassId} {n : Nat} {f : Nat → Int32} (ha : ws[q0]? = some (a, .inl (cA, n, .inl f))) (ht : tys[t0]? = some (cA, .boolean)) {i : Nat} {x : Int32} (hi : i < n) (hn : n < 2 ^ 31) (hdg : decode cc pc = .ok (.bastore, 1))
    (kk : ∀ (H1 : Heap) (locs1 : List Loc), va_P D cl (ws.set q0 (a, .inl (cA, n, .inl (upd f i (vp_nar .boolean x))))) H1 → va_D A (ws.set q0 (a, .inl (cA, n, .inl (upd f i (vp_nar .boolean x))))) → va_S A H0 H1 locs1 → W p l e R s m args below meth c H1 locs1 cells slots Q (F0 m (pc + 1) ls rest)) : W p l e R s m args below meth c H locs cells slots Q (F0 m pc ls (.int x :: .int (nI i) :: .ref a :: rest)) := by
  refine va_zast hexec hb hK hP hD hS q0 t0 ha ht (vp_in_nI hi hn) hdg (fun H1 locs1 h1 h2 h3 => ?_)
  rw [nI_clamp (by omega)] at h1 h2
  exact kk H1 locs1 h1 h2 h3
theorem fk_aldq (hexec : p.tables.exec = Jvm.exec) (hb : c.code = cc) (hK : va_K D cl tys s) (hP : va_P D cl ws H) (q0 t0 : Nat) {cA : ClassId} {C : String} {n : Nat} {f : Nat → Option Nat} (ha : ws[q0]? = some (a, .inl (cA, n, .inr (.inr (.inr (.inr f)))))) (ht : tys[t0]? = some (cA, .object C)) {i : Nat} (hi : i < n) (hn : n < 2 ^ 31) (hdg : decode cc pc = .ok (.aaload, 1))
    (kk : W p l e R s m args below meth c H locs cells slots Q (F0 m (pc + 1) ls (va_rf (f i) :: rest))) : W p l e R s m args below meth c H locs cells slots Q (F0 m pc ls (.int (nI i) :: .ref a :: rest)) := by
  refine va_aldq hexec hb hK hP q0 t0 ha ht (vp_in_nI hi hn) hdg ?_
  rw [nI_clamp (by omega)]; exact kk
end FkRows
theorem fkn_X3_32 : (Cond.methodLinkNest RX3 32 yX0_init "FixedKinds") ∈ fk_nest := by decide +kernel
theorem fkn_X3_42 : (Cond.methodLinkNest RX3 42 yX2_init "FixedKinds") ∈ fk_nest := by decide +kernel
theorem fkn_X3_59 : (Cond.methodLinkNest RX3 59 yX1_init "FixedKinds") ∈ fk_nest := by decide +kernel
theorem fkn_X3_72 : (Cond.methodLinkNest RX3 72 yX0_take "FixedKinds") ∈ fk_nest := by decide +kernel
theorem fkn_X3_76 : (Cond.methodLinkNest RX3 76 yX0_sign "FixedKinds") ∈ fk_nest := by decide +kernel
theorem fkn_X3_101 : (Cond.methodLinkNest RX3 101 yX0_reduce "FixedKinds") ∈ fk_nest := by decide +kernel
theorem fkn_X3_108 : (Cond.methodLinkNest RX3 108 yX2_bitsFrom "FixedKinds") ∈ fk_nest := by decide +kernel
theorem fkn_X3_114 : (Cond.methodLinkNest RX3 114 yX2_isNegative "FixedKinds") ∈ fk_nest := by decide +kernel
theorem fkn_X3_118 : (Cond.methodLinkNest RX3 118 yX0_toMillionths "FixedKinds") ∈ fk_nest := by decide +kernel
theorem fkn_X3_122 : (Cond.methodLinkNest RX3 122 yX2_isZero "FixedKinds") ∈ fk_nest := by decide +kernel
theorem fkn_X3_140 : (Cond.methodLinkNest RX3 140 yX1_least "FixedKinds") ∈ fk_nest := by decide +kernel
theorem fkn_X3_144 : (Cond.methodLinkNest RX3 144 yX1_greatest "FixedKinds") ∈ fk_nest := by decide +kernel
theorem fkn_X3_149 : (Cond.methodLinkNest RX3 149 yX0_add "FixedKinds") ∈ fk_nest := by decide +kernel
theorem fkn_X3_153 : (Cond.methodLinkNest RX3 153 yX1_octets "FixedKinds") ∈ fk_nest := by decide +kernel
theorem fkn_X3_156 : (Cond.methodLinkNest RX3 156 yX1_bits "FixedKinds") ∈ fk_nest := by decide +kernel
theorem fkn_X3_169 : (Cond.methodLinkNest RX3 169 yX0_multiply "FixedKinds") ∈ fk_nest := by decide +kernel
theorem fkn_X3_173 : (Cond.methodLinkNest RX3 173 yX0_divide "FixedKinds") ∈ fk_nest := by decide +kernel
theorem fkn_X3_176 : (Cond.methodLinkNest RX3 176 yX0_toRawScale "FixedKinds") ∈ fk_nest := by decide +kernel
theorem fkn_X3_180 : (Cond.methodLinkNest RX3 180 yX0_round "FixedKinds") ∈ fk_nest := by decide +kernel
theorem fkn_X3_184 : (Cond.methodLinkNest RX3 184 yX2_fitsLong "FixedKinds") ∈ fk_nest := by decide +kernel
theorem fkn_X3_187 : (Cond.methodLinkNest RX3 187 yX1_isRaw "FixedKinds") ∈ fk_nest := by decide +kernel
theorem fkn_X3_193 : (Cond.methodLinkNest RX3 193 yX1_broughtIn "FixedKinds") ∈ fk_nest := by decide +kernel
theorem fkn_X3_200 : (Cond.methodLinkNest RX3 200 yX2_shorten "FixedKinds") ∈ fk_nest := by decide +kernel
theorem fkn_X0_11 : (Cond.methodLinkNest RX0 11 yX2_init "FixedKinds") ∈ fk_nest := by decide +kernel
theorem fkn_X0_21 : (Cond.methodLinkNest RX0 21 yX1_broughtIn "FixedKinds") ∈ fk_nest := by decide +kernel
theorem fkn_X0_27 : (Cond.methodLinkNest RX0 27 yX2_setTo "FixedKinds") ∈ fk_nest := by decide +kernel
theorem fkn_X0_35 : (Cond.methodLinkNest RX0 35 yX2_scale "FixedKinds") ∈ fk_nest := by decide +kernel
theorem fkn_X0_44 : (Cond.methodLinkNest RX0 44 yX2_grow "FixedKinds") ∈ fk_nest := by decide +kernel
theorem fkn_X0_47 : (Cond.methodLinkNest RX0 47 yX2_isZero "FixedKinds") ∈ fk_nest := by decide +kernel
theorem fkn_X0_51 : (Cond.methodLinkNest RX0 51 yX2_isNegative "FixedKinds") ∈ fk_nest := by decide +kernel
theorem fkn_X0_54 : (Cond.methodLinkNest RX0 54 yX2_multiply "FixedKinds") ∈ fk_nest := by decide +kernel
theorem fkn_X0_58 : (Cond.methodLinkNest RX0 58 yX2_addTimes "FixedKinds") ∈ fk_nest := by decide +kernel
theorem fkn_X0_64 : (Cond.methodLinkNest RX0 64 yX2_divide "FixedKinds") ∈ fk_nest := by decide +kernel
theorem fkn_X0_68 : (Cond.methodLinkNest RX0 68 yX2_isOdd "FixedKinds") ∈ fk_nest := by decide +kernel
theorem fkn_X0_77 : (Cond.methodLinkNest RX0 77 yX2_bitsFrom "FixedKinds") ∈ fk_nest := by decide +kernel
theorem fkn_X0_81 : (Cond.methodLinkNest RX0 81 yX2_copy "FixedKinds") ∈ fk_nest := by decide +kernel
theorem fkn_X0_84 : (Cond.methodLinkNest RX0 84 yX2_shorten "FixedKinds") ∈ fk_nest := by decide +kernel
theorem fkn_X3_66 : (Cond.fieldLinkNest RX3 66 "FixedKinds$Kind" "overflow" "I" "FixedKinds") ∈ fk_nest := by decide +kernel
theorem fkn_X3_69 : (Cond.fieldLinkNest RX3 69 "FixedKinds$Kind" "rounding" "I" "FixedKinds") ∈ fk_nest := by decide +kernel
theorem fkn_X3_98 : (Cond.fieldLinkNest RX3 98 "FixedKinds$Fraction" "above" "LFixedKinds$Whole;" "FixedKinds") ∈ fk_nest := by decide +kernel
theorem fkn_X3_105 : (Cond.fieldLinkNest RX3 105 "FixedKinds$Fraction" "below" "LFixedKinds$Whole;" "FixedKinds") ∈ fk_nest := by decide +kernel
theorem fkn_X3_160 : (Cond.fieldLinkNest RX3 160 "FixedKinds$Kind" "width" "I" "FixedKinds") ∈ fk_nest := by decide +kernel
theorem fkn_X0_31 : (Cond.fieldLinkNest RX0 31 "FixedKinds$Kind" "up" "J" "FixedKinds") ∈ fk_nest := by decide +kernel
theorem fkn_X0_38 : (Cond.fieldLinkNest RX0 38 "FixedKinds$Kind" "offset" "J" "FixedKinds") ∈ fk_nest := by decide +kernel
theorem fkn_X0_41 : (Cond.fieldLinkNest RX0 41 "FixedKinds$Kind" "down" "J" "FixedKinds") ∈ fk_nest := by decide +kernel
