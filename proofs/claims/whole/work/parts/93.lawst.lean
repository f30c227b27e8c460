/-! The law: what holds around its loop. -/
def fk_lg (hi lo : Int32) : Int64 := (hi.toInt64 <<< ((32 : Int32).toInt64 &&& 63)) ||| (lo.toInt64 &&& 4294967295)
theorem fk_un {f : Nat → Int32} {k i : Nat} {x : Int32} (h : i ≠ k) : upd f k x i = f i := by
  show (if i = k then x else f i) = f i
  exact if_neg h
theorem fk_us {f : Nat → Int32} {k : Nat} {x : Int32} : upd f k x k = x := by
  show (if k = k then x else f k) = x
  exact if_pos rfl
theorem fk_ln {f : Nat → Int64} {k i : Nat} {x : Int64} (h : i ≠ k) : vp_updL f k x i = f i := by
  show (if i = k then x else f i) = f i
  exact if_neg h
theorem fk_lu {f : Nat → Int64} {k : Nat} {x : Int64} : vp_updL f k x k = x := by
  show (if k = k then x else f k) = x
  exact if_pos rfl
theorem fk_okR {K : fk_K} {ov rd : Int32} (h : fk_ok K) (hr : ¬ fk_badR ov rd) : fk_ok (K.1, K.2.1, K.2.2.1, K.2.2.2.1, K.2.2.2.2.1, ov, rd) := by
  have h1 : 0 ≤ ov.toInt ∧ ov.toInt ≤ 2 ∧ 0 ≤ rd.toInt ∧ rd.toInt ≤ 3 := by unfold fk_badR at hr; omega
  refine ⟨h.1, ?_, ?_⟩
  · rcases (show ov.toInt = 0 ∨ ov.toInt = 1 ∨ ov.toInt = 2 by omega) with q | q | q
    · exact Or.inl (Int32.toInt_inj.mp (by rw [q]; decide))
    · exact Or.inr (Or.inl (Int32.toInt_inj.mp (by rw [q]; decide)))
    · exact Or.inr (Or.inr (Int32.toInt_inj.mp (by rw [q]; decide)))
  · rcases (show rd.toInt = 0 ∨ rd.toInt = 1 ∨ rd.toInt = 2 ∨ rd.toInt = 3 by omega) with q | q | q | q
    · exact Or.inl (Int32.toInt_inj.mp (by rw [q]; decide))
    · exact Or.inr (Or.inl (Int32.toInt_inj.mp (by rw [q]; decide)))
    · exact Or.inr (Or.inr (Or.inl (Int32.toInt_inj.mp (by rw [q]; decide))))
    · exact Or.inr (Or.inr (Or.inr (Int32.toInt_inj.mp (by rw [q]; decide))))
theorem fk_okK {w sg : Int32} {up dn of : Int64} (h : ¬ fk_badK w sg up dn of) (hu : up ≠ 0) (hsg : sg = 0 ∨ sg = 1) : fk_ok (fk_mkK w sg up dn of) ∧ nI w.toInt.toNat = w := by
  obtain ⟨⟨w1, w2, w3⟩, ⟨⟨s1, s2⟩, s3, s4⟩, o1, o2⟩ := Classical.not_not.mp h
  have hz : up.toInt ≠ 0 := fun q => hu (Int64.toInt_inj.mp (by rw [q]; decide))
  refine ⟨⟨⟨⟨?_, ?_, hsg, ?_⟩, ⟨(show 1 ≤ up.toInt by omega), s2⟩, ⟨s3, s4⟩, o1, o2⟩, Or.inl rfl, Or.inl rfl⟩, ?_⟩
  · show 8 ≤ w.toInt.toNat; omega
  · show w.toInt.toNat ≤ 64; omega
  · intro q
    have q : w.toInt.toNat = 64 := q
    rcases hsg with z | z
    · have := w3 z; omega
    · exact z
  · apply Int32.toInt_inj.mp; rw [nI_toInt (by omega)]; omega
theorem fk_L01 (K : fk_K) (a b : Int) : fk_L K a b = 0 ∨ fk_L K a b = 1 := by
  rw [fk_L, fk_lst]
  split
  · exact Or.inl rfl
  · exact Or.inr rfl
theorem fk_lConv01 {n : Nat} {kf : Nat → fk_K} {lo k j : Int32} {v : Int64} (h : lo = 0 ∨ lo = 1) : fk_lConv n kf lo k v j = 0 ∨ fk_lConv n kf lo k v j = 1 := by
  rw [fk_lConv]
  split
  · exact h
  · exact fk_L01 _ _ _
theorem fk_lApp01 {n : Nat} {kf : Nat → fk_K} {lo op k j : Int32} {x y : Int64} (h : lo = 0 ∨ lo = 1) : fk_lApp n kf lo op k x j y = 0 ∨ fk_lApp n kf lo op k x j y = 1 := by
  rw [fk_lApp]
  split
  · exact h
  · split
    · exact Or.inr rfl
    · exact fk_L01 _ _ _
/-- the kinds, each a cell behind the row out -/
def fk_KL (n : Nat) (kf : Nat → fk_K) (kd : Nat → Option Nat) (ka : Nat → Nat) (kt : va_W) : Prop := kt.length = n ∧ n ≤ 40 ∧ ∀ j, j < n → kd j = some (ka j) ∧ kt[j]? = some (ka j, fk_ke (kf j)) ∧ fk_ok (kf j)
theorem fk_KL.to {n : Nat} {kf : Nat → fk_K} {kd : Nat → Option Nat} {ka : Nat → Nat} {kt : va_W} (h : fk_KL n kf kd ka kt) (M : va_W) (o : Nat × va_E) (hM : M.length = 11) : fk_KT n kf kd ka (fun j => j + 12) (M ++ (o :: kt)) := by
  refine ⟨h.2.1, fun j hj => ⟨(h.2.2 j hj).1, ?_, (h.2.2 j hj).2.2⟩, fun i j _ _ e => ?_⟩
  · show (M ++ (o :: kt))[j + 12]? = _
    rw [List.getElem?_append_right (by omega), show j + 12 - M.length = j + 1 by omega, List.getElem?_cons_succ]
    exact (h.2.2 j hj).2.1
  · have e : i + 12 = j + 12 := e
    omega
theorem fk_set12 (M : va_W) (o c : Nat × va_E) (kt : va_W) (j : Nat) (hM : M.length = 11) : (M ++ (o :: kt)).set (j + 12) c = M ++ (o :: kt.set j c) := by
  rw [List.set_append_right _ _ (by omega), show j + 12 - M.length = j + 1 by omega, List.set_cons_succ]
theorem fk_KL.rule {n : Nat} {kf : Nat → fk_K} {kd : Nat → Option Nat} {ka : Nat → Nat} {kt : va_W} (h : fk_KL n kf kd ka kt) {j : Nat} (hj : j < n) {ov rd : Int32} (hr : ¬ fk_badR ov rd) : fk_KL n (va_up kf j ((kf j).1, (kf j).2.1, (kf j).2.2.1, (kf j).2.2.2.1, (kf j).2.2.2.2.1, ov, rd)) kd ka (kt.set j (ka j, fk_ke ((kf j).1, (kf j).2.1, (kf j).2.2.1, (kf j).2.2.2.1, (kf j).2.2.2.2.1, ov, rd))) := by
  refine ⟨by rw [List.length_set]; exact h.1, h.2.1, fun i hi => ?_⟩
  by_cases q : i = j
  · subst q
    rw [va_up_self]
    exact ⟨(h.2.2 i hi).1, fk_ss (h.2.2 i hi).2.1, fk_okR (h.2.2 i hi).2.2 hr⟩
  · rw [va_up_ne _ _ q]
    exact ⟨(h.2.2 i hi).1, fk_sn (h.2.2 i hi).2.1 (Ne.symm q), (h.2.2 i hi).2.2⟩
theorem fk_MT.rule {n : Nat} {kf : Nat → fk_K} {wd sg : Nat → Int32} {up dn of : Nat → Int64} {bey rnd : Nat → Int32} (h : fk_MT n kf wd sg up dn of bey rnd) {j : Nat} {ov rd : Int32} (hj : j < n) (hr : ¬ fk_badR ov rd) : fk_MT n (va_up kf j ((kf j).1, (kf j).2.1, (kf j).2.2.1, (kf j).2.2.2.1, (kf j).2.2.2.2.1, ov, rd)) wd sg up dn of (upd bey (j + 1) ov) (upd rnd (j + 1) rd) := by
  refine ⟨h.1, fun i hi => ?_, fun i h1 h2 => ?_⟩
  · obtain ⟨a1, a2, a3, a4, a5, a6, a7, a8⟩ := h.2.1 i hi
    by_cases q : i = j
    · subst q
      rw [va_up_self]
      exact ⟨a1, a2, a3, a4, a5, fk_us, fk_us, fk_okR a8 hr⟩
    · rw [va_up_ne _ _ q]
      exact ⟨a1, a2, a3, a4, a5, (fk_un (by omega)).trans a6, (fk_un (by omega)).trans a7, a8⟩
  · rw [fk_un (by omega), fk_un (by omega)]
    exact h.2.2 i h1 h2
theorem fk_KL.kind {n : Nat} {kf : Nat → fk_K} {kd : Nat → Option Nat} {ka : Nat → Nat} {kt : va_W} (h : fk_KL n kf kd ka kt) (hn : n < 40) {K : fk_K} (hK : fk_ok K) (q : Nat) : fk_KL (n + 1) (va_up kf n K) (va_up kd n (some q)) (va_up ka n q) (kt ++ [(q, fk_ke K)]) := by
  refine ⟨by rw [List.length_append, h.1]; rfl, by omega, fun i hi => ?_⟩
  by_cases z : i = n
  · have e := fk_lastg kt (q, fk_ke K)
    rw [h.1] at e
    rw [z, va_up_self, va_up_self, va_up_self]
    exact ⟨rfl, e, hK⟩
  · have hi' : i < n := by omega
    rw [va_up_ne _ _ z, va_up_ne _ _ z, va_up_ne _ _ z]
    exact ⟨(h.2.2 i hi').1, fk_getapp _ (h.2.2 i hi').2.1, (h.2.2 i hi').2.2⟩
theorem fk_MT.kind {n : Nat} {kf : Nat → fk_K} {wd sg : Nat → Int32} {up dn of : Nat → Int64} {bey rnd : Nat → Int32} (h : fk_MT n kf wd sg up dn of bey rnd) (hn : n < 40) {w0 s0 : Int32} {u0 d0 o0 : Int64} (hK : fk_ok (fk_mkK w0 s0 u0 d0 o0)) (hw : nI w0.toInt.toNat = w0) : fk_MT (n + 1) (va_up kf n (fk_mkK w0 s0 u0 d0 o0)) (upd wd (n + 1) w0) (upd sg (n + 1) s0) (vp_updL up (n + 1) u0) (vp_updL dn (n + 1) d0) (vp_updL of (n + 1) o0) bey rnd := by
  refine ⟨by omega, fun i hi => ?_, fun i h1 h2 => h.2.2 i (by omega) h2⟩
  by_cases z : i = n
  · have hb := h.2.2 (n + 1) (by omega) (by omega)
    rw [z, va_up_self]
    exact ⟨fk_us.trans hw.symm, fk_us, fk_lu, fk_lu, fk_lu, hb.1, hb.2, hK⟩
  · obtain ⟨a1, a2, a3, a4, a5, a6, a7, a8⟩ := h.2.1 i (by omega)
    rw [va_up_ne _ _ z]
    exact ⟨(fk_un (by omega)).trans a1, (fk_un (by omega)).trans a2, (fk_ln (by omega)).trans a3, (fk_ln (by omega)).trans a4, (fk_ln (by omega)).trans a5, a6, a7, a8⟩
theorem fk_swP {D : va_G} {cl : List vw_C} {X M K : va_W} {H : Heap} (h : va_P D cl (X ++ (M ++ K)) H) : va_P D cl (M ++ (K ++ X)) H := by
  have h1 := va_P.swap (a := []) (b := X) (c := M ++ K) h
  rw [List.nil_append, List.append_assoc] at h1
  exact h1
theorem fk_swQ {D : va_G} {cl : List vw_C} {X M K : va_W} {H : Heap} (h : va_P D cl (M ++ (K ++ X)) H) : va_P D cl (X ++ (M ++ K)) H := by
  rw [← List.append_assoc] at h
  exact va_P.swap (a := []) (b := M ++ K) (c := X) h
theorem fk_swD {A : Nat → Prop} {X M K : va_W} (h : va_D A (X ++ (M ++ K))) : va_D A (M ++ (K ++ X)) := by
  have h1 := va_D.swap (a := []) (b := X) (c := M ++ K) h
  rw [List.nil_append, List.append_assoc] at h1
  exact h1
theorem fk_swE {A : Nat → Prop} {X M K : va_W} (h : va_D A (M ++ (K ++ X))) : va_D A (X ++ (M ++ K)) := by
  rw [← List.append_assoc] at h
  exact va_D.swap (a := []) (b := M ++ K) (c := X) h
/-- the world at the loop's head: the class's object, the reference's, the row out, the kinds -/
abbrev fk_J (D : va_G) (cJ cC cI cZ cK : ClassId) (ad am : Nat → Nat) (oA : Nat) (A : Nat → Prop) (H0 H : Heap) (locs : List Loc) : Prop :=
  ∃ (n : Nat) (kf : Nat → fk_K) (ka : Nat → Nat) (kt : va_W) (kd : Nat → Option Nat) (lo cd : Int32) (T : List Int32) (ch : Nat → Int32) (f1 f2 f3 f4 f5 : Nat → Int64) (wd sg : Nat → Int32) (up dn of : Nat → Int64) (bey rnd tx pt sn : Nat → Int32) (fo : Nat → Int64),
    va_P D vwCl (fk_wx cJ cC cK ad kd (nI n) lo ch (nI (40 - T.length)) f1 f2 f3 f4 f5 ++ (fk_wm cJ cI cZ am cd (nI n) lo (nI T.length) wd sg up dn of bey rnd tx pt sn ++ ((oA, .inl (cJ, 1, .inr (.inl fo))) :: kt))) H ∧
    va_D A (fk_wx cJ cC cK ad kd (nI n) lo ch (nI (40 - T.length)) f1 f2 f3 f4 f5 ++ (fk_wm cJ cI cZ am cd (nI n) lo (nI T.length) wd sg up dn of bey rnd tx pt sn ++ ((oA, .inl (cJ, 1, .inr (.inl fo))) :: kt))) ∧
    va_S A H0 H locs ∧ fk_KL n kf kd ka kt ∧ fk_MT n kf wd sg up dn of bey rnd ∧ (lo = 0 ∨ lo = 1) ∧ T.length ≤ 36 ∧ fk_Tx T ch (40 - T.length) ∧ fk_Rx T tx
theorem fk_J.mk {D : va_G} {cJ cC cI cZ cK : ClassId} {ad am : Nat → Nat} {oA : Nat} {A : Nat → Prop} {H0 H : Heap} {locs : List Loc} {n : Nat} {kf : Nat → fk_K} {ka : Nat → Nat} {kt : va_W} {kd : Nat → Option Nat} {lo cd : Int32} (T : List Int32) {ch : Nat → Int32} {f1 f2 f3 f4 f5 : Nat → Int64} {wd sg : Nat → Int32} {up dn of : Nat → Int64} {bey rnd tx pt sn : Nat → Int32} {fo : Nat → Int64}
    (hP : va_P D vwCl (fk_wx cJ cC cK ad kd (nI n) lo ch (nI (40 - T.length)) f1 f2 f3 f4 f5 ++ (fk_wm cJ cI cZ am cd (nI n) lo (nI T.length) wd sg up dn of bey rnd tx pt sn ++ ((oA, .inl (cJ, 1, .inr (.inl fo))) :: kt))) H)
    (hD : va_D A (fk_wx cJ cC cK ad kd (nI n) lo ch (nI (40 - T.length)) f1 f2 f3 f4 f5 ++ (fk_wm cJ cI cZ am cd (nI n) lo (nI T.length) wd sg up dn of bey rnd tx pt sn ++ ((oA, .inl (cJ, 1, .inr (.inl fo))) :: kt))))
    (hS : va_S A H0 H locs) (hKL : fk_KL n kf kd ka kt) (hMT : fk_MT n kf wd sg up dn of bey rnd) (hlo : lo = 0 ∨ lo = 1) (hT1 : T.length ≤ 36) (hT2 : fk_Tx T ch (40 - T.length)) (hT3 : fk_Rx T tx) : fk_J D cJ cC cI cZ cK ad am oA A H0 H locs :=
  ⟨n, kf, ka, kt, kd, lo, cd, T, ch, f1, f2, f3, f4, f5, wd, sg, up, dn, of, bey, rnd, tx, pt, sn, fo, hP, hD, hS, hKL, hMT, hlo, hT1, hT2, hT3⟩
/-- what does not change while the law runs -/
def fk_LC (p : Program) (l : Launch) (s : State) (m : MethodId) (c : Code) (D : va_G) (cJ cC cI cZ cK : ClassId) (b L : Nat) (xs : Nat → Int32) (A : Nat → Prop) : Prop :=
  p.tables.exec = Jvm.exec ∧ c.code = cL_law ∧ c.maxLocals = 8 ∧ s.vm.findClass RL = some m.cls ∧ (∀ w ∈ lw_tbl, w.before #[Value.ref b] s = true) ∧ va_X b L xs s s.heap ∧ b < s.heap.size ∧ ¬ A b ∧ (∀ q : Nat, s.heap.size ≤ q → A q) ∧ va_K D vwCl (fk_ty cJ cC cI cZ cK) s ∧ fk_NW s ∧ fk_XW A s s.heap ∧ l.stackTraces = false ∧ L ≤ 4608
section FkLaw
variable {p : Program} {l : Launch} {e : Env} {R : Room} {s : State} {m : MethodId} {args : Array Value} {below : List Frame} {meth : Method} {c : Code} {H H0 : Heap} {locs : List Loc} {cells slots : Nat} {Q : State → Prop} {pc : Nat} {ls : Array Slot} {rest : List Value} {A : Nat → Prop} {cc : ByteArray}
theorem fk_sld (hexec : p.tables.exec = Jvm.exec) (hb : c.code = cc) {b L : Nat} {xs : Nat → Int32} (hX : va_X b L xs s H0) (hbl : b < H0.size) (hbA : ¬ A b) (hS : va_S A H0 H locs) (hL : L ≤ 4608) {k : Nat} (hk : k < L) (hdg : decode cc pc = .ok (.iaload, 1))
    (kk : W p l e R s m args below meth c H locs cells slots Q (F0 m (pc + 1) ls (.int (xs k) :: rest))) : W p l e R s m args below meth c H locs cells slots Q (F0 m pc ls (.int (nI k) :: .ref b :: rest)) := by
  refine va_sld hexec hb hX hbl hbA hS (vp_in_nI hk (by omega)) hdg ?_
  rw [nI_clamp (by omega)]
  exact kk
end FkLaw
theorem fk_jj {i j n : Nat} (hi : i < n) (hj : j < n) (hn : n ≤ 40) (h : nI (i + 1) = nI (j + 1)) : i = j := by
  have h1 := fk_ix_j hi hn
  rw [h, fk_ix_j hj hn] at h1
  exact h1.symm
/-- the same character of the text, told by both -/
theorem fk_chr {T : List Int32} {ch tx : Nat → Int32} (h1 : fk_Tx T ch (40 - T.length)) (h2 : fk_Rx T tx) (hT : T.length ≤ 36) {b : Nat} (hb : b < T.length) : ch (40 - T.length + b) = tx b := by
  have e1 := h1.2 (T.length - 1 - b) (by omega)
  rw [show 39 - (T.length - 1 - b) = 40 - T.length + b by omega] at e1
  rw [e1, h2 b hb]
