/-! New cells at the end of a world; what rule and kind refuse. -/
theorem fk_lastg (tl : va_W) (c : Nat × va_E) : (tl ++ [c])[tl.length]? = some c := by simp
theorem fk_setl (tl : va_W) (c d : Nat × va_E) : (tl ++ [c]).set tl.length d = tl ++ [d] := by simp
def fk_badR (ov rd : Int32) : Prop := ov.toInt < 0 ∨ 2 < ov.toInt ∨ rd.toInt < 0 ∨ 3 < rd.toInt
def fk_goodW (w sg : Int32) : Prop := 8 ≤ w.toInt ∧ w.toInt ≤ 64 ∧ (sg = 0 → w.toInt ≤ 63)
def fk_goodS (up dn : Int64) : Prop := (0 ≤ up.toInt ∧ up.toInt ≤ 1000) ∧ 1 ≤ dn.toInt ∧ dn.toInt ≤ 1000
def fk_goodO (of : Int64) : Prop := -1000000 ≤ of.toInt ∧ of.toInt ≤ 1000000
def fk_badK (w sg : Int32) (up dn of : Int64) : Prop := ¬ (fk_goodW w sg ∧ fk_goodS up dn ∧ fk_goodO of)
/-- the kind that a call of kind makes -/
def fk_mkK (w sg : Int32) (up dn of : Int64) : fk_K := (w.toInt.toNat, sg, up, dn, of, 0, 0)
theorem fk_cAeq {D : va_G} {cl : List vw_C} {t1 t2 : List (ClassId × FieldType)} {U : State} {ty : FieldType} {c1 c2 : ClassId} {i j : Nat} (h1 : va_K D cl t1 U) (h2 : va_K D cl t2 U) (e1 : t1[i]? = some (c1, ty)) (e2 : t2[j]? = some (c2, ty)) : c2 = c1 := by
  have a := (h1.2 i _ e1).2
  have b := (h2.2 j _ e2).2
  cases ty <;> first | exact Option.some.inj (b.symm.trans a) | (obtain ⟨_, _, _, _, _, a⟩ := a; obtain ⟨_, _, _, _, _, b⟩ := b; exact Option.some.inj (b.symm.trans a))
theorem fk_setapp {ws : va_W} {q0 : Nat} {c x y : Nat × va_E} (h : ws[q0]? = some y) : (ws ++ [c]).set q0 x = ws.set q0 x ++ [c] := by
  have hl : q0 < ws.length := (List.getElem?_eq_some_iff.mp h).1
  rw [List.set_append_left _ _ hl]
theorem fk_getapp {ws : va_W} {q0 : Nat} {y : Nat × va_E} (l : va_W) (h : ws[q0]? = some y) : (ws ++ l)[q0]? = some y := by
  have hl : q0 < ws.length := (List.getElem?_eq_some_iff.mp h).1
  rw [List.getElem?_append_left hl]; exact h
