/-! Whole: contracts, by program -/
abbrev rmX2_setTo : Room := { frames := 0, cells := 0, slots := 0, locals := 0 }
set_option maxHeartbeats 4000000 in
set_option maxRecDepth 100000 in
/-- Whole.setTo -/
theorem kX2_setTo {l : Launch} {D : va_G} {cJ cC cI cZ cK : ClassId} (sz : Nat) (ws : va_W) (h0 h1 q0 q1 : Nat) (f : Nat → Int64) (v : Int64) (hq0 : ws[q0]? = some (h0, .inr (3, [.ref h1]))) (hq1 : ws[q1]? = some (h1, .inl (cJ, 12, .inr (.inl f)))) : Met l yX2_setTo wsX2_setTo rmX2_setTo (va_Pc [.ref h0, .long v] (fk_pre D (fk_ty cJ cC cI cZ cK) ws sz)) (va_Qv (fun g : Nat → Int64 => fk_R v.toInt g) (fk_Bd D (fk_ty cJ cC cI cZ cK) (va_A ws sz) (fun g : Nat → Int64 => ws.set q1 (h1, .inl (cJ, 12, .inr (.inl g))))) (va_A ws sz)) 0 0 (va_A ws sz) := by
  refine fk_ofW cX2_setTo 6 none (fun A => va_Qv (fun g : Nat → Int64 => fk_R v.toInt g) (fk_Bd D (fk_ty cJ cC cI cZ cK) A (fun g : Nat → Int64 => ws.set q1 (h1, .inl (cJ, 12, .inr (.inl g))))) A) rfl (by decide) (Nat.le_of_ble_eq_true rfl) ?_
  intro p e s m below meth c A ls args QQ hQQ hAt hP hK hN hD hA hS hl
  obtain ⟨⟨hx, hb, hml, hown, hts⟩, hr, hlocks, hin⟩ := hAt
  have hl : lv_has ls 6 [(0, .ref h0), (1, .long v)] := hl
  have k1 := hts (.fieldLink RX2 9 "FixedKinds$Whole" "limbs" "[J") (by decide +kernel)
  have k2 := (by decide +kernel : ∀ w ∈ u_ws RX2 TX2 1, w ∈ wsX2_setTo)
  have k3 := hts (.constantLong RX2 15 65535) (by decide +kernel)
  have hn_q1_q0 : q1 ≠ q0 := fk_neA hq0 hq1
  have hw0 : ws = (ws.set q1 (h1, .inl (cJ, 12, .inr (.inl f)))) := by rw [fk_s0 hq1]
  rw [hw0] at hP hD
  refine lv_lload_n hx hb dX2_setTo_0 rfl (lv_at hl 1 rfl) ?_
  refine lv_lstore_n (lv' := [(3, .long v), (0, .ref h0), (1, .long v)]) hx hb dX2_setTo_1 rfl hl (by decide) rfl (fun ls hl => ?_)
  refine lv_iconst (v := 0) hx hb dX2_setTo_2 (by decide) ?_
  refine lv_istore (lv' := [(5, .int 0), (3, .long v), (0, .ref h0), (1, .long v)]) hx hb dX2_setTo_3 hl (by decide) rfl (fun ls hl => ?_)
  have L5 : ∀ (fu5 : Nat) (i : Nat) (g : Nat → Int64) (cy : Int64), 12 - i < fu5 → (i ≤ 12) → (fk_C (fun _ => 0) v.toInt i g cy.toInt) → ∀ (H : Heap) (locs : List Loc) (ls : Array Slot), va_P D vwCl (ws.set q1 (h1, .inl (cJ, 12, .inr (.inl g)))) H → va_D A (ws.set q1 (h1, .inl (cJ, 12, .inr (.inl g)))) → va_S A s.heap H locs → lv_has ls 6 [(0, .ref h0), (1, .long v), (3, .long cy), (5, .int (nI i))] → W p l e rmX2_setTo s m args below meth c H locs 0 0 QQ (F0 m 5 ls []) := by
    intro fu5
    induction fu5 with
    | zero => intro i g cy hfu; exact absurd hfu (Nat.not_lt_zero _)
    | succ fu5 ih5 =>
      intro i g cy hfu5 hi hc H locs ls hP hD hS hl
      refine lv_iload hx hb dX2_setTo_5 (lv_at hl 3 rfl) ?_
      refine lv_bipush (v := 12) hx hb dX2_setTo_7 (by decide) ?_
      refine lv_icmp_ge (tgt := 35) hx hb dX2_setTo_9 (by decide) (fun c_9 => ?_) (fun c_9 => ?_)
      · have hi12 : i = 12 := by have q := (nI_leI (a := 12) (b := i) (by omega) (by omega)).mp c_9; omega
        subst hi12
        rw [hQQ]
        exact W.vret hx hb hr (fun t ht hW => ⟨⟨g, rfl, fk_R_set hc, by rw [ht]; exact hP, va_K.moved hW.alike hK, hD⟩, hS.F ht⟩) hS.2.2 dX2_setTo_35
      · have hi12 : i < 12 := by rcases Nat.lt_or_ge i 12 with q | q; exact q; exact absurd ((nI_leI (a := 12) (b := i) (by omega) (by omega)).mpr q) c_9
        refine lv_aload_n hx hb dX2_setTo_12 rfl (lv_at hl 0 rfl) ?_
        refine va_get (D := D) (ci := 3) (v := .ref h1) (C := RX2) (T := TX2) (N := 1) hx hb hts k2 hown hK hP q0 (fk_sn hq0 hn_q1_q0) rfl 0 (by decide) k1 (fun _ h9 => h9) rfl dX2_setTo_13 ?_
        refine lv_iload hx hb dX2_setTo_16 (lv_at hl 3 rfl) ?_
        refine lv_lload_n hx hb dX2_setTo_18 rfl (lv_at hl 2 rfl) ?_
        refine lv_ldc2 (v := 65535) hx hb hown k3 dX2_setTo_19 ?_
        refine lv_land hx hb dX2_setTo_22 ?_
        refine lv_topl (fun x1 ex1 => ?_)
        refine fk_last hx hb hK hP hD hS q1 0 (fk_ss hq1) rfl (i := i) (by omega) (by decide) dX2_setTo_23 (fun H locs hP hD hS => ?_)
        rw [fk_s2] at hP hD
        refine lv_lload_n hx hb dX2_setTo_24 rfl (lv_at hl 2 rfl) ?_
        refine lv_bipush (v := 16) hx hb dX2_setTo_25 (by decide) ?_
        refine lv_lshr hx hb dX2_setTo_27 rfl ?_
        refine lv_topl (fun x2 ex2 => ?_)
        refine lv_lstore_n (lv' := [(3, .long x2), (0, .ref h0), (1, .long v), (5, .int (nI i))]) hx hb dX2_setTo_28 rfl hl (by decide) rfl (fun ls hl => ?_)
        have a3 : fk_C (fun _ => 0) v.toInt (i + 1) (vp_updL g i x1) x2.toInt := by
          have q := fk_C_step (y := x1) hc (by rw [ex1, fk_m16]; simp)
          rw [ex2, fk_s16]; simpa using q
        refine lv_iinc (v := nI (i + 1)) (lv' := [(5, .int (nI (i + 1))), (3, .long x2), (0, .ref h0), (1, .long v)]) hx hb dX2_setTo_29 hl (k := 3) rfl (by exact nI_1 i) (by decide) rfl (fun ls hl => ?_)
        refine lv_goto (tgt := 5) hx hb dX2_setTo_32 (by decide) ?_
        exact ih5 (i + 1) (vp_updL g i x1) x2 (by omega) (by omega) a3 _ _ _ hP hD hS (lv_sub hl [2, 3, 1, 0] rfl)
  exact L5 13 0 f v (by omega) (by omega) (fk_C_0 _ _ _) _ _ _ hP hD hS (lv_sub hl [2, 3, 1, 0] rfl)
