/-! Whole: bitsFrom, grow, scale, by program -/
abbrev rmX2_bitsFrom : Room := { frames := 1, cells := 0, slots := 0, locals := 21 }
set_option maxHeartbeats 4000000 in
set_option maxRecDepth 100000 in
/-- Whole.bitsFrom -/
theorem kX2_bitsFrom {l : Launch} {D : va_G} {cJ cC cI cZ cK : ClassId} (sz : Nat) (ws : va_W) (h0 h1 q0 q1 : Nat) (f : Nat → Int64) (st : Nat) (x : Int) (hq0 : ws[q0]? = some (h0, .inr (3, [.ref h1]))) (hq1 : ws[q1]? = some (h1, .inl (cJ, 12, .inr (.inl f)))) (hR : fk_R x f) (hst : st ≤ 8) : Met l yX2_bitsFrom wsX2_bitsFrom rmX2_bitsFrom (va_Pc [.ref h0, .int (nI st)] (fk_pre D (fk_ty cJ cC cI cZ cK) ws sz)) (va_Ql (fun (r : Int64) (_ : Unit) => r = Int64.ofInt (x / 65536 ^ st)) (fk_Bd D (fk_ty cJ cC cI cZ cK) (va_A ws sz) (fun _ : Unit => ws)) (va_A ws sz)) 0 0 (va_A ws sz) := by
  refine fk_ofW cX2_bitsFrom 5 (some .long) (fun A => va_Ql (fun (r : Int64) (_ : Unit) => r = Int64.ofInt (x / 65536 ^ st)) (fk_Bd D (fk_ty cJ cC cI cZ cK) A (fun _ : Unit => ws)) A) rfl (by decide) (Nat.le_of_ble_eq_true rfl) ?_
  intro p e s m below meth c A ls args QQ hQQ hAt hP hK hN hD hA hS hl
  obtain ⟨⟨hx, hb, hml, hown, hts⟩, hr, hlocks, hin⟩ := hAt
  have hl : lv_has ls 5 [(0, .ref h0), (1, .int (nI st))] := hl
  refine lv_lconst (v := 0) hx hb dX2_bitsFrom_0 (by decide) ?_
  refine lv_lstore_n (lv' := [(2, .long 0), (0, .ref h0), (1, .int (nI st))]) hx hb dX2_bitsFrom_1 rfl hl (by decide) rfl (fun ls hl => ?_)
  refine lv_iconst (v := 3) hx hb dX2_bitsFrom_2 (by decide) ?_
  refine lv_istore (lv' := [(4, .int 3), (2, .long 0), (0, .ref h0), (1, .int (nI st))]) hx hb dX2_bitsFrom_3 hl (by decide) rfl (fun ls hl => ?_)
  refine lv_iload hx hb dX2_bitsFrom_5 (lv_at hl 0 rfl) ?_
  refine lv_if_lt (tgt := 30) hx hb dX2_bitsFrom_7 (by decide) (fun c_7 => False.elim (absurd c_7 (by decide))) (fun c_7 => ?_)
  refine lv_lload_n hx hb dX2_bitsFrom_10 rfl (lv_at hl 1 rfl) ?_
  refine lv_bipush (v := 16) hx hb dX2_bitsFrom_11 (by decide) ?_
  refine lv_lshl hx hb dX2_bitsFrom_13 rfl ?_
  refine lv_topl (fun x1 ex1 => ?_)
  refine lv_aload_n hx hb dX2_bitsFrom_14 rfl (lv_at hl 2 rfl) ?_
  refine lv_iload_n hx hb dX2_bitsFrom_15 rfl (lv_at hl 3 rfl) ?_
  refine lv_iload hx hb dX2_bitsFrom_16 (lv_at hl 0 rfl) ?_
  refine lv_iadd hx hb dX2_bitsFrom_18 ?_
  refine lv_topi (fun x2 ex2 => ?_)
  have ex2q : x2 = nI (st + 3) := by
    rw [ex2]; exact nI_add st 3
  subst ex2q
  refine fk_cl hD hS hA (va_runV (As := [.int (nI (st + 3))]) (rest := [.long x1]) ⟨hx, hb, hml, hown, hts⟩ (kX2_limb _ ws h0 h1 q0 q1 f (nI (st + 3)) hq0 hq1) (cwV 1 hts gX2_bitsFrom_X2_limb rfl rfl rfl (by decide +kernel) ⟨Nat.le_of_ble_eq_true rfl, Nat.le_of_ble_eq_true rfl⟩) (fk_preV q0 3 hK hN hP hD rfl hq0) rfl rfl hl.1 rfl (lv_room (Nat.le_of_ble_eq_true rfl)) dX2_bitsFrom_19 ⟨Nat.le_of_ble_eq_true rfl, Nat.le_of_ble_eq_true rfl⟩) (fun r3 u H locs hw hP hD hS => ?_)
  have hP : va_P D vwCl ws H := hP
  have hD : va_D A ws := hD
  have hb3 := fk_lb_bd hR (nI (st + 3)).toInt
  rw [← hw] at hb3
  have hl3 := hw
  refine lv_lor hx hb dX2_bitsFrom_22 ?_
  refine lv_topl (fun x4 ex4 => ?_)
  have ex4q : x4 = Int64.ofInt (r3.toInt) := by
    rw [ex4, ex1, show (0 : Int64) = Int64.ofInt 0 by decide, fk_or16' hb3.1 hb3.2]; congr 1; omega
  subst ex4q
  refine lv_lstore_n (lv' := [(2, .long (Int64.ofInt (r3.toInt))), (4, .int 3), (0, .ref h0), (1, .int (nI st))]) hx hb dX2_bitsFrom_23 rfl hl (by decide) rfl (fun ls hl => ?_)
  refine lv_iinc (v := 2) (lv' := [(4, .int 2), (2, .long (Int64.ofInt (r3.toInt))), (0, .ref h0), (1, .int (nI st))]) hx hb dX2_bitsFrom_24 hl (k := 1) rfl (by decide) (by decide) rfl (fun ls hl => ?_)
  refine lv_goto (tgt := 5) hx hb dX2_bitsFrom_27 (by decide) ?_
  refine lv_iload hx hb dX2_bitsFrom_5 (lv_at hl 0 rfl) ?_
  refine lv_if_lt (tgt := 30) hx hb dX2_bitsFrom_7 (by decide) (fun c_7 => False.elim (absurd c_7 (by decide))) (fun c_7 => ?_)
  refine lv_lload_n hx hb dX2_bitsFrom_10 rfl (lv_at hl 1 rfl) ?_
  refine lv_bipush (v := 16) hx hb dX2_bitsFrom_11 (by decide) ?_
  refine lv_lshl hx hb dX2_bitsFrom_13 rfl ?_
  refine lv_topl (fun x5 ex5 => ?_)
  refine lv_aload_n hx hb dX2_bitsFrom_14 rfl (lv_at hl 2 rfl) ?_
  refine lv_iload_n hx hb dX2_bitsFrom_15 rfl (lv_at hl 3 rfl) ?_
  refine lv_iload hx hb dX2_bitsFrom_16 (lv_at hl 0 rfl) ?_
  refine lv_iadd hx hb dX2_bitsFrom_18 ?_
  refine lv_topi (fun x6 ex6 => ?_)
  have ex6q : x6 = nI (st + 2) := by
    rw [ex6]; exact nI_add st 2
  subst ex6q
  refine fk_cl hD hS hA (va_runV (As := [.int (nI (st + 2))]) (rest := [.long x5]) ⟨hx, hb, hml, hown, hts⟩ (kX2_limb _ ws h0 h1 q0 q1 f (nI (st + 2)) hq0 hq1) (cwV 1 hts gX2_bitsFrom_X2_limb rfl rfl rfl (by decide +kernel) ⟨Nat.le_of_ble_eq_true rfl, Nat.le_of_ble_eq_true rfl⟩) (fk_preV q0 3 hK hN hP hD rfl hq0) rfl rfl hl.1 rfl (lv_room (Nat.le_of_ble_eq_true rfl)) dX2_bitsFrom_19 ⟨Nat.le_of_ble_eq_true rfl, Nat.le_of_ble_eq_true rfl⟩) (fun r7 u H locs hw hP hD hS => ?_)
  have hP : va_P D vwCl ws H := hP
  have hD : va_D A ws := hD
  have hb2 := fk_lb_bd hR (nI (st + 2)).toInt
  rw [← hw] at hb2
  have hl2 := hw
  refine lv_lor hx hb dX2_bitsFrom_22 ?_
  refine lv_topl (fun x8 ex8 => ?_)
  have ex8q : x8 = Int64.ofInt ((r3.toInt) * 65536 + r7.toInt) := by
    rw [ex8, ex5]; exact fk_or16' hb2.1 hb2.2
  subst ex8q
  refine lv_lstore_n (lv' := [(2, .long (Int64.ofInt ((r3.toInt) * 65536 + r7.toInt))), (4, .int 2), (0, .ref h0), (1, .int (nI st))]) hx hb dX2_bitsFrom_23 rfl hl (by decide) rfl (fun ls hl => ?_)
  refine lv_iinc (v := 1) (lv' := [(4, .int 1), (2, .long (Int64.ofInt ((r3.toInt) * 65536 + r7.toInt))), (0, .ref h0), (1, .int (nI st))]) hx hb dX2_bitsFrom_24 hl (k := 1) rfl (by decide) (by decide) rfl (fun ls hl => ?_)
  refine lv_goto (tgt := 5) hx hb dX2_bitsFrom_27 (by decide) ?_
  refine lv_iload hx hb dX2_bitsFrom_5 (lv_at hl 0 rfl) ?_
  refine lv_if_lt (tgt := 30) hx hb dX2_bitsFrom_7 (by decide) (fun c_7 => False.elim (absurd c_7 (by decide))) (fun c_7 => ?_)
  refine lv_lload_n hx hb dX2_bitsFrom_10 rfl (lv_at hl 1 rfl) ?_
  refine lv_bipush (v := 16) hx hb dX2_bitsFrom_11 (by decide) ?_
  refine lv_lshl hx hb dX2_bitsFrom_13 rfl ?_
  refine lv_topl (fun x9 ex9 => ?_)
  refine lv_aload_n hx hb dX2_bitsFrom_14 rfl (lv_at hl 2 rfl) ?_
  refine lv_iload_n hx hb dX2_bitsFrom_15 rfl (lv_at hl 3 rfl) ?_
  refine lv_iload hx hb dX2_bitsFrom_16 (lv_at hl 0 rfl) ?_
  refine lv_iadd hx hb dX2_bitsFrom_18 ?_
  refine lv_topi (fun x10 ex10 => ?_)
  have ex10q : x10 = nI (st + 1) := by
    rw [ex10]; exact nI_add st 1
  subst ex10q
  refine fk_cl hD hS hA (va_runV (As := [.int (nI (st + 1))]) (rest := [.long x9]) ⟨hx, hb, hml, hown, hts⟩ (kX2_limb _ ws h0 h1 q0 q1 f (nI (st + 1)) hq0 hq1) (cwV 1 hts gX2_bitsFrom_X2_limb rfl rfl rfl (by decide +kernel) ⟨Nat.le_of_ble_eq_true rfl, Nat.le_of_ble_eq_true rfl⟩) (fk_preV q0 3 hK hN hP hD rfl hq0) rfl rfl hl.1 rfl (lv_room (Nat.le_of_ble_eq_true rfl)) dX2_bitsFrom_19 ⟨Nat.le_of_ble_eq_true rfl, Nat.le_of_ble_eq_true rfl⟩) (fun r11 u H locs hw hP hD hS => ?_)
  have hP : va_P D vwCl ws H := hP
  have hD : va_D A ws := hD
  have hb1 := fk_lb_bd hR (nI (st + 1)).toInt
  rw [← hw] at hb1
  have hl1 := hw
  refine lv_lor hx hb dX2_bitsFrom_22 ?_
  refine lv_topl (fun x12 ex12 => ?_)
  have ex12q : x12 = Int64.ofInt (((r3.toInt) * 65536 + r7.toInt) * 65536 + r11.toInt) := by
    rw [ex12, ex9]; exact fk_or16' hb1.1 hb1.2
  subst ex12q
  refine lv_lstore_n (lv' := [(2, .long (Int64.ofInt (((r3.toInt) * 65536 + r7.toInt) * 65536 + r11.toInt))), (4, .int 1), (0, .ref h0), (1, .int (nI st))]) hx hb dX2_bitsFrom_23 rfl hl (by decide) rfl (fun ls hl => ?_)
  refine lv_iinc (v := 0) (lv' := [(4, .int 0), (2, .long (Int64.ofInt (((r3.toInt) * 65536 + r7.toInt) * 65536 + r11.toInt))), (0, .ref h0), (1, .int (nI st))]) hx hb dX2_bitsFrom_24 hl (k := 1) rfl (by decide) (by decide) rfl (fun ls hl => ?_)
  refine lv_goto (tgt := 5) hx hb dX2_bitsFrom_27 (by decide) ?_
  refine lv_iload hx hb dX2_bitsFrom_5 (lv_at hl 0 rfl) ?_
  refine lv_if_lt (tgt := 30) hx hb dX2_bitsFrom_7 (by decide) (fun c_7 => False.elim (absurd c_7 (by decide))) (fun c_7 => ?_)
  refine lv_lload_n hx hb dX2_bitsFrom_10 rfl (lv_at hl 1 rfl) ?_
  refine lv_bipush (v := 16) hx hb dX2_bitsFrom_11 (by decide) ?_
  refine lv_lshl hx hb dX2_bitsFrom_13 rfl ?_
  refine lv_topl (fun x13 ex13 => ?_)
  refine lv_aload_n hx hb dX2_bitsFrom_14 rfl (lv_at hl 2 rfl) ?_
  refine lv_iload_n hx hb dX2_bitsFrom_15 rfl (lv_at hl 3 rfl) ?_
  refine lv_iload hx hb dX2_bitsFrom_16 (lv_at hl 0 rfl) ?_
  refine lv_iadd hx hb dX2_bitsFrom_18 ?_
  refine lv_topi (fun x14 ex14 => ?_)
  have ex14q : x14 = nI (st + 0) := by
    rw [ex14]; exact nI_add st 0
  subst ex14q
  refine fk_cl hD hS hA (va_runV (As := [.int (nI (st + 0))]) (rest := [.long x13]) ⟨hx, hb, hml, hown, hts⟩ (kX2_limb _ ws h0 h1 q0 q1 f (nI (st + 0)) hq0 hq1) (cwV 1 hts gX2_bitsFrom_X2_limb rfl rfl rfl (by decide +kernel) ⟨Nat.le_of_ble_eq_true rfl, Nat.le_of_ble_eq_true rfl⟩) (fk_preV q0 3 hK hN hP hD rfl hq0) rfl rfl hl.1 rfl (lv_room (Nat.le_of_ble_eq_true rfl)) dX2_bitsFrom_19 ⟨Nat.le_of_ble_eq_true rfl, Nat.le_of_ble_eq_true rfl⟩) (fun r15 u H locs hw hP hD hS => ?_)
  have hP : va_P D vwCl ws H := hP
  have hD : va_D A ws := hD
  have hb0 := fk_lb_bd hR (nI (st + 0)).toInt
  rw [← hw] at hb0
  have hl0 := hw
  refine lv_lor hx hb dX2_bitsFrom_22 ?_
  refine lv_topl (fun x16 ex16 => ?_)
  have ex16q : x16 = Int64.ofInt ((((r3.toInt) * 65536 + r7.toInt) * 65536 + r11.toInt) * 65536 + r15.toInt) := by
    rw [ex16, ex13]; exact fk_or16' hb0.1 hb0.2
  subst ex16q
  refine lv_lstore_n (lv' := [(2, .long (Int64.ofInt ((((r3.toInt) * 65536 + r7.toInt) * 65536 + r11.toInt) * 65536 + r15.toInt))), (4, .int 0), (0, .ref h0), (1, .int (nI st))]) hx hb dX2_bitsFrom_23 rfl hl (by decide) rfl (fun ls hl => ?_)
  refine lv_iinc (v := (-1)) (lv' := [(4, .int (-1)), (2, .long (Int64.ofInt ((((r3.toInt) * 65536 + r7.toInt) * 65536 + r11.toInt) * 65536 + r15.toInt))), (0, .ref h0), (1, .int (nI st))]) hx hb dX2_bitsFrom_24 hl (k := 1) rfl (by decide) (by decide) rfl (fun ls hl => ?_)
  refine lv_goto (tgt := 5) hx hb dX2_bitsFrom_27 (by decide) ?_
  refine lv_iload hx hb dX2_bitsFrom_5 (lv_at hl 0 rfl) ?_
  refine lv_if_lt (tgt := 30) hx hb dX2_bitsFrom_7 (by decide) (fun c_7 => ?_) (fun c_7 => False.elim (c_7 (by decide)))
  refine lv_lload_n hx hb dX2_bitsFrom_30 rfl (lv_at hl 1 rfl) ?_
  rw [hQQ]
  exact W.lret (v := Int64.ofInt ((((r3.toInt) * 65536 + r7.toInt) * 65536 + r11.toInt) * 65536 + r15.toInt)) hx hb hr (fun t ht hW => ⟨⟨(Int64.ofInt ((((r3.toInt) * 65536 + r7.toInt) * 65536 + r11.toInt) * 65536 + r15.toInt)), (), rfl, (by rw [hl3, hl2, hl1, hl0]; exact fk_bits4 hR hst), by rw [ht]; exact hP, va_K.moved hW.alike hK, hD⟩, hS.F ht⟩) hS.2.2 dX2_bitsFrom_31
abbrev rmX2_grow : Room := { frames := 0, cells := 0, slots := 0, locals := 0 }
set_option maxHeartbeats 4000000 in
set_option maxRecDepth 100000 in
/-- Whole.grow -/
theorem kX2_grow {l : Launch} {D : va_G} {cJ cC cI cZ cK : ClassId} (sz : Nat) (ws : va_W) (h0 h1 q0 q1 : Nat) (f : Nat → Int64) (v : Int64) (x : Int) (hq0 : ws[q0]? = some (h0, .inr (3, [.ref h1]))) (hq1 : ws[q1]? = some (h1, .inl (cJ, 12, .inr (.inl f)))) (hF : ∀ i, i < 12 → 0 ≤ (f i).toInt ∧ (f i).toInt < 1099511627776) (hT : fk_T (fk_I f) 12 % 65536 ^ 12 = x % 65536 ^ 12) (hv : -4611686018427387904 ≤ v.toInt ∧ v.toInt ≤ 4611686018427387904) : Met l yX2_grow wsX2_grow rmX2_grow (va_Pc [.ref h0, .long v] (fk_pre D (fk_ty cJ cC cI cZ cK) ws sz)) (va_Qv (fun g : Nat → Int64 => fk_R (x + v.toInt) g) (fk_Bd D (fk_ty cJ cC cI cZ cK) (va_A ws sz) (fun g : Nat → Int64 => ws.set q1 (h1, .inl (cJ, 12, .inr (.inl g))))) (va_A ws sz)) 0 0 (va_A ws sz) := by
  refine fk_ofW cX2_grow 6 none (fun A => va_Qv (fun g : Nat → Int64 => fk_R (x + v.toInt) g) (fk_Bd D (fk_ty cJ cC cI cZ cK) A (fun g : Nat → Int64 => ws.set q1 (h1, .inl (cJ, 12, .inr (.inl g))))) A) rfl (by decide) (Nat.le_of_ble_eq_true rfl) ?_
  intro p e s m below meth c A ls args QQ hQQ hAt hP hK hN hD hA hS hl
  obtain ⟨⟨hx, hb, hml, hown, hts⟩, hr, hlocks, hin⟩ := hAt
  have hl : lv_has ls 6 [(0, .ref h0), (1, .long v)] := hl
  have k1 := hts (.fieldLink RX2 9 "FixedKinds$Whole" "limbs" "[J") (by decide +kernel)
  have k2 := (by decide +kernel : ∀ w ∈ u_ws RX2 TX2 1, w ∈ wsX2_grow)
  have k3 := hts (.constantLong RX2 15 65535) (by decide +kernel)
  have hn_q1_q0 : q1 ≠ q0 := fk_neA hq0 hq1
  have hw0 : ws = (ws.set q1 (h1, .inl (cJ, 12, .inr (.inl f)))) := by rw [fk_s0 hq1]
  rw [hw0] at hP hD
  refine lv_lload_n hx hb dX2_grow_0 rfl (lv_at hl 1 rfl) ?_
  refine lv_lstore_n (lv' := [(3, .long v), (0, .ref h0), (1, .long v)]) hx hb dX2_grow_1 rfl hl (by decide) rfl (fun ls hl => ?_)
  refine lv_iconst (v := 0) hx hb dX2_grow_2 (by decide) ?_
  refine lv_istore (lv' := [(5, .int 0), (3, .long v), (0, .ref h0), (1, .long v)]) hx hb dX2_grow_3 hl (by decide) rfl (fun ls hl => ?_)
  have L5 : ∀ (fu5 : Nat) (i : Nat) (g : Nat → Int64) (cy : Int64), 12 - i < fu5 → (i ≤ 12) → (fk_C (fk_I f) v.toInt i g cy.toInt) → (∀ j, i ≤ j → g j = f j) → (-4611686018427387904 ≤ cy.toInt ∧ cy.toInt ≤ 4611686018427387904) → ∀ (H : Heap) (locs : List Loc) (ls : Array Slot), va_P D vwCl (ws.set q1 (h1, .inl (cJ, 12, .inr (.inl g)))) H → va_D A (ws.set q1 (h1, .inl (cJ, 12, .inr (.inl g)))) → va_S A s.heap H locs → lv_has ls 6 [(0, .ref h0), (1, .long v), (3, .long cy), (5, .int (nI i))] → W p l e rmX2_grow s m args below meth c H locs 0 0 QQ (F0 m 5 ls []) := by
    intro fu5
    induction fu5 with
    | zero => intro i g cy hfu; exact absurd hfu (Nat.not_lt_zero _)
    | succ fu5 ih5 =>
      intro i g cy hfu5 hi hc hg hy H locs ls hP hD hS hl
      refine lv_iload hx hb dX2_grow_5 (lv_at hl 3 rfl) ?_
      refine lv_bipush (v := 12) hx hb dX2_grow_7 (by decide) ?_
      refine lv_icmp_ge (tgt := 45) hx hb dX2_grow_9 (by decide) (fun c_9 => ?_) (fun c_9 => ?_)
      · have hi12 : i = 12 := by have q := (nI_leI (a := 12) (b := i) (by omega) (by omega)).mp c_9; omega
        subst hi12
        rw [hQQ]
        exact W.vret hx hb hr (fun t ht hW => ⟨⟨g, rfl, fk_R_grow hT hc, by rw [ht]; exact hP, va_K.moved hW.alike hK, hD⟩, hS.F ht⟩) hS.2.2 dX2_grow_45
      · have hi12 : i < 12 := by rcases Nat.lt_or_ge i 12 with q | q; exact q; exact absurd ((nI_leI (a := 12) (b := i) (by omega) (by omega)).mpr q) c_9
        refine lv_lload_n hx hb dX2_grow_12 rfl (lv_at hl 2 rfl) ?_
        refine lv_aload_n hx hb dX2_grow_13 rfl (lv_at hl 0 rfl) ?_
        refine va_get (D := D) (ci := 3) (v := .ref h1) (C := RX2) (T := TX2) (N := 1) hx hb hts k2 hown hK hP q0 (fk_sn hq0 hn_q1_q0) rfl 0 (by decide) k1 (fun _ h9 => h9) rfl dX2_grow_14 ?_
        refine lv_iload hx hb dX2_grow_17 (lv_at hl 3 rfl) ?_
        refine fk_lald hx hb hK hP q1 0 (fk_ss hq1) rfl (i := i) (by omega) (by decide) dX2_grow_19 ?_
        refine lv_ladd hx hb dX2_grow_20 ?_
        refine lv_topl (fun x1 ex1 => ?_)
        refine lv_lstore_n (lv' := [(3, .long x1), (0, .ref h0), (1, .long v), (5, .int (nI i))]) hx hb dX2_grow_21 rfl hl (by decide) rfl (fun ls hl => ?_)
        have hfi := hF i hi12
        have a2 : x1.toInt = cy.toInt + fk_I f i := by
          rw [ex1, hg i (Nat.le_refl i), fk_I]; exact fk_add (by omega) (by omega)
        refine lv_aload_n hx hb dX2_grow_22 rfl (lv_at hl 1 rfl) ?_
        refine va_get (D := D) (ci := 3) (v := .ref h1) (C := RX2) (T := TX2) (N := 1) hx hb hts k2 hown hK hP q0 (fk_sn hq0 hn_q1_q0) rfl 0 (by decide) k1 (fun _ h9 => h9) rfl dX2_grow_23 ?_
        refine lv_iload hx hb dX2_grow_26 (lv_at hl 3 rfl) ?_
        refine lv_lload_n hx hb dX2_grow_28 rfl (lv_at hl 0 rfl) ?_
        refine lv_ldc2 (v := 65535) hx hb hown k3 dX2_grow_29 ?_
        refine lv_land hx hb dX2_grow_32 ?_
        refine lv_topl (fun x2 ex2 => ?_)
        refine fk_last hx hb hK hP hD hS q1 0 (fk_ss hq1) rfl (i := i) (by omega) (by decide) dX2_grow_33 (fun H locs hP hD hS => ?_)
        rw [fk_s2] at hP hD
        refine lv_lload_n hx hb dX2_grow_34 rfl (lv_at hl 0 rfl) ?_
        refine lv_bipush (v := 16) hx hb dX2_grow_35 (by decide) ?_
        refine lv_lshr hx hb dX2_grow_37 rfl ?_
        refine lv_topl (fun x3 ex3 => ?_)
        refine lv_lstore_n (lv' := [(3, .long x3), (0, .ref h0), (1, .long v), (5, .int (nI i))]) hx hb dX2_grow_38 rfl hl (by decide) rfl (fun ls hl => ?_)
        have a3 := fk_C_stp hc a2 ex2 ex3
        have a4 : ∀ j, i + 1 ≤ j → vp_updL g i x2 j = f j := fun j hj => by rw [pk_uLn (by omega)]; exact hg j (by omega)
        have a5 : -4611686018427387904 ≤ x3.toInt ∧ x3.toInt ≤ 4611686018427387904 := by rw [ex3, fk_s16, a2, fk_I]; omega
        refine lv_iinc (v := nI (i + 1)) (lv' := [(5, .int (nI (i + 1))), (3, .long x3), (0, .ref h0), (1, .long v)]) hx hb dX2_grow_39 hl (k := 3) rfl (by exact nI_1 i) (by decide) rfl (fun ls hl => ?_)
        refine lv_goto (tgt := 5) hx hb dX2_grow_42 (by decide) ?_
        exact ih5 (i + 1) (vp_updL g i x2) x3 (by omega) (by omega) a3 a4 a5 _ _ _ hP hD hS (lv_sub hl [2, 3, 1, 0] rfl)
  exact L5 13 0 f v (by omega) (by omega) (fk_C_0 _ _ _) (fun _ _ => rfl) hv _ _ _ hP hD hS (lv_sub hl [2, 3, 1, 0] rfl)
abbrev rmX2_scale : Room := { frames := 0, cells := 0, slots := 0, locals := 0 }
set_option maxHeartbeats 4000000 in
set_option maxRecDepth 100000 in
/-- Whole.scale -/
theorem kX2_scale {l : Launch} {D : va_G} {cJ cC cI cZ cK : ClassId} (sz : Nat) (ws : va_W) (h0 h1 q0 q1 : Nat) (f : Nat → Int64) (k : Int64) (x : Int) (hq0 : ws[q0]? = some (h0, .inr (3, [.ref h1]))) (hq1 : ws[q1]? = some (h1, .inl (cJ, 12, .inr (.inl f)))) (hR : fk_R x f) (hk : -1099511627776 ≤ k.toInt ∧ k.toInt ≤ 1099511627776) : Met l yX2_scale wsX2_scale rmX2_scale (va_Pc [.ref h0, .long k] (fk_pre D (fk_ty cJ cC cI cZ cK) ws sz)) (va_Qv (fun g : Nat → Int64 => fk_R (x * k.toInt) g) (fk_Bd D (fk_ty cJ cC cI cZ cK) (va_A ws sz) (fun g : Nat → Int64 => ws.set q1 (h1, .inl (cJ, 12, .inr (.inl g))))) (va_A ws sz)) 0 0 (va_A ws sz) := by
  refine fk_ofW cX2_scale 6 none (fun A => va_Qv (fun g : Nat → Int64 => fk_R (x * k.toInt) g) (fk_Bd D (fk_ty cJ cC cI cZ cK) A (fun g : Nat → Int64 => ws.set q1 (h1, .inl (cJ, 12, .inr (.inl g))))) A) rfl (by decide) (Nat.le_of_ble_eq_true rfl) ?_
  intro p e s m below meth c A ls args QQ hQQ hAt hP hK hN hD hA hS hl
  obtain ⟨⟨hx, hb, hml, hown, hts⟩, hr, hlocks, hin⟩ := hAt
  have hl : lv_has ls 6 [(0, .ref h0), (1, .long k)] := hl
  have k1 := hts (.fieldLink RX2 9 "FixedKinds$Whole" "limbs" "[J") (by decide +kernel)
  have k2 := (by decide +kernel : ∀ w ∈ u_ws RX2 TX2 1, w ∈ wsX2_scale)
  have k3 := hts (.constantLong RX2 15 65535) (by decide +kernel)
  have hn_q1_q0 : q1 ≠ q0 := fk_neA hq0 hq1
  have hw0 : ws = (ws.set q1 (h1, .inl (cJ, 12, .inr (.inl f)))) := by rw [fk_s0 hq1]
  rw [hw0] at hP hD
  refine lv_lconst (v := 0) hx hb dX2_scale_0 (by decide) ?_
  refine lv_lstore_n (lv' := [(3, .long 0), (0, .ref h0), (1, .long k)]) hx hb dX2_scale_1 rfl hl (by decide) rfl (fun ls hl => ?_)
  refine lv_iconst (v := 0) hx hb dX2_scale_2 (by decide) ?_
  refine lv_istore (lv' := [(5, .int 0), (3, .long 0), (0, .ref h0), (1, .long k)]) hx hb dX2_scale_3 hl (by decide) rfl (fun ls hl => ?_)
  have L5 : ∀ (fu5 : Nat) (i : Nat) (g : Nat → Int64) (cy : Int64), 12 - i < fu5 → (i ≤ 12) → (fk_C (fun i => fk_I f i * k.toInt) 0 i g cy.toInt) → (∀ j, i ≤ j → g j = f j) → (-2199023255552 ≤ cy.toInt ∧ cy.toInt ≤ 2199023255552) → ∀ (H : Heap) (locs : List Loc) (ls : Array Slot), va_P D vwCl (ws.set q1 (h1, .inl (cJ, 12, .inr (.inl g)))) H → va_D A (ws.set q1 (h1, .inl (cJ, 12, .inr (.inl g)))) → va_S A s.heap H locs → lv_has ls 6 [(0, .ref h0), (1, .long k), (3, .long cy), (5, .int (nI i))] → W p l e rmX2_scale s m args below meth c H locs 0 0 QQ (F0 m 5 ls []) := by
    intro fu5
    induction fu5 with
    | zero => intro i g cy hfu; exact absurd hfu (Nat.not_lt_zero _)
    | succ fu5 ih5 =>
      intro i g cy hfu5 hi hc hg hy H locs ls hP hD hS hl
      refine lv_iload hx hb dX2_scale_5 (lv_at hl 3 rfl) ?_
      refine lv_bipush (v := 12) hx hb dX2_scale_7 (by decide) ?_
      refine lv_icmp_ge (tgt := 47) hx hb dX2_scale_9 (by decide) (fun c_9 => ?_) (fun c_9 => ?_)
      · have hi12 : i = 12 := by have q := (nI_leI (a := 12) (b := i) (by omega) (by omega)).mp c_9; omega
        subst hi12
        rw [hQQ]
        exact W.vret hx hb hr (fun t ht hW => ⟨⟨g, rfl, fk_R_scale hR hc, by rw [ht]; exact hP, va_K.moved hW.alike hK, hD⟩, hS.F ht⟩) hS.2.2 dX2_scale_47
      · have hi12 : i < 12 := by rcases Nat.lt_or_ge i 12 with q | q; exact q; exact absurd ((nI_leI (a := 12) (b := i) (by omega) (by omega)).mpr q) c_9
        refine lv_lload_n hx hb dX2_scale_12 rfl (lv_at hl 2 rfl) ?_
        refine lv_aload_n hx hb dX2_scale_13 rfl (lv_at hl 0 rfl) ?_
        refine va_get (D := D) (ci := 3) (v := .ref h1) (C := RX2) (T := TX2) (N := 1) hx hb hts k2 hown hK hP q0 (fk_sn hq0 hn_q1_q0) rfl 0 (by decide) k1 (fun _ h9 => h9) rfl dX2_scale_14 ?_
        refine lv_iload hx hb dX2_scale_17 (lv_at hl 3 rfl) ?_
        refine fk_lald hx hb hK hP q1 0 (fk_ss hq1) rfl (i := i) (by omega) (by decide) dX2_scale_19 ?_
        refine lv_lload_n hx hb dX2_scale_20 rfl (lv_at hl 1 rfl) ?_
        refine lv_lmul hx hb dX2_scale_21 ?_
        refine lv_topl (fun x1 ex1 => ?_)
        refine lv_ladd hx hb dX2_scale_22 ?_
        refine lv_topl (fun x2 ex2 => ?_)
        refine lv_lstore_n (lv' := [(3, .long x2), (0, .ref h0), (1, .long k), (5, .int (nI i))]) hx hb dX2_scale_23 rfl hl (by decide) rfl (fun ls hl => ?_)
        have hfi := hR.1 i hi12
        rw [fk_I_def] at hfi
        have hm := fk_mbd hfi.1 hfi.2 hk.1 hk.2
        have a1 : x1.toInt = (f i).toInt * k.toInt := by
          rw [ex1, hg i (Nat.le_refl i)]; exact fk_mul (by omega) (by omega)
        have a2 : x2.toInt = cy.toInt + fk_I f i * k.toInt := by
          rw [ex2, fk_I, ← a1]; exact fk_add (by omega) (by omega)
        refine lv_aload_n hx hb dX2_scale_24 rfl (lv_at hl 1 rfl) ?_
        refine va_get (D := D) (ci := 3) (v := .ref h1) (C := RX2) (T := TX2) (N := 1) hx hb hts k2 hown hK hP q0 (fk_sn hq0 hn_q1_q0) rfl 0 (by decide) k1 (fun _ h9 => h9) rfl dX2_scale_25 ?_
        refine lv_iload hx hb dX2_scale_28 (lv_at hl 3 rfl) ?_
        refine lv_lload_n hx hb dX2_scale_30 rfl (lv_at hl 0 rfl) ?_
        refine lv_ldc2 (v := 65535) hx hb hown k3 dX2_scale_31 ?_
        refine lv_land hx hb dX2_scale_34 ?_
        refine lv_topl (fun x3 ex3 => ?_)
        refine fk_last hx hb hK hP hD hS q1 0 (fk_ss hq1) rfl (i := i) (by omega) (by decide) dX2_scale_35 (fun H locs hP hD hS => ?_)
        rw [fk_s2] at hP hD
        refine lv_lload_n hx hb dX2_scale_36 rfl (lv_at hl 0 rfl) ?_
        refine lv_bipush (v := 16) hx hb dX2_scale_37 (by decide) ?_
        refine lv_lshr hx hb dX2_scale_39 rfl ?_
        refine lv_topl (fun x4 ex4 => ?_)
        refine lv_lstore_n (lv' := [(3, .long x4), (0, .ref h0), (1, .long k), (5, .int (nI i))]) hx hb dX2_scale_40 rfl hl (by decide) rfl (fun ls hl => ?_)
        have a3 := fk_C_stp (t := fun i => fk_I f i * k.toInt) hc a2 ex3 ex4
        have a4 : ∀ j, i + 1 ≤ j → vp_updL g i x3 j = f j := fun j hj => by rw [pk_uLn (by omega)]; exact hg j (by omega)
        have a5 : -2199023255552 ≤ x4.toInt ∧ x4.toInt ≤ 2199023255552 := by rw [ex4, fk_s16, a2, fk_I]; omega
        refine lv_iinc (v := nI (i + 1)) (lv' := [(5, .int (nI (i + 1))), (3, .long x4), (0, .ref h0), (1, .long k)]) hx hb dX2_scale_41 hl (k := 3) rfl (by exact nI_1 i) (by decide) rfl (fun ls hl => ?_)
        refine lv_goto (tgt := 5) hx hb dX2_scale_44 (by decide) ?_
        exact ih5 (i + 1) (vp_updL g i x3) x4 (by omega) (by omega) a3 a4 a5 _ _ _ hP hD hS (lv_sub hl [2, 3, 1, 0] rfl)
  exact L5 13 0 f 0 (by omega) (by omega) (fk_C_0 _ _ _) (fun _ _ => rfl) (by decide) _ _ _ hP hD hS (lv_sub hl [2, 3, 1, 0] rfl)
