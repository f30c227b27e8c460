/-! Whole: fitsLong, addShifted, addTimes, by program -/
abbrev rmX2_fitsLong : Room := { frames := 2, cells := 0, slots := 0, locals := 45 }
set_option maxHeartbeats 4000000 in
set_option maxRecDepth 100000 in
/-- Whole.fitsLong -/
theorem kX2_fitsLong {l : Launch} {D : va_G} {cJ cC cI cZ cK : ClassId} (sz : Nat) (ws : va_W) (h0 h1 q0 q1 : Nat) (f : Nat → Int64) (x : Int) (hq0 : ws[q0]? = some (h0, .inr (3, [.ref h1]))) (hq1 : ws[q1]? = some (h1, .inl (cJ, 12, .inr (.inl f)))) (hR : fk_R x f) (hI : fk_In x) : Met l yX2_fitsLong wsX2_fitsLong rmX2_fitsLong (va_Pc [.ref h0] (fk_pre D (fk_ty cJ cC cI cZ cK) ws sz)) (va_Qi (fun (r : Int32) (_ : Unit) => r = if -9223372036854775808 ≤ x ∧ x < 9223372036854775808 then 1 else 0) (fk_Bd D (fk_ty cJ cC cI cZ cK) (va_A ws sz) (fun _ : Unit => ws)) (va_A ws sz)) 0 0 (va_A ws sz) := by
  refine fk_ofW cX2_fitsLong 4 (some .boolean) (fun A => va_Qi (fun (r : Int32) (_ : Unit) => r = if -9223372036854775808 ≤ x ∧ x < 9223372036854775808 then 1 else 0) (fk_Bd D (fk_ty cJ cC cI cZ cK) A (fun _ : Unit => ws)) A) rfl (by decide) (Nat.le_of_ble_eq_true rfl) ?_
  intro p e s m below meth c A ls args QQ hQQ hAt hP hK hN hD hA hS hl
  obtain ⟨⟨hx, hb, hml, hown, hts⟩, hr, hlocks, hin⟩ := hAt
  have hl : lv_has ls 4 [(0, .ref h0)] := hl
  have k1 := hts (.fieldLink RX2 9 "FixedKinds$Whole" "limbs" "[J") (by decide +kernel)
  have k2 := (by decide +kernel : ∀ w ∈ u_ws RX2 TX2 1, w ∈ wsX2_fitsLong)
  have k3 := hts (.constantLong RX2 15 65535) (by decide +kernel)
  refine lv_aload_n hx hb dX2_fitsLong_0 rfl (lv_at hl 0 rfl) ?_
  refine lv_iconst (v := 0) hx hb dX2_fitsLong_1 (by decide) ?_
  refine fk_cl hD hS hA (va_runV (As := [.int 0]) (rest := []) ⟨hx, hb, hml, hown, hts⟩ (kX2_bitsFrom _ ws h0 h1 q0 q1 f 0 x hq0 hq1 hR (by omega)) (cwV 1 hts gX2_fitsLong_X2_bitsFrom rfl rfl rfl (by decide +kernel) ⟨Nat.le_of_ble_eq_true rfl, Nat.le_of_ble_eq_true rfl⟩) (fk_preV q0 3 hK hN hP hD rfl hq0) rfl rfl hl.1 rfl (lv_room (Nat.le_of_ble_eq_true rfl)) dX2_fitsLong_2 ⟨Nat.le_of_ble_eq_true rfl, Nat.le_of_ble_eq_true rfl⟩) (fun r1 u H locs hw hP hD hS => ?_)
  have hP : va_P D vwCl ws H := hP
  have hD : va_D A ws := hD
  have hy : (r1).toInt = x.bmod 18446744073709551616 := by rw [hw]; simp
  generalize hye : x.bmod 18446744073709551616 = y at hy
  have hyI : fk_In y := by rw [← hye]; have := Int.le_bmod (x := x) (m := 18446744073709551616) (by omega); have := Int.bmod_lt (x := x) (m := 18446744073709551616) (by omega); constructor <;> omega
  have hyx : (-9223372036854775808 ≤ x ∧ x < 9223372036854775808) ↔ x = y := by rw [← hye]; constructor; intro q; exact (Int.bmod_eq_of_le (by omega) (by omega)).symm; intro q; have := Int.le_bmod (x := x) (m := 18446744073709551616) (by omega); have := Int.bmod_lt (x := x) (m := 18446744073709551616) (by omega); omega
  refine lv_lstore_n (lv' := [(1, .long r1), (0, .ref h0)]) hx hb dX2_fitsLong_5 rfl hl (by decide) rfl (fun ls hl => ?_)
  refine lv_iconst (v := 0) hx hb dX2_fitsLong_6 (by decide) ?_
  refine lv_istore_n (lv' := [(3, .int 0), (1, .long r1), (0, .ref h0)]) hx hb dX2_fitsLong_7 rfl hl (by decide) rfl (fun ls hl => ?_)
  have L8 : ∀ (fu8 : Nat) (i : Nat) (rs : Int64), 12 - i < fu8 → (i ≤ 12) → (∀ j, j < i → (f j).toInt = fk_dg y j) → (rs.toInt = y / 65536 ^ i) → ∀ (H : Heap) (locs : List Loc) (ls : Array Slot), va_P D vwCl ws H → va_D A ws → va_S A s.heap H locs → lv_has ls 4 [(0, .ref h0), (1, .long rs), (3, .int (nI i))] → W p l e rmX2_fitsLong s m args below meth c H locs 0 0 QQ (F0 m 8 ls []) := by
    intro fu8
    induction fu8 with
    | zero => intro i rs hfu; exact absurd hfu (Nat.not_lt_zero _)
    | succ fu8 ih8 =>
      intro i rs hfu8 hi hc hrs H locs ls hP hD hS hl
      refine lv_iload_n hx hb dX2_fitsLong_8 rfl (lv_at hl 2 rfl) ?_
      refine lv_bipush (v := 12) hx hb dX2_fitsLong_9 (by decide) ?_
      refine lv_icmp_ge (tgt := 42) hx hb dX2_fitsLong_11 (by decide) (fun c_11 => ?_) (fun c_11 => ?_)
      · have hi12 : i = 12 := by have q := (nI_leI (a := 12) (b := i) (by omega) (by omega)).mp c_11; omega
        subst hi12
        refine lv_iconst (v := 1) hx hb dX2_fitsLong_42 (by decide) ?_
        rw [hQQ]
        exact W.zret (v := 1) hx hb hr rfl (fun t ht hW => ⟨⟨1, (), rfl, (by rw [if_pos (hyx.mpr (fk_R_inj hR (fk_R_eq hc) hI hyI))]), by rw [ht]; exact hP, va_K.moved hW.alike hK, hD⟩, hS.F ht⟩) hS.2.2 dX2_fitsLong_43
      · have hi12 : i < 12 := by rcases Nat.lt_or_ge i 12 with q | q; exact q; exact absurd ((nI_leI (a := 12) (b := i) (by omega) (by omega)).mpr q) c_11
        refine lv_aload_n hx hb dX2_fitsLong_14 rfl (lv_at hl 0 rfl) ?_
        refine va_get (D := D) (ci := 3) (v := .ref h1) (C := RX2) (T := TX2) (N := 1) hx hb hts k2 hown hK hP q0 hq0 rfl 0 (by decide) k1 (fun _ h9 => h9) rfl dX2_fitsLong_15 ?_
        refine lv_iload_n hx hb dX2_fitsLong_18 rfl (lv_at hl 2 rfl) ?_
        refine fk_lald hx hb hK hP q1 0 hq1 rfl (i := i) (by omega) (by decide) dX2_fitsLong_19 ?_
        refine lv_lload_n hx hb dX2_fitsLong_20 rfl (lv_at hl 1 rfl) ?_
        refine lv_ldc2 (v := 65535) hx hb hown k3 dX2_fitsLong_21 ?_
        refine lv_land hx hb dX2_fitsLong_24 ?_
        refine lv_topl (fun x2 ex2 => ?_)
        refine W.lcmp hx hb dX2_fitsLong_25 ?_
        refine lv_if_eq (tgt := 31) hx hb dX2_fitsLong_26 (by decide) (fun c_26 => ?_) (fun c_26 => ?_)
        · rw [lg_cmp_eq] at c_26
          rw [← Int64.toInt_inj, ex2, fk_m16, hrs] at c_26
          have a3 : ∀ j, j < i + 1 → (f j).toInt = fk_dg y j := by
            intro j hj
            by_cases q : j = i
            · subst q; exact c_26
            · exact hc j (by omega)
          refine lv_lload_n hx hb dX2_fitsLong_31 rfl (lv_at hl 1 rfl) ?_
          refine lv_bipush (v := 16) hx hb dX2_fitsLong_32 (by decide) ?_
          refine lv_lshr hx hb dX2_fitsLong_34 rfl ?_
          refine lv_topl (fun x3 ex3 => ?_)
          refine lv_lstore_n (lv' := [(1, .long x3), (0, .ref h0), (3, .int (nI i))]) hx hb dX2_fitsLong_35 rfl hl (by decide) rfl (fun ls hl => ?_)
          have a4 : x3.toInt = y / 65536 ^ (i + 1) := by rw [ex3, fk_s16, hrs, Int.pow_succ, Int.ediv_ediv_of_nonneg (Int.le_of_lt (fk_pp i))]
          refine lv_iinc (v := nI (i + 1)) (lv' := [(3, .int (nI (i + 1))), (1, .long x3), (0, .ref h0)]) hx hb dX2_fitsLong_36 hl (k := 2) rfl (by exact nI_1 i) (by decide) rfl (fun ls hl => ?_)
          refine lv_goto (tgt := 8) hx hb dX2_fitsLong_39 (by decide) ?_
          exact ih8 (i + 1) x3 (by omega) (by omega) a3 a4 _ _ _ hP hD hS (lv_sub hl [2, 1, 0] rfl)
        · rw [lg_cmp_eq] at c_26
          rw [← Int64.toInt_inj, ex2, fk_m16, hrs] at c_26
          refine lv_iconst (v := 0) hx hb dX2_fitsLong_29 (by decide) ?_
          rw [hQQ]
          exact W.zret (v := 0) hx hb hr rfl (fun t ht hW => ⟨⟨0, (), rfl, (by rw [if_neg (fun q => c_26 (by have e := fk_R_dg hR hi12; rw [hyx.mp q] at e; exact e))]), by rw [ht]; exact hP, va_K.moved hW.alike hK, hD⟩, hS.F ht⟩) hS.2.2 dX2_fitsLong_30
  exact L8 13 0 r1 (by omega) (by omega) (fun j hj => absurd hj (Nat.not_lt_zero j)) (by rw [hy]; simp) _ _ _ hP hD hS (lv_sub hl [2, 1, 0] rfl)
abbrev rmX2_addShifted : Room := { frames := 1, cells := 0, slots := 0, locals := 21 }
set_option maxHeartbeats 4000000 in
set_option maxRecDepth 100000 in
/-- Whole.addShifted -/
theorem kX2_addShifted {l : Launch} {D : va_G} {cJ cC cI cZ cK : ClassId} (sz : Nat) (ws : va_W) (h0 h1 h2 h3 q0 q1 q2 q3 : Nat) (f o : Nat → Int64) (n sh M : Nat) (k : Int64) (x y : Int) (hq0 : ws[q0]? = some (h0, .inr (3, [.ref h1]))) (hq1 : ws[q1]? = some (h1, .inl (cJ, 12, .inr (.inl f)))) (hq2 : ws[q2]? = some (h2, .inr (3, [.ref h3]))) (hq3 : ws[q3]? = some (h3, .inl (cJ, 12, .inr (.inl o)))) (hne : q1 ≠ q3) (hR : fk_R x f) (hRo : fk_R y o) (hn : n ≤ 12) (hM : M ≤ 12 ∧ sh ≤ M ∧ M ≤ n + sh + 1 ∧ (M = 12 ∨ M = n + sh + 1)) (hk : -1099511627776 ≤ k.toInt ∧ k.toInt ≤ 1099511627776) : Met l yX2_addShifted wsX2_addShifted rmX2_addShifted (va_Pc [.ref h0, .ref h2, .int (nI n), .int (nI sh), .long k] (fk_pre D (fk_ty cJ cC cI cZ cK) ws sz)) (va_Ql (fun (r : Int64) (g : Nat → Int64) => fk_C (fk_at f o sh k.toInt) 0 M g r.toInt ∧ ∀ j, M ≤ j → g j = f j) (fk_Bd D (fk_ty cJ cC cI cZ cK) (va_A ws sz) (fun g : Nat → Int64 => ws.set q1 (h1, .inl (cJ, 12, .inr (.inl g))))) (va_A ws sz)) 0 0 (va_A ws sz) := by
  refine fk_ofW cX2_addShifted 9 (some .long) (fun A => va_Ql (fun (r : Int64) (g : Nat → Int64) => fk_C (fk_at f o sh k.toInt) 0 M g r.toInt ∧ ∀ j, M ≤ j → g j = f j) (fk_Bd D (fk_ty cJ cC cI cZ cK) A (fun g : Nat → Int64 => ws.set q1 (h1, .inl (cJ, 12, .inr (.inl g))))) A) rfl (by decide) (Nat.le_of_ble_eq_true rfl) ?_
  intro p e s m below meth c A ls args QQ hQQ hAt hP hK hN hD hA hS hl
  obtain ⟨⟨hx, hb, hml, hown, hts⟩, hr, hlocks, hin⟩ := hAt
  have hl : lv_has ls 9 [(0, .ref h0), (1, .ref h2), (2, .int (nI n)), (3, .int (nI sh)), (4, .long k)] := hl
  have k1 := hts (.fieldLink RX2 9 "FixedKinds$Whole" "limbs" "[J") (by decide +kernel)
  have k2 := (by decide +kernel : ∀ w ∈ u_ws RX2 TX2 1, w ∈ wsX2_addShifted)
  have k3 := hts (.constantLong RX2 15 65535) (by decide +kernel)
  have hn_q1_q0 : q1 ≠ q0 := fk_neA hq0 hq1
  have hn_q1_q2 : q1 ≠ q2 := fk_neA hq2 hq1
  have hn_q1_q3 := hne
  have hw0 : ws = (ws.set q1 (h1, .inl (cJ, 12, .inr (.inl f)))) := by rw [fk_s0 hq1]
  rw [hw0] at hP hD
  refine lv_lconst (v := 0) hx hb dX2_addShifted_0 (by decide) ?_
  refine lv_lstore (lv' := [(6, .long 0), (0, .ref h0), (1, .ref h2), (2, .int (nI n)), (3, .int (nI sh)), (4, .long k)]) hx hb dX2_addShifted_1 hl (by decide) rfl (fun ls hl => ?_)
  refine lv_iload_n hx hb dX2_addShifted_3 rfl (lv_at hl 4 rfl) ?_
  refine lv_istore (lv' := [(8, .int (nI sh)), (6, .long 0), (0, .ref h0), (1, .ref h2), (2, .int (nI n)), (3, .int (nI sh)), (4, .long k)]) hx hb dX2_addShifted_4 hl (by decide) rfl (fun ls hl => ?_)
  have L6 : ∀ (fu6 : Nat) (i : Nat) (g : Nat → Int64) (cy : Int64), 12 - i < fu6 → (sh ≤ i) → (i ≤ M) → (fk_C (fk_at f o sh k.toInt) 0 i g cy.toInt) → (∀ j, i ≤ j → g j = f j) → (-2199023255552 ≤ cy.toInt ∧ cy.toInt ≤ 2199023255552) → ∀ (H : Heap) (locs : List Loc) (ls : Array Slot), va_P D vwCl (ws.set q1 (h1, .inl (cJ, 12, .inr (.inl g)))) H → va_D A (ws.set q1 (h1, .inl (cJ, 12, .inr (.inl g)))) → va_S A s.heap H locs → lv_has ls 9 [(0, .ref h0), (1, .ref h2), (2, .int (nI n)), (3, .int (nI sh)), (4, .long k), (6, .long cy), (8, .int (nI i))] → W p l e rmX2_addShifted s m args below meth c H locs 0 0 QQ (F0 m 6 ls []) := by
    intro fu6
    induction fu6 with
    | zero => intro i g cy hfu; exact absurd hfu (Nat.not_lt_zero _)
    | succ fu6 ih6 =>
      intro i g cy hfu6 hi0 hi hc hg hy H locs ls hP hD hS hl
      refine lv_iload hx hb dX2_addShifted_6 (lv_at hl 6 rfl) ?_
      refine lv_if_lt (tgt := 76) hx hb dX2_addShifted_8 (by decide) (fun c_8 => False.elim (nI_pos (n := i) (by omega) c_8)) (fun c_8 => ?_)
      refine lv_iload hx hb dX2_addShifted_11 (lv_at hl 6 rfl) ?_
      refine lv_bipush (v := 12) hx hb dX2_addShifted_13 (by decide) ?_
      refine lv_icmp_ge (tgt := 76) hx hb dX2_addShifted_15 (by decide) (fun c_15 => ?_) (fun c_15 => ?_)
      · have hiM : i = M := by have q := (nI_leI (a := 12) (b := i) (by omega) (by omega)).mp c_15; omega
        refine lv_lload hx hb dX2_addShifted_76 (lv_at hl 5 rfl) ?_
        rw [hQQ]
        exact W.lret (v := cy) hx hb hr (fun t ht hW => ⟨⟨cy, g, rfl, ⟨by rw [← hiM]; exact hc, by rw [← hiM]; exact hg⟩, by rw [ht]; exact hP, va_K.moved hW.alike hK, hD⟩, hS.F ht⟩) hS.2.2 dX2_addShifted_78
      · have hi12 : i < 12 := by rcases Nat.lt_or_ge i 12 with q | q; exact q; exact absurd ((nI_leI (a := 12) (b := i) (by omega) (by omega)).mpr q) c_15
        refine lv_iload hx hb dX2_addShifted_18 (lv_at hl 6 rfl) ?_
        refine lv_iload_n hx hb dX2_addShifted_20 rfl (lv_at hl 2 rfl) ?_
        refine lv_iload_n hx hb dX2_addShifted_21 rfl (lv_at hl 3 rfl) ?_
        refine lv_iadd hx hb dX2_addShifted_22 ?_
        refine lv_topi (fun x1 ex1 => ?_)
        have ex1q : x1 = nI (n + sh) := by
          rw [ex1]; exact nI_add n sh
        subst ex1q
        refine lv_icmp_gt (tgt := 76) hx hb dX2_addShifted_23 (by decide) (fun c_23 => ?_) (fun c_23 => ?_)
        · have hiM : i = M := by have q := (nI_ltI (a := n + sh) (b := i) (by omega) (by omega)).mp c_23; omega
          refine lv_lload hx hb dX2_addShifted_76 (lv_at hl 5 rfl) ?_
          rw [hQQ]
          exact W.lret (v := cy) hx hb hr (fun t ht hW => ⟨⟨cy, g, rfl, ⟨by rw [← hiM]; exact hc, by rw [← hiM]; exact hg⟩, by rw [ht]; exact hP, va_K.moved hW.alike hK, hD⟩, hS.F ht⟩) hS.2.2 dX2_addShifted_78
        · have hiM : i < M := by rcases Nat.lt_or_ge (n + sh) i with q | q; exact absurd ((nI_ltI (a := n + sh) (b := i) (by omega) (by omega)).mpr q) c_23; omega
          refine lv_lload hx hb dX2_addShifted_26 (lv_at hl 5 rfl) ?_
          refine lv_aload_n hx hb dX2_addShifted_28 rfl (lv_at hl 0 rfl) ?_
          refine va_get (D := D) (ci := 3) (v := .ref h1) (C := RX2) (T := TX2) (N := 1) hx hb hts k2 hown hK hP q0 (fk_sn hq0 hn_q1_q0) rfl 0 (by decide) k1 (fun _ h9 => h9) rfl dX2_addShifted_29 ?_
          refine lv_iload hx hb dX2_addShifted_32 (lv_at hl 6 rfl) ?_
          refine fk_lald hx hb hK hP q1 0 (fk_ss hq1) rfl (i := i) (by omega) (by decide) dX2_addShifted_34 ?_
          refine lv_aload_n hx hb dX2_addShifted_35 rfl (lv_at hl 1 rfl) ?_
          refine lv_iload hx hb dX2_addShifted_36 (lv_at hl 6 rfl) ?_
          refine lv_iload_n hx hb dX2_addShifted_38 rfl (lv_at hl 3 rfl) ?_
          refine lv_isub hx hb dX2_addShifted_39 ?_
          refine lv_topi (fun x2 ex2 => ?_)
          have ex2q : x2 = nI (i - sh) := by
            rw [ex2]; exact pk_sub hi0
          subst ex2q
          refine fk_cl hD hS hA (va_runV (As := [.int (nI (i - sh))]) (rest := [.long (g i), .long cy]) ⟨hx, hb, hml, hown, hts⟩ (kX2_limb _ _ h2 h3 q2 q3 o (nI (i - sh)) (fk_sn hq2 hn_q1_q2) (fk_sn hq3 hn_q1_q3)) (cwV 1 hts gX2_addShifted_X2_limb rfl rfl rfl (by decide +kernel) ⟨Nat.le_of_ble_eq_true rfl, Nat.le_of_ble_eq_true rfl⟩) (fk_preV q2 3 hK hN hP hD rfl (fk_sn hq2 hn_q1_q2)) rfl rfl hl.1 rfl (lv_room (Nat.le_of_ble_eq_true rfl)) dX2_addShifted_40 ⟨Nat.le_of_ble_eq_true rfl, Nat.le_of_ble_eq_true rfl⟩) (fun r3 u H locs hw hP hD hS => ?_)
          have hP : va_P D vwCl (ws.set q1 (h1, .inl (cJ, 12, .inr (.inl g)))) H := hP
          have hD : va_D A (ws.set q1 (h1, .inl (cJ, 12, .inr (.inl g)))) := hD
          rw [nI_toInt (by omega)] at hw
          refine lv_lload hx hb dX2_addShifted_43 (lv_at hl 4 rfl) ?_
          refine lv_lmul hx hb dX2_addShifted_45 ?_
          refine lv_topl (fun x4 ex4 => ?_)
          refine lv_ladd hx hb dX2_addShifted_46 ?_
          refine lv_topl (fun x5 ex5 => ?_)
          refine lv_ladd hx hb dX2_addShifted_47 ?_
          refine lv_topl (fun x6 ex6 => ?_)
          refine lv_lstore (lv' := [(6, .long x6), (0, .ref h0), (1, .ref h2), (2, .int (nI n)), (3, .int (nI sh)), (4, .long k), (8, .int (nI i))]) hx hb dX2_addShifted_48 hl (by decide) rfl (fun ls hl => ?_)
          have hfi := hR.1 i hi12
          rw [fk_I_def] at hfi
          have hob := fk_lb_bd hRo ((i - sh : Nat) : Int)
          rw [← hw] at hob
          have hm := fk_mbd hob.1 hob.2 hk.1 hk.2
          have a0 : x4.toInt = r3.toInt * k.toInt := by
            rw [ex4]; exact fk_mul (by omega) (by omega)
          have a1 : x5.toInt = (f i).toInt + x4.toInt := by
            rw [ex5, hg i (Nat.le_refl i)]; exact fk_add (by omega) (by omega)
          have a2 : x6.toInt = cy.toInt + fk_at f o sh k.toInt i := by
            rw [fk_at, if_neg (by omega), ← hw, fk_I, ← a0, ← a1, ex6]; exact fk_add (by omega) (by omega)
          have a2b : x6.toInt = cy.toInt + ((f i).toInt + r3.toInt * k.toInt) := by rw [← a0, ← a1, ex6]; exact fk_add (by omega) (by omega)
          refine lv_aload_n hx hb dX2_addShifted_50 rfl (lv_at hl 1 rfl) ?_
          refine va_get (D := D) (ci := 3) (v := .ref h1) (C := RX2) (T := TX2) (N := 1) hx hb hts k2 hown hK hP q0 (fk_sn hq0 hn_q1_q0) rfl 0 (by decide) k1 (fun _ h9 => h9) rfl dX2_addShifted_51 ?_
          refine lv_iload hx hb dX2_addShifted_54 (lv_at hl 6 rfl) ?_
          refine lv_lload hx hb dX2_addShifted_56 (lv_at hl 0 rfl) ?_
          refine lv_ldc2 (v := 65535) hx hb hown k3 dX2_addShifted_58 ?_
          refine lv_land hx hb dX2_addShifted_61 ?_
          refine lv_topl (fun x7 ex7 => ?_)
          refine fk_last hx hb hK hP hD hS q1 0 (fk_ss hq1) rfl (i := i) (by omega) (by decide) dX2_addShifted_62 (fun H locs hP hD hS => ?_)
          rw [fk_s2] at hP hD
          refine lv_lload hx hb dX2_addShifted_63 (lv_at hl 0 rfl) ?_
          refine lv_bipush (v := 16) hx hb dX2_addShifted_65 (by decide) ?_
          refine lv_lshr hx hb dX2_addShifted_67 rfl ?_
          refine lv_topl (fun x8 ex8 => ?_)
          refine lv_lstore (lv' := [(6, .long x8), (0, .ref h0), (1, .ref h2), (2, .int (nI n)), (3, .int (nI sh)), (4, .long k), (8, .int (nI i))]) hx hb dX2_addShifted_68 hl (by decide) rfl (fun ls hl => ?_)
          have a3 := fk_C_stp hc a2 ex7 ex8
          have a4 : ∀ j, i + 1 ≤ j → vp_updL g i x7 j = f j := fun j hj => by rw [pk_uLn (by omega)]; exact hg j (by omega)
          have a5 : -2199023255552 ≤ x8.toInt ∧ x8.toInt ≤ 2199023255552 := by rw [ex8, fk_s16, a2b]; omega
          refine lv_iinc (v := nI (i + 1)) (lv' := [(8, .int (nI (i + 1))), (6, .long x8), (0, .ref h0), (1, .ref h2), (2, .int (nI n)), (3, .int (nI sh)), (4, .long k)]) hx hb dX2_addShifted_70 hl (k := 6) rfl (by exact nI_1 i) (by decide) rfl (fun ls hl => ?_)
          refine lv_goto (tgt := 6) hx hb dX2_addShifted_73 (by decide) ?_
          exact ih6 (i + 1) (vp_updL g i x7) x8 (by omega) (by omega) (by omega) a3 a4 a5 _ _ _ hP hD hS (lv_sub hl [2, 3, 4, 5, 6, 1, 0] rfl)
  exact L6 13 sh f 0 (by omega) (Nat.le_refl _) (by omega) (fk_at_0 hR.1 (by omega)) (fun _ _ => rfl) (by decide) _ _ _ hP hD hS (lv_sub hl [2, 3, 4, 5, 6, 1, 0] rfl)
abbrev rmX2_addTimes : Room := { frames := 2, cells := 0, slots := 0, locals := 49 }
set_option maxHeartbeats 4000000 in
set_option maxRecDepth 100000 in
/-- Whole.addTimes -/
theorem kX2_addTimes {l : Launch} {D : va_G} {cJ cC cI cZ cK : ClassId} (sz : Nat) (ws : va_W) (h0 h1 h2 h3 q0 q1 q2 q3 : Nat) (f o : Nat → Int64) (k : Int64) (x y : Int) (hq0 : ws[q0]? = some (h0, .inr (3, [.ref h1]))) (hq1 : ws[q1]? = some (h1, .inl (cJ, 12, .inr (.inl f)))) (hq2 : ws[q2]? = some (h2, .inr (3, [.ref h3]))) (hq3 : ws[q3]? = some (h3, .inl (cJ, 12, .inr (.inl o)))) (hne : q1 ≠ q3) (hR : fk_R x f) (hRo : fk_R y o) (hk : -1099511627776 ≤ k.toInt ∧ k.toInt ≤ 1099511627776) : Met l yX2_addTimes wsX2_addTimes rmX2_addTimes (va_Pc [.ref h0, .ref h2, .long k] (fk_pre D (fk_ty cJ cC cI cZ cK) ws sz)) (va_Qv (fun g : Nat → Int64 => fk_R (x + y * k.toInt) g) (fk_Bd D (fk_ty cJ cC cI cZ cK) (va_A ws sz) (fun g : Nat → Int64 => ws.set q1 (h1, .inl (cJ, 12, .inr (.inl g))))) (va_A ws sz)) 0 0 (va_A ws sz) := by
  refine fk_ofW cX2_addTimes 4 none (fun A => va_Qv (fun g : Nat → Int64 => fk_R (x + y * k.toInt) g) (fk_Bd D (fk_ty cJ cC cI cZ cK) A (fun g : Nat → Int64 => ws.set q1 (h1, .inl (cJ, 12, .inr (.inl g))))) A) rfl (by decide) (Nat.le_of_ble_eq_true rfl) ?_
  intro p e s m below meth c A ls args QQ hQQ hAt hP hK hN hD hA hS hl
  obtain ⟨⟨hx, hb, hml, hown, hts⟩, hr, hlocks, hin⟩ := hAt
  have hl : lv_has ls 4 [(0, .ref h0), (1, .ref h2), (2, .long k)] := hl
  refine lv_aload_n hx hb dX2_addTimes_0 rfl (lv_at hl 0 rfl) ?_
  refine lv_aload_n hx hb dX2_addTimes_1 rfl (lv_at hl 1 rfl) ?_
  refine lv_bipush (v := 12) hx hb dX2_addTimes_2 (by decide) ?_
  refine lv_iconst (v := 0) hx hb dX2_addTimes_4 (by decide) ?_
  refine lv_lload_n hx hb dX2_addTimes_5 rfl (lv_at hl 2 rfl) ?_
  refine fk_cl hD hS hA (va_runV (As := [.ref h2, .int 12, .int 0, .long k]) (rest := []) ⟨hx, hb, hml, hown, hts⟩ (kX2_addShifted _ ws h0 h1 h2 h3 q0 q1 q2 q3 f o 12 0 12 k x y hq0 hq1 hq2 hq3 hne hR hRo (by omega) (by omega) hk) (cwV 4 hts gX2_addTimes_X2_addShifted rfl rfl rfl (by decide +kernel) ⟨Nat.le_of_ble_eq_true rfl, Nat.le_of_ble_eq_true rfl⟩) (fk_preV q0 3 hK hN hP hD rfl hq0) rfl rfl hl.1 rfl (lv_room (Nat.le_of_ble_eq_true rfl)) dX2_addTimes_6 ⟨Nat.le_of_ble_eq_true rfl, Nat.le_of_ble_eq_true rfl⟩) (fun r1 g H locs hw hP hD hS => ?_)
  have hP : va_P D vwCl (ws.set q1 (h1, .inl (cJ, 12, .inr (.inl g)))) H := hP
  have hD : va_D A (ws.set q1 (h1, .inl (cJ, 12, .inr (.inl g)))) := hD
  obtain ⟨hc, hg⟩ := hw
  have hc2 : fk_C (fun i => fk_I f i + fk_I o i * k.toInt) 0 12 g r1.toInt := by
    refine ⟨hc.1, ?_⟩
    rw [hc.2]
    exact congrArg (fun z => 0 + z) (fk_T_congr (fun i hi => by rw [fk_at, if_neg (by omega), Nat.sub_zero, fk_lb_in hi rfl]; rfl))
  refine lv_pop2_2 hx hb dX2_addTimes_9 rfl ?_
  rw [hQQ]
  exact W.vret hx hb hr (fun t ht hW => ⟨⟨g, rfl, fk_R_addt hR hRo hc2, by rw [ht]; exact hP, va_K.moved hW.alike hK, hD⟩, hS.F ht⟩) hS.2.2 dX2_addTimes_10
