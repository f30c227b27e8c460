/-! Whole: readers, by program -/
abbrev rmX2_copy : Room := { frames := 0, cells := 0, slots := 0, locals := 0 }
set_option maxHeartbeats 4000000 in
set_option maxRecDepth 100000 in
/-- Whole.copy -/
theorem kX2_copy {l : Launch} {D : va_G} {cJ cC cI cZ cK : ClassId} (sz : Nat) (ws : va_W) (h0 h1 h2 h3 q0 q1 q2 q3 : Nat) (f o : Nat → Int64) (y : Int) (hq0 : ws[q0]? = some (h0, .inr (3, [.ref h1]))) (hq1 : ws[q1]? = some (h1, .inl (cJ, 12, .inr (.inl f)))) (hq2 : ws[q2]? = some (h2, .inr (3, [.ref h3]))) (hq3 : ws[q3]? = some (h3, .inl (cJ, 12, .inr (.inl o)))) (hne : q1 ≠ q3) (hR2 : fk_R y o) : Met l yX2_copy wsX2_copy rmX2_copy (va_Pc [.ref h0, .ref h2] (fk_pre D (fk_ty cJ cC cI cZ cK) ws sz)) (va_Qv (fun g : Nat → Int64 => fk_R y g) (fk_Bd D (fk_ty cJ cC cI cZ cK) (va_A ws sz) (fun g : Nat → Int64 => ws.set q1 (h1, .inl (cJ, 12, .inr (.inl g))))) (va_A ws sz)) 0 0 (va_A ws sz) := by
  refine fk_ofW cX2_copy 3 none (fun A => va_Qv (fun g : Nat → Int64 => fk_R y g) (fk_Bd D (fk_ty cJ cC cI cZ cK) A (fun g : Nat → Int64 => ws.set q1 (h1, .inl (cJ, 12, .inr (.inl g))))) A) rfl (by decide) (Nat.le_of_ble_eq_true rfl) ?_
  intro p e s m below meth c A ls args QQ hQQ hAt hP hK hN hD hA hS hl
  obtain ⟨⟨hx, hb, hml, hown, hts⟩, hr, hlocks, hin⟩ := hAt
  have hl : lv_has ls 3 [(0, .ref h0), (1, .ref h2)] := hl
  have k1 := hts (.fieldLink RX2 9 "FixedKinds$Whole" "limbs" "[J") (by decide +kernel)
  have k2 := (by decide +kernel : ∀ w ∈ u_ws RX2 TX2 1, w ∈ wsX2_copy)
  have hn_q1_q0 : q1 ≠ q0 := fk_neA hq0 hq1
  have hn_q1_q2 : q1 ≠ q2 := fk_neA hq2 hq1
  have hn_q1_q3 := hne
  have hw0 : ws = (ws.set q1 (h1, .inl (cJ, 12, .inr (.inl f)))) := by rw [fk_s0 hq1]
  rw [hw0] at hP hD
  refine lv_iconst (v := 0) hx hb dX2_copy_0 (by decide) ?_
  refine lv_istore_n (lv' := [(2, .int 0), (0, .ref h0), (1, .ref h2)]) hx hb dX2_copy_1 rfl hl (by decide) rfl (fun ls hl => ?_)
  have L2 : ∀ (fu2 : Nat) (i : Nat) (g : Nat → Int64), 12 - i < fu2 → (i ≤ 12) → (∀ j, j < i → g j = o j) → ∀ (H : Heap) (locs : List Loc) (ls : Array Slot), va_P D vwCl (ws.set q1 (h1, .inl (cJ, 12, .inr (.inl g)))) H → va_D A (ws.set q1 (h1, .inl (cJ, 12, .inr (.inl g)))) → va_S A s.heap H locs → lv_has ls 3 [(0, .ref h0), (1, .ref h2), (2, .int (nI i))] → W p l e rmX2_copy s m args below meth c H locs 0 0 QQ (F0 m 2 ls []) := by
    intro fu2
    induction fu2 with
    | zero => intro i g hfu; exact absurd hfu (Nat.not_lt_zero _)
    | succ fu2 ih2 =>
      intro i g hfu2 hi hc H locs ls hP hD hS hl
      refine lv_iload_n hx hb dX2_copy_2 rfl (lv_at hl 2 rfl) ?_
      refine lv_bipush (v := 12) hx hb dX2_copy_3 (by decide) ?_
      refine lv_icmp_ge (tgt := 26) hx hb dX2_copy_5 (by decide) (fun c_5 => ?_) (fun c_5 => ?_)
      · have hi12 : i = 12 := by have q := (nI_leI (a := 12) (b := i) (by omega) (by omega)).mp c_5; omega
        subst hi12
        rw [hQQ]
        exact W.vret hx hb hr (fun t ht hW => ⟨⟨g, rfl, fk_R_congr hR2 hc, by rw [ht]; exact hP, va_K.moved hW.alike hK, hD⟩, hS.F ht⟩) hS.2.2 dX2_copy_26
      · have hi12 : i < 12 := by rcases Nat.lt_or_ge i 12 with q | q; exact q; exact absurd ((nI_leI (a := 12) (b := i) (by omega) (by omega)).mpr q) c_5
        refine lv_aload_n hx hb dX2_copy_8 rfl (lv_at hl 0 rfl) ?_
        refine va_get (D := D) (ci := 3) (v := .ref h1) (C := RX2) (T := TX2) (N := 1) hx hb hts k2 hown hK hP q0 (fk_sn hq0 hn_q1_q0) rfl 0 (by decide) k1 (fun _ h9 => h9) rfl dX2_copy_9 ?_
        refine lv_iload_n hx hb dX2_copy_12 rfl (lv_at hl 2 rfl) ?_
        refine lv_aload_n hx hb dX2_copy_13 rfl (lv_at hl 1 rfl) ?_
        refine va_get (D := D) (ci := 3) (v := .ref h3) (C := RX2) (T := TX2) (N := 1) hx hb hts k2 hown hK hP q2 (fk_sn hq2 hn_q1_q2) rfl 0 (by decide) k1 (fun _ h9 => h9) rfl dX2_copy_14 ?_
        refine lv_iload_n hx hb dX2_copy_17 rfl (lv_at hl 2 rfl) ?_
        refine fk_lald hx hb hK hP q3 0 (fk_sn hq3 hn_q1_q3) rfl (i := i) (by omega) (by decide) dX2_copy_18 ?_
        refine fk_last hx hb hK hP hD hS q1 0 (fk_ss hq1) rfl (i := i) (by omega) (by decide) dX2_copy_19 (fun H locs hP hD hS => ?_)
        rw [fk_s2] at hP hD
        have a3 : ∀ j, j < i + 1 → vp_updL g i (o i) j = o j := by
          intro j hj
          by_cases q : j = i
          · subst q; rw [pk_uLs]
          · rw [pk_uLn q]; exact hc j (by omega)
        refine lv_iinc (v := nI (i + 1)) (lv' := [(2, .int (nI (i + 1))), (0, .ref h0), (1, .ref h2)]) hx hb dX2_copy_20 hl (k := 2) rfl (by exact nI_1 i) (by decide) rfl (fun ls hl => ?_)
        refine lv_goto (tgt := 2) hx hb dX2_copy_23 (by decide) ?_
        exact ih2 (i + 1) (vp_updL g i (o i)) (by omega) (by omega) a3 _ _ _ hP hD hS (lv_sub hl [1, 2, 0] rfl)
  exact L2 13 0 f (by omega) (by omega) (fun j hj => absurd hj (Nat.not_lt_zero j)) _ _ _ hP hD hS (lv_sub hl [1, 2, 0] rfl)
abbrev rmX2_isNegative : Room := { frames := 0, cells := 0, slots := 0, locals := 0 }
set_option maxHeartbeats 4000000 in
set_option maxRecDepth 100000 in
/-- Whole.isNegative -/
theorem kX2_isNegative {l : Launch} {D : va_G} {cJ cC cI cZ cK : ClassId} (sz : Nat) (ws : va_W) (h0 h1 q0 q1 : Nat) (f : Nat → Int64) (x : Int) (hq0 : ws[q0]? = some (h0, .inr (3, [.ref h1]))) (hq1 : ws[q1]? = some (h1, .inl (cJ, 12, .inr (.inl f)))) (hR : fk_R x f) (hI : fk_In x) : Met l yX2_isNegative wsX2_isNegative rmX2_isNegative (va_Pc [.ref h0] (fk_pre D (fk_ty cJ cC cI cZ cK) ws sz)) (va_Qi (fun (r : Int32) (_ : Unit) => r = if x < 0 then 1 else 0) (fk_Bd D (fk_ty cJ cC cI cZ cK) (va_A ws sz) (fun _ : Unit => ws)) (va_A ws sz)) 0 0 (va_A ws sz) := by
  refine fk_ofW cX2_isNegative 1 (some .boolean) (fun A => va_Qi (fun (r : Int32) (_ : Unit) => r = if x < 0 then 1 else 0) (fk_Bd D (fk_ty cJ cC cI cZ cK) A (fun _ : Unit => ws)) A) rfl (by decide) (Nat.le_of_ble_eq_true rfl) ?_
  intro p e s m below meth c A ls args QQ hQQ hAt hP hK hN hD hA hS hl
  obtain ⟨⟨hx, hb, hml, hown, hts⟩, hr, hlocks, hin⟩ := hAt
  have hl : lv_has ls 1 [(0, .ref h0)] := hl
  have k1 := hts (.fieldLink RX2 9 "FixedKinds$Whole" "limbs" "[J") (by decide +kernel)
  have k2 := (by decide +kernel : ∀ w ∈ u_ws RX2 TX2 1, w ∈ wsX2_isNegative)
  refine lv_aload_n hx hb dX2_isNegative_0 rfl (lv_at hl 0 rfl) ?_
  refine va_get (D := D) (ci := 3) (v := .ref h1) (C := RX2) (T := TX2) (N := 1) hx hb hts k2 hown hK hP q0 hq0 rfl 0 (by decide) k1 (fun _ h9 => h9) rfl dX2_isNegative_1 ?_
  refine lv_bipush (v := 11) hx hb dX2_isNegative_4 (by decide) ?_
  refine fk_lald hx hb hK hP q1 0 hq1 rfl (i := 11) (by decide) (by decide) dX2_isNegative_6 ?_
  refine lv_bipush (v := 15) hx hb dX2_isNegative_7 (by decide) ?_
  refine lv_lshr hx hb dX2_isNegative_9 rfl ?_
  refine lv_topl (fun x1 ex1 => ?_)
  refine lv_lconst (v := 0) hx hb dX2_isNegative_10 (by decide) ?_
  refine W.lcmp hx hb dX2_isNegative_11 ?_
  refine lv_if_eq (tgt := 19) hx hb dX2_isNegative_12 (by decide) (fun c_12 => ?_) (fun c_12 => ?_)
  · rw [lg_cmp_eq] at c_12
    have hz := fk_s15 (f 11)
    have hbd := hR.1 11 (by omega)
    rw [fk_I_def] at hbd
    have hv := fk_R_neg hR hI
    rw [← Int64.toInt_inj, ex1, hz, fk_z64] at c_12
    refine lv_iconst (v := 0) hx hb dX2_isNegative_19 (by decide) ?_
    rw [hQQ]
    exact W.zret (v := 0) hx hb hr rfl (fun t ht hW => ⟨⟨0, (), rfl, (by rw [if_neg (fun q => by have := hv.mp q; omega)]), by rw [ht]; exact hP, va_K.moved hW.alike hK, hD⟩, hS.F ht⟩) hS.2.2 dX2_isNegative_20
  · rw [lg_cmp_eq] at c_12
    have hz := fk_s15 (f 11)
    have hbd := hR.1 11 (by omega)
    rw [fk_I_def] at hbd
    have hv := fk_R_neg hR hI
    rw [← Int64.toInt_inj, ex1, hz, fk_z64] at c_12
    refine lv_iconst (v := 1) hx hb dX2_isNegative_15 (by decide) ?_
    refine lv_goto (tgt := 20) hx hb dX2_isNegative_16 (by decide) ?_
    rw [hQQ]
    exact W.zret (v := 1) hx hb hr rfl (fun t ht hW => ⟨⟨1, (), rfl, (by rw [if_pos (hv.mpr (by omega))]), by rw [ht]; exact hP, va_K.moved hW.alike hK, hD⟩, hS.F ht⟩) hS.2.2 dX2_isNegative_20
abbrev rmX2_size : Room := { frames := 0, cells := 0, slots := 0, locals := 0 }
set_option maxHeartbeats 4000000 in
set_option maxRecDepth 100000 in
/-- Whole.size -/
theorem kX2_size {l : Launch} {D : va_G} {cJ cC cI cZ cK : ClassId} (sz : Nat) (ws : va_W) (h0 h1 q0 q1 : Nat) (f : Nat → Int64) (hq0 : ws[q0]? = some (h0, .inr (3, [.ref h1]))) (hq1 : ws[q1]? = some (h1, .inl (cJ, 12, .inr (.inl f)))) : Met l yX2_size wsX2_size rmX2_size (va_Pc [.ref h0] (fk_pre D (fk_ty cJ cC cI cZ cK) ws sz)) (va_Qi (fun (r : Int32) (_ : Unit) => ∃ n : Nat, r = nI n ∧ fk_Sz (fk_I f) n) (fk_Bd D (fk_ty cJ cC cI cZ cK) (va_A ws sz) (fun _ : Unit => ws)) (va_A ws sz)) 0 0 (va_A ws sz) := by
  refine fk_ofW cX2_size 2 (some .int) (fun A => va_Qi (fun (r : Int32) (_ : Unit) => ∃ n : Nat, r = nI n ∧ fk_Sz (fk_I f) n) (fk_Bd D (fk_ty cJ cC cI cZ cK) A (fun _ : Unit => ws)) A) rfl (by decide) (Nat.le_of_ble_eq_true rfl) ?_
  intro p e s m below meth c A ls args QQ hQQ hAt hP hK hN hD hA hS hl
  obtain ⟨⟨hx, hb, hml, hown, hts⟩, hr, hlocks, hin⟩ := hAt
  have hl : lv_has ls 2 [(0, .ref h0)] := hl
  have k1 := hts (.fieldLink RX2 9 "FixedKinds$Whole" "limbs" "[J") (by decide +kernel)
  have k2 := (by decide +kernel : ∀ w ∈ u_ws RX2 TX2 1, w ∈ wsX2_size)
  refine lv_bipush (v := 12) hx hb dX2_size_0 (by decide) ?_
  refine lv_istore_n (lv' := [(1, .int 12), (0, .ref h0)]) hx hb dX2_size_2 rfl hl (by decide) rfl (fun ls hl => ?_)
  have L3 : ∀ (fu3 : Nat) (i : Nat), i < fu3 → (i ≤ 12) → (∀ j, i ≤ j → j < 12 → fk_I f j = 0) → ∀ (H : Heap) (locs : List Loc) (ls : Array Slot), va_P D vwCl ws H → va_D A ws → va_S A s.heap H locs → lv_has ls 2 [(0, .ref h0), (1, .int (nI i))] → W p l e rmX2_size s m args below meth c H locs 0 0 QQ (F0 m 3 ls []) := by
    intro fu3
    induction fu3 with
    | zero => intro i hfu; exact absurd hfu (Nat.not_lt_zero _)
    | succ fu3 ih3 =>
      intro i hfu3 hi hc H locs ls hP hD hS hl
      refine lv_iload_n hx hb dX2_size_3 rfl (lv_at hl 1 rfl) ?_
      refine lv_if_le (tgt := 26) hx hb dX2_size_4 (by decide) (fun c_4 => ?_) (fun c_4 => ?_)
      · have h0i : i = 0 := by have q := (nI_leI (a := i) (b := 0) (by omega) (by omega)).mp c_4; omega
        refine lv_iload_n hx hb dX2_size_26 rfl (lv_at hl 1 rfl) ?_
        rw [hQQ]
        exact W.iret (v := (nI i)) hx hb hr (fun t ht hW => ⟨⟨(nI i), (), rfl, ⟨i, rfl, hi, hc, Or.inl h0i⟩, by rw [ht]; exact hP, va_K.moved hW.alike hK, hD⟩, hS.F ht⟩) hS.2.2 dX2_size_27
      · obtain ⟨k, rfl⟩ : ∃ k, i = k + 1 := by rcases Nat.eq_zero_or_pos i with q | q; exact absurd (by rw [q]; decide) c_4; exact ⟨i - 1, by omega⟩
        refine lv_aload_n hx hb dX2_size_7 rfl (lv_at hl 0 rfl) ?_
        refine va_get (D := D) (ci := 3) (v := .ref h1) (C := RX2) (T := TX2) (N := 1) hx hb hts k2 hown hK hP q0 hq0 rfl 0 (by decide) k1 (fun _ h9 => h9) rfl dX2_size_8 ?_
        refine lv_iload_n hx hb dX2_size_11 rfl (lv_at hl 1 rfl) ?_
        refine lv_iconst (v := 1) hx hb dX2_size_12 (by decide) ?_
        refine lv_isub hx hb dX2_size_13 ?_
        refine lv_topi (fun x1 ex1 => ?_)
        have ex1q : x1 = nI k := by
          rw [ex1]; exact nI_pred k
        subst ex1q
        refine fk_lald hx hb hK hP q1 0 hq1 rfl (i := k) (by omega) (by decide) dX2_size_14 ?_
        refine lv_lconst (v := 0) hx hb dX2_size_15 (by decide) ?_
        refine W.lcmp hx hb dX2_size_16 ?_
        refine lv_if_ne (tgt := 26) hx hb dX2_size_17 (by decide) (fun c_17 => ?_) (fun c_17 => ?_)
        · rw [lg_cmp_eq] at c_17
          refine lv_iload_n hx hb dX2_size_26 rfl (lv_at hl 1 rfl) ?_
          rw [hQQ]
          exact W.iret (v := (nI (k + 1))) hx hb hr (fun t ht hW => ⟨⟨(nI (k + 1)), (), rfl, ⟨k + 1, rfl, hi, hc, Or.inr (by rw [Nat.add_sub_cancel, fk_I]; intro q; exact c_17 (Int64.toInt_inj.mp (by rw [q]; decide)))⟩, by rw [ht]; exact hP, va_K.moved hW.alike hK, hD⟩, hS.F ht⟩) hS.2.2 dX2_size_27
        · rw [lg_cmp_eq] at c_17
          have a3 : ∀ j, k ≤ j → j < 12 → fk_I f j = 0 := by
            intro j h1 h2
            by_cases q : j = k
            · subst q; rw [fk_I, c_17]; decide
            · exact hc j (by omega) h2
          refine lv_iinc (v := nI k) (lv' := [(1, .int (nI k)), (0, .ref h0)]) hx hb dX2_size_20 hl (k := 1) rfl (by exact pk_m1 k) (by decide) rfl (fun ls hl => ?_)
          refine lv_goto (tgt := 3) hx hb dX2_size_23 (by decide) ?_
          exact ih3 k (by omega) (by omega) a3 _ _ _ hP hD hS (lv_sub hl [1, 0] rfl)
  exact L3 13 12 (by omega) (by omega) (fun j h1 h2 => by omega) _ _ _ hP hD hS (lv_sub hl [1, 0] rfl)
abbrev rmX2_isZero : Room := { frames := 1, cells := 0, slots := 0, locals := 21 }
set_option maxHeartbeats 4000000 in
set_option maxRecDepth 100000 in
/-- Whole.isZero -/
theorem kX2_isZero {l : Launch} {D : va_G} {cJ cC cI cZ cK : ClassId} (sz : Nat) (ws : va_W) (h0 h1 q0 q1 : Nat) (f : Nat → Int64) (x : Int) (hq0 : ws[q0]? = some (h0, .inr (3, [.ref h1]))) (hq1 : ws[q1]? = some (h1, .inl (cJ, 12, .inr (.inl f)))) (hR : fk_R x f) (hI : fk_In x) : Met l yX2_isZero wsX2_isZero rmX2_isZero (va_Pc [.ref h0] (fk_pre D (fk_ty cJ cC cI cZ cK) ws sz)) (va_Qi (fun (r : Int32) (_ : Unit) => r = if x = 0 then 1 else 0) (fk_Bd D (fk_ty cJ cC cI cZ cK) (va_A ws sz) (fun _ : Unit => ws)) (va_A ws sz)) 0 0 (va_A ws sz) := by
  refine fk_ofW cX2_isZero 1 (some .boolean) (fun A => va_Qi (fun (r : Int32) (_ : Unit) => r = if x = 0 then 1 else 0) (fk_Bd D (fk_ty cJ cC cI cZ cK) A (fun _ : Unit => ws)) A) rfl (by decide) (Nat.le_of_ble_eq_true rfl) ?_
  intro p e s m below meth c A ls args QQ hQQ hAt hP hK hN hD hA hS hl
  obtain ⟨⟨hx, hb, hml, hown, hts⟩, hr, hlocks, hin⟩ := hAt
  have hl : lv_has ls 1 [(0, .ref h0)] := hl
  refine lv_aload_n hx hb dX2_isZero_0 rfl (lv_at hl 0 rfl) ?_
  refine fk_ci hD hS hA (va_runV (As := []) (rest := []) ⟨hx, hb, hml, hown, hts⟩ (kX2_size s.heap.size ws h0 h1 q0 q1 f hq0 hq1) (cwV 0 hts gX2_isZero_X2_size rfl rfl rfl (by decide +kernel) ⟨Nat.le_of_ble_eq_true rfl, Nat.le_of_ble_eq_true rfl⟩) (fk_preV q0 3 hK hN hP hD rfl hq0) rfl rfl hl.1 rfl (lv_room (Nat.le_of_ble_eq_true rfl)) dX2_isZero_1 ⟨Nat.le_of_ble_eq_true rfl, Nat.le_of_ble_eq_true rfl⟩) (fun r1 u H locs hw hP hD hS => ?_)
  have hP : va_P D vwCl ws H := hP
  have hD : va_D A ws := hD
  obtain ⟨n, hn, hs⟩ := hw
  subst hn
  refine lv_if_ne (tgt := 11) hx hb dX2_isZero_4 (by decide) (fun c_4 => ?_) (fun c_4 => ?_)
  · have hv := fk_Sz_zero hR hI hs
    have hn12 := hs.1
    refine lv_iconst (v := 0) hx hb dX2_isZero_11 (by decide) ?_
    rw [hQQ]
    exact W.zret (v := 0) hx hb hr rfl (fun t ht hW => ⟨⟨0, (), rfl, (by rw [if_neg (fun q => c_4 (by rw [hv.mp q]; rfl))]), by rw [ht]; exact hP, va_K.moved hW.alike hK, hD⟩, hS.F ht⟩) hS.2.2 dX2_isZero_12
  · have hv := fk_Sz_zero hR hI hs
    have hn12 := hs.1
    refine lv_iconst (v := 1) hx hb dX2_isZero_7 (by decide) ?_
    refine lv_goto (tgt := 12) hx hb dX2_isZero_8 (by decide) ?_
    rw [hQQ]
    exact W.zret (v := 1) hx hb hr rfl (fun t ht hW => ⟨⟨1, (), rfl, (by rw [if_pos (hv.mpr ((nI_eq (a := n) (b := 0) (by omega) (by omega)).mp c_4))]), by rw [ht]; exact hP, va_K.moved hW.alike hK, hD⟩, hS.F ht⟩) hS.2.2 dX2_isZero_12
abbrev rmX2_isOdd : Room := { frames := 0, cells := 0, slots := 0, locals := 0 }
set_option maxHeartbeats 4000000 in
set_option maxRecDepth 100000 in
/-- Whole.isOdd -/
theorem kX2_isOdd {l : Launch} {D : va_G} {cJ cC cI cZ cK : ClassId} (sz : Nat) (ws : va_W) (h0 h1 q0 q1 : Nat) (f : Nat → Int64) (x : Int) (hq0 : ws[q0]? = some (h0, .inr (3, [.ref h1]))) (hq1 : ws[q1]? = some (h1, .inl (cJ, 12, .inr (.inl f)))) (hR : fk_R x f) : Met l yX2_isOdd wsX2_isOdd rmX2_isOdd (va_Pc [.ref h0] (fk_pre D (fk_ty cJ cC cI cZ cK) ws sz)) (va_Qi (fun (r : Int32) (_ : Unit) => r = if x % 2 = 0 then 0 else 1) (fk_Bd D (fk_ty cJ cC cI cZ cK) (va_A ws sz) (fun _ : Unit => ws)) (va_A ws sz)) 0 0 (va_A ws sz) := by
  refine fk_ofW cX2_isOdd 1 (some .boolean) (fun A => va_Qi (fun (r : Int32) (_ : Unit) => r = if x % 2 = 0 then 0 else 1) (fk_Bd D (fk_ty cJ cC cI cZ cK) A (fun _ : Unit => ws)) A) rfl (by decide) (Nat.le_of_ble_eq_true rfl) ?_
  intro p e s m below meth c A ls args QQ hQQ hAt hP hK hN hD hA hS hl
  obtain ⟨⟨hx, hb, hml, hown, hts⟩, hr, hlocks, hin⟩ := hAt
  have hl : lv_has ls 1 [(0, .ref h0)] := hl
  have k1 := hts (.fieldLink RX2 9 "FixedKinds$Whole" "limbs" "[J") (by decide +kernel)
  have k2 := (by decide +kernel : ∀ w ∈ u_ws RX2 TX2 1, w ∈ wsX2_isOdd)
  refine lv_aload_n hx hb dX2_isOdd_0 rfl (lv_at hl 0 rfl) ?_
  refine va_get (D := D) (ci := 3) (v := .ref h1) (C := RX2) (T := TX2) (N := 1) hx hb hts k2 hown hK hP q0 hq0 rfl 0 (by decide) k1 (fun _ h9 => h9) rfl dX2_isOdd_1 ?_
  refine lv_iconst (v := 0) hx hb dX2_isOdd_4 (by decide) ?_
  refine fk_lald hx hb hK hP q1 0 hq1 rfl (i := 0) (by decide) (by decide) dX2_isOdd_5 ?_
  refine lv_lconst (v := 1) hx hb dX2_isOdd_6 (by decide) ?_
  refine lv_land hx hb dX2_isOdd_7 ?_
  refine lv_topl (fun x1 ex1 => ?_)
  refine lv_lconst (v := 0) hx hb dX2_isOdd_8 (by decide) ?_
  refine W.lcmp hx hb dX2_isOdd_9 ?_
  refine lv_if_eq (tgt := 17) hx hb dX2_isOdd_10 (by decide) (fun c_10 => ?_) (fun c_10 => ?_)
  · rw [lg_cmp_eq] at c_10
    have hz := fk_bit0 (f 0)
    have hv := fk_R_odd hR
    rw [← Int64.toInt_inj, ex1, hz, fk_z64, ← hv] at c_10
    refine lv_iconst (v := 0) hx hb dX2_isOdd_17 (by decide) ?_
    rw [hQQ]
    exact W.zret (v := 0) hx hb hr rfl (fun t ht hW => ⟨⟨0, (), rfl, (by rw [if_pos c_10]), by rw [ht]; exact hP, va_K.moved hW.alike hK, hD⟩, hS.F ht⟩) hS.2.2 dX2_isOdd_18
  · rw [lg_cmp_eq] at c_10
    have hz := fk_bit0 (f 0)
    have hv := fk_R_odd hR
    rw [← Int64.toInt_inj, ex1, hz, fk_z64, ← hv] at c_10
    refine lv_iconst (v := 1) hx hb dX2_isOdd_13 (by decide) ?_
    refine lv_goto (tgt := 18) hx hb dX2_isOdd_14 (by decide) ?_
    rw [hQQ]
    exact W.zret (v := 1) hx hb hr rfl (fun t ht hW => ⟨⟨1, (), rfl, (by rw [if_neg c_10]), by rw [ht]; exact hP, va_K.moved hW.alike hK, hD⟩, hS.F ht⟩) hS.2.2 dX2_isOdd_18
abbrev rmX2_limb : Room := { frames := 0, cells := 0, slots := 0, locals := 0 }
set_option maxHeartbeats 4000000 in
set_option maxRecDepth 100000 in
/-- Whole.limb -/
theorem kX2_limb {l : Launch} {D : va_G} {cJ cC cI cZ cK : ClassId} (sz : Nat) (ws : va_W) (h0 h1 q0 q1 : Nat) (f : Nat → Int64) (i : Int32) (hq0 : ws[q0]? = some (h0, .inr (3, [.ref h1]))) (hq1 : ws[q1]? = some (h1, .inl (cJ, 12, .inr (.inl f)))) : Met l yX2_limb wsX2_limb rmX2_limb (va_Pc [.ref h0, .int i] (fk_pre D (fk_ty cJ cC cI cZ cK) ws sz)) (va_Ql (fun (r : Int64) (_ : Unit) => r = fk_lb f i.toInt) (fk_Bd D (fk_ty cJ cC cI cZ cK) (va_A ws sz) (fun _ : Unit => ws)) (va_A ws sz)) 0 0 (va_A ws sz) := by
  refine fk_ofW cX2_limb 2 (some .long) (fun A => va_Ql (fun (r : Int64) (_ : Unit) => r = fk_lb f i.toInt) (fk_Bd D (fk_ty cJ cC cI cZ cK) A (fun _ : Unit => ws)) A) rfl (by decide) (Nat.le_of_ble_eq_true rfl) ?_
  intro p e s m below meth c A ls args QQ hQQ hAt hP hK hN hD hA hS hl
  obtain ⟨⟨hx, hb, hml, hown, hts⟩, hr, hlocks, hin⟩ := hAt
  have hl : lv_has ls 2 [(0, .ref h0), (1, .int i)] := hl
  have k1 := hts (.fieldLink RX2 9 "FixedKinds$Whole" "limbs" "[J") (by decide +kernel)
  have k2 := (by decide +kernel : ∀ w ∈ u_ws RX2 TX2 1, w ∈ wsX2_limb)
  refine lv_iload_n hx hb dX2_limb_0 rfl (lv_at hl 1 rfl) ?_
  refine lv_if_lt (tgt := 19) hx hb dX2_limb_1 (by decide) (fun c_1 => ?_) (fun c_1 => ?_)
  · refine lv_lconst (v := 0) hx hb dX2_limb_19 (by decide) ?_
    rw [hQQ]
    exact W.lret (v := 0) hx hb hr (fun t ht hW => ⟨⟨0, (), rfl, (fk_lb_out (Or.inl (Int32.lt_iff_toInt_lt.mp c_1))).symm, by rw [ht]; exact hP, va_K.moved hW.alike hK, hD⟩, hS.F ht⟩) hS.2.2 dX2_limb_20
  · refine lv_iload_n hx hb dX2_limb_4 rfl (lv_at hl 1 rfl) ?_
    refine lv_bipush (v := 12) hx hb dX2_limb_5 (by decide) ?_
    refine lv_icmp_ge (tgt := 19) hx hb dX2_limb_7 (by decide) (fun c_7 => ?_) (fun c_7 => ?_)
    · refine lv_lconst (v := 0) hx hb dX2_limb_19 (by decide) ?_
      rw [hQQ]
      exact W.lret (v := 0) hx hb hr (fun t ht hW => ⟨⟨0, (), rfl, (fk_lb_out (Or.inr (Int32.le_iff_toInt_le.mp c_7))).symm, by rw [ht]; exact hP, va_K.moved hW.alike hK, hD⟩, hS.F ht⟩) hS.2.2 dX2_limb_20
    · obtain ⟨j, hj, hji⟩ : ∃ j : Nat, j < 12 ∧ i = nI j := by
        rcases pk_ix i (n := 12) (by omega) with q | q | q
        · exact absurd q c_1
        · exact absurd q c_7
        · exact q
      subst hji
      refine lv_aload_n hx hb dX2_limb_10 rfl (lv_at hl 0 rfl) ?_
      refine va_get (D := D) (ci := 3) (v := .ref h1) (C := RX2) (T := TX2) (N := 1) hx hb hts k2 hown hK hP q0 hq0 rfl 0 (by decide) k1 (fun _ h9 => h9) rfl dX2_limb_11 ?_
      refine lv_iload_n hx hb dX2_limb_14 rfl (lv_at hl 1 rfl) ?_
      refine fk_lald hx hb hK hP q1 0 hq1 rfl (i := j) hj (by decide) dX2_limb_15 ?_
      refine lv_goto (tgt := 20) hx hb dX2_limb_16 (by decide) ?_
      rw [hQQ]
      exact W.lret (v := f j) hx hb hr (fun t ht hW => ⟨⟨(f j), (), rfl, (fk_lb_in hj (nI_toInt (by omega))).symm, by rw [ht]; exact hP, va_K.moved hW.alike hK, hD⟩, hS.F ht⟩) hS.2.2 dX2_limb_20
