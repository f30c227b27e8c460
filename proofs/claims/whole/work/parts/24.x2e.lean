/-! Whole: multiply, shorten, by program -/
abbrev rmX2_multiply : Room := { frames := 1, cells := 0, slots := 0, locals := 25 }
set_option maxHeartbeats 4000000 in
set_option maxRecDepth 100000 in
/-- Whole.multiply -/
theorem kX2_multiply {l : Launch} {D : va_G} {cJ cC cI cZ cK : ClassId} (sz : Nat) (ws : va_W) (h0 h1 h2 h3 q0 q1 q2 q3 : Nat) (f o : Nat → Int64) (x y : Int) (hq0 : ws[q0]? = some (h0, .inr (3, [.ref h1]))) (hq1 : ws[q1]? = some (h1, .inl (cJ, 12, .inr (.inl f)))) (hq2 : ws[q2]? = some (h2, .inr (3, [.ref h3]))) (hq3 : ws[q3]? = some (h3, .inl (cJ, 12, .inr (.inl o)))) (hne : q1 ≠ q3) (hR : fk_R x f) (hRo : fk_R y o) : Met l yX2_multiply wsX2_multiply rmX2_multiply (va_Pc [.ref h0, .ref h2] (fk_pre D (fk_ty cJ cC cI cZ cK) ws sz)) (va_Qv (fun g : Nat → Int64 => fk_R (x * y) g) (fk_Bd D (fk_ty cJ cC cI cZ cK) (va_A ws sz) (fun g : Nat → Int64 => ws.set q1 (h1, .inl (cJ, 12, .inr (.inl g))))) (va_A ws sz)) 0 0 (va_A ws sz) := by
  refine fk_ofW cX2_multiply 6 none (fun A => va_Qv (fun g : Nat → Int64 => fk_R (x * y) g) (fk_Bd D (fk_ty cJ cC cI cZ cK) A (fun g : Nat → Int64 => ws.set q1 (h1, .inl (cJ, 12, .inr (.inl g))))) A) rfl (by decide) (Nat.le_of_ble_eq_true rfl) ?_
  intro p e s m below meth c A ls args QQ hQQ hAt hP hK hN hD hA hS hl
  obtain ⟨⟨hx, hb, hml, hown, hts⟩, hr, hlocks, hin⟩ := hAt
  have hl : lv_has ls 6 [(0, .ref h0), (1, .ref h2)] := hl
  have k1 := hts (.fieldLink RX2 9 "FixedKinds$Whole" "limbs" "[J") (by decide +kernel)
  have k2 := (by decide +kernel : ∀ w ∈ u_ws RX2 TX2 1, w ∈ wsX2_multiply)
  have hn_q1_q0 : q1 ≠ q0 := fk_neA hq0 hq1
  have hn_q1_q2 : q1 ≠ q2 := fk_neA hq2 hq1
  have hn_q1_q3 := hne
  have hw0 : ws = (ws.set q1 (h1, .inl (cJ, 12, .inr (.inl f)))) := by rw [fk_s0 hq1]
  rw [hw0] at hP hD
  refine lv_bipush (v := 11) hx hb dX2_multiply_0 (by decide) ?_
  refine lv_istore_n (lv' := [(2, .int 11), (0, .ref h0), (1, .ref h2)]) hx hb dX2_multiply_2 rfl hl (by decide) rfl (fun ls hl => ?_)
  rw [show (11 : Int32) = nI 12 + (-1) by decide] at hl
  have L3 : ∀ (fu3 : Nat) (k : Nat) (g : Nat → Int64), k < fu3 → (k ≤ 12) → (∀ j, j < k → g j = f j) → (∀ j, k ≤ j → j < 12 → (g j).toInt = fk_cs (fk_I f) (fk_I o) j (j + 1)) → ∀ (H : Heap) (locs : List Loc) (ls : Array Slot), va_P D vwCl (ws.set q1 (h1, .inl (cJ, 12, .inr (.inl g)))) H → va_D A (ws.set q1 (h1, .inl (cJ, 12, .inr (.inl g)))) → va_S A s.heap H locs → lv_has ls 6 [(0, .ref h0), (1, .ref h2), (2, .int (nI k + (-1)))] → W p l e rmX2_multiply s m args below meth c H locs 0 0 QQ (F0 m 3 ls []) := by
    intro fu3
    induction fu3 with
    | zero => intro k g hfu; exact absurd hfu (Nat.not_lt_zero _)
    | succ fu3 ih3 =>
      intro k g hfu3 hk12 hlo hhi H locs ls hP hD hS hl
      refine lv_iload_n hx hb dX2_multiply_3 rfl (lv_at hl 2 rfl) ?_
      refine lv_if_lt (tgt := 57) hx hb dX2_multiply_4 (by decide) (fun c_4 => ?_) (fun c_4 => ?_)
      · have hk0 : k = 0 := by rcases Nat.eq_zero_or_pos k with q | q; exact q; obtain ⟨j, rfl⟩ : ∃ j, k = j + 1 := ⟨k - 1, by omega⟩; rw [pk_m1] at c_4; exact absurd c_4 (nI_pos (by omega))
        subst hk0
        refine lv_aload_n hx hb dX2_multiply_57 rfl (lv_at hl 0 rfl) ?_
        refine lv_lconst (v := 0) hx hb dX2_multiply_58 (by decide) ?_
        have hF : ∀ i, i < 12 → 0 ≤ (g i).toInt ∧ (g i).toInt < 1099511627776 := by
          intro i hi
          have q := fk_cs_bd i hi hR.1 hRo.1 (i + 1) (by omega)
          rw [hhi i (by omega) hi]
          omega
        have hT : fk_T (fk_I g) 12 % 65536 ^ 12 = (x * y) % 65536 ^ 12 := by
          rw [← fk_R_mulr hR hRo]; congr 1; exact fk_T_congr (fun i hi => hhi i (by omega) hi)
        refine fk_cv hD hS hA (va_runV (As := [.long 0]) (rest := []) ⟨hx, hb, hml, hown, hts⟩ (kX2_grow _ _ h0 h1 q0 q1 g 0 (x * y) (fk_sn hq0 hn_q1_q0) (fk_ss hq1) hF hT (by decide)) (cwV 1 hts gX2_multiply_X2_grow rfl rfl rfl (by decide +kernel) ⟨Nat.le_of_ble_eq_true rfl, Nat.le_of_ble_eq_true rfl⟩) (fk_preV q0 3 hK hN hP hD rfl (fk_sn hq0 hn_q1_q0)) rfl rfl hl.1 rfl (lv_room (Nat.le_of_ble_eq_true rfl)) dX2_multiply_59 ⟨Nat.le_of_ble_eq_true rfl, Nat.le_of_ble_eq_true rfl⟩) (fun g2 H locs hw hP hD hS => ?_)
        rw [fk_s2] at hP hD
        have hP : va_P D vwCl (ws.set q1 (h1, .inl (cJ, 12, .inr (.inl g2)))) H := hP
        have hD : va_D A (ws.set q1 (h1, .inl (cJ, 12, .inr (.inl g2)))) := hD
        rw [fk_z64, Int.add_zero] at hw
        rw [hQQ]
        exact W.vret hx hb hr (fun t ht hW => ⟨⟨g2, rfl, hw, by rw [ht]; exact hP, va_K.moved hW.alike hK, hD⟩, hS.F ht⟩) hS.2.2 dX2_multiply_62
      · obtain ⟨j, rfl⟩ : ∃ j, k = j + 1 := by rcases Nat.eq_zero_or_pos k with q | q; exact absurd (by rw [q]; decide) c_4; exact ⟨k - 1, by omega⟩
        rw [pk_m1] at hl
        refine lv_lconst (v := 0) hx hb dX2_multiply_7 (by decide) ?_
        refine lv_lstore_n (lv' := [(3, .long 0), (0, .ref h0), (1, .ref h2), (2, .int (nI j))]) hx hb dX2_multiply_8 rfl hl (by decide) rfl (fun ls hl => ?_)
        refine lv_iconst (v := 0) hx hb dX2_multiply_9 (by decide) ?_
        refine lv_istore (lv' := [(5, .int 0), (3, .long 0), (0, .ref h0), (1, .ref h2), (2, .int (nI j))]) hx hb dX2_multiply_10 hl (by decide) rfl (fun ls hl => ?_)
        have L12 : ∀ (fu12 : Nat) (i : Nat) (sm : Int64), 13 - i < fu12 → (i ≤ j + 1) → (sm.toInt = fk_cs (fk_I f) (fk_I o) j i) → ∀ (H : Heap) (locs : List Loc) (ls : Array Slot), va_P D vwCl (ws.set q1 (h1, .inl (cJ, 12, .inr (.inl g)))) H → va_D A (ws.set q1 (h1, .inl (cJ, 12, .inr (.inl g)))) → va_S A s.heap H locs → lv_has ls 6 [(0, .ref h0), (1, .ref h2), (2, .int (nI j)), (3, .long sm), (5, .int (nI i))] → W p l e rmX2_multiply s m args below meth c H locs 0 0 QQ (F0 m 12 ls []) := by
          intro fu12
          induction fu12 with
          | zero => intro i sm hfu; exact absurd hfu (Nat.not_lt_zero _)
          | succ fu12 ih12 =>
            intro i sm hfu12 hij hsm H locs ls hP hD hS hl
            refine lv_iload hx hb dX2_multiply_12 (lv_at hl 4 rfl) ?_
            refine lv_iload_n hx hb dX2_multiply_14 rfl (lv_at hl 2 rfl) ?_
            refine lv_icmp_gt (tgt := 44) hx hb dX2_multiply_15 (by decide) (fun c_15 => ?_) (fun c_15 => ?_)
            · have hij1 : i = j + 1 := by have q := (nI_ltI (a := j) (b := i) (by omega) (by omega)).mp c_15; omega
              subst hij1
              refine lv_aload_n hx hb dX2_multiply_44 rfl (lv_at hl 0 rfl) ?_
              refine va_get (D := D) (ci := 3) (v := .ref h1) (C := RX2) (T := TX2) (N := 1) hx hb hts k2 hown hK hP q0 (fk_sn hq0 hn_q1_q0) rfl 0 (by decide) k1 (fun _ h9 => h9) rfl dX2_multiply_45 ?_
              refine lv_iload_n hx hb dX2_multiply_48 rfl (lv_at hl 2 rfl) ?_
              refine lv_lload_n hx hb dX2_multiply_49 rfl (lv_at hl 3 rfl) ?_
              refine fk_last hx hb hK hP hD hS q1 0 (fk_ss hq1) rfl (i := j) (by omega) (by decide) dX2_multiply_50 (fun H locs hP hD hS => ?_)
              rw [fk_s2] at hP hD
              have b1 : ∀ a, a < j → vp_updL g j sm a = f a := fun a ha => by rw [pk_uLn (by omega)]; exact hlo a (by omega)
              have b2 : ∀ a, j ≤ a → a < 12 → (vp_updL g j sm a).toInt = fk_cs (fk_I f) (fk_I o) a (a + 1) := by
                intro a h1 h2
                by_cases q : a = j
                · subst q; rw [pk_uLs]; exact hsm
                · rw [pk_uLn q]; exact hhi a (by omega) h2
              refine lv_iinc (v := nI j + (-1)) (lv' := [(2, .int (nI j + (-1))), (0, .ref h0), (1, .ref h2), (3, .long sm), (5, .int (nI (j + 1)))]) hx hb dX2_multiply_51 hl (k := 2) rfl (by rfl) (by decide) rfl (fun ls hl => ?_)
              refine lv_goto (tgt := 3) hx hb dX2_multiply_54 (by decide) ?_
              exact ih3 j (vp_updL g j sm) (by omega) (by omega) b1 b2 _ _ _ hP hD hS (lv_sub hl [1, 2, 0] rfl)
            · have hij2 : i ≤ j := by rcases Nat.lt_or_ge j i with q | q; exact absurd ((nI_ltI (a := j) (b := i) (by omega) (by omega)).mpr q) c_15; exact q
              refine lv_lload_n hx hb dX2_multiply_18 rfl (lv_at hl 3 rfl) ?_
              refine lv_aload_n hx hb dX2_multiply_19 rfl (lv_at hl 0 rfl) ?_
              refine va_get (D := D) (ci := 3) (v := .ref h1) (C := RX2) (T := TX2) (N := 1) hx hb hts k2 hown hK hP q0 (fk_sn hq0 hn_q1_q0) rfl 0 (by decide) k1 (fun _ h9 => h9) rfl dX2_multiply_20 ?_
              refine lv_iload hx hb dX2_multiply_23 (lv_at hl 4 rfl) ?_
              refine fk_lald hx hb hK hP q1 0 (fk_ss hq1) rfl (i := i) (by omega) (by decide) dX2_multiply_25 ?_
              refine lv_aload_n hx hb dX2_multiply_26 rfl (lv_at hl 1 rfl) ?_
              refine va_get (D := D) (ci := 3) (v := .ref h3) (C := RX2) (T := TX2) (N := 1) hx hb hts k2 hown hK hP q2 (fk_sn hq2 hn_q1_q2) rfl 0 (by decide) k1 (fun _ h9 => h9) rfl dX2_multiply_27 ?_
              refine lv_iload_n hx hb dX2_multiply_30 rfl (lv_at hl 2 rfl) ?_
              refine lv_iload hx hb dX2_multiply_31 (lv_at hl 4 rfl) ?_
              refine lv_isub hx hb dX2_multiply_33 ?_
              refine lv_topi (fun x2 ex2 => ?_)
              have ex2q : x2 = nI (j - i) := by
                rw [ex2]; exact pk_sub hij2
              subst ex2q
              refine fk_lald hx hb hK hP q3 0 (fk_sn hq3 hn_q1_q3) rfl (i := j - i) (by omega) (by decide) dX2_multiply_34 ?_
              refine lv_lmul hx hb dX2_multiply_35 ?_
              refine lv_topl (fun x3 ex3 => ?_)
              refine lv_ladd hx hb dX2_multiply_36 ?_
              refine lv_topl (fun x4 ex4 => ?_)
              have hfi := hR.1 i (by omega)
              have hoi := hRo.1 (j - i) (by omega)
              rw [fk_I_def] at hfi hoi
              have hcb := fk_cs_bd j (by omega) hR.1 hRo.1 i (by omega)
              have hm : 0 ≤ (f i).toInt * (o (j - i)).toInt := Int.mul_nonneg hfi.1 hoi.1
              have hm2 : (f i).toInt * (o (j - i)).toInt ≤ 65536 * (o (j - i)).toInt := Int.mul_le_mul_of_nonneg_right (by omega) hoi.1
              have d1 : x3.toInt = (f i).toInt * (o (j - i)).toInt := by
                rw [ex3, hlo i (by omega)]; exact fk_mul (by omega) (by omega)
              have d2 : x4.toInt = fk_cs (fk_I f) (fk_I o) j (i + 1) := by
                rw [fk_cs, ← hsm, ex4, fk_I_def, fk_I_def, ← d1]; exact fk_add (by omega) (by omega)
              refine lv_lstore_n (lv' := [(3, .long x4), (0, .ref h0), (1, .ref h2), (2, .int (nI j)), (5, .int (nI i))]) hx hb dX2_multiply_37 rfl hl (by decide) rfl (fun ls hl => ?_)
              refine lv_iinc (v := nI (i + 1)) (lv' := [(5, .int (nI (i + 1))), (3, .long x4), (0, .ref h0), (1, .ref h2), (2, .int (nI j))]) hx hb dX2_multiply_38 hl (k := 4) rfl (by exact nI_1 i) (by decide) rfl (fun ls hl => ?_)
              refine lv_goto (tgt := 12) hx hb dX2_multiply_41 (by decide) ?_
              exact ih12 (i + 1) x4 (by omega) (by omega) d2 _ _ _ hP hD hS (lv_sub hl [2, 3, 4, 1, 0] rfl)
        exact L12 14 0 0 (by omega) (by omega) fk_z64 _ _ _ hP hD hS (lv_sub hl [2, 3, 4, 1, 0] rfl)
  exact L3 13 12 f (by omega) (by omega) (fun _ _ => rfl) (fun j h1 h2 => by omega) _ _ _ hP hD hS (lv_sub hl [1, 2, 0] rfl)
abbrev rmX2_shorten : Room := { frames := 0, cells := 0, slots := 0, locals := 0 }
set_option maxHeartbeats 4000000 in
set_option maxRecDepth 100000 in
/-- Whole.shorten -/
theorem kX2_shorten {l : Launch} {D : va_G} {cJ cC cI cZ cK : ClassId} (sz : Nat) (ws : va_W) (h0 h1 q0 q1 : Nat) (f : Nat → Int64) (d : Int64) (x : Int) (hq0 : ws[q0]? = some (h0, .inr (3, [.ref h1]))) (hq1 : ws[q1]? = some (h1, .inl (cJ, 12, .inr (.inl f)))) (hR : fk_R x f) (hI : fk_In x) (hx0 : 0 ≤ x) (hd : 0 < d.toInt ∧ d.toInt < 1099511627776) : Met l yX2_shorten wsX2_shorten rmX2_shorten (va_Pc [.ref h0, .long d] (fk_pre D (fk_ty cJ cC cI cZ cK) ws sz)) (va_Ql (fun (r : Int64) (g : Nat → Int64) => r.toInt = x % d.toInt ∧ fk_R (x / d.toInt) g) (fk_Bd D (fk_ty cJ cC cI cZ cK) (va_A ws sz) (fun g : Nat → Int64 => ws.set q1 (h1, .inl (cJ, 12, .inr (.inl g))))) (va_A ws sz)) 0 0 (va_A ws sz) := by
  refine fk_ofW cX2_shorten 6 (some .long) (fun A => va_Ql (fun (r : Int64) (g : Nat → Int64) => r.toInt = x % d.toInt ∧ fk_R (x / d.toInt) g) (fk_Bd D (fk_ty cJ cC cI cZ cK) A (fun g : Nat → Int64 => ws.set q1 (h1, .inl (cJ, 12, .inr (.inl g))))) A) rfl (by decide) (Nat.le_of_ble_eq_true rfl) ?_
  intro p e s m below meth c A ls args QQ hQQ hAt hP hK hN hD hA hS hl
  obtain ⟨⟨hx, hb, hml, hown, hts⟩, hr, hlocks, hin⟩ := hAt
  have hl : lv_has ls 6 [(0, .ref h0), (1, .long d)] := hl
  have k1 := hts (.fieldLink RX2 9 "FixedKinds$Whole" "limbs" "[J") (by decide +kernel)
  have k2 := (by decide +kernel : ∀ w ∈ u_ws RX2 TX2 1, w ∈ wsX2_shorten)
  have hn_q1_q0 : q1 ≠ q0 := fk_neA hq0 hq1
  have hw0 : ws = (ws.set q1 (h1, .inl (cJ, 12, .inr (.inl f)))) := by rw [fk_s0 hq1]
  rw [hw0] at hP hD
  refine lv_lload_n hx hb dX2_shorten_0 rfl (lv_at hl 1 rfl) ?_
  refine lv_lconst (v := 0) hx hb dX2_shorten_1 (by decide) ?_
  refine W.lcmp hx hb dX2_shorten_2 ?_
  refine lv_if_gt (tgt := 8) hx hb dX2_shorten_3 (by decide) (fun c_3 => ?_) (fun c_3 => False.elim (c_3 ((lg_cmp_gt _ _).mpr (Int64.lt_iff_toInt_lt.mpr (by rw [fk_z64]; exact hd.1)))))
  refine lv_lconst (v := 0) hx hb dX2_shorten_8 (by decide) ?_
  refine lv_lstore_n (lv' := [(3, .long 0), (0, .ref h0), (1, .long d)]) hx hb dX2_shorten_9 rfl hl (by decide) rfl (fun ls hl => ?_)
  refine lv_bipush (v := 11) hx hb dX2_shorten_10 (by decide) ?_
  refine lv_istore (lv' := [(5, .int 11), (3, .long 0), (0, .ref h0), (1, .long d)]) hx hb dX2_shorten_12 hl (by decide) rfl (fun ls hl => ?_)
  rw [show (11 : Int32) = nI 12 + (-1) by decide] at hl
  have L14 : ∀ (fu14 : Nat) (k : Nat) (g : Nat → Int64) (rs : Int64), k < fu14 → (k ≤ 12) → (fk_Sd (fk_I f) d.toInt k (fk_I g) rs.toInt) → ∀ (H : Heap) (locs : List Loc) (ls : Array Slot), va_P D vwCl (ws.set q1 (h1, .inl (cJ, 12, .inr (.inl g)))) H → va_D A (ws.set q1 (h1, .inl (cJ, 12, .inr (.inl g)))) → va_S A s.heap H locs → lv_has ls 6 [(0, .ref h0), (1, .long d), (3, .long rs), (5, .int (nI k + (-1)))] → W p l e rmX2_shorten s m args below meth c H locs 0 0 QQ (F0 m 14 ls []) := by
    intro fu14
    induction fu14 with
    | zero => intro k g rs hfu; exact absurd hfu (Nat.not_lt_zero _)
    | succ fu14 ih14 =>
      intro k g rs hfu14 hk12 hs H locs ls hP hD hS hl
      refine lv_iload hx hb dX2_shorten_14 (lv_at hl 3 rfl) ?_
      refine lv_if_lt (tgt := 52) hx hb dX2_shorten_16 (by decide) (fun c_16 => ?_) (fun c_16 => ?_)
      · have hk0 : k = 0 := by rcases Nat.eq_zero_or_pos k with q | q; exact q; obtain ⟨j, rfl⟩ : ∃ j, k = j + 1 := ⟨k - 1, by omega⟩; rw [pk_m1] at c_16; exact absurd c_16 (nI_pos (by omega))
        subst hk0
        refine lv_lload_n hx hb dX2_shorten_52 rfl (lv_at hl 2 rfl) ?_
        rw [hQQ]
        exact W.lret (v := rs) hx hb hr (fun t ht hW => ⟨⟨rs, g, rfl, (by have z := fk_Sd_end hR hx0 hI hs; exact ⟨z.2, z.1⟩), by rw [ht]; exact hP, va_K.moved hW.alike hK, hD⟩, hS.F ht⟩) hS.2.2 dX2_shorten_53
      · obtain ⟨j, rfl⟩ : ∃ j, k = j + 1 := by rcases Nat.eq_zero_or_pos k with q | q; exact absurd (by rw [q]; decide) c_16; exact ⟨k - 1, by omega⟩
        rw [pk_m1] at hl
        refine lv_lload_n hx hb dX2_shorten_19 rfl (lv_at hl 2 rfl) ?_
        refine lv_bipush (v := 16) hx hb dX2_shorten_20 (by decide) ?_
        refine lv_lshl hx hb dX2_shorten_22 rfl ?_
        refine lv_topl (fun x1 ex1 => ?_)
        refine lv_aload_n hx hb dX2_shorten_23 rfl (lv_at hl 0 rfl) ?_
        refine va_get (D := D) (ci := 3) (v := .ref h1) (C := RX2) (T := TX2) (N := 1) hx hb hts k2 hown hK hP q0 (fk_sn hq0 hn_q1_q0) rfl 0 (by decide) k1 (fun _ h9 => h9) rfl dX2_shorten_24 ?_
        refine lv_iload hx hb dX2_shorten_27 (lv_at hl 3 rfl) ?_
        refine fk_lald hx hb hK hP q1 0 (fk_ss hq1) rfl (i := j) (by omega) (by decide) dX2_shorten_29 ?_
        refine lv_lor hx hb dX2_shorten_30 ?_
        refine lv_topl (fun x2 ex2 => ?_)
        have hfj := hR.1 j (by omega)
        have hgj : (g j).toInt = (f j).toInt := hs.1 j (by omega)
        rw [fk_I_def] at hfj
        have hr0 := hs.2.2.1
        have hr1 := hs.2.2.2.1
        have a1 : x2.toInt = rs.toInt * 65536 + (f j).toInt := by
          rw [ex2, ex1, ← hgj]; exact fk_or16n hr0 (by omega) (by omega) (by omega)
        have a0 : 0 ≤ x2.toInt := by omega
        refine lv_lstore_n (lv' := [(3, .long x2), (0, .ref h0), (1, .long d), (5, .int (nI j))]) hx hb dX2_shorten_31 rfl hl (by decide) rfl (fun ls hl => ?_)
        refine lv_aload_n hx hb dX2_shorten_32 rfl (lv_at hl 1 rfl) ?_
        refine va_get (D := D) (ci := 3) (v := .ref h1) (C := RX2) (T := TX2) (N := 1) hx hb hts k2 hown hK hP q0 (fk_sn hq0 hn_q1_q0) rfl 0 (by decide) k1 (fun _ h9 => h9) rfl dX2_shorten_33 ?_
        refine lv_iload hx hb dX2_shorten_36 (lv_at hl 3 rfl) ?_
        refine lv_lload_n hx hb dX2_shorten_38 rfl (lv_at hl 0 rfl) ?_
        refine lv_lload_n hx hb dX2_shorten_39 rfl (lv_at hl 2 rfl) ?_
        refine lv_ldiv hx hb dX2_shorten_40 (fun q => by rw [q] at hd; exact absurd hd.1 (by decide)) ?_
        refine lv_topl (fun x3 ex3 => ?_)
        refine fk_last hx hb hK hP hD hS q1 0 (fk_ss hq1) rfl (i := j) (by omega) (by decide) dX2_shorten_41 (fun H locs hP hD hS => ?_)
        rw [fk_s2] at hP hD
        refine lv_lload_n hx hb dX2_shorten_42 rfl (lv_at hl 0 rfl) ?_
        refine lv_lload_n hx hb dX2_shorten_43 rfl (lv_at hl 2 rfl) ?_
        refine lv_lrem hx hb dX2_shorten_44 (fun q => by rw [q] at hd; exact absurd hd.1 (by decide)) ?_
        refine lv_topl (fun x4 ex4 => ?_)
        refine lv_lstore_n (lv' := [(3, .long x4), (0, .ref h0), (1, .long d), (5, .int (nI j))]) hx hb dX2_shorten_45 rfl hl (by decide) rfl (fun ls hl => ?_)
        have b1 : fk_Sd (fk_I f) d.toInt j (fk_I (vp_updL g j x3)) x4.toInt := by
          have z := fk_Sd_step (g' := fk_I (vp_updL g j x3)) (by omega) (by rw [fk_I_def]; exact hfj) hs (fun a ha => by rw [fk_I, fk_I, pk_uLn ha]) (by rw [fk_I, pk_uLs, ex3, fk_divT a0 hd.1, a1]; rfl)
          rw [ex4, fk_remT a0 hd.1, a1]; exact z
        refine lv_iinc (v := nI j + (-1)) (lv' := [(5, .int (nI j + (-1))), (3, .long x4), (0, .ref h0), (1, .long d)]) hx hb dX2_shorten_46 hl (k := 3) rfl (by rfl) (by decide) rfl (fun ls hl => ?_)
        refine lv_goto (tgt := 14) hx hb dX2_shorten_49 (by decide) ?_
        exact ih14 j (vp_updL g j x3) x4 (by omega) (by omega) b1 _ _ _ hP hD hS (lv_sub hl [2, 3, 1, 0] rfl)
  exact L14 13 12 f 0 (by omega) (by omega) (fk_Sd_0 hd.1) _ _ _ hP hD hS (lv_sub hl [2, 3, 1, 0] rfl)
