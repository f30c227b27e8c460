/-! Reference: letter, kind, by program -/
abbrev rmX4_letter : Room := { frames := 0, cells := 0, slots := 0, locals := 0 }
set_option maxHeartbeats 4000000 in
set_option maxRecDepth 100000 in
/-- letter -/
theorem kX4_letter {l : Launch} {D : va_G} {cJ cC cI cZ cK : ClassId} (sz : Nat) (am : Nat → Nat) (tl : va_W) (cd kn lo : Int32) (wd sg : Nat → Int32) (up dn of : Nat → Int64) (bey rnd tx pt sn : Nat → Int32) (tt : Nat) (ch : Int32) (htt : tt < 80) : Met l yX4_letter wsX4_letter rmX4_letter (va_Pc [.ref (am 0), .int ch] (fk_pre D (fk_ty cJ cC cI cZ cK) (fk_wm cJ cI cZ am cd kn lo (nI tt) wd sg up dn of bey rnd tx pt sn ++ tl) sz)) (va_Qv (fun _ : Unit => True) (fk_Bd D (fk_ty cJ cC cI cZ cK) (va_A (fk_wm cJ cI cZ am cd kn lo (nI tt) wd sg up dn of bey rnd tx pt sn ++ tl) sz) (fun _ : Unit => fk_wm cJ cI cZ am cd kn lo (nI (tt + 1)) wd sg up dn of bey rnd (upd tx tt ch) pt sn ++ tl)) (va_A (fk_wm cJ cI cZ am cd kn lo (nI tt) wd sg up dn of bey rnd tx pt sn ++ tl) sz)) 0 0 (va_A (fk_wm cJ cI cZ am cd kn lo (nI tt) wd sg up dn of bey rnd tx pt sn ++ tl) sz) := by
  refine fk_ofW cX4_letter 2 none (fun A => va_Qv (fun _ : Unit => True) (fk_Bd D (fk_ty cJ cC cI cZ cK) A (fun _ : Unit => fk_wm cJ cI cZ am cd kn lo (nI (tt + 1)) wd sg up dn of bey rnd (upd tx tt ch) pt sn ++ tl)) A) rfl (by decide) (Nat.le_of_ble_eq_true rfl) ?_
  intro p e s m below meth c A ls args QQ hQQ hAt hP hK hN hD hA hS hl
  obtain ⟨⟨hx, hb, hml, hown, hts⟩, hr, hlocks, hin⟩ := hAt
  have hl : lv_has ls 2 [(0, .ref (am 0)), (1, .int ch)] := hl
  have k1 := hts (.fieldLink RX4 33 "FixedKindsModel" "text" "[I") (by decide +kernel)
  have k2 := (by decide +kernel : ∀ w ∈ u_ws RX4 TX4 14, w ∈ wsX4_letter)
  have k3 := hts (.fieldLink RX4 143 "FixedKindsModel" "textLength" "I") (by decide +kernel)
  refine lv_aload_n hx hb dX4_letter_0 rfl (lv_at hl 0 rfl) ?_
  refine va_get (D := D) (ci := 5) (v := .ref (am 8)) (C := RX4) (T := TX4) (N := 14) hx hb hts k2 hown hK hP 0 rfl rfl 11 (by decide) k1 (fun _ h9 => h9) rfl dX4_letter_1 ?_
  refine lv_aload_n hx hb dX4_letter_4 rfl (lv_at hl 0 rfl) ?_
  refine va_get (D := D) (ci := 5) (v := .int (nI tt)) (C := RX4) (T := TX4) (N := 14) hx hb hts k2 hown hK hP 0 rfl rfl 10 (by decide) k3 (fun _ h9 => h9) rfl dX4_letter_5 ?_
  refine lv_iload_n hx hb dX4_letter_8 rfl (lv_at hl 1 rfl) ?_
  refine fk_iast hx hb hK hP hD hS 8 2 rfl rfl (i := tt) (by omega) (by decide) dX4_letter_9 (fun H locs hP hD hS => ?_)
  have hP : va_P D vwCl (fk_wm cJ cI cZ am cd kn lo (nI tt) wd sg up dn of bey rnd (upd tx tt ch) pt sn ++ tl) H := hP
  have hD : va_D A (fk_wm cJ cI cZ am cd kn lo (nI tt) wd sg up dn of bey rnd (upd tx tt ch) pt sn ++ tl) := hD
  refine lv_aload_n hx hb dX4_letter_10 rfl (lv_at hl 0 rfl) ?_
  refine lv_dup hx hb dX4_letter_11 rfl ?_
  refine va_get (D := D) (ci := 5) (v := .int (nI tt)) (C := RX4) (T := TX4) (N := 14) hx hb hts k2 hown hK hP 0 rfl rfl 10 (by decide) k3 (fun _ h9 => h9) rfl dX4_letter_12 ?_
  refine lv_iconst (v := 1) hx hb dX4_letter_15 (by decide) ?_
  refine lv_iadd hx hb dX4_letter_16 ?_
  refine lv_topi (fun x1 ex1 => ?_)
  have ex1q : x1 = nI (tt + 1) := by
    rw [ex1]; exact nI_1 tt
  subst ex1q
  refine va_put (D := D) (ci := 5) (v := .int (nI (tt + 1))) (ty := (.int)) (C := RX4) (T := TX4) (N := 14) hx hb hts k2 tyX4 tyX4_ok nmX4 hown hK hP hD hS 0 rfl rfl 10 (by decide) k3 (fun _ h9 => h9) rfl (by decide +kernel) rfl rfl (Nat.le_of_ble_eq_true rfl) dX4_letter_17 (fun H locs hP hD hS => ?_)
  have hP : va_P D vwCl (fk_wm cJ cI cZ am cd kn lo (nI (tt + 1)) wd sg up dn of bey rnd (upd tx tt ch) pt sn ++ tl) H := hP
  have hD : va_D A (fk_wm cJ cI cZ am cd kn lo (nI (tt + 1)) wd sg up dn of bey rnd (upd tx tt ch) pt sn ++ tl) := hD
  rw [hQQ]
  exact W.vret hx hb hr (fun t ht hW => ⟨⟨(), rfl, trivial, by rw [ht]; exact hP, va_K.moved hW.alike hK, hD⟩, hS.F ht⟩) hS.2.2 dX4_letter_20
abbrev rmX4_kind : Room := { frames := 0, cells := 0, slots := 0, locals := 0 }
set_option maxHeartbeats 4000000 in
set_option maxRecDepth 100000 in
/-- kind -/
theorem kX4_kind {l : Launch} {D : va_G} {cJ cC cI cZ cK : ClassId} (sz : Nat) (am : Nat → Nat) (tl : va_W) (cd lo tn : Int32) (wd sg : Nat → Int32) (up dn of : Nat → Int64) (bey rnd tx pt sn : Nat → Int32) (n : Nat) (kf : Nat → fk_K) (w0 s0 : Int32) (u0 d0 o0 : Int64) (hMT : fk_MT n kf wd sg up dn of bey rnd) (hsg : s0 = 0 ∨ s0 = 1) : Met l yX4_kind wsX4_kind rmX4_kind (va_Pc [.ref (am 0), .int w0, .int s0, .long u0, .long d0, .long o0] (fk_pre D (fk_ty cJ cC cI cZ cK) (fk_wm cJ cI cZ am cd (nI n) lo tn wd sg up dn of bey rnd tx pt sn ++ tl) sz)) (va_Qi (fun (r : Int32) (u : Nat × (Nat → Int32) × (Nat → Int32) × (Nat → Int64) × (Nat → Int64) × (Nat → Int64)) => (fk_badK w0 s0 u0 d0 o0 ∧ r = -2 ∧ u = (n, wd, sg, up, dn, of)) ∨ (¬ fk_badK w0 s0 u0 d0 o0 ∧ n = 40 ∧ r = -4 ∧ u = (n, wd, sg, up, dn, of)) ∨ (¬ fk_badK w0 s0 u0 d0 o0 ∧ n < 40 ∧ u0 = 0 ∧ r = 0 ∧ u = (n, wd, sg, up, dn, of)) ∨ (¬ fk_badK w0 s0 u0 d0 o0 ∧ n < 40 ∧ u0 ≠ 0 ∧ r = nI (n + 1) ∧ u = (n + 1, upd wd (n + 1) w0, upd sg (n + 1) s0, vp_updL up (n + 1) u0, vp_updL dn (n + 1) d0, vp_updL of (n + 1) o0))) (fk_Bd D (fk_ty cJ cC cI cZ cK) (va_A (fk_wm cJ cI cZ am cd (nI n) lo tn wd sg up dn of bey rnd tx pt sn ++ tl) sz) (fun u : Nat × (Nat → Int32) × (Nat → Int32) × (Nat → Int64) × (Nat → Int64) × (Nat → Int64) => fk_wm cJ cI cZ am 0 (nI u.1) lo tn u.2.1 u.2.2.1 u.2.2.2.1 u.2.2.2.2.1 u.2.2.2.2.2 bey rnd tx pt sn ++ tl)) (va_A (fk_wm cJ cI cZ am cd (nI n) lo tn wd sg up dn of bey rnd tx pt sn ++ tl) sz)) 0 0 (va_A (fk_wm cJ cI cZ am cd (nI n) lo tn wd sg up dn of bey rnd tx pt sn ++ tl) sz) := by
  refine fk_ofW cX4_kind 9 (some .int) (fun A => va_Qi (fun (r : Int32) (u : Nat × (Nat → Int32) × (Nat → Int32) × (Nat → Int64) × (Nat → Int64) × (Nat → Int64)) => (fk_badK w0 s0 u0 d0 o0 ∧ r = -2 ∧ u = (n, wd, sg, up, dn, of)) ∨ (¬ fk_badK w0 s0 u0 d0 o0 ∧ n = 40 ∧ r = -4 ∧ u = (n, wd, sg, up, dn, of)) ∨ (¬ fk_badK w0 s0 u0 d0 o0 ∧ n < 40 ∧ u0 = 0 ∧ r = 0 ∧ u = (n, wd, sg, up, dn, of)) ∨ (¬ fk_badK w0 s0 u0 d0 o0 ∧ n < 40 ∧ u0 ≠ 0 ∧ r = nI (n + 1) ∧ u = (n + 1, upd wd (n + 1) w0, upd sg (n + 1) s0, vp_updL up (n + 1) u0, vp_updL dn (n + 1) d0, vp_updL of (n + 1) o0))) (fk_Bd D (fk_ty cJ cC cI cZ cK) A (fun u : Nat × (Nat → Int32) × (Nat → Int32) × (Nat → Int64) × (Nat → Int64) × (Nat → Int64) => fk_wm cJ cI cZ am 0 (nI u.1) lo tn u.2.1 u.2.2.1 u.2.2.2.1 u.2.2.2.2.1 u.2.2.2.2.2 bey rnd tx pt sn ++ tl)) A) rfl (by decide) (Nat.le_of_ble_eq_true rfl) ?_
  intro p e s m below meth c A ls args QQ hQQ hAt hP hK hN hD hA hS hl
  obtain ⟨⟨hx, hb, hml, hown, hts⟩, hr, hlocks, hin⟩ := hAt
  have hl : lv_has ls 9 [(0, .ref (am 0)), (1, .int w0), (2, .int s0), (3, .long u0), (5, .long d0), (7, .long o0)] := hl
  have k1 := hts (.fieldLink RX4 42 "FixedKindsModel" "code" "I") (by decide +kernel)
  have k2 := (by decide +kernel : ∀ w ∈ u_ws RX4 TX4 14, w ∈ wsX4_kind)
  have k3 := hts (.constantLong RX4 82 1000) (by decide +kernel)
  have k4 := hts (.constantLong RX4 84 (-1000000)) (by decide +kernel)
  have k5 := hts (.constantLong RX4 86 1000000) (by decide +kernel)
  have k6 := hts (.fieldLink RX4 79 "FixedKindsModel" "kinds" "I") (by decide +kernel)
  have k7 := hts (.fieldLink RX4 7 "FixedKindsModel" "width" "[I") (by decide +kernel)
  have k8 := hts (.fieldLink RX4 13 "FixedKindsModel" "signed" "[Z") (by decide +kernel)
  have k9 := hts (.fieldLink RX4 17 "FixedKindsModel" "up" "[J") (by decide +kernel)
  have k10 := hts (.fieldLink RX4 21 "FixedKindsModel" "down" "[J") (by decide +kernel)
  have k11 := hts (.fieldLink RX4 24 "FixedKindsModel" "offset" "[J") (by decide +kernel)
  have hn40 := hMT.1
  refine lv_aload_n hx hb dX4_kind_0 rfl (lv_at hl 0 rfl) ?_
  refine lv_iconst (v := 0) hx hb dX4_kind_1 (by decide) ?_
  refine va_put (D := D) (ci := 5) (v := .int 0) (ty := (.int)) (C := RX4) (T := TX4) (N := 14) hx hb hts k2 tyX4 tyX4_ok nmX4 hown hK hP hD hS 0 rfl rfl 0 (by decide) k1 (fun _ h9 => h9) rfl (by decide +kernel) rfl rfl (Nat.le_of_ble_eq_true rfl) dX4_kind_2 (fun H locs hP hD hS => ?_)
  have hP : va_P D vwCl (fk_wm cJ cI cZ am 0 (nI n) lo tn wd sg up dn of bey rnd tx pt sn ++ tl) H := hP
  have hD : va_D A (fk_wm cJ cI cZ am 0 (nI n) lo tn wd sg up dn of bey rnd tx pt sn ++ tl) := hD
  refine lv_iload_n hx hb dX4_kind_5 rfl (lv_at hl 1 rfl) ?_
  refine lv_bipush (v := 8) hx hb dX4_kind_6 (by decide) ?_
  refine lv_icmp_lt (tgt := 75) hx hb dX4_kind_8 (by decide) (fun c_8 => ?_) (fun c_8 => ?_)
  · rw [Int32.lt_iff_toInt_lt, show (8 : Int32).toInt = 8 by decide] at c_8
    have hbad : fk_badK w0 s0 u0 d0 o0 := fun q => by obtain ⟨⟨q1, q2, q3⟩, ⟨q4, q5, q6⟩, q7, q8⟩ := q; omega
    refine lv_bipush (v := (-2)) hx hb dX4_kind_75 (by decide) ?_
    rw [hQQ]
    exact W.iret (v := (-2)) hx hb hr (fun t ht hW => ⟨⟨(-2), (n, wd, sg, up, dn, of), rfl, Or.inl ⟨hbad, rfl, rfl⟩, by rw [ht]; exact hP, va_K.moved hW.alike hK, hD⟩, hS.F ht⟩) hS.2.2 dX4_kind_77
  · rw [Int32.lt_iff_toInt_lt, show (8 : Int32).toInt = 8 by decide] at c_8
    refine lv_iload_n hx hb dX4_kind_11 rfl (lv_at hl 1 rfl) ?_
    refine lv_bipush (v := 64) hx hb dX4_kind_12 (by decide) ?_
    refine lv_icmp_gt (tgt := 75) hx hb dX4_kind_14 (by decide) (fun c_14 => ?_) (fun c_14 => ?_)
    · rw [Int32.lt_iff_toInt_lt, show (64 : Int32).toInt = 64 by decide] at c_14
      have hbad : fk_badK w0 s0 u0 d0 o0 := fun q => by obtain ⟨⟨q1, q2, q3⟩, ⟨q4, q5, q6⟩, q7, q8⟩ := q; omega
      refine lv_bipush (v := (-2)) hx hb dX4_kind_75 (by decide) ?_
      rw [hQQ]
      exact W.iret (v := (-2)) hx hb hr (fun t ht hW => ⟨⟨(-2), (n, wd, sg, up, dn, of), rfl, Or.inl ⟨hbad, rfl, rfl⟩, by rw [ht]; exact hP, va_K.moved hW.alike hK, hD⟩, hS.F ht⟩) hS.2.2 dX4_kind_77
    · rw [Int32.lt_iff_toInt_lt, show (64 : Int32).toInt = 64 by decide] at c_14
      refine lv_iload_n hx hb dX4_kind_17 rfl (lv_at hl 1 rfl) ?_
      refine lv_bipush (v := 64) hx hb dX4_kind_18 (by decide) ?_
      refine lv_icmp_ne (tgt := 27) hx hb dX4_kind_20 (by decide) (fun c_20 => ?_) (fun c_20 => ?_)
      · have hne : w0.toInt ≠ 64 := fun q => c_20 (Int32.toInt_inj.mp (by rw [q]; decide))
        have h3 : s0 = 0 → w0.toInt ≤ 63 := fun _ => by omega
        refine lv_lload_n hx hb dX4_kind_27 rfl (lv_at hl 3 rfl) ?_
        refine lv_lconst (v := 0) hx hb dX4_kind_28 (by decide) ?_
        refine W.lcmp hx hb dX4_kind_29 ?_
        refine lv_if_lt (tgt := 75) hx hb dX4_kind_30 (by decide) (fun c_30 => ?_) (fun c_30 => ?_)
        · rw [lg_cmp_lt] at c_30
          rw [Int64.lt_iff_toInt_lt, show (0 : Int64).toInt = 0 by decide] at c_30
          have hbad : fk_badK w0 s0 u0 d0 o0 := fun q => by obtain ⟨⟨q1, q2, q3⟩, ⟨q4, q5, q6⟩, q7, q8⟩ := q; omega
          refine lv_bipush (v := (-2)) hx hb dX4_kind_75 (by decide) ?_
          rw [hQQ]
          exact W.iret (v := (-2)) hx hb hr (fun t ht hW => ⟨⟨(-2), (n, wd, sg, up, dn, of), rfl, Or.inl ⟨hbad, rfl, rfl⟩, by rw [ht]; exact hP, va_K.moved hW.alike hK, hD⟩, hS.F ht⟩) hS.2.2 dX4_kind_77
        · rw [lg_cmp_lt] at c_30
          rw [Int64.lt_iff_toInt_lt, show (0 : Int64).toInt = 0 by decide] at c_30
          refine lv_lload_n hx hb dX4_kind_33 rfl (lv_at hl 3 rfl) ?_
          refine lv_ldc2 (v := 1000) hx hb hown k3 dX4_kind_34 ?_
          refine W.lcmp hx hb dX4_kind_37 ?_
          refine lv_if_gt (tgt := 75) hx hb dX4_kind_38 (by decide) (fun c_38 => ?_) (fun c_38 => ?_)
          · rw [lg_cmp_gt] at c_38
            rw [Int64.lt_iff_toInt_lt, show (1000 : Int64).toInt = 1000 by decide] at c_38
            have hbad : fk_badK w0 s0 u0 d0 o0 := fun q => by obtain ⟨⟨q1, q2, q3⟩, ⟨q4, q5, q6⟩, q7, q8⟩ := q; omega
            refine lv_bipush (v := (-2)) hx hb dX4_kind_75 (by decide) ?_
            rw [hQQ]
            exact W.iret (v := (-2)) hx hb hr (fun t ht hW => ⟨⟨(-2), (n, wd, sg, up, dn, of), rfl, Or.inl ⟨hbad, rfl, rfl⟩, by rw [ht]; exact hP, va_K.moved hW.alike hK, hD⟩, hS.F ht⟩) hS.2.2 dX4_kind_77
          · rw [lg_cmp_gt] at c_38
            rw [Int64.lt_iff_toInt_lt, show (1000 : Int64).toInt = 1000 by decide] at c_38
            refine lv_lload hx hb dX4_kind_41 (lv_at hl 4 rfl) ?_
            refine lv_lconst (v := 1) hx hb dX4_kind_43 (by decide) ?_
            refine W.lcmp hx hb dX4_kind_44 ?_
            refine lv_if_lt (tgt := 75) hx hb dX4_kind_45 (by decide) (fun c_45 => ?_) (fun c_45 => ?_)
            · rw [lg_cmp_lt] at c_45
              rw [Int64.lt_iff_toInt_lt, show (1 : Int64).toInt = 1 by decide] at c_45
              have hbad : fk_badK w0 s0 u0 d0 o0 := fun q => by obtain ⟨⟨q1, q2, q3⟩, ⟨q4, q5, q6⟩, q7, q8⟩ := q; omega
              refine lv_bipush (v := (-2)) hx hb dX4_kind_75 (by decide) ?_
              rw [hQQ]
              exact W.iret (v := (-2)) hx hb hr (fun t ht hW => ⟨⟨(-2), (n, wd, sg, up, dn, of), rfl, Or.inl ⟨hbad, rfl, rfl⟩, by rw [ht]; exact hP, va_K.moved hW.alike hK, hD⟩, hS.F ht⟩) hS.2.2 dX4_kind_77
            · rw [lg_cmp_lt] at c_45
              rw [Int64.lt_iff_toInt_lt, show (1 : Int64).toInt = 1 by decide] at c_45
              refine lv_lload hx hb dX4_kind_48 (lv_at hl 4 rfl) ?_
              refine lv_ldc2 (v := 1000) hx hb hown k3 dX4_kind_50 ?_
              refine W.lcmp hx hb dX4_kind_53 ?_
              refine lv_if_gt (tgt := 75) hx hb dX4_kind_54 (by decide) (fun c_54 => ?_) (fun c_54 => ?_)
              · rw [lg_cmp_gt] at c_54
                rw [Int64.lt_iff_toInt_lt, show (1000 : Int64).toInt = 1000 by decide] at c_54
                have hbad : fk_badK w0 s0 u0 d0 o0 := fun q => by obtain ⟨⟨q1, q2, q3⟩, ⟨q4, q5, q6⟩, q7, q8⟩ := q; omega
                refine lv_bipush (v := (-2)) hx hb dX4_kind_75 (by decide) ?_
                rw [hQQ]
                exact W.iret (v := (-2)) hx hb hr (fun t ht hW => ⟨⟨(-2), (n, wd, sg, up, dn, of), rfl, Or.inl ⟨hbad, rfl, rfl⟩, by rw [ht]; exact hP, va_K.moved hW.alike hK, hD⟩, hS.F ht⟩) hS.2.2 dX4_kind_77
              · rw [lg_cmp_gt] at c_54
                rw [Int64.lt_iff_toInt_lt, show (1000 : Int64).toInt = 1000 by decide] at c_54
                refine lv_lload hx hb dX4_kind_57 (lv_at hl 5 rfl) ?_
                refine lv_ldc2 (v := (-1000000)) hx hb hown k4 dX4_kind_59 ?_
                refine W.lcmp hx hb dX4_kind_62 ?_
                refine lv_if_lt (tgt := 75) hx hb dX4_kind_63 (by decide) (fun c_63 => ?_) (fun c_63 => ?_)
                · rw [lg_cmp_lt] at c_63
                  rw [Int64.lt_iff_toInt_lt, show ((-1000000) : Int64).toInt = (-1000000) by decide] at c_63
                  have hbad : fk_badK w0 s0 u0 d0 o0 := fun q => by obtain ⟨⟨q1, q2, q3⟩, ⟨q4, q5, q6⟩, q7, q8⟩ := q; omega
                  refine lv_bipush (v := (-2)) hx hb dX4_kind_75 (by decide) ?_
                  rw [hQQ]
                  exact W.iret (v := (-2)) hx hb hr (fun t ht hW => ⟨⟨(-2), (n, wd, sg, up, dn, of), rfl, Or.inl ⟨hbad, rfl, rfl⟩, by rw [ht]; exact hP, va_K.moved hW.alike hK, hD⟩, hS.F ht⟩) hS.2.2 dX4_kind_77
                · rw [lg_cmp_lt] at c_63
                  rw [Int64.lt_iff_toInt_lt, show ((-1000000) : Int64).toInt = (-1000000) by decide] at c_63
                  refine lv_lload hx hb dX4_kind_66 (lv_at hl 5 rfl) ?_
                  refine lv_ldc2 (v := 1000000) hx hb hown k5 dX4_kind_68 ?_
                  refine W.lcmp hx hb dX4_kind_71 ?_
                  refine lv_if_le (tgt := 78) hx hb dX4_kind_72 (by decide) (fun c_72 => ?_) (fun c_72 => ?_)
                  · rw [lg_cmp_le] at c_72
                    rw [Int64.le_iff_toInt_le, show (1000000 : Int64).toInt = 1000000 by decide] at c_72
                    have hgood : ¬ fk_badK w0 s0 u0 d0 o0 := fun q => q ⟨⟨by omega, by omega, h3⟩, ⟨⟨by omega, by omega⟩, by omega, by omega⟩, by omega, by omega⟩
                    refine lv_aload_n hx hb dX4_kind_78 rfl (lv_at hl 0 rfl) ?_
                    refine va_get (D := D) (ci := 5) (v := .int (nI n)) (C := RX4) (T := TX4) (N := 14) hx hb hts k2 hown hK hP 0 rfl rfl 1 (by decide) k6 (fun _ h9 => h9) rfl dX4_kind_79 ?_
                    refine lv_bipush (v := 40) hx hb dX4_kind_82 (by decide) ?_
                    refine lv_icmp_ne (tgt := 90) hx hb dX4_kind_84 (by decide) (fun c_84 => ?_) (fun c_84 => ?_)
                    · have hn : n < 40 := by have q : n ≠ 40 := fun q => c_84 (by rw [q]; rfl); omega
                      refine lv_lload_n hx hb dX4_kind_90 rfl (lv_at hl 3 rfl) ?_
                      refine lv_lconst (v := 0) hx hb dX4_kind_91 (by decide) ?_
                      refine W.lcmp hx hb dX4_kind_92 ?_
                      refine lv_if_ne (tgt := 98) hx hb dX4_kind_93 (by decide) (fun c_93 => ?_) (fun c_93 => ?_)
                      · rw [lg_cmp_eq] at c_93
                        refine lv_aload_n hx hb dX4_kind_98 rfl (lv_at hl 0 rfl) ?_
                        refine lv_dup hx hb dX4_kind_99 rfl ?_
                        refine va_get (D := D) (ci := 5) (v := .int (nI n)) (C := RX4) (T := TX4) (N := 14) hx hb hts k2 hown hK hP 0 rfl rfl 1 (by decide) k6 (fun _ h9 => h9) rfl dX4_kind_100 ?_
                        refine lv_iconst (v := 1) hx hb dX4_kind_103 (by decide) ?_
                        refine lv_iadd hx hb dX4_kind_104 ?_
                        refine lv_topi (fun x1 ex1 => ?_)
                        have ex1q : x1 = nI (n + 1) := by
                          rw [ex1]; exact nI_1 n
                        subst ex1q
                        refine va_put (D := D) (ci := 5) (v := .int (nI (n + 1))) (ty := (.int)) (C := RX4) (T := TX4) (N := 14) hx hb hts k2 tyX4 tyX4_ok nmX4 hown hK hP hD hS 0 rfl rfl 1 (by decide) k6 (fun _ h9 => h9) rfl (by decide +kernel) rfl rfl (Nat.le_of_ble_eq_true rfl) dX4_kind_105 (fun H locs hP hD hS => ?_)
                        have hP : va_P D vwCl (fk_wm cJ cI cZ am 0 (nI (n + 1)) lo tn wd sg up dn of bey rnd tx pt sn ++ tl) H := hP
                        have hD : va_D A (fk_wm cJ cI cZ am 0 (nI (n + 1)) lo tn wd sg up dn of bey rnd tx pt sn ++ tl) := hD
                        refine lv_aload_n hx hb dX4_kind_108 rfl (lv_at hl 0 rfl) ?_
                        refine va_get (D := D) (ci := 5) (v := .ref (am 1)) (C := RX4) (T := TX4) (N := 14) hx hb hts k2 hown hK hP 0 rfl rfl 2 (by decide) k7 (fun _ h9 => h9) rfl dX4_kind_109 ?_
                        refine lv_aload_n hx hb dX4_kind_112 rfl (lv_at hl 0 rfl) ?_
                        refine va_get (D := D) (ci := 5) (v := .int (nI (n + 1))) (C := RX4) (T := TX4) (N := 14) hx hb hts k2 hown hK hP 0 rfl rfl 1 (by decide) k6 (fun _ h9 => h9) rfl dX4_kind_113 ?_
                        refine lv_iload_n hx hb dX4_kind_116 rfl (lv_at hl 1 rfl) ?_
                        refine fk_iast hx hb hK hP hD hS 1 2 rfl rfl (i := n + 1) (by omega) (by decide) dX4_kind_117 (fun H locs hP hD hS => ?_)
                        have hP : va_P D vwCl (fk_wm cJ cI cZ am 0 (nI (n + 1)) lo tn (upd wd (n + 1) w0) sg up dn of bey rnd tx pt sn ++ tl) H := hP
                        have hD : va_D A (fk_wm cJ cI cZ am 0 (nI (n + 1)) lo tn (upd wd (n + 1) w0) sg up dn of bey rnd tx pt sn ++ tl) := hD
                        refine lv_aload_n hx hb dX4_kind_118 rfl (lv_at hl 0 rfl) ?_
                        refine va_get (D := D) (ci := 5) (v := .ref (am 2)) (C := RX4) (T := TX4) (N := 14) hx hb hts k2 hown hK hP 0 rfl rfl 3 (by decide) k8 (fun _ h9 => h9) rfl dX4_kind_119 ?_
                        refine lv_aload_n hx hb dX4_kind_122 rfl (lv_at hl 0 rfl) ?_
                        refine va_get (D := D) (ci := 5) (v := .int (nI (n + 1))) (C := RX4) (T := TX4) (N := 14) hx hb hts k2 hown hK hP 0 rfl rfl 1 (by decide) k6 (fun _ h9 => h9) rfl dX4_kind_123 ?_
                        refine lv_iload_n hx hb dX4_kind_126 rfl (lv_at hl 2 rfl) ?_
                        refine fk_zast hx hb hK hP hD hS 2 3 rfl rfl (i := n + 1) (by omega) (by decide) dX4_kind_127 (fun H locs hP hD hS => ?_)
                        have hP : va_P D vwCl (fk_wm cJ cI cZ am 0 (nI (n + 1)) lo tn (upd wd (n + 1) w0) (upd sg (n + 1) (vp_nar .boolean s0)) up dn of bey rnd tx pt sn ++ tl) H := hP
                        have hD : va_D A (fk_wm cJ cI cZ am 0 (nI (n + 1)) lo tn (upd wd (n + 1) w0) (upd sg (n + 1) (vp_nar .boolean s0)) up dn of bey rnd tx pt sn ++ tl) := hD
                        rw [show vp_nar .boolean s0 = s0 by rcases hsg with q | q <;> rw [q] <;> rfl] at hP hD
                        refine lv_aload_n hx hb dX4_kind_128 rfl (lv_at hl 0 rfl) ?_
                        refine va_get (D := D) (ci := 5) (v := .ref (am 3)) (C := RX4) (T := TX4) (N := 14) hx hb hts k2 hown hK hP 0 rfl rfl 4 (by decide) k9 (fun _ h9 => h9) rfl dX4_kind_129 ?_
                        refine lv_aload_n hx hb dX4_kind_132 rfl (lv_at hl 0 rfl) ?_
                        refine va_get (D := D) (ci := 5) (v := .int (nI (n + 1))) (C := RX4) (T := TX4) (N := 14) hx hb hts k2 hown hK hP 0 rfl rfl 1 (by decide) k6 (fun _ h9 => h9) rfl dX4_kind_133 ?_
                        refine lv_lload_n hx hb dX4_kind_136 rfl (lv_at hl 3 rfl) ?_
                        refine fk_last hx hb hK hP hD hS 3 0 rfl rfl (i := n + 1) (by omega) (by decide) dX4_kind_137 (fun H locs hP hD hS => ?_)
                        have hP : va_P D vwCl (fk_wm cJ cI cZ am 0 (nI (n + 1)) lo tn (upd wd (n + 1) w0) (upd sg (n + 1) s0) (vp_updL up (n + 1) u0) dn of bey rnd tx pt sn ++ tl) H := hP
                        have hD : va_D A (fk_wm cJ cI cZ am 0 (nI (n + 1)) lo tn (upd wd (n + 1) w0) (upd sg (n + 1) s0) (vp_updL up (n + 1) u0) dn of bey rnd tx pt sn ++ tl) := hD
                        refine lv_aload_n hx hb dX4_kind_138 rfl (lv_at hl 0 rfl) ?_
                        refine va_get (D := D) (ci := 5) (v := .ref (am 4)) (C := RX4) (T := TX4) (N := 14) hx hb hts k2 hown hK hP 0 rfl rfl 5 (by decide) k10 (fun _ h9 => h9) rfl dX4_kind_139 ?_
                        refine lv_aload_n hx hb dX4_kind_142 rfl (lv_at hl 0 rfl) ?_
                        refine va_get (D := D) (ci := 5) (v := .int (nI (n + 1))) (C := RX4) (T := TX4) (N := 14) hx hb hts k2 hown hK hP 0 rfl rfl 1 (by decide) k6 (fun _ h9 => h9) rfl dX4_kind_143 ?_
                        refine lv_lload hx hb dX4_kind_146 (lv_at hl 4 rfl) ?_
                        refine fk_last hx hb hK hP hD hS 4 0 rfl rfl (i := n + 1) (by omega) (by decide) dX4_kind_148 (fun H locs hP hD hS => ?_)
                        have hP : va_P D vwCl (fk_wm cJ cI cZ am 0 (nI (n + 1)) lo tn (upd wd (n + 1) w0) (upd sg (n + 1) s0) (vp_updL up (n + 1) u0) (vp_updL dn (n + 1) d0) of bey rnd tx pt sn ++ tl) H := hP
                        have hD : va_D A (fk_wm cJ cI cZ am 0 (nI (n + 1)) lo tn (upd wd (n + 1) w0) (upd sg (n + 1) s0) (vp_updL up (n + 1) u0) (vp_updL dn (n + 1) d0) of bey rnd tx pt sn ++ tl) := hD
                        refine lv_aload_n hx hb dX4_kind_149 rfl (lv_at hl 0 rfl) ?_
                        refine va_get (D := D) (ci := 5) (v := .ref (am 5)) (C := RX4) (T := TX4) (N := 14) hx hb hts k2 hown hK hP 0 rfl rfl 6 (by decide) k11 (fun _ h9 => h9) rfl dX4_kind_150 ?_
                        refine lv_aload_n hx hb dX4_kind_153 rfl (lv_at hl 0 rfl) ?_
                        refine va_get (D := D) (ci := 5) (v := .int (nI (n + 1))) (C := RX4) (T := TX4) (N := 14) hx hb hts k2 hown hK hP 0 rfl rfl 1 (by decide) k6 (fun _ h9 => h9) rfl dX4_kind_154 ?_
                        refine lv_lload hx hb dX4_kind_157 (lv_at hl 5 rfl) ?_
                        refine fk_last hx hb hK hP hD hS 5 0 rfl rfl (i := n + 1) (by omega) (by decide) dX4_kind_159 (fun H locs hP hD hS => ?_)
                        have hP : va_P D vwCl (fk_wm cJ cI cZ am 0 (nI (n + 1)) lo tn (upd wd (n + 1) w0) (upd sg (n + 1) s0) (vp_updL up (n + 1) u0) (vp_updL dn (n + 1) d0) (vp_updL of (n + 1) o0) bey rnd tx pt sn ++ tl) H := hP
                        have hD : va_D A (fk_wm cJ cI cZ am 0 (nI (n + 1)) lo tn (upd wd (n + 1) w0) (upd sg (n + 1) s0) (vp_updL up (n + 1) u0) (vp_updL dn (n + 1) d0) (vp_updL of (n + 1) o0) bey rnd tx pt sn ++ tl) := hD
                        refine lv_aload_n hx hb dX4_kind_160 rfl (lv_at hl 0 rfl) ?_
                        refine va_get (D := D) (ci := 5) (v := .int (nI (n + 1))) (C := RX4) (T := TX4) (N := 14) hx hb hts k2 hown hK hP 0 rfl rfl 1 (by decide) k6 (fun _ h9 => h9) rfl dX4_kind_161 ?_
                        rw [hQQ]
                        exact W.iret (v := nI (n + 1)) hx hb hr (fun t ht hW => ⟨⟨(nI (n + 1)), (n + 1, upd wd (n + 1) w0, upd sg (n + 1) s0, vp_updL up (n + 1) u0, vp_updL dn (n + 1) d0, vp_updL of (n + 1) o0), rfl, Or.inr (Or.inr (Or.inr ⟨hgood, hn, c_93, rfl, rfl⟩)), by rw [ht]; exact hP, va_K.moved hW.alike hK, hD⟩, hS.F ht⟩) hS.2.2 dX4_kind_164
                      · rw [lg_cmp_eq] at c_93
                        refine lv_iconst (v := 0) hx hb dX4_kind_96 (by decide) ?_
                        rw [hQQ]
                        exact W.iret (v := 0) hx hb hr (fun t ht hW => ⟨⟨0, (n, wd, sg, up, dn, of), rfl, Or.inr (Or.inr (Or.inl ⟨hgood, hn, c_93, rfl, rfl⟩)), by rw [ht]; exact hP, va_K.moved hW.alike hK, hD⟩, hS.F ht⟩) hS.2.2 dX4_kind_97
                    · have hn : n = 40 := by have q := (nI_eq (a := n) (b := 40) (by omega) (by omega)).mp c_84; exact q
                      refine lv_bipush (v := (-4)) hx hb dX4_kind_87 (by decide) ?_
                      rw [hQQ]
                      exact W.iret (v := (-4)) hx hb hr (fun t ht hW => ⟨⟨(-4), (n, wd, sg, up, dn, of), rfl, Or.inr (Or.inl ⟨hgood, hn, rfl, rfl⟩), by rw [ht]; exact hP, va_K.moved hW.alike hK, hD⟩, hS.F ht⟩) hS.2.2 dX4_kind_89
                  · rw [lg_cmp_le] at c_72
                    rw [Int64.le_iff_toInt_le, show (1000000 : Int64).toInt = 1000000 by decide] at c_72
                    have hbad : fk_badK w0 s0 u0 d0 o0 := fun q => by obtain ⟨⟨q1, q2, q3⟩, ⟨q4, q5, q6⟩, q7, q8⟩ := q; omega
                    refine lv_bipush (v := (-2)) hx hb dX4_kind_75 (by decide) ?_
                    rw [hQQ]
                    exact W.iret (v := (-2)) hx hb hr (fun t ht hW => ⟨⟨(-2), (n, wd, sg, up, dn, of), rfl, Or.inl ⟨hbad, rfl, rfl⟩, by rw [ht]; exact hP, va_K.moved hW.alike hK, hD⟩, hS.F ht⟩) hS.2.2 dX4_kind_77
      · refine lv_iload_n hx hb dX4_kind_23 rfl (lv_at hl 2 rfl) ?_
        refine lv_if_eq (tgt := 75) hx hb dX4_kind_24 (by decide) (fun c_24 => ?_) (fun c_24 => ?_)
        · have hbad : fk_badK w0 s0 u0 d0 o0 := fun q => by obtain ⟨⟨q1, q2, q3⟩, ⟨q4, q5, q6⟩, q7, q8⟩ := q; have z := q3 c_24; rw [c_20] at z; exact absurd z (by decide)
          refine lv_bipush (v := (-2)) hx hb dX4_kind_75 (by decide) ?_
          rw [hQQ]
          exact W.iret (v := (-2)) hx hb hr (fun t ht hW => ⟨⟨(-2), (n, wd, sg, up, dn, of), rfl, Or.inl ⟨hbad, rfl, rfl⟩, by rw [ht]; exact hP, va_K.moved hW.alike hK, hD⟩, hS.F ht⟩) hS.2.2 dX4_kind_77
        · have h3 : s0 = 0 → w0.toInt ≤ 63 := fun q => absurd q c_24
          refine lv_lload_n hx hb dX4_kind_27 rfl (lv_at hl 3 rfl) ?_
          refine lv_lconst (v := 0) hx hb dX4_kind_28 (by decide) ?_
          refine W.lcmp hx hb dX4_kind_29 ?_
          refine lv_if_lt (tgt := 75) hx hb dX4_kind_30 (by decide) (fun c_30 => ?_) (fun c_30 => ?_)
          · rw [lg_cmp_lt] at c_30
            rw [Int64.lt_iff_toInt_lt, show (0 : Int64).toInt = 0 by decide] at c_30
            have hbad : fk_badK w0 s0 u0 d0 o0 := fun q => by obtain ⟨⟨q1, q2, q3⟩, ⟨q4, q5, q6⟩, q7, q8⟩ := q; omega
            refine lv_bipush (v := (-2)) hx hb dX4_kind_75 (by decide) ?_
            rw [hQQ]
            exact W.iret (v := (-2)) hx hb hr (fun t ht hW => ⟨⟨(-2), (n, wd, sg, up, dn, of), rfl, Or.inl ⟨hbad, rfl, rfl⟩, by rw [ht]; exact hP, va_K.moved hW.alike hK, hD⟩, hS.F ht⟩) hS.2.2 dX4_kind_77
          · rw [lg_cmp_lt] at c_30
            rw [Int64.lt_iff_toInt_lt, show (0 : Int64).toInt = 0 by decide] at c_30
            refine lv_lload_n hx hb dX4_kind_33 rfl (lv_at hl 3 rfl) ?_
            refine lv_ldc2 (v := 1000) hx hb hown k3 dX4_kind_34 ?_
            refine W.lcmp hx hb dX4_kind_37 ?_
            refine lv_if_gt (tgt := 75) hx hb dX4_kind_38 (by decide) (fun c_38 => ?_) (fun c_38 => ?_)
            · rw [lg_cmp_gt] at c_38
              rw [Int64.lt_iff_toInt_lt, show (1000 : Int64).toInt = 1000 by decide] at c_38
              have hbad : fk_badK w0 s0 u0 d0 o0 := fun q => by obtain ⟨⟨q1, q2, q3⟩, ⟨q4, q5, q6⟩, q7, q8⟩ := q; omega
              refine lv_bipush (v := (-2)) hx hb dX4_kind_75 (by decide) ?_
              rw [hQQ]
              exact W.iret (v := (-2)) hx hb hr (fun t ht hW => ⟨⟨(-2), (n, wd, sg, up, dn, of), rfl, Or.inl ⟨hbad, rfl, rfl⟩, by rw [ht]; exact hP, va_K.moved hW.alike hK, hD⟩, hS.F ht⟩) hS.2.2 dX4_kind_77
            · rw [lg_cmp_gt] at c_38
              rw [Int64.lt_iff_toInt_lt, show (1000 : Int64).toInt = 1000 by decide] at c_38
              refine lv_lload hx hb dX4_kind_41 (lv_at hl 4 rfl) ?_
              refine lv_lconst (v := 1) hx hb dX4_kind_43 (by decide) ?_
              refine W.lcmp hx hb dX4_kind_44 ?_
              refine lv_if_lt (tgt := 75) hx hb dX4_kind_45 (by decide) (fun c_45 => ?_) (fun c_45 => ?_)
              · rw [lg_cmp_lt] at c_45
                rw [Int64.lt_iff_toInt_lt, show (1 : Int64).toInt = 1 by decide] at c_45
                have hbad : fk_badK w0 s0 u0 d0 o0 := fun q => by obtain ⟨⟨q1, q2, q3⟩, ⟨q4, q5, q6⟩, q7, q8⟩ := q; omega
                refine lv_bipush (v := (-2)) hx hb dX4_kind_75 (by decide) ?_
                rw [hQQ]
                exact W.iret (v := (-2)) hx hb hr (fun t ht hW => ⟨⟨(-2), (n, wd, sg, up, dn, of), rfl, Or.inl ⟨hbad, rfl, rfl⟩, by rw [ht]; exact hP, va_K.moved hW.alike hK, hD⟩, hS.F ht⟩) hS.2.2 dX4_kind_77
              · rw [lg_cmp_lt] at c_45
                rw [Int64.lt_iff_toInt_lt, show (1 : Int64).toInt = 1 by decide] at c_45
                refine lv_lload hx hb dX4_kind_48 (lv_at hl 4 rfl) ?_
                refine lv_ldc2 (v := 1000) hx hb hown k3 dX4_kind_50 ?_
                refine W.lcmp hx hb dX4_kind_53 ?_
                refine lv_if_gt (tgt := 75) hx hb dX4_kind_54 (by decide) (fun c_54 => ?_) (fun c_54 => ?_)
                · rw [lg_cmp_gt] at c_54
                  rw [Int64.lt_iff_toInt_lt, show (1000 : Int64).toInt = 1000 by decide] at c_54
                  have hbad : fk_badK w0 s0 u0 d0 o0 := fun q => by obtain ⟨⟨q1, q2, q3⟩, ⟨q4, q5, q6⟩, q7, q8⟩ := q; omega
                  refine lv_bipush (v := (-2)) hx hb dX4_kind_75 (by decide) ?_
                  rw [hQQ]
                  exact W.iret (v := (-2)) hx hb hr (fun t ht hW => ⟨⟨(-2), (n, wd, sg, up, dn, of), rfl, Or.inl ⟨hbad, rfl, rfl⟩, by rw [ht]; exact hP, va_K.moved hW.alike hK, hD⟩, hS.F ht⟩) hS.2.2 dX4_kind_77
                · rw [lg_cmp_gt] at c_54
                  rw [Int64.lt_iff_toInt_lt, show (1000 : Int64).toInt = 1000 by decide] at c_54
                  refine lv_lload hx hb dX4_kind_57 (lv_at hl 5 rfl) ?_
                  refine lv_ldc2 (v := (-1000000)) hx hb hown k4 dX4_kind_59 ?_
                  refine W.lcmp hx hb dX4_kind_62 ?_
                  refine lv_if_lt (tgt := 75) hx hb dX4_kind_63 (by decide) (fun c_63 => ?_) (fun c_63 => ?_)
                  · rw [lg_cmp_lt] at c_63
                    rw [Int64.lt_iff_toInt_lt, show ((-1000000) : Int64).toInt = (-1000000) by decide] at c_63
                    have hbad : fk_badK w0 s0 u0 d0 o0 := fun q => by obtain ⟨⟨q1, q2, q3⟩, ⟨q4, q5, q6⟩, q7, q8⟩ := q; omega
                    refine lv_bipush (v := (-2)) hx hb dX4_kind_75 (by decide) ?_
                    rw [hQQ]
                    exact W.iret (v := (-2)) hx hb hr (fun t ht hW => ⟨⟨(-2), (n, wd, sg, up, dn, of), rfl, Or.inl ⟨hbad, rfl, rfl⟩, by rw [ht]; exact hP, va_K.moved hW.alike hK, hD⟩, hS.F ht⟩) hS.2.2 dX4_kind_77
                  · rw [lg_cmp_lt] at c_63
                    rw [Int64.lt_iff_toInt_lt, show ((-1000000) : Int64).toInt = (-1000000) by decide] at c_63
                    refine lv_lload hx hb dX4_kind_66 (lv_at hl 5 rfl) ?_
                    refine lv_ldc2 (v := 1000000) hx hb hown k5 dX4_kind_68 ?_
                    refine W.lcmp hx hb dX4_kind_71 ?_
                    refine lv_if_le (tgt := 78) hx hb dX4_kind_72 (by decide) (fun c_72 => ?_) (fun c_72 => ?_)
                    · rw [lg_cmp_le] at c_72
                      rw [Int64.le_iff_toInt_le, show (1000000 : Int64).toInt = 1000000 by decide] at c_72
                      have hgood : ¬ fk_badK w0 s0 u0 d0 o0 := fun q => q ⟨⟨by omega, by omega, h3⟩, ⟨⟨by omega, by omega⟩, by omega, by omega⟩, by omega, by omega⟩
                      refine lv_aload_n hx hb dX4_kind_78 rfl (lv_at hl 0 rfl) ?_
                      refine va_get (D := D) (ci := 5) (v := .int (nI n)) (C := RX4) (T := TX4) (N := 14) hx hb hts k2 hown hK hP 0 rfl rfl 1 (by decide) k6 (fun _ h9 => h9) rfl dX4_kind_79 ?_
                      refine lv_bipush (v := 40) hx hb dX4_kind_82 (by decide) ?_
                      refine lv_icmp_ne (tgt := 90) hx hb dX4_kind_84 (by decide) (fun c_84 => ?_) (fun c_84 => ?_)
                      · have hn : n < 40 := by have q : n ≠ 40 := fun q => c_84 (by rw [q]; rfl); omega
                        refine lv_lload_n hx hb dX4_kind_90 rfl (lv_at hl 3 rfl) ?_
                        refine lv_lconst (v := 0) hx hb dX4_kind_91 (by decide) ?_
                        refine W.lcmp hx hb dX4_kind_92 ?_
                        refine lv_if_ne (tgt := 98) hx hb dX4_kind_93 (by decide) (fun c_93 => ?_) (fun c_93 => ?_)
                        · rw [lg_cmp_eq] at c_93
                          refine lv_aload_n hx hb dX4_kind_98 rfl (lv_at hl 0 rfl) ?_
                          refine lv_dup hx hb dX4_kind_99 rfl ?_
                          refine va_get (D := D) (ci := 5) (v := .int (nI n)) (C := RX4) (T := TX4) (N := 14) hx hb hts k2 hown hK hP 0 rfl rfl 1 (by decide) k6 (fun _ h9 => h9) rfl dX4_kind_100 ?_
                          refine lv_iconst (v := 1) hx hb dX4_kind_103 (by decide) ?_
                          refine lv_iadd hx hb dX4_kind_104 ?_
                          refine lv_topi (fun x2 ex2 => ?_)
                          have ex2q : x2 = nI (n + 1) := by
                            rw [ex2]; exact nI_1 n
                          subst ex2q
                          refine va_put (D := D) (ci := 5) (v := .int (nI (n + 1))) (ty := (.int)) (C := RX4) (T := TX4) (N := 14) hx hb hts k2 tyX4 tyX4_ok nmX4 hown hK hP hD hS 0 rfl rfl 1 (by decide) k6 (fun _ h9 => h9) rfl (by decide +kernel) rfl rfl (Nat.le_of_ble_eq_true rfl) dX4_kind_105 (fun H locs hP hD hS => ?_)
                          have hP : va_P D vwCl (fk_wm cJ cI cZ am 0 (nI (n + 1)) lo tn wd sg up dn of bey rnd tx pt sn ++ tl) H := hP
                          have hD : va_D A (fk_wm cJ cI cZ am 0 (nI (n + 1)) lo tn wd sg up dn of bey rnd tx pt sn ++ tl) := hD
                          refine lv_aload_n hx hb dX4_kind_108 rfl (lv_at hl 0 rfl) ?_
                          refine va_get (D := D) (ci := 5) (v := .ref (am 1)) (C := RX4) (T := TX4) (N := 14) hx hb hts k2 hown hK hP 0 rfl rfl 2 (by decide) k7 (fun _ h9 => h9) rfl dX4_kind_109 ?_
                          refine lv_aload_n hx hb dX4_kind_112 rfl (lv_at hl 0 rfl) ?_
                          refine va_get (D := D) (ci := 5) (v := .int (nI (n + 1))) (C := RX4) (T := TX4) (N := 14) hx hb hts k2 hown hK hP 0 rfl rfl 1 (by decide) k6 (fun _ h9 => h9) rfl dX4_kind_113 ?_
                          refine lv_iload_n hx hb dX4_kind_116 rfl (lv_at hl 1 rfl) ?_
                          refine fk_iast hx hb hK hP hD hS 1 2 rfl rfl (i := n + 1) (by omega) (by decide) dX4_kind_117 (fun H locs hP hD hS => ?_)
                          have hP : va_P D vwCl (fk_wm cJ cI cZ am 0 (nI (n + 1)) lo tn (upd wd (n + 1) w0) sg up dn of bey rnd tx pt sn ++ tl) H := hP
                          have hD : va_D A (fk_wm cJ cI cZ am 0 (nI (n + 1)) lo tn (upd wd (n + 1) w0) sg up dn of bey rnd tx pt sn ++ tl) := hD
                          refine lv_aload_n hx hb dX4_kind_118 rfl (lv_at hl 0 rfl) ?_
                          refine va_get (D := D) (ci := 5) (v := .ref (am 2)) (C := RX4) (T := TX4) (N := 14) hx hb hts k2 hown hK hP 0 rfl rfl 3 (by decide) k8 (fun _ h9 => h9) rfl dX4_kind_119 ?_
                          refine lv_aload_n hx hb dX4_kind_122 rfl (lv_at hl 0 rfl) ?_
                          refine va_get (D := D) (ci := 5) (v := .int (nI (n + 1))) (C := RX4) (T := TX4) (N := 14) hx hb hts k2 hown hK hP 0 rfl rfl 1 (by decide) k6 (fun _ h9 => h9) rfl dX4_kind_123 ?_
                          refine lv_iload_n hx hb dX4_kind_126 rfl (lv_at hl 2 rfl) ?_
                          refine fk_zast hx hb hK hP hD hS 2 3 rfl rfl (i := n + 1) (by omega) (by decide) dX4_kind_127 (fun H locs hP hD hS => ?_)
                          have hP : va_P D vwCl (fk_wm cJ cI cZ am 0 (nI (n + 1)) lo tn (upd wd (n + 1) w0) (upd sg (n + 1) (vp_nar .boolean s0)) up dn of bey rnd tx pt sn ++ tl) H := hP
                          have hD : va_D A (fk_wm cJ cI cZ am 0 (nI (n + 1)) lo tn (upd wd (n + 1) w0) (upd sg (n + 1) (vp_nar .boolean s0)) up dn of bey rnd tx pt sn ++ tl) := hD
                          rw [show vp_nar .boolean s0 = s0 by rcases hsg with q | q <;> rw [q] <;> rfl] at hP hD
                          refine lv_aload_n hx hb dX4_kind_128 rfl (lv_at hl 0 rfl) ?_
                          refine va_get (D := D) (ci := 5) (v := .ref (am 3)) (C := RX4) (T := TX4) (N := 14) hx hb hts k2 hown hK hP 0 rfl rfl 4 (by decide) k9 (fun _ h9 => h9) rfl dX4_kind_129 ?_
                          refine lv_aload_n hx hb dX4_kind_132 rfl (lv_at hl 0 rfl) ?_
                          refine va_get (D := D) (ci := 5) (v := .int (nI (n + 1))) (C := RX4) (T := TX4) (N := 14) hx hb hts k2 hown hK hP 0 rfl rfl 1 (by decide) k6 (fun _ h9 => h9) rfl dX4_kind_133 ?_
                          refine lv_lload_n hx hb dX4_kind_136 rfl (lv_at hl 3 rfl) ?_
                          refine fk_last hx hb hK hP hD hS 3 0 rfl rfl (i := n + 1) (by omega) (by decide) dX4_kind_137 (fun H locs hP hD hS => ?_)
                          have hP : va_P D vwCl (fk_wm cJ cI cZ am 0 (nI (n + 1)) lo tn (upd wd (n + 1) w0) (upd sg (n + 1) s0) (vp_updL up (n + 1) u0) dn of bey rnd tx pt sn ++ tl) H := hP
                          have hD : va_D A (fk_wm cJ cI cZ am 0 (nI (n + 1)) lo tn (upd wd (n + 1) w0) (upd sg (n + 1) s0) (vp_updL up (n + 1) u0) dn of bey rnd tx pt sn ++ tl) := hD
                          refine lv_aload_n hx hb dX4_kind_138 rfl (lv_at hl 0 rfl) ?_
                          refine va_get (D := D) (ci := 5) (v := .ref (am 4)) (C := RX4) (T := TX4) (N := 14) hx hb hts k2 hown hK hP 0 rfl rfl 5 (by decide) k10 (fun _ h9 => h9) rfl dX4_kind_139 ?_
                          refine lv_aload_n hx hb dX4_kind_142 rfl (lv_at hl 0 rfl) ?_
                          refine va_get (D := D) (ci := 5) (v := .int (nI (n + 1))) (C := RX4) (T := TX4) (N := 14) hx hb hts k2 hown hK hP 0 rfl rfl 1 (by decide) k6 (fun _ h9 => h9) rfl dX4_kind_143 ?_
                          refine lv_lload hx hb dX4_kind_146 (lv_at hl 4 rfl) ?_
                          refine fk_last hx hb hK hP hD hS 4 0 rfl rfl (i := n + 1) (by omega) (by decide) dX4_kind_148 (fun H locs hP hD hS => ?_)
                          have hP : va_P D vwCl (fk_wm cJ cI cZ am 0 (nI (n + 1)) lo tn (upd wd (n + 1) w0) (upd sg (n + 1) s0) (vp_updL up (n + 1) u0) (vp_updL dn (n + 1) d0) of bey rnd tx pt sn ++ tl) H := hP
                          have hD : va_D A (fk_wm cJ cI cZ am 0 (nI (n + 1)) lo tn (upd wd (n + 1) w0) (upd sg (n + 1) s0) (vp_updL up (n + 1) u0) (vp_updL dn (n + 1) d0) of bey rnd tx pt sn ++ tl) := hD
                          refine lv_aload_n hx hb dX4_kind_149 rfl (lv_at hl 0 rfl) ?_
                          refine va_get (D := D) (ci := 5) (v := .ref (am 5)) (C := RX4) (T := TX4) (N := 14) hx hb hts k2 hown hK hP 0 rfl rfl 6 (by decide) k11 (fun _ h9 => h9) rfl dX4_kind_150 ?_
                          refine lv_aload_n hx hb dX4_kind_153 rfl (lv_at hl 0 rfl) ?_
                          refine va_get (D := D) (ci := 5) (v := .int (nI (n + 1))) (C := RX4) (T := TX4) (N := 14) hx hb hts k2 hown hK hP 0 rfl rfl 1 (by decide) k6 (fun _ h9 => h9) rfl dX4_kind_154 ?_
                          refine lv_lload hx hb dX4_kind_157 (lv_at hl 5 rfl) ?_
                          refine fk_last hx hb hK hP hD hS 5 0 rfl rfl (i := n + 1) (by omega) (by decide) dX4_kind_159 (fun H locs hP hD hS => ?_)
                          have hP : va_P D vwCl (fk_wm cJ cI cZ am 0 (nI (n + 1)) lo tn (upd wd (n + 1) w0) (upd sg (n + 1) s0) (vp_updL up (n + 1) u0) (vp_updL dn (n + 1) d0) (vp_updL of (n + 1) o0) bey rnd tx pt sn ++ tl) H := hP
                          have hD : va_D A (fk_wm cJ cI cZ am 0 (nI (n + 1)) lo tn (upd wd (n + 1) w0) (upd sg (n + 1) s0) (vp_updL up (n + 1) u0) (vp_updL dn (n + 1) d0) (vp_updL of (n + 1) o0) bey rnd tx pt sn ++ tl) := hD
                          refine lv_aload_n hx hb dX4_kind_160 rfl (lv_at hl 0 rfl) ?_
                          refine va_get (D := D) (ci := 5) (v := .int (nI (n + 1))) (C := RX4) (T := TX4) (N := 14) hx hb hts k2 hown hK hP 0 rfl rfl 1 (by decide) k6 (fun _ h9 => h9) rfl dX4_kind_161 ?_
                          rw [hQQ]
                          exact W.iret (v := nI (n + 1)) hx hb hr (fun t ht hW => ⟨⟨(nI (n + 1)), (n + 1, upd wd (n + 1) w0, upd sg (n + 1) s0, vp_updL up (n + 1) u0, vp_updL dn (n + 1) d0, vp_updL of (n + 1) o0), rfl, Or.inr (Or.inr (Or.inr ⟨hgood, hn, c_93, rfl, rfl⟩)), by rw [ht]; exact hP, va_K.moved hW.alike hK, hD⟩, hS.F ht⟩) hS.2.2 dX4_kind_164
                        · rw [lg_cmp_eq] at c_93
                          refine lv_iconst (v := 0) hx hb dX4_kind_96 (by decide) ?_
                          rw [hQQ]
                          exact W.iret (v := 0) hx hb hr (fun t ht hW => ⟨⟨0, (n, wd, sg, up, dn, of), rfl, Or.inr (Or.inr (Or.inl ⟨hgood, hn, c_93, rfl, rfl⟩)), by rw [ht]; exact hP, va_K.moved hW.alike hK, hD⟩, hS.F ht⟩) hS.2.2 dX4_kind_97
                      · have hn : n = 40 := by have q := (nI_eq (a := n) (b := 40) (by omega) (by omega)).mp c_84; exact q
                        refine lv_bipush (v := (-4)) hx hb dX4_kind_87 (by decide) ?_
                        rw [hQQ]
                        exact W.iret (v := (-4)) hx hb hr (fun t ht hW => ⟨⟨(-4), (n, wd, sg, up, dn, of), rfl, Or.inr (Or.inl ⟨hgood, hn, rfl, rfl⟩), by rw [ht]; exact hP, va_K.moved hW.alike hK, hD⟩, hS.F ht⟩) hS.2.2 dX4_kind_89
                    · rw [lg_cmp_le] at c_72
                      rw [Int64.le_iff_toInt_le, show (1000000 : Int64).toInt = 1000000 by decide] at c_72
                      have hbad : fk_badK w0 s0 u0 d0 o0 := fun q => by obtain ⟨⟨q1, q2, q3⟩, ⟨q4, q5, q6⟩, q7, q8⟩ := q; omega
                      refine lv_bipush (v := (-2)) hx hb dX4_kind_75 (by decide) ?_
                      rw [hQQ]
                      exact W.iret (v := (-2)) hx hb hr (fun t ht hW => ⟨⟨(-2), (n, wd, sg, up, dn, of), rfl, Or.inl ⟨hbad, rfl, rfl⟩, by rw [ht]; exact hP, va_K.moved hW.alike hK, hD⟩, hS.F ht⟩) hS.2.2 dX4_kind_77
