/-! Reference: nothing, sizes, addSizes, lessSizes, by program -/
abbrev rmX4_nothing : Room := { frames := 0, cells := 0, slots := 0, locals := 0 }
set_option maxHeartbeats 4000000 in
set_option maxRecDepth 100000 in
/-- nothing -/
theorem kX4_nothing {l : Launch} {D : va_G} {cJ cC cI cZ cK : ClassId} (sz : Nat) (am : Nat → Nat) (tl : va_W) (cd kn lo tn : Int32) (wd sg : Nat → Int32) (up dn of : Nat → Int64) (bey rnd tx pt sn : Nat → Int32) (p0 : Nat) (x : Int) (hp : p0 < 24) (hR : fk_rg x p0 pt) : Met l yX4_nothing wsX4_nothing rmX4_nothing (va_Pc [.ref (am 0), .int (nI p0)] (fk_pre D (fk_ty cJ cC cI cZ cK) (fk_wm cJ cI cZ am cd kn lo tn wd sg up dn of bey rnd tx pt sn ++ tl) sz)) (va_Qi (fun (r : Int32) (_ : Unit) => r = if x = 0 then 1 else 0) (fk_Bd D (fk_ty cJ cC cI cZ cK) (va_A (fk_wm cJ cI cZ am cd kn lo tn wd sg up dn of bey rnd tx pt sn ++ tl) sz) (fun _ : Unit => fk_wm cJ cI cZ am cd kn lo tn wd sg up dn of bey rnd tx pt sn ++ tl)) (va_A (fk_wm cJ cI cZ am cd kn lo tn wd sg up dn of bey rnd tx pt sn ++ tl) sz)) 0 0 (va_A (fk_wm cJ cI cZ am cd kn lo tn wd sg up dn of bey rnd tx pt sn ++ tl) sz) := by
  refine fk_ofW cX4_nothing 4 (some .boolean) (fun A => va_Qi (fun (r : Int32) (_ : Unit) => r = if x = 0 then 1 else 0) (fk_Bd D (fk_ty cJ cC cI cZ cK) A (fun _ : Unit => fk_wm cJ cI cZ am cd kn lo tn wd sg up dn of bey rnd tx pt sn ++ tl)) A) rfl (by decide) (Nat.le_of_ble_eq_true rfl) ?_
  intro p e s m below meth c A ls args QQ hQQ hAt hP hK hN hD hA hS hl
  obtain ⟨⟨hx, hb, hml, hown, hts⟩, hr, hlocks, hin⟩ := hAt
  have hl : lv_has ls 4 [(0, .ref (am 0)), (1, .int (nI p0))] := hl
  have k1 := hts (.fieldLink RX4 36 "FixedKindsModel" "part" "[I") (by decide +kernel)
  have k2 := (by decide +kernel : ∀ w ∈ u_ws RX4 TX4 14, w ∈ wsX4_nothing)
  refine lv_iconst (v := 1) hx hb dX4_nothing_0 (by decide) ?_
  refine lv_istore_n (lv' := [(2, .int 1), (0, .ref (am 0)), (1, .int (nI p0))]) hx hb dX4_nothing_1 rfl hl (by decide) rfl (fun ls hl => ?_)
  refine lv_iconst (v := 0) hx hb dX4_nothing_2 (by decide) ?_
  refine lv_istore_n (lv' := [(3, .int 0), (2, .int 1), (0, .ref (am 0)), (1, .int (nI p0))]) hx hb dX4_nothing_3 rfl hl (by decide) rfl (fun ls hl => ?_)
  have L4 : ∀ (fu4 : Nat) (k : Nat) (z : Int32), 16 - k < fu4 → (k ≤ 16) → ((z = 1 ∧ ∀ j, j < k → fk_M pt p0 j = 0) ∨ (z = 0 ∧ ∃ j, j < 16 ∧ fk_M pt p0 j ≠ 0)) → ∀ (H : Heap) (locs : List Loc) (ls : Array Slot), va_P D vwCl (fk_wm cJ cI cZ am cd kn lo tn wd sg up dn of bey rnd tx pt sn ++ tl) H → va_D A (fk_wm cJ cI cZ am cd kn lo tn wd sg up dn of bey rnd tx pt sn ++ tl) → va_S A s.heap H locs → lv_has ls 4 [(0, .ref (am 0)), (1, .int (nI p0)), (2, .int z), (3, .int (nI k))] → W p l e rmX4_nothing s m args below meth c H locs 0 0 QQ (F0 m 4 ls []) := by
    intro fu4
    induction fu4 with
    | zero => intro k z hfu; exact absurd hfu (Nat.not_lt_zero _)
    | succ fu4 ih4 =>
      intro k z hfu4 hk hz H locs ls hP hD hS hl
      refine lv_iload_n hx hb dX4_nothing_4 rfl (lv_at hl 3 rfl) ?_
      refine lv_bipush (v := 16) hx hb dX4_nothing_5 (by decide) ?_
      refine lv_icmp_ge (tgt := 40) hx hb dX4_nothing_7 (by decide) (fun c_7 => ?_) (fun c_7 => ?_)
      · have hk16 : k = 16 := by have q := (nI_leI (a := 16) (b := k) (by omega) (by omega)).mp c_7; omega
        subst hk16
        refine lv_iload_n hx hb dX4_nothing_40 rfl (lv_at hl 2 rfl) ?_
        rw [hQQ]
        exact W.zret (v := z) hx hb hr (by rcases hz with q | q <;> rw [q.1] <;> rfl) (fun t ht hW => ⟨⟨z, (), rfl, (by have e := fk_T_zero_iff hR.1; rw [hR.2] at e; rcases hz with q | q; rw [q.1, if_pos (e.mpr q.2)]; obtain ⟨q1, j, hj, q2⟩ := q; rw [q1, if_neg (fun z => q2 (e.mp z j hj))]), by rw [ht]; exact hP, va_K.moved hW.alike hK, hD⟩, hS.F ht⟩) hS.2.2 dX4_nothing_41
      · have hk16 : k < 16 := by rcases Nat.lt_or_ge k 16 with q | q; exact q; exact absurd ((nI_leI (a := 16) (b := k) (by omega) (by omega)).mpr q) c_7
        refine lv_iload_n hx hb dX4_nothing_10 rfl (lv_at hl 2 rfl) ?_
        refine lv_if_eq (tgt := 32) hx hb dX4_nothing_11 (by decide) (fun c_11 => ?_) (fun c_11 => ?_)
        · have n1 : ((0 : Int32) = 1 ∧ ∀ j, j < k + 1 → fk_M pt p0 j = 0) ∨ ((0 : Int32) = 0 ∧ ∃ j, j < 16 ∧ fk_M pt p0 j ≠ 0) := by rcases hz with q | q; rw [q.1] at c_11; exact absurd c_11 (by decide); exact Or.inr ⟨rfl, q.2⟩
          refine lv_iconst (v := 0) hx hb dX4_nothing_32 (by decide) ?_
          refine lv_istore_n (lv' := [(2, .int 0), (0, .ref (am 0)), (1, .int (nI p0)), (3, .int (nI k))]) hx hb dX4_nothing_33 rfl hl (by decide) rfl (fun ls hl => ?_)
          refine lv_iinc (v := nI (k + 1)) (lv' := [(3, .int (nI (k + 1))), (2, .int 0), (0, .ref (am 0)), (1, .int (nI p0))]) hx hb dX4_nothing_34 hl (k := 3) rfl (by exact nI_1 k) (by decide) rfl (fun ls hl => ?_)
          refine lv_goto (tgt := 4) hx hb dX4_nothing_37 (by decide) ?_
          exact ih4 (k + 1) 0 (by omega) (by omega) n1 _ _ _ hP hD hS (lv_sub hl [2, 3, 1, 0] rfl)
        · have hz1 : z = 1 ∧ ∀ j, j < k → fk_M pt p0 j = 0 := by rcases hz with q | q; exact q; exact absurd q.1 c_11
          refine lv_aload_n hx hb dX4_nothing_14 rfl (lv_at hl 0 rfl) ?_
          refine va_get (D := D) (ci := 5) (v := .ref (am 9)) (C := RX4) (T := TX4) (N := 14) hx hb hts k2 hown hK hP 0 rfl rfl 12 (by decide) k1 (fun _ h9 => h9) rfl dX4_nothing_15 ?_
          refine lv_bipush (v := 16) hx hb dX4_nothing_18 (by decide) ?_
          refine lv_iload_n hx hb dX4_nothing_20 rfl (lv_at hl 1 rfl) ?_
          refine lv_imul hx hb dX4_nothing_21 ?_
          refine lv_topi (fun x1 ex1 => ?_)
          have ex1q : x1 = nI (16 * p0) := by
            rw [ex1]; exact pk_mul 16 p0
          subst ex1q
          refine lv_iload_n hx hb dX4_nothing_22 rfl (lv_at hl 3 rfl) ?_
          refine lv_iadd hx hb dX4_nothing_23 ?_
          refine lv_topi (fun x2 ex2 => ?_)
          have ex2q : x2 = nI (16 * p0 + k) := by
            rw [ex2]; exact nI_add (16 * p0) k
          subst ex2q
          refine fk_iald hx hb hK hP 9 2 rfl rfl (i := 16 * p0 + k) (by omega) (by decide) dX4_nothing_24 ?_
          refine lv_if_ne (tgt := 32) hx hb dX4_nothing_25 (by decide) (fun c_25 => ?_) (fun c_25 => ?_)
          · have n1 : ((0 : Int32) = 1 ∧ ∀ j, j < k + 1 → fk_M pt p0 j = 0) ∨ ((0 : Int32) = 0 ∧ ∃ j, j < 16 ∧ fk_M pt p0 j ≠ 0) := Or.inr ⟨rfl, k, hk16, fun q => c_25 (Int32.toInt_inj.mp (by rw [fk_M] at q; rw [q]; decide))⟩
            refine lv_iconst (v := 0) hx hb dX4_nothing_32 (by decide) ?_
            refine lv_istore_n (lv' := [(2, .int 0), (0, .ref (am 0)), (1, .int (nI p0)), (3, .int (nI k))]) hx hb dX4_nothing_33 rfl hl (by decide) rfl (fun ls hl => ?_)
            refine lv_iinc (v := nI (k + 1)) (lv' := [(3, .int (nI (k + 1))), (2, .int 0), (0, .ref (am 0)), (1, .int (nI p0))]) hx hb dX4_nothing_34 hl (k := 3) rfl (by exact nI_1 k) (by decide) rfl (fun ls hl => ?_)
            refine lv_goto (tgt := 4) hx hb dX4_nothing_37 (by decide) ?_
            exact ih4 (k + 1) 0 (by omega) (by omega) n1 _ _ _ hP hD hS (lv_sub hl [2, 3, 1, 0] rfl)
          · have n1 : ((1 : Int32) = 1 ∧ ∀ j, j < k + 1 → fk_M pt p0 j = 0) ∨ ((1 : Int32) = 0 ∧ ∃ j, j < 16 ∧ fk_M pt p0 j ≠ 0) := by
              refine Or.inl ⟨rfl, fun j hj => ?_⟩
              by_cases q : j = k
              · subst q; rw [fk_M, c_25]; decide
              · exact hz1.2 j (by omega)
            refine lv_iconst (v := 1) hx hb dX4_nothing_28 (by decide) ?_
            refine lv_goto (tgt := 33) hx hb dX4_nothing_29 (by decide) ?_
            refine lv_istore_n (lv' := [(2, .int 1), (0, .ref (am 0)), (1, .int (nI p0)), (3, .int (nI k))]) hx hb dX4_nothing_33 rfl hl (by decide) rfl (fun ls hl => ?_)
            refine lv_iinc (v := nI (k + 1)) (lv' := [(3, .int (nI (k + 1))), (2, .int 1), (0, .ref (am 0)), (1, .int (nI p0))]) hx hb dX4_nothing_34 hl (k := 3) rfl (by exact nI_1 k) (by decide) rfl (fun ls hl => ?_)
            refine lv_goto (tgt := 4) hx hb dX4_nothing_37 (by decide) ?_
            exact ih4 (k + 1) 1 (by omega) (by omega) n1 _ _ _ hP hD hS (lv_sub hl [2, 3, 1, 0] rfl)
  exact L4 17 0 1 (by omega) (by omega) (Or.inl ⟨rfl, fun j hj => absurd hj (Nat.not_lt_zero j)⟩) _ _ _ hP hD hS (lv_sub hl [2, 3, 1, 0] rfl)
abbrev rmX4_sizes : Room := { frames := 0, cells := 0, slots := 0, locals := 0 }
set_option maxHeartbeats 4000000 in
set_option maxRecDepth 100000 in
/-- sizes -/
theorem kX4_sizes {l : Launch} {D : va_G} {cJ cC cI cZ cK : ClassId} (sz : Nat) (am : Nat → Nat) (tl : va_W) (cd kn lo tn : Int32) (wd sg : Nat → Int32) (up dn of : Nat → Int64) (bey rnd tx pt sn : Nat → Int32) (ra rb : Nat) (x y : Int) (hra : ra < 24) (hrb : rb < 24) (gA : fk_rg x ra pt) (gB : fk_rg y rb pt) : Met l yX4_sizes wsX4_sizes rmX4_sizes (va_Pc [.ref (am 0), .int (nI ra), .int (nI rb)] (fk_pre D (fk_ty cJ cC cI cZ cK) (fk_wm cJ cI cZ am cd kn lo tn wd sg up dn of bey rnd tx pt sn ++ tl) sz)) (va_Qi (fun (r : Int32) (_ : Unit) => (0 < r.toInt ↔ y < x) ∧ (r.toInt < 0 ↔ x < y)) (fk_Bd D (fk_ty cJ cC cI cZ cK) (va_A (fk_wm cJ cI cZ am cd kn lo tn wd sg up dn of bey rnd tx pt sn ++ tl) sz) (fun _ : Unit => fk_wm cJ cI cZ am cd kn lo tn wd sg up dn of bey rnd tx pt sn ++ tl)) (va_A (fk_wm cJ cI cZ am cd kn lo tn wd sg up dn of bey rnd tx pt sn ++ tl) sz)) 0 0 (va_A (fk_wm cJ cI cZ am cd kn lo tn wd sg up dn of bey rnd tx pt sn ++ tl) sz) := by
  refine fk_ofW cX4_sizes 6 (some .int) (fun A => va_Qi (fun (r : Int32) (_ : Unit) => (0 < r.toInt ↔ y < x) ∧ (r.toInt < 0 ↔ x < y)) (fk_Bd D (fk_ty cJ cC cI cZ cK) A (fun _ : Unit => fk_wm cJ cI cZ am cd kn lo tn wd sg up dn of bey rnd tx pt sn ++ tl)) A) rfl (by decide) (Nat.le_of_ble_eq_true rfl) ?_
  intro p e s m below meth c A ls args QQ hQQ hAt hP hK hN hD hA hS hl
  obtain ⟨⟨hx, hb, hml, hown, hts⟩, hr, hlocks, hin⟩ := hAt
  have hl : lv_has ls 6 [(0, .ref (am 0)), (1, .int (nI ra)), (2, .int (nI rb))] := hl
  have k1 := hts (.fieldLink RX4 36 "FixedKindsModel" "part" "[I") (by decide +kernel)
  have k2 := (by decide +kernel : ∀ w ∈ u_ws RX4 TX4 14, w ∈ wsX4_sizes)
  refine lv_iconst (v := 0) hx hb dX4_sizes_0 (by decide) ?_
  refine lv_istore_n (lv' := [(3, .int 0), (0, .ref (am 0)), (1, .int (nI ra)), (2, .int (nI rb))]) hx hb dX4_sizes_1 rfl hl (by decide) rfl (fun ls hl => ?_)
  refine lv_iconst (v := 0) hx hb dX4_sizes_2 (by decide) ?_
  refine lv_istore (lv' := [(4, .int 0), (3, .int 0), (0, .ref (am 0)), (1, .int (nI ra)), (2, .int (nI rb))]) hx hb dX4_sizes_3 hl (by decide) rfl (fun ls hl => ?_)
  have L5 : ∀ (fu5 : Nat) (k : Nat) (cy : Int32), 16 - k < fu5 → (k ≤ 16) → ((0 < cy.toInt ↔ fk_T (fk_M pt rb) k < fk_T (fk_M pt ra) k) ∧ (cy.toInt < 0 ↔ fk_T (fk_M pt ra) k < fk_T (fk_M pt rb) k)) → ∀ (H : Heap) (locs : List Loc) (ls : Array Slot), va_P D vwCl (fk_wm cJ cI cZ am cd kn lo tn wd sg up dn of bey rnd tx pt sn ++ tl) H → va_D A (fk_wm cJ cI cZ am cd kn lo tn wd sg up dn of bey rnd tx pt sn ++ tl) → va_S A s.heap H locs → lv_has ls 6 [(0, .ref (am 0)), (1, .int (nI ra)), (2, .int (nI rb)), (3, .int cy), (4, .int (nI k))] → W p l e rmX4_sizes s m args below meth c H locs 0 0 QQ (F0 m 5 ls []) := by
    intro fu5
    induction fu5 with
    | zero => intro k cy hfu; exact absurd hfu (Nat.not_lt_zero _)
    | succ fu5 ih5 =>
      intro k cy hfu5 hk hc H locs ls hP hD hS hl
      refine lv_iload hx hb dX4_sizes_5 (lv_at hl 4 rfl) ?_
      refine lv_bipush (v := 16) hx hb dX4_sizes_7 (by decide) ?_
      refine lv_icmp_ge (tgt := 57) hx hb dX4_sizes_9 (by decide) (fun c_9 => ?_) (fun c_9 => ?_)
      · have hk16 : k = 16 := by have q := (nI_leI (a := 16) (b := k) (by omega) (by omega)).mp c_9; omega
        subst hk16
        refine lv_iload_n hx hb dX4_sizes_57 rfl (lv_at hl 3 rfl) ?_
        rw [hQQ]
        exact W.iret (v := cy) hx hb hr (fun t ht hW => ⟨⟨cy, (), rfl, (by rw [gA.2, gB.2] at hc; exact hc), by rw [ht]; exact hP, va_K.moved hW.alike hK, hD⟩, hS.F ht⟩) hS.2.2 dX4_sizes_58
      · have hk16 : k < 16 := by rcases Nat.lt_or_ge k 16 with q | q; exact q; exact absurd ((nI_leI (a := 16) (b := k) (by omega) (by omega)).mpr q) c_9
        refine lv_aload_n hx hb dX4_sizes_12 rfl (lv_at hl 0 rfl) ?_
        refine va_get (D := D) (ci := 5) (v := .ref (am 9)) (C := RX4) (T := TX4) (N := 14) hx hb hts k2 hown hK hP 0 rfl rfl 12 (by decide) k1 (fun _ h9 => h9) rfl dX4_sizes_13 ?_
        refine lv_bipush (v := 16) hx hb dX4_sizes_16 (by decide) ?_
        refine lv_iload_n hx hb dX4_sizes_18 rfl (lv_at hl 1 rfl) ?_
        refine lv_imul hx hb dX4_sizes_19 ?_
        refine lv_topi (fun x1 ex1 => ?_)
        have ex1q : x1 = nI (16 * ra) := by
          rw [ex1]; exact pk_mul 16 ra
        subst ex1q
        refine lv_iload hx hb dX4_sizes_20 (lv_at hl 4 rfl) ?_
        refine lv_iadd hx hb dX4_sizes_22 ?_
        refine lv_topi (fun x2 ex2 => ?_)
        have ex2q : x2 = nI (16 * ra + k) := by
          rw [ex2]; exact nI_add (16 * ra) k
        subst ex2q
        refine fk_iald hx hb hK hP 9 2 rfl rfl (i := 16 * ra + k) (by omega) (by decide) dX4_sizes_23 ?_
        refine lv_aload_n hx hb dX4_sizes_24 rfl (lv_at hl 0 rfl) ?_
        refine va_get (D := D) (ci := 5) (v := .ref (am 9)) (C := RX4) (T := TX4) (N := 14) hx hb hts k2 hown hK hP 0 rfl rfl 12 (by decide) k1 (fun _ h9 => h9) rfl dX4_sizes_25 ?_
        refine lv_bipush (v := 16) hx hb dX4_sizes_28 (by decide) ?_
        refine lv_iload_n hx hb dX4_sizes_30 rfl (lv_at hl 2 rfl) ?_
        refine lv_imul hx hb dX4_sizes_31 ?_
        refine lv_topi (fun x3 ex3 => ?_)
        have ex3q : x3 = nI (16 * rb) := by
          rw [ex3]; exact pk_mul 16 rb
        subst ex3q
        refine lv_iload hx hb dX4_sizes_32 (lv_at hl 4 rfl) ?_
        refine lv_iadd hx hb dX4_sizes_34 ?_
        refine lv_topi (fun x4 ex4 => ?_)
        have ex4q : x4 = nI (16 * rb + k) := by
          rw [ex4]; exact nI_add (16 * rb) k
        subst ex4q
        refine fk_iald hx hb hK hP 9 2 rfl rfl (i := 16 * rb + k) (by omega) (by decide) dX4_sizes_35 ?_
        refine lv_isub hx hb dX4_sizes_36 ?_
        refine lv_topi (fun x5 ex5 => ?_)
        have xa := gA.1 k hk16
        have xb := gB.1 k hk16
        rw [fk_M_def] at xa xb
        have hd : x5.toInt = fk_M pt ra k - fk_M pt rb k := by rw [ex5, fk_M, fk_M]; exact fi_sub (by omega) (by omega)
        refine lv_istore (lv' := [(5, .int x5), (0, .ref (am 0)), (1, .int (nI ra)), (2, .int (nI rb)), (3, .int cy), (4, .int (nI k))]) hx hb dX4_sizes_37 hl (by decide) rfl (fun ls hl => ?_)
        refine lv_iload hx hb dX4_sizes_39 (lv_at hl 0 rfl) ?_
        refine lv_if_ne (tgt := 48) hx hb dX4_sizes_41 (by decide) (fun c_41 => ?_) (fun c_41 => ?_)
        · have n1 : (0 < x5.toInt ↔ fk_T (fk_M pt rb) (k + 1) < fk_T (fk_M pt ra) (k + 1)) ∧ (x5.toInt < 0 ↔ fk_T (fk_M pt ra) (k + 1) < fk_T (fk_M pt rb) (k + 1)) := fk_cmp_step (fun i hi => gA.1 i (by omega)) (fun i hi => gB.1 i (by omega)) hc (Or.inr ⟨fun q => c_41 (Int32.toInt_inj.mp (by rw [hd, q]; decide)), hd⟩)
          refine lv_iload hx hb dX4_sizes_48 (lv_at hl 0 rfl) ?_
          refine lv_istore_n (lv' := [(3, .int x5), (5, .int x5), (0, .ref (am 0)), (1, .int (nI ra)), (2, .int (nI rb)), (4, .int (nI k))]) hx hb dX4_sizes_50 rfl hl (by decide) rfl (fun ls hl => ?_)
          refine lv_iinc (v := nI (k + 1)) (lv' := [(4, .int (nI (k + 1))), (3, .int x5), (5, .int x5), (0, .ref (am 0)), (1, .int (nI ra)), (2, .int (nI rb))]) hx hb dX4_sizes_51 hl (k := 5) rfl (by exact nI_1 k) (by decide) rfl (fun ls hl => ?_)
          refine lv_goto (tgt := 5) hx hb dX4_sizes_54 (by decide) ?_
          exact ih5 (k + 1) x5 (by omega) (by omega) n1 _ _ _ hP hD hS (lv_sub hl [3, 4, 5, 1, 0] rfl)
        · have n1 : (0 < cy.toInt ↔ fk_T (fk_M pt rb) (k + 1) < fk_T (fk_M pt ra) (k + 1)) ∧ (cy.toInt < 0 ↔ fk_T (fk_M pt ra) (k + 1) < fk_T (fk_M pt rb) (k + 1)) := fk_cmp_step (fun i hi => gA.1 i (by omega)) (fun i hi => gB.1 i (by omega)) hc (Or.inl ⟨by rw [← hd, c_41]; decide, rfl⟩)
          refine lv_iload_n hx hb dX4_sizes_44 rfl (lv_at hl 4 rfl) ?_
          refine lv_goto (tgt := 50) hx hb dX4_sizes_45 (by decide) ?_
          refine lv_istore_n (lv' := [(3, .int cy), (5, .int x5), (0, .ref (am 0)), (1, .int (nI ra)), (2, .int (nI rb)), (4, .int (nI k))]) hx hb dX4_sizes_50 rfl hl (by decide) rfl (fun ls hl => ?_)
          refine lv_iinc (v := nI (k + 1)) (lv' := [(4, .int (nI (k + 1))), (3, .int cy), (5, .int x5), (0, .ref (am 0)), (1, .int (nI ra)), (2, .int (nI rb))]) hx hb dX4_sizes_51 hl (k := 5) rfl (by exact nI_1 k) (by decide) rfl (fun ls hl => ?_)
          refine lv_goto (tgt := 5) hx hb dX4_sizes_54 (by decide) ?_
          exact ih5 (k + 1) cy (by omega) (by omega) n1 _ _ _ hP hD hS (lv_sub hl [3, 4, 5, 1, 0] rfl)
  exact L5 17 0 0 (by omega) (by omega) (by simp [fk_T]) _ _ _ hP hD hS (lv_sub hl [2, 3, 4, 1, 0] rfl)
abbrev rmX4_addSizes : Room := { frames := 0, cells := 0, slots := 0, locals := 0 }
set_option maxHeartbeats 4000000 in
set_option maxRecDepth 100000 in
/-- X4_addSizes -/
theorem kX4_addSizes {l : Launch} {D : va_G} {cJ cC cI cZ cK : ClassId} (sz : Nat) (am : Nat → Nat) (tl : va_W) (cd kn lo tn : Int32) (wd sg : Nat → Int32) (up dn of : Nat → Int64) (bey rnd tx pt sn : Nat → Int32) (p0 ra rb : Nat) (x y : Int) (hp : p0 < 24) (hra : ra < 24) (hrb : rb < 24) (gA : fk_rg x ra pt) (gB : fk_rg y rb pt) (hxy : x + y < 65536 ^ 16) : Met l yX4_addSizes wsX4_addSizes rmX4_addSizes (va_Pc [.ref (am 0), .int (nI p0), .int (nI ra), .int (nI rb)] (fk_pre D (fk_ty cJ cC cI cZ cK) (fk_wm cJ cI cZ am cd kn lo tn wd sg up dn of bey rnd tx pt sn ++ tl) sz)) (va_Qv (fun u : Nat → Int32 => fk_rg (x + y) p0 u ∧ fk_fp p0 pt u) (fk_Bd D (fk_ty cJ cC cI cZ cK) (va_A (fk_wm cJ cI cZ am cd kn lo tn wd sg up dn of bey rnd tx pt sn ++ tl) sz) (fun u : Nat → Int32 => fk_wm cJ cI cZ am cd kn lo tn wd sg up dn of bey rnd tx u sn ++ tl)) (va_A (fk_wm cJ cI cZ am cd kn lo tn wd sg up dn of bey rnd tx pt sn ++ tl) sz)) 0 0 (va_A (fk_wm cJ cI cZ am cd kn lo tn wd sg up dn of bey rnd tx pt sn ++ tl) sz) := by
  refine fk_ofW cX4_addSizes 6 none (fun A => va_Qv (fun u : Nat → Int32 => fk_rg (x + y) p0 u ∧ fk_fp p0 pt u) (fk_Bd D (fk_ty cJ cC cI cZ cK) A (fun u : Nat → Int32 => fk_wm cJ cI cZ am cd kn lo tn wd sg up dn of bey rnd tx u sn ++ tl)) A) rfl (by decide) (Nat.le_of_ble_eq_true rfl) ?_
  intro p e s m below meth c A ls args QQ hQQ hAt hP hK hN hD hA hS hl
  obtain ⟨⟨hx, hb, hml, hown, hts⟩, hr, hlocks, hin⟩ := hAt
  have hl : lv_has ls 6 [(0, .ref (am 0)), (1, .int (nI p0)), (2, .int (nI ra)), (3, .int (nI rb))] := hl
  have k1 := hts (.fieldLink RX4 36 "FixedKindsModel" "part" "[I") (by decide +kernel)
  have k2 := (by decide +kernel : ∀ w ∈ u_ws RX4 TX4 14, w ∈ wsX4_addSizes)
  have k3 := hts (.constant RX4 48 65535) (by decide +kernel)
  refine lv_iconst (v := 0) hx hb dX4_addSizes_0 (by decide) ?_
  refine lv_istore (lv' := [(4, .int 0), (0, .ref (am 0)), (1, .int (nI p0)), (2, .int (nI ra)), (3, .int (nI rb))]) hx hb dX4_addSizes_1 hl (by decide) rfl (fun ls hl => ?_)
  refine lv_iconst (v := 0) hx hb dX4_addSizes_3 (by decide) ?_
  refine lv_istore (lv' := [(5, .int 0), (4, .int 0), (0, .ref (am 0)), (1, .int (nI p0)), (2, .int (nI ra)), (3, .int (nI rb))]) hx hb dX4_addSizes_4 hl (by decide) rfl (fun ls hl => ?_)
  have L6 : ∀ (fu6 : Nat) (k : Nat) (pv : Nat → Int32) (cy : Int32), 16 - k < fu6 → (k ≤ 16) → (fk_D (fun j => fk_M pt ra j + fk_M pt rb j) k p0 pv cy.toInt) → (∀ i, (i < 16 * p0 ∨ 16 * p0 + k ≤ i) → pv i = pt i) → (-1 ≤ cy.toInt ∧ cy.toInt ≤ 1) → (fk_fp p0 pt pv) → ∀ (H : Heap) (locs : List Loc) (ls : Array Slot), va_P D vwCl (fk_wm cJ cI cZ am cd kn lo tn wd sg up dn of bey rnd tx pv sn ++ tl) H → va_D A (fk_wm cJ cI cZ am cd kn lo tn wd sg up dn of bey rnd tx pv sn ++ tl) → va_S A s.heap H locs → lv_has ls 6 [(0, .ref (am 0)), (1, .int (nI p0)), (2, .int (nI ra)), (3, .int (nI rb)), (4, .int cy), (5, .int (nI k))] → W p l e rmX4_addSizes s m args below meth c H locs 0 0 QQ (F0 m 6 ls []) := by
    intro fu6
    induction fu6 with
    | zero => intro k pv cy hfu; exact absurd hfu (Nat.not_lt_zero _)
    | succ fu6 ih6 =>
      intro k pv cy hfu6 hk hc hg hy hfr H locs ls hP hD hS hl
      refine lv_iload hx hb dX4_addSizes_6 (lv_at hl 5 rfl) ?_
      refine lv_bipush (v := 16) hx hb dX4_addSizes_8 (by decide) ?_
      refine lv_icmp_ge (tgt := 73) hx hb dX4_addSizes_10 (by decide) (fun c_10 => ?_) (fun c_10 => ?_)
      · have hk16 : k = 16 := by have q := (nI_leI (a := 16) (b := k) (by omega) (by omega)).mp c_10; omega
        subst hk16
        rw [hQQ]
        exact W.vret hx hb hr (fun t ht hW => ⟨⟨pv, rfl, ⟨fk_D_end hc (by rw [fk_T_add, gA.2, gB.2]) (by have := (fk_rg_bd gA).1; have := (fk_rg_bd gB).1; omega) (by exact hxy), hfr⟩, by rw [ht]; exact hP, va_K.moved hW.alike hK, hD⟩, hS.F ht⟩) hS.2.2 dX4_addSizes_73
      · have hk16 : k < 16 := by rcases Nat.lt_or_ge k 16 with q | q; exact q; exact absurd ((nI_leI (a := 16) (b := k) (by omega) (by omega)).mpr q) c_10
        refine lv_iload hx hb dX4_addSizes_13 (lv_at hl 4 rfl) ?_
        refine lv_aload_n hx hb dX4_addSizes_15 rfl (lv_at hl 0 rfl) ?_
        refine va_get (D := D) (ci := 5) (v := .ref (am 9)) (C := RX4) (T := TX4) (N := 14) hx hb hts k2 hown hK hP 0 rfl rfl 12 (by decide) k1 (fun _ h9 => h9) rfl dX4_addSizes_16 ?_
        refine lv_bipush (v := 16) hx hb dX4_addSizes_19 (by decide) ?_
        refine lv_iload_n hx hb dX4_addSizes_21 rfl (lv_at hl 2 rfl) ?_
        refine lv_imul hx hb dX4_addSizes_22 ?_
        refine lv_topi (fun x1 ex1 => ?_)
        have ex1q : x1 = nI (16 * ra) := by
          rw [ex1]; exact pk_mul 16 ra
        subst ex1q
        refine lv_iload hx hb dX4_addSizes_23 (lv_at hl 5 rfl) ?_
        refine lv_iadd hx hb dX4_addSizes_25 ?_
        refine lv_topi (fun x2 ex2 => ?_)
        have ex2q : x2 = nI (16 * ra + k) := by
          rw [ex2]; exact nI_add (16 * ra) k
        subst ex2q
        refine fk_iald hx hb hK hP 9 2 rfl rfl (i := 16 * ra + k) (by omega) (by decide) dX4_addSizes_26 ?_
        refine lv_iadd hx hb dX4_addSizes_27 ?_
        refine lv_topi (fun x3 ex3 => ?_)
        refine lv_aload_n hx hb dX4_addSizes_28 rfl (lv_at hl 0 rfl) ?_
        refine va_get (D := D) (ci := 5) (v := .ref (am 9)) (C := RX4) (T := TX4) (N := 14) hx hb hts k2 hown hK hP 0 rfl rfl 12 (by decide) k1 (fun _ h9 => h9) rfl dX4_addSizes_29 ?_
        refine lv_bipush (v := 16) hx hb dX4_addSizes_32 (by decide) ?_
        refine lv_iload_n hx hb dX4_addSizes_34 rfl (lv_at hl 3 rfl) ?_
        refine lv_imul hx hb dX4_addSizes_35 ?_
        refine lv_topi (fun x4 ex4 => ?_)
        have ex4q : x4 = nI (16 * rb) := by
          rw [ex4]; exact pk_mul 16 rb
        subst ex4q
        refine lv_iload hx hb dX4_addSizes_36 (lv_at hl 5 rfl) ?_
        refine lv_iadd hx hb dX4_addSizes_38 ?_
        refine lv_topi (fun x5 ex5 => ?_)
        have ex5q : x5 = nI (16 * rb + k) := by
          rw [ex5]; exact nI_add (16 * rb) k
        subst ex5q
        refine fk_iald hx hb hK hP 9 2 rfl rfl (i := 16 * rb + k) (by omega) (by decide) dX4_addSizes_39 ?_
        refine lv_iadd hx hb dX4_addSizes_40 ?_
        refine lv_topi (fun x6 ex6 => ?_)
        have xa := gA.1 k hk16
        have xb := gB.1 k hk16
        rw [fk_M_def] at xa xb
        have a1 : x3.toInt = cy.toInt + (pt (16 * ra + k)).toInt := by rw [ex3, hg _ (by omega)]; exact fi_add (by omega) (by omega)
        have a2 : x6.toInt = cy.toInt + (fk_M pt ra k + fk_M pt rb k) := by rw [ex6, hg _ (by omega), fi_add (by omega) (by omega), a1, fk_M, fk_M]; omega
        refine lv_istore (lv' := [(4, .int x6), (0, .ref (am 0)), (1, .int (nI p0)), (2, .int (nI ra)), (3, .int (nI rb)), (5, .int (nI k))]) hx hb dX4_addSizes_41 hl (by decide) rfl (fun ls hl => ?_)
        refine lv_aload_n hx hb dX4_addSizes_43 rfl (lv_at hl 1 rfl) ?_
        refine va_get (D := D) (ci := 5) (v := .ref (am 9)) (C := RX4) (T := TX4) (N := 14) hx hb hts k2 hown hK hP 0 rfl rfl 12 (by decide) k1 (fun _ h9 => h9) rfl dX4_addSizes_44 ?_
        refine lv_bipush (v := 16) hx hb dX4_addSizes_47 (by decide) ?_
        refine lv_iload_n hx hb dX4_addSizes_49 rfl (lv_at hl 2 rfl) ?_
        refine lv_imul hx hb dX4_addSizes_50 ?_
        refine lv_topi (fun x7 ex7 => ?_)
        have ex7q : x7 = nI (16 * p0) := by
          rw [ex7]; exact pk_mul 16 p0
        subst ex7q
        refine lv_iload hx hb dX4_addSizes_51 (lv_at hl 5 rfl) ?_
        refine lv_iadd hx hb dX4_addSizes_53 ?_
        refine lv_topi (fun x8 ex8 => ?_)
        have ex8q : x8 = nI (16 * p0 + k) := by
          rw [ex8]; exact nI_add (16 * p0) k
        subst ex8q
        refine lv_iload hx hb dX4_addSizes_54 (lv_at hl 0 rfl) ?_
        refine lv_ldc (v := 65535) hx hb hown k3 dX4_addSizes_56 ?_
        refine lv_iand hx hb dX4_addSizes_58 ?_
        refine lv_topi (fun x9 ex9 => ?_)
        refine fk_iast hx hb hK hP hD hS 9 2 rfl rfl (i := 16 * p0 + k) (by omega) (by decide) dX4_addSizes_59 (fun H locs hP hD hS => ?_)
        have hP : va_P D vwCl (fk_wm cJ cI cZ am cd kn lo tn wd sg up dn of bey rnd tx (upd pv (16 * p0 + k) x9) sn ++ tl) H := hP
        have hD : va_D A (fk_wm cJ cI cZ am cd kn lo tn wd sg up dn of bey rnd tx (upd pv (16 * p0 + k) x9) sn ++ tl) := hD
        refine lv_iload hx hb dX4_addSizes_60 (lv_at hl 0 rfl) ?_
        refine lv_bipush (v := 16) hx hb dX4_addSizes_62 (by decide) ?_
        refine lv_ishr hx hb dX4_addSizes_64 ?_
        refine lv_topi (fun x10 ex10 => ?_)
        refine lv_istore (lv' := [(4, .int x10), (0, .ref (am 0)), (1, .int (nI p0)), (2, .int (nI ra)), (3, .int (nI rb)), (5, .int (nI k))]) hx hb dX4_addSizes_65 hl (by decide) rfl (fun ls hl => ?_)
        have a3 := fk_D_stp (t := fun j => fk_M pt ra j + fk_M pt rb j) hc a2 ex9 ex10
        have a4 : ∀ i, (i < 16 * p0 ∨ 16 * p0 + (k + 1) ≤ i) → upd pv (16 * p0 + k) x9 i = pt i := fun i hi => by rw [pk_un (by omega)]; exact hg i (by omega)
        have a5 : -1 ≤ x10.toInt ∧ x10.toInt ≤ 1 := by rw [ex10, fi_s16, a2, fk_M, fk_M]; omega
        have a6 := fk_fp_t hfr (fk_fp_u (p := p0) (pt := pv) (y := x9) hk16)
        refine lv_iinc (v := nI (k + 1)) (lv' := [(5, .int (nI (k + 1))), (4, .int x10), (0, .ref (am 0)), (1, .int (nI p0)), (2, .int (nI ra)), (3, .int (nI rb))]) hx hb dX4_addSizes_67 hl (k := 5) rfl (by exact nI_1 k) (by decide) rfl (fun ls hl => ?_)
        refine lv_goto (tgt := 6) hx hb dX4_addSizes_70 (by decide) ?_
        exact ih6 (k + 1) (upd pv (16 * p0 + k) x9) x10 (by omega) (by omega) a3 a4 a5 a6 _ _ _ hP hD hS (lv_sub hl [2, 3, 4, 5, 1, 0] rfl)
  exact L6 17 0 pt 0 (by omega) (by omega) (fk_D_0 _ _ _) (fun _ _ => rfl) (by decide) (fk_fp_0 _ _) _ _ _ hP hD hS (lv_sub hl [2, 3, 4, 5, 1, 0] rfl)
abbrev rmX4_lessSizes : Room := { frames := 0, cells := 0, slots := 0, locals := 0 }
set_option maxHeartbeats 4000000 in
set_option maxRecDepth 100000 in
/-- X4_lessSizes -/
theorem kX4_lessSizes {l : Launch} {D : va_G} {cJ cC cI cZ cK : ClassId} (sz : Nat) (am : Nat → Nat) (tl : va_W) (cd kn lo tn : Int32) (wd sg : Nat → Int32) (up dn of : Nat → Int64) (bey rnd tx pt sn : Nat → Int32) (p0 ra rb : Nat) (x y : Int) (hp : p0 < 24) (hra : ra < 24) (hrb : rb < 24) (gA : fk_rg x ra pt) (gB : fk_rg y rb pt) (hxy : y ≤ x) : Met l yX4_lessSizes wsX4_lessSizes rmX4_lessSizes (va_Pc [.ref (am 0), .int (nI p0), .int (nI ra), .int (nI rb)] (fk_pre D (fk_ty cJ cC cI cZ cK) (fk_wm cJ cI cZ am cd kn lo tn wd sg up dn of bey rnd tx pt sn ++ tl) sz)) (va_Qv (fun u : Nat → Int32 => fk_rg (x - y) p0 u ∧ fk_fp p0 pt u) (fk_Bd D (fk_ty cJ cC cI cZ cK) (va_A (fk_wm cJ cI cZ am cd kn lo tn wd sg up dn of bey rnd tx pt sn ++ tl) sz) (fun u : Nat → Int32 => fk_wm cJ cI cZ am cd kn lo tn wd sg up dn of bey rnd tx u sn ++ tl)) (va_A (fk_wm cJ cI cZ am cd kn lo tn wd sg up dn of bey rnd tx pt sn ++ tl) sz)) 0 0 (va_A (fk_wm cJ cI cZ am cd kn lo tn wd sg up dn of bey rnd tx pt sn ++ tl) sz) := by
  refine fk_ofW cX4_lessSizes 6 none (fun A => va_Qv (fun u : Nat → Int32 => fk_rg (x - y) p0 u ∧ fk_fp p0 pt u) (fk_Bd D (fk_ty cJ cC cI cZ cK) A (fun u : Nat → Int32 => fk_wm cJ cI cZ am cd kn lo tn wd sg up dn of bey rnd tx u sn ++ tl)) A) rfl (by decide) (Nat.le_of_ble_eq_true rfl) ?_
  intro p e s m below meth c A ls args QQ hQQ hAt hP hK hN hD hA hS hl
  obtain ⟨⟨hx, hb, hml, hown, hts⟩, hr, hlocks, hin⟩ := hAt
  have hl : lv_has ls 6 [(0, .ref (am 0)), (1, .int (nI p0)), (2, .int (nI ra)), (3, .int (nI rb))] := hl
  have k1 := hts (.fieldLink RX4 36 "FixedKindsModel" "part" "[I") (by decide +kernel)
  have k2 := (by decide +kernel : ∀ w ∈ u_ws RX4 TX4 14, w ∈ wsX4_lessSizes)
  have k3 := hts (.constant RX4 48 65535) (by decide +kernel)
  refine lv_iconst (v := 0) hx hb dX4_lessSizes_0 (by decide) ?_
  refine lv_istore (lv' := [(4, .int 0), (0, .ref (am 0)), (1, .int (nI p0)), (2, .int (nI ra)), (3, .int (nI rb))]) hx hb dX4_lessSizes_1 hl (by decide) rfl (fun ls hl => ?_)
  refine lv_iconst (v := 0) hx hb dX4_lessSizes_3 (by decide) ?_
  refine lv_istore (lv' := [(5, .int 0), (4, .int 0), (0, .ref (am 0)), (1, .int (nI p0)), (2, .int (nI ra)), (3, .int (nI rb))]) hx hb dX4_lessSizes_4 hl (by decide) rfl (fun ls hl => ?_)
  have L6 : ∀ (fu6 : Nat) (k : Nat) (pv : Nat → Int32) (cy : Int32), 16 - k < fu6 → (k ≤ 16) → (fk_D (fun j => fk_M pt ra j - fk_M pt rb j) k p0 pv cy.toInt) → (∀ i, (i < 16 * p0 ∨ 16 * p0 + k ≤ i) → pv i = pt i) → (-1 ≤ cy.toInt ∧ cy.toInt ≤ 1) → (fk_fp p0 pt pv) → ∀ (H : Heap) (locs : List Loc) (ls : Array Slot), va_P D vwCl (fk_wm cJ cI cZ am cd kn lo tn wd sg up dn of bey rnd tx pv sn ++ tl) H → va_D A (fk_wm cJ cI cZ am cd kn lo tn wd sg up dn of bey rnd tx pv sn ++ tl) → va_S A s.heap H locs → lv_has ls 6 [(0, .ref (am 0)), (1, .int (nI p0)), (2, .int (nI ra)), (3, .int (nI rb)), (4, .int cy), (5, .int (nI k))] → W p l e rmX4_lessSizes s m args below meth c H locs 0 0 QQ (F0 m 6 ls []) := by
    intro fu6
    induction fu6 with
    | zero => intro k pv cy hfu; exact absurd hfu (Nat.not_lt_zero _)
    | succ fu6 ih6 =>
      intro k pv cy hfu6 hk hc hg hy hfr H locs ls hP hD hS hl
      refine lv_iload hx hb dX4_lessSizes_6 (lv_at hl 5 rfl) ?_
      refine lv_bipush (v := 16) hx hb dX4_lessSizes_8 (by decide) ?_
      refine lv_icmp_ge (tgt := 73) hx hb dX4_lessSizes_10 (by decide) (fun c_10 => ?_) (fun c_10 => ?_)
      · have hk16 : k = 16 := by have q := (nI_leI (a := 16) (b := k) (by omega) (by omega)).mp c_10; omega
        subst hk16
        rw [hQQ]
        exact W.vret hx hb hr (fun t ht hW => ⟨⟨pv, rfl, ⟨fk_D_end hc (by rw [fk_T_sub, gA.2, gB.2]) (by omega) (by have := (fk_rg_bd gA).2; have := (fk_rg_bd gB).1; omega), hfr⟩, by rw [ht]; exact hP, va_K.moved hW.alike hK, hD⟩, hS.F ht⟩) hS.2.2 dX4_lessSizes_73
      · have hk16 : k < 16 := by rcases Nat.lt_or_ge k 16 with q | q; exact q; exact absurd ((nI_leI (a := 16) (b := k) (by omega) (by omega)).mpr q) c_10
        refine lv_iload hx hb dX4_lessSizes_13 (lv_at hl 4 rfl) ?_
        refine lv_aload_n hx hb dX4_lessSizes_15 rfl (lv_at hl 0 rfl) ?_
        refine va_get (D := D) (ci := 5) (v := .ref (am 9)) (C := RX4) (T := TX4) (N := 14) hx hb hts k2 hown hK hP 0 rfl rfl 12 (by decide) k1 (fun _ h9 => h9) rfl dX4_lessSizes_16 ?_
        refine lv_bipush (v := 16) hx hb dX4_lessSizes_19 (by decide) ?_
        refine lv_iload_n hx hb dX4_lessSizes_21 rfl (lv_at hl 2 rfl) ?_
        refine lv_imul hx hb dX4_lessSizes_22 ?_
        refine lv_topi (fun x1 ex1 => ?_)
        have ex1q : x1 = nI (16 * ra) := by
          rw [ex1]; exact pk_mul 16 ra
        subst ex1q
        refine lv_iload hx hb dX4_lessSizes_23 (lv_at hl 5 rfl) ?_
        refine lv_iadd hx hb dX4_lessSizes_25 ?_
        refine lv_topi (fun x2 ex2 => ?_)
        have ex2q : x2 = nI (16 * ra + k) := by
          rw [ex2]; exact nI_add (16 * ra) k
        subst ex2q
        refine fk_iald hx hb hK hP 9 2 rfl rfl (i := 16 * ra + k) (by omega) (by decide) dX4_lessSizes_26 ?_
        refine lv_iadd hx hb dX4_lessSizes_27 ?_
        refine lv_topi (fun x3 ex3 => ?_)
        refine lv_aload_n hx hb dX4_lessSizes_28 rfl (lv_at hl 0 rfl) ?_
        refine va_get (D := D) (ci := 5) (v := .ref (am 9)) (C := RX4) (T := TX4) (N := 14) hx hb hts k2 hown hK hP 0 rfl rfl 12 (by decide) k1 (fun _ h9 => h9) rfl dX4_lessSizes_29 ?_
        refine lv_bipush (v := 16) hx hb dX4_lessSizes_32 (by decide) ?_
        refine lv_iload_n hx hb dX4_lessSizes_34 rfl (lv_at hl 3 rfl) ?_
        refine lv_imul hx hb dX4_lessSizes_35 ?_
        refine lv_topi (fun x4 ex4 => ?_)
        have ex4q : x4 = nI (16 * rb) := by
          rw [ex4]; exact pk_mul 16 rb
        subst ex4q
        refine lv_iload hx hb dX4_lessSizes_36 (lv_at hl 5 rfl) ?_
        refine lv_iadd hx hb dX4_lessSizes_38 ?_
        refine lv_topi (fun x5 ex5 => ?_)
        have ex5q : x5 = nI (16 * rb + k) := by
          rw [ex5]; exact nI_add (16 * rb) k
        subst ex5q
        refine fk_iald hx hb hK hP 9 2 rfl rfl (i := 16 * rb + k) (by omega) (by decide) dX4_lessSizes_39 ?_
        refine lv_isub hx hb dX4_lessSizes_40 ?_
        refine lv_topi (fun x6 ex6 => ?_)
        have xa := gA.1 k hk16
        have xb := gB.1 k hk16
        rw [fk_M_def] at xa xb
        have a1 : x3.toInt = cy.toInt + (pt (16 * ra + k)).toInt := by rw [ex3, hg _ (by omega)]; exact fi_add (by omega) (by omega)
        have a2 : x6.toInt = cy.toInt + (fk_M pt ra k - fk_M pt rb k) := by rw [ex6, hg _ (by omega), fi_sub (by omega) (by omega), a1, fk_M, fk_M]; omega
        refine lv_istore (lv' := [(4, .int x6), (0, .ref (am 0)), (1, .int (nI p0)), (2, .int (nI ra)), (3, .int (nI rb)), (5, .int (nI k))]) hx hb dX4_lessSizes_41 hl (by decide) rfl (fun ls hl => ?_)
        refine lv_aload_n hx hb dX4_lessSizes_43 rfl (lv_at hl 1 rfl) ?_
        refine va_get (D := D) (ci := 5) (v := .ref (am 9)) (C := RX4) (T := TX4) (N := 14) hx hb hts k2 hown hK hP 0 rfl rfl 12 (by decide) k1 (fun _ h9 => h9) rfl dX4_lessSizes_44 ?_
        refine lv_bipush (v := 16) hx hb dX4_lessSizes_47 (by decide) ?_
        refine lv_iload_n hx hb dX4_lessSizes_49 rfl (lv_at hl 2 rfl) ?_
        refine lv_imul hx hb dX4_lessSizes_50 ?_
        refine lv_topi (fun x7 ex7 => ?_)
        have ex7q : x7 = nI (16 * p0) := by
          rw [ex7]; exact pk_mul 16 p0
        subst ex7q
        refine lv_iload hx hb dX4_lessSizes_51 (lv_at hl 5 rfl) ?_
        refine lv_iadd hx hb dX4_lessSizes_53 ?_
        refine lv_topi (fun x8 ex8 => ?_)
        have ex8q : x8 = nI (16 * p0 + k) := by
          rw [ex8]; exact nI_add (16 * p0) k
        subst ex8q
        refine lv_iload hx hb dX4_lessSizes_54 (lv_at hl 0 rfl) ?_
        refine lv_ldc (v := 65535) hx hb hown k3 dX4_lessSizes_56 ?_
        refine lv_iand hx hb dX4_lessSizes_58 ?_
        refine lv_topi (fun x9 ex9 => ?_)
        refine fk_iast hx hb hK hP hD hS 9 2 rfl rfl (i := 16 * p0 + k) (by omega) (by decide) dX4_lessSizes_59 (fun H locs hP hD hS => ?_)
        have hP : va_P D vwCl (fk_wm cJ cI cZ am cd kn lo tn wd sg up dn of bey rnd tx (upd pv (16 * p0 + k) x9) sn ++ tl) H := hP
        have hD : va_D A (fk_wm cJ cI cZ am cd kn lo tn wd sg up dn of bey rnd tx (upd pv (16 * p0 + k) x9) sn ++ tl) := hD
        refine lv_iload hx hb dX4_lessSizes_60 (lv_at hl 0 rfl) ?_
        refine lv_bipush (v := 16) hx hb dX4_lessSizes_62 (by decide) ?_
        refine lv_ishr hx hb dX4_lessSizes_64 ?_
        refine lv_topi (fun x10 ex10 => ?_)
        refine lv_istore (lv' := [(4, .int x10), (0, .ref (am 0)), (1, .int (nI p0)), (2, .int (nI ra)), (3, .int (nI rb)), (5, .int (nI k))]) hx hb dX4_lessSizes_65 hl (by decide) rfl (fun ls hl => ?_)
        have a3 := fk_D_stp (t := fun j => fk_M pt ra j - fk_M pt rb j) hc a2 ex9 ex10
        have a4 : ∀ i, (i < 16 * p0 ∨ 16 * p0 + (k + 1) ≤ i) → upd pv (16 * p0 + k) x9 i = pt i := fun i hi => by rw [pk_un (by omega)]; exact hg i (by omega)
        have a5 : -1 ≤ x10.toInt ∧ x10.toInt ≤ 1 := by rw [ex10, fi_s16, a2, fk_M, fk_M]; omega
        have a6 := fk_fp_t hfr (fk_fp_u (p := p0) (pt := pv) (y := x9) hk16)
        refine lv_iinc (v := nI (k + 1)) (lv' := [(5, .int (nI (k + 1))), (4, .int x10), (0, .ref (am 0)), (1, .int (nI p0)), (2, .int (nI ra)), (3, .int (nI rb))]) hx hb dX4_lessSizes_67 hl (k := 5) rfl (by exact nI_1 k) (by decide) rfl (fun ls hl => ?_)
        refine lv_goto (tgt := 6) hx hb dX4_lessSizes_70 (by decide) ?_
        exact ih6 (k + 1) (upd pv (16 * p0 + k) x9) x10 (by omega) (by omega) a3 a4 a5 a6 _ _ _ hP hD hS (lv_sub hl [2, 3, 4, 5, 1, 0] rfl)
  exact L6 17 0 pt 0 (by omega) (by omega) (fk_D_0 _ _ _) (fun _ _ => rfl) (by decide) (fk_fp_0 _ _) _ _ _ hP hD hS (lv_sub hl [2, 3, 4, 5, 1, 0] rfl)
