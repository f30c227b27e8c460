/-! Reference: apply, by program -/
theorem fk_cmp_le (a : Int) : (fk_cmp a).toInt ≤ 0 ↔ ¬ 0 < a := by
  rw [← fk_cmp_gt]; omega
theorem fk_sgG (x : Int) {z : Int} (hz : z ≠ 0) : fk_abs (x * fk_sg z) = fk_abs x ∧ fk_cmp (x * fk_sg z) = fk_cmp x * fk_cmp z := by
  rcases fk_cmp_cases z with ⟨a, b⟩ | ⟨a, b⟩ | ⟨a, b⟩
  · exact absurd a hz
  · rw [fk_sg, if_pos a, b]
    refine ⟨fk_abs_s (Or.inr rfl) x, ?_⟩
    have q := fk_cmp_s (s := -1) (Or.inr rfl) x
    rw [show (-1 : Int32).toInt = -1 by decide] at q
    rw [← q, Int32.mul_comm]
  · rw [fk_sg, if_neg (by omega), b]
    refine ⟨fk_abs_s (Or.inl rfl) x, ?_⟩
    have q := fk_cmp_s (s := 1) (Or.inl rfl) x
    rw [show (1 : Int32).toInt = 1 by decide] at q
    rw [← q, Int32.mul_comm]
theorem fk_sgP {z : Int} (hz : z ≠ 0) : fk_abs (z * fk_sg z) = fk_abs z ∧ fk_cmp (z * fk_sg z) = 1 := by
  obtain ⟨a, b⟩ := fk_sgG z hz
  refine ⟨a, b.trans ?_⟩
  rcases fk_cmp_cases z with ⟨x, y⟩ | ⟨x, y⟩ | ⟨x, y⟩
  · exact absurd x hz
  · rw [y]; decide
  · rw [y]; decide
abbrev rmX4_apply : Room := { frames := 5, cells := 0, slots := 0, locals := 119 }
set_option maxHeartbeats 4000000 in
set_option maxRecDepth 100000 in
/-- apply -/
theorem kX4_apply {l : Launch} {D : va_G} {cJ cC cI cZ cK : ClassId} (sz : Nat) (am : Nat → Nat) (tl : va_W) (cd lo tn : Int32) (wd sg : Nat → Int32) (up dn of : Nat → Int64) (bey rnd tx pt sn : Nat → Int32) (n : Nat) (kf : Nat → fk_K) (op num num2 : Int32) (x y : Int64) (hMT : fk_MT n kf wd sg up dn of bey rnd) : Met l yX4_apply wsX4_apply rmX4_apply (va_Pc [.ref (am 0), .int op, .int num, .long x, .int num2, .long y] (fk_pre D (fk_ty cJ cC cI cZ cK) (fk_wm cJ cI cZ am cd (nI n) lo tn wd sg up dn of bey rnd tx pt sn ++ tl) sz)) (va_Ql (fun (r : Int64) (u : Int32 × Int32 × (Nat → Int32) × (Nat → Int32)) => (fk_thr n kf op num num2 y ∧ u.1 = 1 ∧ u.2.1 = lo) ∨ (¬ fk_thr n kf op num num2 y ∧ u.1 = 0 ∧ r.toInt = fk_sApp n kf op num x num2 y ∧ u.2.1 = fk_lApp n kf lo op num x num2 y)) (fk_Bd D (fk_ty cJ cC cI cZ cK) (va_A (fk_wm cJ cI cZ am cd (nI n) lo tn wd sg up dn of bey rnd tx pt sn ++ tl) sz) (fun u : Int32 × Int32 × (Nat → Int32) × (Nat → Int32) => fk_wm cJ cI cZ am u.1 (nI n) u.2.1 tn wd sg up dn of bey rnd tx u.2.2.1 u.2.2.2 ++ tl)) (va_A (fk_wm cJ cI cZ am cd (nI n) lo tn wd sg up dn of bey rnd tx pt sn ++ tl) sz)) 0 0 (va_A (fk_wm cJ cI cZ am cd (nI n) lo tn wd sg up dn of bey rnd tx pt sn ++ tl) sz) := by
  refine fk_ofW cX4_apply 10 (some .long) (fun A => va_Ql (fun (r : Int64) (u : Int32 × Int32 × (Nat → Int32) × (Nat → Int32)) => (fk_thr n kf op num num2 y ∧ u.1 = 1 ∧ u.2.1 = lo) ∨ (¬ fk_thr n kf op num num2 y ∧ u.1 = 0 ∧ r.toInt = fk_sApp n kf op num x num2 y ∧ u.2.1 = fk_lApp n kf lo op num x num2 y)) (fk_Bd D (fk_ty cJ cC cI cZ cK) A (fun u : Int32 × Int32 × (Nat → Int32) × (Nat → Int32) => fk_wm cJ cI cZ am u.1 (nI n) u.2.1 tn wd sg up dn of bey rnd tx u.2.2.1 u.2.2.2 ++ tl)) A) rfl (by decide) (Nat.le_of_ble_eq_true rfl) ?_
  intro p e s m below meth c A ls args QQ hQQ hAt hP hK hN hD hA hS hl
  obtain ⟨⟨hx, hb, hml, hown, hts⟩, hr, hlocks, hin⟩ := hAt
  have hl : lv_has ls 10 [(0, .ref (am 0)), (1, .int op), (2, .int num), (3, .long x), (5, .int num2), (6, .long y)] := hl
  have k1 := hts (.fieldLink RX4 39 "FixedKindsModel" "sign" "[I") (by decide +kernel)
  have k2 := (by decide +kernel : ∀ w ∈ u_ws RX4 TX4 14, w ∈ wsX4_apply)
  have k3 := hts (.fieldLink RX4 27 "FixedKindsModel" "beyond" "[I") (by decide +kernel)
  have k4 := hts (.fieldLink RX4 42 "FixedKindsModel" "code" "I") (by decide +kernel)
  have k5 := hts (.fieldLink RX4 113 "FixedKindsModel" "lost" "Z") (by decide +kernel)
  have hn40 := hMT.1
  refine lv_aload_n hx hb dX4_apply_0 rfl (lv_at hl 0 rfl) ?_
  refine lv_iload_n hx hb dX4_apply_1 rfl (lv_at hl 2 rfl) ?_
  refine fk_ci hD hS hA (va_runV (As := [.int num]) (rest := []) ⟨hx, hb, hml, hown, hts⟩ (kX4_none _ am tl cd lo tn wd sg up dn of bey rnd tx pt sn n num hn40) (cwV 1 hts gX4_apply_X4_none rfl rfl rfl (by decide +kernel) ⟨Nat.le_of_ble_eq_true rfl, Nat.le_of_ble_eq_true rfl⟩) (fk_preV 0 5 hK hN hP hD rfl rfl) rfl rfl hl.1 rfl (lv_room (Nat.le_of_ble_eq_true rfl)) dX4_apply_2 ⟨Nat.le_of_ble_eq_true rfl, Nat.le_of_ble_eq_true rfl⟩) (fun r1 u H locs hw hP hD hS => ?_)
  have hP : va_P D vwCl (fk_wm cJ cI cZ am 0 (nI n) lo tn wd sg up dn of bey rnd tx pt sn ++ tl) H := hP
  have hD : va_D A (fk_wm cJ cI cZ am 0 (nI n) lo tn wd sg up dn of bey rnd tx pt sn ++ tl) := hD
  have zn_i := hw
  refine lv_if_ne (tgt := 26) hx hb dX4_apply_5 (by decide) (fun c_5 => ?_) (fun c_5 => ?_)
  · have hno_i : fk_no n num := by by_cases q : (num.toInt < 1 ∨ (n : Int) < num.toInt); exact q; rw [zn_i, if_neg q] at c_5; exact absurd rfl c_5
    refine lv_lconst (v := 0) hx hb dX4_apply_26 (by decide) ?_
    rw [hQQ]
    exact W.lret (v := 0) hx hb hr (fun t ht hW => ⟨⟨0, (0, lo, pt, sn), rfl, Or.inr ⟨fun q => q.1 (Or.inl hno_i), rfl, (by rw [fk_sApp, if_pos (show fk_nap n op _ _ from Or.inl hno_i)]; decide), (by rw [fk_lApp, if_pos (show fk_nap n op _ _ from Or.inl hno_i)])⟩, by rw [ht]; exact hP, va_K.moved hW.alike hK, hD⟩, hS.F ht⟩) hS.2.2 dX4_apply_27
  · have hyes_i : ¬ (num.toInt < 1 ∨ (n : Int) < num.toInt) := by intro q; rw [zn_i, if_pos q] at c_5; exact absurd c_5 (by decide)
    obtain ⟨i, hi, hn_i⟩ : ∃ j : Nat, j < n ∧ num = nI (j + 1) := ⟨num.toInt.toNat - 1, by omega, by apply Int32.toInt_inj.mp; rw [nI_toInt (by omega)]; omega⟩
    subst hn_i
    obtain ⟨e1_i, e2_i, e3_i, e4_i, e5_i, e6_i, e7_i, ok_i⟩ := hMT.2.1 i hi
    have okw_i := ok_i.1.1
    refine lv_aload_n hx hb dX4_apply_8 rfl (lv_at hl 0 rfl) ?_
    refine lv_iload hx hb dX4_apply_9 (lv_at hl 4 rfl) ?_
    refine fk_ci hD hS hA (va_runV (As := [.int num2]) (rest := []) ⟨hx, hb, hml, hown, hts⟩ (kX4_none _ am tl 0 lo tn wd sg up dn of bey rnd tx pt sn n num2 hn40) (cwV 1 hts gX4_apply_X4_none rfl rfl rfl (by decide +kernel) ⟨Nat.le_of_ble_eq_true rfl, Nat.le_of_ble_eq_true rfl⟩) (fk_preV 0 5 hK hN hP hD rfl rfl) rfl rfl hl.1 rfl (lv_room (Nat.le_of_ble_eq_true rfl)) dX4_apply_11 ⟨Nat.le_of_ble_eq_true rfl, Nat.le_of_ble_eq_true rfl⟩) (fun r2 u H locs hw hP hD hS => ?_)
    have hP : va_P D vwCl (fk_wm cJ cI cZ am 0 (nI n) lo tn wd sg up dn of bey rnd tx pt sn ++ tl) H := hP
    have hD : va_D A (fk_wm cJ cI cZ am 0 (nI n) lo tn wd sg up dn of bey rnd tx pt sn ++ tl) := hD
    have zn_j := hw
    refine lv_if_ne (tgt := 26) hx hb dX4_apply_14 (by decide) (fun c_14 => ?_) (fun c_14 => ?_)
    · have hno_j : fk_no n num2 := by by_cases q : (num2.toInt < 1 ∨ (n : Int) < num2.toInt); exact q; rw [zn_j, if_neg q] at c_14; exact absurd rfl c_14
      refine lv_lconst (v := 0) hx hb dX4_apply_26 (by decide) ?_
      rw [hQQ]
      exact W.lret (v := 0) hx hb hr (fun t ht hW => ⟨⟨0, (0, lo, pt, sn), rfl, Or.inr ⟨fun q => q.1 (Or.inr (Or.inl hno_j)), rfl, (by rw [fk_sApp, if_pos (show fk_nap n op _ _ from Or.inr (Or.inl hno_j))]; decide), (by rw [fk_lApp, if_pos (show fk_nap n op _ _ from Or.inr (Or.inl hno_j))])⟩, by rw [ht]; exact hP, va_K.moved hW.alike hK, hD⟩, hS.F ht⟩) hS.2.2 dX4_apply_27
    · have hyes_j : ¬ (num2.toInt < 1 ∨ (n : Int) < num2.toInt) := by intro q; rw [zn_j, if_pos q] at c_14; exact absurd c_14 (by decide)
      obtain ⟨j, hj, hn_j⟩ : ∃ j : Nat, j < n ∧ num2 = nI (j + 1) := ⟨num2.toInt.toNat - 1, by omega, by apply Int32.toInt_inj.mp; rw [nI_toInt (by omega)]; omega⟩
      subst hn_j
      obtain ⟨e1_j, e2_j, e3_j, e4_j, e5_j, e6_j, e7_j, ok_j⟩ := hMT.2.1 j hj
      have okw_j := ok_j.1.1
      refine lv_iload_n hx hb dX4_apply_17 rfl (lv_at hl 1 rfl) ?_
      refine lv_if_lt (tgt := 26) hx hb dX4_apply_18 (by decide) (fun c_18 => ?_) (fun c_18 => ?_)
      · rw [Int32.lt_iff_toInt_lt, show (0 : Int32).toInt = 0 by decide] at c_18
        refine lv_lconst (v := 0) hx hb dX4_apply_26 (by decide) ?_
        rw [hQQ]
        exact W.lret (v := 0) hx hb hr (fun t ht hW => ⟨⟨0, (0, lo, pt, sn), rfl, Or.inr ⟨fun q => q.1 (Or.inr (Or.inr (Or.inl c_18))), rfl, (by rw [fk_sApp, if_pos (show fk_nap n op _ _ from Or.inr (Or.inr (Or.inl c_18)))]; decide), (by rw [fk_lApp, if_pos (show fk_nap n op _ _ from Or.inr (Or.inr (Or.inl c_18)))])⟩, by rw [ht]; exact hP, va_K.moved hW.alike hK, hD⟩, hS.F ht⟩) hS.2.2 dX4_apply_27
      · rw [Int32.lt_iff_toInt_lt, show (0 : Int32).toInt = 0 by decide] at c_18
        refine lv_iload_n hx hb dX4_apply_21 rfl (lv_at hl 1 rfl) ?_
        refine lv_iconst (v := 3) hx hb dX4_apply_22 (by decide) ?_
        refine lv_icmp_le (tgt := 28) hx hb dX4_apply_23 (by decide) (fun c_23 => ?_) (fun c_23 => ?_)
        · rw [Int32.le_iff_toInt_le, show (3 : Int32).toInt = 3 by decide] at c_23
          have hnap : ¬ fk_nap n op (nI (i + 1)) (nI (j + 1)) := fun q => by
            rcases q with q | q | q | q
            · exact fk_no_j hi hn40 q
            · exact fk_no_j hj hn40 q
            · omega
            · omega
          have hop : op = 0 ∨ op = 1 ∨ op = 2 ∨ op = 3 := by
            rcases (show op.toInt = 0 ∨ op.toInt = 1 ∨ op.toInt = 2 ∨ op.toInt = 3 by omega) with q | q | q | q
            · exact Or.inl (Int32.toInt_inj.mp (by rw [q]; decide))
            · exact Or.inr (Or.inl (Int32.toInt_inj.mp (by rw [q]; decide)))
            · exact Or.inr (Or.inr (Or.inl (Int32.toInt_inj.mp (by rw [q]; decide))))
            · exact Or.inr (Or.inr (Or.inr (Int32.toInt_inj.mp (by rw [q]; decide))))
          refine lv_aload_n hx hb dX4_apply_28 rfl (lv_at hl 0 rfl) ?_
          refine lv_bipush (v := 8) hx hb dX4_apply_29 (by decide) ?_
          refine lv_iload_n hx hb dX4_apply_31 rfl (lv_at hl 2 rfl) ?_
          refine lv_lload_n hx hb dX4_apply_32 rfl (lv_at hl 3 rfl) ?_
          refine fk_cv hD hS hA (va_runV (As := [.int 8, .int (nI (i + 1)), .long x]) (rest := []) ⟨hx, hb, hml, hown, hts⟩ (kX4_value _ am tl 0 (nI n) lo tn wd sg up dn of bey rnd tx pt sn 8 (i + 1) (kf i).1 (kf i).2.1 (kf i).2.2.1 (kf i).2.2.2.1 (kf i).2.2.2.2.1 x (by omega) (by omega) ok_i.1 e1_i e2_i e3_i e4_i e5_i) (cwV 3 hts gX4_apply_X4_value rfl rfl rfl (by decide +kernel) ⟨Nat.le_of_ble_eq_true rfl, Nat.le_of_ble_eq_true rfl⟩) (fk_preV 0 5 hK hN hP hD rfl rfl) rfl rfl hl.1 rfl (lv_room (Nat.le_of_ble_eq_true rfl)) dX4_apply_33 ⟨Nat.le_of_ble_eq_true rfl, Nat.le_of_ble_eq_true rfl⟩) (fun u3 H locs hw hP hD hS => ?_)
          have hP : va_P D vwCl (fk_wm cJ cI cZ am 0 (nI n) lo tn wd sg up dn of bey rnd tx u3.1 u3.2 ++ tl) H := hP
          have hD : va_D A (fk_wm cJ cI cZ am 0 (nI n) lo tn wd sg up dn of bey rnd tx u3.1 u3.2 ++ tl) := hD
          obtain ⟨ga_i, gb_i, kv_i⟩ := hw
          have ga_i : fk_G (fk_v (kf i) x) 8 u3.1 u3.2 := ga_i
          have gb_i : fk_G (fk_dn (kf i)) 9 u3.1 u3.2 := gb_i
          have bv_i := fk_v_bd ok_i x
          have bd_i := fk_dn_bd ok_i
          have KK5 : fk_kr [0, 1, 4, 5, 6, 7, 8, 9, 10, 11, 12, 13, 16, 17, 18, 19, 20, 22, 23] pt sn u3.1 u3.2 := fk_kr_t (fk_kr_0 pt sn) kv_i (fun r hr => by simp at hr ⊢; omega)
          refine lv_aload_n hx hb dX4_apply_36 rfl (lv_at hl 0 rfl) ?_
          refine lv_bipush (v := 10) hx hb dX4_apply_37 (by decide) ?_
          refine lv_iload hx hb dX4_apply_39 (lv_at hl 4 rfl) ?_
          refine lv_lload hx hb dX4_apply_41 (lv_at hl 5 rfl) ?_
          refine fk_cv hD hS hA (va_runV (As := [.int 10, .int (nI (j + 1)), .long y]) (rest := []) ⟨hx, hb, hml, hown, hts⟩ (kX4_value _ am tl 0 (nI n) lo tn wd sg up dn of bey rnd tx u3.1 u3.2 10 (j + 1) (kf j).1 (kf j).2.1 (kf j).2.2.1 (kf j).2.2.2.1 (kf j).2.2.2.2.1 y (by omega) (by omega) ok_j.1 e1_j e2_j e3_j e4_j e5_j) (cwV 3 hts gX4_apply_X4_value rfl rfl rfl (by decide +kernel) ⟨Nat.le_of_ble_eq_true rfl, Nat.le_of_ble_eq_true rfl⟩) (fk_preV 0 5 hK hN hP hD rfl rfl) rfl rfl hl.1 rfl (lv_room (Nat.le_of_ble_eq_true rfl)) dX4_apply_43 ⟨Nat.le_of_ble_eq_true rfl, Nat.le_of_ble_eq_true rfl⟩) (fun u6 H locs hw hP hD hS => ?_)
          have hP : va_P D vwCl (fk_wm cJ cI cZ am 0 (nI n) lo tn wd sg up dn of bey rnd tx u6.1 u6.2 ++ tl) H := hP
          have hD : va_D A (fk_wm cJ cI cZ am 0 (nI n) lo tn wd sg up dn of bey rnd tx u6.1 u6.2 ++ tl) := hD
          obtain ⟨ga_j, gb_j, kv_j⟩ := hw
          have ga_j : fk_G (fk_v (kf j) y) 10 u6.1 u6.2 := ga_j
          have gb_j : fk_G (fk_dn (kf j)) 11 u6.1 u6.2 := gb_j
          have bv_j := fk_v_bd ok_j y
          have bd_j := fk_dn_bd ok_j
          have gg8 := fk_G_kr ga_i kv_j (by simp <;> omega)
          have gg9 := fk_G_kr gb_i kv_j (by simp <;> omega)
          have KK10 : fk_kr [0, 1, 4, 5, 6, 7, 8, 9, 10, 11, 12, 13, 16, 17, 18, 19, 20, 22, 23] pt sn u6.1 u6.2 := fk_kr_t KK5 kv_j (fun r hr => by simp at hr ⊢; omega)
          have am1 := fk_absT (a := fk_v (kf i) x) (A := 18889465931478580854784) (by omega) (by omega)
          have am2 := fk_absT (a := fk_v (kf j) y) (A := 18889465931478580854784) (by omega) (by omega)
          have an1 := fk_absT (a := fk_dn (kf i)) (A := 1000) (by omega) (by omega)
          have an2 := fk_absT (a := fk_dn (kf j)) (A := 1000) (by omega) (by omega)
          refine lv_iload_n hx hb dX4_apply_46 rfl (lv_at hl 1 rfl) ?_
          refine lv_iconst (v := 3) hx hb dX4_apply_47 (by decide) ?_
          refine lv_icmp_ne (tgt := 151) hx hb dX4_apply_48 (by decide) (fun c_48 => ?_) (fun c_48 => ?_)
          · have hqz : ¬ fk_qz kf op (nI (j + 1)) y := fun q => c_48 q.1
            have hz3 : op = 3 → fk_v (kf j) y ≠ 0 := fun q => absurd q c_48
            refine lv_iload_n hx hb dX4_apply_151 rfl (lv_at hl 1 rfl) ?_
            refine lv_iconst (v := 2) hx hb dX4_apply_152 (by decide) ?_
            refine lv_icmp_ge (tgt := 206) hx hb dX4_apply_153 (by decide) (fun c_153 => ?_) (fun c_153 => ?_)
            · rw [Int32.le_iff_toInt_le, show (2 : Int32).toInt = 2 by decide] at c_153
              refine lv_iload_n hx hb dX4_apply_206 rfl (lv_at hl 1 rfl) ?_
              refine lv_iconst (v := 2) hx hb dX4_apply_207 (by decide) ?_
              refine lv_icmp_ne (tgt := 232) hx hb dX4_apply_208 (by decide) (fun c_208 => ?_) (fun c_208 => ?_)
              · have ho : op = 3 := by rcases hop with q | q | q | q; (rw [q] at c_153; exact absurd c_153 (by decide)); (rw [q] at c_153; exact absurd c_153 (by decide)); exact absurd q c_208; exact q
                refine lv_aload_n hx hb dX4_apply_232 rfl (lv_at hl 0 rfl) ?_
                refine lv_iconst (v := 0) hx hb dX4_apply_233 (by decide) ?_
                refine lv_bipush (v := 8) hx hb dX4_apply_234 (by decide) ?_
                refine lv_bipush (v := 11) hx hb dX4_apply_236 (by decide) ?_
                refine fk_cv hD hS hA (va_runV (As := [.int 0, .int 8, .int 11]) (rest := []) ⟨hx, hb, hml, hown, hts⟩ (kX4_multiply _ am tl 0 (nI n) lo tn wd sg up dn of bey rnd tx u6.1 u6.2 0 8 11 _ _ (by omega) (by omega) (by omega) (by omega) (by omega) gg8 gb_j (fk_absM am1 an2 (by decide))) (cwV 3 hts gX4_apply_X4_multiply rfl rfl rfl (by decide +kernel) ⟨Nat.le_of_ble_eq_true rfl, Nat.le_of_ble_eq_true rfl⟩) (fk_preV 0 5 hK hN hP hD rfl rfl) rfl rfl hl.1 rfl (lv_room (Nat.le_of_ble_eq_true rfl)) dX4_apply_238 ⟨Nat.le_of_ble_eq_true rfl, Nat.le_of_ble_eq_true rfl⟩) (fun u11 H locs hw hP hD hS => ?_)
                have hP : va_P D vwCl (fk_wm cJ cI cZ am 0 (nI n) lo tn wd sg up dn of bey rnd tx u11.1 u11.2 ++ tl) H := hP
                have hD : va_D A (fk_wm cJ cI cZ am 0 (nI n) lo tn wd sg up dn of bey rnd tx u11.1 u11.2 ++ tl) := hD
                obtain ⟨gr12, kx13a, kx13b⟩ := hw
                have kx13 := fk_kr_1 kx13a kx13b
                have gg15 := fk_G_kr gg8 kx13 (by simp <;> omega)
                have gg16 := fk_G_kr gg9 kx13 (by simp <;> omega)
                have gg17 := fk_G_kr ga_j kx13 (by simp <;> omega)
                have gg18 := fk_G_kr gb_j kx13 (by simp <;> omega)
                have KK19 : fk_kr [0, 1, 4, 5, 6, 7, 8, 9, 10, 11, 12, 13, 16, 17, 18, 19, 20, 22, 23] pt sn u11.1 u11.2 := fk_kr_t KK10 kx13 (fun r hr => by simp at hr ⊢; omega)
                refine lv_aload_n hx hb dX4_apply_241 rfl (lv_at hl 0 rfl) ?_
                refine lv_iconst (v := 1) hx hb dX4_apply_242 (by decide) ?_
                refine lv_bipush (v := 9) hx hb dX4_apply_243 (by decide) ?_
                refine lv_bipush (v := 10) hx hb dX4_apply_245 (by decide) ?_
                refine fk_cv hD hS hA (va_runV (As := [.int 1, .int 9, .int 10]) (rest := []) ⟨hx, hb, hml, hown, hts⟩ (kX4_multiply _ am tl 0 (nI n) lo tn wd sg up dn of bey rnd tx u11.1 u11.2 1 9 10 _ _ (by omega) (by omega) (by omega) (by omega) (by omega) gg16 gg17 (fk_absM an1 am2 (by decide))) (cwV 3 hts gX4_apply_X4_multiply rfl rfl rfl (by decide +kernel) ⟨Nat.le_of_ble_eq_true rfl, Nat.le_of_ble_eq_true rfl⟩) (fk_preV 0 5 hK hN hP hD rfl rfl) rfl rfl hl.1 rfl (lv_room (Nat.le_of_ble_eq_true rfl)) dX4_apply_247 ⟨Nat.le_of_ble_eq_true rfl, Nat.le_of_ble_eq_true rfl⟩) (fun u20 H locs hw hP hD hS => ?_)
                have hP : va_P D vwCl (fk_wm cJ cI cZ am 0 (nI n) lo tn wd sg up dn of bey rnd tx u20.1 u20.2 ++ tl) H := hP
                have hD : va_D A (fk_wm cJ cI cZ am 0 (nI n) lo tn wd sg up dn of bey rnd tx u20.1 u20.2 ++ tl) := hD
                obtain ⟨gr21, kx22a, kx22b⟩ := hw
                have kx22 := fk_kr_1 kx22a kx22b
                have gg24 := fk_G_kr gg15 kx22 (by simp <;> omega)
                have gg25 := fk_G_kr gg16 kx22 (by simp <;> omega)
                have gg26 := fk_G_kr gg17 kx22 (by simp <;> omega)
                have gg27 := fk_G_kr gg18 kx22 (by simp <;> omega)
                have gg28 := fk_G_kr gr12 kx22 (by simp <;> omega)
                have KK29 : fk_kr [0, 1, 4, 5, 6, 7, 8, 9, 10, 11, 12, 13, 16, 17, 18, 19, 20, 22, 23] pt sn u20.1 u20.2 := fk_kr_t KK19 kx22 (fun r hr => by simp at hr ⊢; omega)
                refine lv_aload_n hx hb dX4_apply_250 rfl (lv_at hl 0 rfl) ?_
                refine va_get (D := D) (ci := 5) (v := .ref (am 10)) (C := RX4) (T := TX4) (N := 14) hx hb hts k2 hown hK hP 0 rfl rfl 13 (by decide) k1 (fun _ h9 => h9) rfl dX4_apply_251 ?_
                refine lv_iconst (v := 0) hx hb dX4_apply_254 (by decide) ?_
                refine lv_aload_n hx hb dX4_apply_255 rfl (lv_at hl 0 rfl) ?_
                refine va_get (D := D) (ci := 5) (v := .ref (am 10)) (C := RX4) (T := TX4) (N := 14) hx hb hts k2 hown hK hP 0 rfl rfl 13 (by decide) k1 (fun _ h9 => h9) rfl dX4_apply_256 ?_
                refine lv_iconst (v := 0) hx hb dX4_apply_259 (by decide) ?_
                refine fk_iald hx hb hK hP 10 2 rfl rfl (i := 0) (by decide) (by decide) dX4_apply_260 ?_
                refine lv_aload_n hx hb dX4_apply_261 rfl (lv_at hl 0 rfl) ?_
                refine va_get (D := D) (ci := 5) (v := .ref (am 10)) (C := RX4) (T := TX4) (N := 14) hx hb hts k2 hown hK hP 0 rfl rfl 13 (by decide) k1 (fun _ h9 => h9) rfl dX4_apply_262 ?_
                refine lv_iconst (v := 1) hx hb dX4_apply_265 (by decide) ?_
                refine fk_iald hx hb hK hP 10 2 rfl rfl (i := 1) (by decide) (by decide) dX4_apply_266 ?_
                refine lv_imul hx hb dX4_apply_267 ?_
                refine fk_iast hx hb hK hP hD hS 10 2 rfl rfl (i := 0) (by decide) (by decide) dX4_apply_268 (fun H locs hP hD hS => ?_)
                have hP : va_P D vwCl (fk_wm cJ cI cZ am 0 (nI n) lo tn wd sg up dn of bey rnd tx u20.1 (upd u20.2 0 ((u20.2 0) * (u20.2 1))) ++ tl) H := hP
                have hD : va_D A (fk_wm cJ cI cZ am 0 (nI n) lo tn wd sg up dn of bey rnd tx u20.1 (upd u20.2 0 ((u20.2 0) * (u20.2 1))) ++ tl) := hD
                refine lv_aload_n hx hb dX4_apply_269 rfl (lv_at hl 0 rfl) ?_
                refine va_get (D := D) (ci := 5) (v := .ref (am 10)) (C := RX4) (T := TX4) (N := 14) hx hb hts k2 hown hK hP 0 rfl rfl 13 (by decide) k1 (fun _ h9 => h9) rfl dX4_apply_270 ?_
                refine lv_iconst (v := 1) hx hb dX4_apply_273 (by decide) ?_
                refine lv_iconst (v := 1) hx hb dX4_apply_274 (by decide) ?_
                refine fk_iast hx hb hK hP hD hS 10 2 rfl rfl (i := 1) (by decide) (by decide) dX4_apply_275 (fun H locs hP hD hS => ?_)
                have hP : va_P D vwCl (fk_wm cJ cI cZ am 0 (nI n) lo tn wd sg up dn of bey rnd tx u20.1 (upd (upd u20.2 0 ((u20.2 0) * (u20.2 1))) 1 1) ++ tl) H := hP
                have hD : va_D A (fk_wm cJ cI cZ am 0 (nI n) lo tn wd sg up dn of bey rnd tx u20.1 (upd (upd u20.2 0 ((u20.2 0) * (u20.2 1))) 1 1) ++ tl) := hD
                have hbc : fk_dn (kf i) * fk_v (kf j) y ≠ 0 := fun q => by
                  rcases Int.mul_eq_zero.mp q with z | z
                  · omega
                  · exact hz3 ho z
                have gn0 : fk_G (fk_v (kf i) x * fk_dn (kf j) * fk_sg (fk_dn (kf i) * fk_v (kf j) y)) 0 u20.1 (upd (upd u20.2 0 ((u20.2 0) * (u20.2 1))) 1 1) := ⟨by rw [(fk_sgG _ hbc).1]; exact gg28.1, by rw [pk_un (by decide), pk_us, (fk_sgG _ hbc).2, gg28.2, gr21.2]⟩
                have gn1 : fk_G (fk_dn (kf i) * fk_v (kf j) y * fk_sg (fk_dn (kf i) * fk_v (kf j) y)) 1 u20.1 (upd (upd u20.2 0 ((u20.2 0) * (u20.2 1))) 1 1) := ⟨by rw [(fk_sgP hbc).1]; exact gr21.1, by rw [pk_us, (fk_sgP hbc).2]⟩
                have gc0 : fk_G (fk_cN op (fk_v (kf i) x) (fk_dn (kf i)) (fk_v (kf j) y) (fk_dn (kf j))) 0 u20.1 (upd (upd u20.2 0 ((u20.2 0) * (u20.2 1))) 1 1) := by rw [fk_cN, if_neg (by rw [ho]; decide), if_neg (by rw [ho]; decide), if_neg (by rw [ho]; decide)]; exact gn0
                have gc1 : fk_G (fk_cD op (fk_dn (kf i)) (fk_v (kf j) y) (fk_dn (kf j))) 1 u20.1 (upd (upd u20.2 0 ((u20.2 0) * (u20.2 1))) 1 1) := by rw [fk_cD, if_pos ho]; exact gn1
                refine lv_aload_n hx hb dX4_apply_276 rfl (lv_at hl 0 rfl) ?_
                refine lv_iload_n hx hb dX4_apply_277 rfl (lv_at hl 2 rfl) ?_
                refine fk_cl hD hS hA (va_runV (As := [.int (nI (i + 1))]) (rest := []) ⟨hx, hb, hml, hown, hts⟩ (kX4_put _ am tl 0 (nI n) lo tn wd sg up dn of bey rnd tx u20.1 (upd (upd u20.2 0 ((u20.2 0) * (u20.2 1))) 1 1) (i + 1) (kf i).1 (kf i).2.1 (kf i).2.2.1 (kf i).2.2.2.1 (kf i).2.2.2.2.1 (kf i).2.2.2.2.2.1 (kf i).2.2.2.2.2.2 _ _ (by omega) ok_i.1 e1_i e2_i e3_i e4_i e5_i e6_i e7_i ok_i.2.1 ok_i.2.2 gc0 gc1 (fk_c_B hop bv_i bd_i bv_j bd_j hz3)) (cwV 1 hts gX4_apply_X4_put rfl rfl rfl (by decide +kernel) ⟨Nat.le_of_ble_eq_true rfl, Nat.le_of_ble_eq_true rfl⟩) (fk_preV 0 5 hK hN hP hD rfl rfl) rfl rfl hl.1 rfl (lv_room (Nat.le_of_ble_eq_true rfl)) dX4_apply_278 ⟨Nat.le_of_ble_eq_true rfl, Nat.le_of_ble_eq_true rfl⟩) (fun r31 u30 H locs hw hP hD hS => ?_)
                have hP : va_P D vwCl (fk_wm cJ cI cZ am 0 (nI n) u30.1 tn wd sg up dn of bey rnd tx u30.2.1 u30.2.2 ++ tl) H := hP
                have hD : va_D A (fk_wm cJ cI cZ am 0 (nI n) u30.1 tn wd sg up dn of bey rnd tx u30.2.1 u30.2.2 ++ tl) := hD
                obtain ⟨hput, hlst, kp1⟩ := hw
                rw [hQQ]
                exact W.lret (v := r31) hx hb hr (fun t ht hW => ⟨⟨r31, (0, u30.1, u30.2.1, u30.2.2), rfl, Or.inr ⟨fun q => hqz ⟨q.2.1, q.2.2.1⟩, rfl, hput.trans (by rw [fk_sApp, if_neg hnap, if_neg hqz, fk_ix_j hi hn40, fk_ix_j hj hn40]; rfl), hlst.trans (by rw [fk_lApp, if_neg hnap, if_neg hqz, fk_ix_j hi hn40, fk_ix_j hj hn40]; rfl)⟩, by rw [ht]; exact hP, va_K.moved hW.alike hK, hD⟩, hS.F ht⟩) hS.2.2 dX4_apply_281
              · have ho : op = 2 := c_208
                refine lv_aload_n hx hb dX4_apply_211 rfl (lv_at hl 0 rfl) ?_
                refine lv_iconst (v := 0) hx hb dX4_apply_212 (by decide) ?_
                refine lv_bipush (v := 8) hx hb dX4_apply_213 (by decide) ?_
                refine lv_bipush (v := 10) hx hb dX4_apply_215 (by decide) ?_
                refine fk_cv hD hS hA (va_runV (As := [.int 0, .int 8, .int 10]) (rest := []) ⟨hx, hb, hml, hown, hts⟩ (kX4_multiply _ am tl 0 (nI n) lo tn wd sg up dn of bey rnd tx u6.1 u6.2 0 8 10 _ _ (by omega) (by omega) (by omega) (by omega) (by omega) gg8 ga_j (fk_absM am1 am2 (by decide))) (cwV 3 hts gX4_apply_X4_multiply rfl rfl rfl (by decide +kernel) ⟨Nat.le_of_ble_eq_true rfl, Nat.le_of_ble_eq_true rfl⟩) (fk_preV 0 5 hK hN hP hD rfl rfl) rfl rfl hl.1 rfl (lv_room (Nat.le_of_ble_eq_true rfl)) dX4_apply_217 ⟨Nat.le_of_ble_eq_true rfl, Nat.le_of_ble_eq_true rfl⟩) (fun u32 H locs hw hP hD hS => ?_)
                have hP : va_P D vwCl (fk_wm cJ cI cZ am 0 (nI n) lo tn wd sg up dn of bey rnd tx u32.1 u32.2 ++ tl) H := hP
                have hD : va_D A (fk_wm cJ cI cZ am 0 (nI n) lo tn wd sg up dn of bey rnd tx u32.1 u32.2 ++ tl) := hD
                obtain ⟨gr33, kx34a, kx34b⟩ := hw
                have kx34 := fk_kr_1 kx34a kx34b
                have gg36 := fk_G_kr gg8 kx34 (by simp <;> omega)
                have gg37 := fk_G_kr gg9 kx34 (by simp <;> omega)
                have gg38 := fk_G_kr ga_j kx34 (by simp <;> omega)
                have gg39 := fk_G_kr gb_j kx34 (by simp <;> omega)
                have KK40 : fk_kr [0, 1, 4, 5, 6, 7, 8, 9, 10, 11, 12, 13, 16, 17, 18, 19, 20, 22, 23] pt sn u32.1 u32.2 := fk_kr_t KK10 kx34 (fun r hr => by simp at hr ⊢; omega)
                refine lv_aload_n hx hb dX4_apply_220 rfl (lv_at hl 0 rfl) ?_
                refine lv_iconst (v := 1) hx hb dX4_apply_221 (by decide) ?_
                refine lv_bipush (v := 9) hx hb dX4_apply_222 (by decide) ?_
                refine lv_bipush (v := 11) hx hb dX4_apply_224 (by decide) ?_
                refine fk_cv hD hS hA (va_runV (As := [.int 1, .int 9, .int 11]) (rest := []) ⟨hx, hb, hml, hown, hts⟩ (kX4_multiply _ am tl 0 (nI n) lo tn wd sg up dn of bey rnd tx u32.1 u32.2 1 9 11 _ _ (by omega) (by omega) (by omega) (by omega) (by omega) gg37 gg39 (fk_absM an1 an2 (by decide))) (cwV 3 hts gX4_apply_X4_multiply rfl rfl rfl (by decide +kernel) ⟨Nat.le_of_ble_eq_true rfl, Nat.le_of_ble_eq_true rfl⟩) (fk_preV 0 5 hK hN hP hD rfl rfl) rfl rfl hl.1 rfl (lv_room (Nat.le_of_ble_eq_true rfl)) dX4_apply_226 ⟨Nat.le_of_ble_eq_true rfl, Nat.le_of_ble_eq_true rfl⟩) (fun u41 H locs hw hP hD hS => ?_)
                have hP : va_P D vwCl (fk_wm cJ cI cZ am 0 (nI n) lo tn wd sg up dn of bey rnd tx u41.1 u41.2 ++ tl) H := hP
                have hD : va_D A (fk_wm cJ cI cZ am 0 (nI n) lo tn wd sg up dn of bey rnd tx u41.1 u41.2 ++ tl) := hD
                obtain ⟨gr42, kx43a, kx43b⟩ := hw
                have kx43 := fk_kr_1 kx43a kx43b
                have gg45 := fk_G_kr gg36 kx43 (by simp <;> omega)
                have gg46 := fk_G_kr gg37 kx43 (by simp <;> omega)
                have gg47 := fk_G_kr gg38 kx43 (by simp <;> omega)
                have gg48 := fk_G_kr gg39 kx43 (by simp <;> omega)
                have gg49 := fk_G_kr gr33 kx43 (by simp <;> omega)
                have KK50 : fk_kr [0, 1, 4, 5, 6, 7, 8, 9, 10, 11, 12, 13, 16, 17, 18, 19, 20, 22, 23] pt sn u41.1 u41.2 := fk_kr_t KK40 kx43 (fun r hr => by simp at hr ⊢; omega)
                refine lv_goto (tgt := 276) hx hb dX4_apply_229 (by decide) ?_
                have gc0 : fk_G (fk_cN op (fk_v (kf i) x) (fk_dn (kf i)) (fk_v (kf j) y) (fk_dn (kf j))) 0 u41.1 u41.2 := by rw [fk_cN, if_neg (by rw [ho]; decide), if_neg (by rw [ho]; decide), if_pos ho]; exact gg49
                have gc1 : fk_G (fk_cD op (fk_dn (kf i)) (fk_v (kf j) y) (fk_dn (kf j))) 1 u41.1 u41.2 := by rw [fk_cD, if_neg (by rw [ho]; decide)]; exact gr42
                refine lv_aload_n hx hb dX4_apply_276 rfl (lv_at hl 0 rfl) ?_
                refine lv_iload_n hx hb dX4_apply_277 rfl (lv_at hl 2 rfl) ?_
                refine fk_cl hD hS hA (va_runV (As := [.int (nI (i + 1))]) (rest := []) ⟨hx, hb, hml, hown, hts⟩ (kX4_put _ am tl 0 (nI n) lo tn wd sg up dn of bey rnd tx u41.1 u41.2 (i + 1) (kf i).1 (kf i).2.1 (kf i).2.2.1 (kf i).2.2.2.1 (kf i).2.2.2.2.1 (kf i).2.2.2.2.2.1 (kf i).2.2.2.2.2.2 _ _ (by omega) ok_i.1 e1_i e2_i e3_i e4_i e5_i e6_i e7_i ok_i.2.1 ok_i.2.2 gc0 gc1 (fk_c_B hop bv_i bd_i bv_j bd_j hz3)) (cwV 1 hts gX4_apply_X4_put rfl rfl rfl (by decide +kernel) ⟨Nat.le_of_ble_eq_true rfl, Nat.le_of_ble_eq_true rfl⟩) (fk_preV 0 5 hK hN hP hD rfl rfl) rfl rfl hl.1 rfl (lv_room (Nat.le_of_ble_eq_true rfl)) dX4_apply_278 ⟨Nat.le_of_ble_eq_true rfl, Nat.le_of_ble_eq_true rfl⟩) (fun r52 u51 H locs hw hP hD hS => ?_)
                have hP : va_P D vwCl (fk_wm cJ cI cZ am 0 (nI n) u51.1 tn wd sg up dn of bey rnd tx u51.2.1 u51.2.2 ++ tl) H := hP
                have hD : va_D A (fk_wm cJ cI cZ am 0 (nI n) u51.1 tn wd sg up dn of bey rnd tx u51.2.1 u51.2.2 ++ tl) := hD
                obtain ⟨hput, hlst, kp1⟩ := hw
                rw [hQQ]
                exact W.lret (v := r52) hx hb hr (fun t ht hW => ⟨⟨r52, (0, u51.1, u51.2.1, u51.2.2), rfl, Or.inr ⟨fun q => hqz ⟨q.2.1, q.2.2.1⟩, rfl, hput.trans (by rw [fk_sApp, if_neg hnap, if_neg hqz, fk_ix_j hi hn40, fk_ix_j hj hn40]; rfl), hlst.trans (by rw [fk_lApp, if_neg hnap, if_neg hqz, fk_ix_j hi hn40, fk_ix_j hj hn40]; rfl)⟩, by rw [ht]; exact hP, va_K.moved hW.alike hK, hD⟩, hS.F ht⟩) hS.2.2 dX4_apply_281
            · rw [Int32.le_iff_toInt_le, show (2 : Int32).toInt = 2 by decide] at c_153
              have h01 : op = 0 ∨ op = 1 := by rcases hop with q | q | q | q; exact Or.inl q; exact Or.inr q; (rw [q] at c_153; exact absurd (by decide) c_153); (rw [q] at c_153; exact absurd (by decide) c_153)
              refine lv_aload_n hx hb dX4_apply_156 rfl (lv_at hl 0 rfl) ?_
              refine lv_bipush (v := 12) hx hb dX4_apply_157 (by decide) ?_
              refine lv_bipush (v := 8) hx hb dX4_apply_159 (by decide) ?_
              refine lv_bipush (v := 11) hx hb dX4_apply_161 (by decide) ?_
              refine fk_cv hD hS hA (va_runV (As := [.int 12, .int 8, .int 11]) (rest := []) ⟨hx, hb, hml, hown, hts⟩ (kX4_multiply _ am tl 0 (nI n) lo tn wd sg up dn of bey rnd tx u6.1 u6.2 12 8 11 _ _ (by omega) (by omega) (by omega) (by omega) (by omega) gg8 gb_j (fk_absM am1 an2 (by decide))) (cwV 3 hts gX4_apply_X4_multiply rfl rfl rfl (by decide +kernel) ⟨Nat.le_of_ble_eq_true rfl, Nat.le_of_ble_eq_true rfl⟩) (fk_preV 0 5 hK hN hP hD rfl rfl) rfl rfl hl.1 rfl (lv_room (Nat.le_of_ble_eq_true rfl)) dX4_apply_163 ⟨Nat.le_of_ble_eq_true rfl, Nat.le_of_ble_eq_true rfl⟩) (fun u53 H locs hw hP hD hS => ?_)
              have hP : va_P D vwCl (fk_wm cJ cI cZ am 0 (nI n) lo tn wd sg up dn of bey rnd tx u53.1 u53.2 ++ tl) H := hP
              have hD : va_D A (fk_wm cJ cI cZ am 0 (nI n) lo tn wd sg up dn of bey rnd tx u53.1 u53.2 ++ tl) := hD
              obtain ⟨gr54, kx55a, kx55b⟩ := hw
              have kx55 := fk_kr_1 kx55a kx55b
              have gg57 := fk_G_kr gg8 kx55 (by simp <;> omega)
              have gg58 := fk_G_kr gg9 kx55 (by simp <;> omega)
              have gg59 := fk_G_kr ga_j kx55 (by simp <;> omega)
              have gg60 := fk_G_kr gb_j kx55 (by simp <;> omega)
              have KK61 : fk_kr [0, 1, 4, 5, 6, 7, 8, 9, 10, 11, 12, 13, 16, 17, 18, 19, 20, 22, 23] pt sn u53.1 u53.2 := fk_kr_t KK10 kx55 (fun r hr => by simp at hr ⊢; omega)
              refine lv_aload_n hx hb dX4_apply_166 rfl (lv_at hl 0 rfl) ?_
              refine lv_bipush (v := 13) hx hb dX4_apply_167 (by decide) ?_
              refine lv_bipush (v := 10) hx hb dX4_apply_169 (by decide) ?_
              refine lv_bipush (v := 9) hx hb dX4_apply_171 (by decide) ?_
              refine fk_cv hD hS hA (va_runV (As := [.int 13, .int 10, .int 9]) (rest := []) ⟨hx, hb, hml, hown, hts⟩ (kX4_multiply _ am tl 0 (nI n) lo tn wd sg up dn of bey rnd tx u53.1 u53.2 13 10 9 _ _ (by omega) (by omega) (by omega) (by omega) (by omega) gg59 gg58 (fk_absM am2 an1 (by decide))) (cwV 3 hts gX4_apply_X4_multiply rfl rfl rfl (by decide +kernel) ⟨Nat.le_of_ble_eq_true rfl, Nat.le_of_ble_eq_true rfl⟩) (fk_preV 0 5 hK hN hP hD rfl rfl) rfl rfl hl.1 rfl (lv_room (Nat.le_of_ble_eq_true rfl)) dX4_apply_173 ⟨Nat.le_of_ble_eq_true rfl, Nat.le_of_ble_eq_true rfl⟩) (fun u62 H locs hw hP hD hS => ?_)
              have hP : va_P D vwCl (fk_wm cJ cI cZ am 0 (nI n) lo tn wd sg up dn of bey rnd tx u62.1 u62.2 ++ tl) H := hP
              have hD : va_D A (fk_wm cJ cI cZ am 0 (nI n) lo tn wd sg up dn of bey rnd tx u62.1 u62.2 ++ tl) := hD
              obtain ⟨gr63, kx64a, kx64b⟩ := hw
              have kx64 := fk_kr_1 kx64a kx64b
              have gg66 := fk_G_kr gg57 kx64 (by simp <;> omega)
              have gg67 := fk_G_kr gg58 kx64 (by simp <;> omega)
              have gg68 := fk_G_kr gg59 kx64 (by simp <;> omega)
              have gg69 := fk_G_kr gg60 kx64 (by simp <;> omega)
              have gg70 := fk_G_kr gr54 kx64 (by simp <;> omega)
              have KK71 : fk_kr [0, 1, 4, 5, 6, 7, 8, 9, 10, 11, 12, 13, 16, 17, 18, 19, 20, 22, 23] pt sn u62.1 u62.2 := fk_kr_t KK61 kx64 (fun r hr => by simp at hr ⊢; omega)
              refine lv_aload_n hx hb dX4_apply_176 rfl (lv_at hl 0 rfl) ?_
              refine lv_iconst (v := 0) hx hb dX4_apply_177 (by decide) ?_
              refine lv_bipush (v := 12) hx hb dX4_apply_178 (by decide) ?_
              refine lv_bipush (v := 13) hx hb dX4_apply_180 (by decide) ?_
              refine lv_iload_n hx hb dX4_apply_182 rfl (lv_at hl 1 rfl) ?_
              refine lv_if_ne (tgt := 190) hx hb dX4_apply_183 (by decide) (fun c_183 => ?_) (fun c_183 => ?_)
              · have ho : op = 1 := h01.resolve_left c_183
                refine lv_iconst (v := (-1)) hx hb dX4_apply_190 (by decide) ?_
                have b12 : fk_abs (fk_v (kf i) x * fk_dn (kf j)) ≤ 18889465931478580854784000 := by rw [fk_abs_mul]; have := Int.mul_le_mul am1.2 an2.2 an2.1 (by omega); omega
                have b13 : fk_abs (fk_v (kf j) y * fk_dn (kf i)) ≤ 18889465931478580854784000 := by rw [fk_abs_mul]; have := Int.mul_le_mul am2.2 an1.2 an1.1 (by omega); omega
                refine fk_cv hD hS hA (va_runV (As := [.int 0, .int 12, .int 13, .int (-1)]) (rest := []) ⟨hx, hb, hml, hown, hts⟩ (kX4_add _ am tl 0 (nI n) lo tn wd sg up dn of bey rnd tx u62.1 u62.2 0 12 13 (-1) _ _ (by omega) (by omega) (by omega) (Or.inr rfl) gg70 gr63 (by rw [fk_p16]; omega)) (cwV 4 hts gX4_apply_X4_add rfl rfl rfl (by decide +kernel) ⟨Nat.le_of_ble_eq_true rfl, Nat.le_of_ble_eq_true rfl⟩) (fk_preV 0 5 hK hN hP hD rfl rfl) rfl rfl hl.1 rfl (lv_room (Nat.le_of_ble_eq_true rfl)) dX4_apply_191 ⟨Nat.le_of_ble_eq_true rfl, Nat.le_of_ble_eq_true rfl⟩) (fun u72 H locs hw hP hD hS => ?_)
                have hP : va_P D vwCl (fk_wm cJ cI cZ am 0 (nI n) lo tn wd sg up dn of bey rnd tx u72.1 u72.2 ++ tl) H := hP
                have hD : va_D A (fk_wm cJ cI cZ am 0 (nI n) lo tn wd sg up dn of bey rnd tx u72.1 u72.2 ++ tl) := hD
                obtain ⟨gr73, kx74a, kx74b⟩ := hw
                have kx74 := fk_kr_1 kx74a kx74b
                have gg76 := fk_G_kr gg66 kx74 (by simp <;> omega)
                have gg77 := fk_G_kr gg67 kx74 (by simp <;> omega)
                have gg78 := fk_G_kr gg68 kx74 (by simp <;> omega)
                have gg79 := fk_G_kr gg69 kx74 (by simp <;> omega)
                have gg80 := fk_G_kr gg70 kx74 (by simp <;> omega)
                have gg81 := fk_G_kr gr63 kx74 (by simp <;> omega)
                have KK82 : fk_kr [0, 1, 4, 5, 6, 7, 8, 9, 10, 11, 12, 13, 16, 17, 18, 19, 20, 22, 23] pt sn u72.1 u72.2 := fk_kr_t KK71 kx74 (fun r hr => by simp at hr ⊢; omega)
                rw [show ((-1) : Int32).toInt = (-1) by decide] at gr73
                refine lv_aload_n hx hb dX4_apply_194 rfl (lv_at hl 0 rfl) ?_
                refine lv_iconst (v := 1) hx hb dX4_apply_195 (by decide) ?_
                refine lv_bipush (v := 9) hx hb dX4_apply_196 (by decide) ?_
                refine lv_bipush (v := 11) hx hb dX4_apply_198 (by decide) ?_
                refine fk_cv hD hS hA (va_runV (As := [.int 1, .int 9, .int 11]) (rest := []) ⟨hx, hb, hml, hown, hts⟩ (kX4_multiply _ am tl 0 (nI n) lo tn wd sg up dn of bey rnd tx u72.1 u72.2 1 9 11 _ _ (by omega) (by omega) (by omega) (by omega) (by omega) gg77 gg79 (fk_absM an1 an2 (by decide))) (cwV 3 hts gX4_apply_X4_multiply rfl rfl rfl (by decide +kernel) ⟨Nat.le_of_ble_eq_true rfl, Nat.le_of_ble_eq_true rfl⟩) (fk_preV 0 5 hK hN hP hD rfl rfl) rfl rfl hl.1 rfl (lv_room (Nat.le_of_ble_eq_true rfl)) dX4_apply_200 ⟨Nat.le_of_ble_eq_true rfl, Nat.le_of_ble_eq_true rfl⟩) (fun u83 H locs hw hP hD hS => ?_)
                have hP : va_P D vwCl (fk_wm cJ cI cZ am 0 (nI n) lo tn wd sg up dn of bey rnd tx u83.1 u83.2 ++ tl) H := hP
                have hD : va_D A (fk_wm cJ cI cZ am 0 (nI n) lo tn wd sg up dn of bey rnd tx u83.1 u83.2 ++ tl) := hD
                obtain ⟨gr84, kx85a, kx85b⟩ := hw
                have kx85 := fk_kr_1 kx85a kx85b
                have gg87 := fk_G_kr gg76 kx85 (by simp <;> omega)
                have gg88 := fk_G_kr gg77 kx85 (by simp <;> omega)
                have gg89 := fk_G_kr gg78 kx85 (by simp <;> omega)
                have gg90 := fk_G_kr gg79 kx85 (by simp <;> omega)
                have gg91 := fk_G_kr gg80 kx85 (by simp <;> omega)
                have gg92 := fk_G_kr gg81 kx85 (by simp <;> omega)
                have gg93 := fk_G_kr gr73 kx85 (by simp <;> omega)
                have KK94 : fk_kr [0, 1, 4, 5, 6, 7, 8, 9, 10, 11, 12, 13, 16, 17, 18, 19, 20, 22, 23] pt sn u83.1 u83.2 := fk_kr_t KK82 kx85 (fun r hr => by simp at hr ⊢; omega)
                refine lv_goto (tgt := 276) hx hb dX4_apply_203 (by decide) ?_
                have gc0 : fk_G (fk_cN op (fk_v (kf i) x) (fk_dn (kf i)) (fk_v (kf j) y) (fk_dn (kf j))) 0 u83.1 u83.2 := by rw [fk_cN, if_neg (by rw [ho]; decide), if_pos ho]; exact gg93
                have gc1 : fk_G (fk_cD op (fk_dn (kf i)) (fk_v (kf j) y) (fk_dn (kf j))) 1 u83.1 u83.2 := by rw [fk_cD, if_neg (by rw [ho]; decide)]; exact gr84
                refine lv_aload_n hx hb dX4_apply_276 rfl (lv_at hl 0 rfl) ?_
                refine lv_iload_n hx hb dX4_apply_277 rfl (lv_at hl 2 rfl) ?_
                refine fk_cl hD hS hA (va_runV (As := [.int (nI (i + 1))]) (rest := []) ⟨hx, hb, hml, hown, hts⟩ (kX4_put _ am tl 0 (nI n) lo tn wd sg up dn of bey rnd tx u83.1 u83.2 (i + 1) (kf i).1 (kf i).2.1 (kf i).2.2.1 (kf i).2.2.2.1 (kf i).2.2.2.2.1 (kf i).2.2.2.2.2.1 (kf i).2.2.2.2.2.2 _ _ (by omega) ok_i.1 e1_i e2_i e3_i e4_i e5_i e6_i e7_i ok_i.2.1 ok_i.2.2 gc0 gc1 (fk_c_B hop bv_i bd_i bv_j bd_j hz3)) (cwV 1 hts gX4_apply_X4_put rfl rfl rfl (by decide +kernel) ⟨Nat.le_of_ble_eq_true rfl, Nat.le_of_ble_eq_true rfl⟩) (fk_preV 0 5 hK hN hP hD rfl rfl) rfl rfl hl.1 rfl (lv_room (Nat.le_of_ble_eq_true rfl)) dX4_apply_278 ⟨Nat.le_of_ble_eq_true rfl, Nat.le_of_ble_eq_true rfl⟩) (fun r96 u95 H locs hw hP hD hS => ?_)
                have hP : va_P D vwCl (fk_wm cJ cI cZ am 0 (nI n) u95.1 tn wd sg up dn of bey rnd tx u95.2.1 u95.2.2 ++ tl) H := hP
                have hD : va_D A (fk_wm cJ cI cZ am 0 (nI n) u95.1 tn wd sg up dn of bey rnd tx u95.2.1 u95.2.2 ++ tl) := hD
                obtain ⟨hput, hlst, kp1⟩ := hw
                rw [hQQ]
                exact W.lret (v := r96) hx hb hr (fun t ht hW => ⟨⟨r96, (0, u95.1, u95.2.1, u95.2.2), rfl, Or.inr ⟨fun q => hqz ⟨q.2.1, q.2.2.1⟩, rfl, hput.trans (by rw [fk_sApp, if_neg hnap, if_neg hqz, fk_ix_j hi hn40, fk_ix_j hj hn40]; rfl), hlst.trans (by rw [fk_lApp, if_neg hnap, if_neg hqz, fk_ix_j hi hn40, fk_ix_j hj hn40]; rfl)⟩, by rw [ht]; exact hP, va_K.moved hW.alike hK, hD⟩, hS.F ht⟩) hS.2.2 dX4_apply_281
              · have ho : op = 0 := c_183
                refine lv_iconst (v := 1) hx hb dX4_apply_186 (by decide) ?_
                refine lv_goto (tgt := 191) hx hb dX4_apply_187 (by decide) ?_
                have b12 : fk_abs (fk_v (kf i) x * fk_dn (kf j)) ≤ 18889465931478580854784000 := by rw [fk_abs_mul]; have := Int.mul_le_mul am1.2 an2.2 an2.1 (by omega); omega
                have b13 : fk_abs (fk_v (kf j) y * fk_dn (kf i)) ≤ 18889465931478580854784000 := by rw [fk_abs_mul]; have := Int.mul_le_mul am2.2 an1.2 an1.1 (by omega); omega
                refine fk_cv hD hS hA (va_runV (As := [.int 0, .int 12, .int 13, .int 1]) (rest := []) ⟨hx, hb, hml, hown, hts⟩ (kX4_add _ am tl 0 (nI n) lo tn wd sg up dn of bey rnd tx u62.1 u62.2 0 12 13 1 _ _ (by omega) (by omega) (by omega) (Or.inl rfl) gg70 gr63 (by rw [fk_p16]; omega)) (cwV 4 hts gX4_apply_X4_add rfl rfl rfl (by decide +kernel) ⟨Nat.le_of_ble_eq_true rfl, Nat.le_of_ble_eq_true rfl⟩) (fk_preV 0 5 hK hN hP hD rfl rfl) rfl rfl hl.1 rfl (lv_room (Nat.le_of_ble_eq_true rfl)) dX4_apply_191 ⟨Nat.le_of_ble_eq_true rfl, Nat.le_of_ble_eq_true rfl⟩) (fun u97 H locs hw hP hD hS => ?_)
                have hP : va_P D vwCl (fk_wm cJ cI cZ am 0 (nI n) lo tn wd sg up dn of bey rnd tx u97.1 u97.2 ++ tl) H := hP
                have hD : va_D A (fk_wm cJ cI cZ am 0 (nI n) lo tn wd sg up dn of bey rnd tx u97.1 u97.2 ++ tl) := hD
                obtain ⟨gr98, kx99a, kx99b⟩ := hw
                have kx99 := fk_kr_1 kx99a kx99b
                have gg101 := fk_G_kr gg66 kx99 (by simp <;> omega)
                have gg102 := fk_G_kr gg67 kx99 (by simp <;> omega)
                have gg103 := fk_G_kr gg68 kx99 (by simp <;> omega)
                have gg104 := fk_G_kr gg69 kx99 (by simp <;> omega)
                have gg105 := fk_G_kr gg70 kx99 (by simp <;> omega)
                have gg106 := fk_G_kr gr63 kx99 (by simp <;> omega)
                have KK107 : fk_kr [0, 1, 4, 5, 6, 7, 8, 9, 10, 11, 12, 13, 16, 17, 18, 19, 20, 22, 23] pt sn u97.1 u97.2 := fk_kr_t KK71 kx99 (fun r hr => by simp at hr ⊢; omega)
                rw [show (1 : Int32).toInt = 1 by decide] at gr98
                refine lv_aload_n hx hb dX4_apply_194 rfl (lv_at hl 0 rfl) ?_
                refine lv_iconst (v := 1) hx hb dX4_apply_195 (by decide) ?_
                refine lv_bipush (v := 9) hx hb dX4_apply_196 (by decide) ?_
                refine lv_bipush (v := 11) hx hb dX4_apply_198 (by decide) ?_
                refine fk_cv hD hS hA (va_runV (As := [.int 1, .int 9, .int 11]) (rest := []) ⟨hx, hb, hml, hown, hts⟩ (kX4_multiply _ am tl 0 (nI n) lo tn wd sg up dn of bey rnd tx u97.1 u97.2 1 9 11 _ _ (by omega) (by omega) (by omega) (by omega) (by omega) gg102 gg104 (fk_absM an1 an2 (by decide))) (cwV 3 hts gX4_apply_X4_multiply rfl rfl rfl (by decide +kernel) ⟨Nat.le_of_ble_eq_true rfl, Nat.le_of_ble_eq_true rfl⟩) (fk_preV 0 5 hK hN hP hD rfl rfl) rfl rfl hl.1 rfl (lv_room (Nat.le_of_ble_eq_true rfl)) dX4_apply_200 ⟨Nat.le_of_ble_eq_true rfl, Nat.le_of_ble_eq_true rfl⟩) (fun u108 H locs hw hP hD hS => ?_)
                have hP : va_P D vwCl (fk_wm cJ cI cZ am 0 (nI n) lo tn wd sg up dn of bey rnd tx u108.1 u108.2 ++ tl) H := hP
                have hD : va_D A (fk_wm cJ cI cZ am 0 (nI n) lo tn wd sg up dn of bey rnd tx u108.1 u108.2 ++ tl) := hD
                obtain ⟨gr109, kx110a, kx110b⟩ := hw
                have kx110 := fk_kr_1 kx110a kx110b
                have gg112 := fk_G_kr gg101 kx110 (by simp <;> omega)
                have gg113 := fk_G_kr gg102 kx110 (by simp <;> omega)
                have gg114 := fk_G_kr gg103 kx110 (by simp <;> omega)
                have gg115 := fk_G_kr gg104 kx110 (by simp <;> omega)
                have gg116 := fk_G_kr gg105 kx110 (by simp <;> omega)
                have gg117 := fk_G_kr gg106 kx110 (by simp <;> omega)
                have gg118 := fk_G_kr gr98 kx110 (by simp <;> omega)
                have KK119 : fk_kr [0, 1, 4, 5, 6, 7, 8, 9, 10, 11, 12, 13, 16, 17, 18, 19, 20, 22, 23] pt sn u108.1 u108.2 := fk_kr_t KK107 kx110 (fun r hr => by simp at hr ⊢; omega)
                refine lv_goto (tgt := 276) hx hb dX4_apply_203 (by decide) ?_
                have gc0 : fk_G (fk_cN op (fk_v (kf i) x) (fk_dn (kf i)) (fk_v (kf j) y) (fk_dn (kf j))) 0 u108.1 u108.2 := by rw [fk_cN, if_pos ho]; exact gg118
                have gc1 : fk_G (fk_cD op (fk_dn (kf i)) (fk_v (kf j) y) (fk_dn (kf j))) 1 u108.1 u108.2 := by rw [fk_cD, if_neg (by rw [ho]; decide)]; exact gr109
                refine lv_aload_n hx hb dX4_apply_276 rfl (lv_at hl 0 rfl) ?_
                refine lv_iload_n hx hb dX4_apply_277 rfl (lv_at hl 2 rfl) ?_
                refine fk_cl hD hS hA (va_runV (As := [.int (nI (i + 1))]) (rest := []) ⟨hx, hb, hml, hown, hts⟩ (kX4_put _ am tl 0 (nI n) lo tn wd sg up dn of bey rnd tx u108.1 u108.2 (i + 1) (kf i).1 (kf i).2.1 (kf i).2.2.1 (kf i).2.2.2.1 (kf i).2.2.2.2.1 (kf i).2.2.2.2.2.1 (kf i).2.2.2.2.2.2 _ _ (by omega) ok_i.1 e1_i e2_i e3_i e4_i e5_i e6_i e7_i ok_i.2.1 ok_i.2.2 gc0 gc1 (fk_c_B hop bv_i bd_i bv_j bd_j hz3)) (cwV 1 hts gX4_apply_X4_put rfl rfl rfl (by decide +kernel) ⟨Nat.le_of_ble_eq_true rfl, Nat.le_of_ble_eq_true rfl⟩) (fk_preV 0 5 hK hN hP hD rfl rfl) rfl rfl hl.1 rfl (lv_room (Nat.le_of_ble_eq_true rfl)) dX4_apply_278 ⟨Nat.le_of_ble_eq_true rfl, Nat.le_of_ble_eq_true rfl⟩) (fun r121 u120 H locs hw hP hD hS => ?_)
                have hP : va_P D vwCl (fk_wm cJ cI cZ am 0 (nI n) u120.1 tn wd sg up dn of bey rnd tx u120.2.1 u120.2.2 ++ tl) H := hP
                have hD : va_D A (fk_wm cJ cI cZ am 0 (nI n) u120.1 tn wd sg up dn of bey rnd tx u120.2.1 u120.2.2 ++ tl) := hD
                obtain ⟨hput, hlst, kp1⟩ := hw
                rw [hQQ]
                exact W.lret (v := r121) hx hb hr (fun t ht hW => ⟨⟨r121, (0, u120.1, u120.2.1, u120.2.2), rfl, Or.inr ⟨fun q => hqz ⟨q.2.1, q.2.2.1⟩, rfl, hput.trans (by rw [fk_sApp, if_neg hnap, if_neg hqz, fk_ix_j hi hn40, fk_ix_j hj hn40]; rfl), hlst.trans (by rw [fk_lApp, if_neg hnap, if_neg hqz, fk_ix_j hi hn40, fk_ix_j hj hn40]; rfl)⟩, by rw [ht]; exact hP, va_K.moved hW.alike hK, hD⟩, hS.F ht⟩) hS.2.2 dX4_apply_281
          · refine lv_aload_n hx hb dX4_apply_51 rfl (lv_at hl 0 rfl) ?_
            refine va_get (D := D) (ci := 5) (v := .ref (am 10)) (C := RX4) (T := TX4) (N := 14) hx hb hts k2 hown hK hP 0 rfl rfl 13 (by decide) k1 (fun _ h9 => h9) rfl dX4_apply_52 ?_
            refine lv_bipush (v := 10) hx hb dX4_apply_55 (by decide) ?_
            refine fk_iald hx hb hK hP 10 2 rfl rfl (i := 10) (by decide) (by decide) dX4_apply_57 ?_
            refine lv_if_ne (tgt := 151) hx hb dX4_apply_58 (by decide) (fun c_58 => ?_) (fun c_58 => ?_)
            · rw [ga_j.2, fk_cmp_ne] at c_58
              have hqz : ¬ fk_qz kf op (nI (j + 1)) y := fun q => by have z := q.2; rw [fk_ix_j hj hn40] at z; exact c_58 z
              have hz3 : op = 3 → fk_v (kf j) y ≠ 0 := fun _ => c_58
              refine lv_iload_n hx hb dX4_apply_151 rfl (lv_at hl 1 rfl) ?_
              refine lv_iconst (v := 2) hx hb dX4_apply_152 (by decide) ?_
              refine lv_icmp_ge (tgt := 206) hx hb dX4_apply_153 (by decide) (fun c_153 => ?_) (fun c_153 => ?_)
              · rw [Int32.le_iff_toInt_le, show (2 : Int32).toInt = 2 by decide] at c_153
                refine lv_iload_n hx hb dX4_apply_206 rfl (lv_at hl 1 rfl) ?_
                refine lv_iconst (v := 2) hx hb dX4_apply_207 (by decide) ?_
                refine lv_icmp_ne (tgt := 232) hx hb dX4_apply_208 (by decide) (fun c_208 => ?_) (fun c_208 => ?_)
                · have ho : op = 3 := by rcases hop with q | q | q | q; (rw [q] at c_153; exact absurd c_153 (by decide)); (rw [q] at c_153; exact absurd c_153 (by decide)); exact absurd q c_208; exact q
                  refine lv_aload_n hx hb dX4_apply_232 rfl (lv_at hl 0 rfl) ?_
                  refine lv_iconst (v := 0) hx hb dX4_apply_233 (by decide) ?_
                  refine lv_bipush (v := 8) hx hb dX4_apply_234 (by decide) ?_
                  refine lv_bipush (v := 11) hx hb dX4_apply_236 (by decide) ?_
                  refine fk_cv hD hS hA (va_runV (As := [.int 0, .int 8, .int 11]) (rest := []) ⟨hx, hb, hml, hown, hts⟩ (kX4_multiply _ am tl 0 (nI n) lo tn wd sg up dn of bey rnd tx u6.1 u6.2 0 8 11 _ _ (by omega) (by omega) (by omega) (by omega) (by omega) gg8 gb_j (fk_absM am1 an2 (by decide))) (cwV 3 hts gX4_apply_X4_multiply rfl rfl rfl (by decide +kernel) ⟨Nat.le_of_ble_eq_true rfl, Nat.le_of_ble_eq_true rfl⟩) (fk_preV 0 5 hK hN hP hD rfl rfl) rfl rfl hl.1 rfl (lv_room (Nat.le_of_ble_eq_true rfl)) dX4_apply_238 ⟨Nat.le_of_ble_eq_true rfl, Nat.le_of_ble_eq_true rfl⟩) (fun u122 H locs hw hP hD hS => ?_)
                  have hP : va_P D vwCl (fk_wm cJ cI cZ am 0 (nI n) lo tn wd sg up dn of bey rnd tx u122.1 u122.2 ++ tl) H := hP
                  have hD : va_D A (fk_wm cJ cI cZ am 0 (nI n) lo tn wd sg up dn of bey rnd tx u122.1 u122.2 ++ tl) := hD
                  obtain ⟨gr123, kx124a, kx124b⟩ := hw
                  have kx124 := fk_kr_1 kx124a kx124b
                  have gg126 := fk_G_kr gg8 kx124 (by simp <;> omega)
                  have gg127 := fk_G_kr gg9 kx124 (by simp <;> omega)
                  have gg128 := fk_G_kr ga_j kx124 (by simp <;> omega)
                  have gg129 := fk_G_kr gb_j kx124 (by simp <;> omega)
                  have KK130 : fk_kr [0, 1, 4, 5, 6, 7, 8, 9, 10, 11, 12, 13, 16, 17, 18, 19, 20, 22, 23] pt sn u122.1 u122.2 := fk_kr_t KK10 kx124 (fun r hr => by simp at hr ⊢; omega)
                  refine lv_aload_n hx hb dX4_apply_241 rfl (lv_at hl 0 rfl) ?_
                  refine lv_iconst (v := 1) hx hb dX4_apply_242 (by decide) ?_
                  refine lv_bipush (v := 9) hx hb dX4_apply_243 (by decide) ?_
                  refine lv_bipush (v := 10) hx hb dX4_apply_245 (by decide) ?_
                  refine fk_cv hD hS hA (va_runV (As := [.int 1, .int 9, .int 10]) (rest := []) ⟨hx, hb, hml, hown, hts⟩ (kX4_multiply _ am tl 0 (nI n) lo tn wd sg up dn of bey rnd tx u122.1 u122.2 1 9 10 _ _ (by omega) (by omega) (by omega) (by omega) (by omega) gg127 gg128 (fk_absM an1 am2 (by decide))) (cwV 3 hts gX4_apply_X4_multiply rfl rfl rfl (by decide +kernel) ⟨Nat.le_of_ble_eq_true rfl, Nat.le_of_ble_eq_true rfl⟩) (fk_preV 0 5 hK hN hP hD rfl rfl) rfl rfl hl.1 rfl (lv_room (Nat.le_of_ble_eq_true rfl)) dX4_apply_247 ⟨Nat.le_of_ble_eq_true rfl, Nat.le_of_ble_eq_true rfl⟩) (fun u131 H locs hw hP hD hS => ?_)
                  have hP : va_P D vwCl (fk_wm cJ cI cZ am 0 (nI n) lo tn wd sg up dn of bey rnd tx u131.1 u131.2 ++ tl) H := hP
                  have hD : va_D A (fk_wm cJ cI cZ am 0 (nI n) lo tn wd sg up dn of bey rnd tx u131.1 u131.2 ++ tl) := hD
                  obtain ⟨gr132, kx133a, kx133b⟩ := hw
                  have kx133 := fk_kr_1 kx133a kx133b
                  have gg135 := fk_G_kr gg126 kx133 (by simp <;> omega)
                  have gg136 := fk_G_kr gg127 kx133 (by simp <;> omega)
                  have gg137 := fk_G_kr gg128 kx133 (by simp <;> omega)
                  have gg138 := fk_G_kr gg129 kx133 (by simp <;> omega)
                  have gg139 := fk_G_kr gr123 kx133 (by simp <;> omega)
                  have KK140 : fk_kr [0, 1, 4, 5, 6, 7, 8, 9, 10, 11, 12, 13, 16, 17, 18, 19, 20, 22, 23] pt sn u131.1 u131.2 := fk_kr_t KK130 kx133 (fun r hr => by simp at hr ⊢; omega)
                  refine lv_aload_n hx hb dX4_apply_250 rfl (lv_at hl 0 rfl) ?_
                  refine va_get (D := D) (ci := 5) (v := .ref (am 10)) (C := RX4) (T := TX4) (N := 14) hx hb hts k2 hown hK hP 0 rfl rfl 13 (by decide) k1 (fun _ h9 => h9) rfl dX4_apply_251 ?_
                  refine lv_iconst (v := 0) hx hb dX4_apply_254 (by decide) ?_
                  refine lv_aload_n hx hb dX4_apply_255 rfl (lv_at hl 0 rfl) ?_
                  refine va_get (D := D) (ci := 5) (v := .ref (am 10)) (C := RX4) (T := TX4) (N := 14) hx hb hts k2 hown hK hP 0 rfl rfl 13 (by decide) k1 (fun _ h9 => h9) rfl dX4_apply_256 ?_
                  refine lv_iconst (v := 0) hx hb dX4_apply_259 (by decide) ?_
                  refine fk_iald hx hb hK hP 10 2 rfl rfl (i := 0) (by decide) (by decide) dX4_apply_260 ?_
                  refine lv_aload_n hx hb dX4_apply_261 rfl (lv_at hl 0 rfl) ?_
                  refine va_get (D := D) (ci := 5) (v := .ref (am 10)) (C := RX4) (T := TX4) (N := 14) hx hb hts k2 hown hK hP 0 rfl rfl 13 (by decide) k1 (fun _ h9 => h9) rfl dX4_apply_262 ?_
                  refine lv_iconst (v := 1) hx hb dX4_apply_265 (by decide) ?_
                  refine fk_iald hx hb hK hP 10 2 rfl rfl (i := 1) (by decide) (by decide) dX4_apply_266 ?_
                  refine lv_imul hx hb dX4_apply_267 ?_
                  refine fk_iast hx hb hK hP hD hS 10 2 rfl rfl (i := 0) (by decide) (by decide) dX4_apply_268 (fun H locs hP hD hS => ?_)
                  have hP : va_P D vwCl (fk_wm cJ cI cZ am 0 (nI n) lo tn wd sg up dn of bey rnd tx u131.1 (upd u131.2 0 ((u131.2 0) * (u131.2 1))) ++ tl) H := hP
                  have hD : va_D A (fk_wm cJ cI cZ am 0 (nI n) lo tn wd sg up dn of bey rnd tx u131.1 (upd u131.2 0 ((u131.2 0) * (u131.2 1))) ++ tl) := hD
                  refine lv_aload_n hx hb dX4_apply_269 rfl (lv_at hl 0 rfl) ?_
                  refine va_get (D := D) (ci := 5) (v := .ref (am 10)) (C := RX4) (T := TX4) (N := 14) hx hb hts k2 hown hK hP 0 rfl rfl 13 (by decide) k1 (fun _ h9 => h9) rfl dX4_apply_270 ?_
                  refine lv_iconst (v := 1) hx hb dX4_apply_273 (by decide) ?_
                  refine lv_iconst (v := 1) hx hb dX4_apply_274 (by decide) ?_
                  refine fk_iast hx hb hK hP hD hS 10 2 rfl rfl (i := 1) (by decide) (by decide) dX4_apply_275 (fun H locs hP hD hS => ?_)
                  have hP : va_P D vwCl (fk_wm cJ cI cZ am 0 (nI n) lo tn wd sg up dn of bey rnd tx u131.1 (upd (upd u131.2 0 ((u131.2 0) * (u131.2 1))) 1 1) ++ tl) H := hP
                  have hD : va_D A (fk_wm cJ cI cZ am 0 (nI n) lo tn wd sg up dn of bey rnd tx u131.1 (upd (upd u131.2 0 ((u131.2 0) * (u131.2 1))) 1 1) ++ tl) := hD
                  have hbc : fk_dn (kf i) * fk_v (kf j) y ≠ 0 := fun q => by
                    rcases Int.mul_eq_zero.mp q with z | z
                    · omega
                    · exact hz3 ho z
                  have gn0 : fk_G (fk_v (kf i) x * fk_dn (kf j) * fk_sg (fk_dn (kf i) * fk_v (kf j) y)) 0 u131.1 (upd (upd u131.2 0 ((u131.2 0) * (u131.2 1))) 1 1) := ⟨by rw [(fk_sgG _ hbc).1]; exact gg139.1, by rw [pk_un (by decide), pk_us, (fk_sgG _ hbc).2, gg139.2, gr132.2]⟩
                  have gn1 : fk_G (fk_dn (kf i) * fk_v (kf j) y * fk_sg (fk_dn (kf i) * fk_v (kf j) y)) 1 u131.1 (upd (upd u131.2 0 ((u131.2 0) * (u131.2 1))) 1 1) := ⟨by rw [(fk_sgP hbc).1]; exact gr132.1, by rw [pk_us, (fk_sgP hbc).2]⟩
                  have gc0 : fk_G (fk_cN op (fk_v (kf i) x) (fk_dn (kf i)) (fk_v (kf j) y) (fk_dn (kf j))) 0 u131.1 (upd (upd u131.2 0 ((u131.2 0) * (u131.2 1))) 1 1) := by rw [fk_cN, if_neg (by rw [ho]; decide), if_neg (by rw [ho]; decide), if_neg (by rw [ho]; decide)]; exact gn0
                  have gc1 : fk_G (fk_cD op (fk_dn (kf i)) (fk_v (kf j) y) (fk_dn (kf j))) 1 u131.1 (upd (upd u131.2 0 ((u131.2 0) * (u131.2 1))) 1 1) := by rw [fk_cD, if_pos ho]; exact gn1
                  refine lv_aload_n hx hb dX4_apply_276 rfl (lv_at hl 0 rfl) ?_
                  refine lv_iload_n hx hb dX4_apply_277 rfl (lv_at hl 2 rfl) ?_
                  refine fk_cl hD hS hA (va_runV (As := [.int (nI (i + 1))]) (rest := []) ⟨hx, hb, hml, hown, hts⟩ (kX4_put _ am tl 0 (nI n) lo tn wd sg up dn of bey rnd tx u131.1 (upd (upd u131.2 0 ((u131.2 0) * (u131.2 1))) 1 1) (i + 1) (kf i).1 (kf i).2.1 (kf i).2.2.1 (kf i).2.2.2.1 (kf i).2.2.2.2.1 (kf i).2.2.2.2.2.1 (kf i).2.2.2.2.2.2 _ _ (by omega) ok_i.1 e1_i e2_i e3_i e4_i e5_i e6_i e7_i ok_i.2.1 ok_i.2.2 gc0 gc1 (fk_c_B hop bv_i bd_i bv_j bd_j hz3)) (cwV 1 hts gX4_apply_X4_put rfl rfl rfl (by decide +kernel) ⟨Nat.le_of_ble_eq_true rfl, Nat.le_of_ble_eq_true rfl⟩) (fk_preV 0 5 hK hN hP hD rfl rfl) rfl rfl hl.1 rfl (lv_room (Nat.le_of_ble_eq_true rfl)) dX4_apply_278 ⟨Nat.le_of_ble_eq_true rfl, Nat.le_of_ble_eq_true rfl⟩) (fun r142 u141 H locs hw hP hD hS => ?_)
                  have hP : va_P D vwCl (fk_wm cJ cI cZ am 0 (nI n) u141.1 tn wd sg up dn of bey rnd tx u141.2.1 u141.2.2 ++ tl) H := hP
                  have hD : va_D A (fk_wm cJ cI cZ am 0 (nI n) u141.1 tn wd sg up dn of bey rnd tx u141.2.1 u141.2.2 ++ tl) := hD
                  obtain ⟨hput, hlst, kp1⟩ := hw
                  rw [hQQ]
                  exact W.lret (v := r142) hx hb hr (fun t ht hW => ⟨⟨r142, (0, u141.1, u141.2.1, u141.2.2), rfl, Or.inr ⟨fun q => hqz ⟨q.2.1, q.2.2.1⟩, rfl, hput.trans (by rw [fk_sApp, if_neg hnap, if_neg hqz, fk_ix_j hi hn40, fk_ix_j hj hn40]; rfl), hlst.trans (by rw [fk_lApp, if_neg hnap, if_neg hqz, fk_ix_j hi hn40, fk_ix_j hj hn40]; rfl)⟩, by rw [ht]; exact hP, va_K.moved hW.alike hK, hD⟩, hS.F ht⟩) hS.2.2 dX4_apply_281
                · have ho : op = 2 := c_208
                  refine lv_aload_n hx hb dX4_apply_211 rfl (lv_at hl 0 rfl) ?_
                  refine lv_iconst (v := 0) hx hb dX4_apply_212 (by decide) ?_
                  refine lv_bipush (v := 8) hx hb dX4_apply_213 (by decide) ?_
                  refine lv_bipush (v := 10) hx hb dX4_apply_215 (by decide) ?_
                  refine fk_cv hD hS hA (va_runV (As := [.int 0, .int 8, .int 10]) (rest := []) ⟨hx, hb, hml, hown, hts⟩ (kX4_multiply _ am tl 0 (nI n) lo tn wd sg up dn of bey rnd tx u6.1 u6.2 0 8 10 _ _ (by omega) (by omega) (by omega) (by omega) (by omega) gg8 ga_j (fk_absM am1 am2 (by decide))) (cwV 3 hts gX4_apply_X4_multiply rfl rfl rfl (by decide +kernel) ⟨Nat.le_of_ble_eq_true rfl, Nat.le_of_ble_eq_true rfl⟩) (fk_preV 0 5 hK hN hP hD rfl rfl) rfl rfl hl.1 rfl (lv_room (Nat.le_of_ble_eq_true rfl)) dX4_apply_217 ⟨Nat.le_of_ble_eq_true rfl, Nat.le_of_ble_eq_true rfl⟩) (fun u143 H locs hw hP hD hS => ?_)
                  have hP : va_P D vwCl (fk_wm cJ cI cZ am 0 (nI n) lo tn wd sg up dn of bey rnd tx u143.1 u143.2 ++ tl) H := hP
                  have hD : va_D A (fk_wm cJ cI cZ am 0 (nI n) lo tn wd sg up dn of bey rnd tx u143.1 u143.2 ++ tl) := hD
                  obtain ⟨gr144, kx145a, kx145b⟩ := hw
                  have kx145 := fk_kr_1 kx145a kx145b
                  have gg147 := fk_G_kr gg8 kx145 (by simp <;> omega)
                  have gg148 := fk_G_kr gg9 kx145 (by simp <;> omega)
                  have gg149 := fk_G_kr ga_j kx145 (by simp <;> omega)
                  have gg150 := fk_G_kr gb_j kx145 (by simp <;> omega)
                  have KK151 : fk_kr [0, 1, 4, 5, 6, 7, 8, 9, 10, 11, 12, 13, 16, 17, 18, 19, 20, 22, 23] pt sn u143.1 u143.2 := fk_kr_t KK10 kx145 (fun r hr => by simp at hr ⊢; omega)
                  refine lv_aload_n hx hb dX4_apply_220 rfl (lv_at hl 0 rfl) ?_
                  refine lv_iconst (v := 1) hx hb dX4_apply_221 (by decide) ?_
                  refine lv_bipush (v := 9) hx hb dX4_apply_222 (by decide) ?_
                  refine lv_bipush (v := 11) hx hb dX4_apply_224 (by decide) ?_
                  refine fk_cv hD hS hA (va_runV (As := [.int 1, .int 9, .int 11]) (rest := []) ⟨hx, hb, hml, hown, hts⟩ (kX4_multiply _ am tl 0 (nI n) lo tn wd sg up dn of bey rnd tx u143.1 u143.2 1 9 11 _ _ (by omega) (by omega) (by omega) (by omega) (by omega) gg148 gg150 (fk_absM an1 an2 (by decide))) (cwV 3 hts gX4_apply_X4_multiply rfl rfl rfl (by decide +kernel) ⟨Nat.le_of_ble_eq_true rfl, Nat.le_of_ble_eq_true rfl⟩) (fk_preV 0 5 hK hN hP hD rfl rfl) rfl rfl hl.1 rfl (lv_room (Nat.le_of_ble_eq_true rfl)) dX4_apply_226 ⟨Nat.le_of_ble_eq_true rfl, Nat.le_of_ble_eq_true rfl⟩) (fun u152 H locs hw hP hD hS => ?_)
                  have hP : va_P D vwCl (fk_wm cJ cI cZ am 0 (nI n) lo tn wd sg up dn of bey rnd tx u152.1 u152.2 ++ tl) H := hP
                  have hD : va_D A (fk_wm cJ cI cZ am 0 (nI n) lo tn wd sg up dn of bey rnd tx u152.1 u152.2 ++ tl) := hD
                  obtain ⟨gr153, kx154a, kx154b⟩ := hw
                  have kx154 := fk_kr_1 kx154a kx154b
                  have gg156 := fk_G_kr gg147 kx154 (by simp <;> omega)
                  have gg157 := fk_G_kr gg148 kx154 (by simp <;> omega)
                  have gg158 := fk_G_kr gg149 kx154 (by simp <;> omega)
                  have gg159 := fk_G_kr gg150 kx154 (by simp <;> omega)
                  have gg160 := fk_G_kr gr144 kx154 (by simp <;> omega)
                  have KK161 : fk_kr [0, 1, 4, 5, 6, 7, 8, 9, 10, 11, 12, 13, 16, 17, 18, 19, 20, 22, 23] pt sn u152.1 u152.2 := fk_kr_t KK151 kx154 (fun r hr => by simp at hr ⊢; omega)
                  refine lv_goto (tgt := 276) hx hb dX4_apply_229 (by decide) ?_
                  have gc0 : fk_G (fk_cN op (fk_v (kf i) x) (fk_dn (kf i)) (fk_v (kf j) y) (fk_dn (kf j))) 0 u152.1 u152.2 := by rw [fk_cN, if_neg (by rw [ho]; decide), if_neg (by rw [ho]; decide), if_pos ho]; exact gg160
                  have gc1 : fk_G (fk_cD op (fk_dn (kf i)) (fk_v (kf j) y) (fk_dn (kf j))) 1 u152.1 u152.2 := by rw [fk_cD, if_neg (by rw [ho]; decide)]; exact gr153
                  refine lv_aload_n hx hb dX4_apply_276 rfl (lv_at hl 0 rfl) ?_
                  refine lv_iload_n hx hb dX4_apply_277 rfl (lv_at hl 2 rfl) ?_
                  refine fk_cl hD hS hA (va_runV (As := [.int (nI (i + 1))]) (rest := []) ⟨hx, hb, hml, hown, hts⟩ (kX4_put _ am tl 0 (nI n) lo tn wd sg up dn of bey rnd tx u152.1 u152.2 (i + 1) (kf i).1 (kf i).2.1 (kf i).2.2.1 (kf i).2.2.2.1 (kf i).2.2.2.2.1 (kf i).2.2.2.2.2.1 (kf i).2.2.2.2.2.2 _ _ (by omega) ok_i.1 e1_i e2_i e3_i e4_i e5_i e6_i e7_i ok_i.2.1 ok_i.2.2 gc0 gc1 (fk_c_B hop bv_i bd_i bv_j bd_j hz3)) (cwV 1 hts gX4_apply_X4_put rfl rfl rfl (by decide +kernel) ⟨Nat.le_of_ble_eq_true rfl, Nat.le_of_ble_eq_true rfl⟩) (fk_preV 0 5 hK hN hP hD rfl rfl) rfl rfl hl.1 rfl (lv_room (Nat.le_of_ble_eq_true rfl)) dX4_apply_278 ⟨Nat.le_of_ble_eq_true rfl, Nat.le_of_ble_eq_true rfl⟩) (fun r163 u162 H locs hw hP hD hS => ?_)
                  have hP : va_P D vwCl (fk_wm cJ cI cZ am 0 (nI n) u162.1 tn wd sg up dn of bey rnd tx u162.2.1 u162.2.2 ++ tl) H := hP
                  have hD : va_D A (fk_wm cJ cI cZ am 0 (nI n) u162.1 tn wd sg up dn of bey rnd tx u162.2.1 u162.2.2 ++ tl) := hD
                  obtain ⟨hput, hlst, kp1⟩ := hw
                  rw [hQQ]
                  exact W.lret (v := r163) hx hb hr (fun t ht hW => ⟨⟨r163, (0, u162.1, u162.2.1, u162.2.2), rfl, Or.inr ⟨fun q => hqz ⟨q.2.1, q.2.2.1⟩, rfl, hput.trans (by rw [fk_sApp, if_neg hnap, if_neg hqz, fk_ix_j hi hn40, fk_ix_j hj hn40]; rfl), hlst.trans (by rw [fk_lApp, if_neg hnap, if_neg hqz, fk_ix_j hi hn40, fk_ix_j hj hn40]; rfl)⟩, by rw [ht]; exact hP, va_K.moved hW.alike hK, hD⟩, hS.F ht⟩) hS.2.2 dX4_apply_281
              · rw [Int32.le_iff_toInt_le, show (2 : Int32).toInt = 2 by decide] at c_153
                have h01 : op = 0 ∨ op = 1 := by rcases hop with q | q | q | q; exact Or.inl q; exact Or.inr q; (rw [q] at c_153; exact absurd (by decide) c_153); (rw [q] at c_153; exact absurd (by decide) c_153)
                refine lv_aload_n hx hb dX4_apply_156 rfl (lv_at hl 0 rfl) ?_
                refine lv_bipush (v := 12) hx hb dX4_apply_157 (by decide) ?_
                refine lv_bipush (v := 8) hx hb dX4_apply_159 (by decide) ?_
                refine lv_bipush (v := 11) hx hb dX4_apply_161 (by decide) ?_
                refine fk_cv hD hS hA (va_runV (As := [.int 12, .int 8, .int 11]) (rest := []) ⟨hx, hb, hml, hown, hts⟩ (kX4_multiply _ am tl 0 (nI n) lo tn wd sg up dn of bey rnd tx u6.1 u6.2 12 8 11 _ _ (by omega) (by omega) (by omega) (by omega) (by omega) gg8 gb_j (fk_absM am1 an2 (by decide))) (cwV 3 hts gX4_apply_X4_multiply rfl rfl rfl (by decide +kernel) ⟨Nat.le_of_ble_eq_true rfl, Nat.le_of_ble_eq_true rfl⟩) (fk_preV 0 5 hK hN hP hD rfl rfl) rfl rfl hl.1 rfl (lv_room (Nat.le_of_ble_eq_true rfl)) dX4_apply_163 ⟨Nat.le_of_ble_eq_true rfl, Nat.le_of_ble_eq_true rfl⟩) (fun u164 H locs hw hP hD hS => ?_)
                have hP : va_P D vwCl (fk_wm cJ cI cZ am 0 (nI n) lo tn wd sg up dn of bey rnd tx u164.1 u164.2 ++ tl) H := hP
                have hD : va_D A (fk_wm cJ cI cZ am 0 (nI n) lo tn wd sg up dn of bey rnd tx u164.1 u164.2 ++ tl) := hD
                obtain ⟨gr165, kx166a, kx166b⟩ := hw
                have kx166 := fk_kr_1 kx166a kx166b
                have gg168 := fk_G_kr gg8 kx166 (by simp <;> omega)
                have gg169 := fk_G_kr gg9 kx166 (by simp <;> omega)
                have gg170 := fk_G_kr ga_j kx166 (by simp <;> omega)
                have gg171 := fk_G_kr gb_j kx166 (by simp <;> omega)
                have KK172 : fk_kr [0, 1, 4, 5, 6, 7, 8, 9, 10, 11, 12, 13, 16, 17, 18, 19, 20, 22, 23] pt sn u164.1 u164.2 := fk_kr_t KK10 kx166 (fun r hr => by simp at hr ⊢; omega)
                refine lv_aload_n hx hb dX4_apply_166 rfl (lv_at hl 0 rfl) ?_
                refine lv_bipush (v := 13) hx hb dX4_apply_167 (by decide) ?_
                refine lv_bipush (v := 10) hx hb dX4_apply_169 (by decide) ?_
                refine lv_bipush (v := 9) hx hb dX4_apply_171 (by decide) ?_
                refine fk_cv hD hS hA (va_runV (As := [.int 13, .int 10, .int 9]) (rest := []) ⟨hx, hb, hml, hown, hts⟩ (kX4_multiply _ am tl 0 (nI n) lo tn wd sg up dn of bey rnd tx u164.1 u164.2 13 10 9 _ _ (by omega) (by omega) (by omega) (by omega) (by omega) gg170 gg169 (fk_absM am2 an1 (by decide))) (cwV 3 hts gX4_apply_X4_multiply rfl rfl rfl (by decide +kernel) ⟨Nat.le_of_ble_eq_true rfl, Nat.le_of_ble_eq_true rfl⟩) (fk_preV 0 5 hK hN hP hD rfl rfl) rfl rfl hl.1 rfl (lv_room (Nat.le_of_ble_eq_true rfl)) dX4_apply_173 ⟨Nat.le_of_ble_eq_true rfl, Nat.le_of_ble_eq_true rfl⟩) (fun u173 H locs hw hP hD hS => ?_)
                have hP : va_P D vwCl (fk_wm cJ cI cZ am 0 (nI n) lo tn wd sg up dn of bey rnd tx u173.1 u173.2 ++ tl) H := hP
                have hD : va_D A (fk_wm cJ cI cZ am 0 (nI n) lo tn wd sg up dn of bey rnd tx u173.1 u173.2 ++ tl) := hD
                obtain ⟨gr174, kx175a, kx175b⟩ := hw
                have kx175 := fk_kr_1 kx175a kx175b
                have gg177 := fk_G_kr gg168 kx175 (by simp <;> omega)
                have gg178 := fk_G_kr gg169 kx175 (by simp <;> omega)
                have gg179 := fk_G_kr gg170 kx175 (by simp <;> omega)
                have gg180 := fk_G_kr gg171 kx175 (by simp <;> omega)
                have gg181 := fk_G_kr gr165 kx175 (by simp <;> omega)
                have KK182 : fk_kr [0, 1, 4, 5, 6, 7, 8, 9, 10, 11, 12, 13, 16, 17, 18, 19, 20, 22, 23] pt sn u173.1 u173.2 := fk_kr_t KK172 kx175 (fun r hr => by simp at hr ⊢; omega)
                refine lv_aload_n hx hb dX4_apply_176 rfl (lv_at hl 0 rfl) ?_
                refine lv_iconst (v := 0) hx hb dX4_apply_177 (by decide) ?_
                refine lv_bipush (v := 12) hx hb dX4_apply_178 (by decide) ?_
                refine lv_bipush (v := 13) hx hb dX4_apply_180 (by decide) ?_
                refine lv_iload_n hx hb dX4_apply_182 rfl (lv_at hl 1 rfl) ?_
                refine lv_if_ne (tgt := 190) hx hb dX4_apply_183 (by decide) (fun c_183 => ?_) (fun c_183 => ?_)
                · have ho : op = 1 := h01.resolve_left c_183
                  refine lv_iconst (v := (-1)) hx hb dX4_apply_190 (by decide) ?_
                  have b12 : fk_abs (fk_v (kf i) x * fk_dn (kf j)) ≤ 18889465931478580854784000 := by rw [fk_abs_mul]; have := Int.mul_le_mul am1.2 an2.2 an2.1 (by omega); omega
                  have b13 : fk_abs (fk_v (kf j) y * fk_dn (kf i)) ≤ 18889465931478580854784000 := by rw [fk_abs_mul]; have := Int.mul_le_mul am2.2 an1.2 an1.1 (by omega); omega
                  refine fk_cv hD hS hA (va_runV (As := [.int 0, .int 12, .int 13, .int (-1)]) (rest := []) ⟨hx, hb, hml, hown, hts⟩ (kX4_add _ am tl 0 (nI n) lo tn wd sg up dn of bey rnd tx u173.1 u173.2 0 12 13 (-1) _ _ (by omega) (by omega) (by omega) (Or.inr rfl) gg181 gr174 (by rw [fk_p16]; omega)) (cwV 4 hts gX4_apply_X4_add rfl rfl rfl (by decide +kernel) ⟨Nat.le_of_ble_eq_true rfl, Nat.le_of_ble_eq_true rfl⟩) (fk_preV 0 5 hK hN hP hD rfl rfl) rfl rfl hl.1 rfl (lv_room (Nat.le_of_ble_eq_true rfl)) dX4_apply_191 ⟨Nat.le_of_ble_eq_true rfl, Nat.le_of_ble_eq_true rfl⟩) (fun u183 H locs hw hP hD hS => ?_)
                  have hP : va_P D vwCl (fk_wm cJ cI cZ am 0 (nI n) lo tn wd sg up dn of bey rnd tx u183.1 u183.2 ++ tl) H := hP
                  have hD : va_D A (fk_wm cJ cI cZ am 0 (nI n) lo tn wd sg up dn of bey rnd tx u183.1 u183.2 ++ tl) := hD
                  obtain ⟨gr184, kx185a, kx185b⟩ := hw
                  have kx185 := fk_kr_1 kx185a kx185b
                  have gg187 := fk_G_kr gg177 kx185 (by simp <;> omega)
                  have gg188 := fk_G_kr gg178 kx185 (by simp <;> omega)
                  have gg189 := fk_G_kr gg179 kx185 (by simp <;> omega)
                  have gg190 := fk_G_kr gg180 kx185 (by simp <;> omega)
                  have gg191 := fk_G_kr gg181 kx185 (by simp <;> omega)
                  have gg192 := fk_G_kr gr174 kx185 (by simp <;> omega)
                  have KK193 : fk_kr [0, 1, 4, 5, 6, 7, 8, 9, 10, 11, 12, 13, 16, 17, 18, 19, 20, 22, 23] pt sn u183.1 u183.2 := fk_kr_t KK182 kx185 (fun r hr => by simp at hr ⊢; omega)
                  rw [show ((-1) : Int32).toInt = (-1) by decide] at gr184
                  refine lv_aload_n hx hb dX4_apply_194 rfl (lv_at hl 0 rfl) ?_
                  refine lv_iconst (v := 1) hx hb dX4_apply_195 (by decide) ?_
                  refine lv_bipush (v := 9) hx hb dX4_apply_196 (by decide) ?_
                  refine lv_bipush (v := 11) hx hb dX4_apply_198 (by decide) ?_
                  refine fk_cv hD hS hA (va_runV (As := [.int 1, .int 9, .int 11]) (rest := []) ⟨hx, hb, hml, hown, hts⟩ (kX4_multiply _ am tl 0 (nI n) lo tn wd sg up dn of bey rnd tx u183.1 u183.2 1 9 11 _ _ (by omega) (by omega) (by omega) (by omega) (by omega) gg188 gg190 (fk_absM an1 an2 (by decide))) (cwV 3 hts gX4_apply_X4_multiply rfl rfl rfl (by decide +kernel) ⟨Nat.le_of_ble_eq_true rfl, Nat.le_of_ble_eq_true rfl⟩) (fk_preV 0 5 hK hN hP hD rfl rfl) rfl rfl hl.1 rfl (lv_room (Nat.le_of_ble_eq_true rfl)) dX4_apply_200 ⟨Nat.le_of_ble_eq_true rfl, Nat.le_of_ble_eq_true rfl⟩) (fun u194 H locs hw hP hD hS => ?_)
                  have hP : va_P D vwCl (fk_wm cJ cI cZ am 0 (nI n) lo tn wd sg up dn of bey rnd tx u194.1 u194.2 ++ tl) H := hP
                  have hD : va_D A (fk_wm cJ cI cZ am 0 (nI n) lo tn wd sg up dn of bey rnd tx u194.1 u194.2 ++ tl) := hD
                  obtain ⟨gr195, kx196a, kx196b⟩ := hw
                  have kx196 := fk_kr_1 kx196a kx196b
                  have gg198 := fk_G_kr gg187 kx196 (by simp <;> omega)
                  have gg199 := fk_G_kr gg188 kx196 (by simp <;> omega)
                  have gg200 := fk_G_kr gg189 kx196 (by simp <;> omega)
                  have gg201 := fk_G_kr gg190 kx196 (by simp <;> omega)
                  have gg202 := fk_G_kr gg191 kx196 (by simp <;> omega)
                  have gg203 := fk_G_kr gg192 kx196 (by simp <;> omega)
                  have gg204 := fk_G_kr gr184 kx196 (by simp <;> omega)
                  have KK205 : fk_kr [0, 1, 4, 5, 6, 7, 8, 9, 10, 11, 12, 13, 16, 17, 18, 19, 20, 22, 23] pt sn u194.1 u194.2 := fk_kr_t KK193 kx196 (fun r hr => by simp at hr ⊢; omega)
                  refine lv_goto (tgt := 276) hx hb dX4_apply_203 (by decide) ?_
                  have gc0 : fk_G (fk_cN op (fk_v (kf i) x) (fk_dn (kf i)) (fk_v (kf j) y) (fk_dn (kf j))) 0 u194.1 u194.2 := by rw [fk_cN, if_neg (by rw [ho]; decide), if_pos ho]; exact gg204
                  have gc1 : fk_G (fk_cD op (fk_dn (kf i)) (fk_v (kf j) y) (fk_dn (kf j))) 1 u194.1 u194.2 := by rw [fk_cD, if_neg (by rw [ho]; decide)]; exact gr195
                  refine lv_aload_n hx hb dX4_apply_276 rfl (lv_at hl 0 rfl) ?_
                  refine lv_iload_n hx hb dX4_apply_277 rfl (lv_at hl 2 rfl) ?_
                  refine fk_cl hD hS hA (va_runV (As := [.int (nI (i + 1))]) (rest := []) ⟨hx, hb, hml, hown, hts⟩ (kX4_put _ am tl 0 (nI n) lo tn wd sg up dn of bey rnd tx u194.1 u194.2 (i + 1) (kf i).1 (kf i).2.1 (kf i).2.2.1 (kf i).2.2.2.1 (kf i).2.2.2.2.1 (kf i).2.2.2.2.2.1 (kf i).2.2.2.2.2.2 _ _ (by omega) ok_i.1 e1_i e2_i e3_i e4_i e5_i e6_i e7_i ok_i.2.1 ok_i.2.2 gc0 gc1 (fk_c_B hop bv_i bd_i bv_j bd_j hz3)) (cwV 1 hts gX4_apply_X4_put rfl rfl rfl (by decide +kernel) ⟨Nat.le_of_ble_eq_true rfl, Nat.le_of_ble_eq_true rfl⟩) (fk_preV 0 5 hK hN hP hD rfl rfl) rfl rfl hl.1 rfl (lv_room (Nat.le_of_ble_eq_true rfl)) dX4_apply_278 ⟨Nat.le_of_ble_eq_true rfl, Nat.le_of_ble_eq_true rfl⟩) (fun r207 u206 H locs hw hP hD hS => ?_)
                  have hP : va_P D vwCl (fk_wm cJ cI cZ am 0 (nI n) u206.1 tn wd sg up dn of bey rnd tx u206.2.1 u206.2.2 ++ tl) H := hP
                  have hD : va_D A (fk_wm cJ cI cZ am 0 (nI n) u206.1 tn wd sg up dn of bey rnd tx u206.2.1 u206.2.2 ++ tl) := hD
                  obtain ⟨hput, hlst, kp1⟩ := hw
                  rw [hQQ]
                  exact W.lret (v := r207) hx hb hr (fun t ht hW => ⟨⟨r207, (0, u206.1, u206.2.1, u206.2.2), rfl, Or.inr ⟨fun q => hqz ⟨q.2.1, q.2.2.1⟩, rfl, hput.trans (by rw [fk_sApp, if_neg hnap, if_neg hqz, fk_ix_j hi hn40, fk_ix_j hj hn40]; rfl), hlst.trans (by rw [fk_lApp, if_neg hnap, if_neg hqz, fk_ix_j hi hn40, fk_ix_j hj hn40]; rfl)⟩, by rw [ht]; exact hP, va_K.moved hW.alike hK, hD⟩, hS.F ht⟩) hS.2.2 dX4_apply_281
                · have ho : op = 0 := c_183
                  refine lv_iconst (v := 1) hx hb dX4_apply_186 (by decide) ?_
                  refine lv_goto (tgt := 191) hx hb dX4_apply_187 (by decide) ?_
                  have b12 : fk_abs (fk_v (kf i) x * fk_dn (kf j)) ≤ 18889465931478580854784000 := by rw [fk_abs_mul]; have := Int.mul_le_mul am1.2 an2.2 an2.1 (by omega); omega
                  have b13 : fk_abs (fk_v (kf j) y * fk_dn (kf i)) ≤ 18889465931478580854784000 := by rw [fk_abs_mul]; have := Int.mul_le_mul am2.2 an1.2 an1.1 (by omega); omega
                  refine fk_cv hD hS hA (va_runV (As := [.int 0, .int 12, .int 13, .int 1]) (rest := []) ⟨hx, hb, hml, hown, hts⟩ (kX4_add _ am tl 0 (nI n) lo tn wd sg up dn of bey rnd tx u173.1 u173.2 0 12 13 1 _ _ (by omega) (by omega) (by omega) (Or.inl rfl) gg181 gr174 (by rw [fk_p16]; omega)) (cwV 4 hts gX4_apply_X4_add rfl rfl rfl (by decide +kernel) ⟨Nat.le_of_ble_eq_true rfl, Nat.le_of_ble_eq_true rfl⟩) (fk_preV 0 5 hK hN hP hD rfl rfl) rfl rfl hl.1 rfl (lv_room (Nat.le_of_ble_eq_true rfl)) dX4_apply_191 ⟨Nat.le_of_ble_eq_true rfl, Nat.le_of_ble_eq_true rfl⟩) (fun u208 H locs hw hP hD hS => ?_)
                  have hP : va_P D vwCl (fk_wm cJ cI cZ am 0 (nI n) lo tn wd sg up dn of bey rnd tx u208.1 u208.2 ++ tl) H := hP
                  have hD : va_D A (fk_wm cJ cI cZ am 0 (nI n) lo tn wd sg up dn of bey rnd tx u208.1 u208.2 ++ tl) := hD
                  obtain ⟨gr209, kx210a, kx210b⟩ := hw
                  have kx210 := fk_kr_1 kx210a kx210b
                  have gg212 := fk_G_kr gg177 kx210 (by simp <;> omega)
                  have gg213 := fk_G_kr gg178 kx210 (by simp <;> omega)
                  have gg214 := fk_G_kr gg179 kx210 (by simp <;> omega)
                  have gg215 := fk_G_kr gg180 kx210 (by simp <;> omega)
                  have gg216 := fk_G_kr gg181 kx210 (by simp <;> omega)
                  have gg217 := fk_G_kr gr174 kx210 (by simp <;> omega)
                  have KK218 : fk_kr [0, 1, 4, 5, 6, 7, 8, 9, 10, 11, 12, 13, 16, 17, 18, 19, 20, 22, 23] pt sn u208.1 u208.2 := fk_kr_t KK182 kx210 (fun r hr => by simp at hr ⊢; omega)
                  rw [show (1 : Int32).toInt = 1 by decide] at gr209
                  refine lv_aload_n hx hb dX4_apply_194 rfl (lv_at hl 0 rfl) ?_
                  refine lv_iconst (v := 1) hx hb dX4_apply_195 (by decide) ?_
                  refine lv_bipush (v := 9) hx hb dX4_apply_196 (by decide) ?_
                  refine lv_bipush (v := 11) hx hb dX4_apply_198 (by decide) ?_
                  refine fk_cv hD hS hA (va_runV (As := [.int 1, .int 9, .int 11]) (rest := []) ⟨hx, hb, hml, hown, hts⟩ (kX4_multiply _ am tl 0 (nI n) lo tn wd sg up dn of bey rnd tx u208.1 u208.2 1 9 11 _ _ (by omega) (by omega) (by omega) (by omega) (by omega) gg213 gg215 (fk_absM an1 an2 (by decide))) (cwV 3 hts gX4_apply_X4_multiply rfl rfl rfl (by decide +kernel) ⟨Nat.le_of_ble_eq_true rfl, Nat.le_of_ble_eq_true rfl⟩) (fk_preV 0 5 hK hN hP hD rfl rfl) rfl rfl hl.1 rfl (lv_room (Nat.le_of_ble_eq_true rfl)) dX4_apply_200 ⟨Nat.le_of_ble_eq_true rfl, Nat.le_of_ble_eq_true rfl⟩) (fun u219 H locs hw hP hD hS => ?_)
                  have hP : va_P D vwCl (fk_wm cJ cI cZ am 0 (nI n) lo tn wd sg up dn of bey rnd tx u219.1 u219.2 ++ tl) H := hP
                  have hD : va_D A (fk_wm cJ cI cZ am 0 (nI n) lo tn wd sg up dn of bey rnd tx u219.1 u219.2 ++ tl) := hD
                  obtain ⟨gr220, kx221a, kx221b⟩ := hw
                  have kx221 := fk_kr_1 kx221a kx221b
                  have gg223 := fk_G_kr gg212 kx221 (by simp <;> omega)
                  have gg224 := fk_G_kr gg213 kx221 (by simp <;> omega)
                  have gg225 := fk_G_kr gg214 kx221 (by simp <;> omega)
                  have gg226 := fk_G_kr gg215 kx221 (by simp <;> omega)
                  have gg227 := fk_G_kr gg216 kx221 (by simp <;> omega)
                  have gg228 := fk_G_kr gg217 kx221 (by simp <;> omega)
                  have gg229 := fk_G_kr gr209 kx221 (by simp <;> omega)
                  have KK230 : fk_kr [0, 1, 4, 5, 6, 7, 8, 9, 10, 11, 12, 13, 16, 17, 18, 19, 20, 22, 23] pt sn u219.1 u219.2 := fk_kr_t KK218 kx221 (fun r hr => by simp at hr ⊢; omega)
                  refine lv_goto (tgt := 276) hx hb dX4_apply_203 (by decide) ?_
                  have gc0 : fk_G (fk_cN op (fk_v (kf i) x) (fk_dn (kf i)) (fk_v (kf j) y) (fk_dn (kf j))) 0 u219.1 u219.2 := by rw [fk_cN, if_pos ho]; exact gg229
                  have gc1 : fk_G (fk_cD op (fk_dn (kf i)) (fk_v (kf j) y) (fk_dn (kf j))) 1 u219.1 u219.2 := by rw [fk_cD, if_neg (by rw [ho]; decide)]; exact gr220
                  refine lv_aload_n hx hb dX4_apply_276 rfl (lv_at hl 0 rfl) ?_
                  refine lv_iload_n hx hb dX4_apply_277 rfl (lv_at hl 2 rfl) ?_
                  refine fk_cl hD hS hA (va_runV (As := [.int (nI (i + 1))]) (rest := []) ⟨hx, hb, hml, hown, hts⟩ (kX4_put _ am tl 0 (nI n) lo tn wd sg up dn of bey rnd tx u219.1 u219.2 (i + 1) (kf i).1 (kf i).2.1 (kf i).2.2.1 (kf i).2.2.2.1 (kf i).2.2.2.2.1 (kf i).2.2.2.2.2.1 (kf i).2.2.2.2.2.2 _ _ (by omega) ok_i.1 e1_i e2_i e3_i e4_i e5_i e6_i e7_i ok_i.2.1 ok_i.2.2 gc0 gc1 (fk_c_B hop bv_i bd_i bv_j bd_j hz3)) (cwV 1 hts gX4_apply_X4_put rfl rfl rfl (by decide +kernel) ⟨Nat.le_of_ble_eq_true rfl, Nat.le_of_ble_eq_true rfl⟩) (fk_preV 0 5 hK hN hP hD rfl rfl) rfl rfl hl.1 rfl (lv_room (Nat.le_of_ble_eq_true rfl)) dX4_apply_278 ⟨Nat.le_of_ble_eq_true rfl, Nat.le_of_ble_eq_true rfl⟩) (fun r232 u231 H locs hw hP hD hS => ?_)
                  have hP : va_P D vwCl (fk_wm cJ cI cZ am 0 (nI n) u231.1 tn wd sg up dn of bey rnd tx u231.2.1 u231.2.2 ++ tl) H := hP
                  have hD : va_D A (fk_wm cJ cI cZ am 0 (nI n) u231.1 tn wd sg up dn of bey rnd tx u231.2.1 u231.2.2 ++ tl) := hD
                  obtain ⟨hput, hlst, kp1⟩ := hw
                  rw [hQQ]
                  exact W.lret (v := r232) hx hb hr (fun t ht hW => ⟨⟨r232, (0, u231.1, u231.2.1, u231.2.2), rfl, Or.inr ⟨fun q => hqz ⟨q.2.1, q.2.2.1⟩, rfl, hput.trans (by rw [fk_sApp, if_neg hnap, if_neg hqz, fk_ix_j hi hn40, fk_ix_j hj hn40]; rfl), hlst.trans (by rw [fk_lApp, if_neg hnap, if_neg hqz, fk_ix_j hi hn40, fk_ix_j hj hn40]; rfl)⟩, by rw [ht]; exact hP, va_K.moved hW.alike hK, hD⟩, hS.F ht⟩) hS.2.2 dX4_apply_281
            · rw [ga_j.2, fk_cmp_ne] at c_58
              have hqz : fk_qz kf op (nI (j + 1)) y := ⟨c_48, by rw [fk_ix_j hj hn40]; exact c_58⟩
              refine lv_aload_n hx hb dX4_apply_61 rfl (lv_at hl 0 rfl) ?_
              refine lv_aload_n hx hb dX4_apply_62 rfl (lv_at hl 0 rfl) ?_
              refine va_get (D := D) (ci := 5) (v := .ref (am 6)) (C := RX4) (T := TX4) (N := 14) hx hb hts k2 hown hK hP 0 rfl rfl 7 (by decide) k3 (fun _ h9 => h9) rfl dX4_apply_63 ?_
              refine lv_iload_n hx hb dX4_apply_66 rfl (lv_at hl 2 rfl) ?_
              refine fk_iald hx hb hK hP 6 2 rfl rfl (i := i + 1) (by omega) (by decide) dX4_apply_67 ?_
              rw [e6_i]
              refine lv_if_ne (tgt := 75) hx hb dX4_apply_68 (by decide) (fun c_68 => ?_) (fun c_68 => ?_)
              · have hthr : fk_thr n kf op (nI (i + 1)) (nI (j + 1)) y := ⟨hnap, hqz.1, hqz.2, by rw [fk_ix_j hi hn40]; exact c_68⟩
                refine lv_iconst (v := 1) hx hb dX4_apply_75 (by decide) ?_
                refine va_put (D := D) (ci := 5) (v := .int 1) (ty := (.int)) (C := RX4) (T := TX4) (N := 14) hx hb hts k2 tyX4 tyX4_ok nmX4 hown hK hP hD hS 0 rfl rfl 0 (by decide) k4 (fun _ h9 => h9) rfl (by decide +kernel) rfl rfl (Nat.le_of_ble_eq_true rfl) dX4_apply_76 (fun H locs hP hD hS => ?_)
                have hP : va_P D vwCl (fk_wm cJ cI cZ am 1 (nI n) lo tn wd sg up dn of bey rnd tx u6.1 u6.2 ++ tl) H := hP
                have hD : va_D A (fk_wm cJ cI cZ am 1 (nI n) lo tn wd sg up dn of bey rnd tx u6.1 u6.2 ++ tl) := hD
                refine lv_aload_n hx hb dX4_apply_79 rfl (lv_at hl 0 rfl) ?_
                refine va_get (D := D) (ci := 5) (v := .int 1) (C := RX4) (T := TX4) (N := 14) hx hb hts k2 hown hK hP 0 rfl rfl 0 (by decide) k4 (fun _ h9 => h9) rfl dX4_apply_80 ?_
                refine lv_if_le (tgt := 88) hx hb dX4_apply_83 (by decide) (fun c_83 => False.elim (absurd c_83 (by decide))) (fun c_83 => ?_)
                refine lv_lconst (v := 0) hx hb dX4_apply_86 (by decide) ?_
                rw [hQQ]
                exact W.lret (v := 0) hx hb hr (fun t ht hW => ⟨⟨0, (1, lo, u6.1, u6.2), rfl, Or.inl ⟨hthr, rfl, rfl⟩, by rw [ht]; exact hP, va_K.moved hW.alike hK, hD⟩, hS.F ht⟩) hS.2.2 dX4_apply_87
              · have hthr : ¬ fk_thr n kf op (nI (i + 1)) (nI (j + 1)) y := fun q => by have z := q.2.2.2; rw [fk_ix_j hi hn40] at z; exact z c_68
                refine lv_iconst (v := 0) hx hb dX4_apply_71 (by decide) ?_
                refine lv_goto (tgt := 76) hx hb dX4_apply_72 (by decide) ?_
                refine va_put (D := D) (ci := 5) (v := .int 0) (ty := (.int)) (C := RX4) (T := TX4) (N := 14) hx hb hts k2 tyX4 tyX4_ok nmX4 hown hK hP hD hS 0 rfl rfl 0 (by decide) k4 (fun _ h9 => h9) rfl (by decide +kernel) rfl rfl (Nat.le_of_ble_eq_true rfl) dX4_apply_76 (fun H locs hP hD hS => ?_)
                have hP : va_P D vwCl (fk_wm cJ cI cZ am 0 (nI n) lo tn wd sg up dn of bey rnd tx u6.1 u6.2 ++ tl) H := hP
                have hD : va_D A (fk_wm cJ cI cZ am 0 (nI n) lo tn wd sg up dn of bey rnd tx u6.1 u6.2 ++ tl) := hD
                refine lv_aload_n hx hb dX4_apply_79 rfl (lv_at hl 0 rfl) ?_
                refine va_get (D := D) (ci := 5) (v := .int 0) (C := RX4) (T := TX4) (N := 14) hx hb hts k2 hown hK hP 0 rfl rfl 0 (by decide) k4 (fun _ h9 => h9) rfl dX4_apply_80 ?_
                refine lv_if_le (tgt := 88) hx hb dX4_apply_83 (by decide) (fun c_83 => ?_) (fun c_83 => False.elim (absurd (by decide) c_83))
                refine lv_aload_n hx hb dX4_apply_88 rfl (lv_at hl 0 rfl) ?_
                refine lv_iconst (v := 0) hx hb dX4_apply_89 (by decide) ?_
                refine lv_lconst (v := 0) hx hb dX4_apply_90 (by decide) ?_
                refine fk_cv hD hS hA (va_runV (As := [.int 0, .long 0]) (rest := []) ⟨hx, hb, hml, hown, hts⟩ (kX4_set _ am tl 0 (nI n) lo tn wd sg up dn of bey rnd tx u6.1 u6.2 0 0 (by omega)) (cwV 2 hts gX4_apply_X4_set rfl rfl rfl (by decide +kernel) ⟨Nat.le_of_ble_eq_true rfl, Nat.le_of_ble_eq_true rfl⟩) (fk_preV 0 5 hK hN hP hD rfl rfl) rfl rfl hl.1 rfl (lv_room (Nat.le_of_ble_eq_true rfl)) dX4_apply_91 ⟨Nat.le_of_ble_eq_true rfl, Nat.le_of_ble_eq_true rfl⟩) (fun u233 H locs hw hP hD hS => ?_)
                have hP : va_P D vwCl (fk_wm cJ cI cZ am 0 (nI n) lo tn wd sg up dn of bey rnd tx u233.1 u233.2 ++ tl) H := hP
                have hD : va_D A (fk_wm cJ cI cZ am 0 (nI n) lo tn wd sg up dn of bey rnd tx u233.1 u233.2 ++ tl) := hD
                obtain ⟨gr234, kx235a, kx235b⟩ := hw
                have kx235 := fk_kr_1 kx235a kx235b
                have gg237 := fk_G_kr gg8 kx235 (by simp <;> omega)
                have gg238 := fk_G_kr gg9 kx235 (by simp <;> omega)
                have gg239 := fk_G_kr ga_j kx235 (by simp <;> omega)
                have gg240 := fk_G_kr gb_j kx235 (by simp <;> omega)
                have KK241 : fk_kr [0, 1, 4, 5, 6, 7, 8, 9, 10, 11, 12, 13, 16, 17, 18, 19, 20, 22, 23] pt sn u233.1 u233.2 := fk_kr_t KK10 kx235 (fun r hr => by simp at hr ⊢; omega)
                rw [show (0 : Int64).toInt = 0 by decide] at gr234
                refine lv_aload_n hx hb dX4_apply_94 rfl (lv_at hl 0 rfl) ?_
                refine lv_iconst (v := 1) hx hb dX4_apply_95 (by decide) ?_
                refine lv_lconst (v := 1) hx hb dX4_apply_96 (by decide) ?_
                refine fk_cv hD hS hA (va_runV (As := [.int 1, .long 1]) (rest := []) ⟨hx, hb, hml, hown, hts⟩ (kX4_set _ am tl 0 (nI n) lo tn wd sg up dn of bey rnd tx u233.1 u233.2 1 1 (by omega)) (cwV 2 hts gX4_apply_X4_set rfl rfl rfl (by decide +kernel) ⟨Nat.le_of_ble_eq_true rfl, Nat.le_of_ble_eq_true rfl⟩) (fk_preV 0 5 hK hN hP hD rfl rfl) rfl rfl hl.1 rfl (lv_room (Nat.le_of_ble_eq_true rfl)) dX4_apply_97 ⟨Nat.le_of_ble_eq_true rfl, Nat.le_of_ble_eq_true rfl⟩) (fun u242 H locs hw hP hD hS => ?_)
                have hP : va_P D vwCl (fk_wm cJ cI cZ am 0 (nI n) lo tn wd sg up dn of bey rnd tx u242.1 u242.2 ++ tl) H := hP
                have hD : va_D A (fk_wm cJ cI cZ am 0 (nI n) lo tn wd sg up dn of bey rnd tx u242.1 u242.2 ++ tl) := hD
                obtain ⟨gr243, kx244a, kx244b⟩ := hw
                have kx244 := fk_kr_1 kx244a kx244b
                have gg246 := fk_G_kr gg237 kx244 (by simp <;> omega)
                have gg247 := fk_G_kr gg238 kx244 (by simp <;> omega)
                have gg248 := fk_G_kr gg239 kx244 (by simp <;> omega)
                have gg249 := fk_G_kr gg240 kx244 (by simp <;> omega)
                have gg250 := fk_G_kr gr234 kx244 (by simp <;> omega)
                have KK251 : fk_kr [0, 1, 4, 5, 6, 7, 8, 9, 10, 11, 12, 13, 16, 17, 18, 19, 20, 22, 23] pt sn u242.1 u242.2 := fk_kr_t KK241 kx244 (fun r hr => by simp at hr ⊢; omega)
                rw [show (1 : Int64).toInt = 1 by decide] at gr243
                refine lv_aload_n hx hb dX4_apply_100 rfl (lv_at hl 0 rfl) ?_
                refine va_get (D := D) (ci := 5) (v := .ref (am 10)) (C := RX4) (T := TX4) (N := 14) hx hb hts k2 hown hK hP 0 rfl rfl 13 (by decide) k1 (fun _ h9 => h9) rfl dX4_apply_101 ?_
                refine lv_bipush (v := 8) hx hb dX4_apply_104 (by decide) ?_
                refine fk_iald hx hb hK hP 10 2 rfl rfl (i := 8) (by decide) (by decide) dX4_apply_106 ?_
                refine lv_if_le (tgt := 118) hx hb dX4_apply_107 (by decide) (fun c_107 => ?_) (fun c_107 => ?_)
                · rw [gg246.2, Int32.le_iff_toInt_le, show (0 : Int32).toInt = 0 by decide, fk_cmp_le] at c_107
                  refine lv_aload_n hx hb dX4_apply_118 rfl (lv_at hl 0 rfl) ?_
                  refine va_get (D := D) (ci := 5) (v := .ref (am 10)) (C := RX4) (T := TX4) (N := 14) hx hb hts k2 hown hK hP 0 rfl rfl 13 (by decide) k1 (fun _ h9 => h9) rfl dX4_apply_119 ?_
                  refine lv_bipush (v := 8) hx hb dX4_apply_122 (by decide) ?_
                  refine fk_iald hx hb hK hP 10 2 rfl rfl (i := 8) (by decide) (by decide) dX4_apply_124 ?_
                  refine lv_if_ge (tgt := 136) hx hb dX4_apply_125 (by decide) (fun c_125 => ?_) (fun c_125 => ?_)
                  · rw [gg246.2, Int32.le_iff_toInt_le, show (0 : Int32).toInt = 0 by decide, fk_cmp_ge] at c_125
                    refine lv_aload_n hx hb dX4_apply_136 rfl (lv_at hl 0 rfl) ?_
                    refine lv_iload_n hx hb dX4_apply_137 rfl (lv_at hl 2 rfl) ?_
                    refine fk_cl hD hS hA (va_runV (As := [.int (nI (i + 1))]) (rest := []) ⟨hx, hb, hml, hown, hts⟩ (kX4_put _ am tl 0 (nI n) lo tn wd sg up dn of bey rnd tx u242.1 u242.2 (i + 1) (kf i).1 (kf i).2.1 (kf i).2.2.1 (kf i).2.2.2.1 (kf i).2.2.2.2.1 (kf i).2.2.2.2.2.1 (kf i).2.2.2.2.2.2 _ _ (by omega) ok_i.1 e1_i e2_i e3_i e4_i e5_i e6_i e7_i ok_i.2.1 ok_i.2.2 gg250 gr243 ⟨⟨by omega, by omega⟩, by omega, by omega⟩) (cwV 1 hts gX4_apply_X4_put rfl rfl rfl (by decide +kernel) ⟨Nat.le_of_ble_eq_true rfl, Nat.le_of_ble_eq_true rfl⟩) (fk_preV 0 5 hK hN hP hD rfl rfl) rfl rfl hl.1 rfl (lv_room (Nat.le_of_ble_eq_true rfl)) dX4_apply_138 ⟨Nat.le_of_ble_eq_true rfl, Nat.le_of_ble_eq_true rfl⟩) (fun r253 u252 H locs hw hP hD hS => ?_)
                    have hP : va_P D vwCl (fk_wm cJ cI cZ am 0 (nI n) u252.1 tn wd sg up dn of bey rnd tx u252.2.1 u252.2.2 ++ tl) H := hP
                    have hD : va_D A (fk_wm cJ cI cZ am 0 (nI n) u252.1 tn wd sg up dn of bey rnd tx u252.2.1 u252.2.2 ++ tl) := hD
                    obtain ⟨hput, hlst, kp1⟩ := hw
                    refine lv_lstore (lv' := [(8, .long r253), (0, .ref (am 0)), (1, .int op), (2, .int (nI (i + 1))), (3, .long x), (5, .int (nI (j + 1))), (6, .long y)]) hx hb dX4_apply_141 hl (by decide) rfl (fun ls hl => ?_)
                    refine lv_aload_n hx hb dX4_apply_143 rfl (lv_at hl 1 rfl) ?_
                    refine lv_iconst (v := 1) hx hb dX4_apply_144 (by decide) ?_
                    refine va_put (D := D) (ci := 5) (v := .int 1) (ty := (.boolean)) (C := RX4) (T := TX4) (N := 14) hx hb hts k2 tyX4 tyX4_ok nmX4 hown hK hP hD hS 0 rfl rfl 9 (by decide) k5 (fun _ h9 => h9) rfl (by decide +kernel) rfl rfl (Nat.le_of_ble_eq_true rfl) dX4_apply_145 (fun H locs hP hD hS => ?_)
                    have hP : va_P D vwCl (fk_wm cJ cI cZ am 0 (nI n) 1 tn wd sg up dn of bey rnd tx u252.2.1 u252.2.2 ++ tl) H := hP
                    have hD : va_D A (fk_wm cJ cI cZ am 0 (nI n) 1 tn wd sg up dn of bey rnd tx u252.2.1 u252.2.2 ++ tl) := hD
                    refine lv_lload hx hb dX4_apply_148 (lv_at hl 0 rfl) ?_
                    rw [hQQ]
                    exact W.lret (v := r253) hx hb hr (fun t ht hW => ⟨⟨r253, (0, 1, u252.2.1, u252.2.2), rfl, Or.inr ⟨hthr, rfl, (by rw [fk_sApp, if_neg hnap, if_pos hqz, fk_ix_j hi hn40, fk_q0, if_neg c_107, if_neg c_125, show fk_v (kf i) x = 0 by omega]; exact hput), (by rw [fk_lApp, if_neg hnap, if_pos hqz])⟩, by rw [ht]; exact hP, va_K.moved hW.alike hK, hD⟩, hS.F ht⟩) hS.2.2 dX4_apply_150
                  · rw [gg246.2, Int32.le_iff_toInt_le, show (0 : Int32).toInt = 0 by decide, fk_cmp_ge] at c_125
                    refine lv_aload_n hx hb dX4_apply_128 rfl (lv_at hl 0 rfl) ?_
                    refine lv_iload_n hx hb dX4_apply_129 rfl (lv_at hl 2 rfl) ?_
                    refine fk_cl hD hS hA (va_runV (As := [.int (nI (i + 1))]) (rest := []) ⟨hx, hb, hml, hown, hts⟩ (kX4_least _ am tl 0 (nI n) lo tn wd sg up dn of bey rnd tx u242.1 u242.2 (i + 1) (kf i).1 (kf i).2.1 (by omega) okw_i e1_i e2_i) (cwV 1 hts gX4_apply_X4_least rfl rfl rfl (by decide +kernel) ⟨Nat.le_of_ble_eq_true rfl, Nat.le_of_ble_eq_true rfl⟩) (fk_preV 0 5 hK hN hP hD rfl rfl) rfl rfl hl.1 rfl (lv_room (Nat.le_of_ble_eq_true rfl)) dX4_apply_130 ⟨Nat.le_of_ble_eq_true rfl, Nat.le_of_ble_eq_true rfl⟩) (fun r254 u H locs hw hP hD hS => ?_)
                    have hP : va_P D vwCl (fk_wm cJ cI cZ am 0 (nI n) lo tn wd sg up dn of bey rnd tx u242.1 u242.2 ++ tl) H := hP
                    have hD : va_D A (fk_wm cJ cI cZ am 0 (nI n) lo tn wd sg up dn of bey rnd tx u242.1 u242.2 ++ tl) := hD
                    have hput := hw
                    refine lv_goto (tgt := 141) hx hb dX4_apply_133 (by decide) ?_
                    refine lv_lstore (lv' := [(8, .long r254), (0, .ref (am 0)), (1, .int op), (2, .int (nI (i + 1))), (3, .long x), (5, .int (nI (j + 1))), (6, .long y)]) hx hb dX4_apply_141 hl (by decide) rfl (fun ls hl => ?_)
                    refine lv_aload_n hx hb dX4_apply_143 rfl (lv_at hl 1 rfl) ?_
                    refine lv_iconst (v := 1) hx hb dX4_apply_144 (by decide) ?_
                    refine va_put (D := D) (ci := 5) (v := .int 1) (ty := (.boolean)) (C := RX4) (T := TX4) (N := 14) hx hb hts k2 tyX4 tyX4_ok nmX4 hown hK hP hD hS 0 rfl rfl 9 (by decide) k5 (fun _ h9 => h9) rfl (by decide +kernel) rfl rfl (Nat.le_of_ble_eq_true rfl) dX4_apply_145 (fun H locs hP hD hS => ?_)
                    have hP : va_P D vwCl (fk_wm cJ cI cZ am 0 (nI n) 1 tn wd sg up dn of bey rnd tx u242.1 u242.2 ++ tl) H := hP
                    have hD : va_D A (fk_wm cJ cI cZ am 0 (nI n) 1 tn wd sg up dn of bey rnd tx u242.1 u242.2 ++ tl) := hD
                    refine lv_lload hx hb dX4_apply_148 (lv_at hl 0 rfl) ?_
                    rw [hQQ]
                    exact W.lret (v := r254) hx hb hr (fun t ht hW => ⟨⟨r254, (0, 1, u242.1, u242.2), rfl, Or.inr ⟨hthr, rfl, (by rw [fk_sApp, if_neg hnap, if_pos hqz, fk_ix_j hi hn40, fk_q0, if_neg c_107, if_pos (by omega)]; exact hput), (by rw [fk_lApp, if_neg hnap, if_pos hqz])⟩, by rw [ht]; exact hP, va_K.moved hW.alike hK, hD⟩, hS.F ht⟩) hS.2.2 dX4_apply_150
                · rw [gg246.2, Int32.le_iff_toInt_le, show (0 : Int32).toInt = 0 by decide, fk_cmp_le] at c_107
                  refine lv_aload_n hx hb dX4_apply_110 rfl (lv_at hl 0 rfl) ?_
                  refine lv_iload_n hx hb dX4_apply_111 rfl (lv_at hl 2 rfl) ?_
                  refine fk_cl hD hS hA (va_runV (As := [.int (nI (i + 1))]) (rest := []) ⟨hx, hb, hml, hown, hts⟩ (kX4_most _ am tl 0 (nI n) lo tn wd sg up dn of bey rnd tx u242.1 u242.2 (i + 1) (kf i).1 (kf i).2.1 (by omega) okw_i e1_i e2_i) (cwV 1 hts gX4_apply_X4_most rfl rfl rfl (by decide +kernel) ⟨Nat.le_of_ble_eq_true rfl, Nat.le_of_ble_eq_true rfl⟩) (fk_preV 0 5 hK hN hP hD rfl rfl) rfl rfl hl.1 rfl (lv_room (Nat.le_of_ble_eq_true rfl)) dX4_apply_112 ⟨Nat.le_of_ble_eq_true rfl, Nat.le_of_ble_eq_true rfl⟩) (fun r255 u H locs hw hP hD hS => ?_)
                  have hP : va_P D vwCl (fk_wm cJ cI cZ am 0 (nI n) lo tn wd sg up dn of bey rnd tx u242.1 u242.2 ++ tl) H := hP
                  have hD : va_D A (fk_wm cJ cI cZ am 0 (nI n) lo tn wd sg up dn of bey rnd tx u242.1 u242.2 ++ tl) := hD
                  have hput := hw
                  refine lv_goto (tgt := 141) hx hb dX4_apply_115 (by decide) ?_
                  refine lv_lstore (lv' := [(8, .long r255), (0, .ref (am 0)), (1, .int op), (2, .int (nI (i + 1))), (3, .long x), (5, .int (nI (j + 1))), (6, .long y)]) hx hb dX4_apply_141 hl (by decide) rfl (fun ls hl => ?_)
                  refine lv_aload_n hx hb dX4_apply_143 rfl (lv_at hl 1 rfl) ?_
                  refine lv_iconst (v := 1) hx hb dX4_apply_144 (by decide) ?_
                  refine va_put (D := D) (ci := 5) (v := .int 1) (ty := (.boolean)) (C := RX4) (T := TX4) (N := 14) hx hb hts k2 tyX4 tyX4_ok nmX4 hown hK hP hD hS 0 rfl rfl 9 (by decide) k5 (fun _ h9 => h9) rfl (by decide +kernel) rfl rfl (Nat.le_of_ble_eq_true rfl) dX4_apply_145 (fun H locs hP hD hS => ?_)
                  have hP : va_P D vwCl (fk_wm cJ cI cZ am 0 (nI n) 1 tn wd sg up dn of bey rnd tx u242.1 u242.2 ++ tl) H := hP
                  have hD : va_D A (fk_wm cJ cI cZ am 0 (nI n) 1 tn wd sg up dn of bey rnd tx u242.1 u242.2 ++ tl) := hD
                  refine lv_lload hx hb dX4_apply_148 (lv_at hl 0 rfl) ?_
                  rw [hQQ]
                  exact W.lret (v := r255) hx hb hr (fun t ht hW => ⟨⟨r255, (0, 1, u242.1, u242.2), rfl, Or.inr ⟨hthr, rfl, (by rw [fk_sApp, if_neg hnap, if_pos hqz, fk_ix_j hi hn40, fk_q0, if_pos (by omega)]; exact hput), (by rw [fk_lApp, if_neg hnap, if_pos hqz])⟩, by rw [ht]; exact hP, va_K.moved hW.alike hK, hD⟩, hS.F ht⟩) hS.2.2 dX4_apply_150
        · rw [Int32.le_iff_toInt_le, show (3 : Int32).toInt = 3 by decide] at c_23
          refine lv_lconst (v := 0) hx hb dX4_apply_26 (by decide) ?_
          rw [hQQ]
          exact W.lret (v := 0) hx hb hr (fun t ht hW => ⟨⟨0, (0, lo, pt, sn), rfl, Or.inr ⟨fun q => q.1 (Or.inr (Or.inr (Or.inr (by omega)))), rfl, (by rw [fk_sApp, if_pos (show fk_nap n op _ _ from Or.inr (Or.inr (Or.inr (by omega))))]; decide), (by rw [fk_lApp, if_pos (show fk_nap n op _ _ from Or.inr (Or.inr (Or.inr (by omega))))])⟩, by rw [ht]; exact hP, va_K.moved hW.alike hK, hD⟩, hS.F ht⟩) hS.2.2 dX4_apply_27
