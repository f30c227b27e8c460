/-! Reference: copy, set, by program -/
abbrev rmX4_copy : Room := { frames := 0, cells := 0, slots := 0, locals := 0 }
set_option maxHeartbeats 4000000 in
set_option maxRecDepth 100000 in
/-- copy -/
theorem kX4_copy {l : Launch} {D : va_G} {cJ cC cI cZ cK : ClassId} (sz : Nat) (am : Nat → Nat) (tl : va_W) (cd kn lo tn : Int32) (wd sg : Nat → Int32) (up dn of : Nat → Int64) (bey rnd tx pt sn : Nat → Int32) (p0 ra : Nat) (x : Int) (hp : p0 < 24) (hra : ra < 24) (hne : p0 ≠ ra) (gA : fk_G x ra pt sn) : Met l yX4_copy wsX4_copy rmX4_copy (va_Pc [.ref (am 0), .int (nI p0), .int (nI ra)] (fk_pre D (fk_ty cJ cC cI cZ cK) (fk_wm cJ cI cZ am cd kn lo tn wd sg up dn of bey rnd tx pt sn ++ tl) sz)) (va_Qv (fun u : (Nat → Int32) × (Nat → Int32) => fk_G x p0 u.1 u.2 ∧ fk_fp p0 pt u.1 ∧ fk_fs p0 sn u.2) (fk_Bd D (fk_ty cJ cC cI cZ cK) (va_A (fk_wm cJ cI cZ am cd kn lo tn wd sg up dn of bey rnd tx pt sn ++ tl) sz) (fun u : (Nat → Int32) × (Nat → Int32) => fk_wm cJ cI cZ am cd kn lo tn wd sg up dn of bey rnd tx u.1 u.2 ++ tl)) (va_A (fk_wm cJ cI cZ am cd kn lo tn wd sg up dn of bey rnd tx pt sn ++ tl) sz)) 0 0 (va_A (fk_wm cJ cI cZ am cd kn lo tn wd sg up dn of bey rnd tx pt sn ++ tl) sz) := by
  refine fk_ofW cX4_copy 4 none (fun A => va_Qv (fun u : (Nat → Int32) × (Nat → Int32) => fk_G x p0 u.1 u.2 ∧ fk_fp p0 pt u.1 ∧ fk_fs p0 sn u.2) (fk_Bd D (fk_ty cJ cC cI cZ cK) A (fun u : (Nat → Int32) × (Nat → Int32) => fk_wm cJ cI cZ am cd kn lo tn wd sg up dn of bey rnd tx u.1 u.2 ++ tl)) A) rfl (by decide) (Nat.le_of_ble_eq_true rfl) ?_
  intro p e s m below meth c A ls args QQ hQQ hAt hP hK hN hD hA hS hl
  obtain ⟨⟨hx, hb, hml, hown, hts⟩, hr, hlocks, hin⟩ := hAt
  have hl : lv_has ls 4 [(0, .ref (am 0)), (1, .int (nI p0)), (2, .int (nI ra))] := hl
  have k1 := hts (.fieldLink RX4 39 "FixedKindsModel" "sign" "[I") (by decide +kernel)
  have k2 := (by decide +kernel : ∀ w ∈ u_ws RX4 TX4 14, w ∈ wsX4_copy)
  have k3 := hts (.fieldLink RX4 36 "FixedKindsModel" "part" "[I") (by decide +kernel)
  refine lv_iconst (v := 0) hx hb dX4_copy_0 (by decide) ?_
  refine lv_istore_n (lv' := [(3, .int 0), (0, .ref (am 0)), (1, .int (nI p0)), (2, .int (nI ra))]) hx hb dX4_copy_1 rfl hl (by decide) rfl (fun ls hl => ?_)
  have L2 : ∀ (fu2 : Nat) (k : Nat) (pv : Nat → Int32), 16 - k < fu2 → (k ≤ 16) → (∀ j, j < k → pv (16 * p0 + j) = pt (16 * ra + j)) → (fk_fp p0 pt pv) → ∀ (H : Heap) (locs : List Loc) (ls : Array Slot), va_P D vwCl (fk_wm cJ cI cZ am cd kn lo tn wd sg up dn of bey rnd tx pv sn ++ tl) H → va_D A (fk_wm cJ cI cZ am cd kn lo tn wd sg up dn of bey rnd tx pv sn ++ tl) → va_S A s.heap H locs → lv_has ls 4 [(0, .ref (am 0)), (1, .int (nI p0)), (2, .int (nI ra)), (3, .int (nI k))] → W p l e rmX4_copy s m args below meth c H locs 0 0 QQ (F0 m 2 ls []) := by
    intro fu2
    induction fu2 with
    | zero => intro k pv hfu; exact absurd hfu (Nat.not_lt_zero _)
    | succ fu2 ih2 =>
      intro k pv hfu2 hk hc hfr H locs ls hP hD hS hl
      refine lv_iload_n hx hb dX4_copy_2 rfl (lv_at hl 3 rfl) ?_
      refine lv_bipush (v := 16) hx hb dX4_copy_3 (by decide) ?_
      refine lv_icmp_ge (tgt := 36) hx hb dX4_copy_5 (by decide) (fun c_5 => ?_) (fun c_5 => ?_)
      · have hk16 : k = 16 := by have q := (nI_leI (a := 16) (b := k) (by omega) (by omega)).mp c_5; omega
        subst hk16
        refine lv_aload_n hx hb dX4_copy_36 rfl (lv_at hl 0 rfl) ?_
        refine va_get (D := D) (ci := 5) (v := .ref (am 10)) (C := RX4) (T := TX4) (N := 14) hx hb hts k2 hown hK hP 0 rfl rfl 13 (by decide) k1 (fun _ h9 => h9) rfl dX4_copy_37 ?_
        refine lv_iload_n hx hb dX4_copy_40 rfl (lv_at hl 1 rfl) ?_
        refine lv_aload_n hx hb dX4_copy_41 rfl (lv_at hl 0 rfl) ?_
        refine va_get (D := D) (ci := 5) (v := .ref (am 10)) (C := RX4) (T := TX4) (N := 14) hx hb hts k2 hown hK hP 0 rfl rfl 13 (by decide) k1 (fun _ h9 => h9) rfl dX4_copy_42 ?_
        refine lv_iload_n hx hb dX4_copy_45 rfl (lv_at hl 2 rfl) ?_
        refine fk_iald hx hb hK hP 10 2 rfl rfl (i := ra) hra (by decide) dX4_copy_46 ?_
        refine fk_iast hx hb hK hP hD hS 10 2 rfl rfl (i := p0) hp (by decide) dX4_copy_47 (fun H locs hP hD hS => ?_)
        have hP : va_P D vwCl (fk_wm cJ cI cZ am cd kn lo tn wd sg up dn of bey rnd tx pv (upd sn p0 (sn ra)) ++ tl) H := hP
        have hD : va_D A (fk_wm cJ cI cZ am cd kn lo tn wd sg up dn of bey rnd tx pv (upd sn p0 (sn ra)) ++ tl) := hD
        have e : ∀ j, j < 16 → fk_M pv p0 j = fk_M pt ra j := fun j hj => by rw [fk_M, fk_M, hc j hj]
        rw [hQQ]
        exact W.vret hx hb hr (fun t ht hW => ⟨⟨(pv, upd sn p0 (sn ra)), rfl, ⟨⟨⟨fun j hj => by rw [e j hj]; exact gA.1.1 j hj, by rw [fk_T_congr e]; exact gA.1.2⟩, by show upd sn p0 (sn ra) p0 = _; rw [pk_us]; exact gA.2⟩, hfr, fk_fs_u _ _ _⟩, by rw [ht]; exact hP, va_K.moved hW.alike hK, hD⟩, hS.F ht⟩) hS.2.2 dX4_copy_48
      · have hk16 : k < 16 := by rcases Nat.lt_or_ge k 16 with q | q; exact q; exact absurd ((nI_leI (a := 16) (b := k) (by omega) (by omega)).mpr q) c_5
        refine lv_aload_n hx hb dX4_copy_8 rfl (lv_at hl 0 rfl) ?_
        refine va_get (D := D) (ci := 5) (v := .ref (am 9)) (C := RX4) (T := TX4) (N := 14) hx hb hts k2 hown hK hP 0 rfl rfl 12 (by decide) k3 (fun _ h9 => h9) rfl dX4_copy_9 ?_
        refine lv_bipush (v := 16) hx hb dX4_copy_12 (by decide) ?_
        refine lv_iload_n hx hb dX4_copy_14 rfl (lv_at hl 1 rfl) ?_
        refine lv_imul hx hb dX4_copy_15 ?_
        refine lv_topi (fun x1 ex1 => ?_)
        have ex1q : x1 = nI (16 * p0) := by
          rw [ex1]; exact pk_mul 16 p0
        subst ex1q
        refine lv_iload_n hx hb dX4_copy_16 rfl (lv_at hl 3 rfl) ?_
        refine lv_iadd hx hb dX4_copy_17 ?_
        refine lv_topi (fun x2 ex2 => ?_)
        have ex2q : x2 = nI (16 * p0 + k) := by
          rw [ex2]; exact nI_add (16 * p0) k
        subst ex2q
        refine lv_aload_n hx hb dX4_copy_18 rfl (lv_at hl 0 rfl) ?_
        refine va_get (D := D) (ci := 5) (v := .ref (am 9)) (C := RX4) (T := TX4) (N := 14) hx hb hts k2 hown hK hP 0 rfl rfl 12 (by decide) k3 (fun _ h9 => h9) rfl dX4_copy_19 ?_
        refine lv_bipush (v := 16) hx hb dX4_copy_22 (by decide) ?_
        refine lv_iload_n hx hb dX4_copy_24 rfl (lv_at hl 2 rfl) ?_
        refine lv_imul hx hb dX4_copy_25 ?_
        refine lv_topi (fun x3 ex3 => ?_)
        have ex3q : x3 = nI (16 * ra) := by
          rw [ex3]; exact pk_mul 16 ra
        subst ex3q
        refine lv_iload_n hx hb dX4_copy_26 rfl (lv_at hl 3 rfl) ?_
        refine lv_iadd hx hb dX4_copy_27 ?_
        refine lv_topi (fun x4 ex4 => ?_)
        have ex4q : x4 = nI (16 * ra + k) := by
          rw [ex4]; exact nI_add (16 * ra) k
        subst ex4q
        refine fk_iald hx hb hK hP 9 2 rfl rfl (i := 16 * ra + k) (by omega) (by decide) dX4_copy_28 ?_
        refine fk_iast hx hb hK hP hD hS 9 2 rfl rfl (i := 16 * p0 + k) (by omega) (by decide) dX4_copy_29 (fun H locs hP hD hS => ?_)
        have hP : va_P D vwCl (fk_wm cJ cI cZ am cd kn lo tn wd sg up dn of bey rnd tx (upd pv (16 * p0 + k) (pv (16 * ra + k))) sn ++ tl) H := hP
        have hD : va_D A (fk_wm cJ cI cZ am cd kn lo tn wd sg up dn of bey rnd tx (upd pv (16 * p0 + k) (pv (16 * ra + k))) sn ++ tl) := hD
        have hsrc : pv (16 * ra + k) = pt (16 * ra + k) := hfr _ (by omega)
        have a3 : ∀ j, j < k + 1 → upd pv (16 * p0 + k) (pv (16 * ra + k)) (16 * p0 + j) = pt (16 * ra + j) := by
          intro j hj
          by_cases q : j = k
          · subst q; rw [pk_us]; exact hsrc
          · rw [pk_un (by omega)]; exact hc j (by omega)
        have a4 := fk_fp_t hfr (fk_fp_u (p := p0) (pt := pv) (y := pv (16 * ra + k)) hk16)
        refine lv_iinc (v := nI (k + 1)) (lv' := [(3, .int (nI (k + 1))), (0, .ref (am 0)), (1, .int (nI p0)), (2, .int (nI ra))]) hx hb dX4_copy_30 hl (k := 3) rfl (by exact nI_1 k) (by decide) rfl (fun ls hl => ?_)
        refine lv_goto (tgt := 2) hx hb dX4_copy_33 (by decide) ?_
        exact ih2 (k + 1) (upd pv (16 * p0 + k) (pv (16 * ra + k))) (by omega) (by omega) a3 a4 _ _ _ hP hD hS (lv_sub hl [1, 2, 3, 0] rfl)
  exact L2 17 0 pt (by omega) (by omega) (fun j hj => absurd hj (Nat.not_lt_zero j)) (fk_fp_0 _ _) _ _ _ hP hD hS (lv_sub hl [1, 2, 3, 0] rfl)
theorem fk_cmp_l (v : Int64) : (if v.toInt < 0 then (-1 : Int32) else if 0 < v.toInt then 1 else 0) = fk_cmp v.toInt := by
  rw [fk_cmp]
  by_cases q : v.toInt = 0
  · rw [if_neg (by omega), if_neg (by omega), if_pos q]
  · by_cases q2 : v.toInt < 0
    · rw [if_pos q2, if_neg q, if_pos q2]
    · rw [if_neg q2, if_pos (by omega), if_neg q, if_neg q2]
theorem fk_absl {v z : Int64} (h : (v.toInt < 0 ∧ z = -v) ∨ (¬ v.toInt < 0 ∧ z = v)) : z.toInt % 18446744073709551616 = fk_abs v.toInt := by
  have h1 := v.le_toInt
  have h2 := v.toInt_lt
  rw [fk_abs]
  rcases h with ⟨q, rfl⟩ | ⟨q, rfl⟩
  · rw [if_pos q, Int64.toInt_neg]
    have : ∃ k : Int, Int.bmod (-v.toInt) (2 ^ 64) = -v.toInt + k * 18446744073709551616 := by
      rw [Int.bmod_def]
      split
      · exact ⟨-((-v.toInt) / 18446744073709551616), by omega⟩
      · exact ⟨-((-v.toInt) / 18446744073709551616) - 1, by omega⟩
    obtain ⟨k, hk⟩ := this
    rw [hk, Int.add_mul_emod_self_right]
    omega
  · rw [if_neg q]
    omega
theorem fk_pow16 (k : Nat) : (2 : Int) ^ (16 * k) = 65536 ^ k := by
  rw [Int.pow_mul]; rfl
theorem fk_limb {z : Int64} {k : Nat} (hk : k < 4) {a : Int} (h : z.toInt % 18446744073709551616 = a) {x1 x2 : Int64} (e1 : x1 = (z.toUInt64 >>> ((nI (16 * k)).toInt64.toUInt64 &&& Int64.toUInt64 63)).toInt64) (e2 : x2 = x1 &&& 65535) : x2.toInt32.toInt = fk_dg a k := by
  have q := fk_ushrk z (u := 16 * k) (by omega)
  rw [← e1, h, fk_pow16] at q
  have m := fk_m16 x1
  rw [← e2] at m
  have : x2.toInt = fk_dg a k := by rw [m, fk_dg, ← q]; omega
  rw [Int64.toInt_toInt32, this]
  have hd : 0 ≤ fk_dg a k ∧ fk_dg a k < 65536 := by rw [fk_dg]; omega
  exact Int.bmod_eq_of_le (by omega) (by omega)
theorem fk_dg_big {a : Int} (h0 : 0 ≤ a) (h1 : a < 18446744073709551616) {k : Nat} (hk : 4 ≤ k) : fk_dg a k = 0 := by
  rw [fk_dg]
  have : (65536 : Int) ^ 4 ≤ 65536 ^ k := fk_pow_le hk
  have e : (65536 : Int) ^ 4 = 18446744073709551616 := by decide
  rw [Int.ediv_eq_zero_of_lt h0 (by omega)]
  decide
abbrev rmX4_set : Room := { frames := 0, cells := 0, slots := 0, locals := 0 }
set_option maxHeartbeats 4000000 in
set_option maxRecDepth 100000 in
/-- set -/
theorem kX4_set {l : Launch} {D : va_G} {cJ cC cI cZ cK : ClassId} (sz : Nat) (am : Nat → Nat) (tl : va_W) (cd kn lo tn : Int32) (wd sg : Nat → Int32) (up dn of : Nat → Int64) (bey rnd tx pt sn : Nat → Int32) (p0 : Nat) (v : Int64) (hp : p0 < 24) : Met l yX4_set wsX4_set rmX4_set (va_Pc [.ref (am 0), .int (nI p0), .long v] (fk_pre D (fk_ty cJ cC cI cZ cK) (fk_wm cJ cI cZ am cd kn lo tn wd sg up dn of bey rnd tx pt sn ++ tl) sz)) (va_Qv (fun u : (Nat → Int32) × (Nat → Int32) => fk_G v.toInt p0 u.1 u.2 ∧ fk_fp p0 pt u.1 ∧ fk_fs p0 sn u.2) (fk_Bd D (fk_ty cJ cC cI cZ cK) (va_A (fk_wm cJ cI cZ am cd kn lo tn wd sg up dn of bey rnd tx pt sn ++ tl) sz) (fun u : (Nat → Int32) × (Nat → Int32) => fk_wm cJ cI cZ am cd kn lo tn wd sg up dn of bey rnd tx u.1 u.2 ++ tl)) (va_A (fk_wm cJ cI cZ am cd kn lo tn wd sg up dn of bey rnd tx pt sn ++ tl) sz)) 0 0 (va_A (fk_wm cJ cI cZ am cd kn lo tn wd sg up dn of bey rnd tx pt sn ++ tl) sz) := by
  refine fk_ofW cX4_set 7 none (fun A => va_Qv (fun u : (Nat → Int32) × (Nat → Int32) => fk_G v.toInt p0 u.1 u.2 ∧ fk_fp p0 pt u.1 ∧ fk_fs p0 sn u.2) (fk_Bd D (fk_ty cJ cC cI cZ cK) A (fun u : (Nat → Int32) × (Nat → Int32) => fk_wm cJ cI cZ am cd kn lo tn wd sg up dn of bey rnd tx u.1 u.2 ++ tl)) A) rfl (by decide) (Nat.le_of_ble_eq_true rfl) ?_
  intro p e s m below meth c A ls args QQ hQQ hAt hP hK hN hD hA hS hl
  obtain ⟨⟨hx, hb, hml, hown, hts⟩, hr, hlocks, hin⟩ := hAt
  have hl : lv_has ls 7 [(0, .ref (am 0)), (1, .int (nI p0)), (2, .long v)] := hl
  have k1 := hts (.fieldLink RX4 39 "FixedKindsModel" "sign" "[I") (by decide +kernel)
  have k2 := (by decide +kernel : ∀ w ∈ u_ws RX4 TX4 14, w ∈ wsX4_set)
  have k3 := hts (.fieldLink RX4 36 "FixedKindsModel" "part" "[I") (by decide +kernel)
  have k4 := hts (.constantLong RX4 46 65535) (by decide +kernel)
  refine lv_lload_n hx hb dX4_set_0 rfl (lv_at hl 2 rfl) ?_
  refine lv_lconst (v := 0) hx hb dX4_set_1 (by decide) ?_
  refine W.lcmp hx hb dX4_set_2 ?_
  refine lv_if_ge (tgt := 11) hx hb dX4_set_3 (by decide) (fun c_3 => ?_) (fun c_3 => ?_)
  · rw [lg_cmp_ge] at c_3
    rw [Int64.le_iff_toInt_le, fk_z64] at c_3
    refine lv_lload_n hx hb dX4_set_11 rfl (lv_at hl 2 rfl) ?_
    have hsz : (v : Int64).toInt % 18446744073709551616 = fk_abs v.toInt := fk_absl (Or.inr ⟨by omega, rfl⟩)
    refine lv_lstore (lv' := [(4, .long v), (0, .ref (am 0)), (1, .int (nI p0)), (2, .long v)]) hx hb dX4_set_12 hl (by decide) rfl (fun ls hl => ?_)
    refine lv_iconst (v := 0) hx hb dX4_set_14 (by decide) ?_
    refine lv_istore (lv' := [(6, .int 0), (4, .long v), (0, .ref (am 0)), (1, .int (nI p0)), (2, .long v)]) hx hb dX4_set_15 hl (by decide) rfl (fun ls hl => ?_)
    have L17 : ∀ (fu17 : Nat) (k : Nat) (pv : Nat → Int32), 16 - k < fu17 → (k ≤ 16) → (∀ j, j < k → fk_M pv p0 j = fk_dg (fk_abs v.toInt) j) → (fk_fp p0 pt pv) → ∀ (H : Heap) (locs : List Loc) (ls : Array Slot), va_P D vwCl (fk_wm cJ cI cZ am cd kn lo tn wd sg up dn of bey rnd tx pv sn ++ tl) H → va_D A (fk_wm cJ cI cZ am cd kn lo tn wd sg up dn of bey rnd tx pv sn ++ tl) → va_S A s.heap H locs → lv_has ls 7 [(0, .ref (am 0)), (1, .int (nI p0)), (2, .long v), (4, .long v), (6, .int (nI k))] → W p l e rmX4_set s m args below meth c H locs 0 0 QQ (F0 m 17 ls []) := by
      intro fu17
      induction fu17 with
      | zero => intro k pv hfu; exact absurd hfu (Nat.not_lt_zero _)
      | succ fu17 ih17 =>
        intro k pv hfu17 hk hc hfr H locs ls hP hD hS hl
        refine lv_iload hx hb dX4_set_17 (lv_at hl 4 rfl) ?_
        refine lv_bipush (v := 16) hx hb dX4_set_19 (by decide) ?_
        refine lv_icmp_ge (tgt := 65) hx hb dX4_set_21 (by decide) (fun c_21 => ?_) (fun c_21 => ?_)
        · have hk16 : k = 16 := by have q := (nI_leI (a := 16) (b := k) (by omega) (by omega)).mp c_21; omega
          subst hk16
          refine lv_aload_n hx hb dX4_set_65 rfl (lv_at hl 0 rfl) ?_
          refine va_get (D := D) (ci := 5) (v := .ref (am 10)) (C := RX4) (T := TX4) (N := 14) hx hb hts k2 hown hK hP 0 rfl rfl 13 (by decide) k1 (fun _ h9 => h9) rfl dX4_set_66 ?_
          refine lv_iload_n hx hb dX4_set_69 rfl (lv_at hl 1 rfl) ?_
          refine lv_lload_n hx hb dX4_set_70 rfl (lv_at hl 2 rfl) ?_
          refine lv_lconst (v := 0) hx hb dX4_set_71 (by decide) ?_
          refine W.lcmp hx hb dX4_set_72 ?_
          refine lv_if_ge (tgt := 80) hx hb dX4_set_73 (by decide) (fun c_73 => ?_) (fun c_73 => ?_)
          · rw [lg_cmp_ge] at c_73
            rw [Int64.le_iff_toInt_le, fk_z64] at c_73
            refine lv_lload_n hx hb dX4_set_80 rfl (lv_at hl 2 rfl) ?_
            refine lv_lconst (v := 0) hx hb dX4_set_81 (by decide) ?_
            refine W.lcmp hx hb dX4_set_82 ?_
            refine lv_if_le (tgt := 90) hx hb dX4_set_83 (by decide) (fun c_83 => ?_) (fun c_83 => ?_)
            · rw [lg_cmp_le] at c_83
              rw [Int64.le_iff_toInt_le, fk_z64] at c_83
              refine lv_iconst (v := 0) hx hb dX4_set_90 (by decide) ?_
              refine fk_iast hx hb hK hP hD hS 10 2 rfl rfl (i := p0) hp (by decide) dX4_set_91 (fun H locs hP hD hS => ?_)
              have hP : va_P D vwCl (fk_wm cJ cI cZ am cd kn lo tn wd sg up dn of bey rnd tx pv (upd sn p0 0) ++ tl) H := hP
              have hD : va_D A (fk_wm cJ cI cZ am cd kn lo tn wd sg up dn of bey rnd tx pv (upd sn p0 0) ++ tl) := hD
              have e : ∀ j, j < 16 → fk_M pv p0 j = fk_dg (fk_abs v.toInt) j := hc
              have habs := fk_abs_bd (a := v.toInt) (A := 9223372036854775808) (by have := v.le_toInt; omega) (by have := v.toInt_lt; omega)
              have hsn : (0 : Int32) = fk_cmp v.toInt := by rw [← fk_cmp_l, if_neg (by omega), if_neg (by omega)]
              rw [hQQ]
              exact W.vret hx hb hr (fun t ht hW => ⟨⟨(pv, upd sn p0 0), rfl, ⟨⟨⟨fun j hj => by rw [e j hj, fk_dg]; omega, by rw [fk_T_congr e, fk_dg_T]; exact Int.emod_eq_of_lt habs.1 (by rw [fk_p16]; omega)⟩, by show upd sn p0 0 p0 = _; rw [pk_us]; exact hsn⟩, hfr, fk_fs_u _ _ _⟩, by rw [ht]; exact hP, va_K.moved hW.alike hK, hD⟩, hS.F ht⟩) hS.2.2 dX4_set_92
            · rw [lg_cmp_le] at c_83
              rw [Int64.le_iff_toInt_le, fk_z64] at c_83
              refine lv_iconst (v := 1) hx hb dX4_set_86 (by decide) ?_
              refine lv_goto (tgt := 91) hx hb dX4_set_87 (by decide) ?_
              refine fk_iast hx hb hK hP hD hS 10 2 rfl rfl (i := p0) hp (by decide) dX4_set_91 (fun H locs hP hD hS => ?_)
              have hP : va_P D vwCl (fk_wm cJ cI cZ am cd kn lo tn wd sg up dn of bey rnd tx pv (upd sn p0 1) ++ tl) H := hP
              have hD : va_D A (fk_wm cJ cI cZ am cd kn lo tn wd sg up dn of bey rnd tx pv (upd sn p0 1) ++ tl) := hD
              have e : ∀ j, j < 16 → fk_M pv p0 j = fk_dg (fk_abs v.toInt) j := hc
              have habs := fk_abs_bd (a := v.toInt) (A := 9223372036854775808) (by have := v.le_toInt; omega) (by have := v.toInt_lt; omega)
              have hsn : (1 : Int32) = fk_cmp v.toInt := by rw [← fk_cmp_l, if_neg (by omega), if_pos (by omega)]
              rw [hQQ]
              exact W.vret hx hb hr (fun t ht hW => ⟨⟨(pv, upd sn p0 1), rfl, ⟨⟨⟨fun j hj => by rw [e j hj, fk_dg]; omega, by rw [fk_T_congr e, fk_dg_T]; exact Int.emod_eq_of_lt habs.1 (by rw [fk_p16]; omega)⟩, by show upd sn p0 1 p0 = _; rw [pk_us]; exact hsn⟩, hfr, fk_fs_u _ _ _⟩, by rw [ht]; exact hP, va_K.moved hW.alike hK, hD⟩, hS.F ht⟩) hS.2.2 dX4_set_92
          · rw [lg_cmp_ge] at c_73
            rw [Int64.le_iff_toInt_le, fk_z64] at c_73
            refine lv_iconst (v := (-1)) hx hb dX4_set_76 (by decide) ?_
            refine lv_goto (tgt := 91) hx hb dX4_set_77 (by decide) ?_
            refine fk_iast hx hb hK hP hD hS 10 2 rfl rfl (i := p0) hp (by decide) dX4_set_91 (fun H locs hP hD hS => ?_)
            have hP : va_P D vwCl (fk_wm cJ cI cZ am cd kn lo tn wd sg up dn of bey rnd tx pv (upd sn p0 (-1)) ++ tl) H := hP
            have hD : va_D A (fk_wm cJ cI cZ am cd kn lo tn wd sg up dn of bey rnd tx pv (upd sn p0 (-1)) ++ tl) := hD
            have e : ∀ j, j < 16 → fk_M pv p0 j = fk_dg (fk_abs v.toInt) j := hc
            have habs := fk_abs_bd (a := v.toInt) (A := 9223372036854775808) (by have := v.le_toInt; omega) (by have := v.toInt_lt; omega)
            have hsn : ((-1) : Int32) = fk_cmp v.toInt := by rw [← fk_cmp_l, if_pos (by omega)]
            rw [hQQ]
            exact W.vret hx hb hr (fun t ht hW => ⟨⟨(pv, upd sn p0 (-1)), rfl, ⟨⟨⟨fun j hj => by rw [e j hj, fk_dg]; omega, by rw [fk_T_congr e, fk_dg_T]; exact Int.emod_eq_of_lt habs.1 (by rw [fk_p16]; omega)⟩, by show upd sn p0 (-1) p0 = _; rw [pk_us]; exact hsn⟩, hfr, fk_fs_u _ _ _⟩, by rw [ht]; exact hP, va_K.moved hW.alike hK, hD⟩, hS.F ht⟩) hS.2.2 dX4_set_92
        · have hk16 : k < 16 := by rcases Nat.lt_or_ge k 16 with q | q; exact q; exact absurd ((nI_leI (a := 16) (b := k) (by omega) (by omega)).mpr q) c_21
          refine lv_aload_n hx hb dX4_set_24 rfl (lv_at hl 0 rfl) ?_
          refine va_get (D := D) (ci := 5) (v := .ref (am 9)) (C := RX4) (T := TX4) (N := 14) hx hb hts k2 hown hK hP 0 rfl rfl 12 (by decide) k3 (fun _ h9 => h9) rfl dX4_set_25 ?_
          refine lv_bipush (v := 16) hx hb dX4_set_28 (by decide) ?_
          refine lv_iload_n hx hb dX4_set_30 rfl (lv_at hl 1 rfl) ?_
          refine lv_imul hx hb dX4_set_31 ?_
          refine lv_topi (fun x1 ex1 => ?_)
          have ex1q : x1 = nI (16 * p0) := by
            rw [ex1]; exact pk_mul 16 p0
          subst ex1q
          refine lv_iload hx hb dX4_set_32 (lv_at hl 4 rfl) ?_
          refine lv_iadd hx hb dX4_set_34 ?_
          refine lv_topi (fun x2 ex2 => ?_)
          have ex2q : x2 = nI (16 * p0 + k) := by
            rw [ex2]; exact nI_add (16 * p0) k
          subst ex2q
          refine lv_iload hx hb dX4_set_35 (lv_at hl 4 rfl) ?_
          refine lv_iconst (v := 4) hx hb dX4_set_37 (by decide) ?_
          refine lv_icmp_ge (tgt := 57) hx hb dX4_set_38 (by decide) (fun c_38 => ?_) (fun c_38 => ?_)
          · have hk4 : 4 ≤ k := (nI_leI (a := 4) (b := k) (by omega) (by omega)).mp c_38
            refine lv_iconst (v := 0) hx hb dX4_set_57 (by decide) ?_
            have hdg : (0 : Int32).toInt = fk_dg (fk_abs v.toInt) k := by have h1 := v.le_toInt; have h2 := v.toInt_lt; have hb := fk_abs_bd (a := v.toInt) (A := 9223372036854775808) (by omega) (by omega); rw [fk_dg_big hb.1 (by omega) hk4]; decide
            refine fk_iast hx hb hK hP hD hS 9 2 rfl rfl (i := 16 * p0 + k) (by omega) (by decide) dX4_set_58 (fun H locs hP hD hS => ?_)
            have hP : va_P D vwCl (fk_wm cJ cI cZ am cd kn lo tn wd sg up dn of bey rnd tx (upd pv (16 * p0 + k) 0) sn ++ tl) H := hP
            have hD : va_D A (fk_wm cJ cI cZ am cd kn lo tn wd sg up dn of bey rnd tx (upd pv (16 * p0 + k) 0) sn ++ tl) := hD
            have a3 : ∀ j, j < k + 1 → fk_M (upd pv (16 * p0 + k) 0) p0 j = fk_dg (fk_abs v.toInt) j := by
              intro j hj
              by_cases q : j = k
              · subst q; rw [fk_M, pk_us]; exact hdg
              · rw [fk_M, pk_un (by omega)]; exact hc j (by omega)
            have a4 := fk_fp_t hfr (fk_fp_u (p := p0) (pt := pv) (y := 0) hk16)
            refine lv_iinc (v := nI (k + 1)) (lv' := [(6, .int (nI (k + 1))), (0, .ref (am 0)), (1, .int (nI p0)), (2, .long v), (4, .long v)]) hx hb dX4_set_59 hl (k := 4) rfl (by exact nI_1 k) (by decide) rfl (fun ls hl => ?_)
            refine lv_goto (tgt := 17) hx hb dX4_set_62 (by decide) ?_
            exact ih17 (k + 1) (upd pv (16 * p0 + k) 0) (by omega) (by omega) a3 a4 _ _ _ hP hD hS (lv_sub hl [1, 2, 3, 4, 0] rfl)
          · have hk4 : k < 4 := by rcases Nat.lt_or_ge k 4 with q | q; exact q; exact absurd ((nI_leI (a := 4) (b := k) (by omega) (by omega)).mpr q) c_38
            refine lv_lload hx hb dX4_set_41 (lv_at hl 3 rfl) ?_
            refine lv_bipush (v := 16) hx hb dX4_set_43 (by decide) ?_
            refine lv_iload hx hb dX4_set_45 (lv_at hl 4 rfl) ?_
            refine lv_imul hx hb dX4_set_47 ?_
            refine lv_topi (fun x3 ex3 => ?_)
            have ex3q : x3 = nI (16 * k) := by
              rw [ex3]; exact pk_mul 16 k
            subst ex3q
            refine lv_lushr hx hb dX4_set_48 rfl ?_
            refine lv_topl (fun x4 ex4 => ?_)
            refine lv_ldc2 (v := 65535) hx hb hown k4 dX4_set_49 ?_
            refine lv_land hx hb dX4_set_52 ?_
            refine lv_topl (fun x5 ex5 => ?_)
            refine lv_l2i hx hb dX4_set_53 rfl ?_
            refine lv_topi (fun x6 ex6 => ?_)
            refine lv_goto (tgt := 58) hx hb dX4_set_54 (by decide) ?_
            have hdg : x6.toInt = fk_dg (fk_abs v.toInt) k := by rw [ex6]; exact fk_limb hk4 hsz ex4 ex5
            refine fk_iast hx hb hK hP hD hS 9 2 rfl rfl (i := 16 * p0 + k) (by omega) (by decide) dX4_set_58 (fun H locs hP hD hS => ?_)
            have hP : va_P D vwCl (fk_wm cJ cI cZ am cd kn lo tn wd sg up dn of bey rnd tx (upd pv (16 * p0 + k) x6) sn ++ tl) H := hP
            have hD : va_D A (fk_wm cJ cI cZ am cd kn lo tn wd sg up dn of bey rnd tx (upd pv (16 * p0 + k) x6) sn ++ tl) := hD
            have a3 : ∀ j, j < k + 1 → fk_M (upd pv (16 * p0 + k) x6) p0 j = fk_dg (fk_abs v.toInt) j := by
              intro j hj
              by_cases q : j = k
              · subst q; rw [fk_M, pk_us]; exact hdg
              · rw [fk_M, pk_un (by omega)]; exact hc j (by omega)
            have a4 := fk_fp_t hfr (fk_fp_u (p := p0) (pt := pv) (y := x6) hk16)
            refine lv_iinc (v := nI (k + 1)) (lv' := [(6, .int (nI (k + 1))), (0, .ref (am 0)), (1, .int (nI p0)), (2, .long v), (4, .long v)]) hx hb dX4_set_59 hl (k := 4) rfl (by exact nI_1 k) (by decide) rfl (fun ls hl => ?_)
            refine lv_goto (tgt := 17) hx hb dX4_set_62 (by decide) ?_
            exact ih17 (k + 1) (upd pv (16 * p0 + k) x6) (by omega) (by omega) a3 a4 _ _ _ hP hD hS (lv_sub hl [1, 2, 3, 4, 0] rfl)
    exact L17 17 0 pt (by omega) (by omega) (fun j hj => absurd hj (Nat.not_lt_zero j)) (fk_fp_0 _ _) _ _ _ hP hD hS (lv_sub hl [2, 3, 4, 1, 0] rfl)
  · rw [lg_cmp_ge] at c_3
    rw [Int64.le_iff_toInt_le, fk_z64] at c_3
    refine lv_lload_n hx hb dX4_set_6 rfl (lv_at hl 2 rfl) ?_
    refine lv_lneg hx hb dX4_set_7 ?_
    refine lv_topl (fun x7 ex7 => ?_)
    refine lv_goto (tgt := 12) hx hb dX4_set_8 (by decide) ?_
    have hsz : (x7 : Int64).toInt % 18446744073709551616 = fk_abs v.toInt := fk_absl (Or.inl ⟨by omega, ex7⟩)
    refine lv_lstore (lv' := [(4, .long x7), (0, .ref (am 0)), (1, .int (nI p0)), (2, .long v)]) hx hb dX4_set_12 hl (by decide) rfl (fun ls hl => ?_)
    refine lv_iconst (v := 0) hx hb dX4_set_14 (by decide) ?_
    refine lv_istore (lv' := [(6, .int 0), (4, .long x7), (0, .ref (am 0)), (1, .int (nI p0)), (2, .long v)]) hx hb dX4_set_15 hl (by decide) rfl (fun ls hl => ?_)
    have L17 : ∀ (fu17 : Nat) (k : Nat) (pv : Nat → Int32), 16 - k < fu17 → (k ≤ 16) → (∀ j, j < k → fk_M pv p0 j = fk_dg (fk_abs v.toInt) j) → (fk_fp p0 pt pv) → ∀ (H : Heap) (locs : List Loc) (ls : Array Slot), va_P D vwCl (fk_wm cJ cI cZ am cd kn lo tn wd sg up dn of bey rnd tx pv sn ++ tl) H → va_D A (fk_wm cJ cI cZ am cd kn lo tn wd sg up dn of bey rnd tx pv sn ++ tl) → va_S A s.heap H locs → lv_has ls 7 [(0, .ref (am 0)), (1, .int (nI p0)), (2, .long v), (4, .long x7), (6, .int (nI k))] → W p l e rmX4_set s m args below meth c H locs 0 0 QQ (F0 m 17 ls []) := by
      intro fu17
      induction fu17 with
      | zero => intro k pv hfu; exact absurd hfu (Nat.not_lt_zero _)
      | succ fu17 ih17 =>
        intro k pv hfu17 hk hc hfr H locs ls hP hD hS hl
        refine lv_iload hx hb dX4_set_17 (lv_at hl 4 rfl) ?_
        refine lv_bipush (v := 16) hx hb dX4_set_19 (by decide) ?_
        refine lv_icmp_ge (tgt := 65) hx hb dX4_set_21 (by decide) (fun c_21 => ?_) (fun c_21 => ?_)
        · have hk16 : k = 16 := by have q := (nI_leI (a := 16) (b := k) (by omega) (by omega)).mp c_21; omega
          subst hk16
          refine lv_aload_n hx hb dX4_set_65 rfl (lv_at hl 0 rfl) ?_
          refine va_get (D := D) (ci := 5) (v := .ref (am 10)) (C := RX4) (T := TX4) (N := 14) hx hb hts k2 hown hK hP 0 rfl rfl 13 (by decide) k1 (fun _ h9 => h9) rfl dX4_set_66 ?_
          refine lv_iload_n hx hb dX4_set_69 rfl (lv_at hl 1 rfl) ?_
          refine lv_lload_n hx hb dX4_set_70 rfl (lv_at hl 2 rfl) ?_
          refine lv_lconst (v := 0) hx hb dX4_set_71 (by decide) ?_
          refine W.lcmp hx hb dX4_set_72 ?_
          refine lv_if_ge (tgt := 80) hx hb dX4_set_73 (by decide) (fun c_73 => ?_) (fun c_73 => ?_)
          · rw [lg_cmp_ge] at c_73
            rw [Int64.le_iff_toInt_le, fk_z64] at c_73
            refine lv_lload_n hx hb dX4_set_80 rfl (lv_at hl 2 rfl) ?_
            refine lv_lconst (v := 0) hx hb dX4_set_81 (by decide) ?_
            refine W.lcmp hx hb dX4_set_82 ?_
            refine lv_if_le (tgt := 90) hx hb dX4_set_83 (by decide) (fun c_83 => ?_) (fun c_83 => ?_)
            · rw [lg_cmp_le] at c_83
              rw [Int64.le_iff_toInt_le, fk_z64] at c_83
              refine lv_iconst (v := 0) hx hb dX4_set_90 (by decide) ?_
              refine fk_iast hx hb hK hP hD hS 10 2 rfl rfl (i := p0) hp (by decide) dX4_set_91 (fun H locs hP hD hS => ?_)
              have hP : va_P D vwCl (fk_wm cJ cI cZ am cd kn lo tn wd sg up dn of bey rnd tx pv (upd sn p0 0) ++ tl) H := hP
              have hD : va_D A (fk_wm cJ cI cZ am cd kn lo tn wd sg up dn of bey rnd tx pv (upd sn p0 0) ++ tl) := hD
              have e : ∀ j, j < 16 → fk_M pv p0 j = fk_dg (fk_abs v.toInt) j := hc
              have habs := fk_abs_bd (a := v.toInt) (A := 9223372036854775808) (by have := v.le_toInt; omega) (by have := v.toInt_lt; omega)
              have hsn : (0 : Int32) = fk_cmp v.toInt := by rw [← fk_cmp_l, if_neg (by omega), if_neg (by omega)]
              rw [hQQ]
              exact W.vret hx hb hr (fun t ht hW => ⟨⟨(pv, upd sn p0 0), rfl, ⟨⟨⟨fun j hj => by rw [e j hj, fk_dg]; omega, by rw [fk_T_congr e, fk_dg_T]; exact Int.emod_eq_of_lt habs.1 (by rw [fk_p16]; omega)⟩, by show upd sn p0 0 p0 = _; rw [pk_us]; exact hsn⟩, hfr, fk_fs_u _ _ _⟩, by rw [ht]; exact hP, va_K.moved hW.alike hK, hD⟩, hS.F ht⟩) hS.2.2 dX4_set_92
            · rw [lg_cmp_le] at c_83
              rw [Int64.le_iff_toInt_le, fk_z64] at c_83
              refine lv_iconst (v := 1) hx hb dX4_set_86 (by decide) ?_
              refine lv_goto (tgt := 91) hx hb dX4_set_87 (by decide) ?_
              refine fk_iast hx hb hK hP hD hS 10 2 rfl rfl (i := p0) hp (by decide) dX4_set_91 (fun H locs hP hD hS => ?_)
              have hP : va_P D vwCl (fk_wm cJ cI cZ am cd kn lo tn wd sg up dn of bey rnd tx pv (upd sn p0 1) ++ tl) H := hP
              have hD : va_D A (fk_wm cJ cI cZ am cd kn lo tn wd sg up dn of bey rnd tx pv (upd sn p0 1) ++ tl) := hD
              have e : ∀ j, j < 16 → fk_M pv p0 j = fk_dg (fk_abs v.toInt) j := hc
              have habs := fk_abs_bd (a := v.toInt) (A := 9223372036854775808) (by have := v.le_toInt; omega) (by have := v.toInt_lt; omega)
              have hsn : (1 : Int32) = fk_cmp v.toInt := by rw [← fk_cmp_l, if_neg (by omega), if_pos (by omega)]
              rw [hQQ]
              exact W.vret hx hb hr (fun t ht hW => ⟨⟨(pv, upd sn p0 1), rfl, ⟨⟨⟨fun j hj => by rw [e j hj, fk_dg]; omega, by rw [fk_T_congr e, fk_dg_T]; exact Int.emod_eq_of_lt habs.1 (by rw [fk_p16]; omega)⟩, by show upd sn p0 1 p0 = _; rw [pk_us]; exact hsn⟩, hfr, fk_fs_u _ _ _⟩, by rw [ht]; exact hP, va_K.moved hW.alike hK, hD⟩, hS.F ht⟩) hS.2.2 dX4_set_92
          · rw [lg_cmp_ge] at c_73
            rw [Int64.le_iff_toInt_le, fk_z64] at c_73
            refine lv_iconst (v := (-1)) hx hb dX4_set_76 (by decide) ?_
            refine lv_goto (tgt := 91) hx hb dX4_set_77 (by decide) ?_
            refine fk_iast hx hb hK hP hD hS 10 2 rfl rfl (i := p0) hp (by decide) dX4_set_91 (fun H locs hP hD hS => ?_)
            have hP : va_P D vwCl (fk_wm cJ cI cZ am cd kn lo tn wd sg up dn of bey rnd tx pv (upd sn p0 (-1)) ++ tl) H := hP
            have hD : va_D A (fk_wm cJ cI cZ am cd kn lo tn wd sg up dn of bey rnd tx pv (upd sn p0 (-1)) ++ tl) := hD
            have e : ∀ j, j < 16 → fk_M pv p0 j = fk_dg (fk_abs v.toInt) j := hc
            have habs := fk_abs_bd (a := v.toInt) (A := 9223372036854775808) (by have := v.le_toInt; omega) (by have := v.toInt_lt; omega)
            have hsn : ((-1) : Int32) = fk_cmp v.toInt := by rw [← fk_cmp_l, if_pos (by omega)]
            rw [hQQ]
            exact W.vret hx hb hr (fun t ht hW => ⟨⟨(pv, upd sn p0 (-1)), rfl, ⟨⟨⟨fun j hj => by rw [e j hj, fk_dg]; omega, by rw [fk_T_congr e, fk_dg_T]; exact Int.emod_eq_of_lt habs.1 (by rw [fk_p16]; omega)⟩, by show upd sn p0 (-1) p0 = _; rw [pk_us]; exact hsn⟩, hfr, fk_fs_u _ _ _⟩, by rw [ht]; exact hP, va_K.moved hW.alike hK, hD⟩, hS.F ht⟩) hS.2.2 dX4_set_92
        · have hk16 : k < 16 := by rcases Nat.lt_or_ge k 16 with q | q; exact q; exact absurd ((nI_leI (a := 16) (b := k) (by omega) (by omega)).mpr q) c_21
          refine lv_aload_n hx hb dX4_set_24 rfl (lv_at hl 0 rfl) ?_
          refine va_get (D := D) (ci := 5) (v := .ref (am 9)) (C := RX4) (T := TX4) (N := 14) hx hb hts k2 hown hK hP 0 rfl rfl 12 (by decide) k3 (fun _ h9 => h9) rfl dX4_set_25 ?_
          refine lv_bipush (v := 16) hx hb dX4_set_28 (by decide) ?_
          refine lv_iload_n hx hb dX4_set_30 rfl (lv_at hl 1 rfl) ?_
          refine lv_imul hx hb dX4_set_31 ?_
          refine lv_topi (fun x8 ex8 => ?_)
          have ex8q : x8 = nI (16 * p0) := by
            rw [ex8]; exact pk_mul 16 p0
          subst ex8q
          refine lv_iload hx hb dX4_set_32 (lv_at hl 4 rfl) ?_
          refine lv_iadd hx hb dX4_set_34 ?_
          refine lv_topi (fun x9 ex9 => ?_)
          have ex9q : x9 = nI (16 * p0 + k) := by
            rw [ex9]; exact nI_add (16 * p0) k
          subst ex9q
          refine lv_iload hx hb dX4_set_35 (lv_at hl 4 rfl) ?_
          refine lv_iconst (v := 4) hx hb dX4_set_37 (by decide) ?_
          refine lv_icmp_ge (tgt := 57) hx hb dX4_set_38 (by decide) (fun c_38 => ?_) (fun c_38 => ?_)
          · have hk4 : 4 ≤ k := (nI_leI (a := 4) (b := k) (by omega) (by omega)).mp c_38
            refine lv_iconst (v := 0) hx hb dX4_set_57 (by decide) ?_
            have hdg : (0 : Int32).toInt = fk_dg (fk_abs v.toInt) k := by have h1 := v.le_toInt; have h2 := v.toInt_lt; have hb := fk_abs_bd (a := v.toInt) (A := 9223372036854775808) (by omega) (by omega); rw [fk_dg_big hb.1 (by omega) hk4]; decide
            refine fk_iast hx hb hK hP hD hS 9 2 rfl rfl (i := 16 * p0 + k) (by omega) (by decide) dX4_set_58 (fun H locs hP hD hS => ?_)
            have hP : va_P D vwCl (fk_wm cJ cI cZ am cd kn lo tn wd sg up dn of bey rnd tx (upd pv (16 * p0 + k) 0) sn ++ tl) H := hP
            have hD : va_D A (fk_wm cJ cI cZ am cd kn lo tn wd sg up dn of bey rnd tx (upd pv (16 * p0 + k) 0) sn ++ tl) := hD
            have a3 : ∀ j, j < k + 1 → fk_M (upd pv (16 * p0 + k) 0) p0 j = fk_dg (fk_abs v.toInt) j := by
              intro j hj
              by_cases q : j = k
              · subst q; rw [fk_M, pk_us]; exact hdg
              · rw [fk_M, pk_un (by omega)]; exact hc j (by omega)
            have a4 := fk_fp_t hfr (fk_fp_u (p := p0) (pt := pv) (y := 0) hk16)
            refine lv_iinc (v := nI (k + 1)) (lv' := [(6, .int (nI (k + 1))), (0, .ref (am 0)), (1, .int (nI p0)), (2, .long v), (4, .long x7)]) hx hb dX4_set_59 hl (k := 4) rfl (by exact nI_1 k) (by decide) rfl (fun ls hl => ?_)
            refine lv_goto (tgt := 17) hx hb dX4_set_62 (by decide) ?_
            exact ih17 (k + 1) (upd pv (16 * p0 + k) 0) (by omega) (by omega) a3 a4 _ _ _ hP hD hS (lv_sub hl [1, 2, 3, 4, 0] rfl)
          · have hk4 : k < 4 := by rcases Nat.lt_or_ge k 4 with q | q; exact q; exact absurd ((nI_leI (a := 4) (b := k) (by omega) (by omega)).mpr q) c_38
            refine lv_lload hx hb dX4_set_41 (lv_at hl 3 rfl) ?_
            refine lv_bipush (v := 16) hx hb dX4_set_43 (by decide) ?_
            refine lv_iload hx hb dX4_set_45 (lv_at hl 4 rfl) ?_
            refine lv_imul hx hb dX4_set_47 ?_
            refine lv_topi (fun x10 ex10 => ?_)
            have ex10q : x10 = nI (16 * k) := by
              rw [ex10]; exact pk_mul 16 k
            subst ex10q
            refine lv_lushr hx hb dX4_set_48 rfl ?_
            refine lv_topl (fun x11 ex11 => ?_)
            refine lv_ldc2 (v := 65535) hx hb hown k4 dX4_set_49 ?_
            refine lv_land hx hb dX4_set_52 ?_
            refine lv_topl (fun x12 ex12 => ?_)
            refine lv_l2i hx hb dX4_set_53 rfl ?_
            refine lv_topi (fun x13 ex13 => ?_)
            refine lv_goto (tgt := 58) hx hb dX4_set_54 (by decide) ?_
            have hdg : x13.toInt = fk_dg (fk_abs v.toInt) k := by rw [ex13]; exact fk_limb hk4 hsz ex11 ex12
            refine fk_iast hx hb hK hP hD hS 9 2 rfl rfl (i := 16 * p0 + k) (by omega) (by decide) dX4_set_58 (fun H locs hP hD hS => ?_)
            have hP : va_P D vwCl (fk_wm cJ cI cZ am cd kn lo tn wd sg up dn of bey rnd tx (upd pv (16 * p0 + k) x13) sn ++ tl) H := hP
            have hD : va_D A (fk_wm cJ cI cZ am cd kn lo tn wd sg up dn of bey rnd tx (upd pv (16 * p0 + k) x13) sn ++ tl) := hD
            have a3 : ∀ j, j < k + 1 → fk_M (upd pv (16 * p0 + k) x13) p0 j = fk_dg (fk_abs v.toInt) j := by
              intro j hj
              by_cases q : j = k
              · subst q; rw [fk_M, pk_us]; exact hdg
              · rw [fk_M, pk_un (by omega)]; exact hc j (by omega)
            have a4 := fk_fp_t hfr (fk_fp_u (p := p0) (pt := pv) (y := x13) hk16)
            refine lv_iinc (v := nI (k + 1)) (lv' := [(6, .int (nI (k + 1))), (0, .ref (am 0)), (1, .int (nI p0)), (2, .long v), (4, .long x7)]) hx hb dX4_set_59 hl (k := 4) rfl (by exact nI_1 k) (by decide) rfl (fun ls hl => ?_)
            refine lv_goto (tgt := 17) hx hb dX4_set_62 (by decide) ?_
            exact ih17 (k + 1) (upd pv (16 * p0 + k) x13) (by omega) (by omega) a3 a4 _ _ _ hP hD hS (lv_sub hl [1, 2, 3, 4, 0] rfl)
    exact L17 17 0 pt (by omega) (by omega) (fun j hj => absurd hj (Nat.not_lt_zero j)) (fk_fp_0 _ _) _ _ _ hP hD hS (lv_sub hl [2, 3, 4, 1, 0] rfl)
