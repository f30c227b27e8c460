/-! Reference: halve, low, by program -/
abbrev rmX4_halve : Room := { frames := 1, cells := 0, slots := 0, locals := 23 }
set_option maxHeartbeats 4000000 in
set_option maxRecDepth 100000 in
/-- halve -/
theorem kX4_halve {l : Launch} {D : va_G} {cJ cC cI cZ cK : ClassId} (sz : Nat) (am : Nat → Nat) (tl : va_W) (cd kn lo tn : Int32) (wd sg : Nat → Int32) (up dn of : Nat → Int64) (bey rnd tx pt sn : Nat → Int32) (p0 : Nat) (x : Int) (hp : p0 < 24) (gA : fk_rg x p0 pt) : Met l yX4_halve wsX4_halve rmX4_halve (va_Pc [.ref (am 0), .int (nI p0)] (fk_pre D (fk_ty cJ cC cI cZ cK) (fk_wm cJ cI cZ am cd kn lo tn wd sg up dn of bey rnd tx pt sn ++ tl) sz)) (va_Qv (fun u : (Nat → Int32) × (Nat → Int32) => fk_rg (x / 2) p0 u.1 ∧ fk_fp p0 pt u.1 ∧ fk_fs p0 sn u.2 ∧ u.2 p0 = if x / 2 = 0 then 0 else sn p0) (fk_Bd D (fk_ty cJ cC cI cZ cK) (va_A (fk_wm cJ cI cZ am cd kn lo tn wd sg up dn of bey rnd tx pt sn ++ tl) sz) (fun u : (Nat → Int32) × (Nat → Int32) => fk_wm cJ cI cZ am cd kn lo tn wd sg up dn of bey rnd tx u.1 u.2 ++ tl)) (va_A (fk_wm cJ cI cZ am cd kn lo tn wd sg up dn of bey rnd tx pt sn ++ tl) sz)) 0 0 (va_A (fk_wm cJ cI cZ am cd kn lo tn wd sg up dn of bey rnd tx pt sn ++ tl) sz) := by
  refine fk_ofW cX4_halve 4 none (fun A => va_Qv (fun u : (Nat → Int32) × (Nat → Int32) => fk_rg (x / 2) p0 u.1 ∧ fk_fp p0 pt u.1 ∧ fk_fs p0 sn u.2 ∧ u.2 p0 = if x / 2 = 0 then 0 else sn p0) (fk_Bd D (fk_ty cJ cC cI cZ cK) A (fun u : (Nat → Int32) × (Nat → Int32) => fk_wm cJ cI cZ am cd kn lo tn wd sg up dn of bey rnd tx u.1 u.2 ++ tl)) A) rfl (by decide) (Nat.le_of_ble_eq_true rfl) ?_
  intro p e s m below meth c A ls args QQ hQQ hAt hP hK hN hD hA hS hl
  obtain ⟨⟨hx, hb, hml, hown, hts⟩, hr, hlocks, hin⟩ := hAt
  have hl : lv_has ls 4 [(0, .ref (am 0)), (1, .int (nI p0))] := hl
  have k1 := hts (.fieldLink RX4 39 "FixedKindsModel" "sign" "[I") (by decide +kernel)
  have k2 := (by decide +kernel : ∀ w ∈ u_ws RX4 TX4 14, w ∈ wsX4_halve)
  have k3 := hts (.fieldLink RX4 36 "FixedKindsModel" "part" "[I") (by decide +kernel)
  refine lv_iconst (v := 0) hx hb dX4_halve_0 (by decide) ?_
  refine lv_istore_n (lv' := [(2, .int 0), (0, .ref (am 0)), (1, .int (nI p0))]) hx hb dX4_halve_1 rfl hl (by decide) rfl (fun ls hl => ?_)
  have L2 : ∀ (fu2 : Nat) (k : Nat) (pv : Nat → Int32), 16 - k < fu2 → (k ≤ 16) → (fk_N (fk_M pv p0) k ∧ 2 * fk_T (fk_M pv p0) k + fk_M pt p0 0 % 2 = fk_T (fk_M pt p0) k + (if k < 16 then fk_M pt p0 k % 2 else 0) * 65536 ^ k) → (∀ i, (i < 16 * p0 ∨ 16 * p0 + k ≤ i) → pv i = pt i) → (fk_fp p0 pt pv) → ∀ (H : Heap) (locs : List Loc) (ls : Array Slot), va_P D vwCl (fk_wm cJ cI cZ am cd kn lo tn wd sg up dn of bey rnd tx pv sn ++ tl) H → va_D A (fk_wm cJ cI cZ am cd kn lo tn wd sg up dn of bey rnd tx pv sn ++ tl) → va_S A s.heap H locs → lv_has ls 4 [(0, .ref (am 0)), (1, .int (nI p0)), (2, .int (nI k))] → W p l e rmX4_halve s m args below meth c H locs 0 0 QQ (F0 m 2 ls []) := by
    intro fu2
    induction fu2 with
    | zero => intro k pv hfu; exact absurd hfu (Nat.not_lt_zero _)
    | succ fu2 ih2 =>
      intro k pv hfu2 hk hc hg hfr H locs ls hP hD hS hl
      refine lv_iload_n hx hb dX4_halve_2 rfl (lv_at hl 2 rfl) ?_
      refine lv_bipush (v := 16) hx hb dX4_halve_3 (by decide) ?_
      refine lv_icmp_ge (tgt := 71) hx hb dX4_halve_5 (by decide) (fun c_5 => ?_) (fun c_5 => ?_)
      · have hk16 : k = 16 := by have q := (nI_leI (a := 16) (b := k) (by omega) (by omega)).mp c_5; omega
        subst hk16
        refine lv_aload_n hx hb dX4_halve_71 rfl (lv_at hl 0 rfl) ?_
        refine lv_iload_n hx hb dX4_halve_72 rfl (lv_at hl 1 rfl) ?_
        have hrg : fk_rg (x / 2) p0 pv := by
          refine ⟨hc.1, ?_⟩
          have h2 := hc.2
          rw [if_neg (by omega), gA.2] at h2
          omega
        refine fk_ci hD hS hA (va_runV (As := [.int (nI p0)]) (rest := []) ⟨hx, hb, hml, hown, hts⟩ (kX4_nothing _ am tl cd kn lo tn wd sg up dn of bey rnd tx pv sn p0 (x / 2) hp hrg) (cwV 1 hts gX4_halve_X4_nothing rfl rfl rfl (by decide +kernel) ⟨Nat.le_of_ble_eq_true rfl, Nat.le_of_ble_eq_true rfl⟩) (fk_preV 0 5 hK hN hP hD rfl rfl) rfl rfl hl.1 rfl (lv_room (Nat.le_of_ble_eq_true rfl)) dX4_halve_73 ⟨Nat.le_of_ble_eq_true rfl, Nat.le_of_ble_eq_true rfl⟩) (fun r1 u H locs hw hP hD hS => ?_)
        have hP : va_P D vwCl (fk_wm cJ cI cZ am cd kn lo tn wd sg up dn of bey rnd tx pv sn ++ tl) H := hP
        have hD : va_D A (fk_wm cJ cI cZ am cd kn lo tn wd sg up dn of bey rnd tx pv sn ++ tl) := hD
        have zn := hw
        refine lv_if_eq (tgt := 86) hx hb dX4_halve_76 (by decide) (fun c_76 => ?_) (fun c_76 => ?_)
        · have hz : ¬ x / 2 = 0 := by intro q; rw [zn, if_pos q] at c_76; exact absurd c_76 (by decide)
          rw [hQQ]
          exact W.vret hx hb hr (fun t ht hW => ⟨⟨(pv, sn), rfl, ⟨hrg, hfr, fk_fs_0 _ _, by rw [if_neg hz]⟩, by rw [ht]; exact hP, va_K.moved hW.alike hK, hD⟩, hS.F ht⟩) hS.2.2 dX4_halve_86
        · have hz : x / 2 = 0 := by by_cases q : x / 2 = 0; exact q; rw [zn, if_neg q] at c_76; exact absurd rfl c_76
          refine lv_aload_n hx hb dX4_halve_79 rfl (lv_at hl 0 rfl) ?_
          refine va_get (D := D) (ci := 5) (v := .ref (am 10)) (C := RX4) (T := TX4) (N := 14) hx hb hts k2 hown hK hP 0 rfl rfl 13 (by decide) k1 (fun _ h9 => h9) rfl dX4_halve_80 ?_
          refine lv_iload_n hx hb dX4_halve_83 rfl (lv_at hl 1 rfl) ?_
          refine lv_iconst (v := 0) hx hb dX4_halve_84 (by decide) ?_
          refine fk_iast hx hb hK hP hD hS 10 2 rfl rfl (i := p0) hp (by decide) dX4_halve_85 (fun H locs hP hD hS => ?_)
          have hP : va_P D vwCl (fk_wm cJ cI cZ am cd kn lo tn wd sg up dn of bey rnd tx pv (upd sn p0 0) ++ tl) H := hP
          have hD : va_D A (fk_wm cJ cI cZ am cd kn lo tn wd sg up dn of bey rnd tx pv (upd sn p0 0) ++ tl) := hD
          rw [hQQ]
          exact W.vret hx hb hr (fun t ht hW => ⟨⟨(pv, upd sn p0 0), rfl, ⟨hrg, hfr, fk_fs_u _ _ _, by rw [if_pos hz]; exact pk_us⟩, by rw [ht]; exact hP, va_K.moved hW.alike hK, hD⟩, hS.F ht⟩) hS.2.2 dX4_halve_86
      · have hk16 : k < 16 := by rcases Nat.lt_or_ge k 16 with q | q; exact q; exact absurd ((nI_leI (a := 16) (b := k) (by omega) (by omega)).mpr q) c_5
        refine lv_iload_n hx hb dX4_halve_8 rfl (lv_at hl 2 rfl) ?_
        refine lv_iconst (v := 1) hx hb dX4_halve_9 (by decide) ?_
        refine lv_iadd hx hb dX4_halve_10 ?_
        refine lv_topi (fun x2 ex2 => ?_)
        have ex2q : x2 = nI (k + 1) := by
          rw [ex2]; exact nI_1 k
        subst ex2q
        refine lv_bipush (v := 16) hx hb dX4_halve_11 (by decide) ?_
        refine lv_icmp_ge (tgt := 32) hx hb dX4_halve_13 (by decide) (fun c_13 => ?_) (fun c_13 => ?_)
        · have hk15 : k = 15 := by have q := (nI_leI (a := 16) (b := k + 1) (by omega) (by omega)).mp c_13; omega
          refine lv_iconst (v := 0) hx hb dX4_halve_32 (by decide) ?_
          refine lv_istore_n (lv' := [(3, .int 0), (0, .ref (am 0)), (1, .int (nI p0)), (2, .int (nI k))]) hx hb dX4_halve_33 rfl hl (by decide) rfl (fun ls hl => ?_)
          refine lv_aload_n hx hb dX4_halve_34 rfl (lv_at hl 1 rfl) ?_
          refine va_get (D := D) (ci := 5) (v := .ref (am 9)) (C := RX4) (T := TX4) (N := 14) hx hb hts k2 hown hK hP 0 rfl rfl 12 (by decide) k3 (fun _ h9 => h9) rfl dX4_halve_35 ?_
          refine lv_bipush (v := 16) hx hb dX4_halve_38 (by decide) ?_
          refine lv_iload_n hx hb dX4_halve_40 rfl (lv_at hl 2 rfl) ?_
          refine lv_imul hx hb dX4_halve_41 ?_
          refine lv_topi (fun x3 ex3 => ?_)
          have ex3q : x3 = nI (16 * p0) := by
            rw [ex3]; exact pk_mul 16 p0
          subst ex3q
          refine lv_iload_n hx hb dX4_halve_42 rfl (lv_at hl 3 rfl) ?_
          refine lv_iadd hx hb dX4_halve_43 ?_
          refine lv_topi (fun x4 ex4 => ?_)
          have ex4q : x4 = nI (16 * p0 + k) := by
            rw [ex4]; exact nI_add (16 * p0) k
          subst ex4q
          refine lv_aload_n hx hb dX4_halve_44 rfl (lv_at hl 1 rfl) ?_
          refine va_get (D := D) (ci := 5) (v := .ref (am 9)) (C := RX4) (T := TX4) (N := 14) hx hb hts k2 hown hK hP 0 rfl rfl 12 (by decide) k3 (fun _ h9 => h9) rfl dX4_halve_45 ?_
          refine lv_bipush (v := 16) hx hb dX4_halve_48 (by decide) ?_
          refine lv_iload_n hx hb dX4_halve_50 rfl (lv_at hl 2 rfl) ?_
          refine lv_imul hx hb dX4_halve_51 ?_
          refine lv_topi (fun x5 ex5 => ?_)
          have ex5q : x5 = nI (16 * p0) := by
            rw [ex5]; exact pk_mul 16 p0
          subst ex5q
          refine lv_iload_n hx hb dX4_halve_52 rfl (lv_at hl 3 rfl) ?_
          refine lv_iadd hx hb dX4_halve_53 ?_
          refine lv_topi (fun x6 ex6 => ?_)
          have ex6q : x6 = nI (16 * p0 + k) := by
            rw [ex6]; exact nI_add (16 * p0) k
          subst ex6q
          refine fk_iald hx hb hK hP 9 2 rfl rfl (i := 16 * p0 + k) (by omega) (by decide) dX4_halve_54 ?_
          refine lv_iconst (v := 1) hx hb dX4_halve_55 (by decide) ?_
          refine lv_ishr hx hb dX4_halve_56 ?_
          refine lv_topi (fun x7 ex7 => ?_)
          refine lv_iload_n hx hb dX4_halve_57 rfl (lv_at hl 0 rfl) ?_
          refine lv_iconst (v := 1) hx hb dX4_halve_58 (by decide) ?_
          refine lv_iand hx hb dX4_halve_59 ?_
          refine lv_topi (fun x8 ex8 => ?_)
          refine lv_bipush (v := 15) hx hb dX4_halve_60 (by decide) ?_
          refine lv_ishl hx hb dX4_halve_62 ?_
          refine lv_topi (fun x9 ex9 => ?_)
          refine lv_ior hx hb dX4_halve_63 ?_
          refine lv_topi (fun x10 ex10 => ?_)
          have xk := gA.1 k hk16
          rw [fk_M_def] at xk
          have ek : pv (16 * p0 + k) = pt (16 * p0 + k) := hg _ (by omega)
          have nb : (0 : Int32).toInt = (if k + 1 < 16 then fk_M pt p0 (k + 1) else 0) := by rw [if_neg (by omega)]; decide
          have nbd : 0 ≤ (0 : Int32).toInt ∧ (0 : Int32).toInt < 65536 := by decide
          have hxv : x10.toInt = fk_M pt p0 k / 2 + (if k + 1 < 16 then fk_M pt p0 (k + 1) % 2 else 0) * 32768 := by
            rw [ex10, ex7, ex9, ex8, ek, fi_half xk nbd, nb, fk_M]
            split <;> rfl
          refine fk_iast hx hb hK hP hD hS 9 2 rfl rfl (i := 16 * p0 + k) (by omega) (by decide) dX4_halve_64 (fun H locs hP hD hS => ?_)
          have hP : va_P D vwCl (fk_wm cJ cI cZ am cd kn lo tn wd sg up dn of bey rnd tx (upd pv (16 * p0 + k) x10) sn ++ tl) H := hP
          have hD : va_D A (fk_wm cJ cI cZ am cd kn lo tn wd sg up dn of bey rnd tx (upd pv (16 * p0 + k) x10) sn ++ tl) := hD
          have e : ∀ j, j < k → fk_M (upd pv (16 * p0 + k) x10) p0 j = fk_M pv p0 j := fun j hj => by rw [fk_M, fk_M, pk_un (by omega)]
          have e2 : fk_M (upd pv (16 * p0 + k) x10) p0 k = fk_M pt p0 k / 2 + (if k + 1 < 16 then fk_M pt p0 (k + 1) % 2 else 0) * 32768 := by rw [fk_M, pk_us]; exact hxv
          have a3 : fk_N (fk_M (upd pv (16 * p0 + k) x10) p0) (k + 1) ∧ 2 * fk_T (fk_M (upd pv (16 * p0 + k) x10) p0) (k + 1) + fk_M pt p0 0 % 2 = fk_T (fk_M pt p0) (k + 1) + (if k + 1 < 16 then fk_M pt p0 (k + 1) % 2 else 0) * 65536 ^ (k + 1) := by
            refine ⟨fun j hj => ?_, ?_⟩
            · by_cases q : j = k
              · subst q; rw [e2]; rw [fk_M_def]; split <;> omega
              · rw [e j (by omega)]; exact hc.1 j (by omega)
            · have h2 := hc.2
              rw [if_pos hk16] at h2
              rw [fk_T, fk_T, fk_T_congr e, e2, Int.pow_succ]
              have h3 : fk_M pt p0 k = 2 * (fk_M pt p0 k / 2) + fk_M pt p0 k % 2 := by omega
              generalize (if k + 1 < 16 then fk_M pt p0 (k + 1) % 2 else 0) = nb2 at *
              generalize fk_M pt p0 k / 2 = hq at *
              generalize fk_M pt p0 k % 2 = hr2 at *
              rw [h3]
              generalize (65536 : Int) ^ k = pk at *
              grind
          have a4 : ∀ i, (i < 16 * p0 ∨ 16 * p0 + (k + 1) ≤ i) → upd pv (16 * p0 + k) x10 i = pt i := fun i hi => by rw [pk_un (by omega)]; exact hg i (by omega)
          have a5 := fk_fp_t hfr (fk_fp_u (p := p0) (pt := pv) (y := x10) hk16)
          refine lv_iinc (v := nI (k + 1)) (lv' := [(2, .int (nI (k + 1))), (3, .int 0), (0, .ref (am 0)), (1, .int (nI p0))]) hx hb dX4_halve_65 hl (k := 3) rfl (by exact nI_1 k) (by decide) rfl (fun ls hl => ?_)
          refine lv_goto (tgt := 2) hx hb dX4_halve_68 (by decide) ?_
          exact ih2 (k + 1) (upd pv (16 * p0 + k) x10) (by omega) (by omega) a3 a4 a5 _ _ _ hP hD hS (lv_sub hl [2, 3, 0] rfl)
        · have hk15 : k + 1 < 16 := by rcases Nat.lt_or_ge (k + 1) 16 with q | q; exact q; exact absurd ((nI_leI (a := 16) (b := k + 1) (by omega) (by omega)).mpr q) c_13
          have xn := gA.1 (k + 1) hk15
          rw [fk_M_def] at xn
          refine lv_aload_n hx hb dX4_halve_16 rfl (lv_at hl 0 rfl) ?_
          refine va_get (D := D) (ci := 5) (v := .ref (am 9)) (C := RX4) (T := TX4) (N := 14) hx hb hts k2 hown hK hP 0 rfl rfl 12 (by decide) k3 (fun _ h9 => h9) rfl dX4_halve_17 ?_
          refine lv_bipush (v := 16) hx hb dX4_halve_20 (by decide) ?_
          refine lv_iload_n hx hb dX4_halve_22 rfl (lv_at hl 1 rfl) ?_
          refine lv_imul hx hb dX4_halve_23 ?_
          refine lv_topi (fun x11 ex11 => ?_)
          have ex11q : x11 = nI (16 * p0) := by
            rw [ex11]; exact pk_mul 16 p0
          subst ex11q
          refine lv_iload_n hx hb dX4_halve_24 rfl (lv_at hl 2 rfl) ?_
          refine lv_iadd hx hb dX4_halve_25 ?_
          refine lv_topi (fun x12 ex12 => ?_)
          have ex12q : x12 = nI (16 * p0 + k) := by
            rw [ex12]; exact nI_add (16 * p0) k
          subst ex12q
          refine lv_iconst (v := 1) hx hb dX4_halve_26 (by decide) ?_
          refine lv_iadd hx hb dX4_halve_27 ?_
          refine lv_topi (fun x13 ex13 => ?_)
          have ex13q : x13 = nI (16 * p0 + (k + 1)) := by
            rw [ex13]; exact nI_1 (16 * p0 + k)
          subst ex13q
          refine fk_iald hx hb hK hP 9 2 rfl rfl (i := 16 * p0 + (k + 1)) (by omega) (by decide) dX4_halve_28 ?_
          refine lv_goto (tgt := 33) hx hb dX4_halve_29 (by decide) ?_
          refine lv_istore_n (lv' := [(3, .int (pv (16 * p0 + (k + 1)))), (0, .ref (am 0)), (1, .int (nI p0)), (2, .int (nI k))]) hx hb dX4_halve_33 rfl hl (by decide) rfl (fun ls hl => ?_)
          refine lv_aload_n hx hb dX4_halve_34 rfl (lv_at hl 1 rfl) ?_
          refine va_get (D := D) (ci := 5) (v := .ref (am 9)) (C := RX4) (T := TX4) (N := 14) hx hb hts k2 hown hK hP 0 rfl rfl 12 (by decide) k3 (fun _ h9 => h9) rfl dX4_halve_35 ?_
          refine lv_bipush (v := 16) hx hb dX4_halve_38 (by decide) ?_
          refine lv_iload_n hx hb dX4_halve_40 rfl (lv_at hl 2 rfl) ?_
          refine lv_imul hx hb dX4_halve_41 ?_
          refine lv_topi (fun x14 ex14 => ?_)
          have ex14q : x14 = nI (16 * p0) := by
            rw [ex14]; exact pk_mul 16 p0
          subst ex14q
          refine lv_iload_n hx hb dX4_halve_42 rfl (lv_at hl 3 rfl) ?_
          refine lv_iadd hx hb dX4_halve_43 ?_
          refine lv_topi (fun x15 ex15 => ?_)
          have ex15q : x15 = nI (16 * p0 + k) := by
            rw [ex15]; exact nI_add (16 * p0) k
          subst ex15q
          refine lv_aload_n hx hb dX4_halve_44 rfl (lv_at hl 1 rfl) ?_
          refine va_get (D := D) (ci := 5) (v := .ref (am 9)) (C := RX4) (T := TX4) (N := 14) hx hb hts k2 hown hK hP 0 rfl rfl 12 (by decide) k3 (fun _ h9 => h9) rfl dX4_halve_45 ?_
          refine lv_bipush (v := 16) hx hb dX4_halve_48 (by decide) ?_
          refine lv_iload_n hx hb dX4_halve_50 rfl (lv_at hl 2 rfl) ?_
          refine lv_imul hx hb dX4_halve_51 ?_
          refine lv_topi (fun x16 ex16 => ?_)
          have ex16q : x16 = nI (16 * p0) := by
            rw [ex16]; exact pk_mul 16 p0
          subst ex16q
          refine lv_iload_n hx hb dX4_halve_52 rfl (lv_at hl 3 rfl) ?_
          refine lv_iadd hx hb dX4_halve_53 ?_
          refine lv_topi (fun x17 ex17 => ?_)
          have ex17q : x17 = nI (16 * p0 + k) := by
            rw [ex17]; exact nI_add (16 * p0) k
          subst ex17q
          refine fk_iald hx hb hK hP 9 2 rfl rfl (i := 16 * p0 + k) (by omega) (by decide) dX4_halve_54 ?_
          refine lv_iconst (v := 1) hx hb dX4_halve_55 (by decide) ?_
          refine lv_ishr hx hb dX4_halve_56 ?_
          refine lv_topi (fun x18 ex18 => ?_)
          refine lv_iload_n hx hb dX4_halve_57 rfl (lv_at hl 0 rfl) ?_
          refine lv_iconst (v := 1) hx hb dX4_halve_58 (by decide) ?_
          refine lv_iand hx hb dX4_halve_59 ?_
          refine lv_topi (fun x19 ex19 => ?_)
          refine lv_bipush (v := 15) hx hb dX4_halve_60 (by decide) ?_
          refine lv_ishl hx hb dX4_halve_62 ?_
          refine lv_topi (fun x20 ex20 => ?_)
          refine lv_ior hx hb dX4_halve_63 ?_
          refine lv_topi (fun x21 ex21 => ?_)
          have xk := gA.1 k hk16
          rw [fk_M_def] at xk
          have ek : pv (16 * p0 + k) = pt (16 * p0 + k) := hg _ (by omega)
          have nb : (pv (16 * p0 + (k + 1))).toInt = (if k + 1 < 16 then fk_M pt p0 (k + 1) else 0) := by rw [if_pos hk15, hg _ (by omega)]; rfl
          have nbd : 0 ≤ (pv (16 * p0 + (k + 1))).toInt ∧ (pv (16 * p0 + (k + 1))).toInt < 65536 := by rw [hg _ (by omega)]; exact xn
          have hxv : x21.toInt = fk_M pt p0 k / 2 + (if k + 1 < 16 then fk_M pt p0 (k + 1) % 2 else 0) * 32768 := by
            rw [ex21, ex18, ex20, ex19, ek, fi_half xk nbd, nb, fk_M]
            split <;> rfl
          refine fk_iast hx hb hK hP hD hS 9 2 rfl rfl (i := 16 * p0 + k) (by omega) (by decide) dX4_halve_64 (fun H locs hP hD hS => ?_)
          have hP : va_P D vwCl (fk_wm cJ cI cZ am cd kn lo tn wd sg up dn of bey rnd tx (upd pv (16 * p0 + k) x21) sn ++ tl) H := hP
          have hD : va_D A (fk_wm cJ cI cZ am cd kn lo tn wd sg up dn of bey rnd tx (upd pv (16 * p0 + k) x21) sn ++ tl) := hD
          have e : ∀ j, j < k → fk_M (upd pv (16 * p0 + k) x21) p0 j = fk_M pv p0 j := fun j hj => by rw [fk_M, fk_M, pk_un (by omega)]
          have e2 : fk_M (upd pv (16 * p0 + k) x21) p0 k = fk_M pt p0 k / 2 + (if k + 1 < 16 then fk_M pt p0 (k + 1) % 2 else 0) * 32768 := by rw [fk_M, pk_us]; exact hxv
          have a3 : fk_N (fk_M (upd pv (16 * p0 + k) x21) p0) (k + 1) ∧ 2 * fk_T (fk_M (upd pv (16 * p0 + k) x21) p0) (k + 1) + fk_M pt p0 0 % 2 = fk_T (fk_M pt p0) (k + 1) + (if k + 1 < 16 then fk_M pt p0 (k + 1) % 2 else 0) * 65536 ^ (k + 1) := by
            refine ⟨fun j hj => ?_, ?_⟩
            · by_cases q : j = k
              · subst q; rw [e2]; rw [fk_M_def]; split <;> omega
              · rw [e j (by omega)]; exact hc.1 j (by omega)
            · have h2 := hc.2
              rw [if_pos hk16] at h2
              rw [fk_T, fk_T, fk_T_congr e, e2, Int.pow_succ]
              have h3 : fk_M pt p0 k = 2 * (fk_M pt p0 k / 2) + fk_M pt p0 k % 2 := by omega
              generalize (if k + 1 < 16 then fk_M pt p0 (k + 1) % 2 else 0) = nb2 at *
              generalize fk_M pt p0 k / 2 = hq at *
              generalize fk_M pt p0 k % 2 = hr2 at *
              rw [h3]
              generalize (65536 : Int) ^ k = pk at *
              grind
          have a4 : ∀ i, (i < 16 * p0 ∨ 16 * p0 + (k + 1) ≤ i) → upd pv (16 * p0 + k) x21 i = pt i := fun i hi => by rw [pk_un (by omega)]; exact hg i (by omega)
          have a5 := fk_fp_t hfr (fk_fp_u (p := p0) (pt := pv) (y := x21) hk16)
          refine lv_iinc (v := nI (k + 1)) (lv' := [(2, .int (nI (k + 1))), (3, .int (pv (16 * p0 + (k + 1)))), (0, .ref (am 0)), (1, .int (nI p0))]) hx hb dX4_halve_65 hl (k := 3) rfl (by exact nI_1 k) (by decide) rfl (fun ls hl => ?_)
          refine lv_goto (tgt := 2) hx hb dX4_halve_68 (by decide) ?_
          exact ih2 (k + 1) (upd pv (16 * p0 + k) x21) (by omega) (by omega) a3 a4 a5 _ _ _ hP hD hS (lv_sub hl [2, 3, 0] rfl)
  exact L2 17 0 pt (by omega) (by omega) ⟨fun i h => absurd h (Nat.not_lt_zero i), by rw [if_pos (by omega)]; simp [fk_T]⟩ (fun _ _ => rfl) (fk_fp_0 _ _) _ _ _ hP hD hS (lv_sub hl [1, 2, 0] rfl)
abbrev rmX4_low : Room := { frames := 0, cells := 0, slots := 0, locals := 0 }
set_option maxHeartbeats 4000000 in
set_option maxRecDepth 100000 in
/-- low -/
theorem kX4_low {l : Launch} {D : va_G} {cJ cC cI cZ cK : ClassId} (sz : Nat) (am : Nat → Nat) (tl : va_W) (cd kn lo tn : Int32) (wd sg : Nat → Int32) (up dn of : Nat → Int64) (bey rnd tx pt sn : Nat → Int32) (p0 : Nat) (x : Int) (hp : p0 < 24) (gA : fk_G x p0 pt sn) : Met l yX4_low wsX4_low rmX4_low (va_Pc [.ref (am 0), .int (nI p0)] (fk_pre D (fk_ty cJ cC cI cZ cK) (fk_wm cJ cI cZ am cd kn lo tn wd sg up dn of bey rnd tx pt sn ++ tl) sz)) (va_Ql (fun (r : Int64) (_ : Unit) => r = Int64.ofInt x) (fk_Bd D (fk_ty cJ cC cI cZ cK) (va_A (fk_wm cJ cI cZ am cd kn lo tn wd sg up dn of bey rnd tx pt sn ++ tl) sz) (fun _ : Unit => fk_wm cJ cI cZ am cd kn lo tn wd sg up dn of bey rnd tx pt sn ++ tl)) (va_A (fk_wm cJ cI cZ am cd kn lo tn wd sg up dn of bey rnd tx pt sn ++ tl) sz)) 0 0 (va_A (fk_wm cJ cI cZ am cd kn lo tn wd sg up dn of bey rnd tx pt sn ++ tl) sz) := by
  refine fk_ofW cX4_low 5 (some .long) (fun A => va_Ql (fun (r : Int64) (_ : Unit) => r = Int64.ofInt x) (fk_Bd D (fk_ty cJ cC cI cZ cK) A (fun _ : Unit => fk_wm cJ cI cZ am cd kn lo tn wd sg up dn of bey rnd tx pt sn ++ tl)) A) rfl (by decide) (Nat.le_of_ble_eq_true rfl) ?_
  intro p e s m below meth c A ls args QQ hQQ hAt hP hK hN hD hA hS hl
  obtain ⟨⟨hx, hb, hml, hown, hts⟩, hr, hlocks, hin⟩ := hAt
  have hl : lv_has ls 5 [(0, .ref (am 0)), (1, .int (nI p0))] := hl
  have k1 := hts (.fieldLink RX4 36 "FixedKindsModel" "part" "[I") (by decide +kernel)
  have k2 := (by decide +kernel : ∀ w ∈ u_ws RX4 TX4 14, w ∈ wsX4_low)
  have k3 := hts (.fieldLink RX4 39 "FixedKindsModel" "sign" "[I") (by decide +kernel)
  refine lv_lconst (v := 0) hx hb dX4_low_0 (by decide) ?_
  refine lv_lstore_n (lv' := [(2, .long 0), (0, .ref (am 0)), (1, .int (nI p0))]) hx hb dX4_low_1 rfl hl (by decide) rfl (fun ls hl => ?_)
  refine lv_iconst (v := 3) hx hb dX4_low_2 (by decide) ?_
  refine lv_istore (lv' := [(4, .int 3), (2, .long 0), (0, .ref (am 0)), (1, .int (nI p0))]) hx hb dX4_low_3 hl (by decide) rfl (fun ls hl => ?_)
  refine lv_iload hx hb dX4_low_5 (lv_at hl 0 rfl) ?_
  refine lv_if_lt (tgt := 35) hx hb dX4_low_7 (by decide) (fun c_7 => False.elim (absurd c_7 (by decide))) (fun c_7 => ?_)
  refine lv_lload_n hx hb dX4_low_10 rfl (lv_at hl 1 rfl) ?_
  refine lv_bipush (v := 16) hx hb dX4_low_11 (by decide) ?_
  refine lv_lshl hx hb dX4_low_13 rfl ?_
  refine lv_topl (fun x1 ex1 => ?_)
  refine lv_aload_n hx hb dX4_low_14 rfl (lv_at hl 2 rfl) ?_
  refine va_get (D := D) (ci := 5) (v := .ref (am 9)) (C := RX4) (T := TX4) (N := 14) hx hb hts k2 hown hK hP 0 rfl rfl 12 (by decide) k1 (fun _ h9 => h9) rfl dX4_low_15 ?_
  refine lv_bipush (v := 16) hx hb dX4_low_18 (by decide) ?_
  refine lv_iload_n hx hb dX4_low_20 rfl (lv_at hl 3 rfl) ?_
  refine lv_imul hx hb dX4_low_21 ?_
  refine lv_topi (fun x2 ex2 => ?_)
  have ex2q : x2 = nI (16 * p0) := by
    rw [ex2]; exact pk_mul 16 p0
  subst ex2q
  refine lv_iload hx hb dX4_low_22 (lv_at hl 0 rfl) ?_
  refine lv_iadd hx hb dX4_low_24 ?_
  refine lv_topi (fun x3 ex3 => ?_)
  have ex3q : x3 = nI (16 * p0 + 3) := by
    rw [ex3]; exact nI_add (16 * p0) 3
  subst ex3q
  refine fk_iald hx hb hK hP 9 2 rfl rfl (i := 16 * p0 + 3) (by omega) (by decide) dX4_low_25 ?_
  refine lv_i2l hx hb dX4_low_26 rfl ?_
  refine lv_topl (fun x4 ex4 => ?_)
  have m3 := gA.1.1 3 (by omega)
  rw [fk_M_def] at m3
  have u3 : x4.toInt = fk_M pt p0 3 := by rw [ex4, Int32.toInt_toInt64]; rfl
  have v3 : 0 ≤ x4.toInt ∧ x4.toInt < 65536 := by rw [u3, fk_M]; exact m3
  refine lv_lor hx hb dX4_low_27 ?_
  refine lv_topl (fun x5 ex5 => ?_)
  have ex5q : x5 = Int64.ofInt (x4.toInt) := by
    rw [ex5, ex1, show (0 : Int64) = Int64.ofInt 0 by decide, fk_or16' v3.1 v3.2]; congr 1; omega
  subst ex5q
  refine lv_lstore_n (lv' := [(2, .long (Int64.ofInt (x4.toInt))), (4, .int 3), (0, .ref (am 0)), (1, .int (nI p0))]) hx hb dX4_low_28 rfl hl (by decide) rfl (fun ls hl => ?_)
  refine lv_iinc (v := 2) (lv' := [(4, .int 2), (2, .long (Int64.ofInt (x4.toInt))), (0, .ref (am 0)), (1, .int (nI p0))]) hx hb dX4_low_29 hl (k := 1) rfl (by decide) (by decide) rfl (fun ls hl => ?_)
  refine lv_goto (tgt := 5) hx hb dX4_low_32 (by decide) ?_
  refine lv_iload hx hb dX4_low_5 (lv_at hl 0 rfl) ?_
  refine lv_if_lt (tgt := 35) hx hb dX4_low_7 (by decide) (fun c_7 => False.elim (absurd c_7 (by decide))) (fun c_7 => ?_)
  refine lv_lload_n hx hb dX4_low_10 rfl (lv_at hl 1 rfl) ?_
  refine lv_bipush (v := 16) hx hb dX4_low_11 (by decide) ?_
  refine lv_lshl hx hb dX4_low_13 rfl ?_
  refine lv_topl (fun x6 ex6 => ?_)
  refine lv_aload_n hx hb dX4_low_14 rfl (lv_at hl 2 rfl) ?_
  refine va_get (D := D) (ci := 5) (v := .ref (am 9)) (C := RX4) (T := TX4) (N := 14) hx hb hts k2 hown hK hP 0 rfl rfl 12 (by decide) k1 (fun _ h9 => h9) rfl dX4_low_15 ?_
  refine lv_bipush (v := 16) hx hb dX4_low_18 (by decide) ?_
  refine lv_iload_n hx hb dX4_low_20 rfl (lv_at hl 3 rfl) ?_
  refine lv_imul hx hb dX4_low_21 ?_
  refine lv_topi (fun x7 ex7 => ?_)
  have ex7q : x7 = nI (16 * p0) := by
    rw [ex7]; exact pk_mul 16 p0
  subst ex7q
  refine lv_iload hx hb dX4_low_22 (lv_at hl 0 rfl) ?_
  refine lv_iadd hx hb dX4_low_24 ?_
  refine lv_topi (fun x8 ex8 => ?_)
  have ex8q : x8 = nI (16 * p0 + 2) := by
    rw [ex8]; exact nI_add (16 * p0) 2
  subst ex8q
  refine fk_iald hx hb hK hP 9 2 rfl rfl (i := 16 * p0 + 2) (by omega) (by decide) dX4_low_25 ?_
  refine lv_i2l hx hb dX4_low_26 rfl ?_
  refine lv_topl (fun x9 ex9 => ?_)
  have m2 := gA.1.1 2 (by omega)
  rw [fk_M_def] at m2
  have u2 : x9.toInt = fk_M pt p0 2 := by rw [ex9, Int32.toInt_toInt64]; rfl
  have v2 : 0 ≤ x9.toInt ∧ x9.toInt < 65536 := by rw [u2, fk_M]; exact m2
  refine lv_lor hx hb dX4_low_27 ?_
  refine lv_topl (fun x10 ex10 => ?_)
  have ex10q : x10 = Int64.ofInt ((x4.toInt) * 65536 + x9.toInt) := by
    rw [ex10, ex6]; exact fk_or16' v2.1 v2.2
  subst ex10q
  refine lv_lstore_n (lv' := [(2, .long (Int64.ofInt ((x4.toInt) * 65536 + x9.toInt))), (4, .int 2), (0, .ref (am 0)), (1, .int (nI p0))]) hx hb dX4_low_28 rfl hl (by decide) rfl (fun ls hl => ?_)
  refine lv_iinc (v := 1) (lv' := [(4, .int 1), (2, .long (Int64.ofInt ((x4.toInt) * 65536 + x9.toInt))), (0, .ref (am 0)), (1, .int (nI p0))]) hx hb dX4_low_29 hl (k := 1) rfl (by decide) (by decide) rfl (fun ls hl => ?_)
  refine lv_goto (tgt := 5) hx hb dX4_low_32 (by decide) ?_
  refine lv_iload hx hb dX4_low_5 (lv_at hl 0 rfl) ?_
  refine lv_if_lt (tgt := 35) hx hb dX4_low_7 (by decide) (fun c_7 => False.elim (absurd c_7 (by decide))) (fun c_7 => ?_)
  refine lv_lload_n hx hb dX4_low_10 rfl (lv_at hl 1 rfl) ?_
  refine lv_bipush (v := 16) hx hb dX4_low_11 (by decide) ?_
  refine lv_lshl hx hb dX4_low_13 rfl ?_
  refine lv_topl (fun x11 ex11 => ?_)
  refine lv_aload_n hx hb dX4_low_14 rfl (lv_at hl 2 rfl) ?_
  refine va_get (D := D) (ci := 5) (v := .ref (am 9)) (C := RX4) (T := TX4) (N := 14) hx hb hts k2 hown hK hP 0 rfl rfl 12 (by decide) k1 (fun _ h9 => h9) rfl dX4_low_15 ?_
  refine lv_bipush (v := 16) hx hb dX4_low_18 (by decide) ?_
  refine lv_iload_n hx hb dX4_low_20 rfl (lv_at hl 3 rfl) ?_
  refine lv_imul hx hb dX4_low_21 ?_
  refine lv_topi (fun x12 ex12 => ?_)
  have ex12q : x12 = nI (16 * p0) := by
    rw [ex12]; exact pk_mul 16 p0
  subst ex12q
  refine lv_iload hx hb dX4_low_22 (lv_at hl 0 rfl) ?_
  refine lv_iadd hx hb dX4_low_24 ?_
  refine lv_topi (fun x13 ex13 => ?_)
  have ex13q : x13 = nI (16 * p0 + 1) := by
    rw [ex13]; exact nI_add (16 * p0) 1
  subst ex13q
  refine fk_iald hx hb hK hP 9 2 rfl rfl (i := 16 * p0 + 1) (by omega) (by decide) dX4_low_25 ?_
  refine lv_i2l hx hb dX4_low_26 rfl ?_
  refine lv_topl (fun x14 ex14 => ?_)
  have m1 := gA.1.1 1 (by omega)
  rw [fk_M_def] at m1
  have u1 : x14.toInt = fk_M pt p0 1 := by rw [ex14, Int32.toInt_toInt64]; rfl
  have v1 : 0 ≤ x14.toInt ∧ x14.toInt < 65536 := by rw [u1, fk_M]; exact m1
  refine lv_lor hx hb dX4_low_27 ?_
  refine lv_topl (fun x15 ex15 => ?_)
  have ex15q : x15 = Int64.ofInt (((x4.toInt) * 65536 + x9.toInt) * 65536 + x14.toInt) := by
    rw [ex15, ex11]; exact fk_or16' v1.1 v1.2
  subst ex15q
  refine lv_lstore_n (lv' := [(2, .long (Int64.ofInt (((x4.toInt) * 65536 + x9.toInt) * 65536 + x14.toInt))), (4, .int 1), (0, .ref (am 0)), (1, .int (nI p0))]) hx hb dX4_low_28 rfl hl (by decide) rfl (fun ls hl => ?_)
  refine lv_iinc (v := 0) (lv' := [(4, .int 0), (2, .long (Int64.ofInt (((x4.toInt) * 65536 + x9.toInt) * 65536 + x14.toInt))), (0, .ref (am 0)), (1, .int (nI p0))]) hx hb dX4_low_29 hl (k := 1) rfl (by decide) (by decide) rfl (fun ls hl => ?_)
  refine lv_goto (tgt := 5) hx hb dX4_low_32 (by decide) ?_
  refine lv_iload hx hb dX4_low_5 (lv_at hl 0 rfl) ?_
  refine lv_if_lt (tgt := 35) hx hb dX4_low_7 (by decide) (fun c_7 => False.elim (absurd c_7 (by decide))) (fun c_7 => ?_)
  refine lv_lload_n hx hb dX4_low_10 rfl (lv_at hl 1 rfl) ?_
  refine lv_bipush (v := 16) hx hb dX4_low_11 (by decide) ?_
  refine lv_lshl hx hb dX4_low_13 rfl ?_
  refine lv_topl (fun x16 ex16 => ?_)
  refine lv_aload_n hx hb dX4_low_14 rfl (lv_at hl 2 rfl) ?_
  refine va_get (D := D) (ci := 5) (v := .ref (am 9)) (C := RX4) (T := TX4) (N := 14) hx hb hts k2 hown hK hP 0 rfl rfl 12 (by decide) k1 (fun _ h9 => h9) rfl dX4_low_15 ?_
  refine lv_bipush (v := 16) hx hb dX4_low_18 (by decide) ?_
  refine lv_iload_n hx hb dX4_low_20 rfl (lv_at hl 3 rfl) ?_
  refine lv_imul hx hb dX4_low_21 ?_
  refine lv_topi (fun x17 ex17 => ?_)
  have ex17q : x17 = nI (16 * p0) := by
    rw [ex17]; exact pk_mul 16 p0
  subst ex17q
  refine lv_iload hx hb dX4_low_22 (lv_at hl 0 rfl) ?_
  refine lv_iadd hx hb dX4_low_24 ?_
  refine lv_topi (fun x18 ex18 => ?_)
  have ex18q : x18 = nI (16 * p0 + 0) := by
    rw [ex18]; exact nI_add (16 * p0) 0
  subst ex18q
  refine fk_iald hx hb hK hP 9 2 rfl rfl (i := 16 * p0 + 0) (by omega) (by decide) dX4_low_25 ?_
  refine lv_i2l hx hb dX4_low_26 rfl ?_
  refine lv_topl (fun x19 ex19 => ?_)
  have m0 := gA.1.1 0 (by omega)
  rw [fk_M_def] at m0
  have u0 : x19.toInt = fk_M pt p0 0 := by rw [ex19, Int32.toInt_toInt64]; rfl
  have v0 : 0 ≤ x19.toInt ∧ x19.toInt < 65536 := by rw [u0, fk_M]; exact m0
  refine lv_lor hx hb dX4_low_27 ?_
  refine lv_topl (fun x20 ex20 => ?_)
  have ex20q : x20 = Int64.ofInt ((((x4.toInt) * 65536 + x9.toInt) * 65536 + x14.toInt) * 65536 + x19.toInt) := by
    rw [ex20, ex16]; exact fk_or16' v0.1 v0.2
  subst ex20q
  refine lv_lstore_n (lv' := [(2, .long (Int64.ofInt ((((x4.toInt) * 65536 + x9.toInt) * 65536 + x14.toInt) * 65536 + x19.toInt))), (4, .int 0), (0, .ref (am 0)), (1, .int (nI p0))]) hx hb dX4_low_28 rfl hl (by decide) rfl (fun ls hl => ?_)
  refine lv_iinc (v := (-1)) (lv' := [(4, .int (-1)), (2, .long (Int64.ofInt ((((x4.toInt) * 65536 + x9.toInt) * 65536 + x14.toInt) * 65536 + x19.toInt))), (0, .ref (am 0)), (1, .int (nI p0))]) hx hb dX4_low_29 hl (k := 1) rfl (by decide) (by decide) rfl (fun ls hl => ?_)
  refine lv_goto (tgt := 5) hx hb dX4_low_32 (by decide) ?_
  refine lv_iload hx hb dX4_low_5 (lv_at hl 0 rfl) ?_
  refine lv_if_lt (tgt := 35) hx hb dX4_low_7 (by decide) (fun c_7 => ?_) (fun c_7 => False.elim (c_7 (by decide)))
  have hv : Int64.ofInt ((((x4.toInt) * 65536 + x9.toInt) * 65536 + x14.toInt) * 65536 + x19.toInt) = Int64.ofInt (fk_abs x) := by
    rw [u3, u2, u1, u0]
    have t := fk_T_split (fk_M pt p0) 4 12
    rw [gA.1.2] at t
    rw [← fk_ofInt_mod, ← fk_ofInt_mod (fk_abs x)]
    congr 1
    have e4 : fk_T (fk_M pt p0) 4 = ((fk_M pt p0 3 * 65536 + fk_M pt p0 2) * 65536 + fk_M pt p0 1) * 65536 + fk_M pt p0 0 := by simp only [fk_T]; omega
    rw [t, e4, show (65536 : Int) ^ 4 = 18446744073709551616 by decide]
    omega
  refine lv_aload_n hx hb dX4_low_35 rfl (lv_at hl 2 rfl) ?_
  refine va_get (D := D) (ci := 5) (v := .ref (am 10)) (C := RX4) (T := TX4) (N := 14) hx hb hts k2 hown hK hP 0 rfl rfl 13 (by decide) k3 (fun _ h9 => h9) rfl dX4_low_36 ?_
  refine lv_iload_n hx hb dX4_low_39 rfl (lv_at hl 3 rfl) ?_
  refine fk_iald hx hb hK hP 10 2 rfl rfl (i := p0) hp (by decide) dX4_low_40 ?_
  refine lv_if_ge (tgt := 49) hx hb dX4_low_41 (by decide) (fun c_41 => ?_) (fun c_41 => ?_)
  · rw [gA.2, Int32.le_iff_toInt_le, show (0 : Int32).toInt = 0 by decide] at c_41
    have hx0 : ¬ x < 0 := fun q => by rw [fk_cmp, if_neg (by omega), if_pos q] at c_41; exact absurd c_41 (by decide)
    refine lv_lload_n hx hb dX4_low_49 rfl (lv_at hl 1 rfl) ?_
    rw [hQQ]
    exact W.lret (v := Int64.ofInt ((((x4.toInt) * 65536 + x9.toInt) * 65536 + x14.toInt) * 65536 + x19.toInt)) hx hb hr (fun t ht hW => ⟨⟨(Int64.ofInt ((((x4.toInt) * 65536 + x9.toInt) * 65536 + x14.toInt) * 65536 + x19.toInt)), (), rfl, (by show _ = _; rw [hv, fk_abs, if_neg hx0]), by rw [ht]; exact hP, va_K.moved hW.alike hK, hD⟩, hS.F ht⟩) hS.2.2 dX4_low_50
  · rw [gA.2, Int32.le_iff_toInt_le, show (0 : Int32).toInt = 0 by decide] at c_41
    have hx0 : x < 0 := by
      rw [fk_cmp] at c_41
      by_cases q0 : x = 0
      · rw [if_pos q0] at c_41; exact absurd (by decide) c_41
      · by_cases q1 : x < 0
        · exact q1
        · rw [if_neg q0, if_neg q1] at c_41; exact absurd (by decide) c_41
    refine lv_lload_n hx hb dX4_low_44 rfl (lv_at hl 1 rfl) ?_
    refine lv_lneg hx hb dX4_low_45 ?_
    refine lv_topl (fun x21 ex21 => ?_)
    refine lv_goto (tgt := 50) hx hb dX4_low_46 (by decide) ?_
    rw [hQQ]
    exact W.lret (v := x21) hx hb hr (fun t ht hW => ⟨⟨x21, (), rfl, (by show _ = _; rw [ex21, hv, fk_abs, if_pos hx0, Int64.ofInt_neg, Int64.neg_neg]), by rw [ht]; exact hP, va_K.moved hW.alike hK, hD⟩, hS.F ht⟩) hS.2.2 dX4_low_50
