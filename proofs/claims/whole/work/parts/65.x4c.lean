/-! Reference: multiply, by program -/
def fk_mt (P B : Nat → Int) (a : Int) (j i : Nat) : Int := P i + (if i < j then 0 else a * B (i - j))
theorem fk_mt_T (P B : Nat → Int) (a : Int) (j n : Nat) : fk_T (fk_mt P B a j) (j + n) = fk_T P (j + n) + a * fk_T B n * 65536 ^ j := by
  induction n with
  | zero =>
    have e : fk_T (fk_mt P B a j) j = fk_T P j := fk_T_congr (fun i hi => by rw [fk_mt, if_pos hi, Int.add_zero])
    simp only [Nat.add_zero, e, fk_T]; simp
  | succ n ih =>
    rw [← Nat.add_assoc, fk_T, ih, fk_T, fk_T]
    have e : fk_mt P B a j (j + n) = P (j + n) + a * B n := by rw [fk_mt, if_neg (by omega), show j + n - j = n by omega]
    rw [e, Int.pow_add]
    grind
theorem fk_mt_0 {pt : Nat → Int32} {p j : Nat} (B : Nat → Int) (a : Int) (hn : fk_N (fk_M pt p) 16) (hj : j ≤ 16) : fk_D (fk_mt (fk_M pt p) B a j) j p pt 0 := by
  refine ⟨fun i hi => hn i (by omega), ?_⟩
  have e := fk_mt_T (fk_M pt p) B a j 0
  simp only [Nat.add_zero, fk_T] at e
  rw [e]; simp
theorem fk_mt_end {A B : Nat → Int} {j : Nat} (hj : j < 16) {P : Nat → Int} {S c m Y : Int} (hY : fk_T B 16 = Y) (h : S + c * 65536 ^ 16 = fk_T (fk_mt P B (A j) j) 16) (hP : fk_T P 16 = fk_T A j * Y + m * 65536 ^ 16) : ∃ m2 : Int, S = fk_T A (j + 1) * Y + m2 * 65536 ^ 16 := by
  have e := fk_mt_T P B (A j) j (16 - j)
  rw [show j + (16 - j) = 16 by omega] at e
  have s := fk_T_split B (16 - j) j
  rw [show 16 - j + j = 16 by omega, hY] at s
  have p : (65536 : Int) ^ 16 = 65536 ^ j * 65536 ^ (16 - j) := by rw [← Int.pow_add]; congr 1; omega
  rw [e, hP] at h
  refine ⟨m - c - A j * fk_T (fun i => B (16 - j + i)) j, ?_⟩
  rw [fk_T]
  rw [p] at h ⊢
  generalize fk_T B (16 - j) = b1 at *
  generalize fk_T (fun i => B (16 - j + i)) j = b2 at *
  generalize (65536 : Int) ^ j = pj at *
  generalize (65536 : Int) ^ (16 - j) = pk at *
  rw [s] at h ⊢
  grind
theorem fk_cmp_mul (x y : Int) : fk_cmp x * fk_cmp y = fk_cmp (x * y) := by
  rw [fk_cmp, fk_cmp, fk_cmp]
  by_cases x0 : x = 0
  · subst x0; simp
  · by_cases y0 : y = 0
    · subst y0; simp
    · have h0 : x * y ≠ 0 := fun q => by rcases Int.mul_eq_zero.mp q with z | z; exact x0 z; exact y0 z
      rw [if_neg x0, if_neg y0, if_neg h0]
      by_cases xn : x < 0
      · by_cases yn : y < 0
        · have : 0 < x * y := Int.mul_pos_of_neg_of_neg xn yn
          rw [if_pos xn, if_pos yn, if_neg (by omega)]; rfl
        · have : x * y < 0 := Int.mul_neg_of_neg_of_pos xn (by omega)
          rw [if_pos xn, if_neg yn, if_pos this]; rfl
      · by_cases yn : y < 0
        · have : x * y < 0 := Int.mul_neg_of_pos_of_neg (by omega) yn
          rw [if_neg xn, if_pos yn, if_pos this]; rfl
        · have : 0 < x * y := Int.mul_pos (by omega) (by omega)
          rw [if_neg xn, if_neg yn, if_neg (by omega)]; rfl
theorem fk_abs_mul (x y : Int) : fk_abs (x * y) = fk_abs x * fk_abs y := by
  have e : ∀ z : Int, fk_abs z = (z.natAbs : Int) := fun z => by rw [fk_abs]; split <;> omega
  rw [e, e, e, Int.natAbs_mul]; push_cast; rfl
abbrev rmX4_multiply : Room := { frames := 0, cells := 0, slots := 0, locals := 0 }
set_option maxHeartbeats 4000000 in
set_option maxRecDepth 100000 in
/-- multiply -/
theorem kX4_multiply {l : Launch} {D : va_G} {cJ cC cI cZ cK : ClassId} (sz : Nat) (am : Nat → Nat) (tl : va_W) (cd kn lo tn : Int32) (wd sg : Nat → Int32) (up dn of : Nat → Int64) (bey rnd tx pt sn : Nat → Int32) (p0 ra rb : Nat) (x y : Int) (hp : p0 < 24) (hra : ra < 24) (hrb : rb < 24) (hn1 : p0 ≠ ra) (hn2 : p0 ≠ rb) (gA : fk_G x ra pt sn) (gB : fk_G y rb pt sn) (hxy : fk_abs x * fk_abs y < 65536 ^ 16) : Met l yX4_multiply wsX4_multiply rmX4_multiply (va_Pc [.ref (am 0), .int (nI p0), .int (nI ra), .int (nI rb)] (fk_pre D (fk_ty cJ cC cI cZ cK) (fk_wm cJ cI cZ am cd kn lo tn wd sg up dn of bey rnd tx pt sn ++ tl) sz)) (va_Qv (fun u : (Nat → Int32) × (Nat → Int32) => fk_G (x * y) p0 u.1 u.2 ∧ fk_fp p0 pt u.1 ∧ fk_fs p0 sn u.2) (fk_Bd D (fk_ty cJ cC cI cZ cK) (va_A (fk_wm cJ cI cZ am cd kn lo tn wd sg up dn of bey rnd tx pt sn ++ tl) sz) (fun u : (Nat → Int32) × (Nat → Int32) => fk_wm cJ cI cZ am cd kn lo tn wd sg up dn of bey rnd tx u.1 u.2 ++ tl)) (va_A (fk_wm cJ cI cZ am cd kn lo tn wd sg up dn of bey rnd tx pt sn ++ tl) sz)) 0 0 (va_A (fk_wm cJ cI cZ am cd kn lo tn wd sg up dn of bey rnd tx pt sn ++ tl) sz) := by
  refine fk_ofW cX4_multiply 9 none (fun A => va_Qv (fun u : (Nat → Int32) × (Nat → Int32) => fk_G (x * y) p0 u.1 u.2 ∧ fk_fp p0 pt u.1 ∧ fk_fs p0 sn u.2) (fk_Bd D (fk_ty cJ cC cI cZ cK) A (fun u : (Nat → Int32) × (Nat → Int32) => fk_wm cJ cI cZ am cd kn lo tn wd sg up dn of bey rnd tx u.1 u.2 ++ tl)) A) rfl (by decide) (Nat.le_of_ble_eq_true rfl) ?_
  intro p e s m below meth c A ls args QQ hQQ hAt hP hK hN hD hA hS hl
  obtain ⟨⟨hx, hb, hml, hown, hts⟩, hr, hlocks, hin⟩ := hAt
  have hl : lv_has ls 9 [(0, .ref (am 0)), (1, .int (nI p0)), (2, .int (nI ra)), (3, .int (nI rb))] := hl
  have k1 := hts (.fieldLink RX4 39 "FixedKindsModel" "sign" "[I") (by decide +kernel)
  have k2 := (by decide +kernel : ∀ w ∈ u_ws RX4 TX4 14, w ∈ wsX4_multiply)
  have k3 := hts (.fieldLink RX4 36 "FixedKindsModel" "part" "[I") (by decide +kernel)
  have k4 := hts (.constantLong RX4 46 65535) (by decide +kernel)
  refine lv_iconst (v := 0) hx hb dX4_multiply_0 (by decide) ?_
  refine lv_istore (lv' := [(4, .int 0), (0, .ref (am 0)), (1, .int (nI p0)), (2, .int (nI ra)), (3, .int (nI rb))]) hx hb dX4_multiply_1 hl (by decide) rfl (fun ls hl => ?_)
  have L3 : ∀ (fu3 : Nat) (k : Nat) (pv : Nat → Int32), 16 - k < fu3 → (k ≤ 16) → (∀ j, j < k → fk_M pv p0 j = 0) → (fk_fp p0 pt pv) → ∀ (H : Heap) (locs : List Loc) (ls : Array Slot), va_P D vwCl (fk_wm cJ cI cZ am cd kn lo tn wd sg up dn of bey rnd tx pv sn ++ tl) H → va_D A (fk_wm cJ cI cZ am cd kn lo tn wd sg up dn of bey rnd tx pv sn ++ tl) → va_S A s.heap H locs → lv_has ls 9 [(0, .ref (am 0)), (1, .int (nI p0)), (2, .int (nI ra)), (3, .int (nI rb)), (4, .int (nI k))] → W p l e rmX4_multiply s m args below meth c H locs 0 0 QQ (F0 m 3 ls []) := by
    intro fu3
    induction fu3 with
    | zero => intro k pv hfu; exact absurd hfu (Nat.not_lt_zero _)
    | succ fu3 ih3 =>
      intro k pv hfu3 hk hc hfr H locs ls hP hD hS hl
      refine lv_iload hx hb dX4_multiply_3 (lv_at hl 4 rfl) ?_
      refine lv_bipush (v := 16) hx hb dX4_multiply_5 (by decide) ?_
      refine lv_icmp_ge (tgt := 29) hx hb dX4_multiply_7 (by decide) (fun c_7 => ?_) (fun c_7 => ?_)
      · have hk16 : k = 16 := by have q := (nI_leI (a := 16) (b := k) (by omega) (by omega)).mp c_7; omega
        subst hk16
        refine lv_iconst (v := 0) hx hb dX4_multiply_29 (by decide) ?_
        refine lv_istore (lv' := [(4, .int 0), (0, .ref (am 0)), (1, .int (nI p0)), (2, .int (nI ra)), (3, .int (nI rb))]) hx hb dX4_multiply_30 hl (by decide) rfl (fun ls hl => ?_)
        have hN0 : fk_N (fk_M pv p0) 16 := fun j hj => by rw [hc j hj]; decide
        have hT0 : ∃ m : Int, fk_T (fk_M pv p0) 16 = fk_T (fk_M pt ra) 0 * fk_abs y + m * 65536 ^ 16 := ⟨0, by rw [fk_T_zero hc]; simp [fk_T]⟩
        have L32 : ∀ (fu32 : Nat) (j : Nat) (pv : Nat → Int32), 16 - j < fu32 → (j ≤ 16) → (fk_N (fk_M pv p0) 16) → (∃ m : Int, fk_T (fk_M pv p0) 16 = fk_T (fk_M pt ra) j * fk_abs y + m * 65536 ^ 16) → (fk_fp p0 pt pv) → ∀ (H : Heap) (locs : List Loc) (ls : Array Slot), va_P D vwCl (fk_wm cJ cI cZ am cd kn lo tn wd sg up dn of bey rnd tx pv sn ++ tl) H → va_D A (fk_wm cJ cI cZ am cd kn lo tn wd sg up dn of bey rnd tx pv sn ++ tl) → va_S A s.heap H locs → lv_has ls 9 [(0, .ref (am 0)), (1, .int (nI p0)), (2, .int (nI ra)), (3, .int (nI rb)), (4, .int (nI j))] → W p l e rmX4_multiply s m args below meth c H locs 0 0 QQ (F0 m 32 ls []) := by
          intro fu32
          induction fu32 with
          | zero => intro j pv hfu; exact absurd hfu (Nat.not_lt_zero _)
          | succ fu32 ih32 =>
            intro j pv hfu32 hj hN hT hfr H locs ls hP hD hS hl
            refine lv_iload hx hb dX4_multiply_32 (lv_at hl 4 rfl) ?_
            refine lv_bipush (v := 16) hx hb dX4_multiply_34 (by decide) ?_
            refine lv_icmp_ge (tgt := 141) hx hb dX4_multiply_36 (by decide) (fun c_36 => ?_) (fun c_36 => ?_)
            · have hj16 : j = 16 := by have q := (nI_leI (a := 16) (b := j) (by omega) (by omega)).mp c_36; omega
              subst hj16
              refine lv_aload_n hx hb dX4_multiply_141 rfl (lv_at hl 0 rfl) ?_
              refine va_get (D := D) (ci := 5) (v := .ref (am 10)) (C := RX4) (T := TX4) (N := 14) hx hb hts k2 hown hK hP 0 rfl rfl 13 (by decide) k1 (fun _ h9 => h9) rfl dX4_multiply_142 ?_
              refine lv_iload_n hx hb dX4_multiply_145 rfl (lv_at hl 1 rfl) ?_
              refine lv_aload_n hx hb dX4_multiply_146 rfl (lv_at hl 0 rfl) ?_
              refine va_get (D := D) (ci := 5) (v := .ref (am 10)) (C := RX4) (T := TX4) (N := 14) hx hb hts k2 hown hK hP 0 rfl rfl 13 (by decide) k1 (fun _ h9 => h9) rfl dX4_multiply_147 ?_
              refine lv_iload_n hx hb dX4_multiply_150 rfl (lv_at hl 2 rfl) ?_
              refine fk_iald hx hb hK hP 10 2 rfl rfl (i := ra) hra (by decide) dX4_multiply_151 ?_
              refine lv_aload_n hx hb dX4_multiply_152 rfl (lv_at hl 0 rfl) ?_
              refine va_get (D := D) (ci := 5) (v := .ref (am 10)) (C := RX4) (T := TX4) (N := 14) hx hb hts k2 hown hK hP 0 rfl rfl 13 (by decide) k1 (fun _ h9 => h9) rfl dX4_multiply_153 ?_
              refine lv_iload_n hx hb dX4_multiply_156 rfl (lv_at hl 3 rfl) ?_
              refine fk_iald hx hb hK hP 10 2 rfl rfl (i := rb) hrb (by decide) dX4_multiply_157 ?_
              refine lv_imul hx hb dX4_multiply_158 ?_
              refine lv_topi (fun x1 ex1 => ?_)
              refine fk_iast hx hb hK hP hD hS 10 2 rfl rfl (i := p0) hp (by decide) dX4_multiply_159 (fun H locs hP hD hS => ?_)
              have hP : va_P D vwCl (fk_wm cJ cI cZ am cd kn lo tn wd sg up dn of bey rnd tx pv (upd sn p0 x1) ++ tl) H := hP
              have hD : va_D A (fk_wm cJ cI cZ am cd kn lo tn wd sg up dn of bey rnd tx pv (upd sn p0 x1) ++ tl) := hD
              obtain ⟨m0, hm0⟩ := hT
              rw [gA.1.2] at hm0
              have hfin : fk_rg (fk_abs (x * y)) p0 pv := by
                refine ⟨hN, ?_⟩
                obtain ⟨q1, q2⟩ := fk_T_bd hN
                have z := fk_mod (c := -m0) (X := fk_abs x * fk_abs y) q1 q2 (by rw [hm0]; grind)
                rw [fk_abs_mul, ← z]
                exact Int.emod_eq_of_lt (Int.mul_nonneg (fk_rg_bd gA.1).1 (fk_rg_bd gB.1).1) hxy
              rw [hQQ]
              exact W.vret hx hb hr (fun t ht hW => ⟨⟨(pv, upd sn p0 x1), rfl, ⟨⟨hfin, by show upd sn p0 x1 p0 = _; rw [pk_us, ex1, gA.2, gB.2]; exact fk_cmp_mul x y⟩, hfr, fk_fs_u _ _ _⟩, by rw [ht]; exact hP, va_K.moved hW.alike hK, hD⟩, hS.F ht⟩) hS.2.2 dX4_multiply_160
            · have hj16 : j < 16 := by rcases Nat.lt_or_ge j 16 with q | q; exact q; exact absurd ((nI_leI (a := 16) (b := j) (by omega) (by omega)).mpr q) c_36
              refine lv_lconst (v := 0) hx hb dX4_multiply_39 (by decide) ?_
              refine lv_lstore (lv' := [(5, .long 0), (0, .ref (am 0)), (1, .int (nI p0)), (2, .int (nI ra)), (3, .int (nI rb)), (4, .int (nI j))]) hx hb dX4_multiply_40 hl (by decide) rfl (fun ls hl => ?_)
              refine lv_iconst (v := 0) hx hb dX4_multiply_42 (by decide) ?_
              refine lv_istore (lv' := [(7, .int 0), (5, .long 0), (0, .ref (am 0)), (1, .int (nI p0)), (2, .int (nI ra)), (3, .int (nI rb)), (4, .int (nI j))]) hx hb dX4_multiply_43 hl (by decide) rfl (fun ls hl => ?_)
              have L45 : ∀ (fu45 : Nat) (k : Nat) (pw : Nat → Int32) (cy : Int64), 16 - k < fu45 → (k + j ≤ 16) → (fk_D (fk_mt (fk_M pv p0) (fk_M pt rb) (fk_M pt ra j) j) (j + k) p0 pw cy.toInt) → (∀ i, (i < 16 * p0 ∨ 16 * p0 + (j + k) ≤ i) → pw i = pv i) → (0 ≤ cy.toInt ∧ cy.toInt ≤ 131072) → (fk_fp p0 pt pw) → ∀ (H : Heap) (locs : List Loc) (ls : Array Slot), va_P D vwCl (fk_wm cJ cI cZ am cd kn lo tn wd sg up dn of bey rnd tx pw sn ++ tl) H → va_D A (fk_wm cJ cI cZ am cd kn lo tn wd sg up dn of bey rnd tx pw sn ++ tl) → va_S A s.heap H locs → lv_has ls 9 [(0, .ref (am 0)), (1, .int (nI p0)), (2, .int (nI ra)), (3, .int (nI rb)), (4, .int (nI j)), (5, .long cy), (7, .int (nI k))] → W p l e rmX4_multiply s m args below meth c H locs 0 0 QQ (F0 m 45 ls []) := by
                intro fu45
                induction fu45 with
                | zero => intro k pw cy hfu; exact absurd hfu (Nat.not_lt_zero _)
                | succ fu45 ih45 =>
                  intro k pw cy hfu45 hk hc2 hg hy hfw H locs ls hP hD hS hl
                  refine lv_iload hx hb dX4_multiply_45 (lv_at hl 6 rfl) ?_
                  refine lv_iload hx hb dX4_multiply_47 (lv_at hl 4 rfl) ?_
                  refine lv_iadd hx hb dX4_multiply_49 ?_
                  refine lv_topi (fun x2 ex2 => ?_)
                  have ex2q : x2 = nI (k + j) := by
                    rw [ex2]; exact nI_add k j
                  subst ex2q
                  refine lv_bipush (v := 16) hx hb dX4_multiply_50 (by decide) ?_
                  refine lv_icmp_ge (tgt := 135) hx hb dX4_multiply_52 (by decide) (fun c_52 => ?_) (fun c_52 => ?_)
                  · have hkj : j + k = 16 := by have q := (nI_leI (a := 16) (b := k + j) (by omega) (by omega)).mp c_52; omega
                    rw [hkj] at hc2
                    have b1 : fk_N (fk_M pw p0) 16 := hc2.1
                    obtain ⟨m0, hm0⟩ := hT
                    have b2 := fk_mt_end hj16 gB.1.2 hc2.2 hm0
                    refine lv_iinc (v := nI (j + 1)) (lv' := [(4, .int (nI (j + 1))), (0, .ref (am 0)), (1, .int (nI p0)), (2, .int (nI ra)), (3, .int (nI rb)), (5, .long cy), (7, .int (nI k))]) hx hb dX4_multiply_135 hl (k := 4) rfl (by exact nI_1 j) (by decide) rfl (fun ls hl => ?_)
                    refine lv_goto (tgt := 32) hx hb dX4_multiply_138 (by decide) ?_
                    exact ih32 (j + 1) pw (by omega) (by omega) b1 b2 hfw _ _ _ hP hD hS (lv_sub hl [1, 2, 3, 4, 0] rfl)
                  · have hkj : k + j < 16 := by rcases Nat.lt_or_ge (k + j) 16 with q | q; exact q; exact absurd ((nI_leI (a := 16) (b := k + j) (by omega) (by omega)).mpr q) c_52
                    refine lv_bipush (v := 16) hx hb dX4_multiply_55 (by decide) ?_
                    refine lv_iload_n hx hb dX4_multiply_57 rfl (lv_at hl 1 rfl) ?_
                    refine lv_imul hx hb dX4_multiply_58 ?_
                    refine lv_topi (fun x3 ex3 => ?_)
                    have ex3q : x3 = nI (16 * p0) := by
                      rw [ex3]; exact pk_mul 16 p0
                    subst ex3q
                    refine lv_iload hx hb dX4_multiply_59 (lv_at hl 4 rfl) ?_
                    refine lv_iadd hx hb dX4_multiply_61 ?_
                    refine lv_topi (fun x4 ex4 => ?_)
                    have ex4q : x4 = nI (16 * p0 + j) := by
                      rw [ex4]; exact nI_add (16 * p0) j
                    subst ex4q
                    refine lv_iload hx hb dX4_multiply_62 (lv_at hl 6 rfl) ?_
                    refine lv_iadd hx hb dX4_multiply_64 ?_
                    refine lv_topi (fun x5 ex5 => ?_)
                    have ex5q : x5 = nI (16 * p0 + (j + k)) := by
                      rw [ex5, nI_add]; congr 1; omega
                    subst ex5q
                    refine lv_istore (lv' := [(8, .int (nI (16 * p0 + (j + k)))), (0, .ref (am 0)), (1, .int (nI p0)), (2, .int (nI ra)), (3, .int (nI rb)), (4, .int (nI j)), (5, .long cy), (7, .int (nI k))]) hx hb dX4_multiply_65 hl (by decide) rfl (fun ls hl => ?_)
                    refine lv_lload hx hb dX4_multiply_67 (lv_at hl 6 rfl) ?_
                    refine lv_aload_n hx hb dX4_multiply_69 rfl (lv_at hl 1 rfl) ?_
                    refine va_get (D := D) (ci := 5) (v := .ref (am 9)) (C := RX4) (T := TX4) (N := 14) hx hb hts k2 hown hK hP 0 rfl rfl 12 (by decide) k3 (fun _ h9 => h9) rfl dX4_multiply_70 ?_
                    refine lv_iload hx hb dX4_multiply_73 (lv_at hl 0 rfl) ?_
                    refine fk_iald hx hb hK hP 9 2 rfl rfl (i := 16 * p0 + (j + k)) (by omega) (by decide) dX4_multiply_75 ?_
                    refine lv_i2l hx hb dX4_multiply_76 rfl ?_
                    refine lv_topl (fun x6 ex6 => ?_)
                    refine lv_ladd hx hb dX4_multiply_77 ?_
                    refine lv_topl (fun x7 ex7 => ?_)
                    refine lv_aload_n hx hb dX4_multiply_78 rfl (lv_at hl 1 rfl) ?_
                    refine va_get (D := D) (ci := 5) (v := .ref (am 9)) (C := RX4) (T := TX4) (N := 14) hx hb hts k2 hown hK hP 0 rfl rfl 12 (by decide) k3 (fun _ h9 => h9) rfl dX4_multiply_79 ?_
                    refine lv_bipush (v := 16) hx hb dX4_multiply_82 (by decide) ?_
                    refine lv_iload_n hx hb dX4_multiply_84 rfl (lv_at hl 3 rfl) ?_
                    refine lv_imul hx hb dX4_multiply_85 ?_
                    refine lv_topi (fun x8 ex8 => ?_)
                    have ex8q : x8 = nI (16 * ra) := by
                      rw [ex8]; exact pk_mul 16 ra
                    subst ex8q
                    refine lv_iload hx hb dX4_multiply_86 (lv_at hl 5 rfl) ?_
                    refine lv_iadd hx hb dX4_multiply_88 ?_
                    refine lv_topi (fun x9 ex9 => ?_)
                    have ex9q : x9 = nI (16 * ra + j) := by
                      rw [ex9]; exact nI_add (16 * ra) j
                    subst ex9q
                    refine fk_iald hx hb hK hP 9 2 rfl rfl (i := 16 * ra + j) (by omega) (by decide) dX4_multiply_89 ?_
                    refine lv_i2l hx hb dX4_multiply_90 rfl ?_
                    refine lv_topl (fun x10 ex10 => ?_)
                    refine lv_aload_n hx hb dX4_multiply_91 rfl (lv_at hl 1 rfl) ?_
                    refine va_get (D := D) (ci := 5) (v := .ref (am 9)) (C := RX4) (T := TX4) (N := 14) hx hb hts k2 hown hK hP 0 rfl rfl 12 (by decide) k3 (fun _ h9 => h9) rfl dX4_multiply_92 ?_
                    refine lv_bipush (v := 16) hx hb dX4_multiply_95 (by decide) ?_
                    refine lv_iload_n hx hb dX4_multiply_97 rfl (lv_at hl 4 rfl) ?_
                    refine lv_imul hx hb dX4_multiply_98 ?_
                    refine lv_topi (fun x11 ex11 => ?_)
                    have ex11q : x11 = nI (16 * rb) := by
                      rw [ex11]; exact pk_mul 16 rb
                    subst ex11q
                    refine lv_iload hx hb dX4_multiply_99 (lv_at hl 7 rfl) ?_
                    refine lv_iadd hx hb dX4_multiply_101 ?_
                    refine lv_topi (fun x12 ex12 => ?_)
                    have ex12q : x12 = nI (16 * rb + k) := by
                      rw [ex12]; exact nI_add (16 * rb) k
                    subst ex12q
                    refine fk_iald hx hb hK hP 9 2 rfl rfl (i := 16 * rb + k) (by omega) (by decide) dX4_multiply_102 ?_
                    refine lv_i2l hx hb dX4_multiply_103 rfl ?_
                    refine lv_topl (fun x13 ex13 => ?_)
                    refine lv_lmul hx hb dX4_multiply_104 ?_
                    refine lv_topl (fun x14 ex14 => ?_)
                    refine lv_ladd hx hb dX4_multiply_105 ?_
                    refine lv_topl (fun x15 ex15 => ?_)
                    have xa := gA.1.1 j hj16
                    have xb := gB.1.1 k (by omega)
                    have xp := hN (j + k) (by omega)
                    rw [fk_M_def] at xa xb xp
                    have ep : pw (16 * p0 + (j + k)) = pv (16 * p0 + (j + k)) := hg _ (by omega)
                    have ea : pw (16 * ra + j) = pt (16 * ra + j) := hfw _ (by omega)
                    have eb : pw (16 * rb + k) = pt (16 * rb + k) := hfw _ (by omega)
                    have u1 : x6.toInt = (pv (16 * p0 + (j + k))).toInt := by rw [ex6, ep, Int32.toInt_toInt64]
                    have u2 : x10.toInt = (pt (16 * ra + j)).toInt := by rw [ex10, ea, Int32.toInt_toInt64]
                    have u3 : x13.toInt = (pt (16 * rb + k)).toInt := by rw [ex13, eb, Int32.toInt_toInt64]
                    have v0 : 0 ≤ (pt (16 * ra + j)).toInt * (pt (16 * rb + k)).toInt := Int.mul_nonneg xa.1 xb.1
                    have v1 : (pt (16 * ra + j)).toInt * (pt (16 * rb + k)).toInt ≤ 65535 * (pt (16 * rb + k)).toInt := Int.mul_le_mul_of_nonneg_right (by omega) xb.1
                    have u4 : x14.toInt = (pt (16 * ra + j)).toInt * (pt (16 * rb + k)).toInt := by rw [ex14, fk_mul (by rw [u2, u3]; omega) (by rw [u2, u3]; omega), u2, u3]
                    have u5 : x7.toInt = cy.toInt + (pv (16 * p0 + (j + k))).toInt := by rw [ex7, fk_add (by omega) (by omega), u1]
                    have u6 : x15.toInt = cy.toInt + ((pv (16 * p0 + (j + k))).toInt + (pt (16 * ra + j)).toInt * (pt (16 * rb + k)).toInt) := by rw [ex15, fk_add (by omega) (by omega), u4, u5]; omega
                    have u7 : x15.toInt = cy.toInt + fk_mt (fk_M pv p0) (fk_M pt rb) (fk_M pt ra j) j (j + k) := by rw [u6, fk_mt, if_neg (by omega), show j + k - j = k by omega]; rfl
                    refine lv_lstore (lv' := [(5, .long x15), (8, .int (nI (16 * p0 + (j + k)))), (0, .ref (am 0)), (1, .int (nI p0)), (2, .int (nI ra)), (3, .int (nI rb)), (4, .int (nI j)), (7, .int (nI k))]) hx hb dX4_multiply_106 hl (by decide) rfl (fun ls hl => ?_)
                    refine lv_aload_n hx hb dX4_multiply_108 rfl (lv_at hl 2 rfl) ?_
                    refine va_get (D := D) (ci := 5) (v := .ref (am 9)) (C := RX4) (T := TX4) (N := 14) hx hb hts k2 hown hK hP 0 rfl rfl 12 (by decide) k3 (fun _ h9 => h9) rfl dX4_multiply_109 ?_
                    refine lv_iload hx hb dX4_multiply_112 (lv_at hl 1 rfl) ?_
                    refine lv_lload hx hb dX4_multiply_114 (lv_at hl 0 rfl) ?_
                    refine lv_ldc2 (v := 65535) hx hb hown k4 dX4_multiply_116 ?_
                    refine lv_land hx hb dX4_multiply_119 ?_
                    refine lv_topl (fun x16 ex16 => ?_)
                    refine lv_l2i hx hb dX4_multiply_120 rfl ?_
                    refine lv_topi (fun x17 ex17 => ?_)
                    refine fk_iast hx hb hK hP hD hS 9 2 rfl rfl (i := 16 * p0 + (j + k)) (by omega) (by decide) dX4_multiply_121 (fun H locs hP hD hS => ?_)
                    have hP : va_P D vwCl (fk_wm cJ cI cZ am cd kn lo tn wd sg up dn of bey rnd tx (upd pw (16 * p0 + (j + k)) x17) sn ++ tl) H := hP
                    have hD : va_D A (fk_wm cJ cI cZ am cd kn lo tn wd sg up dn of bey rnd tx (upd pw (16 * p0 + (j + k)) x17) sn ++ tl) := hD
                    refine lv_lload hx hb dX4_multiply_122 (lv_at hl 0 rfl) ?_
                    refine lv_bipush (v := 16) hx hb dX4_multiply_124 (by decide) ?_
                    refine lv_lshr hx hb dX4_multiply_126 rfl ?_
                    refine lv_topl (fun x18 ex18 => ?_)
                    refine lv_lstore (lv' := [(5, .long x18), (8, .int (nI (16 * p0 + (j + k)))), (0, .ref (am 0)), (1, .int (nI p0)), (2, .int (nI ra)), (3, .int (nI rb)), (4, .int (nI j)), (7, .int (nI k))]) hx hb dX4_multiply_127 hl (by decide) rfl (fun ls hl => ?_)
                    have y1 : x17.toInt = (cy.toInt + fk_mt (fk_M pv p0) (fk_M pt rb) (fk_M pt ra j) j (j + k)) % 65536 := by
                      have q := fk_m16 x15
                      rw [← ex16, u7] at q
                      rw [ex17, Int64.toInt_toInt32, q]
                      exact Int.bmod_eq_of_le (by omega) (by omega)
                    have d3 : fk_D (fk_mt (fk_M pv p0) (fk_M pt rb) (fk_M pt ra j) j) (j + (k + 1)) p0 (upd pw (16 * p0 + (j + k)) x17) x18.toInt := by
                      have q := fk_D_step hc2 y1
                      rw [ex18, fk_s16, u7]; exact q
                    have d4 : ∀ i, (i < 16 * p0 ∨ 16 * p0 + (j + (k + 1)) ≤ i) → upd pw (16 * p0 + (j + k)) x17 i = pv i := fun i hi => by rw [pk_un (by omega)]; exact hg i (by omega)
                    have d5 : 0 ≤ x18.toInt ∧ x18.toInt ≤ 131072 := by rw [ex18, fk_s16, u6]; omega
                    have d6 := fk_fp_t hfw (fk_fp_u (p := p0) (k := j + k) (pt := pw) (y := x17) (by omega))
                    refine lv_iinc (v := nI (k + 1)) (lv' := [(7, .int (nI (k + 1))), (5, .long x18), (8, .int (nI (16 * p0 + (j + k)))), (0, .ref (am 0)), (1, .int (nI p0)), (2, .int (nI ra)), (3, .int (nI rb)), (4, .int (nI j))]) hx hb dX4_multiply_129 hl (k := 7) rfl (by exact nI_1 k) (by decide) rfl (fun ls hl => ?_)
                    refine lv_goto (tgt := 45) hx hb dX4_multiply_132 (by decide) ?_
                    exact ih45 (k + 1) (upd pw (16 * p0 + (j + k)) x17) x18 (by omega) (by omega) d3 d4 d5 d6 _ _ _ hP hD hS (lv_sub hl [3, 4, 5, 6, 7, 1, 0] rfl)
              exact L45 17 0 pv 0 (by omega) (by omega) (fk_mt_0 _ _ hN hj) (fun _ _ => rfl) (by decide) hfr _ _ _ hP hD hS (lv_sub hl [2, 3, 4, 5, 6, 1, 0] rfl)
        exact L32 17 0 pv (by omega) (by omega) hN0 hT0 hfr _ _ _ hP hD hS (lv_sub hl [1, 2, 3, 4, 0] rfl)
      · have hk16 : k < 16 := by rcases Nat.lt_or_ge k 16 with q | q; exact q; exact absurd ((nI_leI (a := 16) (b := k) (by omega) (by omega)).mpr q) c_7
        refine lv_aload_n hx hb dX4_multiply_10 rfl (lv_at hl 0 rfl) ?_
        refine va_get (D := D) (ci := 5) (v := .ref (am 9)) (C := RX4) (T := TX4) (N := 14) hx hb hts k2 hown hK hP 0 rfl rfl 12 (by decide) k3 (fun _ h9 => h9) rfl dX4_multiply_11 ?_
        refine lv_bipush (v := 16) hx hb dX4_multiply_14 (by decide) ?_
        refine lv_iload_n hx hb dX4_multiply_16 rfl (lv_at hl 1 rfl) ?_
        refine lv_imul hx hb dX4_multiply_17 ?_
        refine lv_topi (fun x19 ex19 => ?_)
        have ex19q : x19 = nI (16 * p0) := by
          rw [ex19]; exact pk_mul 16 p0
        subst ex19q
        refine lv_iload hx hb dX4_multiply_18 (lv_at hl 4 rfl) ?_
        refine lv_iadd hx hb dX4_multiply_20 ?_
        refine lv_topi (fun x20 ex20 => ?_)
        have ex20q : x20 = nI (16 * p0 + k) := by
          rw [ex20]; exact nI_add (16 * p0) k
        subst ex20q
        refine lv_iconst (v := 0) hx hb dX4_multiply_21 (by decide) ?_
        refine fk_iast hx hb hK hP hD hS 9 2 rfl rfl (i := 16 * p0 + k) (by omega) (by decide) dX4_multiply_22 (fun H locs hP hD hS => ?_)
        have hP : va_P D vwCl (fk_wm cJ cI cZ am cd kn lo tn wd sg up dn of bey rnd tx (upd pv (16 * p0 + k) 0) sn ++ tl) H := hP
        have hD : va_D A (fk_wm cJ cI cZ am cd kn lo tn wd sg up dn of bey rnd tx (upd pv (16 * p0 + k) 0) sn ++ tl) := hD
        have a3 : ∀ j, j < k + 1 → fk_M (upd pv (16 * p0 + k) 0) p0 j = 0 := by
          intro j hj
          by_cases q : j = k
          · subst q; rw [fk_M, pk_us]; decide
          · rw [fk_M, pk_un (by omega)]; exact hc j (by omega)
        have a4 := fk_fp_t hfr (fk_fp_u (p := p0) (pt := pv) (y := 0) hk16)
        refine lv_iinc (v := nI (k + 1)) (lv' := [(4, .int (nI (k + 1))), (0, .ref (am 0)), (1, .int (nI p0)), (2, .int (nI ra)), (3, .int (nI rb))]) hx hb dX4_multiply_23 hl (k := 4) rfl (by exact nI_1 k) (by decide) rfl (fun ls hl => ?_)
        refine lv_goto (tgt := 3) hx hb dX4_multiply_26 (by decide) ?_
        exact ih3 (k + 1) (upd pv (16 * p0 + k) 0) (by omega) (by omega) a3 a4 _ _ _ hP hD hS (lv_sub hl [1, 2, 3, 4, 0] rfl)
  exact L3 17 0 pt (by omega) (by omega) (fun j hj => absurd hj (Nat.not_lt_zero j)) (fk_fp_0 _ _) _ _ _ hP hD hS (lv_sub hl [1, 2, 3, 4, 0] rfl)
