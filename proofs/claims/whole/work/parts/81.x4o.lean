/-! Reference: common, by program -/
theorem fk_par {x q : Nat} {pt : Nat → Int32} (h : fk_rg (x : Int) q pt) : pt (16 * q) - pt (16 * q) / 2 * 2 = nI (x % 2) := by
  have l := fk_T_low (fk_M pt q) 15
  rw [show fk_T (fk_M pt q) (15 + 1) = (x : Int) from h.2] at l
  have b0 := h.1 0 (by omega)
  have m0 : fk_M pt q 0 = (pt (16 * q)).toInt := rfl
  rw [m0] at l b0
  rw [fi_rem2 b0.1]
  congr 1
  omega
theorem fk_par1 {x : Nat} (h : ¬ nI (x % 2) = 0) : x % 2 = 1 := by
  rcases (show x % 2 = 0 ∨ x % 2 = 1 by omega) with q | q
  · rw [q] at h; exact absurd rfl h
  · exact q
theorem fk_par0 {x : Nat} (h : nI (x % 2) = 0) : x % 2 = 0 := by
  rcases (show x % 2 = 0 ∨ x % 2 = 1 by omega) with q | q
  · exact q
  · rw [q] at h; exact absurd h (by decide)
theorem fk_godd {x y : Nat} (h : x % 2 = 1 ∨ y % 2 = 1) : Nat.gcd x y % 2 = 1 := by
  have a := Nat.gcd_dvd_left x y
  have b := Nat.gcd_dvd_right x y
  rcases Nat.mod_two_eq_zero_or_one (Nat.gcd x y) with q | q
  · have d : 2 ∣ Nat.gcd x y := Nat.dvd_of_mod_eq_zero q
    have e := Nat.dvd_trans d a
    have f := Nat.dvd_trans d b
    omega
  · exact q
theorem fk_ghl {x y g : Nat} (h : Nat.gcd x y = g) (hg : g % 2 = 1) (hx : x % 2 = 0) : Nat.gcd (x / 2) y = g := by
  have hy : y % 2 = 1 := by
    rcases Nat.mod_two_eq_zero_or_one y with q | q
    · exfalso
      have d : 2 ∣ Nat.gcd x y := Nat.dvd_gcd (Nat.dvd_of_mod_eq_zero hx) (Nat.dvd_of_mod_eq_zero q)
      rw [h] at d
      omega
    · exact q
  have c : Nat.Coprime 2 y := by
    show Nat.gcd 2 y = 1
    rw [Nat.gcd_rec, hy]; decide
  have e : x = 2 * (x / 2) := by omega
  rw [e, Nat.Coprime.gcd_mul_left_cancel _ c] at h
  exact h
theorem fk_ghr {x y g : Nat} (h : Nat.gcd x y = g) (hg : g % 2 = 1) (hx : y % 2 = 0) : Nat.gcd x (y / 2) = g := by
  rw [Nat.gcd_comm]; exact fk_ghl (by rw [Nat.gcd_comm]; exact h) hg hx
theorem fk_g2 {x y : Nat} (hx : x % 2 = 0) (hy : y % 2 = 0) : Nat.gcd x y = 2 * Nat.gcd (x / 2) (y / 2) := by
  rw [← Nat.gcd_mul_left, show 2 * (x / 2) = x by omega, show 2 * (y / 2) = y by omega]
theorem fk_t10 {y w Y : Nat} (h : Y = 2 ^ w * y) (hy : 1 ≤ y) (hY : Y ≤ 1000) : w < 10 := by
  rcases Nat.lt_or_ge w 10 with q | q
  · exact q
  · exfalso
    have a : 2 ^ 10 ≤ 2 ^ w := Nat.pow_le_pow_right (by omega) q
    have b : 2 ^ w * 1 ≤ 2 ^ w * y := Nat.mul_le_mul_left _ hy
    omega
theorem fk_absN (n : Nat) : fk_abs (n : Int) = n := by rw [fk_abs, if_neg (by omega)]
theorem fk_cmpN {n : Nat} (h : 1 ≤ n) : fk_cmp (n : Int) = 1 := by rw [fk_cmp, if_neg (by omega), if_neg (by omega)]
abbrev rmX4_common : Room := { frames := 2, cells := 0, slots := 0, locals := 46 }
set_option maxHeartbeats 4000000 in
set_option maxRecDepth 100000 in
/-- common -/
theorem kX4_common {l : Launch} {D : va_G} {cJ cC cI cZ cK : ClassId} (sz : Nat) (am : Nat → Nat) (tl : va_W) (cd kn lo tn : Int32) (wd sg : Nat → Int32) (up dn of : Nat → Int64) (bey rnd tx pt sn : Nat → Int32) (X0 Y0 : Nat) (g12 : fk_rg (X0 : Int) 12 pt) (g13 : fk_rg (Y0 : Int) 13 pt) (hY1 : 1 ≤ Y0) (hY2 : Y0 ≤ 1000) (hs13 : sn 13 = 1) : Met l yX4_common wsX4_common rmX4_common (va_Pc [.ref (am 0)] (fk_pre D (fk_ty cJ cC cI cZ cK) (fk_wm cJ cI cZ am cd kn lo tn wd sg up dn of bey rnd tx pt sn ++ tl) sz)) (va_Qv (fun u : (Nat → Int32) × (Nat → Int32) => fk_G ((Nat.gcd X0 Y0 : Nat) : Int) 12 u.1 u.2 ∧ fk_kr [12, 13] pt sn u.1 u.2) (fk_Bd D (fk_ty cJ cC cI cZ cK) (va_A (fk_wm cJ cI cZ am cd kn lo tn wd sg up dn of bey rnd tx pt sn ++ tl) sz) (fun u : (Nat → Int32) × (Nat → Int32) => fk_wm cJ cI cZ am cd kn lo tn wd sg up dn of bey rnd tx u.1 u.2 ++ tl)) (va_A (fk_wm cJ cI cZ am cd kn lo tn wd sg up dn of bey rnd tx pt sn ++ tl) sz)) 0 0 (va_A (fk_wm cJ cI cZ am cd kn lo tn wd sg up dn of bey rnd tx pt sn ++ tl) sz) := by
  refine fk_ofW cX4_common 3 none (fun A => va_Qv (fun u : (Nat → Int32) × (Nat → Int32) => fk_G ((Nat.gcd X0 Y0 : Nat) : Int) 12 u.1 u.2 ∧ fk_kr [12, 13] pt sn u.1 u.2) (fk_Bd D (fk_ty cJ cC cI cZ cK) A (fun u : (Nat → Int32) × (Nat → Int32) => fk_wm cJ cI cZ am cd kn lo tn wd sg up dn of bey rnd tx u.1 u.2 ++ tl)) A) rfl (by decide) (Nat.le_of_ble_eq_true rfl) ?_
  intro p e s m below meth c A ls args QQ hQQ hAt hP hK hN hD hA hS hl
  obtain ⟨⟨hx, hb, hml, hown, hts⟩, hr, hlocks, hin⟩ := hAt
  have hl : lv_has ls 3 [(0, .ref (am 0))] := hl
  have k1 := hts (.fieldLink RX4 36 "FixedKindsModel" "part" "[I") (by decide +kernel)
  have k2 := (by decide +kernel : ∀ w ∈ u_ws RX4 TX4 14, w ∈ wsX4_common)
  have k3 := hts (.fieldLink RX4 39 "FixedKindsModel" "sign" "[I") (by decide +kernel)
  refine lv_iconst (v := 0) hx hb dX4_common_0 (by decide) ?_
  refine lv_istore_n (lv' := [(1, .int 0), (0, .ref (am 0))]) hx hb dX4_common_1 rfl hl (by decide) rfl (fun ls hl => ?_)
  refine lv_aload_n hx hb dX4_common_2 rfl (lv_at hl 1 rfl) ?_
  refine lv_bipush (v := 12) hx hb dX4_common_3 (by decide) ?_
  refine fk_ci hD hS hA (va_runV (As := [.int 12]) (rest := []) ⟨hx, hb, hml, hown, hts⟩ (kX4_nothing _ am tl cd kn lo tn wd sg up dn of bey rnd tx pt sn 12 (X0 : Int) (by omega) g12) (cwV 1 hts gX4_common_X4_nothing rfl rfl rfl (by decide +kernel) ⟨Nat.le_of_ble_eq_true rfl, Nat.le_of_ble_eq_true rfl⟩) (fk_preV 0 5 hK hN hP hD rfl rfl) rfl rfl hl.1 rfl (lv_room (Nat.le_of_ble_eq_true rfl)) dX4_common_5 ⟨Nat.le_of_ble_eq_true rfl, Nat.le_of_ble_eq_true rfl⟩) (fun r1 u H locs hw hP hD hS => ?_)
  have hP : va_P D vwCl (fk_wm cJ cI cZ am cd kn lo tn wd sg up dn of bey rnd tx pt sn ++ tl) H := hP
  have hD : va_D A (fk_wm cJ cI cZ am cd kn lo tn wd sg up dn of bey rnd tx pt sn ++ tl) := hD
  have zn5 := hw
  refine lv_if_eq (tgt := 20) hx hb dX4_common_8 (by decide) (fun c_8 => ?_) (fun c_8 => ?_)
  · have hX1 : 1 ≤ X0 := by rcases Nat.eq_zero_or_pos X0 with q | q; (rw [zn5, if_pos (by omega)] at c_8; exact absurd c_8 (by decide)); exact q
    have L20 : ∀ (fu20 : Nat) (x1 : Nat) (y1 : Nat) (tw : Nat) (p1 : Nat → Int32) (s1 : Nat → Int32), x1 < fu20 → (fk_rg (x1 : Int) 12 p1) → (fk_rg (y1 : Int) 13 p1) → (1 ≤ x1) → (1 ≤ y1) → (Nat.gcd X0 Y0 = 2 ^ tw * Nat.gcd x1 y1) → (Y0 = 2 ^ tw * y1) → (s1 13 = 1) → (fk_kr [12, 13] pt sn p1 s1) → ∀ (H : Heap) (locs : List Loc) (ls : Array Slot), va_P D vwCl (fk_wm cJ cI cZ am cd kn lo tn wd sg up dn of bey rnd tx p1 s1 ++ tl) H → va_D A (fk_wm cJ cI cZ am cd kn lo tn wd sg up dn of bey rnd tx p1 s1 ++ tl) → va_S A s.heap H locs → lv_has ls 3 [(0, .ref (am 0)), (1, .int (nI tw))] → W p l e rmX4_common s m args below meth c H locs 0 0 QQ (F0 m 20 ls []) := by
      intro fu20
      induction fu20 with
      | zero => intro x1 y1 tw p1 s1 hfu; exact absurd hfu (Nat.not_lt_zero _)
      | succ fu20 ih20 =>
        intro x1 y1 tw p1 s1 hfu20 i12 i13 ix iy ig iY is ik H locs ls hP hD hS hl
        refine lv_aload_n hx hb dX4_common_20 rfl (lv_at hl 0 rfl) ?_
        refine va_get (D := D) (ci := 5) (v := .ref (am 9)) (C := RX4) (T := TX4) (N := 14) hx hb hts k2 hown hK hP 0 rfl rfl 12 (by decide) k1 (fun _ h9 => h9) rfl dX4_common_21 ?_
        refine lv_sipush (v := 192) hx hb dX4_common_24 (by decide) ?_
        refine fk_iald hx hb hK hP 9 2 rfl rfl (i := 192) (by decide) (by decide) dX4_common_27 ?_
        refine lv_iconst (v := 2) hx hb dX4_common_28 (by decide) ?_
        refine lv_irem hx hb dX4_common_29 (by decide) ?_
        refine lv_topi (fun x2 ex2 => ?_)
        have ex2q : x2 = nI (x1 % 2) := by
          rw [ex2]; exact fk_par (q := 12) i12
        subst ex2q
        refine lv_if_ne (tgt := 64) hx hb dX4_common_30 (by decide) (fun c_30 => ?_) (fun c_30 => ?_)
        · have q30 := fk_par1 c_30
          have hgo : Nat.gcd x1 y1 % 2 = 1 := fk_godd (Or.inl q30)
          have ht10 := fk_t10 iY iy hY2
          have L64 : ∀ (fu64 : Nat) (x2 : Nat) (y2 : Nat) (p2 : Nat → Int32) (s2 : Nat → Int32), x2 + y2 < fu64 → (fk_rg (x2 : Int) 12 p2) → (fk_rg (y2 : Int) 13 p2) → (1 ≤ y2) → (Nat.gcd x2 y2 = Nat.gcd x1 y1) → (s2 13 = 1) → (fk_kr [12, 13] pt sn p2 s2) → ∀ (H : Heap) (locs : List Loc) (ls : Array Slot), va_P D vwCl (fk_wm cJ cI cZ am cd kn lo tn wd sg up dn of bey rnd tx p2 s2 ++ tl) H → va_D A (fk_wm cJ cI cZ am cd kn lo tn wd sg up dn of bey rnd tx p2 s2 ++ tl) → va_S A s.heap H locs → lv_has ls 3 [(0, .ref (am 0)), (1, .int (nI tw))] → W p l e rmX4_common s m args below meth c H locs 0 0 QQ (F0 m 64 ls []) := by
            intro fu64
            induction fu64 with
            | zero => intro x2 y2 p2 s2 hfu; exact absurd hfu (Nat.not_lt_zero _)
            | succ fu64 ih64 =>
              intro x2 y2 p2 s2 hfu64 j12 j13 jy jg js jk H locs ls hP hD hS hl
              refine lv_aload_n hx hb dX4_common_64 rfl (lv_at hl 0 rfl) ?_
              refine lv_bipush (v := 12) hx hb dX4_common_65 (by decide) ?_
              refine fk_ci hD hS hA (va_runV (As := [.int 12]) (rest := []) ⟨hx, hb, hml, hown, hts⟩ (kX4_nothing _ am tl cd kn lo tn wd sg up dn of bey rnd tx p2 s2 12 (x2 : Int) (by omega) j12) (cwV 1 hts gX4_common_X4_nothing rfl rfl rfl (by decide +kernel) ⟨Nat.le_of_ble_eq_true rfl, Nat.le_of_ble_eq_true rfl⟩) (fk_preV 0 5 hK hN hP hD rfl rfl) rfl rfl hl.1 rfl (lv_room (Nat.le_of_ble_eq_true rfl)) dX4_common_67 ⟨Nat.le_of_ble_eq_true rfl, Nat.le_of_ble_eq_true rfl⟩) (fun r3 u H locs hw hP hD hS => ?_)
              have hP : va_P D vwCl (fk_wm cJ cI cZ am cd kn lo tn wd sg up dn of bey rnd tx p2 s2 ++ tl) H := hP
              have hD : va_D A (fk_wm cJ cI cZ am cd kn lo tn wd sg up dn of bey rnd tx p2 s2 ++ tl) := hD
              have zn67 := hw
              refine lv_if_ne (tgt := 163) hx hb dX4_common_70 (by decide) (fun c_70 => ?_) (fun c_70 => ?_)
              · have hx20 : x2 = 0 := by rcases Nat.eq_zero_or_pos x2 with q | q; exact q; (rw [zn67, if_neg (by omega)] at c_70; exact absurd rfl c_70)
                have hyg : y2 = Nat.gcd x1 y1 := by rw [← jg, hx20, Nat.gcd_zero_left]
                rw [hyg] at j13
                refine lv_aload_n hx hb dX4_common_163 rfl (lv_at hl 0 rfl) ?_
                refine lv_bipush (v := 12) hx hb dX4_common_164 (by decide) ?_
                refine lv_bipush (v := 13) hx hb dX4_common_166 (by decide) ?_
                refine fk_cv hD hS hA (va_runV (As := [.int 12, .int 13]) (rest := []) ⟨hx, hb, hml, hown, hts⟩ (kX4_copy _ am tl cd kn lo tn wd sg up dn of bey rnd tx p2 s2 12 13 ((Nat.gcd x1 y1 : Nat) : Int) (by omega) (by omega) (by omega) ⟨by rw [fk_absN]; exact j13, by rw [js, fk_cmpN (by omega)]⟩) (cwV 2 hts gX4_common_X4_copy rfl rfl rfl (by decide +kernel) ⟨Nat.le_of_ble_eq_true rfl, Nat.le_of_ble_eq_true rfl⟩) (fk_preV 0 5 hK hN hP hD rfl rfl) rfl rfl hl.1 rfl (lv_room (Nat.le_of_ble_eq_true rfl)) dX4_common_168 ⟨Nat.le_of_ble_eq_true rfl, Nat.le_of_ble_eq_true rfl⟩) (fun u4 H locs hw hP hD hS => ?_)
                have hP : va_P D vwCl (fk_wm cJ cI cZ am cd kn lo tn wd sg up dn of bey rnd tx u4.1 u4.2 ++ tl) H := hP
                have hD : va_D A (fk_wm cJ cI cZ am cd kn lo tn wd sg up dn of bey rnd tx u4.1 u4.2 ++ tl) := hD
                obtain ⟨gC, f21, f22⟩ := hw
                have gC1 := gC.1
                rw [fk_absN] at gC1
                have kC : fk_kr [12, 13] pt sn u4.1 u4.2 := fk_kr_t jk (fk_kr_1 f21 f22) (fun r hr => by simp at hr ⊢; omega)
                have hgY : Nat.gcd x1 y1 ≤ y1 := Nat.gcd_le_right _ (by omega)
                have hg1 : 1 ≤ Nat.gcd x1 y1 := by omega
                refine lv_iconst (v := 0) hx hb dX4_common_171 (by decide) ?_
                refine lv_istore_n (lv' := [(2, .int 0), (0, .ref (am 0)), (1, .int (nI tw))]) hx hb dX4_common_172 rfl hl (by decide) rfl (fun ls hl => ?_)
                have L173 : ∀ (fu173 : Nat) (k : Nat) (p5 : Nat → Int32), tw - k < fu173 → (k ≤ tw) → (fk_rg ((2 ^ k * Nat.gcd x1 y1 : Nat) : Int) 12 p5) → (fk_kr [12, 13] pt sn p5 u4.2) → ∀ (H : Heap) (locs : List Loc) (ls : Array Slot), va_P D vwCl (fk_wm cJ cI cZ am cd kn lo tn wd sg up dn of bey rnd tx p5 u4.2 ++ tl) H → va_D A (fk_wm cJ cI cZ am cd kn lo tn wd sg up dn of bey rnd tx p5 u4.2 ++ tl) → va_S A s.heap H locs → lv_has ls 3 [(0, .ref (am 0)), (1, .int (nI tw)), (2, .int (nI k))] → W p l e rmX4_common s m args below meth c H locs 0 0 QQ (F0 m 173 ls []) := by
                  intro fu173
                  induction fu173 with
                  | zero => intro k p5 hfu; exact absurd hfu (Nat.not_lt_zero _)
                  | succ fu173 ih173 =>
                    intro k p5 hfu173 hkt q12 qk H locs ls hP hD hS hl
                    refine lv_iload_n hx hb dX4_common_173 rfl (lv_at hl 2 rfl) ?_
                    refine lv_iload_n hx hb dX4_common_174 rfl (lv_at hl 1 rfl) ?_
                    refine lv_icmp_ge (tgt := 194) hx hb dX4_common_175 (by decide) (fun c_175 => ?_) (fun c_175 => ?_)
                    · have hkd : k = tw := by have q := (nI_leI (a := tw) (b := k) (by omega) (by omega)).mp c_175; omega
                      subst hkd
                      refine lv_aload_n hx hb dX4_common_194 rfl (lv_at hl 0 rfl) ?_
                      refine va_get (D := D) (ci := 5) (v := .ref (am 10)) (C := RX4) (T := TX4) (N := 14) hx hb hts k2 hown hK hP 0 rfl rfl 13 (by decide) k3 (fun _ h9 => h9) rfl dX4_common_195 ?_
                      refine lv_bipush (v := 12) hx hb dX4_common_198 (by decide) ?_
                      refine lv_iconst (v := 1) hx hb dX4_common_200 (by decide) ?_
                      refine fk_iast hx hb hK hP hD hS 10 2 rfl rfl (i := 12) (by decide) (by decide) dX4_common_201 (fun H locs hP hD hS => ?_)
                      have hP : va_P D vwCl (fk_wm cJ cI cZ am cd kn lo tn wd sg up dn of bey rnd tx p5 (upd u4.2 12 1) ++ tl) H := hP
                      have hD : va_D A (fk_wm cJ cI cZ am cd kn lo tn wd sg up dn of bey rnd tx p5 (upd u4.2 12 1) ++ tl) := hD
                      have hpos : 1 ≤ 2 ^ k * Nat.gcd x1 y1 := Nat.mul_pos (Nat.two_pow_pos k) (by omega)
                      have gF : fk_G ((Nat.gcd X0 Y0 : Nat) : Int) 12 p5 (upd u4.2 12 1) := ⟨by rw [fk_absN, ig]; exact q12, by rw [pk_us, ig, fk_cmpN hpos]⟩
                      have kF : fk_kr [12, 13] pt sn p5 (upd u4.2 12 1) := fk_kr_t qk (fk_kr_1 (fk_fp_0 12 _) (fk_fs_u 12 _ _)) (fun r hr => by simp at hr ⊢; omega)
                      rw [hQQ]
                      exact W.vret hx hb hr (fun t ht hW => ⟨⟨(p5, upd u4.2 12 1), rfl, ⟨gF, kF⟩, by rw [ht]; exact hP, va_K.moved hW.alike hK, hD⟩, hS.F ht⟩) hS.2.2 dX4_common_202
                    · have hkd : k < tw := by rcases Nat.lt_or_ge k tw with q | q; exact q; exact absurd ((nI_leI (a := tw) (b := k) (by omega) (by omega)).mpr q) c_175
                      have hpk : 2 ^ k ≤ 2 ^ 9 := Nat.pow_le_pow_right (by omega) (by omega)
                      have hgl : 2 ^ k * Nat.gcd x1 y1 ≤ 2 ^ 9 * 1000 := Nat.mul_le_mul hpk (by have q : 1 * y1 ≤ 2 ^ tw * y1 := Nat.mul_le_mul_right _ (Nat.two_pow_pos tw); omega)
                      refine lv_aload_n hx hb dX4_common_178 rfl (lv_at hl 0 rfl) ?_
                      refine lv_bipush (v := 12) hx hb dX4_common_179 (by decide) ?_
                      refine lv_bipush (v := 12) hx hb dX4_common_181 (by decide) ?_
                      refine lv_bipush (v := 12) hx hb dX4_common_183 (by decide) ?_
                      refine fk_cv hD hS hA (va_runV (As := [.int 12, .int 12, .int 12]) (rest := []) ⟨hx, hb, hml, hown, hts⟩ (kX4_addSizes _ am tl cd kn lo tn wd sg up dn of bey rnd tx p5 u4.2 12 12 12 _ _ (by omega) (by omega) (by omega) q12 q12 (by rw [fk_p16]; omega)) (cwV 3 hts gX4_common_X4_addSizes rfl rfl rfl (by decide +kernel) ⟨Nat.le_of_ble_eq_true rfl, Nat.le_of_ble_eq_true rfl⟩) (fk_preV 0 5 hK hN hP hD rfl rfl) rfl rfl hl.1 rfl (lv_room (Nat.le_of_ble_eq_true rfl)) dX4_common_185 ⟨Nat.le_of_ble_eq_true rfl, Nat.le_of_ble_eq_true rfl⟩) (fun pt6 H locs hw hP hD hS => ?_)
                      have hP : va_P D vwCl (fk_wm cJ cI cZ am cd kn lo tn wd sg up dn of bey rnd tx pt6 u4.2 ++ tl) H := hP
                      have hD : va_D A (fk_wm cJ cI cZ am cd kn lo tn wd sg up dn of bey rnd tx pt6 u4.2 ++ tl) := hD
                      obtain ⟨w1, f9⟩ := hw
                      have t12 : fk_rg ((2 ^ (k + 1) * Nat.gcd x1 y1 : Nat) : Int) 12 pt6 := by rw [show ((2 ^ (k + 1) * Nat.gcd x1 y1 : Nat) : Int) = ((2 ^ k * Nat.gcd x1 y1 : Nat) : Int) + ((2 ^ k * Nat.gcd x1 y1 : Nat) : Int) by rw [Nat.pow_succ, Nat.mul_comm (2 ^ k) 2, Nat.mul_assoc]; omega]; exact w1
                      have tk : fk_kr [12, 13] pt sn pt6 u4.2 := fk_kr_t qk (fk_kr_1 f9 (fk_fs_0 12 _)) (fun r hr => by simp at hr ⊢; omega)
                      refine lv_iinc (v := nI (k + 1)) (lv' := [(2, .int (nI (k + 1))), (0, .ref (am 0)), (1, .int (nI tw))]) hx hb dX4_common_188 hl (k := 2) rfl (by exact nI_1 k) (by decide) rfl (fun ls hl => ?_)
                      refine lv_goto (tgt := 173) hx hb dX4_common_191 (by decide) ?_
                      exact ih173 (k + 1) pt6 (by omega) (by omega) t12 tk _ _ _ hP hD hS (lv_sub hl [1, 2, 0] rfl)
                exact L173 (tw + 1) 0 u4.1 (by omega) (by omega) (by rw [Nat.pow_zero, Nat.one_mul]; exact gC1) kC _ _ _ hP hD hS (lv_sub hl [1, 2, 0] rfl)
              · have hx21 : 1 ≤ x2 := by rcases Nat.eq_zero_or_pos x2 with q | q; (rw [zn67, if_pos (by omega)] at c_70; exact absurd c_70 (by decide)); exact q
                have L73 : ∀ (fu73 : Nat) (x3 : Nat) (p3 : Nat → Int32) (s3 : Nat → Int32), x3 < fu73 → (1 ≤ x3) → (x3 ≤ x2) → (fk_rg (x3 : Int) 12 p3) → (fk_rg (y2 : Int) 13 p3) → (Nat.gcd x3 y2 = Nat.gcd x1 y1) → (s3 13 = 1) → (fk_kr [12, 13] pt sn p3 s3) → ∀ (H : Heap) (locs : List Loc) (ls : Array Slot), va_P D vwCl (fk_wm cJ cI cZ am cd kn lo tn wd sg up dn of bey rnd tx p3 s3 ++ tl) H → va_D A (fk_wm cJ cI cZ am cd kn lo tn wd sg up dn of bey rnd tx p3 s3 ++ tl) → va_S A s.heap H locs → lv_has ls 3 [(0, .ref (am 0)), (1, .int (nI tw))] → W p l e rmX4_common s m args below meth c H locs 0 0 QQ (F0 m 73 ls []) := by
                  intro fu73
                  induction fu73 with
                  | zero => intro x3 p3 s3 hfu; exact absurd hfu (Nat.not_lt_zero _)
                  | succ fu73 ih73 =>
                    intro x3 p3 s3 hfu73 kx kl m12 m13 mg ms mk H locs ls hP hD hS hl
                    refine lv_aload_n hx hb dX4_common_73 rfl (lv_at hl 0 rfl) ?_
                    refine va_get (D := D) (ci := 5) (v := .ref (am 9)) (C := RX4) (T := TX4) (N := 14) hx hb hts k2 hown hK hP 0 rfl rfl 12 (by decide) k1 (fun _ h9 => h9) rfl dX4_common_74 ?_
                    refine lv_sipush (v := 192) hx hb dX4_common_77 (by decide) ?_
                    refine fk_iald hx hb hK hP 9 2 rfl rfl (i := 192) (by decide) (by decide) dX4_common_80 ?_
                    refine lv_iconst (v := 2) hx hb dX4_common_81 (by decide) ?_
                    refine lv_irem hx hb dX4_common_82 (by decide) ?_
                    refine lv_topi (fun x8 ex8 => ?_)
                    have ex8q : x8 = nI (x3 % 2) := by
                      rw [ex8]; exact fk_par (q := 12) m12
                    subst ex8q
                    refine lv_if_ne (tgt := 95) hx hb dX4_common_83 (by decide) (fun c_83 => ?_) (fun c_83 => ?_)
                    · have q83 := fk_par1 c_83
                      have L95 : ∀ (fu95 : Nat) (y4 : Nat) (p4 : Nat → Int32) (s4 : Nat → Int32), y4 < fu95 → (1 ≤ y4) → (y4 ≤ y2) → (fk_rg (x3 : Int) 12 p4) → (fk_rg (y4 : Int) 13 p4) → (Nat.gcd x3 y4 = Nat.gcd x1 y1) → (s4 13 = 1) → (fk_kr [12, 13] pt sn p4 s4) → ∀ (H : Heap) (locs : List Loc) (ls : Array Slot), va_P D vwCl (fk_wm cJ cI cZ am cd kn lo tn wd sg up dn of bey rnd tx p4 s4 ++ tl) H → va_D A (fk_wm cJ cI cZ am cd kn lo tn wd sg up dn of bey rnd tx p4 s4 ++ tl) → va_S A s.heap H locs → lv_has ls 3 [(0, .ref (am 0)), (1, .int (nI tw))] → W p l e rmX4_common s m args below meth c H locs 0 0 QQ (F0 m 95 ls []) := by
                        intro fu95
                        induction fu95 with
                        | zero => intro y4 p4 s4 hfu; exact absurd hfu (Nat.not_lt_zero _)
                        | succ fu95 ih95 =>
                          intro y4 p4 s4 hfu95 uy ul u12 u13 ug us uk H locs ls hP hD hS hl
                          refine lv_aload_n hx hb dX4_common_95 rfl (lv_at hl 0 rfl) ?_
                          refine va_get (D := D) (ci := 5) (v := .ref (am 9)) (C := RX4) (T := TX4) (N := 14) hx hb hts k2 hown hK hP 0 rfl rfl 12 (by decide) k1 (fun _ h9 => h9) rfl dX4_common_96 ?_
                          refine lv_sipush (v := 208) hx hb dX4_common_99 (by decide) ?_
                          refine fk_iald hx hb hK hP 9 2 rfl rfl (i := 208) (by decide) (by decide) dX4_common_102 ?_
                          refine lv_iconst (v := 2) hx hb dX4_common_103 (by decide) ?_
                          refine lv_irem hx hb dX4_common_104 (by decide) ?_
                          refine lv_topi (fun x9 ex9 => ?_)
                          have ex9q : x9 = nI (y4 % 2) := by
                            rw [ex9]; exact fk_par (q := 13) u13
                          subst ex9q
                          refine lv_if_ne (tgt := 117) hx hb dX4_common_105 (by decide) (fun c_105 => ?_) (fun c_105 => ?_)
                          · have q105 := fk_par1 c_105
                            refine lv_aload_n hx hb dX4_common_117 rfl (lv_at hl 0 rfl) ?_
                            refine lv_bipush (v := 12) hx hb dX4_common_118 (by decide) ?_
                            refine lv_bipush (v := 13) hx hb dX4_common_120 (by decide) ?_
                            refine fk_ci hD hS hA (va_runV (As := [.int 12, .int 13]) (rest := []) ⟨hx, hb, hml, hown, hts⟩ (kX4_sizes _ am tl cd kn lo tn wd sg up dn of bey rnd tx p4 s4 12 13 (x3 : Int) (y4 : Int) (by omega) (by omega) u12 u13) (cwV 2 hts gX4_common_X4_sizes rfl rfl rfl (by decide +kernel) ⟨Nat.le_of_ble_eq_true rfl, Nat.le_of_ble_eq_true rfl⟩) (fk_preV 0 5 hK hN hP hD rfl rfl) rfl rfl hl.1 rfl (lv_room (Nat.le_of_ble_eq_true rfl)) dX4_common_122 ⟨Nat.le_of_ble_eq_true rfl, Nat.le_of_ble_eq_true rfl⟩) (fun r10 u H locs hw hP hD hS => ?_)
                            have hP : va_P D vwCl (fk_wm cJ cI cZ am cd kn lo tn wd sg up dn of bey rnd tx p4 s4 ++ tl) H := hP
                            have hD : va_D A (fk_wm cJ cI cZ am cd kn lo tn wd sg up dn of bey rnd tx p4 s4 ++ tl) := hD
                            obtain ⟨z1, z2⟩ := hw
                            refine lv_if_lt (tgt := 141) hx hb dX4_common_125 (by decide) (fun c_125 => ?_) (fun c_125 => ?_)
                            · rw [Int32.lt_iff_toInt_lt, show (0 : Int32).toInt = 0 by decide] at c_125
                              have hlt : x3 < y4 := by have q := z2.mp c_125; omega
                              refine lv_aload_n hx hb dX4_common_141 rfl (lv_at hl 0 rfl) ?_
                              refine lv_bipush (v := 13) hx hb dX4_common_142 (by decide) ?_
                              refine lv_bipush (v := 13) hx hb dX4_common_144 (by decide) ?_
                              refine lv_bipush (v := 12) hx hb dX4_common_146 (by decide) ?_
                              refine fk_cv hD hS hA (va_runV (As := [.int 13, .int 13, .int 12]) (rest := []) ⟨hx, hb, hml, hown, hts⟩ (kX4_lessSizes _ am tl cd kn lo tn wd sg up dn of bey rnd tx p4 s4 13 13 12 (y4 : Int) (x3 : Int) (by omega) (by omega) (by omega) u13 u12 (by omega)) (cwV 3 hts gX4_common_X4_lessSizes rfl rfl rfl (by decide +kernel) ⟨Nat.le_of_ble_eq_true rfl, Nat.le_of_ble_eq_true rfl⟩) (fk_preV 0 5 hK hN hP hD rfl rfl) rfl rfl hl.1 rfl (lv_room (Nat.le_of_ble_eq_true rfl)) dX4_common_148 ⟨Nat.le_of_ble_eq_true rfl, Nat.le_of_ble_eq_true rfl⟩) (fun pt11 H locs hw hP hD hS => ?_)
                              have hP : va_P D vwCl (fk_wm cJ cI cZ am cd kn lo tn wd sg up dn of bey rnd tx pt11 s4 ++ tl) H := hP
                              have hD : va_D A (fk_wm cJ cI cZ am cd kn lo tn wd sg up dn of bey rnd tx pt11 s4 ++ tl) := hD
                              obtain ⟨w1, f9⟩ := hw
                              have e13 : fk_rg ((y4 - x3 : Nat) : Int) 13 pt11 := by rw [show ((y4 - x3 : Nat) : Int) = (y4 : Int) - (x3 : Int) by omega]; exact w1
                              have e12 := fk_rg_keep u12 f9 (by omega)
                              have es := us
                              have ey : 1 ≤ (y4 - x3) := by omega
                              have eg : Nat.gcd x3 (y4 - x3) = Nat.gcd x1 y1 := by rw [Nat.gcd_sub_self_right (Nat.le_of_lt hlt)]; exact ug
                              have ek : fk_kr [12, 13] pt sn pt11 s4 := fk_kr_t uk (fk_kr_1 f9 (fk_fs_0 13 _)) (fun r hr => by simp at hr ⊢; omega)
                              refine lv_aload_n hx hb dX4_common_151 rfl (lv_at hl 0 rfl) ?_
                              refine lv_bipush (v := 12) hx hb dX4_common_152 (by decide) ?_
                              refine fk_ci hD hS hA (va_runV (As := [.int 12]) (rest := []) ⟨hx, hb, hml, hown, hts⟩ (kX4_nothing _ am tl cd kn lo tn wd sg up dn of bey rnd tx pt11 s4 12 (x3 : Nat) (by omega) e12) (cwV 1 hts gX4_common_X4_nothing rfl rfl rfl (by decide +kernel) ⟨Nat.le_of_ble_eq_true rfl, Nat.le_of_ble_eq_true rfl⟩) (fk_preV 0 5 hK hN hP hD rfl rfl) rfl rfl hl.1 rfl (lv_room (Nat.le_of_ble_eq_true rfl)) dX4_common_154 ⟨Nat.le_of_ble_eq_true rfl, Nat.le_of_ble_eq_true rfl⟩) (fun r13 u H locs hw hP hD hS => ?_)
                              have hP : va_P D vwCl (fk_wm cJ cI cZ am cd kn lo tn wd sg up dn of bey rnd tx pt11 s4 ++ tl) H := hP
                              have hD : va_D A (fk_wm cJ cI cZ am cd kn lo tn wd sg up dn of bey rnd tx pt11 s4 ++ tl) := hD
                              have zn154 := hw
                              refine lv_if_eq (tgt := 64) hx hb dX4_common_157 (by decide) (fun c_157 => ?_) (fun c_157 => ?_)
                              · exact ih64 x3 (y4 - x3) pt11 s4 (by omega) e12 e13 ey eg es ek _ _ _ hP hD hS (lv_sub hl [0, 1] rfl)
                              · have hxe0 : x3 = 0 := by rcases Nat.eq_zero_or_pos x3 with q | q; exact q; (rw [zn154, if_neg (by omega)] at c_157; exact absurd rfl c_157)
                                have hyg : (y4 - x3) = Nat.gcd x1 y1 := by rw [← eg, hxe0, Nat.gcd_zero_left]
                                rw [hyg] at e13
                                refine lv_goto (tgt := 163) hx hb dX4_common_160 (by decide) ?_
                                refine lv_aload_n hx hb dX4_common_163 rfl (lv_at hl 0 rfl) ?_
                                refine lv_bipush (v := 12) hx hb dX4_common_164 (by decide) ?_
                                refine lv_bipush (v := 13) hx hb dX4_common_166 (by decide) ?_
                                refine fk_cv hD hS hA (va_runV (As := [.int 12, .int 13]) (rest := []) ⟨hx, hb, hml, hown, hts⟩ (kX4_copy _ am tl cd kn lo tn wd sg up dn of bey rnd tx pt11 s4 12 13 ((Nat.gcd x1 y1 : Nat) : Int) (by omega) (by omega) (by omega) ⟨by rw [fk_absN]; exact e13, by rw [es, fk_cmpN (by omega)]⟩) (cwV 2 hts gX4_common_X4_copy rfl rfl rfl (by decide +kernel) ⟨Nat.le_of_ble_eq_true rfl, Nat.le_of_ble_eq_true rfl⟩) (fk_preV 0 5 hK hN hP hD rfl rfl) rfl rfl hl.1 rfl (lv_room (Nat.le_of_ble_eq_true rfl)) dX4_common_168 ⟨Nat.le_of_ble_eq_true rfl, Nat.le_of_ble_eq_true rfl⟩) (fun u14 H locs hw hP hD hS => ?_)
                                have hP : va_P D vwCl (fk_wm cJ cI cZ am cd kn lo tn wd sg up dn of bey rnd tx u14.1 u14.2 ++ tl) H := hP
                                have hD : va_D A (fk_wm cJ cI cZ am cd kn lo tn wd sg up dn of bey rnd tx u14.1 u14.2 ++ tl) := hD
                                obtain ⟨gC, f21, f22⟩ := hw
                                have gC1 := gC.1
                                rw [fk_absN] at gC1
                                have kC : fk_kr [12, 13] pt sn u14.1 u14.2 := fk_kr_t ek (fk_kr_1 f21 f22) (fun r hr => by simp at hr ⊢; omega)
                                have hgY : Nat.gcd x1 y1 ≤ y1 := Nat.gcd_le_right _ (by omega)
                                have hg1 : 1 ≤ Nat.gcd x1 y1 := by omega
                                refine lv_iconst (v := 0) hx hb dX4_common_171 (by decide) ?_
                                refine lv_istore_n (lv' := [(2, .int 0), (0, .ref (am 0)), (1, .int (nI tw))]) hx hb dX4_common_172 rfl hl (by decide) rfl (fun ls hl => ?_)
                                have L173 : ∀ (fu173 : Nat) (k : Nat) (p5 : Nat → Int32), tw - k < fu173 → (k ≤ tw) → (fk_rg ((2 ^ k * Nat.gcd x1 y1 : Nat) : Int) 12 p5) → (fk_kr [12, 13] pt sn p5 u14.2) → ∀ (H : Heap) (locs : List Loc) (ls : Array Slot), va_P D vwCl (fk_wm cJ cI cZ am cd kn lo tn wd sg up dn of bey rnd tx p5 u14.2 ++ tl) H → va_D A (fk_wm cJ cI cZ am cd kn lo tn wd sg up dn of bey rnd tx p5 u14.2 ++ tl) → va_S A s.heap H locs → lv_has ls 3 [(0, .ref (am 0)), (1, .int (nI tw)), (2, .int (nI k))] → W p l e rmX4_common s m args below meth c H locs 0 0 QQ (F0 m 173 ls []) := by
                                  intro fu173
                                  induction fu173 with
                                  | zero => intro k p5 hfu; exact absurd hfu (Nat.not_lt_zero _)
                                  | succ fu173 ih173 =>
                                    intro k p5 hfu173 hkt q12 qk H locs ls hP hD hS hl
                                    refine lv_iload_n hx hb dX4_common_173 rfl (lv_at hl 2 rfl) ?_
                                    refine lv_iload_n hx hb dX4_common_174 rfl (lv_at hl 1 rfl) ?_
                                    refine lv_icmp_ge (tgt := 194) hx hb dX4_common_175 (by decide) (fun c_175 => ?_) (fun c_175 => ?_)
                                    · have hkd : k = tw := by have q := (nI_leI (a := tw) (b := k) (by omega) (by omega)).mp c_175; omega
                                      subst hkd
                                      refine lv_aload_n hx hb dX4_common_194 rfl (lv_at hl 0 rfl) ?_
                                      refine va_get (D := D) (ci := 5) (v := .ref (am 10)) (C := RX4) (T := TX4) (N := 14) hx hb hts k2 hown hK hP 0 rfl rfl 13 (by decide) k3 (fun _ h9 => h9) rfl dX4_common_195 ?_
                                      refine lv_bipush (v := 12) hx hb dX4_common_198 (by decide) ?_
                                      refine lv_iconst (v := 1) hx hb dX4_common_200 (by decide) ?_
                                      refine fk_iast hx hb hK hP hD hS 10 2 rfl rfl (i := 12) (by decide) (by decide) dX4_common_201 (fun H locs hP hD hS => ?_)
                                      have hP : va_P D vwCl (fk_wm cJ cI cZ am cd kn lo tn wd sg up dn of bey rnd tx p5 (upd u14.2 12 1) ++ tl) H := hP
                                      have hD : va_D A (fk_wm cJ cI cZ am cd kn lo tn wd sg up dn of bey rnd tx p5 (upd u14.2 12 1) ++ tl) := hD
                                      have hpos : 1 ≤ 2 ^ k * Nat.gcd x1 y1 := Nat.mul_pos (Nat.two_pow_pos k) (by omega)
                                      have gF : fk_G ((Nat.gcd X0 Y0 : Nat) : Int) 12 p5 (upd u14.2 12 1) := ⟨by rw [fk_absN, ig]; exact q12, by rw [pk_us, ig, fk_cmpN hpos]⟩
                                      have kF : fk_kr [12, 13] pt sn p5 (upd u14.2 12 1) := fk_kr_t qk (fk_kr_1 (fk_fp_0 12 _) (fk_fs_u 12 _ _)) (fun r hr => by simp at hr ⊢; omega)
                                      rw [hQQ]
                                      exact W.vret hx hb hr (fun t ht hW => ⟨⟨(p5, upd u14.2 12 1), rfl, ⟨gF, kF⟩, by rw [ht]; exact hP, va_K.moved hW.alike hK, hD⟩, hS.F ht⟩) hS.2.2 dX4_common_202
                                    · have hkd : k < tw := by rcases Nat.lt_or_ge k tw with q | q; exact q; exact absurd ((nI_leI (a := tw) (b := k) (by omega) (by omega)).mpr q) c_175
                                      have hpk : 2 ^ k ≤ 2 ^ 9 := Nat.pow_le_pow_right (by omega) (by omega)
                                      have hgl : 2 ^ k * Nat.gcd x1 y1 ≤ 2 ^ 9 * 1000 := Nat.mul_le_mul hpk (by have q : 1 * y1 ≤ 2 ^ tw * y1 := Nat.mul_le_mul_right _ (Nat.two_pow_pos tw); omega)
                                      refine lv_aload_n hx hb dX4_common_178 rfl (lv_at hl 0 rfl) ?_
                                      refine lv_bipush (v := 12) hx hb dX4_common_179 (by decide) ?_
                                      refine lv_bipush (v := 12) hx hb dX4_common_181 (by decide) ?_
                                      refine lv_bipush (v := 12) hx hb dX4_common_183 (by decide) ?_
                                      refine fk_cv hD hS hA (va_runV (As := [.int 12, .int 12, .int 12]) (rest := []) ⟨hx, hb, hml, hown, hts⟩ (kX4_addSizes _ am tl cd kn lo tn wd sg up dn of bey rnd tx p5 u14.2 12 12 12 _ _ (by omega) (by omega) (by omega) q12 q12 (by rw [fk_p16]; omega)) (cwV 3 hts gX4_common_X4_addSizes rfl rfl rfl (by decide +kernel) ⟨Nat.le_of_ble_eq_true rfl, Nat.le_of_ble_eq_true rfl⟩) (fk_preV 0 5 hK hN hP hD rfl rfl) rfl rfl hl.1 rfl (lv_room (Nat.le_of_ble_eq_true rfl)) dX4_common_185 ⟨Nat.le_of_ble_eq_true rfl, Nat.le_of_ble_eq_true rfl⟩) (fun pt16 H locs hw hP hD hS => ?_)
                                      have hP : va_P D vwCl (fk_wm cJ cI cZ am cd kn lo tn wd sg up dn of bey rnd tx pt16 u14.2 ++ tl) H := hP
                                      have hD : va_D A (fk_wm cJ cI cZ am cd kn lo tn wd sg up dn of bey rnd tx pt16 u14.2 ++ tl) := hD
                                      obtain ⟨w1, f9⟩ := hw
                                      have t12 : fk_rg ((2 ^ (k + 1) * Nat.gcd x1 y1 : Nat) : Int) 12 pt16 := by rw [show ((2 ^ (k + 1) * Nat.gcd x1 y1 : Nat) : Int) = ((2 ^ k * Nat.gcd x1 y1 : Nat) : Int) + ((2 ^ k * Nat.gcd x1 y1 : Nat) : Int) by rw [Nat.pow_succ, Nat.mul_comm (2 ^ k) 2, Nat.mul_assoc]; omega]; exact w1
                                      have tk : fk_kr [12, 13] pt sn pt16 u14.2 := fk_kr_t qk (fk_kr_1 f9 (fk_fs_0 12 _)) (fun r hr => by simp at hr ⊢; omega)
                                      refine lv_iinc (v := nI (k + 1)) (lv' := [(2, .int (nI (k + 1))), (0, .ref (am 0)), (1, .int (nI tw))]) hx hb dX4_common_188 hl (k := 2) rfl (by exact nI_1 k) (by decide) rfl (fun ls hl => ?_)
                                      refine lv_goto (tgt := 173) hx hb dX4_common_191 (by decide) ?_
                                      exact ih173 (k + 1) pt16 (by omega) (by omega) t12 tk _ _ _ hP hD hS (lv_sub hl [1, 2, 0] rfl)
                                exact L173 (tw + 1) 0 u14.1 (by omega) (by omega) (by rw [Nat.pow_zero, Nat.one_mul]; exact gC1) kC _ _ _ hP hD hS (lv_sub hl [1, 2, 0] rfl)
                            · rw [Int32.lt_iff_toInt_lt, show (0 : Int32).toInt = 0 by decide] at c_125
                              have hge : y4 ≤ x3 := by rcases Nat.lt_or_ge x3 y4 with q | q; exact absurd (z2.mpr (by omega)) c_125; exact q
                              refine lv_aload_n hx hb dX4_common_128 rfl (lv_at hl 0 rfl) ?_
                              refine lv_bipush (v := 12) hx hb dX4_common_129 (by decide) ?_
                              refine lv_bipush (v := 12) hx hb dX4_common_131 (by decide) ?_
                              refine lv_bipush (v := 13) hx hb dX4_common_133 (by decide) ?_
                              refine fk_cv hD hS hA (va_runV (As := [.int 12, .int 12, .int 13]) (rest := []) ⟨hx, hb, hml, hown, hts⟩ (kX4_lessSizes _ am tl cd kn lo tn wd sg up dn of bey rnd tx p4 s4 12 12 13 (x3 : Int) (y4 : Int) (by omega) (by omega) (by omega) u12 u13 (by omega)) (cwV 3 hts gX4_common_X4_lessSizes rfl rfl rfl (by decide +kernel) ⟨Nat.le_of_ble_eq_true rfl, Nat.le_of_ble_eq_true rfl⟩) (fk_preV 0 5 hK hN hP hD rfl rfl) rfl rfl hl.1 rfl (lv_room (Nat.le_of_ble_eq_true rfl)) dX4_common_135 ⟨Nat.le_of_ble_eq_true rfl, Nat.le_of_ble_eq_true rfl⟩) (fun pt18 H locs hw hP hD hS => ?_)
                              have hP : va_P D vwCl (fk_wm cJ cI cZ am cd kn lo tn wd sg up dn of bey rnd tx pt18 s4 ++ tl) H := hP
                              have hD : va_D A (fk_wm cJ cI cZ am cd kn lo tn wd sg up dn of bey rnd tx pt18 s4 ++ tl) := hD
                              obtain ⟨w1, f9⟩ := hw
                              have e12 : fk_rg ((x3 - y4 : Nat) : Int) 12 pt18 := by rw [show ((x3 - y4 : Nat) : Int) = (x3 : Int) - (y4 : Int) by omega]; exact w1
                              have e13 := fk_rg_keep u13 f9 (by omega)
                              have es := us
                              have ey : 1 ≤ y4 := by omega
                              have eg : Nat.gcd (x3 - y4) y4 = Nat.gcd x1 y1 := by rw [Nat.gcd_sub_self_left hge]; exact ug
                              have ek : fk_kr [12, 13] pt sn pt18 s4 := fk_kr_t uk (fk_kr_1 f9 (fk_fs_0 12 _)) (fun r hr => by simp at hr ⊢; omega)
                              refine lv_goto (tgt := 151) hx hb dX4_common_138 (by decide) ?_
                              refine lv_aload_n hx hb dX4_common_151 rfl (lv_at hl 0 rfl) ?_
                              refine lv_bipush (v := 12) hx hb dX4_common_152 (by decide) ?_
                              refine fk_ci hD hS hA (va_runV (As := [.int 12]) (rest := []) ⟨hx, hb, hml, hown, hts⟩ (kX4_nothing _ am tl cd kn lo tn wd sg up dn of bey rnd tx pt18 s4 12 ((x3 - y4) : Nat) (by omega) e12) (cwV 1 hts gX4_common_X4_nothing rfl rfl rfl (by decide +kernel) ⟨Nat.le_of_ble_eq_true rfl, Nat.le_of_ble_eq_true rfl⟩) (fk_preV 0 5 hK hN hP hD rfl rfl) rfl rfl hl.1 rfl (lv_room (Nat.le_of_ble_eq_true rfl)) dX4_common_154 ⟨Nat.le_of_ble_eq_true rfl, Nat.le_of_ble_eq_true rfl⟩) (fun r20 u H locs hw hP hD hS => ?_)
                              have hP : va_P D vwCl (fk_wm cJ cI cZ am cd kn lo tn wd sg up dn of bey rnd tx pt18 s4 ++ tl) H := hP
                              have hD : va_D A (fk_wm cJ cI cZ am cd kn lo tn wd sg up dn of bey rnd tx pt18 s4 ++ tl) := hD
                              have zn154 := hw
                              refine lv_if_eq (tgt := 64) hx hb dX4_common_157 (by decide) (fun c_157 => ?_) (fun c_157 => ?_)
                              · exact ih64 (x3 - y4) y4 pt18 s4 (by omega) e12 e13 ey eg es ek _ _ _ hP hD hS (lv_sub hl [0, 1] rfl)
                              · have hxe0 : (x3 - y4) = 0 := by rcases Nat.eq_zero_or_pos (x3 - y4) with q | q; exact q; (rw [zn154, if_neg (by omega)] at c_157; exact absurd rfl c_157)
                                have hyg : y4 = Nat.gcd x1 y1 := by rw [← eg, hxe0, Nat.gcd_zero_left]
                                rw [hyg] at e13
                                refine lv_goto (tgt := 163) hx hb dX4_common_160 (by decide) ?_
                                refine lv_aload_n hx hb dX4_common_163 rfl (lv_at hl 0 rfl) ?_
                                refine lv_bipush (v := 12) hx hb dX4_common_164 (by decide) ?_
                                refine lv_bipush (v := 13) hx hb dX4_common_166 (by decide) ?_
                                refine fk_cv hD hS hA (va_runV (As := [.int 12, .int 13]) (rest := []) ⟨hx, hb, hml, hown, hts⟩ (kX4_copy _ am tl cd kn lo tn wd sg up dn of bey rnd tx pt18 s4 12 13 ((Nat.gcd x1 y1 : Nat) : Int) (by omega) (by omega) (by omega) ⟨by rw [fk_absN]; exact e13, by rw [es, fk_cmpN (by omega)]⟩) (cwV 2 hts gX4_common_X4_copy rfl rfl rfl (by decide +kernel) ⟨Nat.le_of_ble_eq_true rfl, Nat.le_of_ble_eq_true rfl⟩) (fk_preV 0 5 hK hN hP hD rfl rfl) rfl rfl hl.1 rfl (lv_room (Nat.le_of_ble_eq_true rfl)) dX4_common_168 ⟨Nat.le_of_ble_eq_true rfl, Nat.le_of_ble_eq_true rfl⟩) (fun u21 H locs hw hP hD hS => ?_)
                                have hP : va_P D vwCl (fk_wm cJ cI cZ am cd kn lo tn wd sg up dn of bey rnd tx u21.1 u21.2 ++ tl) H := hP
                                have hD : va_D A (fk_wm cJ cI cZ am cd kn lo tn wd sg up dn of bey rnd tx u21.1 u21.2 ++ tl) := hD
                                obtain ⟨gC, f21, f22⟩ := hw
                                have gC1 := gC.1
                                rw [fk_absN] at gC1
                                have kC : fk_kr [12, 13] pt sn u21.1 u21.2 := fk_kr_t ek (fk_kr_1 f21 f22) (fun r hr => by simp at hr ⊢; omega)
                                have hgY : Nat.gcd x1 y1 ≤ y1 := Nat.gcd_le_right _ (by omega)
                                have hg1 : 1 ≤ Nat.gcd x1 y1 := by omega
                                refine lv_iconst (v := 0) hx hb dX4_common_171 (by decide) ?_
                                refine lv_istore_n (lv' := [(2, .int 0), (0, .ref (am 0)), (1, .int (nI tw))]) hx hb dX4_common_172 rfl hl (by decide) rfl (fun ls hl => ?_)
                                have L173 : ∀ (fu173 : Nat) (k : Nat) (p5 : Nat → Int32), tw - k < fu173 → (k ≤ tw) → (fk_rg ((2 ^ k * Nat.gcd x1 y1 : Nat) : Int) 12 p5) → (fk_kr [12, 13] pt sn p5 u21.2) → ∀ (H : Heap) (locs : List Loc) (ls : Array Slot), va_P D vwCl (fk_wm cJ cI cZ am cd kn lo tn wd sg up dn of bey rnd tx p5 u21.2 ++ tl) H → va_D A (fk_wm cJ cI cZ am cd kn lo tn wd sg up dn of bey rnd tx p5 u21.2 ++ tl) → va_S A s.heap H locs → lv_has ls 3 [(0, .ref (am 0)), (1, .int (nI tw)), (2, .int (nI k))] → W p l e rmX4_common s m args below meth c H locs 0 0 QQ (F0 m 173 ls []) := by
                                  intro fu173
                                  induction fu173 with
                                  | zero => intro k p5 hfu; exact absurd hfu (Nat.not_lt_zero _)
                                  | succ fu173 ih173 =>
                                    intro k p5 hfu173 hkt q12 qk H locs ls hP hD hS hl
                                    refine lv_iload_n hx hb dX4_common_173 rfl (lv_at hl 2 rfl) ?_
                                    refine lv_iload_n hx hb dX4_common_174 rfl (lv_at hl 1 rfl) ?_
                                    refine lv_icmp_ge (tgt := 194) hx hb dX4_common_175 (by decide) (fun c_175 => ?_) (fun c_175 => ?_)
                                    · have hkd : k = tw := by have q := (nI_leI (a := tw) (b := k) (by omega) (by omega)).mp c_175; omega
                                      subst hkd
                                      refine lv_aload_n hx hb dX4_common_194 rfl (lv_at hl 0 rfl) ?_
                                      refine va_get (D := D) (ci := 5) (v := .ref (am 10)) (C := RX4) (T := TX4) (N := 14) hx hb hts k2 hown hK hP 0 rfl rfl 13 (by decide) k3 (fun _ h9 => h9) rfl dX4_common_195 ?_
                                      refine lv_bipush (v := 12) hx hb dX4_common_198 (by decide) ?_
                                      refine lv_iconst (v := 1) hx hb dX4_common_200 (by decide) ?_
                                      refine fk_iast hx hb hK hP hD hS 10 2 rfl rfl (i := 12) (by decide) (by decide) dX4_common_201 (fun H locs hP hD hS => ?_)
                                      have hP : va_P D vwCl (fk_wm cJ cI cZ am cd kn lo tn wd sg up dn of bey rnd tx p5 (upd u21.2 12 1) ++ tl) H := hP
                                      have hD : va_D A (fk_wm cJ cI cZ am cd kn lo tn wd sg up dn of bey rnd tx p5 (upd u21.2 12 1) ++ tl) := hD
                                      have hpos : 1 ≤ 2 ^ k * Nat.gcd x1 y1 := Nat.mul_pos (Nat.two_pow_pos k) (by omega)
                                      have gF : fk_G ((Nat.gcd X0 Y0 : Nat) : Int) 12 p5 (upd u21.2 12 1) := ⟨by rw [fk_absN, ig]; exact q12, by rw [pk_us, ig, fk_cmpN hpos]⟩
                                      have kF : fk_kr [12, 13] pt sn p5 (upd u21.2 12 1) := fk_kr_t qk (fk_kr_1 (fk_fp_0 12 _) (fk_fs_u 12 _ _)) (fun r hr => by simp at hr ⊢; omega)
                                      rw [hQQ]
                                      exact W.vret hx hb hr (fun t ht hW => ⟨⟨(p5, upd u21.2 12 1), rfl, ⟨gF, kF⟩, by rw [ht]; exact hP, va_K.moved hW.alike hK, hD⟩, hS.F ht⟩) hS.2.2 dX4_common_202
                                    · have hkd : k < tw := by rcases Nat.lt_or_ge k tw with q | q; exact q; exact absurd ((nI_leI (a := tw) (b := k) (by omega) (by omega)).mpr q) c_175
                                      have hpk : 2 ^ k ≤ 2 ^ 9 := Nat.pow_le_pow_right (by omega) (by omega)
                                      have hgl : 2 ^ k * Nat.gcd x1 y1 ≤ 2 ^ 9 * 1000 := Nat.mul_le_mul hpk (by have q : 1 * y1 ≤ 2 ^ tw * y1 := Nat.mul_le_mul_right _ (Nat.two_pow_pos tw); omega)
                                      refine lv_aload_n hx hb dX4_common_178 rfl (lv_at hl 0 rfl) ?_
                                      refine lv_bipush (v := 12) hx hb dX4_common_179 (by decide) ?_
                                      refine lv_bipush (v := 12) hx hb dX4_common_181 (by decide) ?_
                                      refine lv_bipush (v := 12) hx hb dX4_common_183 (by decide) ?_
                                      refine fk_cv hD hS hA (va_runV (As := [.int 12, .int 12, .int 12]) (rest := []) ⟨hx, hb, hml, hown, hts⟩ (kX4_addSizes _ am tl cd kn lo tn wd sg up dn of bey rnd tx p5 u21.2 12 12 12 _ _ (by omega) (by omega) (by omega) q12 q12 (by rw [fk_p16]; omega)) (cwV 3 hts gX4_common_X4_addSizes rfl rfl rfl (by decide +kernel) ⟨Nat.le_of_ble_eq_true rfl, Nat.le_of_ble_eq_true rfl⟩) (fk_preV 0 5 hK hN hP hD rfl rfl) rfl rfl hl.1 rfl (lv_room (Nat.le_of_ble_eq_true rfl)) dX4_common_185 ⟨Nat.le_of_ble_eq_true rfl, Nat.le_of_ble_eq_true rfl⟩) (fun pt23 H locs hw hP hD hS => ?_)
                                      have hP : va_P D vwCl (fk_wm cJ cI cZ am cd kn lo tn wd sg up dn of bey rnd tx pt23 u21.2 ++ tl) H := hP
                                      have hD : va_D A (fk_wm cJ cI cZ am cd kn lo tn wd sg up dn of bey rnd tx pt23 u21.2 ++ tl) := hD
                                      obtain ⟨w1, f9⟩ := hw
                                      have t12 : fk_rg ((2 ^ (k + 1) * Nat.gcd x1 y1 : Nat) : Int) 12 pt23 := by rw [show ((2 ^ (k + 1) * Nat.gcd x1 y1 : Nat) : Int) = ((2 ^ k * Nat.gcd x1 y1 : Nat) : Int) + ((2 ^ k * Nat.gcd x1 y1 : Nat) : Int) by rw [Nat.pow_succ, Nat.mul_comm (2 ^ k) 2, Nat.mul_assoc]; omega]; exact w1
                                      have tk : fk_kr [12, 13] pt sn pt23 u21.2 := fk_kr_t qk (fk_kr_1 f9 (fk_fs_0 12 _)) (fun r hr => by simp at hr ⊢; omega)
                                      refine lv_iinc (v := nI (k + 1)) (lv' := [(2, .int (nI (k + 1))), (0, .ref (am 0)), (1, .int (nI tw))]) hx hb dX4_common_188 hl (k := 2) rfl (by exact nI_1 k) (by decide) rfl (fun ls hl => ?_)
                                      refine lv_goto (tgt := 173) hx hb dX4_common_191 (by decide) ?_
                                      exact ih173 (k + 1) pt23 (by omega) (by omega) t12 tk _ _ _ hP hD hS (lv_sub hl [1, 2, 0] rfl)
                                exact L173 (tw + 1) 0 u21.1 (by omega) (by omega) (by rw [Nat.pow_zero, Nat.one_mul]; exact gC1) kC _ _ _ hP hD hS (lv_sub hl [1, 2, 0] rfl)
                          · have q105 := fk_par0 c_105
                            refine lv_aload_n hx hb dX4_common_108 rfl (lv_at hl 0 rfl) ?_
                            refine lv_bipush (v := 13) hx hb dX4_common_109 (by decide) ?_
                            refine fk_cv hD hS hA (va_runV (As := [.int 13]) (rest := []) ⟨hx, hb, hml, hown, hts⟩ (kX4_halve _ am tl cd kn lo tn wd sg up dn of bey rnd tx p4 s4 13 (y4 : Int) (by omega) u13) (cwV 1 hts gX4_common_X4_halve rfl rfl rfl (by decide +kernel) ⟨Nat.le_of_ble_eq_true rfl, Nat.le_of_ble_eq_true rfl⟩) (fk_preV 0 5 hK hN hP hD rfl rfl) rfl rfl hl.1 rfl (lv_room (Nat.le_of_ble_eq_true rfl)) dX4_common_111 ⟨Nat.le_of_ble_eq_true rfl, Nat.le_of_ble_eq_true rfl⟩) (fun u25 H locs hw hP hD hS => ?_)
                            have hP : va_P D vwCl (fk_wm cJ cI cZ am cd kn lo tn wd sg up dn of bey rnd tx u25.1 u25.2 ++ tl) H := hP
                            have hD : va_D A (fk_wm cJ cI cZ am cd kn lo tn wd sg up dn of bey rnd tx u25.1 u25.2 ++ tl) := hD
                            obtain ⟨r1, f7, f8, hs⟩ := hw
                            have v13 : fk_rg ((y4 / 2 : Nat) : Int) 13 u25.1 := by rw [show ((y4 / 2 : Nat) : Int) = (y4 : Int) / 2 by omega]; exact r1
                            have v12 := fk_rg_keep u12 f7 (by omega)
                            have vs : u25.2 13 = 1 := by rw [hs, if_neg (by omega)]; exact us
                            have vk : fk_kr [12, 13] pt sn u25.1 u25.2 := fk_kr_t uk (fk_kr_1 f7 f8) (fun r hr => by simp at hr ⊢; omega)
                            have vg := fk_ghr ug hgo q105
                            refine lv_goto (tgt := 95) hx hb dX4_common_114 (by decide) ?_
                            exact ih95 (y4 / 2) u25.1 u25.2 (by omega) (by omega) (by omega) v12 v13 vg vs vk _ _ _ hP hD hS (lv_sub hl [0, 1] rfl)
                      exact L95 (y2 + 1) y2 p3 s3 (by omega) jy (Nat.le_refl _) m12 m13 mg ms mk _ _ _ hP hD hS (lv_sub hl [0, 1] rfl)
                    · have q83 := fk_par0 c_83
                      refine lv_aload_n hx hb dX4_common_86 rfl (lv_at hl 0 rfl) ?_
                      refine lv_bipush (v := 12) hx hb dX4_common_87 (by decide) ?_
                      refine fk_cv hD hS hA (va_runV (As := [.int 12]) (rest := []) ⟨hx, hb, hml, hown, hts⟩ (kX4_halve _ am tl cd kn lo tn wd sg up dn of bey rnd tx p3 s3 12 (x3 : Int) (by omega) m12) (cwV 1 hts gX4_common_X4_halve rfl rfl rfl (by decide +kernel) ⟨Nat.le_of_ble_eq_true rfl, Nat.le_of_ble_eq_true rfl⟩) (fk_preV 0 5 hK hN hP hD rfl rfl) rfl rfl hl.1 rfl (lv_room (Nat.le_of_ble_eq_true rfl)) dX4_common_89 ⟨Nat.le_of_ble_eq_true rfl, Nat.le_of_ble_eq_true rfl⟩) (fun u27 H locs hw hP hD hS => ?_)
                      have hP : va_P D vwCl (fk_wm cJ cI cZ am cd kn lo tn wd sg up dn of bey rnd tx u27.1 u27.2 ++ tl) H := hP
                      have hD : va_D A (fk_wm cJ cI cZ am cd kn lo tn wd sg up dn of bey rnd tx u27.1 u27.2 ++ tl) := hD
                      obtain ⟨r1, f7, f8, -⟩ := hw
                      have n12 : fk_rg ((x3 / 2 : Nat) : Int) 12 u27.1 := by rw [show ((x3 / 2 : Nat) : Int) = (x3 : Int) / 2 by omega]; exact r1
                      have n13 := fk_rg_keep m13 f7 (by omega)
                      have ns : u27.2 13 = 1 := by rw [f8 13 (by decide)]; exact ms
                      have nk : fk_kr [12, 13] pt sn u27.1 u27.2 := fk_kr_t mk (fk_kr_1 f7 f8) (fun r hr => by simp at hr ⊢; omega)
                      have ng := fk_ghl mg hgo q83
                      refine lv_goto (tgt := 73) hx hb dX4_common_92 (by decide) ?_
                      exact ih73 (x3 / 2) u27.1 u27.2 (by omega) (by omega) (by omega) n12 n13 ng ns nk _ _ _ hP hD hS (lv_sub hl [0, 1] rfl)
                exact L73 (x2 + 1) x2 p2 s2 (by omega) hx21 (Nat.le_refl _) j12 j13 jg js jk _ _ _ hP hD hS (lv_sub hl [0, 1] rfl)
          exact L64 (x1 + y1 + 1) x1 y1 p1 s1 (by omega) i12 i13 iy rfl is ik _ _ _ hP hD hS (lv_sub hl [0, 1] rfl)
        · have q30 := fk_par0 c_30
          refine lv_aload_n hx hb dX4_common_33 rfl (lv_at hl 0 rfl) ?_
          refine va_get (D := D) (ci := 5) (v := .ref (am 9)) (C := RX4) (T := TX4) (N := 14) hx hb hts k2 hown hK hP 0 rfl rfl 12 (by decide) k1 (fun _ h9 => h9) rfl dX4_common_34 ?_
          refine lv_sipush (v := 208) hx hb dX4_common_37 (by decide) ?_
          refine fk_iald hx hb hK hP 9 2 rfl rfl (i := 208) (by decide) (by decide) dX4_common_40 ?_
          refine lv_iconst (v := 2) hx hb dX4_common_41 (by decide) ?_
          refine lv_irem hx hb dX4_common_42 (by decide) ?_
          refine lv_topi (fun x29 ex29 => ?_)
          have ex29q : x29 = nI (y1 % 2) := by
            rw [ex29]; exact fk_par (q := 13) i13
          subst ex29q
          refine lv_if_ne (tgt := 64) hx hb dX4_common_43 (by decide) (fun c_43 => ?_) (fun c_43 => ?_)
          · have q43 := fk_par1 c_43
            have hgo : Nat.gcd x1 y1 % 2 = 1 := fk_godd (Or.inr q43)
            have ht10 := fk_t10 iY iy hY2
            have L64 : ∀ (fu64 : Nat) (x2 : Nat) (y2 : Nat) (p2 : Nat → Int32) (s2 : Nat → Int32), x2 + y2 < fu64 → (fk_rg (x2 : Int) 12 p2) → (fk_rg (y2 : Int) 13 p2) → (1 ≤ y2) → (Nat.gcd x2 y2 = Nat.gcd x1 y1) → (s2 13 = 1) → (fk_kr [12, 13] pt sn p2 s2) → ∀ (H : Heap) (locs : List Loc) (ls : Array Slot), va_P D vwCl (fk_wm cJ cI cZ am cd kn lo tn wd sg up dn of bey rnd tx p2 s2 ++ tl) H → va_D A (fk_wm cJ cI cZ am cd kn lo tn wd sg up dn of bey rnd tx p2 s2 ++ tl) → va_S A s.heap H locs → lv_has ls 3 [(0, .ref (am 0)), (1, .int (nI tw))] → W p l e rmX4_common s m args below meth c H locs 0 0 QQ (F0 m 64 ls []) := by
              intro fu64
              induction fu64 with
              | zero => intro x2 y2 p2 s2 hfu; exact absurd hfu (Nat.not_lt_zero _)
              | succ fu64 ih64 =>
                intro x2 y2 p2 s2 hfu64 j12 j13 jy jg js jk H locs ls hP hD hS hl
                refine lv_aload_n hx hb dX4_common_64 rfl (lv_at hl 0 rfl) ?_
                refine lv_bipush (v := 12) hx hb dX4_common_65 (by decide) ?_
                refine fk_ci hD hS hA (va_runV (As := [.int 12]) (rest := []) ⟨hx, hb, hml, hown, hts⟩ (kX4_nothing _ am tl cd kn lo tn wd sg up dn of bey rnd tx p2 s2 12 (x2 : Int) (by omega) j12) (cwV 1 hts gX4_common_X4_nothing rfl rfl rfl (by decide +kernel) ⟨Nat.le_of_ble_eq_true rfl, Nat.le_of_ble_eq_true rfl⟩) (fk_preV 0 5 hK hN hP hD rfl rfl) rfl rfl hl.1 rfl (lv_room (Nat.le_of_ble_eq_true rfl)) dX4_common_67 ⟨Nat.le_of_ble_eq_true rfl, Nat.le_of_ble_eq_true rfl⟩) (fun r30 u H locs hw hP hD hS => ?_)
                have hP : va_P D vwCl (fk_wm cJ cI cZ am cd kn lo tn wd sg up dn of bey rnd tx p2 s2 ++ tl) H := hP
                have hD : va_D A (fk_wm cJ cI cZ am cd kn lo tn wd sg up dn of bey rnd tx p2 s2 ++ tl) := hD
                have zn67 := hw
                refine lv_if_ne (tgt := 163) hx hb dX4_common_70 (by decide) (fun c_70 => ?_) (fun c_70 => ?_)
                · have hx20 : x2 = 0 := by rcases Nat.eq_zero_or_pos x2 with q | q; exact q; (rw [zn67, if_neg (by omega)] at c_70; exact absurd rfl c_70)
                  have hyg : y2 = Nat.gcd x1 y1 := by rw [← jg, hx20, Nat.gcd_zero_left]
                  rw [hyg] at j13
                  refine lv_aload_n hx hb dX4_common_163 rfl (lv_at hl 0 rfl) ?_
                  refine lv_bipush (v := 12) hx hb dX4_common_164 (by decide) ?_
                  refine lv_bipush (v := 13) hx hb dX4_common_166 (by decide) ?_
                  refine fk_cv hD hS hA (va_runV (As := [.int 12, .int 13]) (rest := []) ⟨hx, hb, hml, hown, hts⟩ (kX4_copy _ am tl cd kn lo tn wd sg up dn of bey rnd tx p2 s2 12 13 ((Nat.gcd x1 y1 : Nat) : Int) (by omega) (by omega) (by omega) ⟨by rw [fk_absN]; exact j13, by rw [js, fk_cmpN (by omega)]⟩) (cwV 2 hts gX4_common_X4_copy rfl rfl rfl (by decide +kernel) ⟨Nat.le_of_ble_eq_true rfl, Nat.le_of_ble_eq_true rfl⟩) (fk_preV 0 5 hK hN hP hD rfl rfl) rfl rfl hl.1 rfl (lv_room (Nat.le_of_ble_eq_true rfl)) dX4_common_168 ⟨Nat.le_of_ble_eq_true rfl, Nat.le_of_ble_eq_true rfl⟩) (fun u31 H locs hw hP hD hS => ?_)
                  have hP : va_P D vwCl (fk_wm cJ cI cZ am cd kn lo tn wd sg up dn of bey rnd tx u31.1 u31.2 ++ tl) H := hP
                  have hD : va_D A (fk_wm cJ cI cZ am cd kn lo tn wd sg up dn of bey rnd tx u31.1 u31.2 ++ tl) := hD
                  obtain ⟨gC, f21, f22⟩ := hw
                  have gC1 := gC.1
                  rw [fk_absN] at gC1
                  have kC : fk_kr [12, 13] pt sn u31.1 u31.2 := fk_kr_t jk (fk_kr_1 f21 f22) (fun r hr => by simp at hr ⊢; omega)
                  have hgY : Nat.gcd x1 y1 ≤ y1 := Nat.gcd_le_right _ (by omega)
                  have hg1 : 1 ≤ Nat.gcd x1 y1 := by omega
                  refine lv_iconst (v := 0) hx hb dX4_common_171 (by decide) ?_
                  refine lv_istore_n (lv' := [(2, .int 0), (0, .ref (am 0)), (1, .int (nI tw))]) hx hb dX4_common_172 rfl hl (by decide) rfl (fun ls hl => ?_)
                  have L173 : ∀ (fu173 : Nat) (k : Nat) (p5 : Nat → Int32), tw - k < fu173 → (k ≤ tw) → (fk_rg ((2 ^ k * Nat.gcd x1 y1 : Nat) : Int) 12 p5) → (fk_kr [12, 13] pt sn p5 u31.2) → ∀ (H : Heap) (locs : List Loc) (ls : Array Slot), va_P D vwCl (fk_wm cJ cI cZ am cd kn lo tn wd sg up dn of bey rnd tx p5 u31.2 ++ tl) H → va_D A (fk_wm cJ cI cZ am cd kn lo tn wd sg up dn of bey rnd tx p5 u31.2 ++ tl) → va_S A s.heap H locs → lv_has ls 3 [(0, .ref (am 0)), (1, .int (nI tw)), (2, .int (nI k))] → W p l e rmX4_common s m args below meth c H locs 0 0 QQ (F0 m 173 ls []) := by
                    intro fu173
                    induction fu173 with
                    | zero => intro k p5 hfu; exact absurd hfu (Nat.not_lt_zero _)
                    | succ fu173 ih173 =>
                      intro k p5 hfu173 hkt q12 qk H locs ls hP hD hS hl
                      refine lv_iload_n hx hb dX4_common_173 rfl (lv_at hl 2 rfl) ?_
                      refine lv_iload_n hx hb dX4_common_174 rfl (lv_at hl 1 rfl) ?_
                      refine lv_icmp_ge (tgt := 194) hx hb dX4_common_175 (by decide) (fun c_175 => ?_) (fun c_175 => ?_)
                      · have hkd : k = tw := by have q := (nI_leI (a := tw) (b := k) (by omega) (by omega)).mp c_175; omega
                        subst hkd
                        refine lv_aload_n hx hb dX4_common_194 rfl (lv_at hl 0 rfl) ?_
                        refine va_get (D := D) (ci := 5) (v := .ref (am 10)) (C := RX4) (T := TX4) (N := 14) hx hb hts k2 hown hK hP 0 rfl rfl 13 (by decide) k3 (fun _ h9 => h9) rfl dX4_common_195 ?_
                        refine lv_bipush (v := 12) hx hb dX4_common_198 (by decide) ?_
                        refine lv_iconst (v := 1) hx hb dX4_common_200 (by decide) ?_
                        refine fk_iast hx hb hK hP hD hS 10 2 rfl rfl (i := 12) (by decide) (by decide) dX4_common_201 (fun H locs hP hD hS => ?_)
                        have hP : va_P D vwCl (fk_wm cJ cI cZ am cd kn lo tn wd sg up dn of bey rnd tx p5 (upd u31.2 12 1) ++ tl) H := hP
                        have hD : va_D A (fk_wm cJ cI cZ am cd kn lo tn wd sg up dn of bey rnd tx p5 (upd u31.2 12 1) ++ tl) := hD
                        have hpos : 1 ≤ 2 ^ k * Nat.gcd x1 y1 := Nat.mul_pos (Nat.two_pow_pos k) (by omega)
                        have gF : fk_G ((Nat.gcd X0 Y0 : Nat) : Int) 12 p5 (upd u31.2 12 1) := ⟨by rw [fk_absN, ig]; exact q12, by rw [pk_us, ig, fk_cmpN hpos]⟩
                        have kF : fk_kr [12, 13] pt sn p5 (upd u31.2 12 1) := fk_kr_t qk (fk_kr_1 (fk_fp_0 12 _) (fk_fs_u 12 _ _)) (fun r hr => by simp at hr ⊢; omega)
                        rw [hQQ]
                        exact W.vret hx hb hr (fun t ht hW => ⟨⟨(p5, upd u31.2 12 1), rfl, ⟨gF, kF⟩, by rw [ht]; exact hP, va_K.moved hW.alike hK, hD⟩, hS.F ht⟩) hS.2.2 dX4_common_202
                      · have hkd : k < tw := by rcases Nat.lt_or_ge k tw with q | q; exact q; exact absurd ((nI_leI (a := tw) (b := k) (by omega) (by omega)).mpr q) c_175
                        have hpk : 2 ^ k ≤ 2 ^ 9 := Nat.pow_le_pow_right (by omega) (by omega)
                        have hgl : 2 ^ k * Nat.gcd x1 y1 ≤ 2 ^ 9 * 1000 := Nat.mul_le_mul hpk (by have q : 1 * y1 ≤ 2 ^ tw * y1 := Nat.mul_le_mul_right _ (Nat.two_pow_pos tw); omega)
                        refine lv_aload_n hx hb dX4_common_178 rfl (lv_at hl 0 rfl) ?_
                        refine lv_bipush (v := 12) hx hb dX4_common_179 (by decide) ?_
                        refine lv_bipush (v := 12) hx hb dX4_common_181 (by decide) ?_
                        refine lv_bipush (v := 12) hx hb dX4_common_183 (by decide) ?_
                        refine fk_cv hD hS hA (va_runV (As := [.int 12, .int 12, .int 12]) (rest := []) ⟨hx, hb, hml, hown, hts⟩ (kX4_addSizes _ am tl cd kn lo tn wd sg up dn of bey rnd tx p5 u31.2 12 12 12 _ _ (by omega) (by omega) (by omega) q12 q12 (by rw [fk_p16]; omega)) (cwV 3 hts gX4_common_X4_addSizes rfl rfl rfl (by decide +kernel) ⟨Nat.le_of_ble_eq_true rfl, Nat.le_of_ble_eq_true rfl⟩) (fk_preV 0 5 hK hN hP hD rfl rfl) rfl rfl hl.1 rfl (lv_room (Nat.le_of_ble_eq_true rfl)) dX4_common_185 ⟨Nat.le_of_ble_eq_true rfl, Nat.le_of_ble_eq_true rfl⟩) (fun pt33 H locs hw hP hD hS => ?_)
                        have hP : va_P D vwCl (fk_wm cJ cI cZ am cd kn lo tn wd sg up dn of bey rnd tx pt33 u31.2 ++ tl) H := hP
                        have hD : va_D A (fk_wm cJ cI cZ am cd kn lo tn wd sg up dn of bey rnd tx pt33 u31.2 ++ tl) := hD
                        obtain ⟨w1, f9⟩ := hw
                        have t12 : fk_rg ((2 ^ (k + 1) * Nat.gcd x1 y1 : Nat) : Int) 12 pt33 := by rw [show ((2 ^ (k + 1) * Nat.gcd x1 y1 : Nat) : Int) = ((2 ^ k * Nat.gcd x1 y1 : Nat) : Int) + ((2 ^ k * Nat.gcd x1 y1 : Nat) : Int) by rw [Nat.pow_succ, Nat.mul_comm (2 ^ k) 2, Nat.mul_assoc]; omega]; exact w1
                        have tk : fk_kr [12, 13] pt sn pt33 u31.2 := fk_kr_t qk (fk_kr_1 f9 (fk_fs_0 12 _)) (fun r hr => by simp at hr ⊢; omega)
                        refine lv_iinc (v := nI (k + 1)) (lv' := [(2, .int (nI (k + 1))), (0, .ref (am 0)), (1, .int (nI tw))]) hx hb dX4_common_188 hl (k := 2) rfl (by exact nI_1 k) (by decide) rfl (fun ls hl => ?_)
                        refine lv_goto (tgt := 173) hx hb dX4_common_191 (by decide) ?_
                        exact ih173 (k + 1) pt33 (by omega) (by omega) t12 tk _ _ _ hP hD hS (lv_sub hl [1, 2, 0] rfl)
                  exact L173 (tw + 1) 0 u31.1 (by omega) (by omega) (by rw [Nat.pow_zero, Nat.one_mul]; exact gC1) kC _ _ _ hP hD hS (lv_sub hl [1, 2, 0] rfl)
                · have hx21 : 1 ≤ x2 := by rcases Nat.eq_zero_or_pos x2 with q | q; (rw [zn67, if_pos (by omega)] at c_70; exact absurd c_70 (by decide)); exact q
                  have L73 : ∀ (fu73 : Nat) (x3 : Nat) (p3 : Nat → Int32) (s3 : Nat → Int32), x3 < fu73 → (1 ≤ x3) → (x3 ≤ x2) → (fk_rg (x3 : Int) 12 p3) → (fk_rg (y2 : Int) 13 p3) → (Nat.gcd x3 y2 = Nat.gcd x1 y1) → (s3 13 = 1) → (fk_kr [12, 13] pt sn p3 s3) → ∀ (H : Heap) (locs : List Loc) (ls : Array Slot), va_P D vwCl (fk_wm cJ cI cZ am cd kn lo tn wd sg up dn of bey rnd tx p3 s3 ++ tl) H → va_D A (fk_wm cJ cI cZ am cd kn lo tn wd sg up dn of bey rnd tx p3 s3 ++ tl) → va_S A s.heap H locs → lv_has ls 3 [(0, .ref (am 0)), (1, .int (nI tw))] → W p l e rmX4_common s m args below meth c H locs 0 0 QQ (F0 m 73 ls []) := by
                    intro fu73
                    induction fu73 with
                    | zero => intro x3 p3 s3 hfu; exact absurd hfu (Nat.not_lt_zero _)
                    | succ fu73 ih73 =>
                      intro x3 p3 s3 hfu73 kx kl m12 m13 mg ms mk H locs ls hP hD hS hl
                      refine lv_aload_n hx hb dX4_common_73 rfl (lv_at hl 0 rfl) ?_
                      refine va_get (D := D) (ci := 5) (v := .ref (am 9)) (C := RX4) (T := TX4) (N := 14) hx hb hts k2 hown hK hP 0 rfl rfl 12 (by decide) k1 (fun _ h9 => h9) rfl dX4_common_74 ?_
                      refine lv_sipush (v := 192) hx hb dX4_common_77 (by decide) ?_
                      refine fk_iald hx hb hK hP 9 2 rfl rfl (i := 192) (by decide) (by decide) dX4_common_80 ?_
                      refine lv_iconst (v := 2) hx hb dX4_common_81 (by decide) ?_
                      refine lv_irem hx hb dX4_common_82 (by decide) ?_
                      refine lv_topi (fun x35 ex35 => ?_)
                      have ex35q : x35 = nI (x3 % 2) := by
                        rw [ex35]; exact fk_par (q := 12) m12
                      subst ex35q
                      refine lv_if_ne (tgt := 95) hx hb dX4_common_83 (by decide) (fun c_83 => ?_) (fun c_83 => ?_)
                      · have q83 := fk_par1 c_83
                        have L95 : ∀ (fu95 : Nat) (y4 : Nat) (p4 : Nat → Int32) (s4 : Nat → Int32), y4 < fu95 → (1 ≤ y4) → (y4 ≤ y2) → (fk_rg (x3 : Int) 12 p4) → (fk_rg (y4 : Int) 13 p4) → (Nat.gcd x3 y4 = Nat.gcd x1 y1) → (s4 13 = 1) → (fk_kr [12, 13] pt sn p4 s4) → ∀ (H : Heap) (locs : List Loc) (ls : Array Slot), va_P D vwCl (fk_wm cJ cI cZ am cd kn lo tn wd sg up dn of bey rnd tx p4 s4 ++ tl) H → va_D A (fk_wm cJ cI cZ am cd kn lo tn wd sg up dn of bey rnd tx p4 s4 ++ tl) → va_S A s.heap H locs → lv_has ls 3 [(0, .ref (am 0)), (1, .int (nI tw))] → W p l e rmX4_common s m args below meth c H locs 0 0 QQ (F0 m 95 ls []) := by
                          intro fu95
                          induction fu95 with
                          | zero => intro y4 p4 s4 hfu; exact absurd hfu (Nat.not_lt_zero _)
                          | succ fu95 ih95 =>
                            intro y4 p4 s4 hfu95 uy ul u12 u13 ug us uk H locs ls hP hD hS hl
                            refine lv_aload_n hx hb dX4_common_95 rfl (lv_at hl 0 rfl) ?_
                            refine va_get (D := D) (ci := 5) (v := .ref (am 9)) (C := RX4) (T := TX4) (N := 14) hx hb hts k2 hown hK hP 0 rfl rfl 12 (by decide) k1 (fun _ h9 => h9) rfl dX4_common_96 ?_
                            refine lv_sipush (v := 208) hx hb dX4_common_99 (by decide) ?_
                            refine fk_iald hx hb hK hP 9 2 rfl rfl (i := 208) (by decide) (by decide) dX4_common_102 ?_
                            refine lv_iconst (v := 2) hx hb dX4_common_103 (by decide) ?_
                            refine lv_irem hx hb dX4_common_104 (by decide) ?_
                            refine lv_topi (fun x36 ex36 => ?_)
                            have ex36q : x36 = nI (y4 % 2) := by
                              rw [ex36]; exact fk_par (q := 13) u13
                            subst ex36q
                            refine lv_if_ne (tgt := 117) hx hb dX4_common_105 (by decide) (fun c_105 => ?_) (fun c_105 => ?_)
                            · have q105 := fk_par1 c_105
                              refine lv_aload_n hx hb dX4_common_117 rfl (lv_at hl 0 rfl) ?_
                              refine lv_bipush (v := 12) hx hb dX4_common_118 (by decide) ?_
                              refine lv_bipush (v := 13) hx hb dX4_common_120 (by decide) ?_
                              refine fk_ci hD hS hA (va_runV (As := [.int 12, .int 13]) (rest := []) ⟨hx, hb, hml, hown, hts⟩ (kX4_sizes _ am tl cd kn lo tn wd sg up dn of bey rnd tx p4 s4 12 13 (x3 : Int) (y4 : Int) (by omega) (by omega) u12 u13) (cwV 2 hts gX4_common_X4_sizes rfl rfl rfl (by decide +kernel) ⟨Nat.le_of_ble_eq_true rfl, Nat.le_of_ble_eq_true rfl⟩) (fk_preV 0 5 hK hN hP hD rfl rfl) rfl rfl hl.1 rfl (lv_room (Nat.le_of_ble_eq_true rfl)) dX4_common_122 ⟨Nat.le_of_ble_eq_true rfl, Nat.le_of_ble_eq_true rfl⟩) (fun r37 u H locs hw hP hD hS => ?_)
                              have hP : va_P D vwCl (fk_wm cJ cI cZ am cd kn lo tn wd sg up dn of bey rnd tx p4 s4 ++ tl) H := hP
                              have hD : va_D A (fk_wm cJ cI cZ am cd kn lo tn wd sg up dn of bey rnd tx p4 s4 ++ tl) := hD
                              obtain ⟨z1, z2⟩ := hw
                              refine lv_if_lt (tgt := 141) hx hb dX4_common_125 (by decide) (fun c_125 => ?_) (fun c_125 => ?_)
                              · rw [Int32.lt_iff_toInt_lt, show (0 : Int32).toInt = 0 by decide] at c_125
                                have hlt : x3 < y4 := by have q := z2.mp c_125; omega
                                refine lv_aload_n hx hb dX4_common_141 rfl (lv_at hl 0 rfl) ?_
                                refine lv_bipush (v := 13) hx hb dX4_common_142 (by decide) ?_
                                refine lv_bipush (v := 13) hx hb dX4_common_144 (by decide) ?_
                                refine lv_bipush (v := 12) hx hb dX4_common_146 (by decide) ?_
                                refine fk_cv hD hS hA (va_runV (As := [.int 13, .int 13, .int 12]) (rest := []) ⟨hx, hb, hml, hown, hts⟩ (kX4_lessSizes _ am tl cd kn lo tn wd sg up dn of bey rnd tx p4 s4 13 13 12 (y4 : Int) (x3 : Int) (by omega) (by omega) (by omega) u13 u12 (by omega)) (cwV 3 hts gX4_common_X4_lessSizes rfl rfl rfl (by decide +kernel) ⟨Nat.le_of_ble_eq_true rfl, Nat.le_of_ble_eq_true rfl⟩) (fk_preV 0 5 hK hN hP hD rfl rfl) rfl rfl hl.1 rfl (lv_room (Nat.le_of_ble_eq_true rfl)) dX4_common_148 ⟨Nat.le_of_ble_eq_true rfl, Nat.le_of_ble_eq_true rfl⟩) (fun pt38 H locs hw hP hD hS => ?_)
                                have hP : va_P D vwCl (fk_wm cJ cI cZ am cd kn lo tn wd sg up dn of bey rnd tx pt38 s4 ++ tl) H := hP
                                have hD : va_D A (fk_wm cJ cI cZ am cd kn lo tn wd sg up dn of bey rnd tx pt38 s4 ++ tl) := hD
                                obtain ⟨w1, f9⟩ := hw
                                have e13 : fk_rg ((y4 - x3 : Nat) : Int) 13 pt38 := by rw [show ((y4 - x3 : Nat) : Int) = (y4 : Int) - (x3 : Int) by omega]; exact w1
                                have e12 := fk_rg_keep u12 f9 (by omega)
                                have es := us
                                have ey : 1 ≤ (y4 - x3) := by omega
                                have eg : Nat.gcd x3 (y4 - x3) = Nat.gcd x1 y1 := by rw [Nat.gcd_sub_self_right (Nat.le_of_lt hlt)]; exact ug
                                have ek : fk_kr [12, 13] pt sn pt38 s4 := fk_kr_t uk (fk_kr_1 f9 (fk_fs_0 13 _)) (fun r hr => by simp at hr ⊢; omega)
                                refine lv_aload_n hx hb dX4_common_151 rfl (lv_at hl 0 rfl) ?_
                                refine lv_bipush (v := 12) hx hb dX4_common_152 (by decide) ?_
                                refine fk_ci hD hS hA (va_runV (As := [.int 12]) (rest := []) ⟨hx, hb, hml, hown, hts⟩ (kX4_nothing _ am tl cd kn lo tn wd sg up dn of bey rnd tx pt38 s4 12 (x3 : Nat) (by omega) e12) (cwV 1 hts gX4_common_X4_nothing rfl rfl rfl (by decide +kernel) ⟨Nat.le_of_ble_eq_true rfl, Nat.le_of_ble_eq_true rfl⟩) (fk_preV 0 5 hK hN hP hD rfl rfl) rfl rfl hl.1 rfl (lv_room (Nat.le_of_ble_eq_true rfl)) dX4_common_154 ⟨Nat.le_of_ble_eq_true rfl, Nat.le_of_ble_eq_true rfl⟩) (fun r40 u H locs hw hP hD hS => ?_)
                                have hP : va_P D vwCl (fk_wm cJ cI cZ am cd kn lo tn wd sg up dn of bey rnd tx pt38 s4 ++ tl) H := hP
                                have hD : va_D A (fk_wm cJ cI cZ am cd kn lo tn wd sg up dn of bey rnd tx pt38 s4 ++ tl) := hD
                                have zn154 := hw
                                refine lv_if_eq (tgt := 64) hx hb dX4_common_157 (by decide) (fun c_157 => ?_) (fun c_157 => ?_)
                                · exact ih64 x3 (y4 - x3) pt38 s4 (by omega) e12 e13 ey eg es ek _ _ _ hP hD hS (lv_sub hl [0, 1] rfl)
                                · have hxe0 : x3 = 0 := by rcases Nat.eq_zero_or_pos x3 with q | q; exact q; (rw [zn154, if_neg (by omega)] at c_157; exact absurd rfl c_157)
                                  have hyg : (y4 - x3) = Nat.gcd x1 y1 := by rw [← eg, hxe0, Nat.gcd_zero_left]
                                  rw [hyg] at e13
                                  refine lv_goto (tgt := 163) hx hb dX4_common_160 (by decide) ?_
                                  refine lv_aload_n hx hb dX4_common_163 rfl (lv_at hl 0 rfl) ?_
                                  refine lv_bipush (v := 12) hx hb dX4_common_164 (by decide) ?_
                                  refine lv_bipush (v := 13) hx hb dX4_common_166 (by decide) ?_
                                  refine fk_cv hD hS hA (va_runV (As := [.int 12, .int 13]) (rest := []) ⟨hx, hb, hml, hown, hts⟩ (kX4_copy _ am tl cd kn lo tn wd sg up dn of bey rnd tx pt38 s4 12 13 ((Nat.gcd x1 y1 : Nat) : Int) (by omega) (by omega) (by omega) ⟨by rw [fk_absN]; exact e13, by rw [es, fk_cmpN (by omega)]⟩) (cwV 2 hts gX4_common_X4_copy rfl rfl rfl (by decide +kernel) ⟨Nat.le_of_ble_eq_true rfl, Nat.le_of_ble_eq_true rfl⟩) (fk_preV 0 5 hK hN hP hD rfl rfl) rfl rfl hl.1 rfl (lv_room (Nat.le_of_ble_eq_true rfl)) dX4_common_168 ⟨Nat.le_of_ble_eq_true rfl, Nat.le_of_ble_eq_true rfl⟩) (fun u41 H locs hw hP hD hS => ?_)
                                  have hP : va_P D vwCl (fk_wm cJ cI cZ am cd kn lo tn wd sg up dn of bey rnd tx u41.1 u41.2 ++ tl) H := hP
                                  have hD : va_D A (fk_wm cJ cI cZ am cd kn lo tn wd sg up dn of bey rnd tx u41.1 u41.2 ++ tl) := hD
                                  obtain ⟨gC, f21, f22⟩ := hw
                                  have gC1 := gC.1
                                  rw [fk_absN] at gC1
                                  have kC : fk_kr [12, 13] pt sn u41.1 u41.2 := fk_kr_t ek (fk_kr_1 f21 f22) (fun r hr => by simp at hr ⊢; omega)
                                  have hgY : Nat.gcd x1 y1 ≤ y1 := Nat.gcd_le_right _ (by omega)
                                  have hg1 : 1 ≤ Nat.gcd x1 y1 := by omega
                                  refine lv_iconst (v := 0) hx hb dX4_common_171 (by decide) ?_
                                  refine lv_istore_n (lv' := [(2, .int 0), (0, .ref (am 0)), (1, .int (nI tw))]) hx hb dX4_common_172 rfl hl (by decide) rfl (fun ls hl => ?_)
                                  have L173 : ∀ (fu173 : Nat) (k : Nat) (p5 : Nat → Int32), tw - k < fu173 → (k ≤ tw) → (fk_rg ((2 ^ k * Nat.gcd x1 y1 : Nat) : Int) 12 p5) → (fk_kr [12, 13] pt sn p5 u41.2) → ∀ (H : Heap) (locs : List Loc) (ls : Array Slot), va_P D vwCl (fk_wm cJ cI cZ am cd kn lo tn wd sg up dn of bey rnd tx p5 u41.2 ++ tl) H → va_D A (fk_wm cJ cI cZ am cd kn lo tn wd sg up dn of bey rnd tx p5 u41.2 ++ tl) → va_S A s.heap H locs → lv_has ls 3 [(0, .ref (am 0)), (1, .int (nI tw)), (2, .int (nI k))] → W p l e rmX4_common s m args below meth c H locs 0 0 QQ (F0 m 173 ls []) := by
                                    intro fu173
                                    induction fu173 with
                                    | zero => intro k p5 hfu; exact absurd hfu (Nat.not_lt_zero _)
                                    | succ fu173 ih173 =>
                                      intro k p5 hfu173 hkt q12 qk H locs ls hP hD hS hl
                                      refine lv_iload_n hx hb dX4_common_173 rfl (lv_at hl 2 rfl) ?_
                                      refine lv_iload_n hx hb dX4_common_174 rfl (lv_at hl 1 rfl) ?_
                                      refine lv_icmp_ge (tgt := 194) hx hb dX4_common_175 (by decide) (fun c_175 => ?_) (fun c_175 => ?_)
                                      · have hkd : k = tw := by have q := (nI_leI (a := tw) (b := k) (by omega) (by omega)).mp c_175; omega
                                        subst hkd
                                        refine lv_aload_n hx hb dX4_common_194 rfl (lv_at hl 0 rfl) ?_
                                        refine va_get (D := D) (ci := 5) (v := .ref (am 10)) (C := RX4) (T := TX4) (N := 14) hx hb hts k2 hown hK hP 0 rfl rfl 13 (by decide) k3 (fun _ h9 => h9) rfl dX4_common_195 ?_
                                        refine lv_bipush (v := 12) hx hb dX4_common_198 (by decide) ?_
                                        refine lv_iconst (v := 1) hx hb dX4_common_200 (by decide) ?_
                                        refine fk_iast hx hb hK hP hD hS 10 2 rfl rfl (i := 12) (by decide) (by decide) dX4_common_201 (fun H locs hP hD hS => ?_)
                                        have hP : va_P D vwCl (fk_wm cJ cI cZ am cd kn lo tn wd sg up dn of bey rnd tx p5 (upd u41.2 12 1) ++ tl) H := hP
                                        have hD : va_D A (fk_wm cJ cI cZ am cd kn lo tn wd sg up dn of bey rnd tx p5 (upd u41.2 12 1) ++ tl) := hD
                                        have hpos : 1 ≤ 2 ^ k * Nat.gcd x1 y1 := Nat.mul_pos (Nat.two_pow_pos k) (by omega)
                                        have gF : fk_G ((Nat.gcd X0 Y0 : Nat) : Int) 12 p5 (upd u41.2 12 1) := ⟨by rw [fk_absN, ig]; exact q12, by rw [pk_us, ig, fk_cmpN hpos]⟩
                                        have kF : fk_kr [12, 13] pt sn p5 (upd u41.2 12 1) := fk_kr_t qk (fk_kr_1 (fk_fp_0 12 _) (fk_fs_u 12 _ _)) (fun r hr => by simp at hr ⊢; omega)
                                        rw [hQQ]
                                        exact W.vret hx hb hr (fun t ht hW => ⟨⟨(p5, upd u41.2 12 1), rfl, ⟨gF, kF⟩, by rw [ht]; exact hP, va_K.moved hW.alike hK, hD⟩, hS.F ht⟩) hS.2.2 dX4_common_202
                                      · have hkd : k < tw := by rcases Nat.lt_or_ge k tw with q | q; exact q; exact absurd ((nI_leI (a := tw) (b := k) (by omega) (by omega)).mpr q) c_175
                                        have hpk : 2 ^ k ≤ 2 ^ 9 := Nat.pow_le_pow_right (by omega) (by omega)
                                        have hgl : 2 ^ k * Nat.gcd x1 y1 ≤ 2 ^ 9 * 1000 := Nat.mul_le_mul hpk (by have q : 1 * y1 ≤ 2 ^ tw * y1 := Nat.mul_le_mul_right _ (Nat.two_pow_pos tw); omega)
                                        refine lv_aload_n hx hb dX4_common_178 rfl (lv_at hl 0 rfl) ?_
                                        refine lv_bipush (v := 12) hx hb dX4_common_179 (by decide) ?_
                                        refine lv_bipush (v := 12) hx hb dX4_common_181 (by decide) ?_
                                        refine lv_bipush (v := 12) hx hb dX4_common_183 (by decide) ?_
                                        refine fk_cv hD hS hA (va_runV (As := [.int 12, .int 12, .int 12]) (rest := []) ⟨hx, hb, hml, hown, hts⟩ (kX4_addSizes _ am tl cd kn lo tn wd sg up dn of bey rnd tx p5 u41.2 12 12 12 _ _ (by omega) (by omega) (by omega) q12 q12 (by rw [fk_p16]; omega)) (cwV 3 hts gX4_common_X4_addSizes rfl rfl rfl (by decide +kernel) ⟨Nat.le_of_ble_eq_true rfl, Nat.le_of_ble_eq_true rfl⟩) (fk_preV 0 5 hK hN hP hD rfl rfl) rfl rfl hl.1 rfl (lv_room (Nat.le_of_ble_eq_true rfl)) dX4_common_185 ⟨Nat.le_of_ble_eq_true rfl, Nat.le_of_ble_eq_true rfl⟩) (fun pt43 H locs hw hP hD hS => ?_)
                                        have hP : va_P D vwCl (fk_wm cJ cI cZ am cd kn lo tn wd sg up dn of bey rnd tx pt43 u41.2 ++ tl) H := hP
                                        have hD : va_D A (fk_wm cJ cI cZ am cd kn lo tn wd sg up dn of bey rnd tx pt43 u41.2 ++ tl) := hD
                                        obtain ⟨w1, f9⟩ := hw
                                        have t12 : fk_rg ((2 ^ (k + 1) * Nat.gcd x1 y1 : Nat) : Int) 12 pt43 := by rw [show ((2 ^ (k + 1) * Nat.gcd x1 y1 : Nat) : Int) = ((2 ^ k * Nat.gcd x1 y1 : Nat) : Int) + ((2 ^ k * Nat.gcd x1 y1 : Nat) : Int) by rw [Nat.pow_succ, Nat.mul_comm (2 ^ k) 2, Nat.mul_assoc]; omega]; exact w1
                                        have tk : fk_kr [12, 13] pt sn pt43 u41.2 := fk_kr_t qk (fk_kr_1 f9 (fk_fs_0 12 _)) (fun r hr => by simp at hr ⊢; omega)
                                        refine lv_iinc (v := nI (k + 1)) (lv' := [(2, .int (nI (k + 1))), (0, .ref (am 0)), (1, .int (nI tw))]) hx hb dX4_common_188 hl (k := 2) rfl (by exact nI_1 k) (by decide) rfl (fun ls hl => ?_)
                                        refine lv_goto (tgt := 173) hx hb dX4_common_191 (by decide) ?_
                                        exact ih173 (k + 1) pt43 (by omega) (by omega) t12 tk _ _ _ hP hD hS (lv_sub hl [1, 2, 0] rfl)
                                  exact L173 (tw + 1) 0 u41.1 (by omega) (by omega) (by rw [Nat.pow_zero, Nat.one_mul]; exact gC1) kC _ _ _ hP hD hS (lv_sub hl [1, 2, 0] rfl)
                              · rw [Int32.lt_iff_toInt_lt, show (0 : Int32).toInt = 0 by decide] at c_125
                                have hge : y4 ≤ x3 := by rcases Nat.lt_or_ge x3 y4 with q | q; exact absurd (z2.mpr (by omega)) c_125; exact q
                                refine lv_aload_n hx hb dX4_common_128 rfl (lv_at hl 0 rfl) ?_
                                refine lv_bipush (v := 12) hx hb dX4_common_129 (by decide) ?_
                                refine lv_bipush (v := 12) hx hb dX4_common_131 (by decide) ?_
                                refine lv_bipush (v := 13) hx hb dX4_common_133 (by decide) ?_
                                refine fk_cv hD hS hA (va_runV (As := [.int 12, .int 12, .int 13]) (rest := []) ⟨hx, hb, hml, hown, hts⟩ (kX4_lessSizes _ am tl cd kn lo tn wd sg up dn of bey rnd tx p4 s4 12 12 13 (x3 : Int) (y4 : Int) (by omega) (by omega) (by omega) u12 u13 (by omega)) (cwV 3 hts gX4_common_X4_lessSizes rfl rfl rfl (by decide +kernel) ⟨Nat.le_of_ble_eq_true rfl, Nat.le_of_ble_eq_true rfl⟩) (fk_preV 0 5 hK hN hP hD rfl rfl) rfl rfl hl.1 rfl (lv_room (Nat.le_of_ble_eq_true rfl)) dX4_common_135 ⟨Nat.le_of_ble_eq_true rfl, Nat.le_of_ble_eq_true rfl⟩) (fun pt45 H locs hw hP hD hS => ?_)
                                have hP : va_P D vwCl (fk_wm cJ cI cZ am cd kn lo tn wd sg up dn of bey rnd tx pt45 s4 ++ tl) H := hP
                                have hD : va_D A (fk_wm cJ cI cZ am cd kn lo tn wd sg up dn of bey rnd tx pt45 s4 ++ tl) := hD
                                obtain ⟨w1, f9⟩ := hw
                                have e12 : fk_rg ((x3 - y4 : Nat) : Int) 12 pt45 := by rw [show ((x3 - y4 : Nat) : Int) = (x3 : Int) - (y4 : Int) by omega]; exact w1
                                have e13 := fk_rg_keep u13 f9 (by omega)
                                have es := us
                                have ey : 1 ≤ y4 := by omega
                                have eg : Nat.gcd (x3 - y4) y4 = Nat.gcd x1 y1 := by rw [Nat.gcd_sub_self_left hge]; exact ug
                                have ek : fk_kr [12, 13] pt sn pt45 s4 := fk_kr_t uk (fk_kr_1 f9 (fk_fs_0 12 _)) (fun r hr => by simp at hr ⊢; omega)
                                refine lv_goto (tgt := 151) hx hb dX4_common_138 (by decide) ?_
                                refine lv_aload_n hx hb dX4_common_151 rfl (lv_at hl 0 rfl) ?_
                                refine lv_bipush (v := 12) hx hb dX4_common_152 (by decide) ?_
                                refine fk_ci hD hS hA (va_runV (As := [.int 12]) (rest := []) ⟨hx, hb, hml, hown, hts⟩ (kX4_nothing _ am tl cd kn lo tn wd sg up dn of bey rnd tx pt45 s4 12 ((x3 - y4) : Nat) (by omega) e12) (cwV 1 hts gX4_common_X4_nothing rfl rfl rfl (by decide +kernel) ⟨Nat.le_of_ble_eq_true rfl, Nat.le_of_ble_eq_true rfl⟩) (fk_preV 0 5 hK hN hP hD rfl rfl) rfl rfl hl.1 rfl (lv_room (Nat.le_of_ble_eq_true rfl)) dX4_common_154 ⟨Nat.le_of_ble_eq_true rfl, Nat.le_of_ble_eq_true rfl⟩) (fun r47 u H locs hw hP hD hS => ?_)
                                have hP : va_P D vwCl (fk_wm cJ cI cZ am cd kn lo tn wd sg up dn of bey rnd tx pt45 s4 ++ tl) H := hP
                                have hD : va_D A (fk_wm cJ cI cZ am cd kn lo tn wd sg up dn of bey rnd tx pt45 s4 ++ tl) := hD
                                have zn154 := hw
                                refine lv_if_eq (tgt := 64) hx hb dX4_common_157 (by decide) (fun c_157 => ?_) (fun c_157 => ?_)
                                · exact ih64 (x3 - y4) y4 pt45 s4 (by omega) e12 e13 ey eg es ek _ _ _ hP hD hS (lv_sub hl [0, 1] rfl)
                                · have hxe0 : (x3 - y4) = 0 := by rcases Nat.eq_zero_or_pos (x3 - y4) with q | q; exact q; (rw [zn154, if_neg (by omega)] at c_157; exact absurd rfl c_157)
                                  have hyg : y4 = Nat.gcd x1 y1 := by rw [← eg, hxe0, Nat.gcd_zero_left]
                                  rw [hyg] at e13
                                  refine lv_goto (tgt := 163) hx hb dX4_common_160 (by decide) ?_
                                  refine lv_aload_n hx hb dX4_common_163 rfl (lv_at hl 0 rfl) ?_
                                  refine lv_bipush (v := 12) hx hb dX4_common_164 (by decide) ?_
                                  refine lv_bipush (v := 13) hx hb dX4_common_166 (by decide) ?_
                                  refine fk_cv hD hS hA (va_runV (As := [.int 12, .int 13]) (rest := []) ⟨hx, hb, hml, hown, hts⟩ (kX4_copy _ am tl cd kn lo tn wd sg up dn of bey rnd tx pt45 s4 12 13 ((Nat.gcd x1 y1 : Nat) : Int) (by omega) (by omega) (by omega) ⟨by rw [fk_absN]; exact e13, by rw [es, fk_cmpN (by omega)]⟩) (cwV 2 hts gX4_common_X4_copy rfl rfl rfl (by decide +kernel) ⟨Nat.le_of_ble_eq_true rfl, Nat.le_of_ble_eq_true rfl⟩) (fk_preV 0 5 hK hN hP hD rfl rfl) rfl rfl hl.1 rfl (lv_room (Nat.le_of_ble_eq_true rfl)) dX4_common_168 ⟨Nat.le_of_ble_eq_true rfl, Nat.le_of_ble_eq_true rfl⟩) (fun u48 H locs hw hP hD hS => ?_)
                                  have hP : va_P D vwCl (fk_wm cJ cI cZ am cd kn lo tn wd sg up dn of bey rnd tx u48.1 u48.2 ++ tl) H := hP
                                  have hD : va_D A (fk_wm cJ cI cZ am cd kn lo tn wd sg up dn of bey rnd tx u48.1 u48.2 ++ tl) := hD
                                  obtain ⟨gC, f21, f22⟩ := hw
                                  have gC1 := gC.1
                                  rw [fk_absN] at gC1
                                  have kC : fk_kr [12, 13] pt sn u48.1 u48.2 := fk_kr_t ek (fk_kr_1 f21 f22) (fun r hr => by simp at hr ⊢; omega)
                                  have hgY : Nat.gcd x1 y1 ≤ y1 := Nat.gcd_le_right _ (by omega)
                                  have hg1 : 1 ≤ Nat.gcd x1 y1 := by omega
                                  refine lv_iconst (v := 0) hx hb dX4_common_171 (by decide) ?_
                                  refine lv_istore_n (lv' := [(2, .int 0), (0, .ref (am 0)), (1, .int (nI tw))]) hx hb dX4_common_172 rfl hl (by decide) rfl (fun ls hl => ?_)
                                  have L173 : ∀ (fu173 : Nat) (k : Nat) (p5 : Nat → Int32), tw - k < fu173 → (k ≤ tw) → (fk_rg ((2 ^ k * Nat.gcd x1 y1 : Nat) : Int) 12 p5) → (fk_kr [12, 13] pt sn p5 u48.2) → ∀ (H : Heap) (locs : List Loc) (ls : Array Slot), va_P D vwCl (fk_wm cJ cI cZ am cd kn lo tn wd sg up dn of bey rnd tx p5 u48.2 ++ tl) H → va_D A (fk_wm cJ cI cZ am cd kn lo tn wd sg up dn of bey rnd tx p5 u48.2 ++ tl) → va_S A s.heap H locs → lv_has ls 3 [(0, .ref (am 0)), (1, .int (nI tw)), (2, .int (nI k))] → W p l e rmX4_common s m args below meth c H locs 0 0 QQ (F0 m 173 ls []) := by
                                    intro fu173
                                    induction fu173 with
                                    | zero => intro k p5 hfu; exact absurd hfu (Nat.not_lt_zero _)
                                    | succ fu173 ih173 =>
                                      intro k p5 hfu173 hkt q12 qk H locs ls hP hD hS hl
                                      refine lv_iload_n hx hb dX4_common_173 rfl (lv_at hl 2 rfl) ?_
                                      refine lv_iload_n hx hb dX4_common_174 rfl (lv_at hl 1 rfl) ?_
                                      refine lv_icmp_ge (tgt := 194) hx hb dX4_common_175 (by decide) (fun c_175 => ?_) (fun c_175 => ?_)
                                      · have hkd : k = tw := by have q := (nI_leI (a := tw) (b := k) (by omega) (by omega)).mp c_175; omega
                                        subst hkd
                                        refine lv_aload_n hx hb dX4_common_194 rfl (lv_at hl 0 rfl) ?_
                                        refine va_get (D := D) (ci := 5) (v := .ref (am 10)) (C := RX4) (T := TX4) (N := 14) hx hb hts k2 hown hK hP 0 rfl rfl 13 (by decide) k3 (fun _ h9 => h9) rfl dX4_common_195 ?_
                                        refine lv_bipush (v := 12) hx hb dX4_common_198 (by decide) ?_
                                        refine lv_iconst (v := 1) hx hb dX4_common_200 (by decide) ?_
                                        refine fk_iast hx hb hK hP hD hS 10 2 rfl rfl (i := 12) (by decide) (by decide) dX4_common_201 (fun H locs hP hD hS => ?_)
                                        have hP : va_P D vwCl (fk_wm cJ cI cZ am cd kn lo tn wd sg up dn of bey rnd tx p5 (upd u48.2 12 1) ++ tl) H := hP
                                        have hD : va_D A (fk_wm cJ cI cZ am cd kn lo tn wd sg up dn of bey rnd tx p5 (upd u48.2 12 1) ++ tl) := hD
                                        have hpos : 1 ≤ 2 ^ k * Nat.gcd x1 y1 := Nat.mul_pos (Nat.two_pow_pos k) (by omega)
                                        have gF : fk_G ((Nat.gcd X0 Y0 : Nat) : Int) 12 p5 (upd u48.2 12 1) := ⟨by rw [fk_absN, ig]; exact q12, by rw [pk_us, ig, fk_cmpN hpos]⟩
                                        have kF : fk_kr [12, 13] pt sn p5 (upd u48.2 12 1) := fk_kr_t qk (fk_kr_1 (fk_fp_0 12 _) (fk_fs_u 12 _ _)) (fun r hr => by simp at hr ⊢; omega)
                                        rw [hQQ]
                                        exact W.vret hx hb hr (fun t ht hW => ⟨⟨(p5, upd u48.2 12 1), rfl, ⟨gF, kF⟩, by rw [ht]; exact hP, va_K.moved hW.alike hK, hD⟩, hS.F ht⟩) hS.2.2 dX4_common_202
                                      · have hkd : k < tw := by rcases Nat.lt_or_ge k tw with q | q; exact q; exact absurd ((nI_leI (a := tw) (b := k) (by omega) (by omega)).mpr q) c_175
                                        have hpk : 2 ^ k ≤ 2 ^ 9 := Nat.pow_le_pow_right (by omega) (by omega)
                                        have hgl : 2 ^ k * Nat.gcd x1 y1 ≤ 2 ^ 9 * 1000 := Nat.mul_le_mul hpk (by have q : 1 * y1 ≤ 2 ^ tw * y1 := Nat.mul_le_mul_right _ (Nat.two_pow_pos tw); omega)
                                        refine lv_aload_n hx hb dX4_common_178 rfl (lv_at hl 0 rfl) ?_
                                        refine lv_bipush (v := 12) hx hb dX4_common_179 (by decide) ?_
                                        refine lv_bipush (v := 12) hx hb dX4_common_181 (by decide) ?_
                                        refine lv_bipush (v := 12) hx hb dX4_common_183 (by decide) ?_
                                        refine fk_cv hD hS hA (va_runV (As := [.int 12, .int 12, .int 12]) (rest := []) ⟨hx, hb, hml, hown, hts⟩ (kX4_addSizes _ am tl cd kn lo tn wd sg up dn of bey rnd tx p5 u48.2 12 12 12 _ _ (by omega) (by omega) (by omega) q12 q12 (by rw [fk_p16]; omega)) (cwV 3 hts gX4_common_X4_addSizes rfl rfl rfl (by decide +kernel) ⟨Nat.le_of_ble_eq_true rfl, Nat.le_of_ble_eq_true rfl⟩) (fk_preV 0 5 hK hN hP hD rfl rfl) rfl rfl hl.1 rfl (lv_room (Nat.le_of_ble_eq_true rfl)) dX4_common_185 ⟨Nat.le_of_ble_eq_true rfl, Nat.le_of_ble_eq_true rfl⟩) (fun pt50 H locs hw hP hD hS => ?_)
                                        have hP : va_P D vwCl (fk_wm cJ cI cZ am cd kn lo tn wd sg up dn of bey rnd tx pt50 u48.2 ++ tl) H := hP
                                        have hD : va_D A (fk_wm cJ cI cZ am cd kn lo tn wd sg up dn of bey rnd tx pt50 u48.2 ++ tl) := hD
                                        obtain ⟨w1, f9⟩ := hw
                                        have t12 : fk_rg ((2 ^ (k + 1) * Nat.gcd x1 y1 : Nat) : Int) 12 pt50 := by rw [show ((2 ^ (k + 1) * Nat.gcd x1 y1 : Nat) : Int) = ((2 ^ k * Nat.gcd x1 y1 : Nat) : Int) + ((2 ^ k * Nat.gcd x1 y1 : Nat) : Int) by rw [Nat.pow_succ, Nat.mul_comm (2 ^ k) 2, Nat.mul_assoc]; omega]; exact w1
                                        have tk : fk_kr [12, 13] pt sn pt50 u48.2 := fk_kr_t qk (fk_kr_1 f9 (fk_fs_0 12 _)) (fun r hr => by simp at hr ⊢; omega)
                                        refine lv_iinc (v := nI (k + 1)) (lv' := [(2, .int (nI (k + 1))), (0, .ref (am 0)), (1, .int (nI tw))]) hx hb dX4_common_188 hl (k := 2) rfl (by exact nI_1 k) (by decide) rfl (fun ls hl => ?_)
                                        refine lv_goto (tgt := 173) hx hb dX4_common_191 (by decide) ?_
                                        exact ih173 (k + 1) pt50 (by omega) (by omega) t12 tk _ _ _ hP hD hS (lv_sub hl [1, 2, 0] rfl)
                                  exact L173 (tw + 1) 0 u48.1 (by omega) (by omega) (by rw [Nat.pow_zero, Nat.one_mul]; exact gC1) kC _ _ _ hP hD hS (lv_sub hl [1, 2, 0] rfl)
                            · have q105 := fk_par0 c_105
                              refine lv_aload_n hx hb dX4_common_108 rfl (lv_at hl 0 rfl) ?_
                              refine lv_bipush (v := 13) hx hb dX4_common_109 (by decide) ?_
                              refine fk_cv hD hS hA (va_runV (As := [.int 13]) (rest := []) ⟨hx, hb, hml, hown, hts⟩ (kX4_halve _ am tl cd kn lo tn wd sg up dn of bey rnd tx p4 s4 13 (y4 : Int) (by omega) u13) (cwV 1 hts gX4_common_X4_halve rfl rfl rfl (by decide +kernel) ⟨Nat.le_of_ble_eq_true rfl, Nat.le_of_ble_eq_true rfl⟩) (fk_preV 0 5 hK hN hP hD rfl rfl) rfl rfl hl.1 rfl (lv_room (Nat.le_of_ble_eq_true rfl)) dX4_common_111 ⟨Nat.le_of_ble_eq_true rfl, Nat.le_of_ble_eq_true rfl⟩) (fun u52 H locs hw hP hD hS => ?_)
                              have hP : va_P D vwCl (fk_wm cJ cI cZ am cd kn lo tn wd sg up dn of bey rnd tx u52.1 u52.2 ++ tl) H := hP
                              have hD : va_D A (fk_wm cJ cI cZ am cd kn lo tn wd sg up dn of bey rnd tx u52.1 u52.2 ++ tl) := hD
                              obtain ⟨r1, f7, f8, hs⟩ := hw
                              have v13 : fk_rg ((y4 / 2 : Nat) : Int) 13 u52.1 := by rw [show ((y4 / 2 : Nat) : Int) = (y4 : Int) / 2 by omega]; exact r1
                              have v12 := fk_rg_keep u12 f7 (by omega)
                              have vs : u52.2 13 = 1 := by rw [hs, if_neg (by omega)]; exact us
                              have vk : fk_kr [12, 13] pt sn u52.1 u52.2 := fk_kr_t uk (fk_kr_1 f7 f8) (fun r hr => by simp at hr ⊢; omega)
                              have vg := fk_ghr ug hgo q105
                              refine lv_goto (tgt := 95) hx hb dX4_common_114 (by decide) ?_
                              exact ih95 (y4 / 2) u52.1 u52.2 (by omega) (by omega) (by omega) v12 v13 vg vs vk _ _ _ hP hD hS (lv_sub hl [0, 1] rfl)
                        exact L95 (y2 + 1) y2 p3 s3 (by omega) jy (Nat.le_refl _) m12 m13 mg ms mk _ _ _ hP hD hS (lv_sub hl [0, 1] rfl)
                      · have q83 := fk_par0 c_83
                        refine lv_aload_n hx hb dX4_common_86 rfl (lv_at hl 0 rfl) ?_
                        refine lv_bipush (v := 12) hx hb dX4_common_87 (by decide) ?_
                        refine fk_cv hD hS hA (va_runV (As := [.int 12]) (rest := []) ⟨hx, hb, hml, hown, hts⟩ (kX4_halve _ am tl cd kn lo tn wd sg up dn of bey rnd tx p3 s3 12 (x3 : Int) (by omega) m12) (cwV 1 hts gX4_common_X4_halve rfl rfl rfl (by decide +kernel) ⟨Nat.le_of_ble_eq_true rfl, Nat.le_of_ble_eq_true rfl⟩) (fk_preV 0 5 hK hN hP hD rfl rfl) rfl rfl hl.1 rfl (lv_room (Nat.le_of_ble_eq_true rfl)) dX4_common_89 ⟨Nat.le_of_ble_eq_true rfl, Nat.le_of_ble_eq_true rfl⟩) (fun u54 H locs hw hP hD hS => ?_)
                        have hP : va_P D vwCl (fk_wm cJ cI cZ am cd kn lo tn wd sg up dn of bey rnd tx u54.1 u54.2 ++ tl) H := hP
                        have hD : va_D A (fk_wm cJ cI cZ am cd kn lo tn wd sg up dn of bey rnd tx u54.1 u54.2 ++ tl) := hD
                        obtain ⟨r1, f7, f8, -⟩ := hw
                        have n12 : fk_rg ((x3 / 2 : Nat) : Int) 12 u54.1 := by rw [show ((x3 / 2 : Nat) : Int) = (x3 : Int) / 2 by omega]; exact r1
                        have n13 := fk_rg_keep m13 f7 (by omega)
                        have ns : u54.2 13 = 1 := by rw [f8 13 (by decide)]; exact ms
                        have nk : fk_kr [12, 13] pt sn u54.1 u54.2 := fk_kr_t mk (fk_kr_1 f7 f8) (fun r hr => by simp at hr ⊢; omega)
                        have ng := fk_ghl mg hgo q83
                        refine lv_goto (tgt := 73) hx hb dX4_common_92 (by decide) ?_
                        exact ih73 (x3 / 2) u54.1 u54.2 (by omega) (by omega) (by omega) n12 n13 ng ns nk _ _ _ hP hD hS (lv_sub hl [0, 1] rfl)
                  exact L73 (x2 + 1) x2 p2 s2 (by omega) hx21 (Nat.le_refl _) j12 j13 jg js jk _ _ _ hP hD hS (lv_sub hl [0, 1] rfl)
            exact L64 (x1 + y1 + 1) x1 y1 p1 s1 (by omega) i12 i13 iy rfl is ik _ _ _ hP hD hS (lv_sub hl [0, 1] rfl)
          · have q43 := fk_par0 c_43
            refine lv_aload_n hx hb dX4_common_46 rfl (lv_at hl 0 rfl) ?_
            refine lv_bipush (v := 12) hx hb dX4_common_47 (by decide) ?_
            refine fk_cv hD hS hA (va_runV (As := [.int 12]) (rest := []) ⟨hx, hb, hml, hown, hts⟩ (kX4_halve _ am tl cd kn lo tn wd sg up dn of bey rnd tx p1 s1 12 (x1 : Int) (by omega) i12) (cwV 1 hts gX4_common_X4_halve rfl rfl rfl (by decide +kernel) ⟨Nat.le_of_ble_eq_true rfl, Nat.le_of_ble_eq_true rfl⟩) (fk_preV 0 5 hK hN hP hD rfl rfl) rfl rfl hl.1 rfl (lv_room (Nat.le_of_ble_eq_true rfl)) dX4_common_49 ⟨Nat.le_of_ble_eq_true rfl, Nat.le_of_ble_eq_true rfl⟩) (fun u56 H locs hw hP hD hS => ?_)
            have hP : va_P D vwCl (fk_wm cJ cI cZ am cd kn lo tn wd sg up dn of bey rnd tx u56.1 u56.2 ++ tl) H := hP
            have hD : va_D A (fk_wm cJ cI cZ am cd kn lo tn wd sg up dn of bey rnd tx u56.1 u56.2 ++ tl) := hD
            obtain ⟨r1, f7, f8, -⟩ := hw
            have a12 : fk_rg ((x1 / 2 : Nat) : Int) 12 u56.1 := by rw [show ((x1 / 2 : Nat) : Int) = (x1 : Int) / 2 by omega]; exact r1
            have a13 := fk_rg_keep i13 f7 (by omega)
            have as : u56.2 13 = 1 := by rw [f8 13 (by decide)]; exact is
            have ak : fk_kr [12, 13] pt sn u56.1 u56.2 := fk_kr_t ik (fk_kr_1 f7 f8) (fun r hr => by simp at hr ⊢; omega)
            refine lv_aload_n hx hb dX4_common_52 rfl (lv_at hl 0 rfl) ?_
            refine lv_bipush (v := 13) hx hb dX4_common_53 (by decide) ?_
            refine fk_cv hD hS hA (va_runV (As := [.int 13]) (rest := []) ⟨hx, hb, hml, hown, hts⟩ (kX4_halve _ am tl cd kn lo tn wd sg up dn of bey rnd tx u56.1 u56.2 13 (y1 : Int) (by omega) a13) (cwV 1 hts gX4_common_X4_halve rfl rfl rfl (by decide +kernel) ⟨Nat.le_of_ble_eq_true rfl, Nat.le_of_ble_eq_true rfl⟩) (fk_preV 0 5 hK hN hP hD rfl rfl) rfl rfl hl.1 rfl (lv_room (Nat.le_of_ble_eq_true rfl)) dX4_common_55 ⟨Nat.le_of_ble_eq_true rfl, Nat.le_of_ble_eq_true rfl⟩) (fun u58 H locs hw hP hD hS => ?_)
            have hP : va_P D vwCl (fk_wm cJ cI cZ am cd kn lo tn wd sg up dn of bey rnd tx u58.1 u58.2 ++ tl) H := hP
            have hD : va_D A (fk_wm cJ cI cZ am cd kn lo tn wd sg up dn of bey rnd tx u58.1 u58.2 ++ tl) := hD
            obtain ⟨r2, f9, f10, hs⟩ := hw
            have b13 : fk_rg ((y1 / 2 : Nat) : Int) 13 u58.1 := by rw [show ((y1 / 2 : Nat) : Int) = (y1 : Int) / 2 by omega]; exact r2
            have b12 := fk_rg_keep a12 f9 (by omega)
            have bs : u58.2 13 = 1 := by rw [hs, if_neg (by omega)]; exact as
            have bk : fk_kr [12, 13] pt sn u58.1 u58.2 := fk_kr_t ak (fk_kr_1 f9 f10) (fun r hr => by simp at hr ⊢; omega)
            have bg : Nat.gcd X0 Y0 = 2 ^ (tw + 1) * Nat.gcd (x1 / 2) (y1 / 2) := by rw [ig, fk_g2 q30 q43, Nat.pow_succ, Nat.mul_assoc]
            have by1 : Y0 = 2 ^ (tw + 1) * (y1 / 2) := by rw [Nat.pow_succ, Nat.mul_assoc, show 2 * (y1 / 2) = y1 by omega]; exact iY
            refine lv_iinc (v := nI (tw + 1)) (lv' := [(1, .int (nI (tw + 1))), (0, .ref (am 0))]) hx hb dX4_common_58 hl (k := 1) rfl (by exact nI_1 tw) (by decide) rfl (fun ls hl => ?_)
            refine lv_goto (tgt := 20) hx hb dX4_common_61 (by decide) ?_
            exact ih20 (x1 / 2) (y1 / 2) (tw + 1) u58.1 u58.2 (by omega) b12 b13 (by omega) (by omega) bg by1 bs bk _ _ _ hP hD hS (lv_sub hl [1, 0] rfl)
    exact L20 (X0 + 1) X0 Y0 0 pt sn (by omega) g12 g13 hX1 hY1 (by rw [Nat.pow_zero, Nat.one_mul]) (by rw [Nat.pow_zero, Nat.one_mul]) hs13 (fun r hr => ⟨fun _ _ => rfl, rfl⟩) _ _ _ hP hD hS (lv_sub hl [1, 0] rfl)
  · have hX0 : X0 = 0 := by rcases Nat.eq_zero_or_pos X0 with q | q; exact q; (rw [zn5, if_neg (by omega)] at c_8; exact absurd rfl c_8)
    refine lv_aload_n hx hb dX4_common_11 rfl (lv_at hl 1 rfl) ?_
    refine lv_bipush (v := 12) hx hb dX4_common_12 (by decide) ?_
    refine lv_bipush (v := 13) hx hb dX4_common_14 (by decide) ?_
    refine fk_cv hD hS hA (va_runV (As := [.int 12, .int 13]) (rest := []) ⟨hx, hb, hml, hown, hts⟩ (kX4_copy _ am tl cd kn lo tn wd sg up dn of bey rnd tx pt sn 12 13 (Y0 : Int) (by omega) (by omega) (by omega) ⟨by rw [fk_absN]; exact g13, by rw [hs13, fk_cmpN (by omega)]⟩) (cwV 2 hts gX4_common_X4_copy rfl rfl rfl (by decide +kernel) ⟨Nat.le_of_ble_eq_true rfl, Nat.le_of_ble_eq_true rfl⟩) (fk_preV 0 5 hK hN hP hD rfl rfl) rfl rfl hl.1 rfl (lv_room (Nat.le_of_ble_eq_true rfl)) dX4_common_16 ⟨Nat.le_of_ble_eq_true rfl, Nat.le_of_ble_eq_true rfl⟩) (fun u60 H locs hw hP hD hS => ?_)
    have hP : va_P D vwCl (fk_wm cJ cI cZ am cd kn lo tn wd sg up dn of bey rnd tx u60.1 u60.2 ++ tl) H := hP
    have hD : va_D A (fk_wm cJ cI cZ am cd kn lo tn wd sg up dn of bey rnd tx u60.1 u60.2 ++ tl) := hD
    obtain ⟨gC, f1, f2⟩ := hw
    rw [hQQ]
    exact W.vret hx hb hr (fun t ht hW => ⟨⟨(u60.1, u60.2), rfl, ⟨by rw [hX0, Nat.gcd_zero_left]; exact gC, fk_kr_t (fk_kr_1 f1 f2) (fk_kr_0 _ _) (fun r hr => by simp at hr ⊢; omega)⟩, by rw [ht]; exact hP, va_K.moved hW.alike hK, hD⟩, hS.F ht⟩) hS.2.2 dX4_common_19
