/-! Reference: physical, by program -/
theorem fk_rlimb {x : Int} {q : Nat} {pt : Nat → Int32} (h : fk_rg x q pt) {j : Nat} (hj : j < 16) : fk_M pt q j = x / 65536 ^ j % 65536 := by
  have b := fk_rg_bd h
  exact fk_uniq (t := fk_M pt q) (u := fk_M pt q) 16 (fk_M pt q) (fk_dg x) h.1 (fun i _ => by rw [fk_dg]; omega) (by rw [h.2, fk_dg_T, Int.emod_eq_of_lt b.1 b.2]) j hj
theorem fk_dd (N : Int) (j : Nat) : N / 65536 ^ (j + 1) = N / 65536 ^ j / 65536 := by
  rw [Int.pow_succ, Int.ediv_ediv_of_nonneg (Int.le_of_lt (fk_pp j))]
theorem fk_gc_eq (a : Int) {b : Int} (hb : 0 < b) : ((Nat.gcd (fk_abs a).toNat b.toNat : Nat) : Int) = fk_gc a b := by
  have h0 : 0 ≤ fk_abs a := by have := fk_abs_cases a; omega
  rw [fk_gc, Int.toNat_emod h0 (by omega), Nat.gcd_comm b.toNat, ← Nat.gcd_rec, Nat.gcd_comm]
theorem fk_dq_num (a : Int) {b : Int} (hb : 0 < b) : fk_dq a (fk_gc a b) = fk_num a b := by
  have g := fk_gc_bd a hb
  rw [fk_dq, fk_num, show fk_abs (fk_gc a b) = fk_gc a b by rw [fk_abs, if_neg (by omega)]]
  rcases fk_cmp_cases (a * fk_gc a b) with ⟨x, y⟩ | ⟨x, y⟩ | ⟨x, y⟩
  · rcases Int.mul_eq_zero.mp x with z | z
    · rw [z]; simp [fk_abs]
    · omega
  · rw [y]
    have : a < 0 := by
      rcases Int.lt_or_le a 0 with q | q
      · exact q
      · have := Int.mul_nonneg q (show 0 ≤ fk_gc a b by omega); omega
    rw [if_pos this]; rfl
  · rw [y]
    have : ¬ a < 0 := fun q => by have := Int.mul_neg_of_neg_of_pos q (show 0 < fk_gc a b by omega); omega
    rw [if_neg this]; rfl
theorem fk_dq_den (a : Int) {b : Int} (hb : 0 < b) : fk_dq b (fk_gc a b) = b / fk_gc a b := by
  have g := fk_gc_bd a hb
  have q : 0 < b * fk_gc a b := Int.mul_pos hb (by omega)
  rw [fk_dq, show fk_abs (fk_gc a b) = fk_gc a b by rw [fk_abs, if_neg (by omega)], show fk_abs b = b by rw [fk_abs, if_neg (by omega)]]
  rcases fk_cmp_cases (b * fk_gc a b) with ⟨x, y⟩ | ⟨x, y⟩ | ⟨x, y⟩
  · omega
  · omega
  · rw [y, show (1 : Int32).toInt = 1 by decide, Int.mul_one]
/-- limbs of a number, by two's complement: what is above limb j, without what is carried -/
def fk_Z (N : Int) (j : Nat) : Int := if N < 0 then -1 - fk_abs N / 65536 ^ j else fk_abs N / 65536 ^ j
def fk_E (N : Int) (j : Nat) : Int := if N < 0 then 65535 - fk_abs N / 65536 ^ j % 65536 else fk_abs N / 65536 ^ j % 65536
theorem fk_Z_s (N : Int) (j : Nat) : fk_Z N j = fk_E N j + 65536 * fk_Z N (j + 1) := by
  rw [fk_Z, fk_Z, fk_E, fk_dd]
  split <;> omega
theorem fk_Z_0 (N : Int) : N = (if N < 0 then 1 else 0) + fk_Z N 0 := by
  rw [fk_Z, Int.pow_zero, Int.ediv_one, fk_abs]
  split <;> omega
theorem fk_wst {N c : Int} {j : Nat} (h : N / 65536 ^ j = c + fk_Z N j) : N / 65536 ^ j % 65536 = (c + fk_E N j) % 65536 ∧ N / 65536 ^ (j + 1) = (c + fk_E N j) / 65536 + fk_Z N (j + 1) := by
  rw [fk_dd]
  have z := fk_Z_s N j
  omega
theorem fk_E_bd (N : Int) (j : Nat) : 0 ≤ fk_E N j ∧ fk_E N j < 65536 := by
  rw [fk_E]; split <;> omega
theorem fk_sh16 {x : Int64} (h0 : 0 ≤ x.toInt) (h1 : x.toInt < 65536) : (x <<< ((16 : Int32).toInt64 &&& 63)).toInt = x.toInt * 65536 := by
  have q := fk_or16n (b := x) (y := 0) h0 (by omega) (by decide) (by decide)
  rw [Int64.or_zero, show (0 : Int64).toInt = 0 by decide] at q
  omega
/-- words of two limbs -/
def fk_Wd (N : Int) (j : Nat) (w : Int) : Prop := (0 ≤ w ∧ w < 4294967296) ∧ (j % 2 = 1 → w = N / 65536 ^ (j - 1) % 65536) ∧ (j % 2 = 0 → j ≠ 0 → w = N / 65536 ^ (j - 2) % 4294967296)
theorem fk_Wd_e {N w : Int} {j : Nat} (hj : j % 2 = 0) (h : w = N / 65536 ^ j % 65536) : fk_Wd N (j + 1) w := by
  refine ⟨by omega, fun _ => ?_, fun q => by omega⟩
  rw [Nat.add_sub_cancel]; exact h
theorem fk_Wd_o {N w v z : Int} {j : Nat} (hj : j % 2 = 1) (h : fk_Wd N j w) (hz : z = N / 65536 ^ j % 65536) (hv : v = w + z * 65536) : fk_Wd N (j + 1) v := by
  have e := h.2.1 hj
  have d := fk_dd N (j - 1)
  rw [show j - 1 + 1 = j by omega] at d
  rw [d] at hz
  have key : v = N / 65536 ^ (j - 1) % 4294967296 := by rw [hv, e, hz]; omega
  refine ⟨by omega, fun q => by omega, fun _ _ => ?_⟩
  rw [show j + 1 - 2 = j - 1 by omega]; exact key
abbrev rmX4_physical : Room := { frames := 3, cells := 0, slots := 0, locals := 76 }
set_option maxHeartbeats 4000000 in
set_option maxRecDepth 100000 in
/-- physical -/
theorem kX4_physical {l : Launch} {D : va_G} {cJ cC cI cZ cK : ClassId} (sz : Nat) (am : Nat → Nat) (tl : va_W) (cd lo tn : Int32) (wd sg : Nat → Int32) (up dn of : Nat → Int64) (bey rnd tx pt sn : Nat → Int32) (n : Nat) (kf : Nat → fk_K) (num side : Int32) (v : Int64) (hMT : fk_MT n kf wd sg up dn of bey rnd) : Met l yX4_physical wsX4_physical rmX4_physical (va_Pc [.ref (am 0), .int num, .long v, .int side] (fk_pre D (fk_ty cJ cC cI cZ cK) (fk_wm cJ cI cZ am cd (nI n) lo tn wd sg up dn of bey rnd tx pt sn ++ tl) sz)) (va_Ql (fun (r : Int64) (u : Int32 × (Nat → Int32) × (Nat → Int32)) => r.toInt = fk_sPhy n kf num v side ∧ u.1 = lo) (fk_Bd D (fk_ty cJ cC cI cZ cK) (va_A (fk_wm cJ cI cZ am cd (nI n) lo tn wd sg up dn of bey rnd tx pt sn ++ tl) sz) (fun u : Int32 × (Nat → Int32) × (Nat → Int32) => fk_wm cJ cI cZ am 0 (nI n) u.1 tn wd sg up dn of bey rnd tx u.2.1 u.2.2 ++ tl)) (va_A (fk_wm cJ cI cZ am cd (nI n) lo tn wd sg up dn of bey rnd tx pt sn ++ tl) sz)) 0 0 (va_A (fk_wm cJ cI cZ am cd (nI n) lo tn wd sg up dn of bey rnd tx pt sn ++ tl) sz) := by
  refine fk_ofW cX4_physical 10 (some .long) (fun A => va_Ql (fun (r : Int64) (u : Int32 × (Nat → Int32) × (Nat → Int32)) => r.toInt = fk_sPhy n kf num v side ∧ u.1 = lo) (fk_Bd D (fk_ty cJ cC cI cZ cK) A (fun u : Int32 × (Nat → Int32) × (Nat → Int32) => fk_wm cJ cI cZ am 0 (nI n) u.1 tn wd sg up dn of bey rnd tx u.2.1 u.2.2 ++ tl)) A) rfl (by decide) (Nat.le_of_ble_eq_true rfl) ?_
  intro p e s m below meth c A ls args QQ hQQ hAt hP hK hN hD hA hS hl
  obtain ⟨⟨hx, hb, hml, hown, hts⟩, hr, hlocks, hin⟩ := hAt
  have hl : lv_has ls 10 [(0, .ref (am 0)), (1, .int num), (2, .long v), (4, .int side)] := hl
  have k1 := hts (.fieldLink RX4 39 "FixedKindsModel" "sign" "[I") (by decide +kernel)
  have k2 := (by decide +kernel : ∀ w ∈ u_ws RX4 TX4 14, w ∈ wsX4_physical)
  have k3 := hts (.constantLong RX4 139 2147483647) (by decide +kernel)
  have k4 := hts (.constantLong RX4 141 4294967296) (by decide +kernel)
  have k5 := hts (.fieldLink RX4 36 "FixedKindsModel" "part" "[I") (by decide +kernel)
  have k6 := hts (.constantLong RX4 46 65535) (by decide +kernel)
  have k7 := hts (.constant RX4 48 65535) (by decide +kernel)
  have hn40 := hMT.1
  refine lv_aload_n hx hb dX4_physical_0 rfl (lv_at hl 0 rfl) ?_
  refine lv_iload_n hx hb dX4_physical_1 rfl (lv_at hl 1 rfl) ?_
  refine fk_ci hD hS hA (va_runV (As := [.int num]) (rest := []) ⟨hx, hb, hml, hown, hts⟩ (kX4_none _ am tl cd lo tn wd sg up dn of bey rnd tx pt sn n num hn40) (cwV 1 hts gX4_physical_X4_none rfl rfl rfl (by decide +kernel) ⟨Nat.le_of_ble_eq_true rfl, Nat.le_of_ble_eq_true rfl⟩) (fk_preV 0 5 hK hN hP hD rfl rfl) rfl rfl hl.1 rfl (lv_room (Nat.le_of_ble_eq_true rfl)) dX4_physical_2 ⟨Nat.le_of_ble_eq_true rfl, Nat.le_of_ble_eq_true rfl⟩) (fun r1 u H locs hw hP hD hS => ?_)
  have hP : va_P D vwCl (fk_wm cJ cI cZ am 0 (nI n) lo tn wd sg up dn of bey rnd tx pt sn ++ tl) H := hP
  have hD : va_D A (fk_wm cJ cI cZ am 0 (nI n) lo tn wd sg up dn of bey rnd tx pt sn ++ tl) := hD
  have zn_j := hw
  refine lv_if_ne (tgt := 19) hx hb dX4_physical_5 (by decide) (fun c_5 => ?_) (fun c_5 => ?_)
  · have hno_j : fk_no n num := by by_cases q : (num.toInt < 1 ∨ (n : Int) < num.toInt); exact q; rw [zn_j, if_neg q] at c_5; exact absurd rfl c_5
    refine lv_lconst (v := 0) hx hb dX4_physical_19 (by decide) ?_
    rw [hQQ]
    exact W.lret (v := 0) hx hb hr (fun t ht hW => ⟨⟨0, (lo, pt, sn), rfl, ⟨(by rw [fk_sPhy, if_pos (Or.inl hno_j)]; decide), rfl⟩, by rw [ht]; exact hP, va_K.moved hW.alike hK, hD⟩, hS.F ht⟩) hS.2.2 dX4_physical_20
  · have hyes_j : ¬ (num.toInt < 1 ∨ (n : Int) < num.toInt) := by intro q; rw [zn_j, if_pos q] at c_5; exact absurd c_5 (by decide)
    obtain ⟨j, hj, hn_j⟩ : ∃ j : Nat, j < n ∧ num = nI (j + 1) := ⟨num.toInt.toNat - 1, by omega, by apply Int32.toInt_inj.mp; rw [nI_toInt (by omega)]; omega⟩
    subst hn_j
    obtain ⟨e1_j, e2_j, e3_j, e4_j, e5_j, e6_j, e7_j, ok_j⟩ := hMT.2.1 j hj
    have okw_j := ok_j.1.1
    refine lv_iload hx hb dX4_physical_8 (lv_at hl 3 rfl) ?_
    refine lv_if_lt (tgt := 19) hx hb dX4_physical_10 (by decide) (fun c_10 => ?_) (fun c_10 => ?_)
    · rw [Int32.lt_iff_toInt_lt, show (0 : Int32).toInt = 0 by decide] at c_10
      refine lv_lconst (v := 0) hx hb dX4_physical_19 (by decide) ?_
      rw [hQQ]
      exact W.lret (v := 0) hx hb hr (fun t ht hW => ⟨⟨0, (lo, pt, sn), rfl, ⟨(by rw [fk_sPhy, if_pos (Or.inr (Or.inl c_10))]; decide), rfl⟩, by rw [ht]; exact hP, va_K.moved hW.alike hK, hD⟩, hS.F ht⟩) hS.2.2 dX4_physical_20
    · rw [Int32.lt_iff_toInt_lt, show (0 : Int32).toInt = 0 by decide] at c_10
      refine lv_iload hx hb dX4_physical_13 (lv_at hl 3 rfl) ?_
      refine lv_iconst (v := 3) hx hb dX4_physical_15 (by decide) ?_
      refine lv_icmp_le (tgt := 21) hx hb dX4_physical_16 (by decide) (fun c_16 => ?_) (fun c_16 => ?_)
      · rw [Int32.le_iff_toInt_le, show (3 : Int32).toInt = 3 by decide] at c_16
        have hsd : ¬ (fk_no n (nI (j + 1)) ∨ side.toInt < 0 ∨ 3 < side.toInt) := fun q => q.elim (fk_no_j hj hn40) (fun z => by omega)
        obtain ⟨sd, hsd3, hsdi⟩ : ∃ sd : Nat, sd ≤ 3 ∧ side = nI sd := ⟨side.toInt.toNat, by omega, by apply Int32.toInt_inj.mp; rw [nI_toInt (by omega)]; omega⟩
        subst hsdi
        refine lv_aload_n hx hb dX4_physical_21 rfl (lv_at hl 0 rfl) ?_
        refine lv_iconst (v := 0) hx hb dX4_physical_22 (by decide) ?_
        refine lv_iload_n hx hb dX4_physical_23 rfl (lv_at hl 1 rfl) ?_
        refine lv_lload_n hx hb dX4_physical_24 rfl (lv_at hl 2 rfl) ?_
        refine fk_cv hD hS hA (va_runV (As := [.int 0, .int (nI (j + 1)), .long v]) (rest := []) ⟨hx, hb, hml, hown, hts⟩ (kX4_value _ am tl 0 (nI n) lo tn wd sg up dn of bey rnd tx pt sn 0 (j + 1) (kf j).1 (kf j).2.1 (kf j).2.2.1 (kf j).2.2.2.1 (kf j).2.2.2.2.1 v (by omega) (by omega) ok_j.1 e1_j e2_j e3_j e4_j e5_j) (cwV 3 hts gX4_physical_X4_value rfl rfl rfl (by decide +kernel) ⟨Nat.le_of_ble_eq_true rfl, Nat.le_of_ble_eq_true rfl⟩) (fk_preV 0 5 hK hN hP hD rfl rfl) rfl rfl hl.1 rfl (lv_room (Nat.le_of_ble_eq_true rfl)) dX4_physical_25 ⟨Nat.le_of_ble_eq_true rfl, Nat.le_of_ble_eq_true rfl⟩) (fun u2 H locs hw hP hD hS => ?_)
        have hP : va_P D vwCl (fk_wm cJ cI cZ am 0 (nI n) lo tn wd sg up dn of bey rnd tx u2.1 u2.2 ++ tl) H := hP
        have hD : va_D A (fk_wm cJ cI cZ am 0 (nI n) lo tn wd sg up dn of bey rnd tx u2.1 u2.2 ++ tl) := hD
        obtain ⟨ga_j, gb_j, kv_j⟩ := hw
        have ga_j : fk_G (fk_v (kf j) v) 0 u2.1 u2.2 := ga_j
        have gb_j : fk_G (fk_dn (kf j)) 1 u2.1 u2.2 := gb_j
        have bv_j := fk_v_bd ok_j v
        have bd_j := fk_dn_bd ok_j
        have KK4 : fk_kr [0, 1, 2, 3, 4, 12, 13, 20, 22, 23] pt sn u2.1 u2.2 := fk_kr_t (fk_kr_0 pt sn) kv_j (fun r hr => by simp at hr ⊢; omega)
        refine lv_aload_n hx hb dX4_physical_28 rfl (lv_at hl 0 rfl) ?_
        refine lv_bipush (v := 12) hx hb dX4_physical_29 (by decide) ?_
        refine lv_iconst (v := 0) hx hb dX4_physical_31 (by decide) ?_
        refine fk_cv hD hS hA (va_runV (As := [.int 12, .int 0]) (rest := []) ⟨hx, hb, hml, hown, hts⟩ (kX4_copy _ am tl 0 (nI n) lo tn wd sg up dn of bey rnd tx u2.1 u2.2 12 0 _ (by omega) (by omega) (by omega) ga_j) (cwV 2 hts gX4_physical_X4_copy rfl rfl rfl (by decide +kernel) ⟨Nat.le_of_ble_eq_true rfl, Nat.le_of_ble_eq_true rfl⟩) (fk_preV 0 5 hK hN hP hD rfl rfl) rfl rfl hl.1 rfl (lv_room (Nat.le_of_ble_eq_true rfl)) dX4_physical_32 ⟨Nat.le_of_ble_eq_true rfl, Nat.le_of_ble_eq_true rfl⟩) (fun u5 H locs hw hP hD hS => ?_)
        have hP : va_P D vwCl (fk_wm cJ cI cZ am 0 (nI n) lo tn wd sg up dn of bey rnd tx u5.1 u5.2 ++ tl) H := hP
        have hD : va_D A (fk_wm cJ cI cZ am 0 (nI n) lo tn wd sg up dn of bey rnd tx u5.1 u5.2 ++ tl) := hD
        obtain ⟨gr6, kx7a, kx7b⟩ := hw
        have kx7 := fk_kr_1 kx7a kx7b
        have gg9 := fk_G_kr ga_j kx7 (by simp <;> omega)
        have gg10 := fk_G_kr gb_j kx7 (by simp <;> omega)
        have KK11 : fk_kr [0, 1, 2, 3, 4, 12, 13, 20, 22, 23] pt sn u5.1 u5.2 := fk_kr_t KK4 kx7 (fun r hr => by simp at hr ⊢; omega)
        refine lv_aload_n hx hb dX4_physical_35 rfl (lv_at hl 0 rfl) ?_
        refine lv_bipush (v := 13) hx hb dX4_physical_36 (by decide) ?_
        refine lv_iconst (v := 1) hx hb dX4_physical_38 (by decide) ?_
        refine fk_cv hD hS hA (va_runV (As := [.int 13, .int 1]) (rest := []) ⟨hx, hb, hml, hown, hts⟩ (kX4_copy _ am tl 0 (nI n) lo tn wd sg up dn of bey rnd tx u5.1 u5.2 13 1 _ (by omega) (by omega) (by omega) gg10) (cwV 2 hts gX4_physical_X4_copy rfl rfl rfl (by decide +kernel) ⟨Nat.le_of_ble_eq_true rfl, Nat.le_of_ble_eq_true rfl⟩) (fk_preV 0 5 hK hN hP hD rfl rfl) rfl rfl hl.1 rfl (lv_room (Nat.le_of_ble_eq_true rfl)) dX4_physical_39 ⟨Nat.le_of_ble_eq_true rfl, Nat.le_of_ble_eq_true rfl⟩) (fun u12 H locs hw hP hD hS => ?_)
        have hP : va_P D vwCl (fk_wm cJ cI cZ am 0 (nI n) lo tn wd sg up dn of bey rnd tx u12.1 u12.2 ++ tl) H := hP
        have hD : va_D A (fk_wm cJ cI cZ am 0 (nI n) lo tn wd sg up dn of bey rnd tx u12.1 u12.2 ++ tl) := hD
        obtain ⟨gr13, kx14a, kx14b⟩ := hw
        have kx14 := fk_kr_1 kx14a kx14b
        have gg16 := fk_G_kr gg9 kx14 (by simp <;> omega)
        have gg17 := fk_G_kr gg10 kx14 (by simp <;> omega)
        have gg18 := fk_G_kr gr6 kx14 (by simp <;> omega)
        have KK19 : fk_kr [0, 1, 2, 3, 4, 12, 13, 20, 22, 23] pt sn u12.1 u12.2 := fk_kr_t KK11 kx14 (fun r hr => by simp at hr ⊢; omega)
        refine lv_aload_n hx hb dX4_physical_42 rfl (lv_at hl 0 rfl) ?_
        have h0a : 0 ≤ fk_abs (fk_v (kf j) v) := by have := fk_abs_cases (fk_v (kf j) v); omega
        have hgc := fk_gc_bd (fk_v (kf j) v) (b := fk_dn (kf j)) (by omega)
        have babs := fk_absT (a := fk_v (kf j) v) (A := 18889465931478580854784) (by omega) (by omega)
        have c12 : fk_rg (((fk_abs (fk_v (kf j) v)).toNat : Nat) : Int) 12 u12.1 := by rw [Int.toNat_of_nonneg h0a]; exact gg18.1
        have c13 : fk_rg (((fk_dn (kf j)).toNat : Nat) : Int) 13 u12.1 := by have q := gr13.1; rw [show fk_abs (fk_dn (kf j)) = fk_dn (kf j) by rw [fk_abs, if_neg (by omega)]] at q; rw [Int.toNat_of_nonneg (by omega)]; exact q
        have cs13 : u12.2 13 = 1 := by rw [gr13.2, fk_cmp, if_neg (by omega), if_neg (by omega)]
        refine fk_cv hD hS hA (va_runV (As := []) (rest := []) ⟨hx, hb, hml, hown, hts⟩ (kX4_common _ am tl 0 (nI n) lo tn wd sg up dn of bey rnd tx u12.1 u12.2 (fk_abs (fk_v (kf j) v)).toNat (fk_dn (kf j)).toNat c12 c13 (by omega) (by omega) cs13) (cwV 0 hts gX4_physical_X4_common rfl rfl rfl (by decide +kernel) ⟨Nat.le_of_ble_eq_true rfl, Nat.le_of_ble_eq_true rfl⟩) (fk_preV 0 5 hK hN hP hD rfl rfl) rfl rfl hl.1 rfl (lv_room (Nat.le_of_ble_eq_true rfl)) dX4_physical_43 ⟨Nat.le_of_ble_eq_true rfl, Nat.le_of_ble_eq_true rfl⟩) (fun u20 H locs hw hP hD hS => ?_)
        have hP : va_P D vwCl (fk_wm cJ cI cZ am 0 (nI n) lo tn wd sg up dn of bey rnd tx u20.1 u20.2 ++ tl) H := hP
        have hD : va_D A (fk_wm cJ cI cZ am 0 (nI n) lo tn wd sg up dn of bey rnd tx u20.1 u20.2 ++ tl) := hD
        obtain ⟨gr21, kx22⟩ := hw
        have gg24 := fk_G_kr gg16 kx22 (by simp <;> omega)
        have gg25 := fk_G_kr gg17 kx22 (by simp <;> omega)
        have KK26 : fk_kr [0, 1, 2, 3, 4, 12, 13, 20, 22, 23] pt sn u20.1 u20.2 := fk_kr_t KK19 kx22 (fun r hr => by simp at hr ⊢; omega)
        rw [fk_gc_eq (fk_v (kf j) v) (by omega)] at gr21
        refine lv_aload_n hx hb dX4_physical_46 rfl (lv_at hl 0 rfl) ?_
        refine lv_iconst (v := 2) hx hb dX4_physical_47 (by decide) ?_
        refine lv_iconst (v := 4) hx hb dX4_physical_48 (by decide) ?_
        refine lv_iconst (v := 0) hx hb dX4_physical_49 (by decide) ?_
        refine lv_bipush (v := 12) hx hb dX4_physical_50 (by decide) ?_
        refine fk_cv hD hS hA (va_runV (As := [.int 2, .int 4, .int 0, .int 12]) (rest := []) ⟨hx, hb, hml, hown, hts⟩ (kX4_divide _ am tl 0 (nI n) lo tn wd sg up dn of bey rnd tx u20.1 u20.2 2 4 0 12 _ _ (by omega) (by omega) (by omega) (by omega) gg24 gr21 (by omega) (by omega)) (cwV 4 hts gX4_physical_X4_divide rfl rfl rfl (by decide +kernel) ⟨Nat.le_of_ble_eq_true rfl, Nat.le_of_ble_eq_true rfl⟩) (fk_preV 0 5 hK hN hP hD rfl rfl) rfl rfl hl.1 rfl (lv_room (Nat.le_of_ble_eq_true rfl)) dX4_physical_52 ⟨Nat.le_of_ble_eq_true rfl, Nat.le_of_ble_eq_true rfl⟩) (fun u27 H locs hw hP hD hS => ?_)
        have hP : va_P D vwCl (fk_wm cJ cI cZ am 0 (nI n) lo tn wd sg up dn of bey rnd tx u27.1 u27.2 ++ tl) H := hP
        have hD : va_D A (fk_wm cJ cI cZ am 0 (nI n) lo tn wd sg up dn of bey rnd tx u27.1 u27.2 ++ tl) := hD
        obtain ⟨gq2, gr2, kd2⟩ := hw
        rw [fk_dq_num (fk_v (kf j) v) (by omega)] at gq2
        have gg29 := fk_G_kr gg24 kd2 (by simp <;> omega)
        have gg30 := fk_G_kr gg25 kd2 (by simp <;> omega)
        have gg31 := fk_G_kr gr21 kd2 (by simp <;> omega)
        have KK32 : fk_kr [0, 1, 2, 3, 4, 12, 13, 20, 22, 23] pt sn u27.1 u27.2 := fk_kr_t KK26 kd2 (fun r hr => by simp at hr ⊢; omega)
        refine lv_aload_n hx hb dX4_physical_55 rfl (lv_at hl 0 rfl) ?_
        refine lv_iconst (v := 3) hx hb dX4_physical_56 (by decide) ?_
        refine lv_iconst (v := 4) hx hb dX4_physical_57 (by decide) ?_
        refine lv_iconst (v := 1) hx hb dX4_physical_58 (by decide) ?_
        refine lv_bipush (v := 12) hx hb dX4_physical_59 (by decide) ?_
        refine fk_cv hD hS hA (va_runV (As := [.int 3, .int 4, .int 1, .int 12]) (rest := []) ⟨hx, hb, hml, hown, hts⟩ (kX4_divide _ am tl 0 (nI n) lo tn wd sg up dn of bey rnd tx u27.1 u27.2 3 4 1 12 _ _ (by omega) (by omega) (by omega) (by omega) gg30 gg31 (by omega) (by rw [fk_abs, if_neg (by omega)]; omega)) (cwV 4 hts gX4_physical_X4_divide rfl rfl rfl (by decide +kernel) ⟨Nat.le_of_ble_eq_true rfl, Nat.le_of_ble_eq_true rfl⟩) (fk_preV 0 5 hK hN hP hD rfl rfl) rfl rfl hl.1 rfl (lv_room (Nat.le_of_ble_eq_true rfl)) dX4_physical_61 ⟨Nat.le_of_ble_eq_true rfl, Nat.le_of_ble_eq_true rfl⟩) (fun u33 H locs hw hP hD hS => ?_)
        have hP : va_P D vwCl (fk_wm cJ cI cZ am 0 (nI n) lo tn wd sg up dn of bey rnd tx u33.1 u33.2 ++ tl) H := hP
        have hD : va_D A (fk_wm cJ cI cZ am 0 (nI n) lo tn wd sg up dn of bey rnd tx u33.1 u33.2 ++ tl) := hD
        obtain ⟨gq3, gr3, kd3⟩ := hw
        rw [fk_dq_den (fk_v (kf j) v) (by omega)] at gq3
        have gg35 := fk_G_kr gg29 kd3 (by simp <;> omega)
        have gg36 := fk_G_kr gg30 kd3 (by simp <;> omega)
        have gg37 := fk_G_kr gg31 kd3 (by simp <;> omega)
        have gg38 := fk_G_kr gq2 kd3 (by simp <;> omega)
        have KK39 : fk_kr [0, 1, 2, 3, 4, 12, 13, 20, 22, 23] pt sn u33.1 u33.2 := fk_kr_t KK32 kd3 (fun r hr => by simp at hr ⊢; omega)
        refine lv_iload hx hb dX4_physical_64 (lv_at hl 3 rfl) ?_
        refine lv_if_ne (tgt := 75) hx hb dX4_physical_66 (by decide) (fun c_66 => ?_) (fun c_66 => ?_)
        · have hs1 : 1 ≤ sd := by rcases Nat.eq_zero_or_pos sd with q | q; (rw [q] at c_66; exact absurd rfl c_66); exact q
          refine lv_aload_n hx hb dX4_physical_75 rfl (lv_at hl 0 rfl) ?_
          refine va_get (D := D) (ci := 5) (v := .ref (am 10)) (C := RX4) (T := TX4) (N := 14) hx hb hts k2 hown hK hP 0 rfl rfl 13 (by decide) k1 (fun _ h9 => h9) rfl dX4_physical_76 ?_
          refine lv_iconst (v := 2) hx hb dX4_physical_79 (by decide) ?_
          refine fk_iald hx hb hK hP 10 2 rfl rfl (i := 2) (by decide) (by decide) dX4_physical_80 ?_
          refine lv_if_ge (tgt := 88) hx hb dX4_physical_81 (by decide) (fun c_81 => ?_) (fun c_81 => ?_)
          · rw [gg38.2, Int32.le_iff_toInt_le, show (0 : Int32).toInt = 0 by decide, fk_cmp_ge] at c_81
            have g2r := gg38.1
            have hNb := fk_num_bd bv_j (b := fk_dn (kf j)) (by omega)
            refine lv_lconst (v := 0) hx hb dX4_physical_88 (by decide) ?_
            refine lv_lstore (lv' := [(5, .long 0), (0, .ref (am 0)), (1, .int (nI (j + 1))), (2, .long v), (4, .int (nI sd))]) hx hb dX4_physical_89 hl (by decide) rfl (fun ls hl => ?_)
            refine lv_lconst (v := 0) hx hb dX4_physical_91 (by decide) ?_
            refine lv_lstore (lv' := [(7, .long 0), (5, .long 0), (0, .ref (am 0)), (1, .int (nI (j + 1))), (2, .long v), (4, .int (nI sd))]) hx hb dX4_physical_92 hl (by decide) rfl (fun ls hl => ?_)
            refine lv_iconst (v := 0) hx hb dX4_physical_94 (by decide) ?_
            refine lv_istore (lv' := [(9, .int 0), (7, .long 0), (5, .long 0), (0, .ref (am 0)), (1, .int (nI (j + 1))), (2, .long v), (4, .int (nI sd))]) hx hb dX4_physical_95 hl (by decide) rfl (fun ls hl => ?_)
            have L97 : ∀ (fu97 : Nat) (jj : Nat) (cy : Int64) (wo : Int64), 2 * sd - jj < fu97 → (jj ≤ 2 * sd) → (0 ≤ cy.toInt ∧ cy.toInt ≤ 1) → (fk_num (fk_v (kf j) v) (fk_dn (kf j)) / 65536 ^ jj = cy.toInt + fk_Z (fk_num (fk_v (kf j) v) (fk_dn (kf j))) jj) → (fk_Wd (fk_num (fk_v (kf j) v) (fk_dn (kf j))) jj wo.toInt) → ∀ (H : Heap) (locs : List Loc) (ls : Array Slot), va_P D vwCl (fk_wm cJ cI cZ am 0 (nI n) lo tn wd sg up dn of bey rnd tx u33.1 u33.2 ++ tl) H → va_D A (fk_wm cJ cI cZ am 0 (nI n) lo tn wd sg up dn of bey rnd tx u33.1 u33.2 ++ tl) → va_S A s.heap H locs → lv_has ls 10 [(0, .ref (am 0)), (1, .int (nI (j + 1))), (2, .long v), (4, .int (nI sd)), (5, .long cy), (7, .long wo), (9, .int (nI jj))] → W p l e rmX4_physical s m args below meth c H locs 0 0 QQ (F0 m 97 ls []) := by
              intro fu97
              induction fu97 with
              | zero => intro jj cy wo hfu; exact absurd hfu (Nat.not_lt_zero _)
              | succ fu97 ih97 =>
                intro jj cy wo hfu97 ij icy iq iw H locs ls hP hD hS hl
                refine lv_iload hx hb dX4_physical_97 (lv_at hl 6 rfl) ?_
                refine lv_iconst (v := 2) hx hb dX4_physical_99 (by decide) ?_
                refine lv_iload hx hb dX4_physical_100 (lv_at hl 3 rfl) ?_
                refine lv_imul hx hb dX4_physical_102 ?_
                refine lv_topi (fun x40 ex40 => ?_)
                have ex40q : x40 = nI (2 * sd) := by
                  rw [ex40]; exact pk_mul 2 sd
                subst ex40q
                refine lv_icmp_ge (tgt := 190) hx hb dX4_physical_103 (by decide) (fun c_103 => ?_) (fun c_103 => ?_)
                · have hje : jj = 2 * sd := by have q := (nI_leI (a := 2 * sd) (b := jj) (by omega) (by omega)).mp c_103; omega
                  subst hje
                  have hwf := iw.2.2 (by omega) (by omega)
                  refine lv_iload hx hb dX4_physical_190 (lv_at hl 3 rfl) ?_
                  refine lv_iconst (v := 3) hx hb dX4_physical_192 (by decide) ?_
                  refine lv_icmp_ne (tgt := 214) hx hb dX4_physical_193 (by decide) (fun c_193 => ?_) (fun c_193 => ?_)
                  · refine lv_lload hx hb dX4_physical_214 (lv_at hl 5 rfl) ?_
                    have hfin : wo.toInt = fk_sPhy n kf (nI (j + 1)) v (nI sd) := by
                      rw [fk_sPhy, if_neg hsd, fk_ix_j hj hn40, fk_ph]
                      have hn3 : sd ≠ 3 := fun q => c_193 (by rw [q]; rfl)
                      rcases (show sd = 1 ∨ sd = 2 by omega) with q | q
                      · subst q
                        rw [if_neg (by decide), if_pos (by decide), hwf, show 2 * 1 - 2 = 0 from rfl, Int.pow_zero, Int.ediv_one]
                      · subst q
                        rw [if_neg (by decide), if_neg (by decide), if_pos (by decide), hwf, show (65536 : Int) ^ (2 * 2 - 2) = 4294967296 by decide]
                    rw [hQQ]
                    exact W.lret (v := wo) hx hb hr (fun t ht hW => ⟨⟨wo, (lo, u33.1, u33.2), rfl, ⟨hfin, rfl⟩, by rw [ht]; exact hP, va_K.moved hW.alike hK, hD⟩, hS.F ht⟩) hS.2.2 dX4_physical_216
                  · refine lv_lload hx hb dX4_physical_196 (lv_at hl 5 rfl) ?_
                    refine lv_ldc2 (v := 2147483647) hx hb hown k3 dX4_physical_198 ?_
                    refine W.lcmp hx hb dX4_physical_201 ?_
                    refine lv_if_le (tgt := 214) hx hb dX4_physical_202 (by decide) (fun c_202 => ?_) (fun c_202 => ?_)
                    · rw [lg_cmp_le] at c_202
                      rw [Int64.le_iff_toInt_le, show (2147483647 : Int64).toInt = 2147483647 by decide] at c_202
                      refine lv_lload hx hb dX4_physical_214 (lv_at hl 5 rfl) ?_
                      have hsd3e : sd = 3 := (nI_eq (a := sd) (b := 3) (by omega) (by omega)).mp c_193
                      subst hsd3e
                      rw [show (65536 : Int) ^ (2 * 3 - 2) = 18446744073709551616 by decide] at hwf
                      have hfin : wo.toInt = fk_sPhy n kf (nI (j + 1)) v (nI 3) := by
                        rw [fk_sPhy, if_neg hsd, fk_ix_j hj hn40, fk_ph, if_neg (by decide), if_neg (by decide), if_neg (by decide)]
                        omega
                      rw [hQQ]
                      exact W.lret (v := wo) hx hb hr (fun t ht hW => ⟨⟨wo, (lo, u33.1, u33.2), rfl, ⟨hfin, rfl⟩, by rw [ht]; exact hP, va_K.moved hW.alike hK, hD⟩, hS.F ht⟩) hS.2.2 dX4_physical_216
                    · rw [lg_cmp_le] at c_202
                      rw [Int64.le_iff_toInt_le, show (2147483647 : Int64).toInt = 2147483647 by decide] at c_202
                      refine lv_lload hx hb dX4_physical_205 (lv_at hl 5 rfl) ?_
                      refine lv_ldc2 (v := 4294967296) hx hb hown k4 dX4_physical_207 ?_
                      refine lv_lsub hx hb dX4_physical_210 ?_
                      refine lv_topl (fun x41 ex41 => ?_)
                      refine lv_goto (tgt := 216) hx hb dX4_physical_211 (by decide) ?_
                      have hsd3e : sd = 3 := (nI_eq (a := sd) (b := 3) (by omega) (by omega)).mp c_193
                      subst hsd3e
                      rw [show (65536 : Int) ^ (2 * 3 - 2) = 18446744073709551616 by decide] at hwf
                      have hfin : x41.toInt = fk_sPhy n kf (nI (j + 1)) v (nI 3) := by
                        have iw1 := iw.1
                        rw [fk_sPhy, if_neg hsd, fk_ix_j hj hn40, fk_ph, if_neg (by decide), if_neg (by decide), if_neg (by decide), ex41, fk_sub (by rw [show (4294967296 : Int64).toInt = 4294967296 by decide]; omega) (by rw [show (4294967296 : Int64).toInt = 4294967296 by decide]; omega), show (4294967296 : Int64).toInt = 4294967296 by decide]
                        omega
                      rw [hQQ]
                      exact W.lret (v := x41) hx hb hr (fun t ht hW => ⟨⟨x41, (lo, u33.1, u33.2), rfl, ⟨hfin, rfl⟩, by rw [ht]; exact hP, va_K.moved hW.alike hK, hD⟩, hS.F ht⟩) hS.2.2 dX4_physical_216
                · have hjl : jj < 2 * sd := by rcases Nat.lt_or_ge jj (2 * sd) with q | q; exact q; exact absurd ((nI_leI (a := 2 * sd) (b := jj) (by omega) (by omega)).mpr q) c_103
                  obtain ⟨st1, st2⟩ := fk_wst iq
                  have hE := fk_E_bd (fk_num (fk_v (kf j) v) (fk_dn (kf j))) jj
                  refine lv_lload hx hb dX4_physical_106 (lv_at hl 4 rfl) ?_
                  refine lv_aload_n hx hb dX4_physical_108 rfl (lv_at hl 0 rfl) ?_
                  refine va_get (D := D) (ci := 5) (v := .ref (am 10)) (C := RX4) (T := TX4) (N := 14) hx hb hts k2 hown hK hP 0 rfl rfl 13 (by decide) k1 (fun _ h9 => h9) rfl dX4_physical_109 ?_
                  refine lv_iconst (v := 2) hx hb dX4_physical_112 (by decide) ?_
                  refine fk_iald hx hb hK hP 10 2 rfl rfl (i := 2) (by decide) (by decide) dX4_physical_113 ?_
                  refine lv_if_ge (tgt := 133) hx hb dX4_physical_114 (by decide) (fun c_114 => ?_) (fun c_114 => False.elim (absurd (by rw [gg38.2, Int32.le_iff_toInt_le, show (0 : Int32).toInt = 0 by decide, fk_cmp_ge]; exact c_81) c_114))
                  refine lv_aload_n hx hb dX4_physical_133 rfl (lv_at hl 0 rfl) ?_
                  refine va_get (D := D) (ci := 5) (v := .ref (am 9)) (C := RX4) (T := TX4) (N := 14) hx hb hts k2 hown hK hP 0 rfl rfl 12 (by decide) k5 (fun _ h9 => h9) rfl dX4_physical_134 ?_
                  refine lv_bipush (v := 32) hx hb dX4_physical_137 (by decide) ?_
                  refine lv_iload hx hb dX4_physical_139 (lv_at hl 6 rfl) ?_
                  refine lv_iadd hx hb dX4_physical_141 ?_
                  refine lv_topi (fun x42 ex42 => ?_)
                  have ex42q : x42 = nI (32 + jj) := by
                    rw [ex42]; exact nI_add 32 jj
                  subst ex42q
                  refine fk_iald hx hb hK hP 9 2 rfl rfl (i := 32 + jj) (by omega) (by decide) dX4_physical_142 ?_
                  have hL : (u33.1 (32 + jj)).toInt = fk_abs (fk_num (fk_v (kf j) v) (fk_dn (kf j))) / 65536 ^ jj % 65536 := fk_rlimb g2r (by omega)
                  have hxE : (u33.1 (32 + jj)).toInt = fk_E (fk_num (fk_v (kf j) v) (fk_dn (kf j))) jj := by rw [hL, fk_E, if_neg c_81]
                  refine lv_i2l hx hb dX4_physical_143 rfl ?_
                  refine lv_topl (fun x43 ex43 => ?_)
                  refine lv_ladd hx hb dX4_physical_144 ?_
                  refine lv_topl (fun x44 ex44 => ?_)
                  have hz : x44.toInt = cy.toInt + fk_E (fk_num (fk_v (kf j) v) (fk_dn (kf j))) jj := by
                    have q : x43.toInt = fk_E (fk_num (fk_v (kf j) v) (fk_dn (kf j))) jj := by rw [ex43, Int32.toInt_toInt64]; exact hxE
                    rw [ex44, fk_add (by omega) (by omega), q]
                  refine lv_lstore (lv' := [(5, .long x44), (0, .ref (am 0)), (1, .int (nI (j + 1))), (2, .long v), (4, .int (nI sd)), (7, .long wo), (9, .int (nI jj))]) hx hb dX4_physical_145 hl (by decide) rfl (fun ls hl => ?_)
                  refine lv_iload hx hb dX4_physical_147 (lv_at hl 6 rfl) ?_
                  refine lv_iconst (v := 2) hx hb dX4_physical_149 (by decide) ?_
                  refine lv_irem hx hb dX4_physical_150 (by decide) ?_
                  refine lv_topi (fun x45 ex45 => ?_)
                  have ex45q : x45 = nI (jj % 2) := by
                    rw [ex45, show (2 : Int32) = nI 2 from rfl, pk_rem (by omega) (by omega) (by omega)]
                  subst ex45q
                  refine lv_if_ne (tgt := 163) hx hb dX4_physical_151 (by decide) (fun c_151 => ?_) (fun c_151 => ?_)
                  · have hpar := fk_par1 c_151
                    refine lv_lload hx hb dX4_physical_163 (lv_at hl 5 rfl) ?_
                    refine lv_lload hx hb dX4_physical_165 (lv_at hl 0 rfl) ?_
                    refine lv_ldc2 (v := 65535) hx hb hown k6 dX4_physical_167 ?_
                    refine lv_land hx hb dX4_physical_170 ?_
                    refine lv_topl (fun x46 ex46 => ?_)
                    refine lv_bipush (v := 16) hx hb dX4_physical_171 (by decide) ?_
                    refine lv_lshl hx hb dX4_physical_173 rfl ?_
                    refine lv_topl (fun x47 ex47 => ?_)
                    refine lv_ladd hx hb dX4_physical_174 ?_
                    refine lv_topl (fun x48 ex48 => ?_)
                    have hm : x46.toInt = fk_num (fk_v (kf j) v) (fk_dn (kf j)) / 65536 ^ jj % 65536 := by rw [ex46, fk_m16, hz, st1]
                    have hh : x47.toInt = x46.toInt * 65536 := by rw [ex47]; exact fk_sh16 (by omega) (by omega)
                    have iw1 := iw.1
                    have hwn : fk_Wd (fk_num (fk_v (kf j) v) (fk_dn (kf j))) (jj + 1) x48.toInt := fk_Wd_o hpar iw hm (by rw [ex48, fk_add (by omega) (by omega), hh])
                    refine lv_lstore (lv' := [(7, .long x48), (5, .long x44), (0, .ref (am 0)), (1, .int (nI (j + 1))), (2, .long v), (4, .int (nI sd)), (9, .int (nI jj))]) hx hb dX4_physical_175 hl (by decide) rfl (fun ls hl => ?_)
                    refine lv_lload hx hb dX4_physical_177 (lv_at hl 1 rfl) ?_
                    refine lv_bipush (v := 16) hx hb dX4_physical_179 (by decide) ?_
                    refine lv_lshr hx hb dX4_physical_181 rfl ?_
                    refine lv_topl (fun x49 ex49 => ?_)
                    have hcn : x49.toInt = (cy.toInt + fk_E (fk_num (fk_v (kf j) v) (fk_dn (kf j))) jj) / 65536 := by rw [ex49, fk_s16, hz]
                    refine lv_lstore (lv' := [(5, .long x49), (7, .long x48), (0, .ref (am 0)), (1, .int (nI (j + 1))), (2, .long v), (4, .int (nI sd)), (9, .int (nI jj))]) hx hb dX4_physical_182 hl (by decide) rfl (fun ls hl => ?_)
                    refine lv_iinc (v := nI (jj + 1)) (lv' := [(9, .int (nI (jj + 1))), (5, .long x49), (7, .long x48), (0, .ref (am 0)), (1, .int (nI (j + 1))), (2, .long v), (4, .int (nI sd))]) hx hb dX4_physical_184 hl (k := 6) rfl (by exact nI_1 jj) (by decide) rfl (fun ls hl => ?_)
                    refine lv_goto (tgt := 97) hx hb dX4_physical_187 (by decide) ?_
                    exact ih97 (jj + 1) x49 x48 (by omega) (by omega) (by omega) (by rw [hcn]; exact st2) hwn _ _ _ hP hD hS (lv_sub hl [3, 4, 5, 6, 1, 2, 0] rfl)
                  · have hpar := fk_par0 c_151
                    refine lv_lload hx hb dX4_physical_154 (lv_at hl 0 rfl) ?_
                    refine lv_ldc2 (v := 65535) hx hb hown k6 dX4_physical_156 ?_
                    refine lv_land hx hb dX4_physical_159 ?_
                    refine lv_topl (fun x50 ex50 => ?_)
                    refine lv_goto (tgt := 175) hx hb dX4_physical_160 (by decide) ?_
                    have hwn : fk_Wd (fk_num (fk_v (kf j) v) (fk_dn (kf j))) (jj + 1) x50.toInt := fk_Wd_e hpar (by rw [ex50, fk_m16, hz, st1])
                    refine lv_lstore (lv' := [(7, .long x50), (5, .long x44), (0, .ref (am 0)), (1, .int (nI (j + 1))), (2, .long v), (4, .int (nI sd)), (9, .int (nI jj))]) hx hb dX4_physical_175 hl (by decide) rfl (fun ls hl => ?_)
                    refine lv_lload hx hb dX4_physical_177 (lv_at hl 1 rfl) ?_
                    refine lv_bipush (v := 16) hx hb dX4_physical_179 (by decide) ?_
                    refine lv_lshr hx hb dX4_physical_181 rfl ?_
                    refine lv_topl (fun x51 ex51 => ?_)
                    have hcn : x51.toInt = (cy.toInt + fk_E (fk_num (fk_v (kf j) v) (fk_dn (kf j))) jj) / 65536 := by rw [ex51, fk_s16, hz]
                    refine lv_lstore (lv' := [(5, .long x51), (7, .long x50), (0, .ref (am 0)), (1, .int (nI (j + 1))), (2, .long v), (4, .int (nI sd)), (9, .int (nI jj))]) hx hb dX4_physical_182 hl (by decide) rfl (fun ls hl => ?_)
                    refine lv_iinc (v := nI (jj + 1)) (lv' := [(9, .int (nI (jj + 1))), (5, .long x51), (7, .long x50), (0, .ref (am 0)), (1, .int (nI (j + 1))), (2, .long v), (4, .int (nI sd))]) hx hb dX4_physical_184 hl (k := 6) rfl (by exact nI_1 jj) (by decide) rfl (fun ls hl => ?_)
                    refine lv_goto (tgt := 97) hx hb dX4_physical_187 (by decide) ?_
                    exact ih97 (jj + 1) x51 x50 (by omega) (by omega) (by omega) (by rw [hcn]; exact st2) hwn _ _ _ hP hD hS (lv_sub hl [3, 4, 5, 6, 1, 2, 0] rfl)
            exact L97 (2 * sd + 1) 0 0 0 (by omega) (by omega) (by decide) (by rw [Int.pow_zero, Int.ediv_one, show (0 : Int64).toInt = 0 by decide]; have q := fk_Z_0 (fk_num (fk_v (kf j) v) (fk_dn (kf j))); rw [if_neg c_81] at q; exact q) ⟨by decide, fun q => absurd q (by decide), fun _ q => absurd rfl q⟩ _ _ _ hP hD hS (lv_sub hl [3, 4, 5, 6, 2, 1, 0] rfl)
          · rw [gg38.2, Int32.le_iff_toInt_le, show (0 : Int32).toInt = 0 by decide, fk_cmp_ge] at c_81
            have c_81 : fk_num (fk_v (kf j) v) (fk_dn (kf j)) < 0 := Classical.not_not.mp c_81
            have g2r := gg38.1
            have hNb := fk_num_bd bv_j (b := fk_dn (kf j)) (by omega)
            refine lv_lconst (v := 1) hx hb dX4_physical_84 (by decide) ?_
            refine lv_goto (tgt := 89) hx hb dX4_physical_85 (by decide) ?_
            refine lv_lstore (lv' := [(5, .long 1), (0, .ref (am 0)), (1, .int (nI (j + 1))), (2, .long v), (4, .int (nI sd))]) hx hb dX4_physical_89 hl (by decide) rfl (fun ls hl => ?_)
            refine lv_lconst (v := 0) hx hb dX4_physical_91 (by decide) ?_
            refine lv_lstore (lv' := [(7, .long 0), (5, .long 1), (0, .ref (am 0)), (1, .int (nI (j + 1))), (2, .long v), (4, .int (nI sd))]) hx hb dX4_physical_92 hl (by decide) rfl (fun ls hl => ?_)
            refine lv_iconst (v := 0) hx hb dX4_physical_94 (by decide) ?_
            refine lv_istore (lv' := [(9, .int 0), (7, .long 0), (5, .long 1), (0, .ref (am 0)), (1, .int (nI (j + 1))), (2, .long v), (4, .int (nI sd))]) hx hb dX4_physical_95 hl (by decide) rfl (fun ls hl => ?_)
            have L97 : ∀ (fu97 : Nat) (jj : Nat) (cy : Int64) (wo : Int64), 2 * sd - jj < fu97 → (jj ≤ 2 * sd) → (0 ≤ cy.toInt ∧ cy.toInt ≤ 1) → (fk_num (fk_v (kf j) v) (fk_dn (kf j)) / 65536 ^ jj = cy.toInt + fk_Z (fk_num (fk_v (kf j) v) (fk_dn (kf j))) jj) → (fk_Wd (fk_num (fk_v (kf j) v) (fk_dn (kf j))) jj wo.toInt) → ∀ (H : Heap) (locs : List Loc) (ls : Array Slot), va_P D vwCl (fk_wm cJ cI cZ am 0 (nI n) lo tn wd sg up dn of bey rnd tx u33.1 u33.2 ++ tl) H → va_D A (fk_wm cJ cI cZ am 0 (nI n) lo tn wd sg up dn of bey rnd tx u33.1 u33.2 ++ tl) → va_S A s.heap H locs → lv_has ls 10 [(0, .ref (am 0)), (1, .int (nI (j + 1))), (2, .long v), (4, .int (nI sd)), (5, .long cy), (7, .long wo), (9, .int (nI jj))] → W p l e rmX4_physical s m args below meth c H locs 0 0 QQ (F0 m 97 ls []) := by
              intro fu97
              induction fu97 with
              | zero => intro jj cy wo hfu; exact absurd hfu (Nat.not_lt_zero _)
              | succ fu97 ih97 =>
                intro jj cy wo hfu97 ij icy iq iw H locs ls hP hD hS hl
                refine lv_iload hx hb dX4_physical_97 (lv_at hl 6 rfl) ?_
                refine lv_iconst (v := 2) hx hb dX4_physical_99 (by decide) ?_
                refine lv_iload hx hb dX4_physical_100 (lv_at hl 3 rfl) ?_
                refine lv_imul hx hb dX4_physical_102 ?_
                refine lv_topi (fun x52 ex52 => ?_)
                have ex52q : x52 = nI (2 * sd) := by
                  rw [ex52]; exact pk_mul 2 sd
                subst ex52q
                refine lv_icmp_ge (tgt := 190) hx hb dX4_physical_103 (by decide) (fun c_103 => ?_) (fun c_103 => ?_)
                · have hje : jj = 2 * sd := by have q := (nI_leI (a := 2 * sd) (b := jj) (by omega) (by omega)).mp c_103; omega
                  subst hje
                  have hwf := iw.2.2 (by omega) (by omega)
                  refine lv_iload hx hb dX4_physical_190 (lv_at hl 3 rfl) ?_
                  refine lv_iconst (v := 3) hx hb dX4_physical_192 (by decide) ?_
                  refine lv_icmp_ne (tgt := 214) hx hb dX4_physical_193 (by decide) (fun c_193 => ?_) (fun c_193 => ?_)
                  · refine lv_lload hx hb dX4_physical_214 (lv_at hl 5 rfl) ?_
                    have hfin : wo.toInt = fk_sPhy n kf (nI (j + 1)) v (nI sd) := by
                      rw [fk_sPhy, if_neg hsd, fk_ix_j hj hn40, fk_ph]
                      have hn3 : sd ≠ 3 := fun q => c_193 (by rw [q]; rfl)
                      rcases (show sd = 1 ∨ sd = 2 by omega) with q | q
                      · subst q
                        rw [if_neg (by decide), if_pos (by decide), hwf, show 2 * 1 - 2 = 0 from rfl, Int.pow_zero, Int.ediv_one]
                      · subst q
                        rw [if_neg (by decide), if_neg (by decide), if_pos (by decide), hwf, show (65536 : Int) ^ (2 * 2 - 2) = 4294967296 by decide]
                    rw [hQQ]
                    exact W.lret (v := wo) hx hb hr (fun t ht hW => ⟨⟨wo, (lo, u33.1, u33.2), rfl, ⟨hfin, rfl⟩, by rw [ht]; exact hP, va_K.moved hW.alike hK, hD⟩, hS.F ht⟩) hS.2.2 dX4_physical_216
                  · refine lv_lload hx hb dX4_physical_196 (lv_at hl 5 rfl) ?_
                    refine lv_ldc2 (v := 2147483647) hx hb hown k3 dX4_physical_198 ?_
                    refine W.lcmp hx hb dX4_physical_201 ?_
                    refine lv_if_le (tgt := 214) hx hb dX4_physical_202 (by decide) (fun c_202 => ?_) (fun c_202 => ?_)
                    · rw [lg_cmp_le] at c_202
                      rw [Int64.le_iff_toInt_le, show (2147483647 : Int64).toInt = 2147483647 by decide] at c_202
                      refine lv_lload hx hb dX4_physical_214 (lv_at hl 5 rfl) ?_
                      have hsd3e : sd = 3 := (nI_eq (a := sd) (b := 3) (by omega) (by omega)).mp c_193
                      subst hsd3e
                      rw [show (65536 : Int) ^ (2 * 3 - 2) = 18446744073709551616 by decide] at hwf
                      have hfin : wo.toInt = fk_sPhy n kf (nI (j + 1)) v (nI 3) := by
                        rw [fk_sPhy, if_neg hsd, fk_ix_j hj hn40, fk_ph, if_neg (by decide), if_neg (by decide), if_neg (by decide)]
                        omega
                      rw [hQQ]
                      exact W.lret (v := wo) hx hb hr (fun t ht hW => ⟨⟨wo, (lo, u33.1, u33.2), rfl, ⟨hfin, rfl⟩, by rw [ht]; exact hP, va_K.moved hW.alike hK, hD⟩, hS.F ht⟩) hS.2.2 dX4_physical_216
                    · rw [lg_cmp_le] at c_202
                      rw [Int64.le_iff_toInt_le, show (2147483647 : Int64).toInt = 2147483647 by decide] at c_202
                      refine lv_lload hx hb dX4_physical_205 (lv_at hl 5 rfl) ?_
                      refine lv_ldc2 (v := 4294967296) hx hb hown k4 dX4_physical_207 ?_
                      refine lv_lsub hx hb dX4_physical_210 ?_
                      refine lv_topl (fun x53 ex53 => ?_)
                      refine lv_goto (tgt := 216) hx hb dX4_physical_211 (by decide) ?_
                      have hsd3e : sd = 3 := (nI_eq (a := sd) (b := 3) (by omega) (by omega)).mp c_193
                      subst hsd3e
                      rw [show (65536 : Int) ^ (2 * 3 - 2) = 18446744073709551616 by decide] at hwf
                      have hfin : x53.toInt = fk_sPhy n kf (nI (j + 1)) v (nI 3) := by
                        have iw1 := iw.1
                        rw [fk_sPhy, if_neg hsd, fk_ix_j hj hn40, fk_ph, if_neg (by decide), if_neg (by decide), if_neg (by decide), ex53, fk_sub (by rw [show (4294967296 : Int64).toInt = 4294967296 by decide]; omega) (by rw [show (4294967296 : Int64).toInt = 4294967296 by decide]; omega), show (4294967296 : Int64).toInt = 4294967296 by decide]
                        omega
                      rw [hQQ]
                      exact W.lret (v := x53) hx hb hr (fun t ht hW => ⟨⟨x53, (lo, u33.1, u33.2), rfl, ⟨hfin, rfl⟩, by rw [ht]; exact hP, va_K.moved hW.alike hK, hD⟩, hS.F ht⟩) hS.2.2 dX4_physical_216
                · have hjl : jj < 2 * sd := by rcases Nat.lt_or_ge jj (2 * sd) with q | q; exact q; exact absurd ((nI_leI (a := 2 * sd) (b := jj) (by omega) (by omega)).mpr q) c_103
                  obtain ⟨st1, st2⟩ := fk_wst iq
                  have hE := fk_E_bd (fk_num (fk_v (kf j) v) (fk_dn (kf j))) jj
                  refine lv_lload hx hb dX4_physical_106 (lv_at hl 4 rfl) ?_
                  refine lv_aload_n hx hb dX4_physical_108 rfl (lv_at hl 0 rfl) ?_
                  refine va_get (D := D) (ci := 5) (v := .ref (am 10)) (C := RX4) (T := TX4) (N := 14) hx hb hts k2 hown hK hP 0 rfl rfl 13 (by decide) k1 (fun _ h9 => h9) rfl dX4_physical_109 ?_
                  refine lv_iconst (v := 2) hx hb dX4_physical_112 (by decide) ?_
                  refine fk_iald hx hb hK hP 10 2 rfl rfl (i := 2) (by decide) (by decide) dX4_physical_113 ?_
                  refine lv_if_ge (tgt := 133) hx hb dX4_physical_114 (by decide) (fun c_114 => False.elim (absurd c_81 ((fk_cmp_ge _).mp (by have q := c_114; rw [gg38.2, Int32.le_iff_toInt_le, show (0 : Int32).toInt = 0 by decide] at q; exact q)))) (fun c_114 => ?_)
                  refine lv_ldc (v := 65535) hx hb hown k7 dX4_physical_117 ?_
                  refine lv_aload_n hx hb dX4_physical_119 rfl (lv_at hl 0 rfl) ?_
                  refine va_get (D := D) (ci := 5) (v := .ref (am 9)) (C := RX4) (T := TX4) (N := 14) hx hb hts k2 hown hK hP 0 rfl rfl 12 (by decide) k5 (fun _ h9 => h9) rfl dX4_physical_120 ?_
                  refine lv_bipush (v := 32) hx hb dX4_physical_123 (by decide) ?_
                  refine lv_iload hx hb dX4_physical_125 (lv_at hl 6 rfl) ?_
                  refine lv_iadd hx hb dX4_physical_127 ?_
                  refine lv_topi (fun x54 ex54 => ?_)
                  have ex54q : x54 = nI (32 + jj) := by
                    rw [ex54]; exact nI_add 32 jj
                  subst ex54q
                  refine fk_iald hx hb hK hP 9 2 rfl rfl (i := 32 + jj) (by omega) (by decide) dX4_physical_128 ?_
                  have hL : (u33.1 (32 + jj)).toInt = fk_abs (fk_num (fk_v (kf j) v) (fk_dn (kf j))) / 65536 ^ jj % 65536 := fk_rlimb g2r (by omega)
                  refine lv_isub hx hb dX4_physical_129 ?_
                  refine lv_topi (fun x55 ex55 => ?_)
                  refine lv_goto (tgt := 143) hx hb dX4_physical_130 (by decide) ?_
                  have hxE : x55.toInt = fk_E (fk_num (fk_v (kf j) v) (fk_dn (kf j))) jj := by rw [ex55, fi_sub (by rw [hL]; rw [show (65535 : Int32).toInt = 65535 by decide]; omega) (by rw [hL]; rw [show (65535 : Int32).toInt = 65535 by decide]; omega), hL, fk_E, if_pos c_81]; rfl
                  refine lv_i2l hx hb dX4_physical_143 rfl ?_
                  refine lv_topl (fun x56 ex56 => ?_)
                  refine lv_ladd hx hb dX4_physical_144 ?_
                  refine lv_topl (fun x57 ex57 => ?_)
                  have hz : x57.toInt = cy.toInt + fk_E (fk_num (fk_v (kf j) v) (fk_dn (kf j))) jj := by
                    have q : x56.toInt = fk_E (fk_num (fk_v (kf j) v) (fk_dn (kf j))) jj := by rw [ex56, Int32.toInt_toInt64]; exact hxE
                    rw [ex57, fk_add (by omega) (by omega), q]
                  refine lv_lstore (lv' := [(5, .long x57), (0, .ref (am 0)), (1, .int (nI (j + 1))), (2, .long v), (4, .int (nI sd)), (7, .long wo), (9, .int (nI jj))]) hx hb dX4_physical_145 hl (by decide) rfl (fun ls hl => ?_)
                  refine lv_iload hx hb dX4_physical_147 (lv_at hl 6 rfl) ?_
                  refine lv_iconst (v := 2) hx hb dX4_physical_149 (by decide) ?_
                  refine lv_irem hx hb dX4_physical_150 (by decide) ?_
                  refine lv_topi (fun x58 ex58 => ?_)
                  have ex58q : x58 = nI (jj % 2) := by
                    rw [ex58, show (2 : Int32) = nI 2 from rfl, pk_rem (by omega) (by omega) (by omega)]
                  subst ex58q
                  refine lv_if_ne (tgt := 163) hx hb dX4_physical_151 (by decide) (fun c_151 => ?_) (fun c_151 => ?_)
                  · have hpar := fk_par1 c_151
                    refine lv_lload hx hb dX4_physical_163 (lv_at hl 5 rfl) ?_
                    refine lv_lload hx hb dX4_physical_165 (lv_at hl 0 rfl) ?_
                    refine lv_ldc2 (v := 65535) hx hb hown k6 dX4_physical_167 ?_
                    refine lv_land hx hb dX4_physical_170 ?_
                    refine lv_topl (fun x59 ex59 => ?_)
                    refine lv_bipush (v := 16) hx hb dX4_physical_171 (by decide) ?_
                    refine lv_lshl hx hb dX4_physical_173 rfl ?_
                    refine lv_topl (fun x60 ex60 => ?_)
                    refine lv_ladd hx hb dX4_physical_174 ?_
                    refine lv_topl (fun x61 ex61 => ?_)
                    have hm : x59.toInt = fk_num (fk_v (kf j) v) (fk_dn (kf j)) / 65536 ^ jj % 65536 := by rw [ex59, fk_m16, hz, st1]
                    have hh : x60.toInt = x59.toInt * 65536 := by rw [ex60]; exact fk_sh16 (by omega) (by omega)
                    have iw1 := iw.1
                    have hwn : fk_Wd (fk_num (fk_v (kf j) v) (fk_dn (kf j))) (jj + 1) x61.toInt := fk_Wd_o hpar iw hm (by rw [ex61, fk_add (by omega) (by omega), hh])
                    refine lv_lstore (lv' := [(7, .long x61), (5, .long x57), (0, .ref (am 0)), (1, .int (nI (j + 1))), (2, .long v), (4, .int (nI sd)), (9, .int (nI jj))]) hx hb dX4_physical_175 hl (by decide) rfl (fun ls hl => ?_)
                    refine lv_lload hx hb dX4_physical_177 (lv_at hl 1 rfl) ?_
                    refine lv_bipush (v := 16) hx hb dX4_physical_179 (by decide) ?_
                    refine lv_lshr hx hb dX4_physical_181 rfl ?_
                    refine lv_topl (fun x62 ex62 => ?_)
                    have hcn : x62.toInt = (cy.toInt + fk_E (fk_num (fk_v (kf j) v) (fk_dn (kf j))) jj) / 65536 := by rw [ex62, fk_s16, hz]
                    refine lv_lstore (lv' := [(5, .long x62), (7, .long x61), (0, .ref (am 0)), (1, .int (nI (j + 1))), (2, .long v), (4, .int (nI sd)), (9, .int (nI jj))]) hx hb dX4_physical_182 hl (by decide) rfl (fun ls hl => ?_)
                    refine lv_iinc (v := nI (jj + 1)) (lv' := [(9, .int (nI (jj + 1))), (5, .long x62), (7, .long x61), (0, .ref (am 0)), (1, .int (nI (j + 1))), (2, .long v), (4, .int (nI sd))]) hx hb dX4_physical_184 hl (k := 6) rfl (by exact nI_1 jj) (by decide) rfl (fun ls hl => ?_)
                    refine lv_goto (tgt := 97) hx hb dX4_physical_187 (by decide) ?_
                    exact ih97 (jj + 1) x62 x61 (by omega) (by omega) (by omega) (by rw [hcn]; exact st2) hwn _ _ _ hP hD hS (lv_sub hl [3, 4, 5, 6, 1, 2, 0] rfl)
                  · have hpar := fk_par0 c_151
                    refine lv_lload hx hb dX4_physical_154 (lv_at hl 0 rfl) ?_
                    refine lv_ldc2 (v := 65535) hx hb hown k6 dX4_physical_156 ?_
                    refine lv_land hx hb dX4_physical_159 ?_
                    refine lv_topl (fun x63 ex63 => ?_)
                    refine lv_goto (tgt := 175) hx hb dX4_physical_160 (by decide) ?_
                    have hwn : fk_Wd (fk_num (fk_v (kf j) v) (fk_dn (kf j))) (jj + 1) x63.toInt := fk_Wd_e hpar (by rw [ex63, fk_m16, hz, st1])
                    refine lv_lstore (lv' := [(7, .long x63), (5, .long x57), (0, .ref (am 0)), (1, .int (nI (j + 1))), (2, .long v), (4, .int (nI sd)), (9, .int (nI jj))]) hx hb dX4_physical_175 hl (by decide) rfl (fun ls hl => ?_)
                    refine lv_lload hx hb dX4_physical_177 (lv_at hl 1 rfl) ?_
                    refine lv_bipush (v := 16) hx hb dX4_physical_179 (by decide) ?_
                    refine lv_lshr hx hb dX4_physical_181 rfl ?_
                    refine lv_topl (fun x64 ex64 => ?_)
                    have hcn : x64.toInt = (cy.toInt + fk_E (fk_num (fk_v (kf j) v) (fk_dn (kf j))) jj) / 65536 := by rw [ex64, fk_s16, hz]
                    refine lv_lstore (lv' := [(5, .long x64), (7, .long x63), (0, .ref (am 0)), (1, .int (nI (j + 1))), (2, .long v), (4, .int (nI sd)), (9, .int (nI jj))]) hx hb dX4_physical_182 hl (by decide) rfl (fun ls hl => ?_)
                    refine lv_iinc (v := nI (jj + 1)) (lv' := [(9, .int (nI (jj + 1))), (5, .long x64), (7, .long x63), (0, .ref (am 0)), (1, .int (nI (j + 1))), (2, .long v), (4, .int (nI sd))]) hx hb dX4_physical_184 hl (k := 6) rfl (by exact nI_1 jj) (by decide) rfl (fun ls hl => ?_)
                    refine lv_goto (tgt := 97) hx hb dX4_physical_187 (by decide) ?_
                    exact ih97 (jj + 1) x64 x63 (by omega) (by omega) (by omega) (by rw [hcn]; exact st2) hwn _ _ _ hP hD hS (lv_sub hl [3, 4, 5, 6, 1, 2, 0] rfl)
            exact L97 (2 * sd + 1) 0 1 0 (by omega) (by omega) (by decide) (by rw [Int.pow_zero, Int.ediv_one, show (1 : Int64).toInt = 1 by decide]; have q := fk_Z_0 (fk_num (fk_v (kf j) v) (fk_dn (kf j))); rw [if_pos c_81] at q; exact q) ⟨by decide, fun q => absurd q (by decide), fun _ q => absurd rfl q⟩ _ _ _ hP hD hS (lv_sub hl [3, 4, 5, 6, 2, 1, 0] rfl)
        · have hs0 : nI sd = 0 := c_66
          refine lv_aload_n hx hb dX4_physical_69 rfl (lv_at hl 0 rfl) ?_
          refine lv_iconst (v := 3) hx hb dX4_physical_70 (by decide) ?_
          refine fk_cl hD hS hA (va_runV (As := [.int 3]) (rest := []) ⟨hx, hb, hml, hown, hts⟩ (kX4_low _ am tl 0 (nI n) lo tn wd sg up dn of bey rnd tx u33.1 u33.2 3 _ (by omega) gq3) (cwV 1 hts gX4_physical_X4_low rfl rfl rfl (by decide +kernel) ⟨Nat.le_of_ble_eq_true rfl, Nat.le_of_ble_eq_true rfl⟩) (fk_preV 0 5 hK hN hP hD rfl rfl) rfl rfl hl.1 rfl (lv_room (Nat.le_of_ble_eq_true rfl)) dX4_physical_71 ⟨Nat.le_of_ble_eq_true rfl, Nat.le_of_ble_eq_true rfl⟩) (fun r65 u H locs hw hP hD hS => ?_)
          have hP : va_P D vwCl (fk_wm cJ cI cZ am 0 (nI n) lo tn wd sg up dn of bey rnd tx u33.1 u33.2 ++ tl) H := hP
          have hD : va_D A (fk_wm cJ cI cZ am 0 (nI n) lo tn wd sg up dn of bey rnd tx u33.1 u33.2 ++ tl) := hD
          have hlow := hw
          rw [hQQ]
          exact W.lret (v := r65) hx hb hr (fun t ht hW => ⟨⟨r65, (lo, u33.1, u33.2), rfl, ⟨(by rw [fk_sPhy, if_neg hsd, fk_ix_j hj hn40, fk_ph, if_pos hs0, hlow]; exact Int64.toInt_ofInt_of_le (by have := Int.ediv_nonneg (show 0 ≤ fk_dn (kf j) by omega) (show 0 ≤ fk_gc (fk_v (kf j) v) (fk_dn (kf j)) by omega); omega) (by have := Int.ediv_le_self (fk_gc (fk_v (kf j) v) (fk_dn (kf j))) (show 0 ≤ fk_dn (kf j) by omega); omega)), rfl⟩, by rw [ht]; exact hP, va_K.moved hW.alike hK, hD⟩, hS.F ht⟩) hS.2.2 dX4_physical_74
      · rw [Int32.le_iff_toInt_le, show (3 : Int32).toInt = 3 by decide] at c_16
        refine lv_lconst (v := 0) hx hb dX4_physical_19 (by decide) ?_
        rw [hQQ]
        exact W.lret (v := 0) hx hb hr (fun t ht hW => ⟨⟨0, (lo, pt, sn), rfl, ⟨(by rw [fk_sPhy, if_pos (Or.inr (Or.inr (by omega)))]; decide), rfl⟩, by rw [ht]; exact hP, va_K.moved hW.alike hK, hD⟩, hS.F ht⟩) hS.2.2 dX4_physical_20
