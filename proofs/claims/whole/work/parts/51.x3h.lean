/-! FixedKinds: writeWholePart, text, by program -/
abbrev rmX3_writeWholePart : Room := { frames := 2, cells := 0, slots := 0, locals := 43 }
set_option maxHeartbeats 4000000 in
set_option maxRecDepth 100000 in
/-- writeWholePart -/
theorem kX3_writeWholePart {l : Launch} {D : va_G} {cJ cC cI cZ cK : ClassId} (sz : Nat) (ad : Nat → Nat) (tl : va_W) (kd : Nat → Option Nat) (kc lo : Int32) (ch : Nat → Int32) (f1 f2 f3 f4 f5 : Nat → Int64) (t0 : Nat) (L0 : List Int32) (M0 : Int) (hRm : fk_R M0 f1) (hm : 0 ≤ M0 ∧ M0 < 1000000000000000000000000) (hT : fk_Tx L0 ch t0) (hL0 : L0.length ≤ 10) : Met l yX3_writeWholePart wsX3_writeWholePart rmX3_writeWholePart (va_Pc [.ref (ad 0), .ref (ad 4)] (fk_pre D (fk_ty cJ cC cI cZ cK) (fk_wx cJ cC cK ad kd kc lo ch (nI t0) f1 f2 f3 f4 f5 ++ tl) sz)) (va_Qv (fun u : (Nat → Int32) × (Nat → Int64) => fk_Tx (fk_wl 39 (M0 / 10) (L0 ++ [fk_dc M0])) u.1 (40 - (fk_wl 39 (M0 / 10) (L0 ++ [fk_dc M0])).length)) (fk_Bd D (fk_ty cJ cC cI cZ cK) (va_A (fk_wx cJ cC cK ad kd kc lo ch (nI t0) f1 f2 f3 f4 f5 ++ tl) sz) (fun u : (Nat → Int32) × (Nat → Int64) => fk_wx cJ cC cK ad kd kc lo u.1 (nI (40 - (fk_wl 39 (M0 / 10) (L0 ++ [fk_dc M0])).length)) u.2 f2 f3 f4 f5 ++ tl)) (va_A (fk_wx cJ cC cK ad kd kc lo ch (nI t0) f1 f2 f3 f4 f5 ++ tl) sz)) 0 0 (va_A (fk_wx cJ cC cK ad kd kc lo ch (nI t0) f1 f2 f3 f4 f5 ++ tl) sz) := by
  refine fk_ofW cX3_writeWholePart 3 none (fun A => va_Qv (fun u : (Nat → Int32) × (Nat → Int64) => fk_Tx (fk_wl 39 (M0 / 10) (L0 ++ [fk_dc M0])) u.1 (40 - (fk_wl 39 (M0 / 10) (L0 ++ [fk_dc M0])).length)) (fk_Bd D (fk_ty cJ cC cI cZ cK) A (fun u : (Nat → Int32) × (Nat → Int64) => fk_wx cJ cC cK ad kd kc lo u.1 (nI (40 - (fk_wl 39 (M0 / 10) (L0 ++ [fk_dc M0])).length)) u.2 f2 f3 f4 f5 ++ tl)) A) rfl (by decide) (Nat.le_of_ble_eq_true rfl) ?_
  intro p e s m below meth c A ls args QQ hQQ hAt hP hK hN hD hA hS hl
  obtain ⟨⟨hx, hb, hml, hown, hts⟩, hr, hlocks, hin⟩ := hAt
  have hl : lv_has ls 3 [(0, .ref (ad 0)), (1, .ref (ad 4))] := hl
  have k1 := hts (.constantLong RX3 198 10) (by decide +kernel)
  have k2 := hN _ fkn_X3_200
  have k3 := hts (.initialized RX2) (by decide +kernel)
  have k4 := hts (.instanceMethod yX2_shorten) (by decide +kernel)
  have k5 := hts (.selects RX2 yX2_shorten yX2_shorten) (by decide +kernel)
  have k6 := hN _ fkn_X3_122
  have k7 := hts (.instanceMethod yX2_isZero) (by decide +kernel)
  have k8 := hts (.selects RX2 yX2_isZero yX2_isZero) (by decide +kernel)
  refine lv_aload_n hx hb dX3_writeWholePart_0 rfl (lv_at hl 0 rfl) ?_
  refine lv_aload_n hx hb dX3_writeWholePart_1 rfl (lv_at hl 1 rfl) ?_
  refine lv_ldc2 (v := 10) hx hb hown k1 dX3_writeWholePart_2 ?_
  refine fk_cl hD hS hA (va_runVN (As := [.long 10]) (rest := [.ref (ad 0)]) ⟨hx, hb, hml, hown, hts⟩ (kX2_shorten _ _ (ad 4) (ad 5) 4 5 f1 10 (M0) rfl rfl hRm ⟨by omega, by omega⟩ hm.1 (by decide)) ⟨va_cnB 1 hts gX3_writeWholePart_X2_shorten_n200 rfl rfl rfl k2 k3 (by decide +kernel) ⟨Nat.le_of_ble_eq_true rfl, Nat.le_of_ble_eq_true rfl⟩, k4, k5⟩ (fk_preV 4 3 hK hN hP hD rfl rfl) rfl rfl hl.1 rfl (lv_room (Nat.le_of_ble_eq_true rfl)) dX3_writeWholePart_5 ⟨Nat.le_of_ble_eq_true rfl, Nat.le_of_ble_eq_true rfl⟩) (fun r2 g1 H locs hw hP hD hS => ?_)
  have hP : va_P D vwCl (fk_wx cJ cC cK ad kd kc lo ch (nI t0) g1 f2 f3 f4 f5 ++ tl) H := hP
  have hD : va_D A (fk_wx cJ cC cK ad kd kc lo ch (nI t0) g1 f2 f3 f4 f5 ++ tl) := hD
  obtain ⟨hqg1, hRg1⟩ := hw
  rw [show (10 : Int64).toInt = 10 by decide] at hqg1 hRg1
  refine fk_cv hD hS hA (va_runV (As := [.long r2]) (rest := []) ⟨hx, hb, hml, hown, hts⟩ (kX3_writeDigit _ ad tl kd kc lo ch g1 f2 f3 f4 f5 t0 L0 r2 M0 hT (by have := hT.1; omega) hqg1) (cwV 1 hts gX3_writeWholePart_X3_writeDigit rfl rfl rfl (by decide +kernel) ⟨Nat.le_of_ble_eq_true rfl, Nat.le_of_ble_eq_true rfl⟩) (fk_preV 0 4 hK hN hP hD rfl rfl) rfl rfl hl.1 rfl (lv_room (Nat.le_of_ble_eq_true rfl)) dX3_writeWholePart_8 ⟨Nat.le_of_ble_eq_true rfl, Nat.le_of_ble_eq_true rfl⟩) (fun ch3 H locs hw hP hD hS => ?_)
  have hP : va_P D vwCl (fk_wx cJ cC cK ad kd kc lo ch3 (nI (t0 - 1)) g1 f2 f3 f4 f5 ++ tl) H := hP
  have hD : va_D A (fk_wx cJ cC cK ad kd kc lo ch3 (nI (t0 - 1)) g1 f2 f3 f4 f5 ++ tl) := hD
  have hT1 := hw
  have hlen : (L0 ++ [fk_dc M0]).length = L0.length + 1 := by simp
  refine lv_iconst (v := 1) hx hb dX3_writeWholePart_11 (by decide) ?_
  refine lv_istore_n (lv' := [(2, .int 1), (0, .ref (ad 0)), (1, .ref (ad 4))]) hx hb dX3_writeWholePart_12 rfl hl (by decide) rfl (fun ls hl => ?_)
  have L13 : ∀ (fu13 : Nat) (i : Nat) (mm : Int) (g : Nat → Int64) (L : List Int32) (chv : Nat → Int32) (t2 : Nat) (cc : Nat), 40 - i < fu13 → (1 ≤ i ∧ i ≤ 40) → (fk_R mm g) → (0 ≤ mm ∧ mm < 1000000000000000000000000000000) → (mm < 10 ^ cc) → (fk_Tx L chv t2) → (L.length + cc ≤ 38) → (fk_wl (40 - i) mm L = fk_wl 39 (M0 / 10) (L0 ++ [fk_dc M0])) → ∀ (H : Heap) (locs : List Loc) (ls : Array Slot), va_P D vwCl (fk_wx cJ cC cK ad kd kc lo chv (nI t2) g f2 f3 f4 f5 ++ tl) H → va_D A (fk_wx cJ cC cK ad kd kc lo chv (nI t2) g f2 f3 f4 f5 ++ tl) → va_S A s.heap H locs → lv_has ls 3 [(0, .ref (ad 0)), (1, .ref (ad 4)), (2, .int (nI i))] → W p l e rmX3_writeWholePart s m args below meth c H locs 0 0 QQ (F0 m 13 ls []) := by
    intro fu13
    induction fu13 with
    | zero => intro i mm g L chv t2 cc hfu; exact absurd hfu (Nat.not_lt_zero _)
    | succ fu13 ih13 =>
      intro i mm g L chv t2 cc hfu13 hi hRm hm0 hmc hT2 hLl hwl H locs ls hP hD hS hl
      refine lv_iload_n hx hb dX3_writeWholePart_13 rfl (lv_at hl 2 rfl) ?_
      refine lv_bipush (v := 40) hx hb dX3_writeWholePart_14 (by decide) ?_
      refine lv_icmp_ge (tgt := 43) hx hb dX3_writeWholePart_16 (by decide) (fun c_16 => ?_) (fun c_16 => ?_)
      · have hi40 : i = 40 := by have q := (nI_leI (a := 40) (b := i) (by omega) (by omega)).mp c_16; omega
        subst hi40
        have hwl : L = fk_wl 39 (M0 / 10) (L0 ++ [fk_dc M0]) := hwl
        have ht3 : t2 = 40 - (fk_wl 39 (M0 / 10) (L0 ++ [fk_dc M0])).length := by rw [← hwl]; have := hT2.1; omega
        rw [ht3] at hP hD hT2
        rw [hQQ]
        exact W.vret hx hb hr (fun t ht hW => ⟨⟨(chv, g), rfl, (by show fk_Tx (fk_wl 39 (M0 / 10) (L0 ++ [fk_dc M0])) _ _; have z := hT2; rw [hwl] at z; exact z), by rw [ht]; exact hP, va_K.moved hW.alike hK, hD⟩, hS.F ht⟩) hS.2.2 dX3_writeWholePart_43
      · have hi40 : i < 40 := by rcases Nat.lt_or_ge i 40 with q | q; exact q; exact absurd ((nI_leI (a := 40) (b := i) (by omega) (by omega)).mpr q) c_16
        refine lv_aload_n hx hb dX3_writeWholePart_19 rfl (lv_at hl 1 rfl) ?_
        refine fk_ci hD hS hA (va_runVN (As := []) (rest := []) ⟨hx, hb, hml, hown, hts⟩ (kX2_isZero _ _ (ad 4) (ad 5) 4 5 g (mm) rfl rfl hRm ⟨by omega, by omega⟩) ⟨va_cnB 0 hts gX3_writeWholePart_X2_isZero_n122 rfl rfl rfl k6 k3 (by decide +kernel) ⟨Nat.le_of_ble_eq_true rfl, Nat.le_of_ble_eq_true rfl⟩, k7, k8⟩ (fk_preV 4 3 hK hN hP hD rfl rfl) rfl rfl hl.1 rfl (lv_room (Nat.le_of_ble_eq_true rfl)) dX3_writeWholePart_20 ⟨Nat.le_of_ble_eq_true rfl, Nat.le_of_ble_eq_true rfl⟩) (fun r5 u H locs hw hP hD hS => ?_)
        have hP : va_P D vwCl (fk_wx cJ cC cK ad kd kc lo chv (nI t2) g f2 f3 f4 f5 ++ tl) H := hP
        have hD : va_D A (fk_wx cJ cC cK ad kd kc lo chv (nI t2) g f2 f3 f4 f5 ++ tl) := hD
        have z := hw
        refine lv_if_ne (tgt := 43) hx hb dX3_writeWholePart_23 (by decide) (fun c_23 => ?_) (fun c_23 => ?_)
        · have p_c_23 : mm = 0 := by by_cases q : mm = 0; exact q; rw [z, if_neg q] at c_23; exact absurd rfl c_23
          rw [p_c_23, fk_wl_0] at hwl
          have ht3 : t2 = 40 - (fk_wl 39 (M0 / 10) (L0 ++ [fk_dc M0])).length := by rw [← hwl]; have := hT2.1; omega
          rw [ht3] at hP hD hT2
          rw [hQQ]
          exact W.vret hx hb hr (fun t ht hW => ⟨⟨(chv, g), rfl, (by show fk_Tx (fk_wl 39 (M0 / 10) (L0 ++ [fk_dc M0])) _ _; have z := hT2; rw [hwl] at z; exact z), by rw [ht]; exact hP, va_K.moved hW.alike hK, hD⟩, hS.F ht⟩) hS.2.2 dX3_writeWholePart_43
        · have p_c_23 : ¬ (mm = 0) := by intro q; rw [z, if_pos q] at c_23; exact absurd c_23 (by decide)
          obtain ⟨k, hk⟩ : ∃ k, cc = k + 1 := by
            rcases Nat.eq_zero_or_pos cc with q | q
            · rw [q] at hmc; simp at hmc; omega
            · exact ⟨cc - 1, by omega⟩
          subst hk
          rw [show 40 - i = (40 - (i + 1)) + 1 by omega, fk_wl_s L p_c_23] at hwl
          have ht40 := hT2.1
          have n0 : 0 ≤ mm / 10 ∧ mm / 10 < 1000000000000000000000000000000 := by omega
          have n1 : mm / 10 < 10 ^ k := by rw [Int.pow_succ] at hmc; omega
          have n3 : (L ++ [fk_dc mm]).length + k ≤ 38 := by simp only [List.length_append, List.length_singleton]; omega
          have n4 := hwl
          refine lv_aload_n hx hb dX3_writeWholePart_26 rfl (lv_at hl 0 rfl) ?_
          refine lv_aload_n hx hb dX3_writeWholePart_27 rfl (lv_at hl 1 rfl) ?_
          refine lv_ldc2 (v := 10) hx hb hown k1 dX3_writeWholePart_28 ?_
          refine fk_cl hD hS hA (va_runVN (As := [.long 10]) (rest := [.ref (ad 0)]) ⟨hx, hb, hml, hown, hts⟩ (kX2_shorten _ _ (ad 4) (ad 5) 4 5 g 10 (mm) rfl rfl hRm ⟨by omega, by omega⟩ hm0.1 (by decide)) ⟨va_cnB 1 hts gX3_writeWholePart_X2_shorten_n200 rfl rfl rfl k2 k3 (by decide +kernel) ⟨Nat.le_of_ble_eq_true rfl, Nat.le_of_ble_eq_true rfl⟩, k4, k5⟩ (fk_preV 4 3 hK hN hP hD rfl rfl) rfl rfl hl.1 rfl (lv_room (Nat.le_of_ble_eq_true rfl)) dX3_writeWholePart_31 ⟨Nat.le_of_ble_eq_true rfl, Nat.le_of_ble_eq_true rfl⟩) (fun r7 g6 H locs hw hP hD hS => ?_)
          have hP : va_P D vwCl (fk_wx cJ cC cK ad kd kc lo chv (nI t2) g6 f2 f3 f4 f5 ++ tl) H := hP
          have hD : va_D A (fk_wx cJ cC cK ad kd kc lo chv (nI t2) g6 f2 f3 f4 f5 ++ tl) := hD
          obtain ⟨hqg6, hRg6⟩ := hw
          rw [show (10 : Int64).toInt = 10 by decide] at hqg6 hRg6
          refine fk_cv hD hS hA (va_runV (As := [.long r7]) (rest := []) ⟨hx, hb, hml, hown, hts⟩ (kX3_writeDigit _ ad tl kd kc lo chv g6 f2 f3 f4 f5 t2 L r7 mm hT2 (by omega) hqg6) (cwV 1 hts gX3_writeWholePart_X3_writeDigit rfl rfl rfl (by decide +kernel) ⟨Nat.le_of_ble_eq_true rfl, Nat.le_of_ble_eq_true rfl⟩) (fk_preV 0 4 hK hN hP hD rfl rfl) rfl rfl hl.1 rfl (lv_room (Nat.le_of_ble_eq_true rfl)) dX3_writeWholePart_34 ⟨Nat.le_of_ble_eq_true rfl, Nat.le_of_ble_eq_true rfl⟩) (fun ch8 H locs hw hP hD hS => ?_)
          have hP : va_P D vwCl (fk_wx cJ cC cK ad kd kc lo ch8 (nI (t2 - 1)) g6 f2 f3 f4 f5 ++ tl) H := hP
          have hD : va_D A (fk_wx cJ cC cK ad kd kc lo ch8 (nI (t2 - 1)) g6 f2 f3 f4 f5 ++ tl) := hD
          have hT3 := hw
          refine lv_iinc (v := nI (i + 1)) (lv' := [(2, .int (nI (i + 1))), (0, .ref (ad 0)), (1, .ref (ad 4))]) hx hb dX3_writeWholePart_37 hl (k := 2) rfl (by exact nI_1 i) (by decide) rfl (fun ls hl => ?_)
          refine lv_goto (tgt := 13) hx hb dX3_writeWholePart_40 (by decide) ?_
          exact ih13 (i + 1) (mm / 10) g6 (L ++ [fk_dc mm]) ch8 (t2 - 1) k (by omega) (by omega) hRg6 n0 n1 hT3 n3 n4 _ _ _ hP hD hS (lv_sub hl [1, 2, 0] rfl)
  exact L13 40 1 (M0 / 10) g1 (L0 ++ [fk_dc M0]) ch3 (t0 - 1) 24 (by omega) (by omega) hRg1 (by omega) (by rw [show (10 : Int) ^ 24 = 1000000000000000000000000 by decide]; omega) hT1 (by rw [hlen]; omega) rfl _ _ _ hP hD hS (lv_sub hl [1, 2, 0] rfl)
abbrev rmX3_text : Room := { frames := 3, cells := 0, slots := 0, locals := 67 }
set_option maxHeartbeats 4000000 in
set_option maxRecDepth 100000 in
/-- text -/
theorem kX3_text {l : Launch} {D : va_G} {cJ cC cI cZ cK : ClassId} (sz : Nat) (ad : Nat → Nat) (tl : va_W) (kd : Nat → Option Nat) (lo : Int32) (ch : Nat → Int32) (tt : Nat) (f1 f2 f3 f4 f5 : Nat → Int64) (n : Nat) (kf : Nat → fk_K) (ka kp : Nat → Nat) (num : Int32) (v : Int64) (hKT : fk_KT n kf kd ka kp tl) : Met l yX3_text wsX3_text rmX3_text (va_Pc [.ref (ad 0), .int num, .long v] (fk_pre D (fk_ty cJ cC cI cZ cK) (fk_wx cJ cC cK ad kd (nI n) lo ch (nI tt) f1 f2 f3 f4 f5 ++ tl) sz)) (va_Qi (fun (r : Int32) (u : (Nat → Int32) × Nat × (Nat → Int64) × (Nat → Int64)) => (fk_no n num ∧ r = -1 ∧ u.1 = ch ∧ u.2.1 = tt) ∨ ∃ j, j < n ∧ num = nI (j + 1) ∧ r = nI (fk_txt (fk_v (kf j) v) (fk_dn (kf j))).length ∧ u.2.1 = 40 - (fk_txt (fk_v (kf j) v) (fk_dn (kf j))).length ∧ (fk_txt (fk_v (kf j) v) (fk_dn (kf j))).length ≤ 34 ∧ fk_Tx (fk_txt (fk_v (kf j) v) (fk_dn (kf j))) u.1 (40 - (fk_txt (fk_v (kf j) v) (fk_dn (kf j))).length)) (fk_Bd D (fk_ty cJ cC cI cZ cK) (va_A (fk_wx cJ cC cK ad kd (nI n) lo ch (nI tt) f1 f2 f3 f4 f5 ++ tl) sz) (fun u : (Nat → Int32) × Nat × (Nat → Int64) × (Nat → Int64) => fk_wx cJ cC cK ad kd (nI n) lo u.1 (nI u.2.1) u.2.2.1 u.2.2.2 f3 f4 f5 ++ tl)) (va_A (fk_wx cJ cC cK ad kd (nI n) lo ch (nI tt) f1 f2 f3 f4 f5 ++ tl) sz)) 0 0 (va_A (fk_wx cJ cC cK ad kd (nI n) lo ch (nI tt) f1 f2 f3 f4 f5 ++ tl) sz) := by
  refine fk_ofW cX3_text 8 (some .int) (fun A => va_Qi (fun (r : Int32) (u : (Nat → Int32) × Nat × (Nat → Int64) × (Nat → Int64)) => (fk_no n num ∧ r = -1 ∧ u.1 = ch ∧ u.2.1 = tt) ∨ ∃ j, j < n ∧ num = nI (j + 1) ∧ r = nI (fk_txt (fk_v (kf j) v) (fk_dn (kf j))).length ∧ u.2.1 = 40 - (fk_txt (fk_v (kf j) v) (fk_dn (kf j))).length ∧ (fk_txt (fk_v (kf j) v) (fk_dn (kf j))).length ≤ 34 ∧ fk_Tx (fk_txt (fk_v (kf j) v) (fk_dn (kf j))) u.1 (40 - (fk_txt (fk_v (kf j) v) (fk_dn (kf j))).length)) (fk_Bd D (fk_ty cJ cC cI cZ cK) A (fun u : (Nat → Int32) × Nat × (Nat → Int64) × (Nat → Int64) => fk_wx cJ cC cK ad kd (nI n) lo u.1 (nI u.2.1) u.2.2.1 u.2.2.2 f3 f4 f5 ++ tl)) A) rfl (by decide) (Nat.le_of_ble_eq_true rfl) ?_
  intro p e s m below meth c A ls args QQ hQQ hAt hP hK hN hD hA hS hl
  obtain ⟨⟨hx, hb, hml, hown, hts⟩, hr, hlocks, hin⟩ := hAt
  have hl : lv_has ls 8 [(0, .ref (ad 0)), (1, .int num), (2, .long v)] := hl
  have k1 := hts (.fieldLink RX3 33 "FixedKinds" "first" "LFixedKinds$Fraction;") (by decide +kernel)
  have k2 := (by decide +kernel : ∀ w ∈ u_ws RX3 TX3 8, w ∈ wsX3_text)
  have k3 := hN _ fkn_X3_72
  have k4 := hts (.initialized RX0) (by decide +kernel)
  have k5 := hts (.instanceMethod yX0_take) (by decide +kernel)
  have k6 := hts (.selects RX0 yX0_take yX0_take) (by decide +kernel)
  have k7 := hN _ fkn_X3_98
  have k8 := (by decide +kernel : ∀ w ∈ u_ws RX0 TX0 2, w ∈ wsX3_text)
  have k9 := hN _ fkn_X3_114
  have k10 := hts (.initialized RX2) (by decide +kernel)
  have k11 := hts (.instanceMethod yX2_isNegative) (by decide +kernel)
  have k12 := hts (.selects RX2 yX2_isNegative yX2_isNegative) (by decide +kernel)
  have k13 := hN _ fkn_X3_118
  have k14 := hts (.instanceMethod yX0_toMillionths) (by decide +kernel)
  have k15 := hts (.selects RX0 yX0_toMillionths yX0_toMillionths) (by decide +kernel)
  have k16 := hts (.fieldLink RX3 27 "FixedKinds" "textStart" "I") (by decide +kernel)
  have k17 := hN _ fkn_X3_122
  have k18 := hts (.instanceMethod yX2_isZero) (by decide +kernel)
  have k19 := hts (.selects RX2 yX2_isZero yX2_isZero) (by decide +kernel)
  have hn40 := hKT.1
  refine lv_aload_n hx hb dX3_text_0 rfl (lv_at hl 0 rfl) ?_
  refine lv_iload_n hx hb dX3_text_1 rfl (lv_at hl 1 rfl) ?_
  refine fk_cq hD hS hA (va_runV (As := [.int num]) (rest := []) ⟨hx, hb, hml, hown, hts⟩ (kX3_find _ ad tl kd lo ch (nI tt) f1 f2 f3 f4 f5 n kf ka kp num hKT) (cwV 1 hts gX3_text_X3_find rfl rfl rfl (by decide +kernel) ⟨Nat.le_of_ble_eq_true rfl, Nat.le_of_ble_eq_true rfl⟩) (fk_preV 0 4 hK hN hP hD rfl rfl) rfl rfl hl.1 rfl (lv_room (Nat.le_of_ble_eq_true rfl)) dX3_text_2 ⟨Nat.le_of_ble_eq_true rfl, Nat.le_of_ble_eq_true rfl⟩) (fun r1 u H locs hw hP hD hS => ?_)
  have hP : va_P D vwCl (fk_wx cJ cC cK ad kd (nI n) lo ch (nI tt) f1 f2 f3 f4 f5 ++ tl) H := hP
  have hD : va_D A (fk_wx cJ cC cK ad kd (nI n) lo ch (nI tt) f1 f2 f3 f4 f5 ++ tl) := hD
  rcases hw with ⟨hr_j, hno_j⟩ | ⟨j, hj, hn_j, hr_j⟩
  · subst hr_j
    refine lv_astoreN (lv' := [(4, .null), (0, .ref (ad 0)), (1, .int num), (2, .long v)]) hx hb dX3_text_5 hl (by decide) rfl (fun ls hl => ?_)
    refine lv_aloadN hx hb dX3_text_7 (lv_at hl 0 rfl) ?_
    refine lv_ifnonnullN hx hb dX3_text_9 ?_
    refine lv_iconst (v := (-1)) hx hb dX3_text_12 (by decide) ?_
    rw [hQQ]
    exact W.iret (v := (-1)) hx hb hr (fun t ht hW => ⟨⟨(-1), (ch, tt, f1, f2), rfl, Or.inl ⟨hno_j, rfl, rfl, rfl⟩, by rw [ht]; exact hP, va_K.moved hW.alike hK, hD⟩, hS.F ht⟩) hS.2.2 dX3_text_13
  · subst hr_j
    subst hn_j
    have ok_j := (hKT.2.1 j hj).2.2
    obtain ⟨okd_j, oko_j, okr_j⟩ := id ok_j
    refine lv_astore (lv' := [(4, .ref (ka j)), (0, .ref (ad 0)), (1, .int (nI (j + 1))), (2, .long v)]) hx hb dX3_text_5 hl (by decide) rfl (fun ls hl => ?_)
    refine lv_aload hx hb dX3_text_7 (lv_at hl 0 rfl) ?_
    refine lv_ifnonnull (tgt := 14) hx hb dX3_text_9 (by decide) ?_
    refine lv_aload_n hx hb dX3_text_14 rfl (lv_at hl 1 rfl) ?_
    refine va_get (D := D) (ci := 4) (v := .ref (ad 3)) (C := RX3) (T := TX3) (N := 8) hx hb hts k2 hown hK hP 0 rfl rfl 5 (by decide) k1 (fun _ h9 => h9) rfl dX3_text_15 ?_
    refine lv_aload hx hb dX3_text_18 (lv_at hl 0 rfl) ?_
    refine lv_lload_n hx hb dX3_text_20 rfl (lv_at hl 3 rfl) ?_
    refine fk_cv hD hS hA (va_runVN (As := [.ref (ka j), .long v]) (rest := []) ⟨hx, hb, hml, hown, hts⟩ (kX0_take _ _ (ad 3) (ad 4) (ad 5) (ad 6) (ad 7) 3 4 5 6 7 f1 f2 (ka j) (kp j + 15) (kf j).1 (kf j).2.1 (kf j).2.2.2.2.2.1 (kf j).2.2.2.2.2.2 (kf j).2.2.1 (kf j).2.2.2.1 (kf j).2.2.2.2.1 v rfl rfl rfl rfl rfl (fk_tl (hKT.2.1 j hj).2.1) okd_j (by decide)) ⟨va_cnB 2 hts gX3_text_X0_take_n72 rfl rfl rfl k3 k4 (by decide +kernel) ⟨Nat.le_of_ble_eq_true rfl, Nat.le_of_ble_eq_true rfl⟩, k5, k6⟩ (fk_preV 3 1 hK hN hP hD rfl rfl) rfl rfl hl.1 rfl (lv_room (Nat.le_of_ble_eq_true rfl)) dX3_text_21 ⟨Nat.le_of_ble_eq_true rfl, Nat.le_of_ble_eq_true rfl⟩) (fun u2 H locs hw hP hD hS => ?_)
    have hP : va_P D vwCl (fk_wx cJ cC cK ad kd (nI n) lo ch (nI tt) u2.1 u2.2 f3 f4 f5 ++ tl) H := hP
    have hD : va_D A (fk_wx cJ cC cK ad kd (nI n) lo ch (nI tt) u2.1 u2.2 f3 f4 f5 ++ tl) := hD
    obtain ⟨hTu2, hBu2⟩ := hw
    have hTu2 : fk_R (fk_v (kf j) v) u2.1 := hTu2
    have hBu2 : fk_R (fk_dn (kf j)) u2.2 := hBu2
    have bvu2 := fk_v_bd ok_j v
    have bdu2 := fk_dn_bd ok_j
    have bv := fk_v_bd ok_j v
    have bd := fk_dn_bd ok_j
    have mb := fk_ms_bd bv bd
    refine lv_aload_n hx hb dX3_text_24 rfl (lv_at hl 1 rfl) ?_
    refine va_get (D := D) (ci := 4) (v := .ref (ad 3)) (C := RX3) (T := TX3) (N := 8) hx hb hts k2 hown hK hP 0 rfl rfl 5 (by decide) k1 (fun _ h9 => h9) rfl dX3_text_25 ?_
    refine va_getN (D := D) (ci := 1) (v := .ref (ad 4)) (C := RX0) (T := TX0) (N := 2) hx hb hts k8 hown hK hP 3 rfl rfl 0 (by decide) (va_Nw.use rfl k7) (fun _ h9 => h9) rfl dX3_text_28 ?_
    refine fk_ci hD hS hA (va_runVN (As := []) (rest := []) ⟨hx, hb, hml, hown, hts⟩ (kX2_isNegative _ _ (ad 4) (ad 5) 4 5 u2.1 (fk_v (kf j) v) rfl rfl hTu2 ⟨by omega, by omega⟩) ⟨va_cnB 0 hts gX3_text_X2_isNegative_n114 rfl rfl rfl k9 k10 (by decide +kernel) ⟨Nat.le_of_ble_eq_true rfl, Nat.le_of_ble_eq_true rfl⟩, k11, k12⟩ (fk_preV 4 3 hK hN hP hD rfl rfl) rfl rfl hl.1 rfl (lv_room (Nat.le_of_ble_eq_true rfl)) dX3_text_31 ⟨Nat.le_of_ble_eq_true rfl, Nat.le_of_ble_eq_true rfl⟩) (fun r4 u H locs hw hP hD hS => ?_)
    have hP : va_P D vwCl (fk_wx cJ cC cK ad kd (nI n) lo ch (nI tt) u2.1 u2.2 f3 f4 f5 ++ tl) H := hP
    have hD : va_D A (fk_wx cJ cC cK ad kd (nI n) lo ch (nI tt) u2.1 u2.2 f3 f4 f5 ++ tl) := hD
    have z0 := hw
    refine lv_istore (lv' := [(5, .int r4), (4, .ref (ka j)), (0, .ref (ad 0)), (1, .int (nI (j + 1))), (2, .long v)]) hx hb dX3_text_34 hl (by decide) rfl (fun ls hl => ?_)
    refine lv_aload_n hx hb dX3_text_36 rfl (lv_at hl 2 rfl) ?_
    refine va_get (D := D) (ci := 4) (v := .ref (ad 3)) (C := RX3) (T := TX3) (N := 8) hx hb hts k2 hown hK hP 0 rfl rfl 5 (by decide) k1 (fun _ h9 => h9) rfl dX3_text_37 ?_
    refine fk_cq hD hS hA (va_runVN (As := []) (rest := []) ⟨hx, hb, hml, hown, hts⟩ (kX0_toMillionths _ ad tl kd (nI n) lo ch (nI tt) u2.1 u2.2 f3 f4 f5 (fk_v (kf j) v) (fk_dn (kf j)) hTu2 hBu2 bv bd) ⟨va_cnB 0 hts gX3_text_X0_toMillionths_n118 rfl rfl rfl k13 k4 (by decide +kernel) ⟨Nat.le_of_ble_eq_true rfl, Nat.le_of_ble_eq_true rfl⟩, k14, k15⟩ (fk_preV 3 1 hK hN hP hD rfl rfl) rfl rfl hl.1 rfl (lv_room (Nat.le_of_ble_eq_true rfl)) dX3_text_40 ⟨Nat.le_of_ble_eq_true rfl, Nat.le_of_ble_eq_true rfl⟩) (fun r6 g5 H locs hw hP hD hS => ?_)
    have hP : va_P D vwCl (fk_wx cJ cC cK ad kd (nI n) lo ch (nI tt) g5 u2.2 f3 f4 f5 ++ tl) H := hP
    have hD : va_D A (fk_wx cJ cC cK ad kd (nI n) lo ch (nI tt) g5 u2.2 f3 f4 f5 ++ tl) := hD
    obtain ⟨hr4, hM⟩ := hw
    subst hr4
    have hM : fk_R (fk_ms (fk_v (kf j) v) (fk_dn (kf j))) g5 := hM
    refine lv_astore (lv' := [(6, .ref (ad 4)), (5, .int r4), (4, .ref (ka j)), (0, .ref (ad 0)), (1, .int (nI (j + 1))), (2, .long v)]) hx hb dX3_text_43 hl (by decide) rfl (fun ls hl => ?_)
    refine lv_iload hx hb dX3_text_45 (lv_at hl 1 rfl) ?_
    refine lv_if_eq (tgt := 62) hx hb dX3_text_47 (by decide) (fun c_47 => ?_) (fun c_47 => ?_)
    · have p_c_47 : ¬ (fk_v (kf j) v) < 0 := by intro q; rw [z0, if_pos q] at c_47; exact absurd c_47 (by decide)
      have hneg : ¬ ((fk_v (kf j) v) < 0 ∧ fk_ms (fk_v (kf j) v) (fk_dn (kf j)) ≠ 0) := fun q => p_c_47 q.1
      refine lv_iconst (v := 0) hx hb dX3_text_62 (by decide) ?_
      refine lv_istore (lv' := [(7, .int 0), (6, .ref (ad 4)), (5, .int r4), (4, .ref (ka j)), (0, .ref (ad 0)), (1, .int (nI (j + 1))), (2, .long v)]) hx hb dX3_text_63 hl (by decide) rfl (fun ls hl => ?_)
      refine lv_aload_n hx hb dX3_text_65 rfl (lv_at hl 4 rfl) ?_
      refine lv_bipush (v := 40) hx hb dX3_text_66 (by decide) ?_
      refine va_put (D := D) (ci := 4) (v := .int 40) (ty := (.int)) (C := RX3) (T := TX3) (N := 8) hx hb hts k2 tyX3 tyX3_ok nmX3 hown hK hP hD hS 0 rfl rfl 4 (by decide) k16 (fun _ h9 => h9) rfl (by decide +kernel) rfl rfl (Nat.le_of_ble_eq_true rfl) dX3_text_68 (fun H locs hP hD hS => ?_)
      have hP : va_P D vwCl (fk_wx cJ cC cK ad kd (nI n) lo ch 40 g5 u2.2 f3 f4 f5 ++ tl) H := hP
      have hD : va_D A (fk_wx cJ cC cK ad kd (nI n) lo ch 40 g5 u2.2 f3 f4 f5 ++ tl) := hD
      refine lv_aload_n hx hb dX3_text_71 rfl (lv_at hl 4 rfl) ?_
      refine lv_aload hx hb dX3_text_72 (lv_at hl 1 rfl) ?_
      refine fk_cv hD hS hA (va_runV (As := [.ref (ad 4)]) (rest := []) ⟨hx, hb, hml, hown, hts⟩ (kX3_writePlaces _ ad tl kd (nI n) lo ch g5 u2.2 f3 f4 f5 40 (fk_ms (fk_v (kf j) v) (fk_dn (kf j))) hM mb (fk_Tx_0 ch)) (cwV 1 hts gX3_text_X3_writePlaces rfl rfl rfl (by decide +kernel) ⟨Nat.le_of_ble_eq_true rfl, Nat.le_of_ble_eq_true rfl⟩) (fk_preV 0 4 hK hN hP hD rfl rfl) rfl rfl hl.1 rfl (lv_room (Nat.le_of_ble_eq_true rfl)) dX3_text_74 ⟨Nat.le_of_ble_eq_true rfl, Nat.le_of_ble_eq_true rfl⟩) (fun u7 H locs hw hP hD hS => ?_)
      have hP : va_P D vwCl (fk_wx cJ cC cK ad kd (nI n) lo u7.1 (nI (40 - (fk_pt (fk_pl 6 (fk_ms (fk_v (kf j) v) (fk_dn (kf j))) [])).length)) u7.2 u2.2 f3 f4 f5 ++ tl) H := hP
      have hD : va_D A (fk_wx cJ cC cK ad kd (nI n) lo u7.1 (nI (40 - (fk_pt (fk_pl 6 (fk_ms (fk_v (kf j) v) (fk_dn (kf j))) [])).length)) u7.2 u2.2 f3 f4 f5 ++ tl) := hD
      obtain ⟨hT1, hM1⟩ := hw
      have hl6 := fk_pl_len 6 (fk_ms (fk_v (kf j) v) (fk_dn (kf j))) []
      have hl7 : (fk_pt (fk_pl 6 (fk_ms (fk_v (kf j) v) (fk_dn (kf j))) [])).length ≤ 7 := by
        rw [fk_pt]; split
        · simp only [List.length_append, List.length_singleton]; simp at hl6; omega
        · simp at hl6; omega
      refine lv_aload_n hx hb dX3_text_77 rfl (lv_at hl 4 rfl) ?_
      refine lv_aload hx hb dX3_text_78 (lv_at hl 1 rfl) ?_
      refine fk_cv hD hS hA (va_runV (As := [.ref (ad 4)]) (rest := []) ⟨hx, hb, hml, hown, hts⟩ (kX3_writeWholePart _ ad tl kd (nI n) lo u7.1 u7.2 u2.2 f3 f4 f5 (40 - (fk_pt (fk_pl 6 (fk_ms (fk_v (kf j) v) (fk_dn (kf j))) [])).length) (fk_pt (fk_pl 6 (fk_ms (fk_v (kf j) v) (fk_dn (kf j))) [])) (fk_ms (fk_v (kf j) v) (fk_dn (kf j)) / 1000000) hM1 (by omega) hT1 (by omega)) (cwV 1 hts gX3_text_X3_writeWholePart rfl rfl rfl (by decide +kernel) ⟨Nat.le_of_ble_eq_true rfl, Nat.le_of_ble_eq_true rfl⟩) (fk_preV 0 4 hK hN hP hD rfl rfl) rfl rfl hl.1 rfl (lv_room (Nat.le_of_ble_eq_true rfl)) dX3_text_80 ⟨Nat.le_of_ble_eq_true rfl, Nat.le_of_ble_eq_true rfl⟩) (fun u9 H locs hw hP hD hS => ?_)
      have hP : va_P D vwCl (fk_wx cJ cC cK ad kd (nI n) lo u9.1 (nI (40 - (fk_tl4 (fk_v (kf j) v) (fk_dn (kf j))).length)) u9.2 u2.2 f3 f4 f5 ++ tl) H := hP
      have hD : va_D A (fk_wx cJ cC cK ad kd (nI n) lo u9.1 (nI (40 - (fk_tl4 (fk_v (kf j) v) (fk_dn (kf j))).length)) u9.2 u2.2 f3 f4 f5 ++ tl) := hD
      have hT4 : fk_Tx (fk_tl4 (fk_v (kf j) v) (fk_dn (kf j))) u9.1 (40 - (fk_tl4 (fk_v (kf j) v) (fk_dn (kf j))).length) := hw
      have hl4 := fk_wl_len 24 39 (fk_ms (fk_v (kf j) v) (fk_dn (kf j)) / 1000000 / 10) (fk_pt (fk_pl 6 (fk_ms (fk_v (kf j) v) (fk_dn (kf j))) []) ++ [fk_dc (fk_ms (fk_v (kf j) v) (fk_dn (kf j)) / 1000000)]) (by omega) (by rw [show (10 : Int) ^ 24 = 1000000000000000000000000 by decide]; omega)
      simp only [List.length_append, List.length_singleton] at hl4
      have hl4 : (fk_tl4 (fk_v (kf j) v) (fk_dn (kf j))).length ≤ 33 := by rw [fk_tl4]; omega
      refine lv_iload hx hb dX3_text_83 (lv_at hl 0 rfl) ?_
      refine lv_if_eq (tgt := 94) hx hb dX3_text_85 (by decide) (fun c_85 => ?_) (fun c_85 => False.elim (absurd rfl c_85))
      have htx : fk_txt (fk_v (kf j) v) (fk_dn (kf j)) = fk_tl4 (fk_v (kf j) v) (fk_dn (kf j)) := by rw [fk_txt, if_neg hneg]
      rw [← htx] at hP hD hT4 hl4
      have hTf := hT4
      refine lv_bipush (v := 40) hx hb dX3_text_94 (by decide) ?_
      refine lv_aload_n hx hb dX3_text_96 rfl (lv_at hl 4 rfl) ?_
      refine va_get (D := D) (ci := 4) (v := .int (nI (40 - (fk_txt (fk_v (kf j) v) (fk_dn (kf j))).length))) (C := RX3) (T := TX3) (N := 8) hx hb hts k2 hown hK hP 0 rfl rfl 4 (by decide) k16 (fun _ h9 => h9) rfl dX3_text_97 ?_
      refine lv_isub hx hb dX3_text_100 ?_
      refine lv_topi (fun x11 ex11 => ?_)
      have ex11q : x11 = nI ((fk_txt (fk_v (kf j) v) (fk_dn (kf j))).length) := by
        rw [ex11, show (40 : Int32) = nI 40 from rfl, pk_sub (by omega), show 40 - (40 - (fk_txt (fk_v (kf j) v) (fk_dn (kf j))).length) = (fk_txt (fk_v (kf j) v) (fk_dn (kf j))).length by omega]
      subst ex11q
      rw [hQQ]
      exact W.iret (v := nI ((fk_txt (fk_v (kf j) v) (fk_dn (kf j))).length)) hx hb hr (fun t ht hW => ⟨⟨(nI ((fk_txt (fk_v (kf j) v) (fk_dn (kf j))).length)), (u9.1, 40 - (fk_txt (fk_v (kf j) v) (fk_dn (kf j))).length, u9.2, u2.2), rfl, Or.inr ⟨j, hj, rfl, rfl, rfl, by omega, hTf⟩, by rw [ht]; exact hP, va_K.moved hW.alike hK, hD⟩, hS.F ht⟩) hS.2.2 dX3_text_101
    · have p_c_47 : (fk_v (kf j) v) < 0 := by by_cases q : (fk_v (kf j) v) < 0; exact q; rw [z0, if_neg q] at c_47; exact absurd rfl c_47
      refine lv_aload hx hb dX3_text_50 (lv_at hl 0 rfl) ?_
      refine fk_ci hD hS hA (va_runVN (As := []) (rest := []) ⟨hx, hb, hml, hown, hts⟩ (kX2_isZero _ _ (ad 4) (ad 5) 4 5 g5 (fk_ms (fk_v (kf j) v) (fk_dn (kf j))) rfl rfl hM ⟨by omega, by omega⟩) ⟨va_cnB 0 hts gX3_text_X2_isZero_n122 rfl rfl rfl k17 k10 (by decide +kernel) ⟨Nat.le_of_ble_eq_true rfl, Nat.le_of_ble_eq_true rfl⟩, k18, k19⟩ (fk_preV 4 3 hK hN hP hD rfl rfl) rfl rfl hl.1 rfl (lv_room (Nat.le_of_ble_eq_true rfl)) dX3_text_52 ⟨Nat.le_of_ble_eq_true rfl, Nat.le_of_ble_eq_true rfl⟩) (fun r12 u H locs hw hP hD hS => ?_)
      have hP : va_P D vwCl (fk_wx cJ cC cK ad kd (nI n) lo ch (nI tt) g5 u2.2 f3 f4 f5 ++ tl) H := hP
      have hD : va_D A (fk_wx cJ cC cK ad kd (nI n) lo ch (nI tt) g5 u2.2 f3 f4 f5 ++ tl) := hD
      have z1 := hw
      refine lv_if_ne (tgt := 62) hx hb dX3_text_55 (by decide) (fun c_55 => ?_) (fun c_55 => ?_)
      · have p_c_55 : fk_ms (fk_v (kf j) v) (fk_dn (kf j)) = 0 := by by_cases q : fk_ms (fk_v (kf j) v) (fk_dn (kf j)) = 0; exact q; rw [z1, if_neg q] at c_55; exact absurd rfl c_55
        have hneg : ¬ ((fk_v (kf j) v) < 0 ∧ fk_ms (fk_v (kf j) v) (fk_dn (kf j)) ≠ 0) := fun q => q.2 p_c_55
        refine lv_iconst (v := 0) hx hb dX3_text_62 (by decide) ?_
        refine lv_istore (lv' := [(7, .int 0), (6, .ref (ad 4)), (5, .int r4), (4, .ref (ka j)), (0, .ref (ad 0)), (1, .int (nI (j + 1))), (2, .long v)]) hx hb dX3_text_63 hl (by decide) rfl (fun ls hl => ?_)
        refine lv_aload_n hx hb dX3_text_65 rfl (lv_at hl 4 rfl) ?_
        refine lv_bipush (v := 40) hx hb dX3_text_66 (by decide) ?_
        refine va_put (D := D) (ci := 4) (v := .int 40) (ty := (.int)) (C := RX3) (T := TX3) (N := 8) hx hb hts k2 tyX3 tyX3_ok nmX3 hown hK hP hD hS 0 rfl rfl 4 (by decide) k16 (fun _ h9 => h9) rfl (by decide +kernel) rfl rfl (Nat.le_of_ble_eq_true rfl) dX3_text_68 (fun H locs hP hD hS => ?_)
        have hP : va_P D vwCl (fk_wx cJ cC cK ad kd (nI n) lo ch 40 g5 u2.2 f3 f4 f5 ++ tl) H := hP
        have hD : va_D A (fk_wx cJ cC cK ad kd (nI n) lo ch 40 g5 u2.2 f3 f4 f5 ++ tl) := hD
        refine lv_aload_n hx hb dX3_text_71 rfl (lv_at hl 4 rfl) ?_
        refine lv_aload hx hb dX3_text_72 (lv_at hl 1 rfl) ?_
        refine fk_cv hD hS hA (va_runV (As := [.ref (ad 4)]) (rest := []) ⟨hx, hb, hml, hown, hts⟩ (kX3_writePlaces _ ad tl kd (nI n) lo ch g5 u2.2 f3 f4 f5 40 (fk_ms (fk_v (kf j) v) (fk_dn (kf j))) hM mb (fk_Tx_0 ch)) (cwV 1 hts gX3_text_X3_writePlaces rfl rfl rfl (by decide +kernel) ⟨Nat.le_of_ble_eq_true rfl, Nat.le_of_ble_eq_true rfl⟩) (fk_preV 0 4 hK hN hP hD rfl rfl) rfl rfl hl.1 rfl (lv_room (Nat.le_of_ble_eq_true rfl)) dX3_text_74 ⟨Nat.le_of_ble_eq_true rfl, Nat.le_of_ble_eq_true rfl⟩) (fun u13 H locs hw hP hD hS => ?_)
        have hP : va_P D vwCl (fk_wx cJ cC cK ad kd (nI n) lo u13.1 (nI (40 - (fk_pt (fk_pl 6 (fk_ms (fk_v (kf j) v) (fk_dn (kf j))) [])).length)) u13.2 u2.2 f3 f4 f5 ++ tl) H := hP
        have hD : va_D A (fk_wx cJ cC cK ad kd (nI n) lo u13.1 (nI (40 - (fk_pt (fk_pl 6 (fk_ms (fk_v (kf j) v) (fk_dn (kf j))) [])).length)) u13.2 u2.2 f3 f4 f5 ++ tl) := hD
        obtain ⟨hT1, hM1⟩ := hw
        have hl6 := fk_pl_len 6 (fk_ms (fk_v (kf j) v) (fk_dn (kf j))) []
        have hl7 : (fk_pt (fk_pl 6 (fk_ms (fk_v (kf j) v) (fk_dn (kf j))) [])).length ≤ 7 := by
          rw [fk_pt]; split
          · simp only [List.length_append, List.length_singleton]; simp at hl6; omega
          · simp at hl6; omega
        refine lv_aload_n hx hb dX3_text_77 rfl (lv_at hl 4 rfl) ?_
        refine lv_aload hx hb dX3_text_78 (lv_at hl 1 rfl) ?_
        refine fk_cv hD hS hA (va_runV (As := [.ref (ad 4)]) (rest := []) ⟨hx, hb, hml, hown, hts⟩ (kX3_writeWholePart _ ad tl kd (nI n) lo u13.1 u13.2 u2.2 f3 f4 f5 (40 - (fk_pt (fk_pl 6 (fk_ms (fk_v (kf j) v) (fk_dn (kf j))) [])).length) (fk_pt (fk_pl 6 (fk_ms (fk_v (kf j) v) (fk_dn (kf j))) [])) (fk_ms (fk_v (kf j) v) (fk_dn (kf j)) / 1000000) hM1 (by omega) hT1 (by omega)) (cwV 1 hts gX3_text_X3_writeWholePart rfl rfl rfl (by decide +kernel) ⟨Nat.le_of_ble_eq_true rfl, Nat.le_of_ble_eq_true rfl⟩) (fk_preV 0 4 hK hN hP hD rfl rfl) rfl rfl hl.1 rfl (lv_room (Nat.le_of_ble_eq_true rfl)) dX3_text_80 ⟨Nat.le_of_ble_eq_true rfl, Nat.le_of_ble_eq_true rfl⟩) (fun u15 H locs hw hP hD hS => ?_)
        have hP : va_P D vwCl (fk_wx cJ cC cK ad kd (nI n) lo u15.1 (nI (40 - (fk_tl4 (fk_v (kf j) v) (fk_dn (kf j))).length)) u15.2 u2.2 f3 f4 f5 ++ tl) H := hP
        have hD : va_D A (fk_wx cJ cC cK ad kd (nI n) lo u15.1 (nI (40 - (fk_tl4 (fk_v (kf j) v) (fk_dn (kf j))).length)) u15.2 u2.2 f3 f4 f5 ++ tl) := hD
        have hT4 : fk_Tx (fk_tl4 (fk_v (kf j) v) (fk_dn (kf j))) u15.1 (40 - (fk_tl4 (fk_v (kf j) v) (fk_dn (kf j))).length) := hw
        have hl4 := fk_wl_len 24 39 (fk_ms (fk_v (kf j) v) (fk_dn (kf j)) / 1000000 / 10) (fk_pt (fk_pl 6 (fk_ms (fk_v (kf j) v) (fk_dn (kf j))) []) ++ [fk_dc (fk_ms (fk_v (kf j) v) (fk_dn (kf j)) / 1000000)]) (by omega) (by rw [show (10 : Int) ^ 24 = 1000000000000000000000000 by decide]; omega)
        simp only [List.length_append, List.length_singleton] at hl4
        have hl4 : (fk_tl4 (fk_v (kf j) v) (fk_dn (kf j))).length ≤ 33 := by rw [fk_tl4]; omega
        refine lv_iload hx hb dX3_text_83 (lv_at hl 0 rfl) ?_
        refine lv_if_eq (tgt := 94) hx hb dX3_text_85 (by decide) (fun c_85 => ?_) (fun c_85 => False.elim (absurd rfl c_85))
        have htx : fk_txt (fk_v (kf j) v) (fk_dn (kf j)) = fk_tl4 (fk_v (kf j) v) (fk_dn (kf j)) := by rw [fk_txt, if_neg hneg]
        rw [← htx] at hP hD hT4 hl4
        have hTf := hT4
        refine lv_bipush (v := 40) hx hb dX3_text_94 (by decide) ?_
        refine lv_aload_n hx hb dX3_text_96 rfl (lv_at hl 4 rfl) ?_
        refine va_get (D := D) (ci := 4) (v := .int (nI (40 - (fk_txt (fk_v (kf j) v) (fk_dn (kf j))).length))) (C := RX3) (T := TX3) (N := 8) hx hb hts k2 hown hK hP 0 rfl rfl 4 (by decide) k16 (fun _ h9 => h9) rfl dX3_text_97 ?_
        refine lv_isub hx hb dX3_text_100 ?_
        refine lv_topi (fun x17 ex17 => ?_)
        have ex17q : x17 = nI ((fk_txt (fk_v (kf j) v) (fk_dn (kf j))).length) := by
          rw [ex17, show (40 : Int32) = nI 40 from rfl, pk_sub (by omega), show 40 - (40 - (fk_txt (fk_v (kf j) v) (fk_dn (kf j))).length) = (fk_txt (fk_v (kf j) v) (fk_dn (kf j))).length by omega]
        subst ex17q
        rw [hQQ]
        exact W.iret (v := nI ((fk_txt (fk_v (kf j) v) (fk_dn (kf j))).length)) hx hb hr (fun t ht hW => ⟨⟨(nI ((fk_txt (fk_v (kf j) v) (fk_dn (kf j))).length)), (u15.1, 40 - (fk_txt (fk_v (kf j) v) (fk_dn (kf j))).length, u15.2, u2.2), rfl, Or.inr ⟨j, hj, rfl, rfl, rfl, by omega, hTf⟩, by rw [ht]; exact hP, va_K.moved hW.alike hK, hD⟩, hS.F ht⟩) hS.2.2 dX3_text_101
      · have p_c_55 : ¬ (fk_ms (fk_v (kf j) v) (fk_dn (kf j)) = 0) := by intro q; rw [z1, if_pos q] at c_55; exact absurd c_55 (by decide)
        have hneg : (fk_v (kf j) v) < 0 ∧ fk_ms (fk_v (kf j) v) (fk_dn (kf j)) ≠ 0 := ⟨p_c_47, p_c_55⟩
        refine lv_iconst (v := 1) hx hb dX3_text_58 (by decide) ?_
        refine lv_goto (tgt := 63) hx hb dX3_text_59 (by decide) ?_
        refine lv_istore (lv' := [(7, .int 1), (6, .ref (ad 4)), (5, .int r4), (4, .ref (ka j)), (0, .ref (ad 0)), (1, .int (nI (j + 1))), (2, .long v)]) hx hb dX3_text_63 hl (by decide) rfl (fun ls hl => ?_)
        refine lv_aload_n hx hb dX3_text_65 rfl (lv_at hl 4 rfl) ?_
        refine lv_bipush (v := 40) hx hb dX3_text_66 (by decide) ?_
        refine va_put (D := D) (ci := 4) (v := .int 40) (ty := (.int)) (C := RX3) (T := TX3) (N := 8) hx hb hts k2 tyX3 tyX3_ok nmX3 hown hK hP hD hS 0 rfl rfl 4 (by decide) k16 (fun _ h9 => h9) rfl (by decide +kernel) rfl rfl (Nat.le_of_ble_eq_true rfl) dX3_text_68 (fun H locs hP hD hS => ?_)
        have hP : va_P D vwCl (fk_wx cJ cC cK ad kd (nI n) lo ch 40 g5 u2.2 f3 f4 f5 ++ tl) H := hP
        have hD : va_D A (fk_wx cJ cC cK ad kd (nI n) lo ch 40 g5 u2.2 f3 f4 f5 ++ tl) := hD
        refine lv_aload_n hx hb dX3_text_71 rfl (lv_at hl 4 rfl) ?_
        refine lv_aload hx hb dX3_text_72 (lv_at hl 1 rfl) ?_
        refine fk_cv hD hS hA (va_runV (As := [.ref (ad 4)]) (rest := []) ⟨hx, hb, hml, hown, hts⟩ (kX3_writePlaces _ ad tl kd (nI n) lo ch g5 u2.2 f3 f4 f5 40 (fk_ms (fk_v (kf j) v) (fk_dn (kf j))) hM mb (fk_Tx_0 ch)) (cwV 1 hts gX3_text_X3_writePlaces rfl rfl rfl (by decide +kernel) ⟨Nat.le_of_ble_eq_true rfl, Nat.le_of_ble_eq_true rfl⟩) (fk_preV 0 4 hK hN hP hD rfl rfl) rfl rfl hl.1 rfl (lv_room (Nat.le_of_ble_eq_true rfl)) dX3_text_74 ⟨Nat.le_of_ble_eq_true rfl, Nat.le_of_ble_eq_true rfl⟩) (fun u18 H locs hw hP hD hS => ?_)
        have hP : va_P D vwCl (fk_wx cJ cC cK ad kd (nI n) lo u18.1 (nI (40 - (fk_pt (fk_pl 6 (fk_ms (fk_v (kf j) v) (fk_dn (kf j))) [])).length)) u18.2 u2.2 f3 f4 f5 ++ tl) H := hP
        have hD : va_D A (fk_wx cJ cC cK ad kd (nI n) lo u18.1 (nI (40 - (fk_pt (fk_pl 6 (fk_ms (fk_v (kf j) v) (fk_dn (kf j))) [])).length)) u18.2 u2.2 f3 f4 f5 ++ tl) := hD
        obtain ⟨hT1, hM1⟩ := hw
        have hl6 := fk_pl_len 6 (fk_ms (fk_v (kf j) v) (fk_dn (kf j))) []
        have hl7 : (fk_pt (fk_pl 6 (fk_ms (fk_v (kf j) v) (fk_dn (kf j))) [])).length ≤ 7 := by
          rw [fk_pt]; split
          · simp only [List.length_append, List.length_singleton]; simp at hl6; omega
          · simp at hl6; omega
        refine lv_aload_n hx hb dX3_text_77 rfl (lv_at hl 4 rfl) ?_
        refine lv_aload hx hb dX3_text_78 (lv_at hl 1 rfl) ?_
        refine fk_cv hD hS hA (va_runV (As := [.ref (ad 4)]) (rest := []) ⟨hx, hb, hml, hown, hts⟩ (kX3_writeWholePart _ ad tl kd (nI n) lo u18.1 u18.2 u2.2 f3 f4 f5 (40 - (fk_pt (fk_pl 6 (fk_ms (fk_v (kf j) v) (fk_dn (kf j))) [])).length) (fk_pt (fk_pl 6 (fk_ms (fk_v (kf j) v) (fk_dn (kf j))) [])) (fk_ms (fk_v (kf j) v) (fk_dn (kf j)) / 1000000) hM1 (by omega) hT1 (by omega)) (cwV 1 hts gX3_text_X3_writeWholePart rfl rfl rfl (by decide +kernel) ⟨Nat.le_of_ble_eq_true rfl, Nat.le_of_ble_eq_true rfl⟩) (fk_preV 0 4 hK hN hP hD rfl rfl) rfl rfl hl.1 rfl (lv_room (Nat.le_of_ble_eq_true rfl)) dX3_text_80 ⟨Nat.le_of_ble_eq_true rfl, Nat.le_of_ble_eq_true rfl⟩) (fun u20 H locs hw hP hD hS => ?_)
        have hP : va_P D vwCl (fk_wx cJ cC cK ad kd (nI n) lo u20.1 (nI (40 - (fk_tl4 (fk_v (kf j) v) (fk_dn (kf j))).length)) u20.2 u2.2 f3 f4 f5 ++ tl) H := hP
        have hD : va_D A (fk_wx cJ cC cK ad kd (nI n) lo u20.1 (nI (40 - (fk_tl4 (fk_v (kf j) v) (fk_dn (kf j))).length)) u20.2 u2.2 f3 f4 f5 ++ tl) := hD
        have hT4 : fk_Tx (fk_tl4 (fk_v (kf j) v) (fk_dn (kf j))) u20.1 (40 - (fk_tl4 (fk_v (kf j) v) (fk_dn (kf j))).length) := hw
        have hl4 := fk_wl_len 24 39 (fk_ms (fk_v (kf j) v) (fk_dn (kf j)) / 1000000 / 10) (fk_pt (fk_pl 6 (fk_ms (fk_v (kf j) v) (fk_dn (kf j))) []) ++ [fk_dc (fk_ms (fk_v (kf j) v) (fk_dn (kf j)) / 1000000)]) (by omega) (by rw [show (10 : Int) ^ 24 = 1000000000000000000000000 by decide]; omega)
        simp only [List.length_append, List.length_singleton] at hl4
        have hl4 : (fk_tl4 (fk_v (kf j) v) (fk_dn (kf j))).length ≤ 33 := by rw [fk_tl4]; omega
        refine lv_iload hx hb dX3_text_83 (lv_at hl 0 rfl) ?_
        refine lv_if_eq (tgt := 94) hx hb dX3_text_85 (by decide) (fun c_85 => False.elim (absurd c_85 (by decide))) (fun c_85 => ?_)
        refine lv_aload_n hx hb dX3_text_88 rfl (lv_at hl 4 rfl) ?_
        refine lv_bipush (v := 45) hx hb dX3_text_89 (by decide) ?_
        refine fk_cv hD hS hA (va_runV (As := [.int 45]) (rest := []) ⟨hx, hb, hml, hown, hts⟩ (kX3_writeBefore _ ad tl kd (nI n) lo u20.1 u20.2 u2.2 f3 f4 f5 (40 - (fk_tl4 (fk_v (kf j) v) (fk_dn (kf j))).length) (fk_tl4 (fk_v (kf j) v) (fk_dn (kf j))) 45 hT4 (by omega) (fk_nch 45 (by omega)).1) (cwV 1 hts gX3_text_X3_writeBefore rfl rfl rfl (by decide +kernel) ⟨Nat.le_of_ble_eq_true rfl, Nat.le_of_ble_eq_true rfl⟩) (fk_preV 0 4 hK hN hP hD rfl rfl) rfl rfl hl.1 rfl (lv_room (Nat.le_of_ble_eq_true rfl)) dX3_text_91 ⟨Nat.le_of_ble_eq_true rfl, Nat.le_of_ble_eq_true rfl⟩) (fun ch22 H locs hw hP hD hS => ?_)
        have hP : va_P D vwCl (fk_wx cJ cC cK ad kd (nI n) lo ch22 (nI (40 - (fk_tl4 (fk_v (kf j) v) (fk_dn (kf j))).length - 1)) u20.2 u2.2 f3 f4 f5 ++ tl) H := hP
        have hD : va_D A (fk_wx cJ cC cK ad kd (nI n) lo ch22 (nI (40 - (fk_tl4 (fk_v (kf j) v) (fk_dn (kf j))).length - 1)) u20.2 u2.2 f3 f4 f5 ++ tl) := hD
        have hT5 := hw
        have htx : fk_txt (fk_v (kf j) v) (fk_dn (kf j)) = fk_tl4 (fk_v (kf j) v) (fk_dn (kf j)) ++ [45] := by rw [fk_txt, if_pos hneg]
        have hlx : 40 - (fk_tl4 (fk_v (kf j) v) (fk_dn (kf j))).length - 1 = 40 - (fk_txt (fk_v (kf j) v) (fk_dn (kf j))).length := by rw [htx]; simp only [List.length_append, List.length_singleton]; omega
        rw [hlx] at hP hD hT5
        rw [← htx] at hT5
        have hTf := hT5
        have hl4 : (fk_txt (fk_v (kf j) v) (fk_dn (kf j))).length ≤ 34 := by rw [htx]; simp only [List.length_append, List.length_singleton]; omega
        refine lv_bipush (v := 40) hx hb dX3_text_94 (by decide) ?_
        refine lv_aload_n hx hb dX3_text_96 rfl (lv_at hl 4 rfl) ?_
        refine va_get (D := D) (ci := 4) (v := .int (nI (40 - (fk_txt (fk_v (kf j) v) (fk_dn (kf j))).length))) (C := RX3) (T := TX3) (N := 8) hx hb hts k2 hown hK hP 0 rfl rfl 4 (by decide) k16 (fun _ h9 => h9) rfl dX3_text_97 ?_
        refine lv_isub hx hb dX3_text_100 ?_
        refine lv_topi (fun x24 ex24 => ?_)
        have ex24q : x24 = nI ((fk_txt (fk_v (kf j) v) (fk_dn (kf j))).length) := by
          rw [ex24, show (40 : Int32) = nI 40 from rfl, pk_sub (by omega), show 40 - (40 - (fk_txt (fk_v (kf j) v) (fk_dn (kf j))).length) = (fk_txt (fk_v (kf j) v) (fk_dn (kf j))).length by omega]
        subst ex24q
        rw [hQQ]
        exact W.iret (v := nI ((fk_txt (fk_v (kf j) v) (fk_dn (kf j))).length)) hx hb hr (fun t ht hW => ⟨⟨(nI ((fk_txt (fk_v (kf j) v) (fk_dn (kf j))).length)), (ch22, 40 - (fk_txt (fk_v (kf j) v) (fk_dn (kf j))).length, u20.2, u2.2), rfl, Or.inr ⟨j, hj, rfl, rfl, rfl, by omega, hTf⟩, by rw [ht]; exact hP, va_K.moved hW.alike hK, hD⟩, hS.F ht⟩) hS.2.2 dX3_text_101
