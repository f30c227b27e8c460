/-! Fraction: commonDivisor, reduce, toMillionths, by program -/
abbrev rmX0_commonDivisor : Room := { frames := 0, cells := 0, slots := 0, locals := 0 }
set_option maxHeartbeats 4000000 in
set_option maxRecDepth 100000 in
/-- Fraction.commonDivisor -/
theorem kX0_commonDivisor {l : Launch} {D : va_G} {cJ cC cI cZ cK : ClassId} (sz : Nat) (ws : va_W) (a0 b0 : Nat) (hab : b0 < a0) (ha : a0 ≤ 1000) : Met l yX0_commonDivisor wsX0_commonDivisor rmX0_commonDivisor (va_Pc [.long (lN a0), .long (lN b0)] (fk_pre D (fk_ty cJ cC cI cZ cK) ws sz)) (va_Ql (fun (r : Int64) (_ : Unit) => r = lN (Nat.gcd a0 b0)) (fk_Bd D (fk_ty cJ cC cI cZ cK) (va_A ws sz) (fun _ : Unit => ws)) (va_A ws sz)) 0 0 (va_A ws sz) := by
  refine fk_ofW cX0_commonDivisor 11 (some .long) (fun A => va_Ql (fun (r : Int64) (_ : Unit) => r = lN (Nat.gcd a0 b0)) (fk_Bd D (fk_ty cJ cC cI cZ cK) A (fun _ : Unit => ws)) A) rfl (by decide) (Nat.le_of_ble_eq_true rfl) ?_
  intro p e s m below meth c A ls args QQ hQQ hAt hP hK hN hD hA hS hl
  obtain ⟨⟨hx, hb, hml, hown, hts⟩, hr, hlocks, hin⟩ := hAt
  have hl : lv_has ls 11 [(0, .long (lN a0)), (2, .long (lN b0))] := hl
  refine lv_lload_n hx hb dX0_commonDivisor_0 rfl (lv_at hl 0 rfl) ?_
  refine lv_lstore (lv' := [(4, .long (lN a0)), (0, .long (lN a0)), (2, .long (lN b0))]) hx hb dX0_commonDivisor_1 hl (by decide) rfl (fun ls hl => ?_)
  refine lv_lload_n hx hb dX0_commonDivisor_3 rfl (lv_at hl 2 rfl) ?_
  refine lv_lstore (lv' := [(6, .long (lN b0)), (4, .long (lN a0)), (0, .long (lN a0)), (2, .long (lN b0))]) hx hb dX0_commonDivisor_4 hl (by decide) rfl (fun ls hl => ?_)
  refine lv_iconst (v := 0) hx hb dX0_commonDivisor_6 (by decide) ?_
  refine lv_istore (lv' := [(8, .int 0), (6, .long (lN b0)), (4, .long (lN a0)), (0, .long (lN a0)), (2, .long (lN b0))]) hx hb dX0_commonDivisor_7 hl (by decide) rfl (fun ls hl => ?_)
  have L9 : ∀ (fu9 : Nat) (sp : Nat) (g0 : Nat) (l0 : Nat), 64 - sp < fu9 → (sp ≤ 64) → (l0 < g0) → (g0 ≤ 1000) → (g0 * l0 * 2 ^ sp ≤ 1000000) → (Nat.gcd g0 l0 = Nat.gcd a0 b0) → ∀ (H : Heap) (locs : List Loc) (ls : Array Slot), va_P D vwCl ws H → va_D A ws → va_S A s.heap H locs → lv_has ls 11 [(0, .long (lN a0)), (2, .long (lN b0)), (4, .long (lN g0)), (6, .long (lN l0)), (8, .int (nI sp))] → W p l e rmX0_commonDivisor s m args below meth c H locs 0 0 QQ (F0 m 9 ls []) := by
    intro fu9
    induction fu9 with
    | zero => intro sp g0 l0 hfu; exact absurd hfu (Nat.not_lt_zero _)
    | succ fu9 ih9 =>
      intro sp g0 l0 hfu9 hsp hlg hg hp hgc H locs ls hP hD hS hl
      refine lv_iload hx hb dX0_commonDivisor_9 (lv_at hl 4 rfl) ?_
      refine lv_bipush (v := 64) hx hb dX0_commonDivisor_11 (by decide) ?_
      refine lv_icmp_ge (tgt := 44) hx hb dX0_commonDivisor_13 (by decide) (fun c_13 => ?_) (fun c_13 => ?_)
      · have h64 : sp = 64 := by have q := (nI_leI (a := 64) (b := sp) (by omega) (by omega)).mp c_13; omega
        subst h64
        have hl0 : l0 = 0 := by rcases Nat.eq_zero_or_pos l0 with q | q; exact q; exact (fk_eu64 q hlg hp).elim
        refine lv_lload hx hb dX0_commonDivisor_44 (lv_at hl 2 rfl) ?_
        rw [hQQ]
        exact W.lret (v := (lN g0)) hx hb hr (fun t ht hW => ⟨⟨(lN g0), (), rfl, (by rw [← hgc, hl0, Nat.gcd_zero_right]), by rw [ht]; exact hP, va_K.moved hW.alike hK, hD⟩, hS.F ht⟩) hS.2.2 dX0_commonDivisor_46
      · have h64 : sp < 64 := by rcases Nat.lt_or_ge sp 64 with q | q; exact q; exact absurd ((nI_leI (a := 64) (b := sp) (by omega) (by omega)).mpr q) c_13
        refine lv_lload hx hb dX0_commonDivisor_16 (lv_at hl 3 rfl) ?_
        refine lv_lconst (v := 0) hx hb dX0_commonDivisor_18 (by decide) ?_
        refine W.lcmp hx hb dX0_commonDivisor_19 ?_
        refine lv_if_eq (tgt := 44) hx hb dX0_commonDivisor_20 (by decide) (fun c_20 => ?_) (fun c_20 => ?_)
        · rw [lg_cmp_eq] at c_20
          have hl0 : l0 = 0 := (lN_eq (a := l0) (b := 0) (by omega) (by omega)).mp c_20
          refine lv_lload hx hb dX0_commonDivisor_44 (lv_at hl 2 rfl) ?_
          rw [hQQ]
          exact W.lret (v := (lN g0)) hx hb hr (fun t ht hW => ⟨⟨(lN g0), (), rfl, (by rw [← hgc, hl0, Nat.gcd_zero_right]), by rw [ht]; exact hP, va_K.moved hW.alike hK, hD⟩, hS.F ht⟩) hS.2.2 dX0_commonDivisor_46
        · rw [lg_cmp_eq] at c_20
          have hl1 : 0 < l0 := by rcases Nat.eq_zero_or_pos l0 with q | q; exact absurd (by rw [q]; rfl) c_20; exact q
          have a1 : g0 % l0 < l0 := Nat.mod_lt _ hl1
          have a2 : l0 ≤ 1000 := by omega
          have a3 := fk_eu hl1 hlg hp
          have a4 : Nat.gcd l0 (g0 % l0) = Nat.gcd a0 b0 := by rw [← hgc, Nat.gcd_comm l0, ← Nat.gcd_rec, Nat.gcd_comm]
          refine lv_lload hx hb dX0_commonDivisor_23 (lv_at hl 2 rfl) ?_
          refine lv_lload hx hb dX0_commonDivisor_25 (lv_at hl 3 rfl) ?_
          refine lv_lrem hx hb dX0_commonDivisor_27 (fun q => c_20 q) ?_
          refine lv_topl (fun x1 ex1 => ?_)
          have ex1q : x1 = lN (g0 % l0) := by
            rw [ex1]; exact fk_lrem (by omega) hl1 (by omega)
          subst ex1q
          refine lv_lstore (lv' := [(9, .long (lN (g0 % l0))), (0, .long (lN a0)), (2, .long (lN b0)), (4, .long (lN g0)), (6, .long (lN l0)), (8, .int (nI sp))]) hx hb dX0_commonDivisor_28 hl (by decide) rfl (fun ls hl => ?_)
          refine lv_lload hx hb dX0_commonDivisor_30 (lv_at hl 4 rfl) ?_
          refine lv_lstore (lv' := [(4, .long (lN l0)), (9, .long (lN (g0 % l0))), (0, .long (lN a0)), (2, .long (lN b0)), (6, .long (lN l0)), (8, .int (nI sp))]) hx hb dX0_commonDivisor_32 hl (by decide) rfl (fun ls hl => ?_)
          refine lv_lload hx hb dX0_commonDivisor_34 (lv_at hl 1 rfl) ?_
          refine lv_lstore (lv' := [(6, .long (lN (g0 % l0))), (4, .long (lN l0)), (9, .long (lN (g0 % l0))), (0, .long (lN a0)), (2, .long (lN b0)), (8, .int (nI sp))]) hx hb dX0_commonDivisor_36 hl (by decide) rfl (fun ls hl => ?_)
          refine lv_iinc (v := nI (sp + 1)) (lv' := [(8, .int (nI (sp + 1))), (6, .long (lN (g0 % l0))), (4, .long (lN l0)), (9, .long (lN (g0 % l0))), (0, .long (lN a0)), (2, .long (lN b0))]) hx hb dX0_commonDivisor_38 hl (k := 5) rfl (by exact nI_1 sp) (by decide) rfl (fun ls hl => ?_)
          refine lv_goto (tgt := 9) hx hb dX0_commonDivisor_41 (by decide) ?_
          exact ih9 (sp + 1) l0 (g0 % l0) (by omega) (by omega) a1 a2 a3 a4 _ _ _ hP hD hS (lv_sub hl [4, 5, 2, 1, 0] rfl)
  exact L9 65 0 a0 b0 (by omega) (by omega) hab ha (by have := Nat.mul_le_mul ha (show b0 ≤ 1000 by omega); omega) rfl _ _ _ hP hD hS (lv_sub hl [3, 4, 2, 1, 0] rfl)
abbrev rmX0_reduce : Room := { frames := 2, cells := 0, slots := 0, locals := 45 }
set_option maxHeartbeats 4000000 in
set_option maxRecDepth 100000 in
/-- Fraction.reduce -/
theorem kX0_reduce {l : Launch} {D : va_G} {cJ cC cI cZ cK : ClassId} (sz : Nat) (ad : Nat → Nat) (tl : va_W) (kd : Nat → Option Nat) (kc lo : Int32) (ch : Nat → Int32) (ts : Int32) (f1 f2 f3 f4 f5 : Nat → Int64) (a b : Int) (hRa : fk_R a f1) (hRb : fk_R b f2) (hab : -18889465931478580854784 ≤ a ∧ a ≤ 18889465931478580854784) (hbb : 1 ≤ b ∧ b ≤ 1000) : Met l yX0_reduce wsX0_reduce rmX0_reduce (va_Pc [.ref (ad 3), .ref (ad 9)] (fk_pre D (fk_ty cJ cC cI cZ cK) (fk_wx cJ cC cK ad kd kc lo ch ts f1 f2 f3 f4 f5 ++ tl) sz)) (va_Qv (fun u : (Nat → Int64) × (Nat → Int64) × (Nat → Int64) => fk_R (fk_abs a / fk_gc a b * (if a < 0 then -1 else 1)) u.1 ∧ fk_R (b / fk_gc a b) u.2.1) (fk_Bd D (fk_ty cJ cC cI cZ cK) (va_A (fk_wx cJ cC cK ad kd kc lo ch ts f1 f2 f3 f4 f5 ++ tl) sz) (fun u : (Nat → Int64) × (Nat → Int64) × (Nat → Int64) => fk_wx cJ cC cK ad kd kc lo ch ts u.1 u.2.1 u.2.2 f4 f5 ++ tl)) (va_A (fk_wx cJ cC cK ad kd kc lo ch ts f1 f2 f3 f4 f5 ++ tl) sz)) 0 0 (va_A (fk_wx cJ cC cK ad kd kc lo ch ts f1 f2 f3 f4 f5 ++ tl) sz) := by
  refine fk_ofW cX0_reduce 7 none (fun A => va_Qv (fun u : (Nat → Int64) × (Nat → Int64) × (Nat → Int64) => fk_R (fk_abs a / fk_gc a b * (if a < 0 then -1 else 1)) u.1 ∧ fk_R (b / fk_gc a b) u.2.1) (fk_Bd D (fk_ty cJ cC cI cZ cK) A (fun u : (Nat → Int64) × (Nat → Int64) × (Nat → Int64) => fk_wx cJ cC cK ad kd kc lo ch ts u.1 u.2.1 u.2.2 f4 f5 ++ tl)) A) rfl (by decide) (Nat.le_of_ble_eq_true rfl) ?_
  intro p e s m below meth c A ls args QQ hQQ hAt hP hK hN hD hA hS hl
  obtain ⟨⟨hx, hb, hml, hown, hts⟩, hr, hlocks, hin⟩ := hAt
  have hl : lv_has ls 7 [(0, .ref (ad 3)), (1, .ref (ad 9))] := hl
  have k1 := hts (.fieldLink RX0 12 "FixedKinds$Fraction" "above" "LFixedKinds$Whole;") (by decide +kernel)
  have k2 := (by decide +kernel : ∀ w ∈ u_ws RX0 TX0 2, w ∈ wsX0_reduce)
  have k3 := hN _ fkn_X0_51
  have k4 := hts (.initialized RX2) (by decide +kernel)
  have k5 := hts (.instanceMethod yX2_isNegative) (by decide +kernel)
  have k6 := hts (.selects RX2 yX2_isNegative yX2_isNegative) (by decide +kernel)
  have k7 := hts (.fieldLink RX0 18 "FixedKinds$Fraction" "below" "LFixedKinds$Whole;") (by decide +kernel)
  have k8 := hN _ fkn_X0_77
  have k9 := hts (.instanceMethod yX2_bitsFrom) (by decide +kernel)
  have k10 := hts (.selects RX2 yX2_bitsFrom yX2_bitsFrom) (by decide +kernel)
  have k11 := hN _ fkn_X0_81
  have k12 := hts (.instanceMethod yX2_copy) (by decide +kernel)
  have k13 := hts (.selects RX2 yX2_copy yX2_copy) (by decide +kernel)
  have k14 := hN _ fkn_X0_84
  have k15 := hts (.instanceMethod yX2_shorten) (by decide +kernel)
  have k16 := hts (.selects RX2 yX2_shorten yX2_shorten) (by decide +kernel)
  have k17 := hts (.constantLong RX0 62 (-1)) (by decide +kernel)
  have k18 := hN _ fkn_X0_35
  have k19 := hts (.instanceMethod yX2_scale) (by decide +kernel)
  have k20 := hts (.selects RX2 yX2_scale yX2_scale) (by decide +kernel)
  refine lv_aload_n hx hb dX0_reduce_0 rfl (lv_at hl 0 rfl) ?_
  refine va_get (D := D) (ci := 1) (v := .ref (ad 4)) (C := RX0) (T := TX0) (N := 2) hx hb hts k2 hown hK hP 3 rfl rfl 0 (by decide) k1 (fun _ h9 => h9) rfl dX0_reduce_1 ?_
  refine fk_ci hD hS hA (va_runVN (As := []) (rest := []) ⟨hx, hb, hml, hown, hts⟩ (kX2_isNegative _ _ (ad 4) (ad 5) 4 5 f1 (a) rfl rfl hRa ⟨by omega, by omega⟩) ⟨va_cnB 0 hts gX0_reduce_X2_isNegative_n51 rfl rfl rfl k3 k4 (by decide +kernel) ⟨Nat.le_of_ble_eq_true rfl, Nat.le_of_ble_eq_true rfl⟩, k5, k6⟩ (fk_preV 4 3 hK hN hP hD rfl rfl) rfl rfl hl.1 rfl (lv_room (Nat.le_of_ble_eq_true rfl)) dX0_reduce_4 ⟨Nat.le_of_ble_eq_true rfl, Nat.le_of_ble_eq_true rfl⟩) (fun r1 u H locs hw hP hD hS => ?_)
  have hP : va_P D vwCl (fk_wx cJ cC cK ad kd kc lo ch ts f1 f2 f3 f4 f5 ++ tl) H := hP
  have hD : va_D A (fk_wx cJ cC cK ad kd kc lo ch ts f1 f2 f3 f4 f5 ++ tl) := hD
  have z0 := hw
  refine lv_istore_n (lv' := [(2, .int r1), (0, .ref (ad 3)), (1, .ref (ad 9))]) hx hb dX0_reduce_7 rfl hl (by decide) rfl (fun ls hl => ?_)
  refine lv_iload_n hx hb dX0_reduce_8 rfl (lv_at hl 0 rfl) ?_
  refine lv_if_eq (tgt := 22) hx hb dX0_reduce_9 (by decide) (fun c_9 => ?_) (fun c_9 => ?_)
  · have p_c_9 : ¬ (a < 0) := by intro q; rw [z0, if_pos q] at c_9; exact absurd c_9 (by decide)
    have hAe : fk_abs a = a := by rw [fk_abs, if_neg p_c_9]
    have hA0 := fk_abs_bd hab.1 hab.2
    have hAI : fk_In (fk_abs a) := ⟨by omega, by omega⟩
    rw [← hAe] at hRa
    refine lv_aload_n hx hb dX0_reduce_22 rfl (lv_at hl 1 rfl) ?_
    refine va_get (D := D) (ci := 1) (v := .ref (ad 6)) (C := RX0) (T := TX0) (N := 2) hx hb hts k2 hown hK hP 3 rfl rfl 1 (by decide) k7 (fun _ h9 => h9) rfl dX0_reduce_23 ?_
    refine lv_iconst (v := 0) hx hb dX0_reduce_26 (by decide) ?_
    refine fk_cl hD hS hA (va_runVN (As := [.int 0]) (rest := []) ⟨hx, hb, hml, hown, hts⟩ (kX2_bitsFrom _ _ (ad 6) (ad 7) 6 7 f2 0 (b) rfl rfl hRb (by omega)) ⟨va_cnB 1 hts gX0_reduce_X2_bitsFrom_n77 rfl rfl rfl k8 k4 (by decide +kernel) ⟨Nat.le_of_ble_eq_true rfl, Nat.le_of_ble_eq_true rfl⟩, k9, k10⟩ (fk_preV 6 3 hK hN hP hD rfl rfl) rfl rfl hl.1 rfl (lv_room (Nat.le_of_ble_eq_true rfl)) dX0_reduce_27 ⟨Nat.le_of_ble_eq_true rfl, Nat.le_of_ble_eq_true rfl⟩) (fun r2 u H locs hw hP hD hS => ?_)
    have hP : va_P D vwCl (fk_wx cJ cC cK ad kd kc lo ch ts f1 f2 f3 f4 f5 ++ tl) H := hP
    have hD : va_D A (fk_wx cJ cC cK ad kd kc lo ch ts f1 f2 f3 f4 f5 ++ tl) := hD
    have zb := hw
    have hdn : r2 = lN b.toNat := by
      rw [zb]; apply Int64.toInt_inj.mp; rw [pk_lT (by omega)]; simp only [Int.pow_zero, Int.ediv_one]; rw [Int64.toInt_ofInt_of_le (by omega) (by omega)]; omega
    have hdt : (r2).toInt = b := by rw [hdn, pk_lT (by omega)]; omega
    refine lv_lstore_n (lv' := [(3, .long r2), (2, .int r1), (0, .ref (ad 3)), (1, .ref (ad 9))]) hx hb dX0_reduce_30 rfl hl (by decide) rfl (fun ls hl => ?_)
    refine lv_aload_n hx hb dX0_reduce_31 rfl (lv_at hl 3 rfl) ?_
    refine lv_aload_n hx hb dX0_reduce_32 rfl (lv_at hl 2 rfl) ?_
    refine va_get (D := D) (ci := 1) (v := .ref (ad 4)) (C := RX0) (T := TX0) (N := 2) hx hb hts k2 hown hK hP 3 rfl rfl 0 (by decide) k1 (fun _ h9 => h9) rfl dX0_reduce_33 ?_
    refine fk_cv hD hS hA (va_runVN (As := [.ref (ad 4)]) (rest := []) ⟨hx, hb, hml, hown, hts⟩ (kX2_copy _ _ (ad 9) (ad 10) (ad 4) (ad 5) 9 10 4 5 f3 f1 (fk_abs a) rfl rfl rfl rfl (by decide) hRa) ⟨va_cnB 1 hts gX0_reduce_X2_copy_n81 rfl rfl rfl k11 k4 (by decide +kernel) ⟨Nat.le_of_ble_eq_true rfl, Nat.le_of_ble_eq_true rfl⟩, k12, k13⟩ (fk_preV 9 3 hK hN hP hD rfl rfl) rfl rfl hl.1 rfl (lv_room (Nat.le_of_ble_eq_true rfl)) dX0_reduce_36 ⟨Nat.le_of_ble_eq_true rfl, Nat.le_of_ble_eq_true rfl⟩) (fun g3 H locs hw hP hD hS => ?_)
    have hP : va_P D vwCl (fk_wx cJ cC cK ad kd kc lo ch ts f1 f2 g3 f4 f5 ++ tl) H := hP
    have hD : va_D A (fk_wx cJ cC cK ad kd kc lo ch ts f1 f2 g3 f4 f5 ++ tl) := hD
    have hRg3 := hw
    refine lv_lload_n hx hb dX0_reduce_39 rfl (lv_at hl 0 rfl) ?_
    refine lv_aload_n hx hb dX0_reduce_40 rfl (lv_at hl 3 rfl) ?_
    refine lv_lload_n hx hb dX0_reduce_41 rfl (lv_at hl 0 rfl) ?_
    refine fk_cl hD hS hA (va_runVN (As := [.long r2]) (rest := [.long r2]) ⟨hx, hb, hml, hown, hts⟩ (kX2_shorten _ _ (ad 9) (ad 10) 9 10 g3 r2 (fk_abs a) rfl rfl hRg3 hAI hA0.1 (by omega)) ⟨va_cnB 1 hts gX0_reduce_X2_shorten_n84 rfl rfl rfl k14 k4 (by decide +kernel) ⟨Nat.le_of_ble_eq_true rfl, Nat.le_of_ble_eq_true rfl⟩, k15, k16⟩ (fk_preV 9 3 hK hN hP hD rfl rfl) rfl rfl hl.1 rfl (lv_room (Nat.le_of_ble_eq_true rfl)) dX0_reduce_42 ⟨Nat.le_of_ble_eq_true rfl, Nat.le_of_ble_eq_true rfl⟩) (fun r6 g5 H locs hw hP hD hS => ?_)
    have hP : va_P D vwCl (fk_wx cJ cC cK ad kd kc lo ch ts f1 f2 g5 f4 f5 ++ tl) H := hP
    have hD : va_D A (fk_wx cJ cC cK ad kd kc lo ch ts f1 f2 g5 f4 f5 ++ tl) := hD
    obtain ⟨hqg5, hRg5⟩ := hw
    rw [hdt] at hqg5
    have hsp : r6 = lN (fk_abs a % b).toNat := by
      have q1 := Int.emod_nonneg (fk_abs a) (show b ≠ 0 by omega)
      have q2 := Int.emod_lt_of_pos (fk_abs a) (show 0 < b by omega)
      apply Int64.toInt_inj.mp; rw [pk_lT (by omega), hqg5]; omega
    have q2 := Int.emod_lt_of_pos (fk_abs a) (show 0 < b by omega)
    have q1 := Int.emod_nonneg (fk_abs a) (show b ≠ 0 by omega)
    subst hdn
    subst hsp
    refine fk_cl hD hS hA (va_runS (As := [.long (lN b.toNat), .long (lN (fk_abs a % b).toNat)]) (rest := []) ⟨hx, hb, hml, hown, hts⟩ (kX0_commonDivisor _ _ b.toNat (fk_abs a % b).toNat (by omega) (by omega)) (va_cwS 2 hts gX0_reduce_X0_commonDivisor rfl rfl rfl (by decide +kernel) ⟨Nat.le_of_ble_eq_true rfl, Nat.le_of_ble_eq_true rfl⟩) (fk_preS hK hN hP hD) rfl rfl hl.1 rfl (lv_room (Nat.le_of_ble_eq_true rfl)) dX0_reduce_45 ⟨Nat.le_of_ble_eq_true rfl, Nat.le_of_ble_eq_true rfl⟩) (fun r7 u H locs hw hP hD hS => ?_)
    have hP : va_P D vwCl (fk_wx cJ cC cK ad kd kc lo ch ts f1 f2 g5 f4 f5 ++ tl) H := hP
    have hD : va_D A (fk_wx cJ cC cK ad kd kc lo ch ts f1 f2 g5 f4 f5 ++ tl) := hD
    have hgb := fk_gc_bd a (show 0 < b by omega)
    have hgt : (r7).toInt = fk_gc a b := by rw [hw, fk_gc]; exact pk_lT (by rw [fk_gc] at hgb; omega)
    refine lv_lstore (lv' := [(5, .long r7), (3, .long (lN b.toNat)), (2, .int r1), (0, .ref (ad 3)), (1, .ref (ad 9))]) hx hb dX0_reduce_48 hl (by decide) rfl (fun ls hl => ?_)
    refine lv_lload hx hb dX0_reduce_50 (lv_at hl 0 rfl) ?_
    refine lv_lconst (v := 1) hx hb dX0_reduce_52 (by decide) ?_
    refine W.lcmp hx hb dX0_reduce_53 ?_
    refine lv_if_le (tgt := 77) hx hb dX0_reduce_54 (by decide) (fun c_54 => ?_) (fun c_54 => ?_)
    · rw [lg_cmp_le] at c_54
      rw [Int64.le_iff_toInt_le, hgt, show (1 : Int64).toInt = 1 by decide] at c_54
      have hg1 : fk_gc a b = 1 := by omega
      have hv1 : fk_R (fk_abs a / fk_gc a b) f1 := by rw [hg1, Int.ediv_one]; exact hRa
      have hv2 : fk_R (b / fk_gc a b) f2 := by rw [hg1, Int.ediv_one]; exact hRb
      refine lv_iload_n hx hb dX0_reduce_77 rfl (lv_at hl 2 rfl) ?_
      refine lv_if_eq (tgt := 91) hx hb dX0_reduce_78 (by decide) (fun c_78 => ?_) (fun c_78 => ?_)
      · have p_c_78 : ¬ (a < 0) := by intro q; rw [z0, if_pos q] at c_78; exact absurd c_78 (by decide)
        rw [hQQ]
        exact W.vret hx hb hr (fun t ht hW => ⟨⟨(f1, f2, g5), rfl, ⟨(by rw [if_neg p_c_78, Int.mul_one]; exact hv1), hv2⟩, by rw [ht]; exact hP, va_K.moved hW.alike hK, hD⟩, hS.F ht⟩) hS.2.2 dX0_reduce_91
      · have p_c_78 : a < 0 := by by_cases q : a < 0; exact q; rw [z0, if_neg q] at c_78; exact absurd rfl c_78
        refine lv_aload_n hx hb dX0_reduce_81 rfl (lv_at hl 3 rfl) ?_
        refine va_get (D := D) (ci := 1) (v := .ref (ad 4)) (C := RX0) (T := TX0) (N := 2) hx hb hts k2 hown hK hP 3 rfl rfl 0 (by decide) k1 (fun _ h9 => h9) rfl dX0_reduce_82 ?_
        refine lv_ldc2 (v := (-1)) hx hb hown k17 dX0_reduce_85 ?_
        refine fk_cv hD hS hA (va_runVN (As := [.long (-1)]) (rest := []) ⟨hx, hb, hml, hown, hts⟩ (kX2_scale _ _ (ad 4) (ad 5) 4 5 f1 (-1) (fk_abs a / fk_gc a b) rfl rfl hv1 (by decide)) ⟨va_cnB 1 hts gX0_reduce_X2_scale_n35 rfl rfl rfl k18 k4 (by decide +kernel) ⟨Nat.le_of_ble_eq_true rfl, Nat.le_of_ble_eq_true rfl⟩, k19, k20⟩ (fk_preV 4 3 hK hN hP hD rfl rfl) rfl rfl hl.1 rfl (lv_room (Nat.le_of_ble_eq_true rfl)) dX0_reduce_88 ⟨Nat.le_of_ble_eq_true rfl, Nat.le_of_ble_eq_true rfl⟩) (fun g8 H locs hw hP hD hS => ?_)
        have hP : va_P D vwCl (fk_wx cJ cC cK ad kd kc lo ch ts g8 f2 g5 f4 f5 ++ tl) H := hP
        have hD : va_D A (fk_wx cJ cC cK ad kd kc lo ch ts g8 f2 g5 f4 f5 ++ tl) := hD
        rw [show ((-1) : Int64).toInt = (-1) by decide] at hw
        have hRg8 := hw
        rw [hQQ]
        exact W.vret hx hb hr (fun t ht hW => ⟨⟨(g8, f2, g5), rfl, ⟨(by rw [if_pos p_c_78]; exact hRg8), hv2⟩, by rw [ht]; exact hP, va_K.moved hW.alike hK, hD⟩, hS.F ht⟩) hS.2.2 dX0_reduce_91
    · rw [lg_cmp_le] at c_54
      rw [Int64.le_iff_toInt_le, hgt, show (1 : Int64).toInt = 1 by decide] at c_54
      refine lv_aload_n hx hb dX0_reduce_57 rfl (lv_at hl 3 rfl) ?_
      refine va_get (D := D) (ci := 1) (v := .ref (ad 4)) (C := RX0) (T := TX0) (N := 2) hx hb hts k2 hown hK hP 3 rfl rfl 0 (by decide) k1 (fun _ h9 => h9) rfl dX0_reduce_58 ?_
      refine lv_lload hx hb dX0_reduce_61 (lv_at hl 0 rfl) ?_
      refine fk_cl hD hS hA (va_runVN (As := [.long r7]) (rest := []) ⟨hx, hb, hml, hown, hts⟩ (kX2_shorten _ _ (ad 4) (ad 5) 4 5 f1 r7 (fk_abs a) rfl rfl hRa hAI hA0.1 (by omega)) ⟨va_cnB 1 hts gX0_reduce_X2_shorten_n84 rfl rfl rfl k14 k4 (by decide +kernel) ⟨Nat.le_of_ble_eq_true rfl, Nat.le_of_ble_eq_true rfl⟩, k15, k16⟩ (fk_preV 4 3 hK hN hP hD rfl rfl) rfl rfl hl.1 rfl (lv_room (Nat.le_of_ble_eq_true rfl)) dX0_reduce_63 ⟨Nat.le_of_ble_eq_true rfl, Nat.le_of_ble_eq_true rfl⟩) (fun r11 g10 H locs hw hP hD hS => ?_)
      have hP : va_P D vwCl (fk_wx cJ cC cK ad kd kc lo ch ts g10 f2 g5 f4 f5 ++ tl) H := hP
      have hD : va_D A (fk_wx cJ cC cK ad kd kc lo ch ts g10 f2 g5 f4 f5 ++ tl) := hD
      obtain ⟨hqg10, hRg10⟩ := hw
      rw [hgt] at hRg10
      refine lv_pop2_2 hx hb dX0_reduce_66 rfl ?_
      refine lv_aload_n hx hb dX0_reduce_67 rfl (lv_at hl 3 rfl) ?_
      refine va_get (D := D) (ci := 1) (v := .ref (ad 6)) (C := RX0) (T := TX0) (N := 2) hx hb hts k2 hown hK hP 3 rfl rfl 1 (by decide) k7 (fun _ h9 => h9) rfl dX0_reduce_68 ?_
      refine lv_lload hx hb dX0_reduce_71 (lv_at hl 0 rfl) ?_
      refine fk_cl hD hS hA (va_runVN (As := [.long r7]) (rest := []) ⟨hx, hb, hml, hown, hts⟩ (kX2_shorten _ _ (ad 6) (ad 7) 6 7 f2 r7 (b) rfl rfl hRb ⟨by omega, by omega⟩ (by omega) (by omega)) ⟨va_cnB 1 hts gX0_reduce_X2_shorten_n84 rfl rfl rfl k14 k4 (by decide +kernel) ⟨Nat.le_of_ble_eq_true rfl, Nat.le_of_ble_eq_true rfl⟩, k15, k16⟩ (fk_preV 6 3 hK hN hP hD rfl rfl) rfl rfl hl.1 rfl (lv_room (Nat.le_of_ble_eq_true rfl)) dX0_reduce_73 ⟨Nat.le_of_ble_eq_true rfl, Nat.le_of_ble_eq_true rfl⟩) (fun r13 g12 H locs hw hP hD hS => ?_)
      have hP : va_P D vwCl (fk_wx cJ cC cK ad kd kc lo ch ts g10 g12 g5 f4 f5 ++ tl) H := hP
      have hD : va_D A (fk_wx cJ cC cK ad kd kc lo ch ts g10 g12 g5 f4 f5 ++ tl) := hD
      obtain ⟨hqg12, hRg12⟩ := hw
      rw [hgt] at hRg12
      refine lv_pop2_2 hx hb dX0_reduce_76 rfl ?_
      have hv1 := hRg10
      have hv2 := hRg12
      refine lv_iload_n hx hb dX0_reduce_77 rfl (lv_at hl 2 rfl) ?_
      refine lv_if_eq (tgt := 91) hx hb dX0_reduce_78 (by decide) (fun c_78 => ?_) (fun c_78 => ?_)
      · have p_c_78 : ¬ (a < 0) := by intro q; rw [z0, if_pos q] at c_78; exact absurd c_78 (by decide)
        rw [hQQ]
        exact W.vret hx hb hr (fun t ht hW => ⟨⟨(g10, g12, g5), rfl, ⟨(by rw [if_neg p_c_78, Int.mul_one]; exact hv1), hv2⟩, by rw [ht]; exact hP, va_K.moved hW.alike hK, hD⟩, hS.F ht⟩) hS.2.2 dX0_reduce_91
      · have p_c_78 : a < 0 := by by_cases q : a < 0; exact q; rw [z0, if_neg q] at c_78; exact absurd rfl c_78
        refine lv_aload_n hx hb dX0_reduce_81 rfl (lv_at hl 3 rfl) ?_
        refine va_get (D := D) (ci := 1) (v := .ref (ad 4)) (C := RX0) (T := TX0) (N := 2) hx hb hts k2 hown hK hP 3 rfl rfl 0 (by decide) k1 (fun _ h9 => h9) rfl dX0_reduce_82 ?_
        refine lv_ldc2 (v := (-1)) hx hb hown k17 dX0_reduce_85 ?_
        refine fk_cv hD hS hA (va_runVN (As := [.long (-1)]) (rest := []) ⟨hx, hb, hml, hown, hts⟩ (kX2_scale _ _ (ad 4) (ad 5) 4 5 g10 (-1) (fk_abs a / fk_gc a b) rfl rfl hv1 (by decide)) ⟨va_cnB 1 hts gX0_reduce_X2_scale_n35 rfl rfl rfl k18 k4 (by decide +kernel) ⟨Nat.le_of_ble_eq_true rfl, Nat.le_of_ble_eq_true rfl⟩, k19, k20⟩ (fk_preV 4 3 hK hN hP hD rfl rfl) rfl rfl hl.1 rfl (lv_room (Nat.le_of_ble_eq_true rfl)) dX0_reduce_88 ⟨Nat.le_of_ble_eq_true rfl, Nat.le_of_ble_eq_true rfl⟩) (fun g14 H locs hw hP hD hS => ?_)
        have hP : va_P D vwCl (fk_wx cJ cC cK ad kd kc lo ch ts g14 g12 g5 f4 f5 ++ tl) H := hP
        have hD : va_D A (fk_wx cJ cC cK ad kd kc lo ch ts g14 g12 g5 f4 f5 ++ tl) := hD
        rw [show ((-1) : Int64).toInt = (-1) by decide] at hw
        have hRg14 := hw
        rw [hQQ]
        exact W.vret hx hb hr (fun t ht hW => ⟨⟨(g14, g12, g5), rfl, ⟨(by rw [if_pos p_c_78]; exact hRg14), hv2⟩, by rw [ht]; exact hP, va_K.moved hW.alike hK, hD⟩, hS.F ht⟩) hS.2.2 dX0_reduce_91
  · have p_c_9 : a < 0 := by by_cases q : a < 0; exact q; rw [z0, if_neg q] at c_9; exact absurd rfl c_9
    refine lv_aload_n hx hb dX0_reduce_12 rfl (lv_at hl 1 rfl) ?_
    refine va_get (D := D) (ci := 1) (v := .ref (ad 4)) (C := RX0) (T := TX0) (N := 2) hx hb hts k2 hown hK hP 3 rfl rfl 0 (by decide) k1 (fun _ h9 => h9) rfl dX0_reduce_13 ?_
    refine lv_ldc2 (v := (-1)) hx hb hown k17 dX0_reduce_16 ?_
    refine fk_cv hD hS hA (va_runVN (As := [.long (-1)]) (rest := []) ⟨hx, hb, hml, hown, hts⟩ (kX2_scale _ _ (ad 4) (ad 5) 4 5 f1 (-1) (a) rfl rfl hRa (by decide)) ⟨va_cnB 1 hts gX0_reduce_X2_scale_n35 rfl rfl rfl k18 k4 (by decide +kernel) ⟨Nat.le_of_ble_eq_true rfl, Nat.le_of_ble_eq_true rfl⟩, k19, k20⟩ (fk_preV 4 3 hK hN hP hD rfl rfl) rfl rfl hl.1 rfl (lv_room (Nat.le_of_ble_eq_true rfl)) dX0_reduce_19 ⟨Nat.le_of_ble_eq_true rfl, Nat.le_of_ble_eq_true rfl⟩) (fun g16 H locs hw hP hD hS => ?_)
    have hP : va_P D vwCl (fk_wx cJ cC cK ad kd kc lo ch ts g16 f2 f3 f4 f5 ++ tl) H := hP
    have hD : va_D A (fk_wx cJ cC cK ad kd kc lo ch ts g16 f2 f3 f4 f5 ++ tl) := hD
    rw [show ((-1) : Int64).toInt = (-1) by decide] at hw
    have hRg16 := hw
    have hAe : fk_abs a = a * -1 := by rw [fk_abs, if_pos p_c_9]; omega
    have hA0 := fk_abs_bd hab.1 hab.2
    have hAI : fk_In (fk_abs a) := ⟨by omega, by omega⟩
    rw [← hAe] at hRg16
    refine lv_aload_n hx hb dX0_reduce_22 rfl (lv_at hl 1 rfl) ?_
    refine va_get (D := D) (ci := 1) (v := .ref (ad 6)) (C := RX0) (T := TX0) (N := 2) hx hb hts k2 hown hK hP 3 rfl rfl 1 (by decide) k7 (fun _ h9 => h9) rfl dX0_reduce_23 ?_
    refine lv_iconst (v := 0) hx hb dX0_reduce_26 (by decide) ?_
    refine fk_cl hD hS hA (va_runVN (As := [.int 0]) (rest := []) ⟨hx, hb, hml, hown, hts⟩ (kX2_bitsFrom _ _ (ad 6) (ad 7) 6 7 f2 0 (b) rfl rfl hRb (by omega)) ⟨va_cnB 1 hts gX0_reduce_X2_bitsFrom_n77 rfl rfl rfl k8 k4 (by decide +kernel) ⟨Nat.le_of_ble_eq_true rfl, Nat.le_of_ble_eq_true rfl⟩, k9, k10⟩ (fk_preV 6 3 hK hN hP hD rfl rfl) rfl rfl hl.1 rfl (lv_room (Nat.le_of_ble_eq_true rfl)) dX0_reduce_27 ⟨Nat.le_of_ble_eq_true rfl, Nat.le_of_ble_eq_true rfl⟩) (fun r18 u H locs hw hP hD hS => ?_)
    have hP : va_P D vwCl (fk_wx cJ cC cK ad kd kc lo ch ts g16 f2 f3 f4 f5 ++ tl) H := hP
    have hD : va_D A (fk_wx cJ cC cK ad kd kc lo ch ts g16 f2 f3 f4 f5 ++ tl) := hD
    have zb := hw
    have hdn : r18 = lN b.toNat := by
      rw [zb]; apply Int64.toInt_inj.mp; rw [pk_lT (by omega)]; simp only [Int.pow_zero, Int.ediv_one]; rw [Int64.toInt_ofInt_of_le (by omega) (by omega)]; omega
    have hdt : (r18).toInt = b := by rw [hdn, pk_lT (by omega)]; omega
    refine lv_lstore_n (lv' := [(3, .long r18), (2, .int r1), (0, .ref (ad 3)), (1, .ref (ad 9))]) hx hb dX0_reduce_30 rfl hl (by decide) rfl (fun ls hl => ?_)
    refine lv_aload_n hx hb dX0_reduce_31 rfl (lv_at hl 3 rfl) ?_
    refine lv_aload_n hx hb dX0_reduce_32 rfl (lv_at hl 2 rfl) ?_
    refine va_get (D := D) (ci := 1) (v := .ref (ad 4)) (C := RX0) (T := TX0) (N := 2) hx hb hts k2 hown hK hP 3 rfl rfl 0 (by decide) k1 (fun _ h9 => h9) rfl dX0_reduce_33 ?_
    refine fk_cv hD hS hA (va_runVN (As := [.ref (ad 4)]) (rest := []) ⟨hx, hb, hml, hown, hts⟩ (kX2_copy _ _ (ad 9) (ad 10) (ad 4) (ad 5) 9 10 4 5 f3 g16 (fk_abs a) rfl rfl rfl rfl (by decide) hRg16) ⟨va_cnB 1 hts gX0_reduce_X2_copy_n81 rfl rfl rfl k11 k4 (by decide +kernel) ⟨Nat.le_of_ble_eq_true rfl, Nat.le_of_ble_eq_true rfl⟩, k12, k13⟩ (fk_preV 9 3 hK hN hP hD rfl rfl) rfl rfl hl.1 rfl (lv_room (Nat.le_of_ble_eq_true rfl)) dX0_reduce_36 ⟨Nat.le_of_ble_eq_true rfl, Nat.le_of_ble_eq_true rfl⟩) (fun g19 H locs hw hP hD hS => ?_)
    have hP : va_P D vwCl (fk_wx cJ cC cK ad kd kc lo ch ts g16 f2 g19 f4 f5 ++ tl) H := hP
    have hD : va_D A (fk_wx cJ cC cK ad kd kc lo ch ts g16 f2 g19 f4 f5 ++ tl) := hD
    have hRg19 := hw
    refine lv_lload_n hx hb dX0_reduce_39 rfl (lv_at hl 0 rfl) ?_
    refine lv_aload_n hx hb dX0_reduce_40 rfl (lv_at hl 3 rfl) ?_
    refine lv_lload_n hx hb dX0_reduce_41 rfl (lv_at hl 0 rfl) ?_
    refine fk_cl hD hS hA (va_runVN (As := [.long r18]) (rest := [.long r18]) ⟨hx, hb, hml, hown, hts⟩ (kX2_shorten _ _ (ad 9) (ad 10) 9 10 g19 r18 (fk_abs a) rfl rfl hRg19 hAI hA0.1 (by omega)) ⟨va_cnB 1 hts gX0_reduce_X2_shorten_n84 rfl rfl rfl k14 k4 (by decide +kernel) ⟨Nat.le_of_ble_eq_true rfl, Nat.le_of_ble_eq_true rfl⟩, k15, k16⟩ (fk_preV 9 3 hK hN hP hD rfl rfl) rfl rfl hl.1 rfl (lv_room (Nat.le_of_ble_eq_true rfl)) dX0_reduce_42 ⟨Nat.le_of_ble_eq_true rfl, Nat.le_of_ble_eq_true rfl⟩) (fun r22 g21 H locs hw hP hD hS => ?_)
    have hP : va_P D vwCl (fk_wx cJ cC cK ad kd kc lo ch ts g16 f2 g21 f4 f5 ++ tl) H := hP
    have hD : va_D A (fk_wx cJ cC cK ad kd kc lo ch ts g16 f2 g21 f4 f5 ++ tl) := hD
    obtain ⟨hqg21, hRg21⟩ := hw
    rw [hdt] at hqg21
    have hsp : r22 = lN (fk_abs a % b).toNat := by
      have q1 := Int.emod_nonneg (fk_abs a) (show b ≠ 0 by omega)
      have q2 := Int.emod_lt_of_pos (fk_abs a) (show 0 < b by omega)
      apply Int64.toInt_inj.mp; rw [pk_lT (by omega), hqg21]; omega
    have q2 := Int.emod_lt_of_pos (fk_abs a) (show 0 < b by omega)
    have q1 := Int.emod_nonneg (fk_abs a) (show b ≠ 0 by omega)
    subst hdn
    subst hsp
    refine fk_cl hD hS hA (va_runS (As := [.long (lN b.toNat), .long (lN (fk_abs a % b).toNat)]) (rest := []) ⟨hx, hb, hml, hown, hts⟩ (kX0_commonDivisor _ _ b.toNat (fk_abs a % b).toNat (by omega) (by omega)) (va_cwS 2 hts gX0_reduce_X0_commonDivisor rfl rfl rfl (by decide +kernel) ⟨Nat.le_of_ble_eq_true rfl, Nat.le_of_ble_eq_true rfl⟩) (fk_preS hK hN hP hD) rfl rfl hl.1 rfl (lv_room (Nat.le_of_ble_eq_true rfl)) dX0_reduce_45 ⟨Nat.le_of_ble_eq_true rfl, Nat.le_of_ble_eq_true rfl⟩) (fun r23 u H locs hw hP hD hS => ?_)
    have hP : va_P D vwCl (fk_wx cJ cC cK ad kd kc lo ch ts g16 f2 g21 f4 f5 ++ tl) H := hP
    have hD : va_D A (fk_wx cJ cC cK ad kd kc lo ch ts g16 f2 g21 f4 f5 ++ tl) := hD
    have hgb := fk_gc_bd a (show 0 < b by omega)
    have hgt : (r23).toInt = fk_gc a b := by rw [hw, fk_gc]; exact pk_lT (by rw [fk_gc] at hgb; omega)
    refine lv_lstore (lv' := [(5, .long r23), (3, .long (lN b.toNat)), (2, .int r1), (0, .ref (ad 3)), (1, .ref (ad 9))]) hx hb dX0_reduce_48 hl (by decide) rfl (fun ls hl => ?_)
    refine lv_lload hx hb dX0_reduce_50 (lv_at hl 0 rfl) ?_
    refine lv_lconst (v := 1) hx hb dX0_reduce_52 (by decide) ?_
    refine W.lcmp hx hb dX0_reduce_53 ?_
    refine lv_if_le (tgt := 77) hx hb dX0_reduce_54 (by decide) (fun c_54 => ?_) (fun c_54 => ?_)
    · rw [lg_cmp_le] at c_54
      rw [Int64.le_iff_toInt_le, hgt, show (1 : Int64).toInt = 1 by decide] at c_54
      have hg1 : fk_gc a b = 1 := by omega
      have hv1 : fk_R (fk_abs a / fk_gc a b) g16 := by rw [hg1, Int.ediv_one]; exact hRg16
      have hv2 : fk_R (b / fk_gc a b) f2 := by rw [hg1, Int.ediv_one]; exact hRb
      refine lv_iload_n hx hb dX0_reduce_77 rfl (lv_at hl 2 rfl) ?_
      refine lv_if_eq (tgt := 91) hx hb dX0_reduce_78 (by decide) (fun c_78 => ?_) (fun c_78 => ?_)
      · have p_c_78 : ¬ (a < 0) := by intro q; rw [z0, if_pos q] at c_78; exact absurd c_78 (by decide)
        rw [hQQ]
        exact W.vret hx hb hr (fun t ht hW => ⟨⟨(g16, f2, g21), rfl, ⟨(by rw [if_neg p_c_78, Int.mul_one]; exact hv1), hv2⟩, by rw [ht]; exact hP, va_K.moved hW.alike hK, hD⟩, hS.F ht⟩) hS.2.2 dX0_reduce_91
      · have p_c_78 : a < 0 := by by_cases q : a < 0; exact q; rw [z0, if_neg q] at c_78; exact absurd rfl c_78
        refine lv_aload_n hx hb dX0_reduce_81 rfl (lv_at hl 3 rfl) ?_
        refine va_get (D := D) (ci := 1) (v := .ref (ad 4)) (C := RX0) (T := TX0) (N := 2) hx hb hts k2 hown hK hP 3 rfl rfl 0 (by decide) k1 (fun _ h9 => h9) rfl dX0_reduce_82 ?_
        refine lv_ldc2 (v := (-1)) hx hb hown k17 dX0_reduce_85 ?_
        refine fk_cv hD hS hA (va_runVN (As := [.long (-1)]) (rest := []) ⟨hx, hb, hml, hown, hts⟩ (kX2_scale _ _ (ad 4) (ad 5) 4 5 g16 (-1) (fk_abs a / fk_gc a b) rfl rfl hv1 (by decide)) ⟨va_cnB 1 hts gX0_reduce_X2_scale_n35 rfl rfl rfl k18 k4 (by decide +kernel) ⟨Nat.le_of_ble_eq_true rfl, Nat.le_of_ble_eq_true rfl⟩, k19, k20⟩ (fk_preV 4 3 hK hN hP hD rfl rfl) rfl rfl hl.1 rfl (lv_room (Nat.le_of_ble_eq_true rfl)) dX0_reduce_88 ⟨Nat.le_of_ble_eq_true rfl, Nat.le_of_ble_eq_true rfl⟩) (fun g24 H locs hw hP hD hS => ?_)
        have hP : va_P D vwCl (fk_wx cJ cC cK ad kd kc lo ch ts g24 f2 g21 f4 f5 ++ tl) H := hP
        have hD : va_D A (fk_wx cJ cC cK ad kd kc lo ch ts g24 f2 g21 f4 f5 ++ tl) := hD
        rw [show ((-1) : Int64).toInt = (-1) by decide] at hw
        have hRg24 := hw
        rw [hQQ]
        exact W.vret hx hb hr (fun t ht hW => ⟨⟨(g24, f2, g21), rfl, ⟨(by rw [if_pos p_c_78]; exact hRg24), hv2⟩, by rw [ht]; exact hP, va_K.moved hW.alike hK, hD⟩, hS.F ht⟩) hS.2.2 dX0_reduce_91
    · rw [lg_cmp_le] at c_54
      rw [Int64.le_iff_toInt_le, hgt, show (1 : Int64).toInt = 1 by decide] at c_54
      refine lv_aload_n hx hb dX0_reduce_57 rfl (lv_at hl 3 rfl) ?_
      refine va_get (D := D) (ci := 1) (v := .ref (ad 4)) (C := RX0) (T := TX0) (N := 2) hx hb hts k2 hown hK hP 3 rfl rfl 0 (by decide) k1 (fun _ h9 => h9) rfl dX0_reduce_58 ?_
      refine lv_lload hx hb dX0_reduce_61 (lv_at hl 0 rfl) ?_
      refine fk_cl hD hS hA (va_runVN (As := [.long r23]) (rest := []) ⟨hx, hb, hml, hown, hts⟩ (kX2_shorten _ _ (ad 4) (ad 5) 4 5 g16 r23 (fk_abs a) rfl rfl hRg16 hAI hA0.1 (by omega)) ⟨va_cnB 1 hts gX0_reduce_X2_shorten_n84 rfl rfl rfl k14 k4 (by decide +kernel) ⟨Nat.le_of_ble_eq_true rfl, Nat.le_of_ble_eq_true rfl⟩, k15, k16⟩ (fk_preV 4 3 hK hN hP hD rfl rfl) rfl rfl hl.1 rfl (lv_room (Nat.le_of_ble_eq_true rfl)) dX0_reduce_63 ⟨Nat.le_of_ble_eq_true rfl, Nat.le_of_ble_eq_true rfl⟩) (fun r27 g26 H locs hw hP hD hS => ?_)
      have hP : va_P D vwCl (fk_wx cJ cC cK ad kd kc lo ch ts g26 f2 g21 f4 f5 ++ tl) H := hP
      have hD : va_D A (fk_wx cJ cC cK ad kd kc lo ch ts g26 f2 g21 f4 f5 ++ tl) := hD
      obtain ⟨hqg26, hRg26⟩ := hw
      rw [hgt] at hRg26
      refine lv_pop2_2 hx hb dX0_reduce_66 rfl ?_
      refine lv_aload_n hx hb dX0_reduce_67 rfl (lv_at hl 3 rfl) ?_
      refine va_get (D := D) (ci := 1) (v := .ref (ad 6)) (C := RX0) (T := TX0) (N := 2) hx hb hts k2 hown hK hP 3 rfl rfl 1 (by decide) k7 (fun _ h9 => h9) rfl dX0_reduce_68 ?_
      refine lv_lload hx hb dX0_reduce_71 (lv_at hl 0 rfl) ?_
      refine fk_cl hD hS hA (va_runVN (As := [.long r23]) (rest := []) ⟨hx, hb, hml, hown, hts⟩ (kX2_shorten _ _ (ad 6) (ad 7) 6 7 f2 r23 (b) rfl rfl hRb ⟨by omega, by omega⟩ (by omega) (by omega)) ⟨va_cnB 1 hts gX0_reduce_X2_shorten_n84 rfl rfl rfl k14 k4 (by decide +kernel) ⟨Nat.le_of_ble_eq_true rfl, Nat.le_of_ble_eq_true rfl⟩, k15, k16⟩ (fk_preV 6 3 hK hN hP hD rfl rfl) rfl rfl hl.1 rfl (lv_room (Nat.le_of_ble_eq_true rfl)) dX0_reduce_73 ⟨Nat.le_of_ble_eq_true rfl, Nat.le_of_ble_eq_true rfl⟩) (fun r29 g28 H locs hw hP hD hS => ?_)
      have hP : va_P D vwCl (fk_wx cJ cC cK ad kd kc lo ch ts g26 g28 g21 f4 f5 ++ tl) H := hP
      have hD : va_D A (fk_wx cJ cC cK ad kd kc lo ch ts g26 g28 g21 f4 f5 ++ tl) := hD
      obtain ⟨hqg28, hRg28⟩ := hw
      rw [hgt] at hRg28
      refine lv_pop2_2 hx hb dX0_reduce_76 rfl ?_
      have hv1 := hRg26
      have hv2 := hRg28
      refine lv_iload_n hx hb dX0_reduce_77 rfl (lv_at hl 2 rfl) ?_
      refine lv_if_eq (tgt := 91) hx hb dX0_reduce_78 (by decide) (fun c_78 => ?_) (fun c_78 => ?_)
      · have p_c_78 : ¬ (a < 0) := by intro q; rw [z0, if_pos q] at c_78; exact absurd c_78 (by decide)
        rw [hQQ]
        exact W.vret hx hb hr (fun t ht hW => ⟨⟨(g26, g28, g21), rfl, ⟨(by rw [if_neg p_c_78, Int.mul_one]; exact hv1), hv2⟩, by rw [ht]; exact hP, va_K.moved hW.alike hK, hD⟩, hS.F ht⟩) hS.2.2 dX0_reduce_91
      · have p_c_78 : a < 0 := by by_cases q : a < 0; exact q; rw [z0, if_neg q] at c_78; exact absurd rfl c_78
        refine lv_aload_n hx hb dX0_reduce_81 rfl (lv_at hl 3 rfl) ?_
        refine va_get (D := D) (ci := 1) (v := .ref (ad 4)) (C := RX0) (T := TX0) (N := 2) hx hb hts k2 hown hK hP 3 rfl rfl 0 (by decide) k1 (fun _ h9 => h9) rfl dX0_reduce_82 ?_
        refine lv_ldc2 (v := (-1)) hx hb hown k17 dX0_reduce_85 ?_
        refine fk_cv hD hS hA (va_runVN (As := [.long (-1)]) (rest := []) ⟨hx, hb, hml, hown, hts⟩ (kX2_scale _ _ (ad 4) (ad 5) 4 5 g26 (-1) (fk_abs a / fk_gc a b) rfl rfl hv1 (by decide)) ⟨va_cnB 1 hts gX0_reduce_X2_scale_n35 rfl rfl rfl k18 k4 (by decide +kernel) ⟨Nat.le_of_ble_eq_true rfl, Nat.le_of_ble_eq_true rfl⟩, k19, k20⟩ (fk_preV 4 3 hK hN hP hD rfl rfl) rfl rfl hl.1 rfl (lv_room (Nat.le_of_ble_eq_true rfl)) dX0_reduce_88 ⟨Nat.le_of_ble_eq_true rfl, Nat.le_of_ble_eq_true rfl⟩) (fun g30 H locs hw hP hD hS => ?_)
        have hP : va_P D vwCl (fk_wx cJ cC cK ad kd kc lo ch ts g30 g28 g21 f4 f5 ++ tl) H := hP
        have hD : va_D A (fk_wx cJ cC cK ad kd kc lo ch ts g30 g28 g21 f4 f5 ++ tl) := hD
        rw [show ((-1) : Int64).toInt = (-1) by decide] at hw
        have hRg30 := hw
        rw [hQQ]
        exact W.vret hx hb hr (fun t ht hW => ⟨⟨(g30, g28, g21), rfl, ⟨(by rw [if_pos p_c_78]; exact hRg30), hv2⟩, by rw [ht]; exact hP, va_K.moved hW.alike hK, hD⟩, hS.F ht⟩) hS.2.2 dX0_reduce_91
abbrev rmX0_toMillionths : Room := { frames := 2, cells := 0, slots := 0, locals := 45 }
set_option maxHeartbeats 4000000 in
set_option maxRecDepth 100000 in
/-- Fraction.toMillionths -/
theorem kX0_toMillionths {l : Launch} {D : va_G} {cJ cC cI cZ cK : ClassId} (sz : Nat) (ad : Nat → Nat) (tl : va_W) (kd : Nat → Option Nat) (kc lo : Int32) (ch : Nat → Int32) (ts : Int32) (f1 f2 f3 f4 f5 : Nat → Int64) (a b : Int) (hRa : fk_R a f1) (hRb : fk_R b f2) (hab : -18889465931478580854784 ≤ a ∧ a ≤ 18889465931478580854784) (hbb : 1 ≤ b ∧ b ≤ 1000) : Met l yX0_toMillionths wsX0_toMillionths rmX0_toMillionths (va_Pc [.ref (ad 3)] (fk_pre D (fk_ty cJ cC cI cZ cK) (fk_wx cJ cC cK ad kd kc lo ch ts f1 f2 f3 f4 f5 ++ tl) sz)) (va_Qq (fun (r : Option Nat) (u : Nat → Int64) => r = some (ad 4) ∧ fk_R ((fk_abs a * 2000000 + b) / (2 * b)) u) (fk_Bd D (fk_ty cJ cC cI cZ cK) (va_A (fk_wx cJ cC cK ad kd kc lo ch ts f1 f2 f3 f4 f5 ++ tl) sz) (fun u : (Nat → Int64) => fk_wx cJ cC cK ad kd kc lo ch ts u f2 f3 f4 f5 ++ tl)) (va_A (fk_wx cJ cC cK ad kd kc lo ch ts f1 f2 f3 f4 f5 ++ tl) sz)) 0 0 (va_A (fk_wx cJ cC cK ad kd kc lo ch ts f1 f2 f3 f4 f5 ++ tl) sz) := by
  refine fk_ofW cX0_toMillionths 3 (some (.object "FixedKinds$Whole")) (fun A => va_Qq (fun (r : Option Nat) (u : Nat → Int64) => r = some (ad 4) ∧ fk_R ((fk_abs a * 2000000 + b) / (2 * b)) u) (fk_Bd D (fk_ty cJ cC cI cZ cK) A (fun u : (Nat → Int64) => fk_wx cJ cC cK ad kd kc lo ch ts u f2 f3 f4 f5 ++ tl)) A) rfl (by decide) (Nat.le_of_ble_eq_true rfl) ?_
  intro p e s m below meth c A ls args QQ hQQ hAt hP hK hN hD hA hS hl
  obtain ⟨⟨hx, hb, hml, hown, hts⟩, hr, hlocks, hin⟩ := hAt
  have hl : lv_has ls 3 [(0, .ref (ad 3))] := hl
  have k1 := hts (.fieldLink RX0 12 "FixedKinds$Fraction" "above" "LFixedKinds$Whole;") (by decide +kernel)
  have k2 := (by decide +kernel : ∀ w ∈ u_ws RX0 TX0 2, w ∈ wsX0_toMillionths)
  have k3 := hN _ fkn_X0_51
  have k4 := hts (.initialized RX2) (by decide +kernel)
  have k5 := hts (.instanceMethod yX2_isNegative) (by decide +kernel)
  have k6 := hts (.selects RX2 yX2_isNegative yX2_isNegative) (by decide +kernel)
  have k7 := hts (.fieldLink RX0 18 "FixedKinds$Fraction" "below" "LFixedKinds$Whole;") (by decide +kernel)
  have k8 := hN _ fkn_X0_77
  have k9 := hts (.instanceMethod yX2_bitsFrom) (by decide +kernel)
  have k10 := hts (.selects RX2 yX2_bitsFrom yX2_bitsFrom) (by decide +kernel)
  have k11 := hts (.constantLong RX0 91 2000000) (by decide +kernel)
  have k12 := hN _ fkn_X0_35
  have k13 := hts (.instanceMethod yX2_scale) (by decide +kernel)
  have k14 := hts (.selects RX2 yX2_scale yX2_scale) (by decide +kernel)
  have k15 := hN _ fkn_X0_44
  have k16 := hts (.instanceMethod yX2_grow) (by decide +kernel)
  have k17 := hts (.selects RX2 yX2_grow yX2_grow) (by decide +kernel)
  have k18 := hts (.constantLong RX0 75 2) (by decide +kernel)
  have k19 := hN _ fkn_X0_84
  have k20 := hts (.instanceMethod yX2_shorten) (by decide +kernel)
  have k21 := hts (.selects RX2 yX2_shorten yX2_shorten) (by decide +kernel)
  have k22 := hts (.constantLong RX0 62 (-1)) (by decide +kernel)
  refine lv_aload_n hx hb dX0_toMillionths_0 rfl (lv_at hl 0 rfl) ?_
  refine va_get (D := D) (ci := 1) (v := .ref (ad 4)) (C := RX0) (T := TX0) (N := 2) hx hb hts k2 hown hK hP 3 rfl rfl 0 (by decide) k1 (fun _ h9 => h9) rfl dX0_toMillionths_1 ?_
  refine fk_ci hD hS hA (va_runVN (As := []) (rest := []) ⟨hx, hb, hml, hown, hts⟩ (kX2_isNegative _ _ (ad 4) (ad 5) 4 5 f1 (a) rfl rfl hRa ⟨by omega, by omega⟩) ⟨va_cnB 0 hts gX0_toMillionths_X2_isNegative_n51 rfl rfl rfl k3 k4 (by decide +kernel) ⟨Nat.le_of_ble_eq_true rfl, Nat.le_of_ble_eq_true rfl⟩, k5, k6⟩ (fk_preV 4 3 hK hN hP hD rfl rfl) rfl rfl hl.1 rfl (lv_room (Nat.le_of_ble_eq_true rfl)) dX0_toMillionths_4 ⟨Nat.le_of_ble_eq_true rfl, Nat.le_of_ble_eq_true rfl⟩) (fun r1 u H locs hw hP hD hS => ?_)
  have hP : va_P D vwCl (fk_wx cJ cC cK ad kd kc lo ch ts f1 f2 f3 f4 f5 ++ tl) H := hP
  have hD : va_D A (fk_wx cJ cC cK ad kd kc lo ch ts f1 f2 f3 f4 f5 ++ tl) := hD
  have z0 := hw
  refine lv_if_eq (tgt := 20) hx hb dX0_toMillionths_7 (by decide) (fun c_7 => ?_) (fun c_7 => ?_)
  · have p_c_7 : ¬ (a < 0) := by intro q; rw [z0, if_pos q] at c_7; exact absurd c_7 (by decide)
    have hAe : fk_abs a = a := by rw [fk_abs, if_neg p_c_7]
    have hA0 := fk_abs_bd hab.1 hab.2
    have hAI : fk_In (fk_abs a) := ⟨by omega, by omega⟩
    rw [← hAe] at hRa
    refine lv_aload_n hx hb dX0_toMillionths_20 rfl (lv_at hl 0 rfl) ?_
    refine va_get (D := D) (ci := 1) (v := .ref (ad 6)) (C := RX0) (T := TX0) (N := 2) hx hb hts k2 hown hK hP 3 rfl rfl 1 (by decide) k7 (fun _ h9 => h9) rfl dX0_toMillionths_21 ?_
    refine lv_iconst (v := 0) hx hb dX0_toMillionths_24 (by decide) ?_
    refine fk_cl hD hS hA (va_runVN (As := [.int 0]) (rest := []) ⟨hx, hb, hml, hown, hts⟩ (kX2_bitsFrom _ _ (ad 6) (ad 7) 6 7 f2 0 (b) rfl rfl hRb (by omega)) ⟨va_cnB 1 hts gX0_toMillionths_X2_bitsFrom_n77 rfl rfl rfl k8 k4 (by decide +kernel) ⟨Nat.le_of_ble_eq_true rfl, Nat.le_of_ble_eq_true rfl⟩, k9, k10⟩ (fk_preV 6 3 hK hN hP hD rfl rfl) rfl rfl hl.1 rfl (lv_room (Nat.le_of_ble_eq_true rfl)) dX0_toMillionths_25 ⟨Nat.le_of_ble_eq_true rfl, Nat.le_of_ble_eq_true rfl⟩) (fun r2 u H locs hw hP hD hS => ?_)
    have hP : va_P D vwCl (fk_wx cJ cC cK ad kd kc lo ch ts f1 f2 f3 f4 f5 ++ tl) H := hP
    have hD : va_D A (fk_wx cJ cC cK ad kd kc lo ch ts f1 f2 f3 f4 f5 ++ tl) := hD
    have zb := hw
    have hdt : (r2).toInt = b := by rw [zb]; simp only [Int.pow_zero, Int.ediv_one]; exact Int64.toInt_ofInt_of_le (by omega) (by omega)
    refine lv_lstore_n (lv' := [(1, .long r2), (0, .ref (ad 3))]) hx hb dX0_toMillionths_28 rfl hl (by decide) rfl (fun ls hl => ?_)
    refine lv_aload_n hx hb dX0_toMillionths_29 rfl (lv_at hl 1 rfl) ?_
    refine va_get (D := D) (ci := 1) (v := .ref (ad 4)) (C := RX0) (T := TX0) (N := 2) hx hb hts k2 hown hK hP 3 rfl rfl 0 (by decide) k1 (fun _ h9 => h9) rfl dX0_toMillionths_30 ?_
    refine lv_ldc2 (v := 2000000) hx hb hown k11 dX0_toMillionths_33 ?_
    refine fk_cv hD hS hA (va_runVN (As := [.long 2000000]) (rest := []) ⟨hx, hb, hml, hown, hts⟩ (kX2_scale _ _ (ad 4) (ad 5) 4 5 f1 2000000 (fk_abs a) rfl rfl hRa (by decide)) ⟨va_cnB 1 hts gX0_toMillionths_X2_scale_n35 rfl rfl rfl k12 k4 (by decide +kernel) ⟨Nat.le_of_ble_eq_true rfl, Nat.le_of_ble_eq_true rfl⟩, k13, k14⟩ (fk_preV 4 3 hK hN hP hD rfl rfl) rfl rfl hl.1 rfl (lv_room (Nat.le_of_ble_eq_true rfl)) dX0_toMillionths_36 ⟨Nat.le_of_ble_eq_true rfl, Nat.le_of_ble_eq_true rfl⟩) (fun g3 H locs hw hP hD hS => ?_)
    have hP : va_P D vwCl (fk_wx cJ cC cK ad kd kc lo ch ts g3 f2 f3 f4 f5 ++ tl) H := hP
    have hD : va_D A (fk_wx cJ cC cK ad kd kc lo ch ts g3 f2 f3 f4 f5 ++ tl) := hD
    rw [show (2000000 : Int64).toInt = 2000000 by decide] at hw
    have hRg3 := hw
    refine lv_aload_n hx hb dX0_toMillionths_39 rfl (lv_at hl 1 rfl) ?_
    refine va_get (D := D) (ci := 1) (v := .ref (ad 4)) (C := RX0) (T := TX0) (N := 2) hx hb hts k2 hown hK hP 3 rfl rfl 0 (by decide) k1 (fun _ h9 => h9) rfl dX0_toMillionths_40 ?_
    refine lv_lload_n hx hb dX0_toMillionths_43 rfl (lv_at hl 0 rfl) ?_
    refine fk_cv hD hS hA (va_runVN (As := [.long r2]) (rest := []) ⟨hx, hb, hml, hown, hts⟩ (kX2_grow _ _ (ad 4) (ad 5) 4 5 g3 r2 ((fk_abs a) * 2000000) rfl rfl (fk_R_F hRg3) (fk_R_T hRg3) (by omega)) ⟨va_cnB 1 hts gX0_toMillionths_X2_grow_n44 rfl rfl rfl k15 k4 (by decide +kernel) ⟨Nat.le_of_ble_eq_true rfl, Nat.le_of_ble_eq_true rfl⟩, k16, k17⟩ (fk_preV 4 3 hK hN hP hD rfl rfl) rfl rfl hl.1 rfl (lv_room (Nat.le_of_ble_eq_true rfl)) dX0_toMillionths_44 ⟨Nat.le_of_ble_eq_true rfl, Nat.le_of_ble_eq_true rfl⟩) (fun g5 H locs hw hP hD hS => ?_)
    have hP : va_P D vwCl (fk_wx cJ cC cK ad kd kc lo ch ts g5 f2 f3 f4 f5 ++ tl) H := hP
    have hD : va_D A (fk_wx cJ cC cK ad kd kc lo ch ts g5 f2 f3 f4 f5 ++ tl) := hD
    rw [hdt] at hw
    have hRg5 := hw
    refine lv_aload_n hx hb dX0_toMillionths_47 rfl (lv_at hl 1 rfl) ?_
    refine va_get (D := D) (ci := 1) (v := .ref (ad 4)) (C := RX0) (T := TX0) (N := 2) hx hb hts k2 hown hK hP 3 rfl rfl 0 (by decide) k1 (fun _ h9 => h9) rfl dX0_toMillionths_48 ?_
    refine lv_ldc2 (v := 2) hx hb hown k18 dX0_toMillionths_51 ?_
    refine lv_lload_n hx hb dX0_toMillionths_54 rfl (lv_at hl 0 rfl) ?_
    refine lv_lmul hx hb dX0_toMillionths_55 ?_
    refine lv_topl (fun x7 ex7 => ?_)
    have h2d : x7.toInt = 2 * b := by rw [ex7, ← hdt, show (2 : Int64) * r2 = r2 + r2 from by rw [Int64.two_mul], fk_add (by omega) (by omega)]; omega
    refine fk_cl hD hS hA (va_runVN (As := [.long x7]) (rest := []) ⟨hx, hb, hml, hown, hts⟩ (kX2_shorten _ _ (ad 4) (ad 5) 4 5 g5 x7 (((fk_abs a) * 2000000) + b) rfl rfl hRg5 ⟨by omega, by omega⟩ (by omega) (by omega)) ⟨va_cnB 1 hts gX0_toMillionths_X2_shorten_n84 rfl rfl rfl k19 k4 (by decide +kernel) ⟨Nat.le_of_ble_eq_true rfl, Nat.le_of_ble_eq_true rfl⟩, k20, k21⟩ (fk_preV 4 3 hK hN hP hD rfl rfl) rfl rfl hl.1 rfl (lv_room (Nat.le_of_ble_eq_true rfl)) dX0_toMillionths_56 ⟨Nat.le_of_ble_eq_true rfl, Nat.le_of_ble_eq_true rfl⟩) (fun r9 g8 H locs hw hP hD hS => ?_)
    have hP : va_P D vwCl (fk_wx cJ cC cK ad kd kc lo ch ts g8 f2 f3 f4 f5 ++ tl) H := hP
    have hD : va_D A (fk_wx cJ cC cK ad kd kc lo ch ts g8 f2 f3 f4 f5 ++ tl) := hD
    obtain ⟨hqg8, hRg8⟩ := hw
    rw [h2d] at hRg8
    refine lv_pop2_2 hx hb dX0_toMillionths_59 rfl ?_
    refine lv_aload_n hx hb dX0_toMillionths_60 rfl (lv_at hl 1 rfl) ?_
    refine va_get (D := D) (ci := 1) (v := .ref (ad 4)) (C := RX0) (T := TX0) (N := 2) hx hb hts k2 hown hK hP 3 rfl rfl 0 (by decide) k1 (fun _ h9 => h9) rfl dX0_toMillionths_61 ?_
    rw [hQQ]
    exact W.aret (v := va_rf (some (ad 4))) hx hb hr (Or.inl ⟨_, rfl⟩) (va_rf_or (some (ad 4))) (fun t ht hW => ⟨⟨(some (ad 4)), g8, rfl, ⟨rfl, hRg8⟩, by rw [ht]; exact hP, va_K.moved hW.alike hK, hD⟩, hS.F ht⟩) hS.2.2 dX0_toMillionths_64
  · have p_c_7 : a < 0 := by by_cases q : a < 0; exact q; rw [z0, if_neg q] at c_7; exact absurd rfl c_7
    refine lv_aload_n hx hb dX0_toMillionths_10 rfl (lv_at hl 0 rfl) ?_
    refine va_get (D := D) (ci := 1) (v := .ref (ad 4)) (C := RX0) (T := TX0) (N := 2) hx hb hts k2 hown hK hP 3 rfl rfl 0 (by decide) k1 (fun _ h9 => h9) rfl dX0_toMillionths_11 ?_
    refine lv_ldc2 (v := (-1)) hx hb hown k22 dX0_toMillionths_14 ?_
    refine fk_cv hD hS hA (va_runVN (As := [.long (-1)]) (rest := []) ⟨hx, hb, hml, hown, hts⟩ (kX2_scale _ _ (ad 4) (ad 5) 4 5 f1 (-1) (a) rfl rfl hRa (by decide)) ⟨va_cnB 1 hts gX0_toMillionths_X2_scale_n35 rfl rfl rfl k12 k4 (by decide +kernel) ⟨Nat.le_of_ble_eq_true rfl, Nat.le_of_ble_eq_true rfl⟩, k13, k14⟩ (fk_preV 4 3 hK hN hP hD rfl rfl) rfl rfl hl.1 rfl (lv_room (Nat.le_of_ble_eq_true rfl)) dX0_toMillionths_17 ⟨Nat.le_of_ble_eq_true rfl, Nat.le_of_ble_eq_true rfl⟩) (fun g10 H locs hw hP hD hS => ?_)
    have hP : va_P D vwCl (fk_wx cJ cC cK ad kd kc lo ch ts g10 f2 f3 f4 f5 ++ tl) H := hP
    have hD : va_D A (fk_wx cJ cC cK ad kd kc lo ch ts g10 f2 f3 f4 f5 ++ tl) := hD
    rw [show ((-1) : Int64).toInt = (-1) by decide] at hw
    have hRg10 := hw
    have hAe : fk_abs a = a * -1 := by rw [fk_abs, if_pos p_c_7]; omega
    have hA0 := fk_abs_bd hab.1 hab.2
    have hAI : fk_In (fk_abs a) := ⟨by omega, by omega⟩
    rw [← hAe] at hRg10
    refine lv_aload_n hx hb dX0_toMillionths_20 rfl (lv_at hl 0 rfl) ?_
    refine va_get (D := D) (ci := 1) (v := .ref (ad 6)) (C := RX0) (T := TX0) (N := 2) hx hb hts k2 hown hK hP 3 rfl rfl 1 (by decide) k7 (fun _ h9 => h9) rfl dX0_toMillionths_21 ?_
    refine lv_iconst (v := 0) hx hb dX0_toMillionths_24 (by decide) ?_
    refine fk_cl hD hS hA (va_runVN (As := [.int 0]) (rest := []) ⟨hx, hb, hml, hown, hts⟩ (kX2_bitsFrom _ _ (ad 6) (ad 7) 6 7 f2 0 (b) rfl rfl hRb (by omega)) ⟨va_cnB 1 hts gX0_toMillionths_X2_bitsFrom_n77 rfl rfl rfl k8 k4 (by decide +kernel) ⟨Nat.le_of_ble_eq_true rfl, Nat.le_of_ble_eq_true rfl⟩, k9, k10⟩ (fk_preV 6 3 hK hN hP hD rfl rfl) rfl rfl hl.1 rfl (lv_room (Nat.le_of_ble_eq_true rfl)) dX0_toMillionths_25 ⟨Nat.le_of_ble_eq_true rfl, Nat.le_of_ble_eq_true rfl⟩) (fun r12 u H locs hw hP hD hS => ?_)
    have hP : va_P D vwCl (fk_wx cJ cC cK ad kd kc lo ch ts g10 f2 f3 f4 f5 ++ tl) H := hP
    have hD : va_D A (fk_wx cJ cC cK ad kd kc lo ch ts g10 f2 f3 f4 f5 ++ tl) := hD
    have zb := hw
    have hdt : (r12).toInt = b := by rw [zb]; simp only [Int.pow_zero, Int.ediv_one]; exact Int64.toInt_ofInt_of_le (by omega) (by omega)
    refine lv_lstore_n (lv' := [(1, .long r12), (0, .ref (ad 3))]) hx hb dX0_toMillionths_28 rfl hl (by decide) rfl (fun ls hl => ?_)
    refine lv_aload_n hx hb dX0_toMillionths_29 rfl (lv_at hl 1 rfl) ?_
    refine va_get (D := D) (ci := 1) (v := .ref (ad 4)) (C := RX0) (T := TX0) (N := 2) hx hb hts k2 hown hK hP 3 rfl rfl 0 (by decide) k1 (fun _ h9 => h9) rfl dX0_toMillionths_30 ?_
    refine lv_ldc2 (v := 2000000) hx hb hown k11 dX0_toMillionths_33 ?_
    refine fk_cv hD hS hA (va_runVN (As := [.long 2000000]) (rest := []) ⟨hx, hb, hml, hown, hts⟩ (kX2_scale _ _ (ad 4) (ad 5) 4 5 g10 2000000 (fk_abs a) rfl rfl hRg10 (by decide)) ⟨va_cnB 1 hts gX0_toMillionths_X2_scale_n35 rfl rfl rfl k12 k4 (by decide +kernel) ⟨Nat.le_of_ble_eq_true rfl, Nat.le_of_ble_eq_true rfl⟩, k13, k14⟩ (fk_preV 4 3 hK hN hP hD rfl rfl) rfl rfl hl.1 rfl (lv_room (Nat.le_of_ble_eq_true rfl)) dX0_toMillionths_36 ⟨Nat.le_of_ble_eq_true rfl, Nat.le_of_ble_eq_true rfl⟩) (fun g13 H locs hw hP hD hS => ?_)
    have hP : va_P D vwCl (fk_wx cJ cC cK ad kd kc lo ch ts g13 f2 f3 f4 f5 ++ tl) H := hP
    have hD : va_D A (fk_wx cJ cC cK ad kd kc lo ch ts g13 f2 f3 f4 f5 ++ tl) := hD
    rw [show (2000000 : Int64).toInt = 2000000 by decide] at hw
    have hRg13 := hw
    refine lv_aload_n hx hb dX0_toMillionths_39 rfl (lv_at hl 1 rfl) ?_
    refine va_get (D := D) (ci := 1) (v := .ref (ad 4)) (C := RX0) (T := TX0) (N := 2) hx hb hts k2 hown hK hP 3 rfl rfl 0 (by decide) k1 (fun _ h9 => h9) rfl dX0_toMillionths_40 ?_
    refine lv_lload_n hx hb dX0_toMillionths_43 rfl (lv_at hl 0 rfl) ?_
    refine fk_cv hD hS hA (va_runVN (As := [.long r12]) (rest := []) ⟨hx, hb, hml, hown, hts⟩ (kX2_grow _ _ (ad 4) (ad 5) 4 5 g13 r12 ((fk_abs a) * 2000000) rfl rfl (fk_R_F hRg13) (fk_R_T hRg13) (by omega)) ⟨va_cnB 1 hts gX0_toMillionths_X2_grow_n44 rfl rfl rfl k15 k4 (by decide +kernel) ⟨Nat.le_of_ble_eq_true rfl, Nat.le_of_ble_eq_true rfl⟩, k16, k17⟩ (fk_preV 4 3 hK hN hP hD rfl rfl) rfl rfl hl.1 rfl (lv_room (Nat.le_of_ble_eq_true rfl)) dX0_toMillionths_44 ⟨Nat.le_of_ble_eq_true rfl, Nat.le_of_ble_eq_true rfl⟩) (fun g15 H locs hw hP hD hS => ?_)
    have hP : va_P D vwCl (fk_wx cJ cC cK ad kd kc lo ch ts g15 f2 f3 f4 f5 ++ tl) H := hP
    have hD : va_D A (fk_wx cJ cC cK ad kd kc lo ch ts g15 f2 f3 f4 f5 ++ tl) := hD
    rw [hdt] at hw
    have hRg15 := hw
    refine lv_aload_n hx hb dX0_toMillionths_47 rfl (lv_at hl 1 rfl) ?_
    refine va_get (D := D) (ci := 1) (v := .ref (ad 4)) (C := RX0) (T := TX0) (N := 2) hx hb hts k2 hown hK hP 3 rfl rfl 0 (by decide) k1 (fun _ h9 => h9) rfl dX0_toMillionths_48 ?_
    refine lv_ldc2 (v := 2) hx hb hown k18 dX0_toMillionths_51 ?_
    refine lv_lload_n hx hb dX0_toMillionths_54 rfl (lv_at hl 0 rfl) ?_
    refine lv_lmul hx hb dX0_toMillionths_55 ?_
    refine lv_topl (fun x17 ex17 => ?_)
    have h2d : x17.toInt = 2 * b := by rw [ex17, ← hdt, show (2 : Int64) * r12 = r12 + r12 from by rw [Int64.two_mul], fk_add (by omega) (by omega)]; omega
    refine fk_cl hD hS hA (va_runVN (As := [.long x17]) (rest := []) ⟨hx, hb, hml, hown, hts⟩ (kX2_shorten _ _ (ad 4) (ad 5) 4 5 g15 x17 (((fk_abs a) * 2000000) + b) rfl rfl hRg15 ⟨by omega, by omega⟩ (by omega) (by omega)) ⟨va_cnB 1 hts gX0_toMillionths_X2_shorten_n84 rfl rfl rfl k19 k4 (by decide +kernel) ⟨Nat.le_of_ble_eq_true rfl, Nat.le_of_ble_eq_true rfl⟩, k20, k21⟩ (fk_preV 4 3 hK hN hP hD rfl rfl) rfl rfl hl.1 rfl (lv_room (Nat.le_of_ble_eq_true rfl)) dX0_toMillionths_56 ⟨Nat.le_of_ble_eq_true rfl, Nat.le_of_ble_eq_true rfl⟩) (fun r19 g18 H locs hw hP hD hS => ?_)
    have hP : va_P D vwCl (fk_wx cJ cC cK ad kd kc lo ch ts g18 f2 f3 f4 f5 ++ tl) H := hP
    have hD : va_D A (fk_wx cJ cC cK ad kd kc lo ch ts g18 f2 f3 f4 f5 ++ tl) := hD
    obtain ⟨hqg18, hRg18⟩ := hw
    rw [h2d] at hRg18
    refine lv_pop2_2 hx hb dX0_toMillionths_59 rfl ?_
    refine lv_aload_n hx hb dX0_toMillionths_60 rfl (lv_at hl 1 rfl) ?_
    refine va_get (D := D) (ci := 1) (v := .ref (ad 4)) (C := RX0) (T := TX0) (N := 2) hx hb hts k2 hown hK hP 3 rfl rfl 0 (by decide) k1 (fun _ h9 => h9) rfl dX0_toMillionths_61 ?_
    rw [hQQ]
    exact W.aret (v := va_rf (some (ad 4))) hx hb hr (Or.inl ⟨_, rfl⟩) (va_rf_or (some (ad 4))) (fun t ht hW => ⟨⟨(some (ad 4)), g18, rfl, ⟨rfl, hRg18⟩, by rw [ht]; exact hP, va_K.moved hW.alike hK, hD⟩, hS.F ht⟩) hS.2.2 dX0_toMillionths_64
