/-! Whole: divide, by program -/
abbrev rmX2_divide : Room := { frames := 2, cells := 0, slots := 0, locals := 49 }
set_option maxHeartbeats 4000000 in
set_option maxRecDepth 100000 in
/-- Whole.divide -/
theorem kX2_divide {l : Launch} {D : va_G} {cJ cC cI cZ cK : ClassId} (sz : Nat) (ws : va_W) (h0 h1 h2 h3 h4 h5 q0 q1 q2 q3 q4 q5 : Nat) (f o w : Nat → Int64) (x y : Int) (hq0 : ws[q0]? = some (h0, .inr (3, [.ref h1]))) (hq1 : ws[q1]? = some (h1, .inl (cJ, 12, .inr (.inl f)))) (hq2 : ws[q2]? = some (h2, .inr (3, [.ref h3]))) (hq3 : ws[q3]? = some (h3, .inl (cJ, 12, .inr (.inl o)))) (hq4 : ws[q4]? = some (h4, .inr (3, [.ref h5]))) (hq5 : ws[q5]? = some (h5, .inl (cJ, 12, .inr (.inl w)))) (hn_q1_q3 : q1 ≠ q3) (hn_q1_q5 : q1 ≠ q5) (hn_q5_q3 : q5 ≠ q3) (hR : fk_R x f) (hI : fk_In x) (hx0 : 0 ≤ x) (hRo : fk_R y o) (hy0 : 0 < y) (hIy : fk_In y) : Met l yX2_divide wsX2_divide rmX2_divide (va_Pc [.ref h0, .ref h2, .ref h4] (fk_pre D (fk_ty cJ cC cI cZ cK) ws sz)) (va_Qv (fun u : (Nat → Int64) × (Nat → Int64) => fk_R (x % y) u.1 ∧ fk_R (x / y) u.2) (fk_Bd D (fk_ty cJ cC cI cZ cK) (va_A ws sz) (fun u : (Nat → Int64) × (Nat → Int64) => (ws.set q1 (h1, .inl (cJ, 12, .inr (.inl u.1)))).set q5 (h5, .inl (cJ, 12, .inr (.inl u.2))))) (va_A ws sz)) 0 0 (va_A ws sz) := by
  refine fk_ofW cX2_divide 7 none (fun A => va_Qv (fun u : (Nat → Int64) × (Nat → Int64) => fk_R (x % y) u.1 ∧ fk_R (x / y) u.2) (fk_Bd D (fk_ty cJ cC cI cZ cK) A (fun u : (Nat → Int64) × (Nat → Int64) => (ws.set q1 (h1, .inl (cJ, 12, .inr (.inl u.1)))).set q5 (h5, .inl (cJ, 12, .inr (.inl u.2))))) A) rfl (by decide) (Nat.le_of_ble_eq_true rfl) ?_
  intro p e s m below meth c A ls args QQ hQQ hAt hP hK hN hD hA hS hl
  obtain ⟨⟨hx, hb, hml, hown, hts⟩, hr, hlocks, hin⟩ := hAt
  have hl : lv_has ls 7 [(0, .ref h0), (1, .ref h2), (2, .ref h4)] := hl
  have k1 := hts (.fieldLink RX2 9 "FixedKinds$Whole" "limbs" "[J") (by decide +kernel)
  have k2 := (by decide +kernel : ∀ w ∈ u_ws RX2 TX2 1, w ∈ wsX2_divide)
  have hn_q1_q0 : q1 ≠ q0 := fk_neA hq0 hq1
  have hn_q1_q2 : q1 ≠ q2 := fk_neA hq2 hq1
  have hn_q1_q4 : q1 ≠ q4 := fk_neA hq4 hq1
  have hn_q5_q0 : q5 ≠ q0 := fk_neA hq0 hq5
  have hn_q5_q2 : q5 ≠ q2 := fk_neA hq2 hq5
  have hn_q5_q4 : q5 ≠ q4 := fk_neA hq4 hq5
  have hn_q5_q1 : q5 ≠ q1 := Ne.symm hn_q1_q5
  have hw0 : ws = ((ws.set q1 (h1, .inl (cJ, 12, .inr (.inl f)))).set q5 (h5, .inl (cJ, 12, .inr (.inl w)))) := by rw [fk_s0 hq1, fk_s0 hq5]
  rw [hw0] at hP hD
  refine lv_aload_n hx hb dX2_divide_0 rfl (lv_at hl 2 rfl) ?_
  refine lv_lconst (v := 0) hx hb dX2_divide_1 (by decide) ?_
  refine fk_cv hD hS hA (va_runV (As := [.long 0]) (rest := []) ⟨hx, hb, hml, hown, hts⟩ (kX2_setTo _ _ h4 h5 q4 q5 w 0 (fk_sn (fk_sn hq4 hn_q1_q4) hn_q5_q4) (fk_ss (fk_sn hq5 hn_q1_q5))) (cwV 1 hts gX2_divide_X2_setTo rfl rfl rfl (by decide +kernel) ⟨Nat.le_of_ble_eq_true rfl, Nat.le_of_ble_eq_true rfl⟩) (fk_preV q4 3 hK hN hP hD rfl (fk_sn (fk_sn hq4 hn_q1_q4) hn_q5_q4)) rfl rfl hl.1 rfl (lv_room (Nat.le_of_ble_eq_true rfl)) dX2_divide_2 ⟨Nat.le_of_ble_eq_true rfl, Nat.le_of_ble_eq_true rfl⟩) (fun wq H locs hw hP hD hS => ?_)
  rw [fk_s2] at hP hD
  have hP : va_P D vwCl ((ws.set q1 (h1, .inl (cJ, 12, .inr (.inl f)))).set q5 (h5, .inl (cJ, 12, .inr (.inl wq)))) H := hP
  have hD : va_D A ((ws.set q1 (h1, .inl (cJ, 12, .inr (.inl f)))).set q5 (h5, .inl (cJ, 12, .inr (.inl wq)))) := hD
  rw [fk_z64] at hw
  have hwq := hw
  refine lv_aload_n hx hb dX2_divide_5 rfl (lv_at hl 1 rfl) ?_
  refine fk_ci hD hS hA (va_runV (As := []) (rest := []) ⟨hx, hb, hml, hown, hts⟩ (kX2_size _ _ h2 h3 q2 q3 o (fk_sn (fk_sn hq2 hn_q1_q2) hn_q5_q2) (fk_sn (fk_sn hq3 hn_q1_q3) hn_q5_q3)) (cwV 0 hts gX2_divide_X2_size rfl rfl rfl (by decide +kernel) ⟨Nat.le_of_ble_eq_true rfl, Nat.le_of_ble_eq_true rfl⟩) (fk_preV q2 3 hK hN hP hD rfl (fk_sn (fk_sn hq2 hn_q1_q2) hn_q5_q2)) rfl rfl hl.1 rfl (lv_room (Nat.le_of_ble_eq_true rfl)) dX2_divide_6 ⟨Nat.le_of_ble_eq_true rfl, Nat.le_of_ble_eq_true rfl⟩) (fun r2 u H locs hw hP hD hS => ?_)
  have hP : va_P D vwCl ((ws.set q1 (h1, .inl (cJ, 12, .inr (.inl f)))).set q5 (h5, .inl (cJ, 12, .inr (.inl wq)))) H := hP
  have hD : va_D A ((ws.set q1 (h1, .inl (cJ, 12, .inr (.inl f)))).set q5 (h5, .inl (cJ, 12, .inr (.inl wq)))) := hD
  obtain ⟨n, hn, hs⟩ := hw
  subst hn
  have hn1 : n ≠ 0 := fun q => by have := (fk_Sz_zero hRo hIy hs).mpr q; omega
  have hn12 := hs.1
  refine lv_istore_n (lv' := [(3, .int (nI n)), (0, .ref h0), (1, .ref h2), (2, .ref h4)]) hx hb dX2_divide_9 rfl hl (by decide) rfl (fun ls hl => ?_)
  refine lv_iload_n hx hb dX2_divide_10 rfl (lv_at hl 0 rfl) ?_
  refine lv_if_ne (tgt := 15) hx hb dX2_divide_11 (by decide) (fun c_11 => ?_) (fun c_11 => False.elim (hn1 ((nI_eq (a := n) (b := 0) (by omega) (by omega)).mp c_11)))
  refine lv_aload_n hx hb dX2_divide_15 rfl (lv_at hl 1 rfl) ?_
  refine fk_ci hD hS hA (va_runV (As := []) (rest := []) ⟨hx, hb, hml, hown, hts⟩ (kX2_size _ _ h0 h1 q0 q1 f (fk_sn (fk_sn hq0 hn_q1_q0) hn_q5_q0) (fk_sn (fk_ss hq1) hn_q5_q1)) (cwV 0 hts gX2_divide_X2_size rfl rfl rfl (by decide +kernel) ⟨Nat.le_of_ble_eq_true rfl, Nat.le_of_ble_eq_true rfl⟩) (fk_preV q0 3 hK hN hP hD rfl (fk_sn (fk_sn hq0 hn_q1_q0) hn_q5_q0)) rfl rfl hl.1 rfl (lv_room (Nat.le_of_ble_eq_true rfl)) dX2_divide_16 ⟨Nat.le_of_ble_eq_true rfl, Nat.le_of_ble_eq_true rfl⟩) (fun r3 u H locs hw hP hD hS => ?_)
  have hP : va_P D vwCl ((ws.set q1 (h1, .inl (cJ, 12, .inr (.inl f)))).set q5 (h5, .inl (cJ, 12, .inr (.inl wq)))) H := hP
  have hD : va_D A ((ws.set q1 (h1, .inl (cJ, 12, .inr (.inl f)))).set q5 (h5, .inl (cJ, 12, .inr (.inl wq)))) := hD
  obtain ⟨a, ha, hsa⟩ := hw
  subst ha
  have ha12 := hsa.1
  have hbx := fk_Sz_bd hR.1 hsa
  have hby := fk_Sz_bd hRo.1 hs
  rw [fk_R_val hR hx0 hI] at hbx
  rw [fk_R_val hRo (by omega) hIy] at hby
  have hyn := hby.2 hn1
  have hwN := hwq.1
  have hwz : ∀ j, j < 12 → fk_I wq j = 0 := fun j hj => by rw [fk_I, fk_R_dg hwq hj, fk_dg]; simp
  have hwT : fk_T (fk_I wq) 12 = 0 := fk_T_zero hwz
  refine lv_iload_n hx hb dX2_divide_19 rfl (lv_at hl 0 rfl) ?_
  refine lv_isub hx hb dX2_divide_20 ?_
  refine lv_topi (fun x4 ex4 => ?_)
  refine lv_istore (lv' := [(4, .int x4), (3, .int (nI n)), (0, .ref h0), (1, .ref h2), (2, .ref h4)]) hx hb dX2_divide_21 hl (by decide) rfl (fun ls hl => ?_)
  rcases Nat.lt_or_ge a n with han | han
  · have hlt : x < y := Int.lt_of_lt_of_le (Int.lt_of_lt_of_le hbx.1 (fk_pow_le (by omega))) hyn
    have hfin := fk_dend (x := x) (z := x) (y := y) hy0 hx0 hlt hR hwN (by rw [hwT]; simp)
    refine lv_iload hx hb dX2_divide_23 (lv_at hl 0 rfl) ?_
    refine lv_if_lt (tgt := 92) hx hb dX2_divide_25 (by decide) (fun c_25 => ?_) (fun c_25 => False.elim (c_25 (by rw [ex4]; exact pk_sneg (by omega) han)))
    rw [hQQ]
    exact W.vret hx hb hr (fun t ht hW => ⟨⟨(f, wq), rfl, hfin, by rw [ht]; exact hP, va_K.moved hW.alike hK, hD⟩, hS.F ht⟩) hS.2.2 dX2_divide_92
  · rw [ex4, pk_sub han, show nI (a - n) = nI (a - n + 1) + (-1) from (pk_m1 _).symm] at hl
    have hk0 : x < y * 65536 ^ (a - n + 1) := by
      have e : (65536 : Int) ^ a = 65536 ^ (n - 1) * 65536 ^ (a - n + 1) := by rw [← Int.pow_add]; congr 1; omega
      have q : 65536 ^ (n - 1) * 65536 ^ (a - n + 1) ≤ y * 65536 ^ (a - n + 1) := Int.mul_le_mul_of_nonneg_right hyn (Int.le_of_lt (fk_pp _))
      have := hbx.1
      omega
    have L23 : ∀ (fu23 : Nat) (k : Nat) (z : Int) (g : Nat → Int64) (w : Nat → Int64), k < fu23 → (k + n ≤ 13 ∧ k ≤ 12) → (fk_R z g) → (0 ≤ z) → (fk_In z) → (z < y * 65536 ^ k) → (fk_N (fk_I w) 12) → (∀ j, j < k → fk_I w j = 0) → (x = z + y * fk_T (fk_I w) 12) → ∀ (H : Heap) (locs : List Loc) (ls : Array Slot), va_P D vwCl ((ws.set q1 (h1, .inl (cJ, 12, .inr (.inl g)))).set q5 (h5, .inl (cJ, 12, .inr (.inl w)))) H → va_D A ((ws.set q1 (h1, .inl (cJ, 12, .inr (.inl g)))).set q5 (h5, .inl (cJ, 12, .inr (.inl w)))) → va_S A s.heap H locs → lv_has ls 7 [(0, .ref h0), (1, .ref h2), (2, .ref h4), (3, .int (nI n)), (4, .int (nI k + (-1)))] → W p l e rmX2_divide s m args below meth c H locs 0 0 QQ (F0 m 23 ls []) := by
      intro fu23
      induction fu23 with
      | zero => intro k z g w hfu; exact absurd hfu (Nat.not_lt_zero _)
      | succ fu23 ih23 =>
        intro k z g w hfu23 hk hzR hz0 hzI hzk hwN hw0 hsum H locs ls hP hD hS hl
        refine lv_iload hx hb dX2_divide_23 (lv_at hl 4 rfl) ?_
        refine lv_if_lt (tgt := 92) hx hb dX2_divide_25 (by decide) (fun c_25 => ?_) (fun c_25 => ?_)
        · have hk0 : k = 0 := by rcases Nat.eq_zero_or_pos k with q | q; exact q; obtain ⟨j, rfl⟩ : ∃ j, k = j + 1 := ⟨k - 1, by omega⟩; rw [pk_m1] at c_25; exact absurd c_25 (nI_pos (by omega))
          subst hk0
          have hfin := fk_dend hy0 hz0 (by simpa using hzk) hzR hwN hsum
          rw [hQQ]
          exact W.vret hx hb hr (fun t ht hW => ⟨⟨(g, w), rfl, hfin, by rw [ht]; exact hP, va_K.moved hW.alike hK, hD⟩, hS.F ht⟩) hS.2.2 dX2_divide_92
        · obtain ⟨sh, rfl⟩ : ∃ j, k = j + 1 := by rcases Nat.eq_zero_or_pos k with q | q; exact absurd (by rw [q]; decide) c_25; exact ⟨k - 1, by omega⟩
          rw [pk_m1] at hl
          obtain ⟨M, hM⟩ : ∃ M : Nat, M ≤ 12 ∧ sh ≤ M ∧ M ≤ n + sh + 1 ∧ (M = 12 ∨ M = n + sh + 1) := by
            rcases Nat.lt_or_ge (n + sh) 12 with q | q
            · exact ⟨n + sh + 1, by omega⟩
            · exact ⟨12, by omega⟩
          have hZ : 0 < y * 65536 ^ sh := Int.mul_pos hy0 (fk_pp sh)
          have hZM : y * 65536 ^ sh ≤ 65536 ^ M := by
            have q1 : y * 65536 ^ sh ≤ 65536 ^ n * 65536 ^ sh := Int.mul_le_mul_of_nonneg_right (Int.le_of_lt hby.1) (Int.le_of_lt (fk_pp sh))
            rw [← Int.pow_add] at q1
            exact Int.le_trans q1 (fk_pow_le (by omega))
          have hzM : z < 65536 ^ M := by
            rcases hM.2.2.2 with q | q
            · rw [q, ← fk_R_val hzR hz0 hzI]; exact (fk_T_bd hzR.1).2
            · have q1 : y * 65536 ^ (sh + 1) ≤ 65536 ^ n * 65536 ^ (sh + 1) := Int.mul_le_mul_of_nonneg_right (Int.le_of_lt hby.1) (Int.le_of_lt (fk_pp _))
              rw [← Int.pow_add] at q1
              rw [q]; exact Int.lt_of_lt_of_le hzk q1
          have hzk2 : z < y * 65536 ^ sh * 65536 := by rw [Int.pow_succ, ← Int.mul_assoc] at hzk; exact hzk
          have hqd : 0 ≤ z / (y * 65536 ^ sh) := Int.ediv_nonneg hz0 (by omega)
          have hqB : z / (y * 65536 ^ sh) < 65536 := by rw [Int.ediv_lt_iff_lt_mul hZ, Int.mul_comm 65536]; exact hzk2
          refine lv_aload_n hx hb dX2_divide_28 rfl (lv_at hl 0 rfl) ?_
          refine lv_aload_n hx hb dX2_divide_29 rfl (lv_at hl 1 rfl) ?_
          refine lv_iload_n hx hb dX2_divide_30 rfl (lv_at hl 3 rfl) ?_
          refine lv_iload hx hb dX2_divide_31 (lv_at hl 4 rfl) ?_
          refine fk_cl hD hS hA (va_runV (As := [.ref h2, .int (nI n), .int (nI sh)]) (rest := []) ⟨hx, hb, hml, hown, hts⟩ (kX2_guessDigit _ _ h0 h1 h2 h3 q0 q1 q2 q3 g o n sh z y (fk_sn (fk_sn hq0 hn_q1_q0) hn_q5_q0) (fk_sn (fk_ss hq1) hn_q5_q1) (fk_sn (fk_sn hq2 hn_q1_q2) hn_q5_q2) (fk_sn (fk_sn hq3 hn_q1_q3) hn_q5_q3) hzR hzI hz0 hRo hy0 hIy hs hn1 (by omega) hzk2) (cwV 3 hts gX2_divide_X2_guessDigit rfl rfl rfl (by decide +kernel) ⟨Nat.le_of_ble_eq_true rfl, Nat.le_of_ble_eq_true rfl⟩) (fk_preV q0 3 hK hN hP hD rfl (fk_sn (fk_sn hq0 hn_q1_q0) hn_q5_q0)) rfl rfl hl.1 rfl (lv_room (Nat.le_of_ble_eq_true rfl)) dX2_divide_33 ⟨Nat.le_of_ble_eq_true rfl, Nat.le_of_ble_eq_true rfl⟩) (fun r5 u H locs hw hP hD hS => ?_)
          have hP : va_P D vwCl ((ws.set q1 (h1, .inl (cJ, 12, .inr (.inl g)))).set q5 (h5, .inl (cJ, 12, .inr (.inl w)))) H := hP
          have hD : va_D A ((ws.set q1 (h1, .inl (cJ, 12, .inr (.inl g)))).set q5 (h5, .inl (cJ, 12, .inr (.inl w)))) := hD
          obtain ⟨hr1, hr2⟩ := hw
          refine lv_lstore (lv' := [(5, .long r5), (0, .ref h0), (1, .ref h2), (2, .ref h4), (3, .int (nI n)), (4, .int (nI sh))]) hx hb dX2_divide_36 hl (by decide) rfl (fun ls hl => ?_)
          refine lv_lload hx hb dX2_divide_38 (lv_at hl 0 rfl) ?_
          refine lv_lconst (v := 0) hx hb dX2_divide_40 (by decide) ?_
          refine W.lcmp hx hb dX2_divide_41 ?_
          refine lv_if_le (tgt := 77) hx hb dX2_divide_42 (by decide) (fun c_42 => ?_) (fun c_42 => ?_)
          · rw [lg_cmp_le] at c_42
            rw [Int64.le_iff_toInt_le, fk_z64] at c_42
            have hqz : z / (y * 65536 ^ sh) = 0 := by omega
            have hdq : r5.toInt = z / (y * 65536 ^ sh) := by omega
            have hzR2 : fk_R (z - z / (y * 65536 ^ sh) * (y * 65536 ^ sh)) g := by rw [hqz]; simpa using hzR
            obtain ⟨i1, i2, i3, i4, i5, i6⟩ := fk_dstep (by omega) hy0 hz0 hzI hzk hwN hw0 hsum hdq
            refine lv_aload_n hx hb dX2_divide_77 rfl (lv_at hl 3 rfl) ?_
            refine va_get (D := D) (ci := 3) (v := .ref h5) (C := RX2) (T := TX2) (N := 1) hx hb hts k2 hown hK hP q4 (fk_sn (fk_sn hq4 hn_q1_q4) hn_q5_q4) rfl 0 (by decide) k1 (fun _ h9 => h9) rfl dX2_divide_78 ?_
            refine lv_iload hx hb dX2_divide_81 (lv_at hl 5 rfl) ?_
            refine lv_lload hx hb dX2_divide_83 (lv_at hl 0 rfl) ?_
            refine fk_last hx hb hK hP hD hS q5 0 (fk_ss (fk_sn hq5 hn_q1_q5)) rfl (i := sh) (by omega) (by decide) dX2_divide_85 (fun H locs hP hD hS => ?_)
            rw [fk_s2] at hP hD
            refine lv_iinc (v := nI sh + (-1)) (lv' := [(4, .int (nI sh + (-1))), (5, .long r5), (0, .ref h0), (1, .ref h2), (2, .ref h4), (3, .int (nI n))]) hx hb dX2_divide_86 hl (k := 5) rfl (by rfl) (by decide) rfl (fun ls hl => ?_)
            refine lv_goto (tgt := 23) hx hb dX2_divide_89 (by decide) ?_
            exact ih23 sh (z - z / (y * 65536 ^ sh) * (y * 65536 ^ sh)) g (vp_updL w sh r5) (by omega) (by omega) hzR2 i1 i2 i3 i4 i5 i6 _ _ _ hP hD hS (lv_sub hl [2, 3, 4, 5, 0] rfl)
          · rw [lg_cmp_le] at c_42
            rw [Int64.le_iff_toInt_le, fk_z64] at c_42
            refine lv_aload_n hx hb dX2_divide_45 rfl (lv_at hl 1 rfl) ?_
            refine lv_aload_n hx hb dX2_divide_46 rfl (lv_at hl 2 rfl) ?_
            refine lv_iload_n hx hb dX2_divide_47 rfl (lv_at hl 4 rfl) ?_
            refine lv_iload hx hb dX2_divide_48 (lv_at hl 5 rfl) ?_
            refine lv_lload hx hb dX2_divide_50 (lv_at hl 0 rfl) ?_
            refine lv_lneg hx hb dX2_divide_52 ?_
            refine lv_topl (fun x6 ex6 => ?_)
            have hmr : x6.toInt = -r5.toInt := by rw [ex6]; exact fk_neg (by omega)
            refine fk_cl hD hS hA (va_runV (As := [.ref h2, .int (nI n), .int (nI sh), .long x6]) (rest := []) ⟨hx, hb, hml, hown, hts⟩ (kX2_addShifted _ _ h0 h1 h2 h3 q0 q1 q2 q3 g o n sh M x6 z y (fk_sn (fk_sn hq0 hn_q1_q0) hn_q5_q0) (fk_sn (fk_ss hq1) hn_q5_q1) (fk_sn (fk_sn hq2 hn_q1_q2) hn_q5_q2) (fk_sn (fk_sn hq3 hn_q1_q3) hn_q5_q3) hn_q1_q3 hzR hRo hn12 hM (by omega)) (cwV 4 hts gX2_divide_X2_addShifted rfl rfl rfl (by decide +kernel) ⟨Nat.le_of_ble_eq_true rfl, Nat.le_of_ble_eq_true rfl⟩) (fk_preV q0 3 hK hN hP hD rfl (fk_sn (fk_sn hq0 hn_q1_q0) hn_q5_q0)) rfl rfl hl.1 rfl (lv_room (Nat.le_of_ble_eq_true rfl)) dX2_divide_53 ⟨Nat.le_of_ble_eq_true rfl, Nat.le_of_ble_eq_true rfl⟩) (fun r7 g1 H locs hw hP hD hS => ?_)
            rw [fk_s3 hn_q1_q5] at hP hD
            have hP : va_P D vwCl ((ws.set q1 (h1, .inl (cJ, 12, .inr (.inl g1)))).set q5 (h5, .inl (cJ, 12, .inr (.inl w)))) H := hP
            have hD : va_D A ((ws.set q1 (h1, .inl (cJ, 12, .inr (.inl g1)))).set q5 (h5, .inl (cJ, 12, .inr (.inl w)))) := hD
            obtain ⟨hc1, hg1⟩ := hw
            rw [hmr] at hc1
            obtain ⟨n1, e1, u1M⟩ := fk_as hzR hz0 hzI hRo (by omega) hIy hs (by omega) (by omega) hzM hc1 hg1
            have u10 := (fk_T_bd n1).1
            refine lv_lconst (v := 0) hx hb dX2_divide_56 (by decide) ?_
            refine W.lcmp hx hb dX2_divide_57 ?_
            refine lv_if_ge (tgt := 77) hx hb dX2_divide_58 (by decide) (fun c_58 => ?_) (fun c_58 => ?_)
            · rw [lg_cmp_ge] at c_58
              rw [Int64.le_iff_toInt_le, fk_z64] at c_58
              obtain ⟨hdq, hu⟩ := fk_d1 u10 hz0 hzM hZ e1 rfl hr1 hr2 c_58 u1M
              have hzR2 : fk_R (z - z / (y * 65536 ^ sh) * (y * 65536 ^ sh)) g1 := fk_R_of n1 hu
              obtain ⟨i1, i2, i3, i4, i5, i6⟩ := fk_dstep (by omega) hy0 hz0 hzI hzk hwN hw0 hsum hdq
              refine lv_aload_n hx hb dX2_divide_77 rfl (lv_at hl 3 rfl) ?_
              refine va_get (D := D) (ci := 3) (v := .ref h5) (C := RX2) (T := TX2) (N := 1) hx hb hts k2 hown hK hP q4 (fk_sn (fk_sn hq4 hn_q1_q4) hn_q5_q4) rfl 0 (by decide) k1 (fun _ h9 => h9) rfl dX2_divide_78 ?_
              refine lv_iload hx hb dX2_divide_81 (lv_at hl 5 rfl) ?_
              refine lv_lload hx hb dX2_divide_83 (lv_at hl 0 rfl) ?_
              refine fk_last hx hb hK hP hD hS q5 0 (fk_ss (fk_sn hq5 hn_q1_q5)) rfl (i := sh) (by omega) (by decide) dX2_divide_85 (fun H locs hP hD hS => ?_)
              rw [fk_s2] at hP hD
              refine lv_iinc (v := nI sh + (-1)) (lv' := [(4, .int (nI sh + (-1))), (5, .long r5), (0, .ref h0), (1, .ref h2), (2, .ref h4), (3, .int (nI n))]) hx hb dX2_divide_86 hl (k := 5) rfl (by rfl) (by decide) rfl (fun ls hl => ?_)
              refine lv_goto (tgt := 23) hx hb dX2_divide_89 (by decide) ?_
              exact ih23 sh (z - z / (y * 65536 ^ sh) * (y * 65536 ^ sh)) g1 (vp_updL w sh r5) (by omega) (by omega) hzR2 i1 i2 i3 i4 i5 i6 _ _ _ hP hD hS (lv_sub hl [2, 3, 4, 5, 0] rfl)
            · rw [lg_cmp_ge] at c_58
              rw [Int64.le_iff_toInt_le, fk_z64] at c_58
              have hRu : fk_R (fk_T (fk_I g1) 12) g1 := fk_R_of n1 rfl
              refine lv_aload_n hx hb dX2_divide_61 rfl (lv_at hl 1 rfl) ?_
              refine lv_aload_n hx hb dX2_divide_62 rfl (lv_at hl 2 rfl) ?_
              refine lv_iload_n hx hb dX2_divide_63 rfl (lv_at hl 4 rfl) ?_
              refine lv_iload hx hb dX2_divide_64 (lv_at hl 5 rfl) ?_
              refine lv_lconst (v := 1) hx hb dX2_divide_66 (by decide) ?_
              refine fk_cl hD hS hA (va_runV (As := [.ref h2, .int (nI n), .int (nI sh), .long 1]) (rest := []) ⟨hx, hb, hml, hown, hts⟩ (kX2_addShifted _ _ h0 h1 h2 h3 q0 q1 q2 q3 g1 o n sh M 1 (fk_T (fk_I g1) 12) y (fk_sn (fk_sn hq0 hn_q1_q0) hn_q5_q0) (fk_sn (fk_ss hq1) hn_q5_q1) (fk_sn (fk_sn hq2 hn_q1_q2) hn_q5_q2) (fk_sn (fk_sn hq3 hn_q1_q3) hn_q5_q3) hn_q1_q3 hRu hRo hn12 hM (by decide)) (cwV 4 hts gX2_divide_X2_addShifted rfl rfl rfl (by decide +kernel) ⟨Nat.le_of_ble_eq_true rfl, Nat.le_of_ble_eq_true rfl⟩) (fk_preV q0 3 hK hN hP hD rfl (fk_sn (fk_sn hq0 hn_q1_q0) hn_q5_q0)) rfl rfl hl.1 rfl (lv_room (Nat.le_of_ble_eq_true rfl)) dX2_divide_67 ⟨Nat.le_of_ble_eq_true rfl, Nat.le_of_ble_eq_true rfl⟩) (fun r8 g2 H locs hw hP hD hS => ?_)
              rw [fk_s3 hn_q1_q5] at hP hD
              have hP : va_P D vwCl ((ws.set q1 (h1, .inl (cJ, 12, .inr (.inl g2)))).set q5 (h5, .inl (cJ, 12, .inr (.inl w)))) H := hP
              have hD : va_D A ((ws.set q1 (h1, .inl (cJ, 12, .inr (.inl g2)))).set q5 (h5, .inl (cJ, 12, .inr (.inl w)))) := hD
              obtain ⟨hc2, hg2⟩ := hw
              rw [show (1 : Int64).toInt = 1 by decide] at hc2
              obtain ⟨n2, e2, u2M⟩ := fk_as2 n1 rfl u1M hRo (by omega) hIy hs (by omega) (by omega) hc2 hg2
              have u20 := (fk_T_bd n2).1
              obtain ⟨hdq0, hu⟩ := fk_d2 hz0 hzM hZ hZM u10 u1M e1 rfl hr1 hr2 (by omega) u20 u2M e2
              have hzR2 : fk_R (z - z / (y * 65536 ^ sh) * (y * 65536 ^ sh)) g2 := fk_R_of n2 hu
              refine lv_pop2_2 hx hb dX2_divide_70 rfl ?_
              refine lv_lload hx hb dX2_divide_71 (lv_at hl 0 rfl) ?_
              refine lv_lconst (v := 1) hx hb dX2_divide_73 (by decide) ?_
              refine lv_lsub hx hb dX2_divide_74 ?_
              refine lv_topl (fun x9 ex9 => ?_)
              have hdq : x9.toInt = z / (y * 65536 ^ sh) := by
                rw [ex9, ← hdq0]; exact fk_sub (by rw [show (1 : Int64).toInt = 1 by decide]; omega) (by rw [show (1 : Int64).toInt = 1 by decide]; omega)
              refine lv_lstore (lv' := [(5, .long x9), (0, .ref h0), (1, .ref h2), (2, .ref h4), (3, .int (nI n)), (4, .int (nI sh))]) hx hb dX2_divide_75 hl (by decide) rfl (fun ls hl => ?_)
              obtain ⟨i1, i2, i3, i4, i5, i6⟩ := fk_dstep (by omega) hy0 hz0 hzI hzk hwN hw0 hsum hdq
              refine lv_aload_n hx hb dX2_divide_77 rfl (lv_at hl 3 rfl) ?_
              refine va_get (D := D) (ci := 3) (v := .ref h5) (C := RX2) (T := TX2) (N := 1) hx hb hts k2 hown hK hP q4 (fk_sn (fk_sn hq4 hn_q1_q4) hn_q5_q4) rfl 0 (by decide) k1 (fun _ h9 => h9) rfl dX2_divide_78 ?_
              refine lv_iload hx hb dX2_divide_81 (lv_at hl 5 rfl) ?_
              refine lv_lload hx hb dX2_divide_83 (lv_at hl 0 rfl) ?_
              refine fk_last hx hb hK hP hD hS q5 0 (fk_ss (fk_sn hq5 hn_q1_q5)) rfl (i := sh) (by omega) (by decide) dX2_divide_85 (fun H locs hP hD hS => ?_)
              rw [fk_s2] at hP hD
              refine lv_iinc (v := nI sh + (-1)) (lv' := [(4, .int (nI sh + (-1))), (5, .long x9), (0, .ref h0), (1, .ref h2), (2, .ref h4), (3, .int (nI n))]) hx hb dX2_divide_86 hl (k := 5) rfl (by rfl) (by decide) rfl (fun ls hl => ?_)
              refine lv_goto (tgt := 23) hx hb dX2_divide_89 (by decide) ?_
              exact ih23 sh (z - z / (y * 65536 ^ sh) * (y * 65536 ^ sh)) g2 (vp_updL w sh x9) (by omega) (by omega) hzR2 i1 i2 i3 i4 i5 i6 _ _ _ hP hD hS (lv_sub hl [2, 3, 4, 5, 0] rfl)
    exact L23 14 (a - n + 1) x f wq (by omega) (by omega) hR hx0 hI hk0 hwN (fun j hj => hwz j (by omega)) (by rw [hwT]; simp) _ _ _ hP hD hS (lv_sub hl [2, 3, 4, 1, 0] rfl)
