/-! Reference: add, by program -/
theorem fk_cmp_ne {x : Int} : fk_cmp x = 0 ↔ x = 0 := by
  rw [fk_cmp]
  by_cases q : x = 0
  · rw [if_pos q]; exact ⟨fun _ => q, fun _ => rfl⟩
  · rw [if_neg q]; split
    · exact ⟨fun h => absurd h (by decide), fun h => absurd h q⟩
    · exact ⟨fun h => absurd h (by decide), fun h => absurd h q⟩
theorem fk_cmp_cases (x : Int) : (x = 0 ∧ fk_cmp x = 0) ∨ (x < 0 ∧ fk_cmp x = -1) ∨ (0 < x ∧ fk_cmp x = 1) := by
  rw [fk_cmp]
  by_cases q : x = 0
  · exact Or.inl ⟨q, by rw [if_pos q]⟩
  · by_cases q2 : x < 0
    · exact Or.inr (Or.inl ⟨q2, by rw [if_neg q, if_pos q2]⟩)
    · exact Or.inr (Or.inr ⟨by omega, by rw [if_neg q, if_neg q2]⟩)
theorem fk_abs_cases (x : Int) : (x < 0 ∧ fk_abs x = -x) ∨ (0 ≤ x ∧ fk_abs x = x) := by
  rw [fk_abs]
  by_cases q : x < 0
  · exact Or.inl ⟨q, by rw [if_pos q]⟩
  · exact Or.inr ⟨by omega, by rw [if_neg q]⟩
/-- sums of sizes where the signs don't differ -/
theorem fk_add_same {x y : Int} (h : fk_cmp x = 0 ∨ fk_cmp y = 0 ∨ fk_cmp x = fk_cmp y) : fk_abs x + fk_abs y = fk_abs (x + y) ∧ (if fk_cmp x = 0 then fk_cmp y else fk_cmp x) = fk_cmp (x + y) := by
  have ax := fk_abs_cases x
  have ay := fk_abs_cases y
  have az := fk_abs_cases (x + y)
  have cx := fk_cmp_cases x
  have cy := fk_cmp_cases y
  have cz := fk_cmp_cases (x + y)
  constructor
  · rcases cx with ⟨a, b⟩ | ⟨a, b⟩ | ⟨a, b⟩ <;> rcases cy with ⟨c, d⟩ | ⟨c, d⟩ | ⟨c, d⟩ <;> rw [b, d] at h <;> first | omega | (exact absurd h (by decide))
  · rcases cx with ⟨a, b⟩ | ⟨a, b⟩ | ⟨a, b⟩ <;> rcases cy with ⟨c, d⟩ | ⟨c, d⟩ | ⟨c, d⟩ <;> rcases cz with ⟨i, j⟩ | ⟨i, j⟩ | ⟨i, j⟩ <;> rw [b, d] at h <;> rw [b, d, j] <;> first | rfl | (exfalso; omega) | (exact absurd h (by decide))
/-- and where they do -/
theorem fk_add_diff {x y : Int} (hx : fk_cmp x ≠ 0) (hy : fk_cmp y ≠ 0) (h : fk_cmp x ≠ fk_cmp y) : (fk_abs y ≤ fk_abs x → fk_abs x - fk_abs y = fk_abs (x + y) ∧ (if fk_abs x - fk_abs y = 0 then 0 else fk_cmp x) = fk_cmp (x + y)) ∧ (fk_abs x < fk_abs y → fk_abs y - fk_abs x = fk_abs (x + y) ∧ (if fk_abs y - fk_abs x = 0 then 0 else fk_cmp y) = fk_cmp (x + y)) := by
  have ax := fk_abs_cases x
  have ay := fk_abs_cases y
  have az := fk_abs_cases (x + y)
  have cx := fk_cmp_cases x
  have cy := fk_cmp_cases y
  have cz := fk_cmp_cases (x + y)
  constructor
  · intro hle
    rcases cx with ⟨a, b⟩ | ⟨a, b⟩ | ⟨a, b⟩ <;> rcases cy with ⟨c, d⟩ | ⟨c, d⟩ | ⟨c, d⟩ <;> rw [b] at hx h <;> rw [d] at hy h <;> first | (exact absurd rfl hx) | (exact absurd rfl hy) | (exact absurd rfl h) | skip
    all_goals
      refine ⟨by omega, ?_⟩
      rcases cz with ⟨i, j⟩ | ⟨i, j⟩ | ⟨i, j⟩ <;> rw [b, j] <;> first | (rw [if_pos (by omega)]; done) | (rw [if_neg (by omega)]; done) | (exfalso; omega)
  · intro hlt
    rcases cx with ⟨a, b⟩ | ⟨a, b⟩ | ⟨a, b⟩ <;> rcases cy with ⟨c, d⟩ | ⟨c, d⟩ | ⟨c, d⟩ <;> rw [b] at hx h <;> rw [d] at hy h <;> first | (exact absurd rfl hx) | (exact absurd rfl hy) | (exact absurd rfl h) | skip
    all_goals
      refine ⟨by omega, ?_⟩
      rcases cz with ⟨i, j⟩ | ⟨i, j⟩ | ⟨i, j⟩ <;> rw [d, j] <;> first | (rw [if_pos (by omega)]; done) | (rw [if_neg (by omega)]; done) | (exfalso; omega)
theorem fk_abs_s {s : Int} (hs : s = 1 ∨ s = -1) (y : Int) : fk_abs (y * s) = fk_abs y := by
  rcases hs with rfl | rfl
  · rw [Int.mul_one]
  · have a := fk_abs_cases y
    have b := fk_abs_cases (y * -1)
    omega
theorem fk_cmp_s {s : Int32} (hs : s = 1 ∨ s = -1) (y : Int) : s * fk_cmp y = fk_cmp (y * s.toInt) := by
  have e : s = fk_cmp s.toInt := by rcases hs with rfl | rfl <;> decide
  rw [Int.mul_comm, ← fk_cmp_mul, ← e]
abbrev rmX4_add : Room := { frames := 1, cells := 0, slots := 0, locals := 25 }
set_option maxHeartbeats 4000000 in
set_option maxRecDepth 100000 in
/-- add -/
theorem kX4_add {l : Launch} {D : va_G} {cJ cC cI cZ cK : ClassId} (sz : Nat) (am : Nat → Nat) (tl : va_W) (cd kn lo tn : Int32) (wd sg : Nat → Int32) (up dn of : Nat → Int64) (bey rnd tx pt sn : Nat → Int32) (p0 ra rb : Nat) (s0 : Int32) (x y : Int) (hp : p0 < 24) (hra : ra < 24) (hrb : rb < 24) (hs : s0 = 1 ∨ s0 = -1) (gA : fk_G x ra pt sn) (gB : fk_G y rb pt sn) (hxy : fk_abs x + fk_abs y < 65536 ^ 16) : Met l yX4_add wsX4_add rmX4_add (va_Pc [.ref (am 0), .int (nI p0), .int (nI ra), .int (nI rb), .int s0] (fk_pre D (fk_ty cJ cC cI cZ cK) (fk_wm cJ cI cZ am cd kn lo tn wd sg up dn of bey rnd tx pt sn ++ tl) sz)) (va_Qv (fun u : (Nat → Int32) × (Nat → Int32) => fk_G (x + y * s0.toInt) p0 u.1 u.2 ∧ fk_fp p0 pt u.1 ∧ fk_fs p0 sn u.2) (fk_Bd D (fk_ty cJ cC cI cZ cK) (va_A (fk_wm cJ cI cZ am cd kn lo tn wd sg up dn of bey rnd tx pt sn ++ tl) sz) (fun u : (Nat → Int32) × (Nat → Int32) => fk_wm cJ cI cZ am cd kn lo tn wd sg up dn of bey rnd tx u.1 u.2 ++ tl)) (va_A (fk_wm cJ cI cZ am cd kn lo tn wd sg up dn of bey rnd tx pt sn ++ tl) sz)) 0 0 (va_A (fk_wm cJ cI cZ am cd kn lo tn wd sg up dn of bey rnd tx pt sn ++ tl) sz) := by
  refine fk_ofW cX4_add 8 none (fun A => va_Qv (fun u : (Nat → Int32) × (Nat → Int32) => fk_G (x + y * s0.toInt) p0 u.1 u.2 ∧ fk_fp p0 pt u.1 ∧ fk_fs p0 sn u.2) (fk_Bd D (fk_ty cJ cC cI cZ cK) A (fun u : (Nat → Int32) × (Nat → Int32) => fk_wm cJ cI cZ am cd kn lo tn wd sg up dn of bey rnd tx u.1 u.2 ++ tl)) A) rfl (by decide) (Nat.le_of_ble_eq_true rfl) ?_
  intro p e s m below meth c A ls args QQ hQQ hAt hP hK hN hD hA hS hl
  obtain ⟨⟨hx, hb, hml, hown, hts⟩, hr, hlocks, hin⟩ := hAt
  have hl : lv_has ls 8 [(0, .ref (am 0)), (1, .int (nI p0)), (2, .int (nI ra)), (3, .int (nI rb)), (4, .int s0)] := hl
  have k1 := hts (.fieldLink RX4 39 "FixedKindsModel" "sign" "[I") (by decide +kernel)
  have k2 := (by decide +kernel : ∀ w ∈ u_ws RX4 TX4 14, w ∈ wsX4_add)
  refine lv_iload hx hb dX4_add_0 (lv_at hl 4 rfl) ?_
  refine lv_aload_n hx hb dX4_add_2 rfl (lv_at hl 0 rfl) ?_
  refine va_get (D := D) (ci := 5) (v := .ref (am 10)) (C := RX4) (T := TX4) (N := 14) hx hb hts k2 hown hK hP 0 rfl rfl 13 (by decide) k1 (fun _ h9 => h9) rfl dX4_add_3 ?_
  refine lv_iload_n hx hb dX4_add_6 rfl (lv_at hl 3 rfl) ?_
  refine fk_iald hx hb hK hP 10 2 rfl rfl (i := rb) hrb (by decide) dX4_add_7 ?_
  refine lv_imul hx hb dX4_add_8 ?_
  refine lv_topi (fun x1 ex1 => ?_)
  have ex1q : x1 = fk_cmp (y * s0.toInt) := by
    rw [ex1, gB.2]; exact fk_cmp_s hs y
  subst ex1q
  refine lv_istore (lv' := [(5, .int (fk_cmp (y * s0.toInt))), (0, .ref (am 0)), (1, .int (nI p0)), (2, .int (nI ra)), (3, .int (nI rb)), (4, .int s0)]) hx hb dX4_add_9 hl (by decide) rfl (fun ls hl => ?_)
  refine lv_aload_n hx hb dX4_add_11 rfl (lv_at hl 1 rfl) ?_
  refine va_get (D := D) (ci := 5) (v := .ref (am 10)) (C := RX4) (T := TX4) (N := 14) hx hb hts k2 hown hK hP 0 rfl rfl 13 (by decide) k1 (fun _ h9 => h9) rfl dX4_add_12 ?_
  refine lv_iload_n hx hb dX4_add_15 rfl (lv_at hl 3 rfl) ?_
  refine fk_iald hx hb hK hP 10 2 rfl rfl (i := ra) hra (by decide) dX4_add_16 ?_
  rw [gA.2]
  refine lv_istore (lv' := [(6, .int (fk_cmp x)), (5, .int (fk_cmp (y * s0.toInt))), (0, .ref (am 0)), (1, .int (nI p0)), (2, .int (nI ra)), (3, .int (nI rb)), (4, .int s0)]) hx hb dX4_add_17 hl (by decide) rfl (fun ls hl => ?_)
  refine lv_iload hx hb dX4_add_19 (lv_at hl 0 rfl) ?_
  refine lv_if_eq (tgt := 36) hx hb dX4_add_21 (by decide) (fun c_21 => ?_) (fun c_21 => ?_)
  · have hsame : fk_cmp x = 0 ∨ fk_cmp (y * s0.toInt) = 0 ∨ fk_cmp x = fk_cmp (y * s0.toInt) := Or.inl c_21
    refine lv_aload_n hx hb dX4_add_36 rfl (lv_at hl 2 rfl) ?_
    refine lv_iload_n hx hb dX4_add_37 rfl (lv_at hl 3 rfl) ?_
    refine lv_iload_n hx hb dX4_add_38 rfl (lv_at hl 4 rfl) ?_
    refine lv_iload_n hx hb dX4_add_39 rfl (lv_at hl 5 rfl) ?_
    have hab := fk_abs_s (s := s0.toInt) (by rcases hs with q | q <;> rw [q] <;> decide) y
    obtain ⟨q1, q2⟩ := fk_add_same hsame
    have hbx := (fk_rg_bd gA.1).1
    have hby := (fk_rg_bd gB.1).1
    refine fk_cv hD hS hA (va_runV (As := [.int (nI p0), .int (nI ra), .int (nI rb)]) (rest := []) ⟨hx, hb, hml, hown, hts⟩ (kX4_addSizes _ am tl cd kn lo tn wd sg up dn of bey rnd tx pt sn p0 ra rb (fk_abs x) (fk_abs y) hp hra hrb gA.1 gB.1 hxy) (cwV 3 hts gX4_add_X4_addSizes rfl rfl rfl (by decide +kernel) ⟨Nat.le_of_ble_eq_true rfl, Nat.le_of_ble_eq_true rfl⟩) (fk_preV 0 5 hK hN hP hD rfl rfl) rfl rfl hl.1 rfl (lv_room (Nat.le_of_ble_eq_true rfl)) dX4_add_40 ⟨Nat.le_of_ble_eq_true rfl, Nat.le_of_ble_eq_true rfl⟩) (fun pt2 H locs hw hP hD hS => ?_)
    have hP : va_P D vwCl (fk_wm cJ cI cZ am cd kn lo tn wd sg up dn of bey rnd tx pt2 sn ++ tl) H := hP
    have hD : va_D A (fk_wm cJ cI cZ am cd kn lo tn wd sg up dn of bey rnd tx pt2 sn ++ tl) := hD
    obtain ⟨hr1, hr2⟩ := hw
    rw [← hab, q1] at hr1
    refine lv_aload_n hx hb dX4_add_43 rfl (lv_at hl 2 rfl) ?_
    refine va_get (D := D) (ci := 5) (v := .ref (am 10)) (C := RX4) (T := TX4) (N := 14) hx hb hts k2 hown hK hP 0 rfl rfl 13 (by decide) k1 (fun _ h9 => h9) rfl dX4_add_44 ?_
    refine lv_iload_n hx hb dX4_add_47 rfl (lv_at hl 3 rfl) ?_
    refine lv_iload hx hb dX4_add_48 (lv_at hl 0 rfl) ?_
    refine lv_if_ne (tgt := 58) hx hb dX4_add_50 (by decide) (fun c_50 => ?_) (fun c_50 => ?_)
    · refine lv_iload hx hb dX4_add_58 (lv_at hl 0 rfl) ?_
      refine fk_iast hx hb hK hP hD hS 10 2 rfl rfl (i := p0) hp (by decide) dX4_add_60 (fun H locs hP hD hS => ?_)
      have hP : va_P D vwCl (fk_wm cJ cI cZ am cd kn lo tn wd sg up dn of bey rnd tx pt2 (upd sn p0 (fk_cmp x)) ++ tl) H := hP
      have hD : va_D A (fk_wm cJ cI cZ am cd kn lo tn wd sg up dn of bey rnd tx pt2 (upd sn p0 (fk_cmp x)) ++ tl) := hD
      rw [hQQ]
      exact W.vret hx hb hr (fun t ht hW => ⟨⟨(pt2, upd sn p0 (fk_cmp x)), rfl, ⟨⟨hr1, by show upd sn p0 _ p0 = _; rw [pk_us]; rw [if_neg c_50] at q2; exact q2⟩, hr2, fk_fs_u _ _ _⟩, by rw [ht]; exact hP, va_K.moved hW.alike hK, hD⟩, hS.F ht⟩) hS.2.2 dX4_add_61
    · refine lv_iload hx hb dX4_add_53 (lv_at hl 1 rfl) ?_
      refine lv_goto (tgt := 60) hx hb dX4_add_55 (by decide) ?_
      refine fk_iast hx hb hK hP hD hS 10 2 rfl rfl (i := p0) hp (by decide) dX4_add_60 (fun H locs hP hD hS => ?_)
      have hP : va_P D vwCl (fk_wm cJ cI cZ am cd kn lo tn wd sg up dn of bey rnd tx pt2 (upd sn p0 (fk_cmp (y * s0.toInt))) ++ tl) H := hP
      have hD : va_D A (fk_wm cJ cI cZ am cd kn lo tn wd sg up dn of bey rnd tx pt2 (upd sn p0 (fk_cmp (y * s0.toInt))) ++ tl) := hD
      rw [hQQ]
      exact W.vret hx hb hr (fun t ht hW => ⟨⟨(pt2, upd sn p0 (fk_cmp (y * s0.toInt))), rfl, ⟨⟨hr1, by show upd sn p0 _ p0 = _; rw [pk_us]; rw [if_pos c_50] at q2; exact q2⟩, hr2, fk_fs_u _ _ _⟩, by rw [ht]; exact hP, va_K.moved hW.alike hK, hD⟩, hS.F ht⟩) hS.2.2 dX4_add_61
  · refine lv_iload hx hb dX4_add_24 (lv_at hl 1 rfl) ?_
    refine lv_if_eq (tgt := 36) hx hb dX4_add_26 (by decide) (fun c_26 => ?_) (fun c_26 => ?_)
    · have hsame : fk_cmp x = 0 ∨ fk_cmp (y * s0.toInt) = 0 ∨ fk_cmp x = fk_cmp (y * s0.toInt) := Or.inr (Or.inl c_26)
      refine lv_aload_n hx hb dX4_add_36 rfl (lv_at hl 2 rfl) ?_
      refine lv_iload_n hx hb dX4_add_37 rfl (lv_at hl 3 rfl) ?_
      refine lv_iload_n hx hb dX4_add_38 rfl (lv_at hl 4 rfl) ?_
      refine lv_iload_n hx hb dX4_add_39 rfl (lv_at hl 5 rfl) ?_
      have hab := fk_abs_s (s := s0.toInt) (by rcases hs with q | q <;> rw [q] <;> decide) y
      obtain ⟨q1, q2⟩ := fk_add_same hsame
      have hbx := (fk_rg_bd gA.1).1
      have hby := (fk_rg_bd gB.1).1
      refine fk_cv hD hS hA (va_runV (As := [.int (nI p0), .int (nI ra), .int (nI rb)]) (rest := []) ⟨hx, hb, hml, hown, hts⟩ (kX4_addSizes _ am tl cd kn lo tn wd sg up dn of bey rnd tx pt sn p0 ra rb (fk_abs x) (fk_abs y) hp hra hrb gA.1 gB.1 hxy) (cwV 3 hts gX4_add_X4_addSizes rfl rfl rfl (by decide +kernel) ⟨Nat.le_of_ble_eq_true rfl, Nat.le_of_ble_eq_true rfl⟩) (fk_preV 0 5 hK hN hP hD rfl rfl) rfl rfl hl.1 rfl (lv_room (Nat.le_of_ble_eq_true rfl)) dX4_add_40 ⟨Nat.le_of_ble_eq_true rfl, Nat.le_of_ble_eq_true rfl⟩) (fun pt4 H locs hw hP hD hS => ?_)
      have hP : va_P D vwCl (fk_wm cJ cI cZ am cd kn lo tn wd sg up dn of bey rnd tx pt4 sn ++ tl) H := hP
      have hD : va_D A (fk_wm cJ cI cZ am cd kn lo tn wd sg up dn of bey rnd tx pt4 sn ++ tl) := hD
      obtain ⟨hr1, hr2⟩ := hw
      rw [← hab, q1] at hr1
      refine lv_aload_n hx hb dX4_add_43 rfl (lv_at hl 2 rfl) ?_
      refine va_get (D := D) (ci := 5) (v := .ref (am 10)) (C := RX4) (T := TX4) (N := 14) hx hb hts k2 hown hK hP 0 rfl rfl 13 (by decide) k1 (fun _ h9 => h9) rfl dX4_add_44 ?_
      refine lv_iload_n hx hb dX4_add_47 rfl (lv_at hl 3 rfl) ?_
      refine lv_iload hx hb dX4_add_48 (lv_at hl 0 rfl) ?_
      refine lv_if_ne (tgt := 58) hx hb dX4_add_50 (by decide) (fun c_50 => ?_) (fun c_50 => ?_)
      · refine lv_iload hx hb dX4_add_58 (lv_at hl 0 rfl) ?_
        refine fk_iast hx hb hK hP hD hS 10 2 rfl rfl (i := p0) hp (by decide) dX4_add_60 (fun H locs hP hD hS => ?_)
        have hP : va_P D vwCl (fk_wm cJ cI cZ am cd kn lo tn wd sg up dn of bey rnd tx pt4 (upd sn p0 (fk_cmp x)) ++ tl) H := hP
        have hD : va_D A (fk_wm cJ cI cZ am cd kn lo tn wd sg up dn of bey rnd tx pt4 (upd sn p0 (fk_cmp x)) ++ tl) := hD
        rw [hQQ]
        exact W.vret hx hb hr (fun t ht hW => ⟨⟨(pt4, upd sn p0 (fk_cmp x)), rfl, ⟨⟨hr1, by show upd sn p0 _ p0 = _; rw [pk_us]; rw [if_neg c_50] at q2; exact q2⟩, hr2, fk_fs_u _ _ _⟩, by rw [ht]; exact hP, va_K.moved hW.alike hK, hD⟩, hS.F ht⟩) hS.2.2 dX4_add_61
      · refine lv_iload hx hb dX4_add_53 (lv_at hl 1 rfl) ?_
        refine lv_goto (tgt := 60) hx hb dX4_add_55 (by decide) ?_
        refine fk_iast hx hb hK hP hD hS 10 2 rfl rfl (i := p0) hp (by decide) dX4_add_60 (fun H locs hP hD hS => ?_)
        have hP : va_P D vwCl (fk_wm cJ cI cZ am cd kn lo tn wd sg up dn of bey rnd tx pt4 (upd sn p0 (fk_cmp (y * s0.toInt))) ++ tl) H := hP
        have hD : va_D A (fk_wm cJ cI cZ am cd kn lo tn wd sg up dn of bey rnd tx pt4 (upd sn p0 (fk_cmp (y * s0.toInt))) ++ tl) := hD
        rw [hQQ]
        exact W.vret hx hb hr (fun t ht hW => ⟨⟨(pt4, upd sn p0 (fk_cmp (y * s0.toInt))), rfl, ⟨⟨hr1, by show upd sn p0 _ p0 = _; rw [pk_us]; rw [if_pos c_50] at q2; exact q2⟩, hr2, fk_fs_u _ _ _⟩, by rw [ht]; exact hP, va_K.moved hW.alike hK, hD⟩, hS.F ht⟩) hS.2.2 dX4_add_61
    · refine lv_iload hx hb dX4_add_29 (lv_at hl 0 rfl) ?_
      refine lv_iload hx hb dX4_add_31 (lv_at hl 1 rfl) ?_
      refine lv_icmp_ne (tgt := 62) hx hb dX4_add_33 (by decide) (fun c_33 => ?_) (fun c_33 => ?_)
      · refine lv_aload_n hx hb dX4_add_62 rfl (lv_at hl 2 rfl) ?_
        refine lv_iload_n hx hb dX4_add_63 rfl (lv_at hl 4 rfl) ?_
        refine lv_iload_n hx hb dX4_add_64 rfl (lv_at hl 5 rfl) ?_
        have hab := fk_abs_s (s := s0.toInt) (by rcases hs with q | q <;> rw [q] <;> decide) y
        obtain ⟨d1, d2⟩ := fk_add_diff c_21 c_26 c_33
        refine fk_ci hD hS hA (va_runV (As := [.int (nI ra), .int (nI rb)]) (rest := []) ⟨hx, hb, hml, hown, hts⟩ (kX4_sizes _ am tl cd kn lo tn wd sg up dn of bey rnd tx pt sn ra rb (fk_abs x) (fk_abs y) hra hrb gA.1 gB.1) (cwV 2 hts gX4_add_X4_sizes rfl rfl rfl (by decide +kernel) ⟨Nat.le_of_ble_eq_true rfl, Nat.le_of_ble_eq_true rfl⟩) (fk_preV 0 5 hK hN hP hD rfl rfl) rfl rfl hl.1 rfl (lv_room (Nat.le_of_ble_eq_true rfl)) dX4_add_65 ⟨Nat.le_of_ble_eq_true rfl, Nat.le_of_ble_eq_true rfl⟩) (fun r6 u H locs hw hP hD hS => ?_)
        have hP : va_P D vwCl (fk_wm cJ cI cZ am cd kn lo tn wd sg up dn of bey rnd tx pt sn ++ tl) H := hP
        have hD : va_D A (fk_wm cJ cI cZ am cd kn lo tn wd sg up dn of bey rnd tx pt sn ++ tl) := hD
        obtain ⟨s1, s2⟩ := hw
        refine lv_if_lt (tgt := 75) hx hb dX4_add_68 (by decide) (fun c_68 => ?_) (fun c_68 => ?_)
        · rw [Int32.lt_iff_toInt_lt, show (0 : Int32).toInt = 0 by decide] at c_68
          have hlt : fk_abs x < fk_abs y := s2.mp c_68
          obtain ⟨q1, q2⟩ := d2 (by rw [hab]; exact hlt)
          refine lv_iconst (v := 0) hx hb dX4_add_75 (by decide) ?_
          refine lv_istore (lv' := [(7, .int 0), (6, .int (fk_cmp x)), (5, .int (fk_cmp (y * s0.toInt))), (0, .ref (am 0)), (1, .int (nI p0)), (2, .int (nI ra)), (3, .int (nI rb)), (4, .int s0)]) hx hb dX4_add_76 hl (by decide) rfl (fun ls hl => ?_)
          refine lv_iload hx hb dX4_add_78 (lv_at hl 0 rfl) ?_
          refine lv_if_eq (tgt := 93) hx hb dX4_add_80 (by decide) (fun c_80 => ?_) (fun c_80 => False.elim (absurd rfl c_80))
          refine lv_aload_n hx hb dX4_add_93 rfl (lv_at hl 3 rfl) ?_
          refine lv_iload_n hx hb dX4_add_94 rfl (lv_at hl 4 rfl) ?_
          refine lv_iload_n hx hb dX4_add_95 rfl (lv_at hl 6 rfl) ?_
          refine lv_iload_n hx hb dX4_add_96 rfl (lv_at hl 5 rfl) ?_
          refine fk_cv hD hS hA (va_runV (As := [.int (nI p0), .int (nI rb), .int (nI ra)]) (rest := []) ⟨hx, hb, hml, hown, hts⟩ (kX4_lessSizes _ am tl cd kn lo tn wd sg up dn of bey rnd tx pt sn p0 rb ra (fk_abs y) (fk_abs x) hp hrb hra gB.1 gA.1 (by omega)) (cwV 3 hts gX4_add_X4_lessSizes rfl rfl rfl (by decide +kernel) ⟨Nat.le_of_ble_eq_true rfl, Nat.le_of_ble_eq_true rfl⟩) (fk_preV 0 5 hK hN hP hD rfl rfl) rfl rfl hl.1 rfl (lv_room (Nat.le_of_ble_eq_true rfl)) dX4_add_97 ⟨Nat.le_of_ble_eq_true rfl, Nat.le_of_ble_eq_true rfl⟩) (fun pt7 H locs hw hP hD hS => ?_)
          have hP : va_P D vwCl (fk_wm cJ cI cZ am cd kn lo tn wd sg up dn of bey rnd tx pt7 sn ++ tl) H := hP
          have hD : va_D A (fk_wm cJ cI cZ am cd kn lo tn wd sg up dn of bey rnd tx pt7 sn ++ tl) := hD
          obtain ⟨hr1, hr2⟩ := hw
          rw [← hab, q1] at hr1
          refine lv_aload_n hx hb dX4_add_100 rfl (lv_at hl 3 rfl) ?_
          refine va_get (D := D) (ci := 5) (v := .ref (am 10)) (C := RX4) (T := TX4) (N := 14) hx hb hts k2 hown hK hP 0 rfl rfl 13 (by decide) k1 (fun _ h9 => h9) rfl dX4_add_101 ?_
          refine lv_iload_n hx hb dX4_add_104 rfl (lv_at hl 4 rfl) ?_
          refine lv_aload_n hx hb dX4_add_105 rfl (lv_at hl 3 rfl) ?_
          refine lv_iload_n hx hb dX4_add_106 rfl (lv_at hl 4 rfl) ?_
          refine fk_ci hD hS hA (va_runV (As := [.int (nI p0)]) (rest := [.int (nI p0), .ref (am 10)]) ⟨hx, hb, hml, hown, hts⟩ (kX4_nothing _ am tl cd kn lo tn wd sg up dn of bey rnd tx pt7 sn p0 (fk_abs (x + y * s0.toInt)) hp hr1) (cwV 1 hts gX4_add_X4_nothing rfl rfl rfl (by decide +kernel) ⟨Nat.le_of_ble_eq_true rfl, Nat.le_of_ble_eq_true rfl⟩) (fk_preV 0 5 hK hN hP hD rfl rfl) rfl rfl hl.1 rfl (lv_room (Nat.le_of_ble_eq_true rfl)) dX4_add_107 ⟨Nat.le_of_ble_eq_true rfl, Nat.le_of_ble_eq_true rfl⟩) (fun r9 u H locs hw hP hD hS => ?_)
          have hP : va_P D vwCl (fk_wm cJ cI cZ am cd kn lo tn wd sg up dn of bey rnd tx pt7 sn ++ tl) H := hP
          have hD : va_D A (fk_wm cJ cI cZ am cd kn lo tn wd sg up dn of bey rnd tx pt7 sn ++ tl) := hD
          have zn := hw
          refine lv_if_eq (tgt := 117) hx hb dX4_add_110 (by decide) (fun c_110 => ?_) (fun c_110 => ?_)
          · have hz : ¬ fk_abs (x + y * s0.toInt) = 0 := by intro q; rw [zn, if_pos q] at c_110; exact absurd c_110 (by decide)
            refine lv_iload hx hb dX4_add_117 (lv_at hl 0 rfl) ?_
            refine lv_if_eq (tgt := 127) hx hb dX4_add_119 (by decide) (fun c_119 => ?_) (fun c_119 => False.elim (absurd rfl c_119))
            refine lv_iload hx hb dX4_add_127 (lv_at hl 2 rfl) ?_
            refine fk_iast hx hb hK hP hD hS 10 2 rfl rfl (i := p0) hp (by decide) dX4_add_129 (fun H locs hP hD hS => ?_)
            have hP : va_P D vwCl (fk_wm cJ cI cZ am cd kn lo tn wd sg up dn of bey rnd tx pt7 (upd sn p0 (fk_cmp (y * s0.toInt))) ++ tl) H := hP
            have hD : va_D A (fk_wm cJ cI cZ am cd kn lo tn wd sg up dn of bey rnd tx pt7 (upd sn p0 (fk_cmp (y * s0.toInt))) ++ tl) := hD
            rw [hQQ]
            exact W.vret hx hb hr (fun t ht hW => ⟨⟨(pt7, upd sn p0 (fk_cmp (y * s0.toInt))), rfl, ⟨⟨hr1, by show upd sn p0 _ p0 = _; rw [pk_us]; rw [q1, if_neg hz] at q2; exact q2⟩, hr2, fk_fs_u _ _ _⟩, by rw [ht]; exact hP, va_K.moved hW.alike hK, hD⟩, hS.F ht⟩) hS.2.2 dX4_add_130
          · have hz : fk_abs (x + y * s0.toInt) = 0 := by by_cases q : fk_abs (x + y * s0.toInt) = 0; exact q; rw [zn, if_neg q] at c_110; exact absurd rfl c_110
            refine lv_iconst (v := 0) hx hb dX4_add_113 (by decide) ?_
            refine lv_goto (tgt := 129) hx hb dX4_add_114 (by decide) ?_
            refine fk_iast hx hb hK hP hD hS 10 2 rfl rfl (i := p0) hp (by decide) dX4_add_129 (fun H locs hP hD hS => ?_)
            have hP : va_P D vwCl (fk_wm cJ cI cZ am cd kn lo tn wd sg up dn of bey rnd tx pt7 (upd sn p0 0) ++ tl) H := hP
            have hD : va_D A (fk_wm cJ cI cZ am cd kn lo tn wd sg up dn of bey rnd tx pt7 (upd sn p0 0) ++ tl) := hD
            rw [hQQ]
            exact W.vret hx hb hr (fun t ht hW => ⟨⟨(pt7, upd sn p0 0), rfl, ⟨⟨hr1, by show upd sn p0 _ p0 = _; rw [pk_us]; rw [q1, if_pos hz] at q2; exact q2⟩, hr2, fk_fs_u _ _ _⟩, by rw [ht]; exact hP, va_K.moved hW.alike hK, hD⟩, hS.F ht⟩) hS.2.2 dX4_add_130
        · rw [Int32.lt_iff_toInt_lt, show (0 : Int32).toInt = 0 by decide] at c_68
          have hle : fk_abs y ≤ fk_abs x := by rcases Int.lt_or_le (fk_abs x) (fk_abs y) with q | q; exact absurd (s2.mpr q) c_68; exact q
          obtain ⟨q1, q2⟩ := d1 (by rw [hab]; exact hle)
          refine lv_iconst (v := 1) hx hb dX4_add_71 (by decide) ?_
          refine lv_goto (tgt := 76) hx hb dX4_add_72 (by decide) ?_
          refine lv_istore (lv' := [(7, .int 1), (6, .int (fk_cmp x)), (5, .int (fk_cmp (y * s0.toInt))), (0, .ref (am 0)), (1, .int (nI p0)), (2, .int (nI ra)), (3, .int (nI rb)), (4, .int s0)]) hx hb dX4_add_76 hl (by decide) rfl (fun ls hl => ?_)
          refine lv_iload hx hb dX4_add_78 (lv_at hl 0 rfl) ?_
          refine lv_if_eq (tgt := 93) hx hb dX4_add_80 (by decide) (fun c_80 => False.elim (absurd c_80 (by decide))) (fun c_80 => ?_)
          refine lv_aload_n hx hb dX4_add_83 rfl (lv_at hl 3 rfl) ?_
          refine lv_iload_n hx hb dX4_add_84 rfl (lv_at hl 4 rfl) ?_
          refine lv_iload_n hx hb dX4_add_85 rfl (lv_at hl 5 rfl) ?_
          refine lv_iload_n hx hb dX4_add_86 rfl (lv_at hl 6 rfl) ?_
          refine fk_cv hD hS hA (va_runV (As := [.int (nI p0), .int (nI ra), .int (nI rb)]) (rest := []) ⟨hx, hb, hml, hown, hts⟩ (kX4_lessSizes _ am tl cd kn lo tn wd sg up dn of bey rnd tx pt sn p0 ra rb (fk_abs x) (fk_abs y) hp hra hrb gA.1 gB.1 hle) (cwV 3 hts gX4_add_X4_lessSizes rfl rfl rfl (by decide +kernel) ⟨Nat.le_of_ble_eq_true rfl, Nat.le_of_ble_eq_true rfl⟩) (fk_preV 0 5 hK hN hP hD rfl rfl) rfl rfl hl.1 rfl (lv_room (Nat.le_of_ble_eq_true rfl)) dX4_add_87 ⟨Nat.le_of_ble_eq_true rfl, Nat.le_of_ble_eq_true rfl⟩) (fun pt10 H locs hw hP hD hS => ?_)
          have hP : va_P D vwCl (fk_wm cJ cI cZ am cd kn lo tn wd sg up dn of bey rnd tx pt10 sn ++ tl) H := hP
          have hD : va_D A (fk_wm cJ cI cZ am cd kn lo tn wd sg up dn of bey rnd tx pt10 sn ++ tl) := hD
          obtain ⟨hr1, hr2⟩ := hw
          rw [← hab, q1] at hr1
          refine lv_goto (tgt := 100) hx hb dX4_add_90 (by decide) ?_
          refine lv_aload_n hx hb dX4_add_100 rfl (lv_at hl 3 rfl) ?_
          refine va_get (D := D) (ci := 5) (v := .ref (am 10)) (C := RX4) (T := TX4) (N := 14) hx hb hts k2 hown hK hP 0 rfl rfl 13 (by decide) k1 (fun _ h9 => h9) rfl dX4_add_101 ?_
          refine lv_iload_n hx hb dX4_add_104 rfl (lv_at hl 4 rfl) ?_
          refine lv_aload_n hx hb dX4_add_105 rfl (lv_at hl 3 rfl) ?_
          refine lv_iload_n hx hb dX4_add_106 rfl (lv_at hl 4 rfl) ?_
          refine fk_ci hD hS hA (va_runV (As := [.int (nI p0)]) (rest := [.int (nI p0), .ref (am 10)]) ⟨hx, hb, hml, hown, hts⟩ (kX4_nothing _ am tl cd kn lo tn wd sg up dn of bey rnd tx pt10 sn p0 (fk_abs (x + y * s0.toInt)) hp hr1) (cwV 1 hts gX4_add_X4_nothing rfl rfl rfl (by decide +kernel) ⟨Nat.le_of_ble_eq_true rfl, Nat.le_of_ble_eq_true rfl⟩) (fk_preV 0 5 hK hN hP hD rfl rfl) rfl rfl hl.1 rfl (lv_room (Nat.le_of_ble_eq_true rfl)) dX4_add_107 ⟨Nat.le_of_ble_eq_true rfl, Nat.le_of_ble_eq_true rfl⟩) (fun r12 u H locs hw hP hD hS => ?_)
          have hP : va_P D vwCl (fk_wm cJ cI cZ am cd kn lo tn wd sg up dn of bey rnd tx pt10 sn ++ tl) H := hP
          have hD : va_D A (fk_wm cJ cI cZ am cd kn lo tn wd sg up dn of bey rnd tx pt10 sn ++ tl) := hD
          have zn := hw
          refine lv_if_eq (tgt := 117) hx hb dX4_add_110 (by decide) (fun c_110 => ?_) (fun c_110 => ?_)
          · have hz : ¬ fk_abs (x + y * s0.toInt) = 0 := by intro q; rw [zn, if_pos q] at c_110; exact absurd c_110 (by decide)
            refine lv_iload hx hb dX4_add_117 (lv_at hl 0 rfl) ?_
            refine lv_if_eq (tgt := 127) hx hb dX4_add_119 (by decide) (fun c_119 => False.elim (absurd c_119 (by decide))) (fun c_119 => ?_)
            refine lv_iload hx hb dX4_add_122 (lv_at hl 1 rfl) ?_
            refine lv_goto (tgt := 129) hx hb dX4_add_124 (by decide) ?_
            refine fk_iast hx hb hK hP hD hS 10 2 rfl rfl (i := p0) hp (by decide) dX4_add_129 (fun H locs hP hD hS => ?_)
            have hP : va_P D vwCl (fk_wm cJ cI cZ am cd kn lo tn wd sg up dn of bey rnd tx pt10 (upd sn p0 (fk_cmp x)) ++ tl) H := hP
            have hD : va_D A (fk_wm cJ cI cZ am cd kn lo tn wd sg up dn of bey rnd tx pt10 (upd sn p0 (fk_cmp x)) ++ tl) := hD
            rw [hQQ]
            exact W.vret hx hb hr (fun t ht hW => ⟨⟨(pt10, upd sn p0 (fk_cmp x)), rfl, ⟨⟨hr1, by show upd sn p0 _ p0 = _; rw [pk_us]; rw [q1, if_neg hz] at q2; exact q2⟩, hr2, fk_fs_u _ _ _⟩, by rw [ht]; exact hP, va_K.moved hW.alike hK, hD⟩, hS.F ht⟩) hS.2.2 dX4_add_130
          · have hz : fk_abs (x + y * s0.toInt) = 0 := by by_cases q : fk_abs (x + y * s0.toInt) = 0; exact q; rw [zn, if_neg q] at c_110; exact absurd rfl c_110
            refine lv_iconst (v := 0) hx hb dX4_add_113 (by decide) ?_
            refine lv_goto (tgt := 129) hx hb dX4_add_114 (by decide) ?_
            refine fk_iast hx hb hK hP hD hS 10 2 rfl rfl (i := p0) hp (by decide) dX4_add_129 (fun H locs hP hD hS => ?_)
            have hP : va_P D vwCl (fk_wm cJ cI cZ am cd kn lo tn wd sg up dn of bey rnd tx pt10 (upd sn p0 0) ++ tl) H := hP
            have hD : va_D A (fk_wm cJ cI cZ am cd kn lo tn wd sg up dn of bey rnd tx pt10 (upd sn p0 0) ++ tl) := hD
            rw [hQQ]
            exact W.vret hx hb hr (fun t ht hW => ⟨⟨(pt10, upd sn p0 0), rfl, ⟨⟨hr1, by show upd sn p0 _ p0 = _; rw [pk_us]; rw [q1, if_pos hz] at q2; exact q2⟩, hr2, fk_fs_u _ _ _⟩, by rw [ht]; exact hP, va_K.moved hW.alike hK, hD⟩, hS.F ht⟩) hS.2.2 dX4_add_130
      · have hsame : fk_cmp x = 0 ∨ fk_cmp (y * s0.toInt) = 0 ∨ fk_cmp x = fk_cmp (y * s0.toInt) := Or.inr (Or.inr c_33)
        refine lv_aload_n hx hb dX4_add_36 rfl (lv_at hl 2 rfl) ?_
        refine lv_iload_n hx hb dX4_add_37 rfl (lv_at hl 3 rfl) ?_
        refine lv_iload_n hx hb dX4_add_38 rfl (lv_at hl 4 rfl) ?_
        refine lv_iload_n hx hb dX4_add_39 rfl (lv_at hl 5 rfl) ?_
        have hab := fk_abs_s (s := s0.toInt) (by rcases hs with q | q <;> rw [q] <;> decide) y
        obtain ⟨q1, q2⟩ := fk_add_same hsame
        have hbx := (fk_rg_bd gA.1).1
        have hby := (fk_rg_bd gB.1).1
        refine fk_cv hD hS hA (va_runV (As := [.int (nI p0), .int (nI ra), .int (nI rb)]) (rest := []) ⟨hx, hb, hml, hown, hts⟩ (kX4_addSizes _ am tl cd kn lo tn wd sg up dn of bey rnd tx pt sn p0 ra rb (fk_abs x) (fk_abs y) hp hra hrb gA.1 gB.1 hxy) (cwV 3 hts gX4_add_X4_addSizes rfl rfl rfl (by decide +kernel) ⟨Nat.le_of_ble_eq_true rfl, Nat.le_of_ble_eq_true rfl⟩) (fk_preV 0 5 hK hN hP hD rfl rfl) rfl rfl hl.1 rfl (lv_room (Nat.le_of_ble_eq_true rfl)) dX4_add_40 ⟨Nat.le_of_ble_eq_true rfl, Nat.le_of_ble_eq_true rfl⟩) (fun pt13 H locs hw hP hD hS => ?_)
        have hP : va_P D vwCl (fk_wm cJ cI cZ am cd kn lo tn wd sg up dn of bey rnd tx pt13 sn ++ tl) H := hP
        have hD : va_D A (fk_wm cJ cI cZ am cd kn lo tn wd sg up dn of bey rnd tx pt13 sn ++ tl) := hD
        obtain ⟨hr1, hr2⟩ := hw
        rw [← hab, q1] at hr1
        refine lv_aload_n hx hb dX4_add_43 rfl (lv_at hl 2 rfl) ?_
        refine va_get (D := D) (ci := 5) (v := .ref (am 10)) (C := RX4) (T := TX4) (N := 14) hx hb hts k2 hown hK hP 0 rfl rfl 13 (by decide) k1 (fun _ h9 => h9) rfl dX4_add_44 ?_
        refine lv_iload_n hx hb dX4_add_47 rfl (lv_at hl 3 rfl) ?_
        refine lv_iload hx hb dX4_add_48 (lv_at hl 0 rfl) ?_
        refine lv_if_ne (tgt := 58) hx hb dX4_add_50 (by decide) (fun c_50 => ?_) (fun c_50 => ?_)
        · refine lv_iload hx hb dX4_add_58 (lv_at hl 0 rfl) ?_
          refine fk_iast hx hb hK hP hD hS 10 2 rfl rfl (i := p0) hp (by decide) dX4_add_60 (fun H locs hP hD hS => ?_)
          have hP : va_P D vwCl (fk_wm cJ cI cZ am cd kn lo tn wd sg up dn of bey rnd tx pt13 (upd sn p0 (fk_cmp x)) ++ tl) H := hP
          have hD : va_D A (fk_wm cJ cI cZ am cd kn lo tn wd sg up dn of bey rnd tx pt13 (upd sn p0 (fk_cmp x)) ++ tl) := hD
          rw [hQQ]
          exact W.vret hx hb hr (fun t ht hW => ⟨⟨(pt13, upd sn p0 (fk_cmp x)), rfl, ⟨⟨hr1, by show upd sn p0 _ p0 = _; rw [pk_us]; rw [if_neg c_50] at q2; exact q2⟩, hr2, fk_fs_u _ _ _⟩, by rw [ht]; exact hP, va_K.moved hW.alike hK, hD⟩, hS.F ht⟩) hS.2.2 dX4_add_61
        · refine lv_iload hx hb dX4_add_53 (lv_at hl 1 rfl) ?_
          refine lv_goto (tgt := 60) hx hb dX4_add_55 (by decide) ?_
          refine fk_iast hx hb hK hP hD hS 10 2 rfl rfl (i := p0) hp (by decide) dX4_add_60 (fun H locs hP hD hS => ?_)
          have hP : va_P D vwCl (fk_wm cJ cI cZ am cd kn lo tn wd sg up dn of bey rnd tx pt13 (upd sn p0 (fk_cmp (y * s0.toInt))) ++ tl) H := hP
          have hD : va_D A (fk_wm cJ cI cZ am cd kn lo tn wd sg up dn of bey rnd tx pt13 (upd sn p0 (fk_cmp (y * s0.toInt))) ++ tl) := hD
          rw [hQQ]
          exact W.vret hx hb hr (fun t ht hW => ⟨⟨(pt13, upd sn p0 (fk_cmp (y * s0.toInt))), rfl, ⟨⟨hr1, by show upd sn p0 _ p0 = _; rw [pk_us]; rw [if_pos c_50] at q2; exact q2⟩, hr2, fk_fs_u _ _ _⟩, by rw [ht]; exact hP, va_K.moved hW.alike hK, hD⟩, hS.F ht⟩) hS.2.2 dX4_add_61
