def f_X4_set (u : MS) (p0 : Int32) (p1 : Int64) : Int64 × MS :=
  let u1 : MS := sm_th u (0 : Int32);
  if p0 < (0 : Int32) then
    let v3 : Int32 := (f_X4_fail u1 (1 : Int32)).1;
    let u4 : MS := (f_X4_fail u1 (1 : Int32)).2;
    (v3.toInt64, u4)
  else
    if p0 ≤ (255 : Int32) then
      let v6 : Int64 := m_g u1 p0.toNatClampNeg;
      let u7 : MS := sm_g u1 (vp_updL (m_g u1) p0.toNatClampNeg p1);
      (v6, u7)
    else
      let v8 : Int32 := (f_X4_fail u1 (1 : Int32)).1;
      let u9 : MS := (f_X4_fail u1 (1 : Int32)).2;
      (v8.toInt64, u9)
abbrev rm_X4_set : Room := { frames := 1, cells := 0, slots := 0, locals := 21 }
set_option maxRecDepth 20000 in
theorem iw_X4_set_X4 : ∀ w ∈ wsX40, w ∈ wsX4_set := by decide +kernel
set_option maxHeartbeats 4000000 in
set_option maxRecDepth 100000 in
theorem c_X4_set (l : Launch) (yy : Nat → ClassId) (a : Nat → Nat) (u : MS) (p0 : Int32) (p1 : Int64) : gMl l yX4_set wsX4_set rm_X4_set eTrue (sT yy) (wM yy a) [.ref (a 0), .int p0, .long p1] u (f_X4_set u p0 p1) := by
  refine gm_ofW (Qc := gQl (wM yy a) (f_X4_set u p0 p1)) (by decide) rfl (Nat.le_of_ble_eq_true rfl) ?_
  intro G A p e s m args below meth c hx hb hr hml hts hown hlocks hK hE hA H locs hP hD hS ls hl
  have hl : lv_has ls 6 [(0, .ref (a 0)), (1, .int p0), (2, .long p1)] := hl
  refine lv_aload_n hx hb dX4_set_0 rfl (lv_at hl 0 rfl) ?_
  refine lv_iconst (v := 0) hx hb dX4_set_1 (by decide) ?_
  refine va_put (D := G) (ci := 2) (v := .int (0 : Int32)) (ty := .int) (C := RX4) (T := TX4) (N := 17) hx hb hts iw_X4_set_X4 tyX4 tyX4_ok nmX4 hown hK hP hD hS 0 rfl rfl 0 (by decide) (hts (.fieldLink RX4 153 "MixBenchModel" "thrown" "I") (by decide +kernel)) (fun _ h9 => h9) rfl (by decide +kernel) rfl rfl (Nat.le_of_ble_eq_true rfl) dX4_set_2 (fun H locs hP hD hS => ?_)
  obtain ⟨u1, eu1⟩ : ∃ z, z = sm_th u (0 : Int32) := ⟨_, rfl⟩
  have hP : va_P G vwCl (wM yy a u1) H := by rw [eu1]; exact hP
  have hD : va_D A (wM yy a u1) := by rw [eu1]; exact hD
  refine lv_iload_n hx hb dX4_set_5 rfl (lv_at hl 1 rfl) ?_
  refine lv_if_lt (tgt := 16) hx hb dX4_set_6 (by decide) (fun c2 => ?_) (fun c2 => ?_)
  · refine lv_aload_n hx hb dX4_set_16 rfl (lv_at hl 0 rfl) ?_
    refine lv_iconst (v := 1) hx hb dX4_set_17 (by decide) ?_
    refine g_i (va_runV (As := [.int (1 : Int32)]) (rest := []) ⟨hx, hb, hml, hown, hts⟩ (c_X4_fail l yy a u1 (1 : Int32)  G H.size) (cwV 1 hts gX4_set_X4_fail rfl rfl rfl (by decide +kernel) ⟨Nat.le_of_ble_eq_true rfl, Nat.le_of_ble_eq_true rfl⟩) (g_preV eTrue_bl hK hE hP hD hS hA 0 rfl rfl) rfl rfl hl.1 rfl (lv_room (Nat.le_of_ble_eq_true rfl)) dX4_set_18 ⟨Nat.le_of_ble_eq_true rfl, Nat.le_of_ble_eq_true rfl⟩) hD hS hA (fun H locs hP hD hS => ?_)
    refine lv_topi (fun v3 ev3 => ?_)
    obtain ⟨u4, eu4⟩ : ∃ z, z = (f_X4_fail u1 (1 : Int32)).2 := ⟨_, rfl⟩
    have hP : va_P G vwCl (wM yy a u4) H := by rw [eu4]; exact hP
    have hD : va_D A (wM yy a u4) := by rw [eu4]; exact hD
    refine lv_i2l (v := v3.toInt64) hx hb dX4_set_21 rfl ?_
    exact g_lret (by have eu4 := eu4.symm; subst eu4; have ev3 := ev3.symm; subst ev3; have eu1 := eu1.symm; subst eu1; exact (if_pos c2).trans (rfl)) hx hb hr hP hD hS hlocks dX4_set_22
  · refine lv_iload_n hx hb dX4_set_9 rfl (lv_at hl 1 rfl) ?_
    refine lv_sipush (v := 255) hx hb dX4_set_10 (by decide) ?_
    refine lv_icmp_le (tgt := 23) hx hb dX4_set_13 (by decide) (fun c5 => ?_) (fun c5 => ?_)
    · refine lv_aload_n hx hb dX4_set_23 rfl (lv_at hl 0 rfl) ?_
      refine va_get (D := G) (ci := 2) (v := .ref (a 1)) (C := RX4) (T := TX4) (N := 17) hx hb hts iw_X4_set_X4 hown hK hP 0 rfl rfl 1 (by decide) (hts (.fieldLink RX4 7 "MixBenchModel" "g" "[J") (by decide +kernel)) (fun _ h9 => h9) rfl dX4_set_24 ?_
      refine lv_iload_n hx hb dX4_set_27 rfl (lv_at hl 1 rfl) ?_
      refine va_lald hx hb hK hP 1 0 rfl rfl (vp_lt c2 (Int32.lt_of_le_of_lt c5 (by decide : (255 : Int32) < nI 256)) rfl (by decide)) dX4_set_28 ?_
      refine lv_topl (fun v6 ev6 => ?_)
      refine lv_lstore (lv' := [(4, .long v6), (0, .ref (a 0)), (1, .int p0), (2, .long p1)]) hx hb dX4_set_29 hl (by decide) rfl (fun ls hl => ?_)
      refine lv_aload_n hx hb dX4_set_31 rfl (lv_at hl 1 rfl) ?_
      refine va_get (D := G) (ci := 2) (v := .ref (a 1)) (C := RX4) (T := TX4) (N := 17) hx hb hts iw_X4_set_X4 hown hK hP 0 rfl rfl 1 (by decide) (hts (.fieldLink RX4 7 "MixBenchModel" "g" "[J") (by decide +kernel)) (fun _ h9 => h9) rfl dX4_set_32 ?_
      refine lv_iload_n hx hb dX4_set_35 rfl (lv_at hl 2 rfl) ?_
      refine lv_lload_n hx hb dX4_set_36 rfl (lv_at hl 3 rfl) ?_
      refine va_last hx hb hK hP hD hS 1 0 rfl rfl (vp_lt c2 (Int32.lt_of_le_of_lt c5 (by decide : (255 : Int32) < nI 256)) rfl (by decide)) dX4_set_37 (fun H locs hP hD hS => ?_)
      obtain ⟨u7, eu7⟩ : ∃ z, z = sm_g u1 (vp_updL (m_g u1) p0.toNatClampNeg p1) := ⟨_, rfl⟩
      have hP : va_P G vwCl (wM yy a u7) H := by rw [eu7]; exact hP
      have hD : va_D A (wM yy a u7) := by rw [eu7]; exact hD
      refine lv_lload hx hb dX4_set_38 (lv_at hl 0 rfl) ?_
      exact g_lret (by have eu7 := eu7.symm; subst eu7; have ev6 := ev6.symm; subst ev6; have eu1 := eu1.symm; subst eu1; exact (if_neg c2).trans ((if_pos c5).trans (rfl))) hx hb hr hP hD hS hlocks dX4_set_40
    · refine lv_aload_n hx hb dX4_set_16 rfl (lv_at hl 0 rfl) ?_
      refine lv_iconst (v := 1) hx hb dX4_set_17 (by decide) ?_
      refine g_i (va_runV (As := [.int (1 : Int32)]) (rest := []) ⟨hx, hb, hml, hown, hts⟩ (c_X4_fail l yy a u1 (1 : Int32)  G H.size) (cwV 1 hts gX4_set_X4_fail rfl rfl rfl (by decide +kernel) ⟨Nat.le_of_ble_eq_true rfl, Nat.le_of_ble_eq_true rfl⟩) (g_preV eTrue_bl hK hE hP hD hS hA 0 rfl rfl) rfl rfl hl.1 rfl (lv_room (Nat.le_of_ble_eq_true rfl)) dX4_set_18 ⟨Nat.le_of_ble_eq_true rfl, Nat.le_of_ble_eq_true rfl⟩) hD hS hA (fun H locs hP hD hS => ?_)
      refine lv_topi (fun v8 ev8 => ?_)
      obtain ⟨u9, eu9⟩ : ∃ z, z = (f_X4_fail u1 (1 : Int32)).2 := ⟨_, rfl⟩
      have hP : va_P G vwCl (wM yy a u9) H := by rw [eu9]; exact hP
      have hD : va_D A (wM yy a u9) := by rw [eu9]; exact hD
      refine lv_i2l (v := v8.toInt64) hx hb dX4_set_21 rfl ?_
      exact g_lret (by have eu9 := eu9.symm; subst eu9; have ev8 := ev8.symm; subst ev8; have eu1 := eu1.symm; subst eu1; exact (if_neg c2).trans ((if_neg c5).trans (rfl))) hx hb hr hP hD hS hlocks dX4_set_22
