def f_X4_spend (u : MS) (p0 : Int32) : Int64 × MS :=
  let u1 : MS := sm_th u (0 : Int32);
  if p0 < (-1000 : Int32) then
    let v3 : Int32 := (f_X4_fail u1 (1 : Int32)).1;
    let u4 : MS := (f_X4_fail u1 (1 : Int32)).2;
    (v3.toInt64, u4)
  else
    if p0 ≤ (1000 : Int32) then
      let u6 : MS := sm_oo u1 ((m_oo u1) + p0.toInt64);
      (m_oo u6, u6)
    else
      let v7 : Int32 := (f_X4_fail u1 (1 : Int32)).1;
      let u8 : MS := (f_X4_fail u1 (1 : Int32)).2;
      (v7.toInt64, u8)
abbrev rm_X4_spend : Room := { frames := 1, cells := 0, slots := 0, locals := 21 }
set_option maxRecDepth 20000 in
theorem iw_X4_spend_X4 : ∀ w ∈ wsX40, w ∈ wsX4_spend := by decide +kernel
set_option maxHeartbeats 4000000 in
set_option maxRecDepth 100000 in
theorem c_X4_spend (l : Launch) (yy : Nat → ClassId) (a : Nat → Nat) (u : MS) (p0 : Int32) : gMl l yX4_spend wsX4_spend rm_X4_spend eTrue (sT yy) (wM yy a) [.ref (a 0), .int p0] u (f_X4_spend u p0) := by
  refine gm_ofW (Qc := gQl (wM yy a) (f_X4_spend u p0)) (by decide) rfl (Nat.le_of_ble_eq_true rfl) ?_
  intro G A p e s m args below meth c hx hb hr hml hts hown hlocks hK hE hA H locs hP hD hS ls hl
  have hl : lv_has ls 2 [(0, .ref (a 0)), (1, .int p0)] := hl
  refine lv_aload_n hx hb dX4_spend_0 rfl (lv_at hl 0 rfl) ?_
  refine lv_iconst (v := 0) hx hb dX4_spend_1 (by decide) ?_
  refine va_put (D := G) (ci := 2) (v := .int (0 : Int32)) (ty := .int) (C := RX4) (T := TX4) (N := 17) hx hb hts iw_X4_spend_X4 tyX4 tyX4_ok nmX4 hown hK hP hD hS 0 rfl rfl 0 (by decide) (hts (.fieldLink RX4 153 "MixBenchModel" "thrown" "I") (by decide +kernel)) (fun _ h9 => h9) rfl (by decide +kernel) rfl rfl (Nat.le_of_ble_eq_true rfl) dX4_spend_2 (fun H locs hP hD hS => ?_)
  obtain ⟨u1, eu1⟩ : ∃ z, z = sm_th u (0 : Int32) := ⟨_, rfl⟩
  have hP : va_P G vwCl (wM yy a u1) H := by rw [eu1]; exact hP
  have hD : va_D A (wM yy a u1) := by rw [eu1]; exact hD
  refine lv_iload_n hx hb dX4_spend_5 rfl (lv_at hl 1 rfl) ?_
  refine lv_sipush (v := (-1000)) hx hb dX4_spend_6 (by decide) ?_
  refine lv_icmp_lt (tgt := 19) hx hb dX4_spend_9 (by decide) (fun c2 => ?_) (fun c2 => ?_)
  · refine lv_aload_n hx hb dX4_spend_19 rfl (lv_at hl 0 rfl) ?_
    refine lv_iconst (v := 1) hx hb dX4_spend_20 (by decide) ?_
    refine g_i (va_runV (As := [.int (1 : Int32)]) (rest := []) ⟨hx, hb, hml, hown, hts⟩ (c_X4_fail l yy a u1 (1 : Int32)  G H.size) (cwV 1 hts gX4_spend_X4_fail rfl rfl rfl (by decide +kernel) ⟨Nat.le_of_ble_eq_true rfl, Nat.le_of_ble_eq_true rfl⟩) (g_preV eTrue_bl hK hE hP hD hS hA 0 rfl rfl) rfl rfl hl.1 rfl (lv_room (Nat.le_of_ble_eq_true rfl)) dX4_spend_21 ⟨Nat.le_of_ble_eq_true rfl, Nat.le_of_ble_eq_true rfl⟩) hD hS hA (fun H locs hP hD hS => ?_)
    refine lv_topi (fun v3 ev3 => ?_)
    obtain ⟨u4, eu4⟩ : ∃ z, z = (f_X4_fail u1 (1 : Int32)).2 := ⟨_, rfl⟩
    have hP : va_P G vwCl (wM yy a u4) H := by rw [eu4]; exact hP
    have hD : va_D A (wM yy a u4) := by rw [eu4]; exact hD
    refine lv_i2l (v := v3.toInt64) hx hb dX4_spend_24 rfl ?_
    exact g_lret (by have eu4 := eu4.symm; subst eu4; have ev3 := ev3.symm; subst ev3; have eu1 := eu1.symm; subst eu1; exact (if_pos c2).trans (rfl)) hx hb hr hP hD hS hlocks dX4_spend_25
  · refine lv_iload_n hx hb dX4_spend_12 rfl (lv_at hl 1 rfl) ?_
    refine lv_sipush (v := 1000) hx hb dX4_spend_13 (by decide) ?_
    refine lv_icmp_le (tgt := 26) hx hb dX4_spend_16 (by decide) (fun c5 => ?_) (fun c5 => ?_)
    · refine lv_aload_n hx hb dX4_spend_26 rfl (lv_at hl 0 rfl) ?_
      refine lv_dup hx hb dX4_spend_27 rfl ?_
      refine va_get (D := G) (ci := 2) (v := .long (m_oo u1)) (C := RX4) (T := TX4) (N := 17) hx hb hts iw_X4_spend_X4 hown hK hP 0 rfl rfl 9 (by decide) (hts (.fieldLink RX4 204 "MixBenchModel" "oops" "J") (by decide +kernel)) (fun _ h9 => h9) rfl dX4_spend_28 ?_
      refine lv_iload_n hx hb dX4_spend_31 rfl (lv_at hl 1 rfl) ?_
      refine lv_i2l (v := p0.toInt64) hx hb dX4_spend_32 rfl ?_
      refine lv_ladd hx hb dX4_spend_33 ?_
      refine va_put (D := G) (ci := 2) (v := .long ((m_oo u1) + p0.toInt64)) (ty := .long) (C := RX4) (T := TX4) (N := 17) hx hb hts iw_X4_spend_X4 tyX4 tyX4_ok nmX4 hown hK hP hD hS 0 rfl rfl 9 (by decide) (hts (.fieldLink RX4 204 "MixBenchModel" "oops" "J") (by decide +kernel)) (fun _ h9 => h9) rfl (by decide +kernel) rfl rfl (Nat.le_of_ble_eq_true rfl) dX4_spend_34 (fun H locs hP hD hS => ?_)
      obtain ⟨u6, eu6⟩ : ∃ z, z = sm_oo u1 ((m_oo u1) + p0.toInt64) := ⟨_, rfl⟩
      have hP : va_P G vwCl (wM yy a u6) H := by rw [eu6]; exact hP
      have hD : va_D A (wM yy a u6) := by rw [eu6]; exact hD
      refine lv_aload_n hx hb dX4_spend_37 rfl (lv_at hl 0 rfl) ?_
      refine va_get (D := G) (ci := 2) (v := .long (m_oo u6)) (C := RX4) (T := TX4) (N := 17) hx hb hts iw_X4_spend_X4 hown hK hP 0 rfl rfl 9 (by decide) (hts (.fieldLink RX4 204 "MixBenchModel" "oops" "J") (by decide +kernel)) (fun _ h9 => h9) rfl dX4_spend_38 ?_
      exact g_lret (by have eu6 := eu6.symm; subst eu6; have eu1 := eu1.symm; subst eu1; exact (if_neg c2).trans ((if_pos c5).trans (rfl))) hx hb hr hP hD hS hlocks dX4_spend_41
    · refine lv_aload_n hx hb dX4_spend_19 rfl (lv_at hl 0 rfl) ?_
      refine lv_iconst (v := 1) hx hb dX4_spend_20 (by decide) ?_
      refine g_i (va_runV (As := [.int (1 : Int32)]) (rest := []) ⟨hx, hb, hml, hown, hts⟩ (c_X4_fail l yy a u1 (1 : Int32)  G H.size) (cwV 1 hts gX4_spend_X4_fail rfl rfl rfl (by decide +kernel) ⟨Nat.le_of_ble_eq_true rfl, Nat.le_of_ble_eq_true rfl⟩) (g_preV eTrue_bl hK hE hP hD hS hA 0 rfl rfl) rfl rfl hl.1 rfl (lv_room (Nat.le_of_ble_eq_true rfl)) dX4_spend_21 ⟨Nat.le_of_ble_eq_true rfl, Nat.le_of_ble_eq_true rfl⟩) hD hS hA (fun H locs hP hD hS => ?_)
      refine lv_topi (fun v7 ev7 => ?_)
      obtain ⟨u8, eu8⟩ : ∃ z, z = (f_X4_fail u1 (1 : Int32)).2 := ⟨_, rfl⟩
      have hP : va_P G vwCl (wM yy a u8) H := by rw [eu8]; exact hP
      have hD : va_D A (wM yy a u8) := by rw [eu8]; exact hD
      refine lv_i2l (v := v7.toInt64) hx hb dX4_spend_24 rfl ?_
      exact g_lret (by have eu8 := eu8.symm; subst eu8; have ev7 := ev7.symm; subst ev7; have eu1 := eu1.symm; subst eu1; exact (if_neg c2).trans ((if_neg c5).trans (rfl))) hx hb hr hP hD hS hlocks dX4_spend_25
