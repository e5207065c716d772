def f_X4_output (u : MS) (p0 : Int32) : Int32 × MS :=
  let u1 : MS := sm_th u (0 : Int32);
  if p0 < (0 : Int32) then
    let v3 : Int32 := (f_X4_fail u1 (1 : Int32)).1;
    let u4 : MS := (f_X4_fail u1 (1 : Int32)).2;
    (v3, u4)
  else
    if p0 < (m_on u1) then
      ((m_ou u1 p0.toNatClampNeg) &&& (255 : Int32), u1)
    else
      let v6 : Int32 := (f_X4_fail u1 (1 : Int32)).1;
      let u7 : MS := (f_X4_fail u1 (1 : Int32)).2;
      (v6, u7)
abbrev rm_X4_output : Room := { frames := 1, cells := 0, slots := 0, locals := 21 }
set_option maxRecDepth 20000 in
theorem iw_X4_output_X4 : ∀ w ∈ wsX40, w ∈ wsX4_output := by decide +kernel
set_option maxHeartbeats 4000000 in
set_option maxRecDepth 100000 in
theorem c_X4_output (l : Launch) (yy : Nat → ClassId) (a : Nat → Nat) (u : MS) (p0 : Int32) (h0 : m_on u ≤ 500) : gMi l yX4_output wsX4_output rm_X4_output eTrue (sT yy) (wM yy a) [.ref (a 0), .int p0] u (f_X4_output u p0) := by
  refine gm_ofW (Qc := gQi (wM yy a) (f_X4_output u p0)) (by decide) rfl (Nat.le_of_ble_eq_true rfl) ?_
  intro G A p e s m args below meth c hx hb hr hml hts hown hlocks hK hE hA H locs hP hD hS ls hl
  have hl : lv_has ls 2 [(0, .ref (a 0)), (1, .int p0)] := hl
  refine lv_aload_n hx hb dX4_output_0 rfl (lv_at hl 0 rfl) ?_
  refine lv_iconst (v := 0) hx hb dX4_output_1 (by decide) ?_
  refine va_put (D := G) (ci := 2) (v := .int (0 : Int32)) (ty := .int) (C := RX4) (T := TX4) (N := 17) hx hb hts iw_X4_output_X4 tyX4 tyX4_ok nmX4 hown hK hP hD hS 0 rfl rfl 0 (by decide) (hts (.fieldLink RX4 153 "MixBenchModel" "thrown" "I") (by decide +kernel)) (fun _ h9 => h9) rfl (by decide +kernel) rfl rfl (Nat.le_of_ble_eq_true rfl) dX4_output_2 (fun H locs hP hD hS => ?_)
  obtain ⟨u1, eu1⟩ : ∃ z, z = sm_th u (0 : Int32) := ⟨_, rfl⟩
  have hP : va_P G vwCl (wM yy a u1) H := by rw [eu1]; exact hP
  have hD : va_D A (wM yy a u1) := by rw [eu1]; exact hD
  refine lv_iload_n hx hb dX4_output_5 rfl (lv_at hl 1 rfl) ?_
  refine lv_if_lt (tgt := 17) hx hb dX4_output_6 (by decide) (fun c2 => ?_) (fun c2 => ?_)
  · refine lv_aload_n hx hb dX4_output_17 rfl (lv_at hl 0 rfl) ?_
    refine lv_iconst (v := 1) hx hb dX4_output_18 (by decide) ?_
    refine g_i (va_runV (As := [.int (1 : Int32)]) (rest := []) ⟨hx, hb, hml, hown, hts⟩ (c_X4_fail l yy a u1 (1 : Int32)  G H.size) (cwV 1 hts gX4_output_X4_fail rfl rfl rfl (by decide +kernel) ⟨Nat.le_of_ble_eq_true rfl, Nat.le_of_ble_eq_true rfl⟩) (g_preV eTrue_bl hK hE hP hD hS hA 0 rfl rfl) rfl rfl hl.1 rfl (lv_room (Nat.le_of_ble_eq_true rfl)) dX4_output_19 ⟨Nat.le_of_ble_eq_true rfl, Nat.le_of_ble_eq_true rfl⟩) hD hS hA (fun H locs hP hD hS => ?_)
    refine lv_topi (fun v3 ev3 => ?_)
    obtain ⟨u4, eu4⟩ : ∃ z, z = (f_X4_fail u1 (1 : Int32)).2 := ⟨_, rfl⟩
    have hP : va_P G vwCl (wM yy a u4) H := by rw [eu4]; exact hP
    have hD : va_D A (wM yy a u4) := by rw [eu4]; exact hD
    exact g_iret (by have eu4 := eu4.symm; subst eu4; have ev3 := ev3.symm; subst ev3; have eu1 := eu1.symm; subst eu1; exact (if_pos c2).trans (rfl)) hx hb hr hP hD hS hlocks dX4_output_22
  · refine lv_iload_n hx hb dX4_output_9 rfl (lv_at hl 1 rfl) ?_
    refine lv_aload_n hx hb dX4_output_10 rfl (lv_at hl 0 rfl) ?_
    refine va_get (D := G) (ci := 2) (v := .int (m_on u1)) (C := RX4) (T := TX4) (N := 17) hx hb hts iw_X4_output_X4 hown hK hP 0 rfl rfl 6 (by decide) (hts (.fieldLink RX4 277 "MixBenchModel" "outputs" "I") (by decide +kernel)) (fun _ h9 => h9) rfl dX4_output_11 ?_
    refine lv_icmp_lt (tgt := 23) hx hb dX4_output_14 (by decide) (fun c5 => ?_) (fun c5 => ?_)
    · refine lv_aload_n hx hb dX4_output_23 rfl (lv_at hl 0 rfl) ?_
      refine va_get (D := G) (ci := 2) (v := .ref (a 5)) (C := RX4) (T := TX4) (N := 17) hx hb hts iw_X4_output_X4 hown hK hP 0 rfl rfl 5 (by decide) (hts (.fieldLink RX4 23 "MixBenchModel" "output" "[B") (by decide +kernel)) (fun _ h9 => h9) rfl dX4_output_24 ?_
      refine lv_iload_n hx hb dX4_output_27 rfl (lv_at hl 1 rfl) ?_
      refine va_bald hx hb hK hP 5 1 rfl rfl (vp_lt c2 (show _ < nI 500 from Int32.lt_of_lt_of_le c5 (by rw [eu1]; exact h0)) rfl (by decide)) dX4_output_28 ?_
      refine lv_sipush (v := 255) hx hb dX4_output_29 (by decide) ?_
      refine lv_iand hx hb dX4_output_32 ?_
      exact g_iret (by have eu1 := eu1.symm; subst eu1; exact (if_neg c2).trans ((if_pos c5).trans (rfl))) hx hb hr hP hD hS hlocks dX4_output_33
    · refine lv_aload_n hx hb dX4_output_17 rfl (lv_at hl 0 rfl) ?_
      refine lv_iconst (v := 1) hx hb dX4_output_18 (by decide) ?_
      refine g_i (va_runV (As := [.int (1 : Int32)]) (rest := []) ⟨hx, hb, hml, hown, hts⟩ (c_X4_fail l yy a u1 (1 : Int32)  G H.size) (cwV 1 hts gX4_output_X4_fail rfl rfl rfl (by decide +kernel) ⟨Nat.le_of_ble_eq_true rfl, Nat.le_of_ble_eq_true rfl⟩) (g_preV eTrue_bl hK hE hP hD hS hA 0 rfl rfl) rfl rfl hl.1 rfl (lv_room (Nat.le_of_ble_eq_true rfl)) dX4_output_19 ⟨Nat.le_of_ble_eq_true rfl, Nat.le_of_ble_eq_true rfl⟩) hD hS hA (fun H locs hP hD hS => ?_)
      refine lv_topi (fun v6 ev6 => ?_)
      obtain ⟨u7, eu7⟩ : ∃ z, z = (f_X4_fail u1 (1 : Int32)).2 := ⟨_, rfl⟩
      have hP : va_P G vwCl (wM yy a u7) H := by rw [eu7]; exact hP
      have hD : va_D A (wM yy a u7) := by rw [eu7]; exact hD
      exact g_iret (by have eu7 := eu7.symm; subst eu7; have ev6 := ev6.symm; subst ev6; have eu1 := eu1.symm; subst eu1; exact (if_neg c2).trans ((if_neg c5).trans (rfl))) hx hb hr hP hD hS hlocks dX4_output_22
