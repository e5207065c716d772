def f_X4_peek (u : MS) (p0 : Int32) : Int64 × MS :=
  let u1 : MS := sm_th u (0 : Int32);
  if (f_X4_beyond p0.toInt64) = (0 : Int32) then
    let v3 : Int64 := f_X4_m u1 p0.toInt64 (8 : Int32);
    (v3, u1)
  else
    let v4 : Int32 := (f_X4_fail u1 (1 : Int32)).1;
    let u5 : MS := (f_X4_fail u1 (1 : Int32)).2;
    (v4.toInt64, u5)
abbrev rm_X4_peek : Room := { frames := 1, cells := 0, slots := 0, locals := 27 }
set_option maxRecDepth 20000 in
theorem iw_X4_peek_X4 : ∀ w ∈ wsX40, w ∈ wsX4_peek := by decide +kernel
set_option maxHeartbeats 4000000 in
set_option maxRecDepth 100000 in
theorem c_X4_peek (l : Launch) (yy : Nat → ClassId) (a : Nat → Nat) (u : MS) (p0 : Int32) : gMl l yX4_peek wsX4_peek rm_X4_peek eTrue (sT yy) (wM yy a) [.ref (a 0), .int p0] u (f_X4_peek u p0) := by
  refine gm_ofW (Qc := gQl (wM yy a) (f_X4_peek u p0)) (by decide) rfl (Nat.le_of_ble_eq_true rfl) ?_
  intro G A p e s m args below meth c hx hb hr hml hts hown hlocks hK hE hA H locs hP hD hS ls hl
  have hl : lv_has ls 2 [(0, .ref (a 0)), (1, .int p0)] := hl
  refine lv_aload_n hx hb dX4_peek_0 rfl (lv_at hl 0 rfl) ?_
  refine lv_iconst (v := 0) hx hb dX4_peek_1 (by decide) ?_
  refine va_put (D := G) (ci := 2) (v := .int (0 : Int32)) (ty := .int) (C := RX4) (T := TX4) (N := 17) hx hb hts iw_X4_peek_X4 tyX4 tyX4_ok nmX4 hown hK hP hD hS 0 rfl rfl 0 (by decide) (hts (.fieldLink RX4 153 "MixBenchModel" "thrown" "I") (by decide +kernel)) (fun _ h9 => h9) rfl (by decide +kernel) rfl rfl (Nat.le_of_ble_eq_true rfl) dX4_peek_2 (fun H locs hP hD hS => ?_)
  obtain ⟨u1, eu1⟩ : ∃ z, z = sm_th u (0 : Int32) := ⟨_, rfl⟩
  have hP : va_P G vwCl (wM yy a u1) H := by rw [eu1]; exact hP
  have hD : va_D A (wM yy a u1) := by rw [eu1]; exact hD
  refine lv_iload_n hx hb dX4_peek_5 rfl (lv_at hl 1 rfl) ?_
  refine lv_i2l (v := p0.toInt64) hx hb dX4_peek_6 rfl ?_
  refine p_i (W.runS (As := [.long p0.toInt64]) (rest := []) ⟨hx, hb, hml, hown, hts⟩ (c_X4_beyond l p0.toInt64 ) (va_cwS 1 hts gX4_peek_X4_beyond rfl rfl rfl (by decide +kernel) ⟨Nat.le_of_ble_eq_true rfl, Nat.le_of_ble_eq_true rfl⟩) p_preT rfl rfl hl.1 rfl (lv_room (Nat.le_of_ble_eq_true rfl)) dX4_peek_7 ⟨Nat.le_of_ble_eq_true rfl, Nat.le_of_ble_eq_true rfl⟩) ?_
  refine lv_if_eq (tgt := 20) hx hb dX4_peek_10 (by decide) (fun c2 => ?_) (fun c2 => ?_)
  · refine lv_aload_n hx hb dX4_peek_20 rfl (lv_at hl 0 rfl) ?_
    refine lv_iload_n hx hb dX4_peek_21 rfl (lv_at hl 1 rfl) ?_
    refine lv_i2l (v := p0.toInt64) hx hb dX4_peek_22 rfl ?_
    refine lv_bipush (v := 8) hx hb dX4_peek_23 (by decide) ?_
    refine g_l (va_runV (As := [.long p0.toInt64, .int (8 : Int32)]) (rest := []) ⟨hx, hb, hml, hown, hts⟩ (c_X4_m l yy a u1 p0.toInt64 (8 : Int32) (c2) (by decide) G H.size) (cwV 2 hts gX4_peek_X4_m rfl rfl rfl (by decide +kernel) ⟨Nat.le_of_ble_eq_true rfl, Nat.le_of_ble_eq_true rfl⟩) (g_preV eTrue_bl hK hE hP hD hS hA 0 rfl rfl) rfl rfl hl.1 rfl (lv_room (Nat.le_of_ble_eq_true rfl)) dX4_peek_25 ⟨Nat.le_of_ble_eq_true rfl, Nat.le_of_ble_eq_true rfl⟩) hD hS hA (fun H locs hP hD hS => ?_)
    have hP : va_P G vwCl (wM yy a u1) H := hP
    have hD : va_D A (wM yy a u1) := hD
    refine lv_topl (fun v3 ev3 => ?_)
    exact g_lret (by have ev3 := ev3.symm; subst ev3; have eu1 := eu1.symm; subst eu1; exact (if_pos c2).trans (rfl)) hx hb hr hP hD hS hlocks dX4_peek_28
  · refine lv_aload_n hx hb dX4_peek_13 rfl (lv_at hl 0 rfl) ?_
    refine lv_iconst (v := 1) hx hb dX4_peek_14 (by decide) ?_
    refine g_i (va_runV (As := [.int (1 : Int32)]) (rest := []) ⟨hx, hb, hml, hown, hts⟩ (c_X4_fail l yy a u1 (1 : Int32)  G H.size) (cwV 1 hts gX4_peek_X4_fail rfl rfl rfl (by decide +kernel) ⟨Nat.le_of_ble_eq_true rfl, Nat.le_of_ble_eq_true rfl⟩) (g_preV eTrue_bl hK hE hP hD hS hA 0 rfl rfl) rfl rfl hl.1 rfl (lv_room (Nat.le_of_ble_eq_true rfl)) dX4_peek_15 ⟨Nat.le_of_ble_eq_true rfl, Nat.le_of_ble_eq_true rfl⟩) hD hS hA (fun H locs hP hD hS => ?_)
    refine lv_topi (fun v4 ev4 => ?_)
    obtain ⟨u5, eu5⟩ : ∃ z, z = (f_X4_fail u1 (1 : Int32)).2 := ⟨_, rfl⟩
    have hP : va_P G vwCl (wM yy a u5) H := by rw [eu5]; exact hP
    have hD : va_D A (wM yy a u5) := by rw [eu5]; exact hD
    refine lv_i2l (v := v4.toInt64) hx hb dX4_peek_18 rfl ?_
    exact g_lret (by have eu5 := eu5.symm; subst eu5; have ev4 := ev4.symm; subst ev4; have eu1 := eu1.symm; subst eu1; exact (if_neg c2).trans (rfl)) hx hb hr hP hD hS hlocks dX4_peek_19
