def f_X4_poke (u : MS) (p0 : Int32) (p1 : Int64) : Int64 × MS :=
  let u1 : MS := sm_th u (0 : Int32);
  if (f_X4_beyond p0.toInt64) = (0 : Int32) then
    let v3 : Int64 := f_X4_m u1 p0.toInt64 (8 : Int32);
    let u4 : MS := f_X4_m_ u1 p0.toInt64 (8 : Int32) p1;
    (v3, u4)
  else
    let v5 : Int32 := (f_X4_fail u1 (1 : Int32)).1;
    let u6 : MS := (f_X4_fail u1 (1 : Int32)).2;
    (v5.toInt64, u6)
abbrev rm_X4_poke : Room := { frames := 1, cells := 0, slots := 0, locals := 27 }
set_option maxRecDepth 20000 in
theorem iw_X4_poke_X4 : ∀ w ∈ wsX40, w ∈ wsX4_poke := by decide +kernel
set_option maxHeartbeats 4000000 in
set_option maxRecDepth 100000 in
theorem c_X4_poke (l : Launch) (yy : Nat → ClassId) (a : Nat → Nat) (u : MS) (p0 : Int32) (p1 : Int64) : gMl l yX4_poke wsX4_poke rm_X4_poke eTrue (sT yy) (wM yy a) [.ref (a 0), .int p0, .long p1] u (f_X4_poke u p0 p1) := by
  refine gm_ofW (Qc := gQl (wM yy a) (f_X4_poke u p0 p1)) (by decide) rfl (Nat.le_of_ble_eq_true rfl) ?_
  intro G A p e s m args below meth c hx hb hr hml hts hown hlocks hK hE hA H locs hP hD hS ls hl
  have hl : lv_has ls 6 [(0, .ref (a 0)), (1, .int p0), (2, .long p1)] := hl
  refine lv_aload_n hx hb dX4_poke_0 rfl (lv_at hl 0 rfl) ?_
  refine lv_iconst (v := 0) hx hb dX4_poke_1 (by decide) ?_
  refine va_put (D := G) (ci := 2) (v := .int (0 : Int32)) (ty := .int) (C := RX4) (T := TX4) (N := 17) hx hb hts iw_X4_poke_X4 tyX4 tyX4_ok nmX4 hown hK hP hD hS 0 rfl rfl 0 (by decide) (hts (.fieldLink RX4 153 "MixBenchModel" "thrown" "I") (by decide +kernel)) (fun _ h9 => h9) rfl (by decide +kernel) rfl rfl (Nat.le_of_ble_eq_true rfl) dX4_poke_2 (fun H locs hP hD hS => ?_)
  obtain ⟨u1, eu1⟩ : ∃ z, z = sm_th u (0 : Int32) := ⟨_, rfl⟩
  have hP : va_P G vwCl (wM yy a u1) H := by rw [eu1]; exact hP
  have hD : va_D A (wM yy a u1) := by rw [eu1]; exact hD
  refine lv_iload_n hx hb dX4_poke_5 rfl (lv_at hl 1 rfl) ?_
  refine lv_i2l (v := p0.toInt64) hx hb dX4_poke_6 rfl ?_
  refine p_i (W.runS (As := [.long p0.toInt64]) (rest := []) ⟨hx, hb, hml, hown, hts⟩ (c_X4_beyond l p0.toInt64 ) (va_cwS 1 hts gX4_poke_X4_beyond rfl rfl rfl (by decide +kernel) ⟨Nat.le_of_ble_eq_true rfl, Nat.le_of_ble_eq_true rfl⟩) p_preT rfl rfl hl.1 rfl (lv_room (Nat.le_of_ble_eq_true rfl)) dX4_poke_7 ⟨Nat.le_of_ble_eq_true rfl, Nat.le_of_ble_eq_true rfl⟩) ?_
  refine lv_if_eq (tgt := 20) hx hb dX4_poke_10 (by decide) (fun c2 => ?_) (fun c2 => ?_)
  · refine lv_aload_n hx hb dX4_poke_20 rfl (lv_at hl 0 rfl) ?_
    refine lv_iload_n hx hb dX4_poke_21 rfl (lv_at hl 1 rfl) ?_
    refine lv_i2l (v := p0.toInt64) hx hb dX4_poke_22 rfl ?_
    refine lv_bipush (v := 8) hx hb dX4_poke_23 (by decide) ?_
    refine g_l (va_runV (As := [.long p0.toInt64, .int (8 : Int32)]) (rest := []) ⟨hx, hb, hml, hown, hts⟩ (c_X4_m l yy a u1 p0.toInt64 (8 : Int32) (c2) (by decide) G H.size) (cwV 2 hts gX4_poke_X4_m rfl rfl rfl (by decide +kernel) ⟨Nat.le_of_ble_eq_true rfl, Nat.le_of_ble_eq_true rfl⟩) (g_preV eTrue_bl hK hE hP hD hS hA 0 rfl rfl) rfl rfl hl.1 rfl (lv_room (Nat.le_of_ble_eq_true rfl)) dX4_poke_25 ⟨Nat.le_of_ble_eq_true rfl, Nat.le_of_ble_eq_true rfl⟩) hD hS hA (fun H locs hP hD hS => ?_)
    have hP : va_P G vwCl (wM yy a u1) H := hP
    have hD : va_D A (wM yy a u1) := hD
    refine lv_topl (fun v3 ev3 => ?_)
    refine lv_lstore (lv' := [(4, .long v3), (0, .ref (a 0)), (1, .int p0), (2, .long p1)]) hx hb dX4_poke_28 hl (by decide) rfl (fun ls hl => ?_)
    refine lv_aload_n hx hb dX4_poke_30 rfl (lv_at hl 1 rfl) ?_
    refine lv_iload_n hx hb dX4_poke_31 rfl (lv_at hl 2 rfl) ?_
    refine lv_i2l (v := p0.toInt64) hx hb dX4_poke_32 rfl ?_
    refine lv_bipush (v := 8) hx hb dX4_poke_33 (by decide) ?_
    refine lv_lload_n hx hb dX4_poke_35 rfl (lv_at hl 3 rfl) ?_
    refine g_v (va_runV (As := [.long p0.toInt64, .int (8 : Int32), .long p1]) (rest := []) ⟨hx, hb, hml, hown, hts⟩ (c_X4_m_ l yy a u1 p0.toInt64 (8 : Int32) p1 (c2) (by decide) G H.size) (cwV 3 hts gX4_poke_X4_m_ rfl rfl rfl (by decide +kernel) ⟨Nat.le_of_ble_eq_true rfl, Nat.le_of_ble_eq_true rfl⟩) (g_preV eTrue_bl hK hE hP hD hS hA 0 rfl rfl) rfl rfl hl.1 rfl (lv_room (Nat.le_of_ble_eq_true rfl)) dX4_poke_36 ⟨Nat.le_of_ble_eq_true rfl, Nat.le_of_ble_eq_true rfl⟩) hD hS hA (fun H locs hP hD hS => ?_)
    obtain ⟨u4, eu4⟩ : ∃ z, z = f_X4_m_ u1 p0.toInt64 (8 : Int32) p1 := ⟨_, rfl⟩
    have hP : va_P G vwCl (wM yy a u4) H := by rw [eu4]; exact hP
    have hD : va_D A (wM yy a u4) := by rw [eu4]; exact hD
    refine lv_lload hx hb dX4_poke_39 (lv_at hl 0 rfl) ?_
    exact g_lret (by have eu4 := eu4.symm; subst eu4; have ev3 := ev3.symm; subst ev3; have eu1 := eu1.symm; subst eu1; exact (if_pos c2).trans (rfl)) hx hb hr hP hD hS hlocks dX4_poke_41
  · refine lv_aload_n hx hb dX4_poke_13 rfl (lv_at hl 0 rfl) ?_
    refine lv_iconst (v := 1) hx hb dX4_poke_14 (by decide) ?_
    refine g_i (va_runV (As := [.int (1 : Int32)]) (rest := []) ⟨hx, hb, hml, hown, hts⟩ (c_X4_fail l yy a u1 (1 : Int32)  G H.size) (cwV 1 hts gX4_poke_X4_fail rfl rfl rfl (by decide +kernel) ⟨Nat.le_of_ble_eq_true rfl, Nat.le_of_ble_eq_true rfl⟩) (g_preV eTrue_bl hK hE hP hD hS hA 0 rfl rfl) rfl rfl hl.1 rfl (lv_room (Nat.le_of_ble_eq_true rfl)) dX4_poke_15 ⟨Nat.le_of_ble_eq_true rfl, Nat.le_of_ble_eq_true rfl⟩) hD hS hA (fun H locs hP hD hS => ?_)
    refine lv_topi (fun v5 ev5 => ?_)
    obtain ⟨u6, eu6⟩ : ∃ z, z = (f_X4_fail u1 (1 : Int32)).2 := ⟨_, rfl⟩
    have hP : va_P G vwCl (wM yy a u6) H := by rw [eu6]; exact hP
    have hD : va_D A (wM yy a u6) := by rw [eu6]; exact hD
    refine lv_i2l (v := v5.toInt64) hx hb dX4_poke_18 rfl ?_
    exact g_lret (by have eu6 := eu6.symm; subst eu6; have ev5 := ev5.symm; subst ev5; have eu1 := eu1.symm; subst eu1; exact (if_neg c2).trans (rfl)) hx hb hr hP hD hS hlocks dX4_poke_19
