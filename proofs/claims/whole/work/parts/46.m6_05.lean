def f_X4_at (u : MS) (p0 : Int32) : Int32 × MS :=
  let u1 : MS := sm_th u (0 : Int32);
  if (f_X4_beyond p0.toInt64) = (0 : Int32) then
    let u3 : MS := sm_pl u1 (p0 &&& (-4 : Int32));
    (m_pl u3, u3)
  else
    let v4 : Int32 := (f_X4_fail u1 (1 : Int32)).1;
    let u5 : MS := (f_X4_fail u1 (1 : Int32)).2;
    (v4, u5)
abbrev rm_X4_at : Room := { frames := 1, cells := 0, slots := 0, locals := 21 }
set_option maxRecDepth 20000 in
theorem iw_X4_at_X4 : ∀ w ∈ wsX40, w ∈ wsX4_at := by decide +kernel
set_option maxHeartbeats 4000000 in
set_option maxRecDepth 100000 in
theorem c_X4_at (l : Launch) (yy : Nat → ClassId) (a : Nat → Nat) (u : MS) (p0 : Int32) : gMi l yX4_at wsX4_at rm_X4_at eTrue (sT yy) (wM yy a) [.ref (a 0), .int p0] u (f_X4_at u p0) := by
  refine gm_ofW (Qc := gQi (wM yy a) (f_X4_at u p0)) (by decide) rfl (Nat.le_of_ble_eq_true rfl) ?_
  intro G A p e s m args below meth c hx hb hr hml hts hown hlocks hK hE hA H locs hP hD hS ls hl
  have hl : lv_has ls 2 [(0, .ref (a 0)), (1, .int p0)] := hl
  refine lv_aload_n hx hb dX4_at_0 rfl (lv_at hl 0 rfl) ?_
  refine lv_iconst (v := 0) hx hb dX4_at_1 (by decide) ?_
  refine va_put (D := G) (ci := 2) (v := .int (0 : Int32)) (ty := .int) (C := RX4) (T := TX4) (N := 17) hx hb hts iw_X4_at_X4 tyX4 tyX4_ok nmX4 hown hK hP hD hS 0 rfl rfl 0 (by decide) (hts (.fieldLink RX4 153 "MixBenchModel" "thrown" "I") (by decide +kernel)) (fun _ h9 => h9) rfl (by decide +kernel) rfl rfl (Nat.le_of_ble_eq_true rfl) dX4_at_2 (fun H locs hP hD hS => ?_)
  obtain ⟨u1, eu1⟩ : ∃ z, z = sm_th u (0 : Int32) := ⟨_, rfl⟩
  have hP : va_P G vwCl (wM yy a u1) H := by rw [eu1]; exact hP
  have hD : va_D A (wM yy a u1) := by rw [eu1]; exact hD
  refine lv_iload_n hx hb dX4_at_5 rfl (lv_at hl 1 rfl) ?_
  refine lv_i2l (v := p0.toInt64) hx hb dX4_at_6 rfl ?_
  refine p_i (W.runS (As := [.long p0.toInt64]) (rest := []) ⟨hx, hb, hml, hown, hts⟩ (c_X4_beyond l p0.toInt64 ) (va_cwS 1 hts gX4_at_X4_beyond rfl rfl rfl (by decide +kernel) ⟨Nat.le_of_ble_eq_true rfl, Nat.le_of_ble_eq_true rfl⟩) p_preT rfl rfl hl.1 rfl (lv_room (Nat.le_of_ble_eq_true rfl)) dX4_at_7 ⟨Nat.le_of_ble_eq_true rfl, Nat.le_of_ble_eq_true rfl⟩) ?_
  refine lv_if_eq (tgt := 19) hx hb dX4_at_10 (by decide) (fun c2 => ?_) (fun c2 => ?_)
  · refine lv_aload_n hx hb dX4_at_19 rfl (lv_at hl 0 rfl) ?_
    refine lv_iload_n hx hb dX4_at_20 rfl (lv_at hl 1 rfl) ?_
    refine lv_bipush (v := (-4)) hx hb dX4_at_21 (by decide) ?_
    refine lv_iand hx hb dX4_at_23 ?_
    refine va_put (D := G) (ci := 2) (v := .int (p0 &&& (-4 : Int32))) (ty := .int) (C := RX4) (T := TX4) (N := 17) hx hb hts iw_X4_at_X4 tyX4 tyX4_ok nmX4 hown hK hP hD hS 0 rfl rfl 7 (by decide) (hts (.fieldLink RX4 308 "MixBenchModel" "place" "I") (by decide +kernel)) (fun _ h9 => h9) rfl (by decide +kernel) rfl rfl (Nat.le_of_ble_eq_true rfl) dX4_at_24 (fun H locs hP hD hS => ?_)
    obtain ⟨u3, eu3⟩ : ∃ z, z = sm_pl u1 (p0 &&& (-4 : Int32)) := ⟨_, rfl⟩
    have hP : va_P G vwCl (wM yy a u3) H := by rw [eu3]; exact hP
    have hD : va_D A (wM yy a u3) := by rw [eu3]; exact hD
    refine lv_aload_n hx hb dX4_at_27 rfl (lv_at hl 0 rfl) ?_
    refine va_get (D := G) (ci := 2) (v := .int (m_pl u3)) (C := RX4) (T := TX4) (N := 17) hx hb hts iw_X4_at_X4 hown hK hP 0 rfl rfl 7 (by decide) (hts (.fieldLink RX4 308 "MixBenchModel" "place" "I") (by decide +kernel)) (fun _ h9 => h9) rfl dX4_at_28 ?_
    exact g_iret (by have eu3 := eu3.symm; subst eu3; have eu1 := eu1.symm; subst eu1; exact (if_pos c2).trans (rfl)) hx hb hr hP hD hS hlocks dX4_at_31
  · refine lv_aload_n hx hb dX4_at_13 rfl (lv_at hl 0 rfl) ?_
    refine lv_iconst (v := 1) hx hb dX4_at_14 (by decide) ?_
    refine g_i (va_runV (As := [.int (1 : Int32)]) (rest := []) ⟨hx, hb, hml, hown, hts⟩ (c_X4_fail l yy a u1 (1 : Int32)  G H.size) (cwV 1 hts gX4_at_X4_fail rfl rfl rfl (by decide +kernel) ⟨Nat.le_of_ble_eq_true rfl, Nat.le_of_ble_eq_true rfl⟩) (g_preV eTrue_bl hK hE hP hD hS hA 0 rfl rfl) rfl rfl hl.1 rfl (lv_room (Nat.le_of_ble_eq_true rfl)) dX4_at_15 ⟨Nat.le_of_ble_eq_true rfl, Nat.le_of_ble_eq_true rfl⟩) hD hS hA (fun H locs hP hD hS => ?_)
    refine lv_topi (fun v4 ev4 => ?_)
    obtain ⟨u5, eu5⟩ : ∃ z, z = (f_X4_fail u1 (1 : Int32)).2 := ⟨_, rfl⟩
    have hP : va_P G vwCl (wM yy a u5) H := by rw [eu5]; exact hP
    have hD : va_D A (wM yy a u5) := by rw [eu5]; exact hD
    exact g_iret (by have eu5 := eu5.symm; subst eu5; have ev4 := ev4.symm; subst ev4; have eu1 := eu1.symm; subst eu1; exact (if_neg c2).trans (rfl)) hx hb hr hP hD hS hlocks dX4_at_18
