def f_X4_done (u : MS) (p0 : Int32) (p1 : Int64) : Int32 × MS :=
  let u1 : MS := sm_tr u (((37 : Int64) * (m_tr u)) + (m_g u p0.toNatClampNeg));
  let u2 : MS := sm_g u1 (vp_updL (m_g u1) p0.toNatClampNeg p1);
  let v3 : Int32 := (f_X4_on u2 ).1;
  let u4 : MS := (f_X4_on u2 ).2;
  (v3, u4)
abbrev rm_X4_done : Room := { frames := 1, cells := 0, slots := 0, locals := 20 }
set_option maxRecDepth 20000 in
theorem iw_X4_done_X4 : ∀ w ∈ wsX40, w ∈ wsX4_done := by decide +kernel
set_option maxHeartbeats 4000000 in
set_option maxRecDepth 100000 in
theorem c_X4_done (l : Launch) (yy : Nat → ClassId) (a : Nat → Nat) (u : MS) (p0 : Int32) (p1 : Int64) (h0 : vp_in p0 256) : gMi l yX4_done wsX4_done rm_X4_done eTrue (sT yy) (wM yy a) [.ref (a 0), .int p0, .long p1] u (f_X4_done u p0 p1) := by
  refine gm_ofW (Qc := gQi (wM yy a) (f_X4_done u p0 p1)) (by decide) rfl (Nat.le_of_ble_eq_true rfl) ?_
  intro G A p e s m args below meth c hx hb hr hml hts hown hlocks hK hE hA H locs hP hD hS ls hl
  have hl : lv_has ls 4 [(0, .ref (a 0)), (1, .int p0), (2, .long p1)] := hl
  refine lv_aload_n hx hb dX4_done_0 rfl (lv_at hl 0 rfl) ?_
  refine lv_ldc2 hx hb hown (hts (.constantLong RX4 228 (37)) (by decide +kernel)) dX4_done_1 ?_
  refine lv_aload_n hx hb dX4_done_4 rfl (lv_at hl 0 rfl) ?_
  refine va_get (D := G) (ci := 2) (v := .long (m_tr u)) (C := RX4) (T := TX4) (N := 17) hx hb hts iw_X4_done_X4 hown hK hP 0 rfl rfl 11 (by decide) (hts (.fieldLink RX4 176 "MixBenchModel" "trail" "J") (by decide +kernel)) (fun _ h9 => h9) rfl dX4_done_5 ?_
  refine lv_lmul hx hb dX4_done_8 ?_
  refine lv_aload_n hx hb dX4_done_9 rfl (lv_at hl 0 rfl) ?_
  refine va_get (D := G) (ci := 2) (v := .ref (a 1)) (C := RX4) (T := TX4) (N := 17) hx hb hts iw_X4_done_X4 hown hK hP 0 rfl rfl 1 (by decide) (hts (.fieldLink RX4 7 "MixBenchModel" "g" "[J") (by decide +kernel)) (fun _ h9 => h9) rfl dX4_done_10 ?_
  refine lv_iload_n hx hb dX4_done_13 rfl (lv_at hl 1 rfl) ?_
  refine va_lald hx hb hK hP 1 0 rfl rfl h0 dX4_done_14 ?_
  refine lv_ladd hx hb dX4_done_15 ?_
  refine va_put (D := G) (ci := 2) (v := .long (((37 : Int64) * (m_tr u)) + (m_g u p0.toNatClampNeg))) (ty := .long) (C := RX4) (T := TX4) (N := 17) hx hb hts iw_X4_done_X4 tyX4 tyX4_ok nmX4 hown hK hP hD hS 0 rfl rfl 11 (by decide) (hts (.fieldLink RX4 176 "MixBenchModel" "trail" "J") (by decide +kernel)) (fun _ h9 => h9) rfl (by decide +kernel) rfl rfl (Nat.le_of_ble_eq_true rfl) dX4_done_16 (fun H locs hP hD hS => ?_)
  obtain ⟨u1, eu1⟩ : ∃ z, z = sm_tr u (((37 : Int64) * (m_tr u)) + (m_g u p0.toNatClampNeg)) := ⟨_, rfl⟩
  have hP : va_P G vwCl (wM yy a u1) H := by rw [eu1]; exact hP
  have hD : va_D A (wM yy a u1) := by rw [eu1]; exact hD
  refine lv_aload_n hx hb dX4_done_19 rfl (lv_at hl 0 rfl) ?_
  refine va_get (D := G) (ci := 2) (v := .ref (a 1)) (C := RX4) (T := TX4) (N := 17) hx hb hts iw_X4_done_X4 hown hK hP 0 rfl rfl 1 (by decide) (hts (.fieldLink RX4 7 "MixBenchModel" "g" "[J") (by decide +kernel)) (fun _ h9 => h9) rfl dX4_done_20 ?_
  refine lv_iload_n hx hb dX4_done_23 rfl (lv_at hl 1 rfl) ?_
  refine lv_lload_n hx hb dX4_done_24 rfl (lv_at hl 2 rfl) ?_
  refine va_last hx hb hK hP hD hS 1 0 rfl rfl h0 dX4_done_25 (fun H locs hP hD hS => ?_)
  obtain ⟨u2, eu2⟩ : ∃ z, z = sm_g u1 (vp_updL (m_g u1) p0.toNatClampNeg p1) := ⟨_, rfl⟩
  have hP : va_P G vwCl (wM yy a u2) H := by rw [eu2]; exact hP
  have hD : va_D A (wM yy a u2) := by rw [eu2]; exact hD
  refine lv_aload_n hx hb dX4_done_26 rfl (lv_at hl 0 rfl) ?_
  refine g_i (va_runV (As := []) (rest := []) ⟨hx, hb, hml, hown, hts⟩ (c_X4_on l yy a u2   G H.size) (cwV 0 hts gX4_done_X4_on rfl rfl rfl (by decide +kernel) ⟨Nat.le_of_ble_eq_true rfl, Nat.le_of_ble_eq_true rfl⟩) (g_preV eTrue_bl hK hE hP hD hS hA 0 rfl rfl) rfl rfl hl.1 rfl (lv_room (Nat.le_of_ble_eq_true rfl)) dX4_done_27 ⟨Nat.le_of_ble_eq_true rfl, Nat.le_of_ble_eq_true rfl⟩) hD hS hA (fun H locs hP hD hS => ?_)
  refine lv_topi (fun v3 ev3 => ?_)
  obtain ⟨u4, eu4⟩ : ∃ z, z = (f_X4_on u2 ).2 := ⟨_, rfl⟩
  have hP : va_P G vwCl (wM yy a u4) H := by rw [eu4]; exact hP
  have hD : va_D A (wM yy a u4) := by rw [eu4]; exact hD
  exact g_iret (by have eu4 := eu4.symm; subst eu4; have ev3 := ev3.symm; subst ev3; have eu2 := eu2.symm; subst eu2; have eu1 := eu1.symm; subst eu1; exact rfl) hx hb hr hP hD hS hlocks dX4_done_30
