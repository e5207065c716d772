def f_X4_on (u : MS)  : Int32 × MS :=
  let u1 : MS := sm_pc u ((m_pc u) + (4 : Int64));
  let u2 : MS := sm_lt u1 (0 : Int32);
  ((0 : Int32), u2)
abbrev rm_X4_on : Room := { frames := 0, cells := 0, slots := 0, locals := 0 }
set_option maxRecDepth 20000 in
theorem iw_X4_on_X4 : ∀ w ∈ wsX40, w ∈ wsX4_on := by decide +kernel
set_option maxHeartbeats 4000000 in
set_option maxRecDepth 100000 in
theorem c_X4_on (l : Launch) (yy : Nat → ClassId) (a : Nat → Nat) (u : MS) : gMi l yX4_on wsX4_on rm_X4_on eTrue (sT yy) (wM yy a) [.ref (a 0)] u (f_X4_on u) := by
  refine gm_ofW (Qc := gQi (wM yy a) (f_X4_on u)) (by decide) rfl (Nat.le_of_ble_eq_true rfl) ?_
  intro G A p e s m args below meth c hx hb hr hml hts hown hlocks hK hE hA H locs hP hD hS ls hl
  have hl : lv_has ls 1 [(0, .ref (a 0))] := hl
  refine lv_aload_n hx hb dX4_on_0 rfl (lv_at hl 0 rfl) ?_
  refine lv_dup hx hb dX4_on_1 rfl ?_
  refine va_get (D := G) (ci := 2) (v := .long (m_pc u)) (C := RX4) (T := TX4) (N := 17) hx hb hts iw_X4_on_X4 hown hK hP 0 rfl rfl 8 (by decide) (hts (.fieldLink RX4 162 "MixBenchModel" "pc" "J") (by decide +kernel)) (fun _ h9 => h9) rfl dX4_on_2 ?_
  refine lv_ldc2 hx hb hown (hts (.constantLong RX4 223 (4)) (by decide +kernel)) dX4_on_5 ?_
  refine lv_ladd hx hb dX4_on_8 ?_
  refine va_put (D := G) (ci := 2) (v := .long ((m_pc u) + (4 : Int64))) (ty := .long) (C := RX4) (T := TX4) (N := 17) hx hb hts iw_X4_on_X4 tyX4 tyX4_ok nmX4 hown hK hP hD hS 0 rfl rfl 8 (by decide) (hts (.fieldLink RX4 162 "MixBenchModel" "pc" "J") (by decide +kernel)) (fun _ h9 => h9) rfl (by decide +kernel) rfl rfl (Nat.le_of_ble_eq_true rfl) dX4_on_9 (fun H locs hP hD hS => ?_)
  obtain ⟨u1, eu1⟩ : ∃ z, z = sm_pc u ((m_pc u) + (4 : Int64)) := ⟨_, rfl⟩
  have hP : va_P G vwCl (wM yy a u1) H := by rw [eu1]; exact hP
  have hD : va_D A (wM yy a u1) := by rw [eu1]; exact hD
  refine lv_aload_n hx hb dX4_on_12 rfl (lv_at hl 0 rfl) ?_
  refine lv_iconst (v := 0) hx hb dX4_on_13 (by decide) ?_
  refine va_put (D := G) (ci := 2) (v := .int (0 : Int32)) (ty := .boolean) (C := RX4) (T := TX4) (N := 17) hx hb hts iw_X4_on_X4 tyX4 tyX4_ok nmX4 hown hK hP hD hS 0 rfl rfl 16 (by decide) (hts (.fieldLink RX4 215 "MixBenchModel" "late" "Z") (by decide +kernel)) (fun _ h9 => h9) rfl (by decide +kernel) rfl rfl (Nat.le_of_ble_eq_true rfl) dX4_on_14 (fun H locs hP hD hS => ?_)
  obtain ⟨u2, eu2⟩ : ∃ z, z = sm_lt u1 (0 : Int32) := ⟨_, rfl⟩
  have hP : va_P G vwCl (wM yy a u2) H := by rw [eu2]; exact hP
  have hD : va_D A (wM yy a u2) := by rw [eu2]; exact hD
  refine lv_iconst (v := 0) hx hb dX4_on_17 (by decide) ?_
  exact g_iret (by have eu2 := eu2.symm; subst eu2; have eu1 := eu1.symm; subst eu1; exact rfl) hx hb hr hP hD hS hlocks dX4_on_18
