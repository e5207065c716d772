def f_X4_fail (u : MS) (p0 : Int32) : Int32 × MS :=
  let u1 : MS := sm_th u p0;
  ((0 : Int32), u1)
abbrev rm_X4_fail : Room := { frames := 0, cells := 0, slots := 0, locals := 0 }
set_option maxRecDepth 20000 in
theorem iw_X4_fail_X4 : ∀ w ∈ wsX40, w ∈ wsX4_fail := by decide +kernel
set_option maxHeartbeats 4000000 in
set_option maxRecDepth 100000 in
theorem c_X4_fail (l : Launch) (yy : Nat → ClassId) (a : Nat → Nat) (u : MS) (p0 : Int32) : gMi l yX4_fail wsX4_fail rm_X4_fail eTrue (sT yy) (wM yy a) [.ref (a 0), .int p0] u (f_X4_fail u p0) := by
  refine gm_ofW (Qc := gQi (wM yy a) (f_X4_fail u p0)) (by decide) rfl (Nat.le_of_ble_eq_true rfl) ?_
  intro G A p e s m args below meth c hx hb hr hml hts hown hlocks hK hE hA H locs hP hD hS ls hl
  have hl : lv_has ls 2 [(0, .ref (a 0)), (1, .int p0)] := hl
  refine lv_aload_n hx hb dX4_fail_0 rfl (lv_at hl 0 rfl) ?_
  refine lv_iload_n hx hb dX4_fail_1 rfl (lv_at hl 1 rfl) ?_
  refine va_put (D := G) (ci := 2) (v := .int p0) (ty := .int) (C := RX4) (T := TX4) (N := 17) hx hb hts iw_X4_fail_X4 tyX4 tyX4_ok nmX4 hown hK hP hD hS 0 rfl rfl 0 (by decide) (hts (.fieldLink RX4 153 "MixBenchModel" "thrown" "I") (by decide +kernel)) (fun _ h9 => h9) rfl (by decide +kernel) rfl rfl (Nat.le_of_ble_eq_true rfl) dX4_fail_2 (fun H locs hP hD hS => ?_)
  obtain ⟨u1, eu1⟩ : ∃ z, z = sm_th u p0 := ⟨_, rfl⟩
  have hP : va_P G vwCl (wM yy a u1) H := by rw [eu1]; exact hP
  have hD : va_D A (wM yy a u1) := by rw [eu1]; exact hD
  refine lv_iconst (v := 0) hx hb dX4_fail_5 (by decide) ?_
  exact g_iret (by have eu1 := eu1.symm; subst eu1; exact rfl) hx hb hr hP hD hS hlocks dX4_fail_6
