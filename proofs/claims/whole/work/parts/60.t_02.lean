def f_X4_pair (u : MS) (p0 : Int32) (p1 : Int32) (p2 : Int32) : MS :=
  let u1 : MS := f_X4_add u p0 p1;
  let u2 : MS := f_X4_add u1 (((27 : Int32) * p0) + p2) (p1 + (1 : Int32));
  u2
abbrev rm_X4_pair : Room := { frames := 1, cells := 0, slots := 0, locals := 22 }
set_option maxHeartbeats 4000000 in
set_option maxRecDepth 100000 in
theorem c_X4_pair (l : Launch) (yy : Nat → ClassId) (a : Nat → Nat) (u : MS) (p0 : Int32) (p1 : Int32) (p2 : Int32) (h0 : ctB u) : gMv l yX4_pair wsX4_pair rm_X4_pair eTrue (sT yy) (wM yy a) [.ref (a 0), .int p0, .int p1, .int p2] u (f_X4_pair u p0 p1 p2) := by
  refine gm_ofW (Qc := gQv (wM yy a) (f_X4_pair u p0 p1 p2)) (by decide) rfl (Nat.le_of_ble_eq_true rfl) ?_
  intro G A p e s m args below meth c hx hb hr hml hts hown hlocks hK hE hA H locs hP hD hS ls hl
  have hl : lv_has ls 4 [(0, .ref (a 0)), (1, .int p0), (2, .int p1), (3, .int p2)] := hl
  refine lv_aload_n hx hb dX4_pair_0 rfl (lv_at hl 0 rfl) ?_
  refine lv_iload_n hx hb dX4_pair_1 rfl (lv_at hl 1 rfl) ?_
  refine lv_iload_n hx hb dX4_pair_2 rfl (lv_at hl 2 rfl) ?_
  refine g_v (va_runV (As := [.int p0, .int p1]) (rest := []) ⟨hx, hb, hml, hown, hts⟩ (c_X4_add l yy a u p0 p1 (ctB1 h0) G H.size) (cwV 2 hts gX4_pair_X4_add rfl rfl rfl (by decide +kernel) ⟨Nat.le_of_ble_eq_true rfl, Nat.le_of_ble_eq_true rfl⟩) (g_preV eTrue_bl hK hE hP hD hS hA 0 rfl rfl) rfl rfl hl.1 rfl (lv_room (Nat.le_of_ble_eq_true rfl)) dX4_pair_3 ⟨Nat.le_of_ble_eq_true rfl, Nat.le_of_ble_eq_true rfl⟩) hD hS hA (fun H locs hP hD hS => ?_)
  obtain ⟨u1, eu1⟩ : ∃ z, z = f_X4_add u p0 p1 := ⟨_, rfl⟩
  have hP : va_P G vwCl (wM yy a u1) H := by rw [eu1]; exact hP
  have hD : va_D A (wM yy a u1) := by rw [eu1]; exact hD
  refine lv_aload_n hx hb dX4_pair_6 rfl (lv_at hl 0 rfl) ?_
  refine lv_bipush (v := 27) hx hb dX4_pair_7 (by decide) ?_
  refine lv_iload_n hx hb dX4_pair_9 rfl (lv_at hl 1 rfl) ?_
  refine lv_imul hx hb dX4_pair_10 ?_
  refine lv_iload_n hx hb dX4_pair_11 rfl (lv_at hl 3 rfl) ?_
  refine lv_iadd hx hb dX4_pair_12 ?_
  refine lv_iload_n hx hb dX4_pair_13 rfl (lv_at hl 2 rfl) ?_
  refine lv_iconst (v := 1) hx hb dX4_pair_14 (by decide) ?_
  refine lv_iadd hx hb dX4_pair_15 ?_
  refine g_v (va_runV (As := [.int (((27 : Int32) * p0) + p2), .int (p1 + (1 : Int32))]) (rest := []) ⟨hx, hb, hml, hown, hts⟩ (c_X4_add l yy a u1 (((27 : Int32) * p0) + p2) (p1 + (1 : Int32)) (by rw [eu1]; exact ctB2 _ _ h0) G H.size) (cwV 2 hts gX4_pair_X4_add rfl rfl rfl (by decide +kernel) ⟨Nat.le_of_ble_eq_true rfl, Nat.le_of_ble_eq_true rfl⟩) (g_preV eTrue_bl hK hE hP hD hS hA 0 rfl rfl) rfl rfl hl.1 rfl (lv_room (Nat.le_of_ble_eq_true rfl)) dX4_pair_16 ⟨Nat.le_of_ble_eq_true rfl, Nat.le_of_ble_eq_true rfl⟩) hD hS hA (fun H locs hP hD hS => ?_)
  obtain ⟨u2, eu2⟩ : ∃ z, z = f_X4_add u1 (((27 : Int32) * p0) + p2) (p1 + (1 : Int32)) := ⟨_, rfl⟩
  have hP : va_P G vwCl (wM yy a u2) H := by rw [eu2]; exact hP
  have hD : va_D A (wM yy a u2) := by rw [eu2]; exact hD
  exact g_vret (by have eu2 := eu2.symm; subst eu2; have eu1 := eu1.symm; subst eu1; exact rfl) hx hb hr hP hD hS hlocks dX4_pair_19
