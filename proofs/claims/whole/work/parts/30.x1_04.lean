def f_X3_followFetch (u : XS) (p0 : Int32) : XS :=
  let u1 : XS := sx_tr u (((31 : Int64) * (x_tr u)) + (x_g u (f_X3_byteY p0).toNatClampNeg));
  let u2 : XS := sx_tr u1 (((31 : Int64) * (x_tr u1)) + (x_g u1 (f_X3_byteZ p0).toNatClampNeg));
  let u3 : XS := sx_tr u2 (((31 : Int64) * (x_tr u2)) + (x_g u2 (f_X3_byteX p0).toNatClampNeg));
  u3
abbrev rm_X3_followFetch : Room := { frames := 1, cells := 0, slots := 0, locals := 20 }
set_option maxRecDepth 20000 in
theorem iw_X3_followFetch_X3 : ∀ w ∈ wsX30, w ∈ wsX3_followFetch := by decide +kernel
set_option maxHeartbeats 4000000 in
set_option maxRecDepth 100000 in
theorem c_X3_followFetch (l : Launch) (yy : Nat → ClassId) (a : Nat → Nat) (u : XS) (p0 : Int32) : gMv l yX3_followFetch wsX3_followFetch rm_X3_followFetch eX (sT yy) (wX yy a) [.ref (a 0), .int p0] u (f_X3_followFetch u p0) := by
  refine gm_ofW (Qc := gQv (wX yy a) (f_X3_followFetch u p0)) (by decide) rfl (Nat.le_of_ble_eq_true rfl) ?_
  intro G A p e s m args below meth c hx hb hr hml hts hown hlocks hK hE hA H locs hP hD hS ls hl
  have hl : lv_has ls 2 [(0, .ref (a 0)), (1, .int p0)] := hl
  refine lv_aload_n hx hb dX3_followFetch_0 rfl (lv_at hl 0 rfl) ?_
  refine lv_ldc2 hx hb hown (hts (.constantLong RX3 138 (31)) (by decide +kernel)) dX3_followFetch_1 ?_
  refine lv_aload_n hx hb dX3_followFetch_4 rfl (lv_at hl 0 rfl) ?_
  refine va_get (D := G) (ci := 1) (v := .long (x_tr u)) (C := RX3) (T := TX3) (N := 12) hx hb hts iw_X3_followFetch_X3 hown hK hP 0 rfl rfl 10 (by decide) (hts (.fieldLink RX3 98 "MixBench" "trail" "J") (by decide +kernel)) (fun _ h9 => h9) rfl dX3_followFetch_5 ?_
  refine lv_lmul hx hb dX3_followFetch_8 ?_
  refine lv_aload_n hx hb dX3_followFetch_9 rfl (lv_at hl 0 rfl) ?_
  refine va_get (D := G) (ci := 1) (v := .ref (a 1)) (C := RX3) (T := TX3) (N := 12) hx hb hts iw_X3_followFetch_X3 hown hK hP 0 rfl rfl 0 (by decide) (hts (.fieldLink RX3 9 "MixBench" "registers" "[J") (by decide +kernel)) (fun _ h9 => h9) rfl dX3_followFetch_10 ?_
  refine lv_iload_n hx hb dX3_followFetch_13 rfl (lv_at hl 1 rfl) ?_
  refine p_i (W.runS (As := [.int p0]) (rest := [.ref (a 1), .long ((31 : Int64) * (x_tr u)), .ref (a 0)]) ⟨hx, hb, hml, hown, hts⟩ (c_X3_byteY l p0 ) (va_cwS 1 hts gX3_followFetch_X3_byteY rfl rfl rfl (by decide +kernel) ⟨Nat.le_of_ble_eq_true rfl, Nat.le_of_ble_eq_true rfl⟩) p_preT rfl rfl hl.1 rfl (lv_room (Nat.le_of_ble_eq_true rfl)) dX3_followFetch_14 ⟨Nat.le_of_ble_eq_true rfl, Nat.le_of_ble_eq_true rfl⟩) ?_
  refine va_lald hx hb hK hP 1 0 rfl rfl (in_byteY _) dX3_followFetch_17 ?_
  refine lv_ladd hx hb dX3_followFetch_18 ?_
  refine va_put (D := G) (ci := 1) (v := .long (((31 : Int64) * (x_tr u)) + (x_g u (f_X3_byteY p0).toNatClampNeg))) (ty := .long) (C := RX3) (T := TX3) (N := 12) hx hb hts iw_X3_followFetch_X3 tyX3 tyX3_ok nmX3 hown hK hP hD hS 0 rfl rfl 10 (by decide) (hts (.fieldLink RX3 98 "MixBench" "trail" "J") (by decide +kernel)) (fun _ h9 => h9) rfl (by decide +kernel) rfl rfl (Nat.le_of_ble_eq_true rfl) dX3_followFetch_19 (fun H locs hP hD hS => ?_)
  obtain ⟨u1, eu1⟩ : ∃ z, z = sx_tr u (((31 : Int64) * (x_tr u)) + (x_g u (f_X3_byteY p0).toNatClampNeg)) := ⟨_, rfl⟩
  have hP : va_P G vwCl (wX yy a u1) H := by rw [eu1]; exact hP
  have hD : va_D A (wX yy a u1) := by rw [eu1]; exact hD
  refine lv_aload_n hx hb dX3_followFetch_22 rfl (lv_at hl 0 rfl) ?_
  refine lv_ldc2 hx hb hown (hts (.constantLong RX3 138 (31)) (by decide +kernel)) dX3_followFetch_23 ?_
  refine lv_aload_n hx hb dX3_followFetch_26 rfl (lv_at hl 0 rfl) ?_
  refine va_get (D := G) (ci := 1) (v := .long (x_tr u1)) (C := RX3) (T := TX3) (N := 12) hx hb hts iw_X3_followFetch_X3 hown hK hP 0 rfl rfl 10 (by decide) (hts (.fieldLink RX3 98 "MixBench" "trail" "J") (by decide +kernel)) (fun _ h9 => h9) rfl dX3_followFetch_27 ?_
  refine lv_lmul hx hb dX3_followFetch_30 ?_
  refine lv_aload_n hx hb dX3_followFetch_31 rfl (lv_at hl 0 rfl) ?_
  refine va_get (D := G) (ci := 1) (v := .ref (a 1)) (C := RX3) (T := TX3) (N := 12) hx hb hts iw_X3_followFetch_X3 hown hK hP 0 rfl rfl 0 (by decide) (hts (.fieldLink RX3 9 "MixBench" "registers" "[J") (by decide +kernel)) (fun _ h9 => h9) rfl dX3_followFetch_32 ?_
  refine lv_iload_n hx hb dX3_followFetch_35 rfl (lv_at hl 1 rfl) ?_
  refine p_i (W.runS (As := [.int p0]) (rest := [.ref (a 1), .long ((31 : Int64) * (x_tr u1)), .ref (a 0)]) ⟨hx, hb, hml, hown, hts⟩ (c_X3_byteZ l p0 ) (va_cwS 1 hts gX3_followFetch_X3_byteZ rfl rfl rfl (by decide +kernel) ⟨Nat.le_of_ble_eq_true rfl, Nat.le_of_ble_eq_true rfl⟩) p_preT rfl rfl hl.1 rfl (lv_room (Nat.le_of_ble_eq_true rfl)) dX3_followFetch_36 ⟨Nat.le_of_ble_eq_true rfl, Nat.le_of_ble_eq_true rfl⟩) ?_
  refine va_lald hx hb hK hP 1 0 rfl rfl (in_byteZ _) dX3_followFetch_39 ?_
  refine lv_ladd hx hb dX3_followFetch_40 ?_
  refine va_put (D := G) (ci := 1) (v := .long (((31 : Int64) * (x_tr u1)) + (x_g u1 (f_X3_byteZ p0).toNatClampNeg))) (ty := .long) (C := RX3) (T := TX3) (N := 12) hx hb hts iw_X3_followFetch_X3 tyX3 tyX3_ok nmX3 hown hK hP hD hS 0 rfl rfl 10 (by decide) (hts (.fieldLink RX3 98 "MixBench" "trail" "J") (by decide +kernel)) (fun _ h9 => h9) rfl (by decide +kernel) rfl rfl (Nat.le_of_ble_eq_true rfl) dX3_followFetch_41 (fun H locs hP hD hS => ?_)
  obtain ⟨u2, eu2⟩ : ∃ z, z = sx_tr u1 (((31 : Int64) * (x_tr u1)) + (x_g u1 (f_X3_byteZ p0).toNatClampNeg)) := ⟨_, rfl⟩
  have hP : va_P G vwCl (wX yy a u2) H := by rw [eu2]; exact hP
  have hD : va_D A (wX yy a u2) := by rw [eu2]; exact hD
  refine lv_aload_n hx hb dX3_followFetch_44 rfl (lv_at hl 0 rfl) ?_
  refine lv_ldc2 hx hb hown (hts (.constantLong RX3 138 (31)) (by decide +kernel)) dX3_followFetch_45 ?_
  refine lv_aload_n hx hb dX3_followFetch_48 rfl (lv_at hl 0 rfl) ?_
  refine va_get (D := G) (ci := 1) (v := .long (x_tr u2)) (C := RX3) (T := TX3) (N := 12) hx hb hts iw_X3_followFetch_X3 hown hK hP 0 rfl rfl 10 (by decide) (hts (.fieldLink RX3 98 "MixBench" "trail" "J") (by decide +kernel)) (fun _ h9 => h9) rfl dX3_followFetch_49 ?_
  refine lv_lmul hx hb dX3_followFetch_52 ?_
  refine lv_aload_n hx hb dX3_followFetch_53 rfl (lv_at hl 0 rfl) ?_
  refine va_get (D := G) (ci := 1) (v := .ref (a 1)) (C := RX3) (T := TX3) (N := 12) hx hb hts iw_X3_followFetch_X3 hown hK hP 0 rfl rfl 0 (by decide) (hts (.fieldLink RX3 9 "MixBench" "registers" "[J") (by decide +kernel)) (fun _ h9 => h9) rfl dX3_followFetch_54 ?_
  refine lv_iload_n hx hb dX3_followFetch_57 rfl (lv_at hl 1 rfl) ?_
  refine p_i (W.runS (As := [.int p0]) (rest := [.ref (a 1), .long ((31 : Int64) * (x_tr u2)), .ref (a 0)]) ⟨hx, hb, hml, hown, hts⟩ (c_X3_byteX l p0 ) (va_cwS 1 hts gX3_followFetch_X3_byteX rfl rfl rfl (by decide +kernel) ⟨Nat.le_of_ble_eq_true rfl, Nat.le_of_ble_eq_true rfl⟩) p_preT rfl rfl hl.1 rfl (lv_room (Nat.le_of_ble_eq_true rfl)) dX3_followFetch_58 ⟨Nat.le_of_ble_eq_true rfl, Nat.le_of_ble_eq_true rfl⟩) ?_
  refine va_lald hx hb hK hP 1 0 rfl rfl (in_byteX _) dX3_followFetch_61 ?_
  refine lv_ladd hx hb dX3_followFetch_62 ?_
  refine va_put (D := G) (ci := 1) (v := .long (((31 : Int64) * (x_tr u2)) + (x_g u2 (f_X3_byteX p0).toNatClampNeg))) (ty := .long) (C := RX3) (T := TX3) (N := 12) hx hb hts iw_X3_followFetch_X3 tyX3 tyX3_ok nmX3 hown hK hP hD hS 0 rfl rfl 10 (by decide) (hts (.fieldLink RX3 98 "MixBench" "trail" "J") (by decide +kernel)) (fun _ h9 => h9) rfl (by decide +kernel) rfl rfl (Nat.le_of_ble_eq_true rfl) dX3_followFetch_63 (fun H locs hP hD hS => ?_)
  obtain ⟨u3, eu3⟩ : ∃ z, z = sx_tr u2 (((31 : Int64) * (x_tr u2)) + (x_g u2 (f_X3_byteX p0).toNatClampNeg)) := ⟨_, rfl⟩
  have hP : va_P G vwCl (wX yy a u3) H := by rw [eu3]; exact hP
  have hD : va_D A (wX yy a u3) := by rw [eu3]; exact hD
  exact g_vret (by have eu3 := eu3.symm; subst eu3; have eu2 := eu2.symm; subst eu2; have eu1 := eu1.symm; subst eu1; exact rfl) hx hb hr hP hD hS hlocks dX3_followFetch_66
