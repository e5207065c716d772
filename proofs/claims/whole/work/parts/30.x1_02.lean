def f_X3_writeX (u : XS) (p0 : Int32) (p1 : Int64) : XS :=
  let v1 : Int32 := f_X3_byteX p0;
  let u2 : XS := sx_tr u (((37 : Int64) * (x_tr u)) + (x_g u v1.toNatClampNeg));
  let u3 : XS := sx_g u2 (vp_updL (x_g u2) v1.toNatClampNeg p1);
  u3
abbrev rm_X3_writeX : Room := { frames := 1, cells := 0, slots := 0, locals := 20 }
set_option maxRecDepth 20000 in
theorem iw_X3_writeX_X3 : ∀ w ∈ wsX30, w ∈ wsX3_writeX := by decide +kernel
set_option maxHeartbeats 4000000 in
set_option maxRecDepth 100000 in
theorem c_X3_writeX (l : Launch) (yy : Nat → ClassId) (a : Nat → Nat) (u : XS) (p0 : Int32) (p1 : Int64) : gMv l yX3_writeX wsX3_writeX rm_X3_writeX eX (sT yy) (wX yy a) [.ref (a 0), .int p0, .long p1] u (f_X3_writeX u p0 p1) := by
  refine gm_ofW (Qc := gQv (wX yy a) (f_X3_writeX u p0 p1)) (by decide) rfl (Nat.le_of_ble_eq_true rfl) ?_
  intro G A p e s m args below meth c hx hb hr hml hts hown hlocks hK hE hA H locs hP hD hS ls hl
  have hl : lv_has ls 5 [(0, .ref (a 0)), (1, .int p0), (2, .long p1)] := hl
  refine lv_iload_n hx hb dX3_writeX_0 rfl (lv_at hl 1 rfl) ?_
  refine p_i (W.runS (As := [.int p0]) (rest := []) ⟨hx, hb, hml, hown, hts⟩ (c_X3_byteX l p0 ) (va_cwS 1 hts gX3_writeX_X3_byteX rfl rfl rfl (by decide +kernel) ⟨Nat.le_of_ble_eq_true rfl, Nat.le_of_ble_eq_true rfl⟩) p_preT rfl rfl hl.1 rfl (lv_room (Nat.le_of_ble_eq_true rfl)) dX3_writeX_1 ⟨Nat.le_of_ble_eq_true rfl, Nat.le_of_ble_eq_true rfl⟩) ?_
  refine lv_topi (fun v1 ev1 => ?_)
  refine lv_istore (lv' := [(4, .int v1), (0, .ref (a 0)), (1, .int p0), (2, .long p1)]) hx hb dX3_writeX_4 hl (by decide) rfl (fun ls hl => ?_)
  refine lv_aload_n hx hb dX3_writeX_6 rfl (lv_at hl 1 rfl) ?_
  refine lv_ldc2 hx hb hown (hts (.constantLong RX3 197 (37)) (by decide +kernel)) dX3_writeX_7 ?_
  refine lv_aload_n hx hb dX3_writeX_10 rfl (lv_at hl 1 rfl) ?_
  refine va_get (D := G) (ci := 1) (v := .long (x_tr u)) (C := RX3) (T := TX3) (N := 12) hx hb hts iw_X3_writeX_X3 hown hK hP 0 rfl rfl 10 (by decide) (hts (.fieldLink RX3 98 "MixBench" "trail" "J") (by decide +kernel)) (fun _ h9 => h9) rfl dX3_writeX_11 ?_
  refine lv_lmul hx hb dX3_writeX_14 ?_
  refine lv_aload_n hx hb dX3_writeX_15 rfl (lv_at hl 1 rfl) ?_
  refine va_get (D := G) (ci := 1) (v := .ref (a 1)) (C := RX3) (T := TX3) (N := 12) hx hb hts iw_X3_writeX_X3 hown hK hP 0 rfl rfl 0 (by decide) (hts (.fieldLink RX3 9 "MixBench" "registers" "[J") (by decide +kernel)) (fun _ h9 => h9) rfl dX3_writeX_16 ?_
  refine lv_iload hx hb dX3_writeX_19 (lv_at hl 0 rfl) ?_
  refine va_lald hx hb hK hP 1 0 rfl rfl (by rw [ev1]; exact (in_byteX _)) dX3_writeX_21 ?_
  refine lv_ladd hx hb dX3_writeX_22 ?_
  refine va_put (D := G) (ci := 1) (v := .long (((37 : Int64) * (x_tr u)) + (x_g u v1.toNatClampNeg))) (ty := .long) (C := RX3) (T := TX3) (N := 12) hx hb hts iw_X3_writeX_X3 tyX3 tyX3_ok nmX3 hown hK hP hD hS 0 rfl rfl 10 (by decide) (hts (.fieldLink RX3 98 "MixBench" "trail" "J") (by decide +kernel)) (fun _ h9 => h9) rfl (by decide +kernel) rfl rfl (Nat.le_of_ble_eq_true rfl) dX3_writeX_23 (fun H locs hP hD hS => ?_)
  obtain ⟨u2, eu2⟩ : ∃ z, z = sx_tr u (((37 : Int64) * (x_tr u)) + (x_g u v1.toNatClampNeg)) := ⟨_, rfl⟩
  have hP : va_P G vwCl (wX yy a u2) H := by rw [eu2]; exact hP
  have hD : va_D A (wX yy a u2) := by rw [eu2]; exact hD
  refine lv_aload_n hx hb dX3_writeX_26 rfl (lv_at hl 1 rfl) ?_
  refine va_get (D := G) (ci := 1) (v := .ref (a 1)) (C := RX3) (T := TX3) (N := 12) hx hb hts iw_X3_writeX_X3 hown hK hP 0 rfl rfl 0 (by decide) (hts (.fieldLink RX3 9 "MixBench" "registers" "[J") (by decide +kernel)) (fun _ h9 => h9) rfl dX3_writeX_27 ?_
  refine lv_iload hx hb dX3_writeX_30 (lv_at hl 0 rfl) ?_
  refine lv_lload_n hx hb dX3_writeX_32 rfl (lv_at hl 3 rfl) ?_
  refine va_last hx hb hK hP hD hS 1 0 rfl rfl (by rw [ev1]; exact (in_byteX _)) dX3_writeX_33 (fun H locs hP hD hS => ?_)
  obtain ⟨u3, eu3⟩ : ∃ z, z = sx_g u2 (vp_updL (x_g u2) v1.toNatClampNeg p1) := ⟨_, rfl⟩
  have hP : va_P G vwCl (wX yy a u3) H := by rw [eu3]; exact hP
  have hD : va_D A (wX yy a u3) := by rw [eu3]; exact hD
  exact g_vret (by have eu3 := eu3.symm; subst eu3; have eu2 := eu2.symm; subst eu2; have ev1 := ev1.symm; subst ev1; exact rfl) hx hb hr hP hD hS hlocks dX3_writeX_34
