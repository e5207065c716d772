def f_X3_trap (u : XS) (p0 : Int32) (p1 : Int64) : XS :=
  if p0 = (0 : Int32) then
    let u5 : XS := sx_pc u p1;
    u5
  else
    if (500 : Int32) ≤ (x_ol u) then
      u
    else
      let u3 : XS := sx_ob u (upd (x_ob u) (x_ol u).toNatClampNeg (vp_nar .byte (((x_g u (f_X3_byteZ p0).toNatClampNeg).toInt32).toInt8.toInt32)));
      let u4 : XS := sx_ol u3 ((x_ol u3) + (1 : Int32));
      u4
abbrev rm_X3_trap : Room := { frames := 1, cells := 0, slots := 0, locals := 20 }
set_option maxRecDepth 20000 in
theorem iw_X3_trap_X3 : ∀ w ∈ wsX30, w ∈ wsX3_trap := by decide +kernel
set_option maxHeartbeats 4000000 in
set_option maxRecDepth 100000 in
theorem c_X3_trap (l : Launch) (yy : Nat → ClassId) (a : Nat → Nat) (u : XS) (p0 : Int32) (p1 : Int64) (h0 : 0 ≤ x_ol u) : gMv l yX3_trap wsX3_trap rm_X3_trap eX (sT yy) (wX yy a) [.ref (a 0), .int p0, .long p1] u (f_X3_trap u p0 p1) := by
  refine gm_ofW (Qc := gQv (wX yy a) (f_X3_trap u p0 p1)) (by decide) rfl (Nat.le_of_ble_eq_true rfl) ?_
  intro G A p e s m args below meth c hx hb hr hml hts hown hlocks hK hE hA H locs hP hD hS ls hl
  have hl : lv_has ls 4 [(0, .ref (a 0)), (1, .int p0), (2, .long p1)] := hl
  refine lv_iload_n hx hb dX3_trap_0 rfl (lv_at hl 1 rfl) ?_
  refine lv_if_ne (tgt := 12) hx hb dX3_trap_1 (by decide) (fun c1 => ?_) (fun c1 => ?_)
  · refine lv_aload_n hx hb dX3_trap_12 rfl (lv_at hl 0 rfl) ?_
    refine va_get (D := G) (ci := 1) (v := .int (x_ol u)) (C := RX3) (T := TX3) (N := 12) hx hb hts iw_X3_trap_X3 hown hK hP 0 rfl rfl 5 (by decide) (hts (.fieldLink RX3 90 "MixBench" "outputLength" "I") (by decide +kernel)) (fun _ h9 => h9) rfl dX3_trap_13 ?_
    refine lv_sipush (v := 500) hx hb dX3_trap_16 (by decide) ?_
    refine lv_icmp_ge (tgt := 52) hx hb dX3_trap_19 (by decide) (fun c2 => ?_) (fun c2 => ?_)
    · exact g_vret (by exact (if_neg c1).trans ((if_pos c2).trans (rfl))) hx hb hr hP hD hS hlocks dX3_trap_52
    · refine lv_aload_n hx hb dX3_trap_22 rfl (lv_at hl 0 rfl) ?_
      refine va_get (D := G) (ci := 1) (v := .ref (a 4)) (C := RX3) (T := TX3) (N := 12) hx hb hts iw_X3_trap_X3 hown hK hP 0 rfl rfl 3 (by decide) (hts (.fieldLink RX3 19 "MixBench" "outputBytes" "[B") (by decide +kernel)) (fun _ h9 => h9) rfl dX3_trap_23 ?_
      refine lv_aload_n hx hb dX3_trap_26 rfl (lv_at hl 0 rfl) ?_
      refine va_get (D := G) (ci := 1) (v := .int (x_ol u)) (C := RX3) (T := TX3) (N := 12) hx hb hts iw_X3_trap_X3 hown hK hP 0 rfl rfl 5 (by decide) (hts (.fieldLink RX3 90 "MixBench" "outputLength" "I") (by decide +kernel)) (fun _ h9 => h9) rfl dX3_trap_27 ?_
      refine lv_aload_n hx hb dX3_trap_30 rfl (lv_at hl 0 rfl) ?_
      refine va_get (D := G) (ci := 1) (v := .ref (a 1)) (C := RX3) (T := TX3) (N := 12) hx hb hts iw_X3_trap_X3 hown hK hP 0 rfl rfl 0 (by decide) (hts (.fieldLink RX3 9 "MixBench" "registers" "[J") (by decide +kernel)) (fun _ h9 => h9) rfl dX3_trap_31 ?_
      refine lv_iload_n hx hb dX3_trap_34 rfl (lv_at hl 1 rfl) ?_
      refine p_i (W.runS (As := [.int p0]) (rest := [.ref (a 1), .int (x_ol u), .ref (a 4)]) ⟨hx, hb, hml, hown, hts⟩ (c_X3_byteZ l p0 ) (va_cwS 1 hts gX3_trap_X3_byteZ rfl rfl rfl (by decide +kernel) ⟨Nat.le_of_ble_eq_true rfl, Nat.le_of_ble_eq_true rfl⟩) p_preT rfl rfl hl.1 rfl (lv_room (Nat.le_of_ble_eq_true rfl)) dX3_trap_35 ⟨Nat.le_of_ble_eq_true rfl, Nat.le_of_ble_eq_true rfl⟩) ?_
      refine va_lald hx hb hK hP 1 0 rfl rfl (in_byteZ _) dX3_trap_38 ?_
      refine lv_l2i (v := (x_g u (f_X3_byteZ p0).toNatClampNeg).toInt32) hx hb dX3_trap_39 rfl ?_
      refine lv_i2b (v := ((x_g u (f_X3_byteZ p0).toNatClampNeg).toInt32).toInt8.toInt32) hx hb dX3_trap_40 rfl ?_
      refine va_bast hx hb hK hP hD hS 4 1 rfl rfl (by exact vp_lt (Int32.not_lt.mpr h0) (Int32.not_le.mp c2) rfl (by decide)) dX3_trap_41 (fun H locs hP hD hS => ?_)
      obtain ⟨u3, eu3⟩ : ∃ z, z = sx_ob u (upd (x_ob u) (x_ol u).toNatClampNeg (vp_nar .byte (((x_g u (f_X3_byteZ p0).toNatClampNeg).toInt32).toInt8.toInt32))) := ⟨_, rfl⟩
      have hP : va_P G vwCl (wX yy a u3) H := by rw [eu3]; exact hP
      have hD : va_D A (wX yy a u3) := by rw [eu3]; exact hD
      refine lv_aload_n hx hb dX3_trap_42 rfl (lv_at hl 0 rfl) ?_
      refine lv_dup hx hb dX3_trap_43 rfl ?_
      refine va_get (D := G) (ci := 1) (v := .int (x_ol u3)) (C := RX3) (T := TX3) (N := 12) hx hb hts iw_X3_trap_X3 hown hK hP 0 rfl rfl 5 (by decide) (hts (.fieldLink RX3 90 "MixBench" "outputLength" "I") (by decide +kernel)) (fun _ h9 => h9) rfl dX3_trap_44 ?_
      refine lv_iconst (v := 1) hx hb dX3_trap_47 (by decide) ?_
      refine lv_iadd hx hb dX3_trap_48 ?_
      refine va_put (D := G) (ci := 1) (v := .int ((x_ol u3) + (1 : Int32))) (ty := .int) (C := RX3) (T := TX3) (N := 12) hx hb hts iw_X3_trap_X3 tyX3 tyX3_ok nmX3 hown hK hP hD hS 0 rfl rfl 5 (by decide) (hts (.fieldLink RX3 90 "MixBench" "outputLength" "I") (by decide +kernel)) (fun _ h9 => h9) rfl (by decide +kernel) rfl rfl (Nat.le_of_ble_eq_true rfl) dX3_trap_49 (fun H locs hP hD hS => ?_)
      obtain ⟨u4, eu4⟩ : ∃ z, z = sx_ol u3 ((x_ol u3) + (1 : Int32)) := ⟨_, rfl⟩
      have hP : va_P G vwCl (wX yy a u4) H := by rw [eu4]; exact hP
      have hD : va_D A (wX yy a u4) := by rw [eu4]; exact hD
      exact g_vret (by have eu4 := eu4.symm; subst eu4; have eu3 := eu3.symm; subst eu3; exact (if_neg c1).trans ((if_neg c2).trans (rfl))) hx hb hr hP hD hS hlocks dX3_trap_52
  · refine lv_aload_n hx hb dX3_trap_4 rfl (lv_at hl 0 rfl) ?_
    refine lv_lload_n hx hb dX3_trap_5 rfl (lv_at hl 2 rfl) ?_
    refine va_put (D := G) (ci := 1) (v := .long p1) (ty := .long) (C := RX3) (T := TX3) (N := 12) hx hb hts iw_X3_trap_X3 tyX3 tyX3_ok nmX3 hown hK hP hD hS 0 rfl rfl 7 (by decide) (hts (.fieldLink RX3 73 "MixBench" "pc" "J") (by decide +kernel)) (fun _ h9 => h9) rfl (by decide +kernel) rfl rfl (Nat.le_of_ble_eq_true rfl) dX3_trap_6 (fun H locs hP hD hS => ?_)
    obtain ⟨u5, eu5⟩ : ∃ z, z = sx_pc u p1 := ⟨_, rfl⟩
    have hP : va_P G vwCl (wX yy a u5) H := by rw [eu5]; exact hP
    have hD : va_D A (wX yy a u5) := by rw [eu5]; exact hD
    refine lv_goto (tgt := 52) hx hb dX3_trap_9 (by decide) ?_
    exact g_vret (by have eu5 := eu5.symm; subst eu5; exact (if_pos c1).trans (rfl)) hx hb hr hP hD hS hlocks dX3_trap_52
