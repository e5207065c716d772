def f_X3_bill (u : XS) (p0 : Int32) (p1 : Int32) : XS :=
  let u1 : XS := sx_ta u (vp_updL (x_ta u) p0.toNatClampNeg ((x_ta u p0.toNatClampNeg) + (1 : Int64)));
  let u2 : XS := sx_la u1 (x_ta u1 p0.toNatClampNeg);
  let u3 : XS := sx_oo u2 ((x_oo u2) + ((f_X3_leastOops p0).toInt64));
  if p1 = (0 : Int32) then
    u3
  else
    let u5 : XS := sx_me u3 ((x_me u3) + (1 : Int64));
    u5
abbrev rm_X3_bill : Room := { frames := 1, cells := 0, slots := 0, locals := 20 }
set_option maxRecDepth 20000 in
theorem iw_X3_bill_X3 : ∀ w ∈ wsX30, w ∈ wsX3_bill := by decide +kernel
set_option maxHeartbeats 4000000 in
set_option maxRecDepth 100000 in
theorem c_X3_bill (l : Launch) (yy : Nat → ClassId) (a : Nat → Nat) (u : XS) (p0 : Int32) (p1 : Int32) (h0 : vp_in p0 256) : gMv l yX3_bill wsX3_bill rm_X3_bill eX (sT yy) (wX yy a) [.ref (a 0), .int p0, .int p1] u (f_X3_bill u p0 p1) := by
  refine gm_ofW (Qc := gQv (wX yy a) (f_X3_bill u p0 p1)) (by decide) rfl (Nat.le_of_ble_eq_true rfl) ?_
  intro G A p e s m args below meth c hx hb hr hml hts hown hlocks hK hE hA H locs hP hD hS ls hl
  have hl : lv_has ls 3 [(0, .ref (a 0)), (1, .int p0), (2, .int p1)] := hl
  refine lv_aload_n hx hb dX3_bill_0 rfl (lv_at hl 0 rfl) ?_
  refine va_get (D := G) (ci := 1) (v := .ref (a 3)) (C := RX3) (T := TX3) (N := 12) hx hb hts iw_X3_bill_X3 hown hK hP 0 rfl rfl 2 (by decide) (hts (.fieldLink RX3 16 "MixBench" "tallies" "[J") (by decide +kernel)) (fun _ h9 => h9) rfl dX3_bill_1 ?_
  refine lv_iload_n hx hb dX3_bill_4 rfl (lv_at hl 1 rfl) ?_
  refine lv_dup2_11 hx hb dX3_bill_5 rfl rfl ?_
  refine va_lald hx hb hK hP 3 0 rfl rfl h0 dX3_bill_6 ?_
  refine lv_lconst (v := 1) hx hb dX3_bill_7 (by decide) ?_
  refine lv_ladd hx hb dX3_bill_8 ?_
  refine va_last hx hb hK hP hD hS 3 0 rfl rfl h0 dX3_bill_9 (fun H locs hP hD hS => ?_)
  obtain ⟨u1, eu1⟩ : ∃ z, z = sx_ta u (vp_updL (x_ta u) p0.toNatClampNeg ((x_ta u p0.toNatClampNeg) + (1 : Int64))) := ⟨_, rfl⟩
  have hP : va_P G vwCl (wX yy a u1) H := by rw [eu1]; exact hP
  have hD : va_D A (wX yy a u1) := by rw [eu1]; exact hD
  refine lv_aload_n hx hb dX3_bill_10 rfl (lv_at hl 0 rfl) ?_
  refine lv_aload_n hx hb dX3_bill_11 rfl (lv_at hl 0 rfl) ?_
  refine va_get (D := G) (ci := 1) (v := .ref (a 3)) (C := RX3) (T := TX3) (N := 12) hx hb hts iw_X3_bill_X3 hown hK hP 0 rfl rfl 2 (by decide) (hts (.fieldLink RX3 16 "MixBench" "tallies" "[J") (by decide +kernel)) (fun _ h9 => h9) rfl dX3_bill_12 ?_
  refine lv_iload_n hx hb dX3_bill_15 rfl (lv_at hl 1 rfl) ?_
  refine va_lald hx hb hK hP 3 0 rfl rfl h0 dX3_bill_16 ?_
  refine va_put (D := G) (ci := 1) (v := .long (x_ta u1 p0.toNatClampNeg)) (ty := .long) (C := RX3) (T := TX3) (N := 12) hx hb hts iw_X3_bill_X3 tyX3 tyX3_ok nmX3 hown hK hP hD hS 0 rfl rfl 11 (by decide) (hts (.fieldLink RX3 101 "MixBench" "lastTally" "J") (by decide +kernel)) (fun _ h9 => h9) rfl (by decide +kernel) rfl rfl (Nat.le_of_ble_eq_true rfl) dX3_bill_17 (fun H locs hP hD hS => ?_)
  obtain ⟨u2, eu2⟩ : ∃ z, z = sx_la u1 (x_ta u1 p0.toNatClampNeg) := ⟨_, rfl⟩
  have hP : va_P G vwCl (wX yy a u2) H := by rw [eu2]; exact hP
  have hD : va_D A (wX yy a u2) := by rw [eu2]; exact hD
  refine lv_aload_n hx hb dX3_bill_20 rfl (lv_at hl 0 rfl) ?_
  refine lv_dup hx hb dX3_bill_21 rfl ?_
  refine va_get (D := G) (ci := 1) (v := .long (x_oo u2)) (C := RX3) (T := TX3) (N := 12) hx hb hts iw_X3_bill_X3 hown hK hP 0 rfl rfl 8 (by decide) (hts (.fieldLink RX3 87 "MixBench" "oops" "J") (by decide +kernel)) (fun _ h9 => h9) rfl dX3_bill_22 ?_
  refine lv_iload_n hx hb dX3_bill_25 rfl (lv_at hl 1 rfl) ?_
  refine p_i (W.runS (As := [.int p0]) (rest := [.long (x_oo u2), .ref (a 0)]) ⟨hx, hb, hml, hown, hts⟩ (c_X3_leastOops l p0 ) (va_cwS 1 hts gX3_bill_X3_leastOops rfl rfl rfl (by decide +kernel) ⟨Nat.le_of_ble_eq_true rfl, Nat.le_of_ble_eq_true rfl⟩) p_preT rfl rfl hl.1 rfl (lv_room (Nat.le_of_ble_eq_true rfl)) dX3_bill_26 ⟨Nat.le_of_ble_eq_true rfl, Nat.le_of_ble_eq_true rfl⟩) ?_
  refine lv_i2l (v := (f_X3_leastOops p0).toInt64) hx hb dX3_bill_29 rfl ?_
  refine lv_ladd hx hb dX3_bill_30 ?_
  refine va_put (D := G) (ci := 1) (v := .long ((x_oo u2) + ((f_X3_leastOops p0).toInt64))) (ty := .long) (C := RX3) (T := TX3) (N := 12) hx hb hts iw_X3_bill_X3 tyX3 tyX3_ok nmX3 hown hK hP hD hS 0 rfl rfl 8 (by decide) (hts (.fieldLink RX3 87 "MixBench" "oops" "J") (by decide +kernel)) (fun _ h9 => h9) rfl (by decide +kernel) rfl rfl (Nat.le_of_ble_eq_true rfl) dX3_bill_31 (fun H locs hP hD hS => ?_)
  obtain ⟨u3, eu3⟩ : ∃ z, z = sx_oo u2 ((x_oo u2) + ((f_X3_leastOops p0).toInt64)) := ⟨_, rfl⟩
  have hP : va_P G vwCl (wX yy a u3) H := by rw [eu3]; exact hP
  have hD : va_D A (wX yy a u3) := by rw [eu3]; exact hD
  refine lv_iload_n hx hb dX3_bill_34 rfl (lv_at hl 2 rfl) ?_
  refine lv_if_eq (tgt := 48) hx hb dX3_bill_35 (by decide) (fun c4 => ?_) (fun c4 => ?_)
  · exact g_vret (by have eu3 := eu3.symm; subst eu3; have eu2 := eu2.symm; subst eu2; have eu1 := eu1.symm; subst eu1; exact (if_pos c4).trans (rfl)) hx hb hr hP hD hS hlocks dX3_bill_48
  · refine lv_aload_n hx hb dX3_bill_38 rfl (lv_at hl 0 rfl) ?_
    refine lv_dup hx hb dX3_bill_39 rfl ?_
    refine va_get (D := G) (ci := 1) (v := .long (x_me u3)) (C := RX3) (T := TX3) (N := 12) hx hb hts iw_X3_bill_X3 hown hK hP 0 rfl rfl 9 (by decide) (hts (.fieldLink RX3 95 "MixBench" "mems" "J") (by decide +kernel)) (fun _ h9 => h9) rfl dX3_bill_40 ?_
    refine lv_lconst (v := 1) hx hb dX3_bill_43 (by decide) ?_
    refine lv_ladd hx hb dX3_bill_44 ?_
    refine va_put (D := G) (ci := 1) (v := .long ((x_me u3) + (1 : Int64))) (ty := .long) (C := RX3) (T := TX3) (N := 12) hx hb hts iw_X3_bill_X3 tyX3 tyX3_ok nmX3 hown hK hP hD hS 0 rfl rfl 9 (by decide) (hts (.fieldLink RX3 95 "MixBench" "mems" "J") (by decide +kernel)) (fun _ h9 => h9) rfl (by decide +kernel) rfl rfl (Nat.le_of_ble_eq_true rfl) dX3_bill_45 (fun H locs hP hD hS => ?_)
    obtain ⟨u5, eu5⟩ : ∃ z, z = sx_me u3 ((x_me u3) + (1 : Int64)) := ⟨_, rfl⟩
    have hP : va_P G vwCl (wX yy a u5) H := by rw [eu5]; exact hP
    have hD : va_D A (wX yy a u5) := by rw [eu5]; exact hD
    exact g_vret (by have eu5 := eu5.symm; subst eu5; have eu3 := eu3.symm; subst eu3; have eu2 := eu2.symm; subst eu2; have eu1 := eu1.symm; subst eu1; exact (if_neg c4).trans (rfl)) hx hb hr hP hD hS hlocks dX3_bill_48
