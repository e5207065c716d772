def f_X3_at (u : XS) (p0 : Int32) : Int32 × Int32 × XS :=
  if (f_X3_isBeyond p0.toInt64) = (0 : Int32) then
    let u2 : XS := sx_pl u (p0 &&& (-4 : Int32));
    (0, x_pl u2, u2)
  else
    (2, 0, u)
abbrev rm_X3_at : Room := { frames := 6, cells := 1, slots := 6, locals := 90 }
set_option maxRecDepth 20000 in
theorem iw_X3_at_X3 : ∀ w ∈ wsX30, w ∈ wsX3_at := by decide +kernel
theorem gaX3_at_45 : ∀ w ∈ (vx_atS RX3 45 "java/lang/IndexOutOfBoundsException" ["java/lang/RuntimeException", "java/lang/Exception"]).filter goodWord, w ∈ wsX3_at := fun w h => List.mem_cons_of_mem _ (List.mem_append_right _ h)
set_option maxHeartbeats 4000000 in
set_option maxRecDepth 100000 in
theorem c_X3_at (l : Launch) (hflag : l.stackTraces = false) (yy : Nat → ClassId) (a : Nat → Nat) (u : XS) (p0 : Int32) : gxMi l yX3_at wsX3_at rm_X3_at eX (sT yy) (wX yy a) [.ref (a 0), .int p0] u (f_X3_at u p0) := by
  refine gx_ofW (Qc := gxQi (wX yy a) (f_X3_at u p0)) (XC := gxX (wX yy a) (f_X3_at u p0)) (by decide) rfl (Nat.le_of_ble_eq_true rfl) ?_
  intro G A p e s m args below meth c hx hb hr hml hts hown hlocks hout hK hE hA H locs hP hD hS ls hl
  have hl : lv_has ls 2 [(0, .ref (a 0)), (1, .int p0)] := hl
  refine lv_iload_n hx hb dX3_at_0 rfl (lv_at hl 1 rfl) ?_
  refine lv_i2l (v := p0.toInt64) hx hb dX3_at_1 rfl ?_
  refine p_i (W.runS (As := [.long p0.toInt64]) (rest := []) ⟨hx, hb, hml, hown, hts⟩ (c_X3_isBeyond l p0.toInt64 ) (va_cwS 1 hts gX3_at_X3_isBeyond rfl rfl rfl (by decide +kernel) ⟨Nat.le_of_ble_eq_true rfl, Nat.le_of_ble_eq_true rfl⟩) p_preT rfl rfl hl.1 rfl (lv_room (Nat.le_of_ble_eq_true rfl)) dX3_at_2 ⟨Nat.le_of_ble_eq_true rfl, Nat.le_of_ble_eq_true rfl⟩) ?_
  refine lv_if_eq (tgt := 18) hx hb dX3_at_5 (by decide) (fun c1 => ?_) (fun c1 => ?_)
  · refine lv_aload_n hx hb dX3_at_18 rfl (lv_at hl 0 rfl) ?_
    refine lv_iload_n hx hb dX3_at_19 rfl (lv_at hl 1 rfl) ?_
    refine lv_bipush (v := (-4)) hx hb dX3_at_20 (by decide) ?_
    refine lv_iand hx hb dX3_at_22 ?_
    refine va_put (D := G) (ci := 1) (v := .int (p0 &&& (-4 : Int32))) (ty := .int) (C := RX3) (T := TX3) (N := 12) hx hb hts iw_X3_at_X3 tyX3 tyX3_ok nmX3 hown hK hP hD hS 0 rfl rfl 6 (by decide) (hts (.fieldLink RX3 54 "MixBench" "place" "I") (by decide +kernel)) (fun _ h9 => h9) rfl (by decide +kernel) rfl rfl (Nat.le_of_ble_eq_true rfl) dX3_at_23 (fun H locs hP hD hS => ?_)
    obtain ⟨u2, eu2⟩ : ∃ z, z = sx_pl u (p0 &&& (-4 : Int32)) := ⟨_, rfl⟩
    have hP : va_P G vwCl (wX yy a u2) H := by rw [eu2]; exact hP
    have hD : va_D A (wX yy a u2) := by rw [eu2]; exact hD
    refine lv_aload_n hx hb dX3_at_26 rfl (lv_at hl 0 rfl) ?_
    refine va_get (D := G) (ci := 1) (v := .int (x_pl u2)) (C := RX3) (T := TX3) (N := 12) hx hb hts iw_X3_at_X3 hown hK hP 0 rfl rfl 6 (by decide) (hts (.fieldLink RX3 54 "MixBench" "place" "I") (by decide +kernel)) (fun _ h9 => h9) rfl dX3_at_27 ?_
    exact gx_iret (by have eu2 := eu2.symm; subst eu2; exact (if_pos c1).trans (rfl)) hx hb hr hP hD hS hlocks dX3_at_30
  · exact gx_throw (own := RX3) (cls := "java/lang/IndexOutOfBoundsException") (text := "beyond the memory") (ik := 41) (is := 43) (ic := 45) (by exact (if_neg c1).trans (rfl)) (by decide) rfl hx hb hflag hown rfl (hts (.classLink RX3 41 "java/lang/IndexOutOfBoundsException") (by decide +kernel)) (hts (.initialized "java/lang/IndexOutOfBoundsException") (by decide +kernel)) (hE.2.1 (43, "beyond the memory") (by decide)) (vx_hat (fun w h => hts w (gaX3_at_45 w h)) (by decide +kernel) (vx_c (va_Nw.use rfl (hE.2.2.1.1 "java/lang/IndexOutOfBoundsException" (by decide))) (vx_c (va_Nw.use rfl (hE.2.2.1.2 "java/lang/RuntimeException" (by decide))) (vx_c (va_Nw.use rfl (hE.2.2.1.2 "java/lang/Exception" (by decide))) (vx_c (va_Nw.use rfl (hE.2.2.1.2 "java/lang/Throwable" (by decide))) vx_n))))) (by decide +kernel) hE.2.2.2.1 hE.2.2.2.2.1 hP hD hS (hl.1.trans hml.symm) dX3_at_8 dX3_at_11 dX3_at_12 dX3_at_14 dX3_at_17 hout (Nat.le_of_ble_eq_true rfl) (Nat.le_of_ble_eq_true rfl) (Nat.le_of_ble_eq_true rfl) (Nat.le_of_ble_eq_true rfl) hlocks
