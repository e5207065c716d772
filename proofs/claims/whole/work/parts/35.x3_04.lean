def f_X3_peek (u : XS) (p0 : Int32) : Int32 × Int64 × XS :=
  if (f_X3_isBeyond p0.toInt64) = (0 : Int32) then
    let v2 : Int64 := f_X0_load u p0.toInt64 (8 : Int32);
    (0, v2, u)
  else
    (2, 0, u)
abbrev rm_X3_peek : Room := { frames := 6, cells := 1, slots := 6, locals := 90 }
set_option maxRecDepth 20000 in
theorem iw_X3_peek_X3 : ∀ w ∈ wsX30, w ∈ wsX3_peek := by decide +kernel
theorem gaX3_peek_45 : ∀ w ∈ (vx_atS RX3 45 "java/lang/IndexOutOfBoundsException" ["java/lang/RuntimeException", "java/lang/Exception"]).filter goodWord, w ∈ wsX3_peek := fun w h => List.mem_cons_of_mem _ (List.mem_append_right _ h)
set_option maxHeartbeats 4000000 in
set_option maxRecDepth 100000 in
theorem c_X3_peek (l : Launch) (hflag : l.stackTraces = false) (yy : Nat → ClassId) (a : Nat → Nat) (u : XS) (p0 : Int32) : gxMl l yX3_peek wsX3_peek rm_X3_peek eX (sT yy) (wX yy a) [.ref (a 0), .int p0] u (f_X3_peek u p0) := by
  refine gx_ofW (Qc := gxQl (wX yy a) (f_X3_peek u p0)) (XC := gxX (wX yy a) (f_X3_peek u p0)) (by decide) rfl (Nat.le_of_ble_eq_true rfl) ?_
  intro G A p e s m args below meth c hx hb hr hml hts hown hlocks hout hK hE hA H locs hP hD hS ls hl
  have hl : lv_has ls 2 [(0, .ref (a 0)), (1, .int p0)] := hl
  refine lv_iload_n hx hb dX3_peek_0 rfl (lv_at hl 1 rfl) ?_
  refine lv_i2l (v := p0.toInt64) hx hb dX3_peek_1 rfl ?_
  refine p_i (W.runS (As := [.long p0.toInt64]) (rest := []) ⟨hx, hb, hml, hown, hts⟩ (c_X3_isBeyond l p0.toInt64 ) (va_cwS 1 hts gX3_peek_X3_isBeyond rfl rfl rfl (by decide +kernel) ⟨Nat.le_of_ble_eq_true rfl, Nat.le_of_ble_eq_true rfl⟩) p_preT rfl rfl hl.1 rfl (lv_room (Nat.le_of_ble_eq_true rfl)) dX3_peek_2 ⟨Nat.le_of_ble_eq_true rfl, Nat.le_of_ble_eq_true rfl⟩) ?_
  refine lv_if_eq (tgt := 18) hx hb dX3_peek_5 (by decide) (fun c1 => ?_) (fun c1 => ?_)
  · refine lv_aload_n hx hb dX3_peek_18 rfl (lv_at hl 0 rfl) ?_
    refine va_get (D := G) (ci := 1) (v := .ref (a 5)) (C := RX3) (T := TX3) (N := 12) hx hb hts iw_X3_peek_X3 hown hK hP 0 rfl rfl 4 (by decide) (hts (.fieldLink RX3 26 "MixBench" "memory" "LMixBench$Memory;") (by decide +kernel)) (fun _ h9 => h9) rfl dX3_peek_19 ?_
    refine lv_iload_n hx hb dX3_peek_22 rfl (lv_at hl 1 rfl) ?_
    refine lv_i2l (v := p0.toInt64) hx hb dX3_peek_23 rfl ?_
    refine lv_bipush (v := 8) hx hb dX3_peek_24 (by decide) ?_
    refine g_l (va_runVN (As := [.long p0.toInt64, .int (8 : Int32)]) (rest := []) ⟨hx, hb, hml, hown, hts⟩ (c_X0_load l yy a u p0.toInt64 (8 : Int32)  G H.size) ⟨va_cnB 2 hts gX3_peek_X0_load_n46 rfl rfl rfl (hE.1 (46, yX0_load) (by decide +kernel)) (hts (.initialized RX0) (by decide +kernel)) (by decide +kernel) ⟨Nat.le_of_ble_eq_true rfl, Nat.le_of_ble_eq_true rfl⟩, (hts (.instanceMethod yX0_load) (by decide +kernel)), (hts (.selects RX0 yX0_load yX0_load) (by decide +kernel))⟩ (g_preV eX_bl hK hE hP hD hS hA 5 rfl rfl) rfl rfl hl.1 rfl (lv_room (Nat.le_of_ble_eq_true rfl)) dX3_peek_26 ⟨Nat.le_of_ble_eq_true rfl, Nat.le_of_ble_eq_true rfl⟩) hD hS hA (fun H locs hP hD hS => ?_)
    have hP : va_P G vwCl (wX yy a u) H := hP
    have hD : va_D A (wX yy a u) := hD
    refine lv_topl (fun v2 ev2 => ?_)
    exact gx_lret (by have ev2 := ev2.symm; subst ev2; exact (if_pos c1).trans (rfl)) hx hb hr hP hD hS hlocks dX3_peek_29
  · exact gx_throw (own := RX3) (cls := "java/lang/IndexOutOfBoundsException") (text := "beyond the memory") (ik := 41) (is := 43) (ic := 45) (by exact (if_neg c1).trans (rfl)) (by decide) rfl hx hb hflag hown rfl (hts (.classLink RX3 41 "java/lang/IndexOutOfBoundsException") (by decide +kernel)) (hts (.initialized "java/lang/IndexOutOfBoundsException") (by decide +kernel)) (hE.2.1 (43, "beyond the memory") (by decide)) (vx_hat (fun w h => hts w (gaX3_peek_45 w h)) (by decide +kernel) (vx_c (va_Nw.use rfl (hE.2.2.1.1 "java/lang/IndexOutOfBoundsException" (by decide))) (vx_c (va_Nw.use rfl (hE.2.2.1.2 "java/lang/RuntimeException" (by decide))) (vx_c (va_Nw.use rfl (hE.2.2.1.2 "java/lang/Exception" (by decide))) (vx_c (va_Nw.use rfl (hE.2.2.1.2 "java/lang/Throwable" (by decide))) vx_n))))) (by decide +kernel) hE.2.2.2.1 hE.2.2.2.2.1 hP hD hS (hl.1.trans hml.symm) dX3_peek_8 dX3_peek_11 dX3_peek_12 dX3_peek_14 dX3_peek_17 hout (Nat.le_of_ble_eq_true rfl) (Nat.le_of_ble_eq_true rfl) (Nat.le_of_ble_eq_true rfl) (Nat.le_of_ble_eq_true rfl) hlocks
