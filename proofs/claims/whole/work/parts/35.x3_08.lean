def f_X3_output (u : XS) (p0 : Int32) : Int32 × Int32 × XS :=
  if p0 < (0 : Int32) then
    (2, 0, u)
  else
    if p0 < (x_ol u) then
      (0, (x_ob u p0.toNatClampNeg) &&& (255 : Int32), u)
    else
      (2, 0, u)
abbrev rm_X3_output : Room := { frames := 6, cells := 1, slots := 6, locals := 90 }
set_option maxRecDepth 20000 in
theorem iw_X3_output_X3 : ∀ w ∈ wsX30, w ∈ wsX3_output := by decide +kernel
theorem gaX3_output_45 : ∀ w ∈ (vx_atS RX3 45 "java/lang/IndexOutOfBoundsException" ["java/lang/RuntimeException", "java/lang/Exception"]).filter goodWord, w ∈ wsX3_output := fun w h => List.mem_cons_of_mem _ (List.mem_append_right _ h)
set_option maxHeartbeats 4000000 in
set_option maxRecDepth 100000 in
theorem c_X3_output (l : Launch) (hflag : l.stackTraces = false) (yy : Nat → ClassId) (a : Nat → Nat) (u : XS) (p0 : Int32) (h0 : x_ol u ≤ 500) : gxMi l yX3_output wsX3_output rm_X3_output eX (sT yy) (wX yy a) [.ref (a 0), .int p0] u (f_X3_output u p0) := by
  refine gx_ofW (Qc := gxQi (wX yy a) (f_X3_output u p0)) (XC := gxX (wX yy a) (f_X3_output u p0)) (by decide) rfl (Nat.le_of_ble_eq_true rfl) ?_
  intro G A p e s m args below meth c hx hb hr hml hts hown hlocks hout hK hE hA H locs hP hD hS ls hl
  have hl : lv_has ls 2 [(0, .ref (a 0)), (1, .int p0)] := hl
  refine lv_iload_n hx hb dX3_output_0 rfl (lv_at hl 1 rfl) ?_
  refine lv_if_lt (tgt := 12) hx hb dX3_output_1 (by decide) (fun c1 => ?_) (fun c1 => ?_)
  · exact gx_throw (own := RX3) (cls := "java/lang/IndexOutOfBoundsException") (text := "no such byte of output") (ik := 41) (is := 93) (ic := 45) (by exact (if_pos c1).trans (rfl)) (by decide) rfl hx hb hflag hown rfl (hts (.classLink RX3 41 "java/lang/IndexOutOfBoundsException") (by decide +kernel)) (hts (.initialized "java/lang/IndexOutOfBoundsException") (by decide +kernel)) (hE.2.1 (93, "no such byte of output") (by decide)) (vx_hat (fun w h => hts w (gaX3_output_45 w h)) (by decide +kernel) (vx_c (va_Nw.use rfl (hE.2.2.1.1 "java/lang/IndexOutOfBoundsException" (by decide))) (vx_c (va_Nw.use rfl (hE.2.2.1.2 "java/lang/RuntimeException" (by decide))) (vx_c (va_Nw.use rfl (hE.2.2.1.2 "java/lang/Exception" (by decide))) (vx_c (va_Nw.use rfl (hE.2.2.1.2 "java/lang/Throwable" (by decide))) vx_n))))) (by decide +kernel) hE.2.2.2.1 hE.2.2.2.2.1 hP hD hS (hl.1.trans hml.symm) dX3_output_12 dX3_output_15 dX3_output_16 dX3_output_18 dX3_output_21 hout (Nat.le_of_ble_eq_true rfl) (Nat.le_of_ble_eq_true rfl) (Nat.le_of_ble_eq_true rfl) (Nat.le_of_ble_eq_true rfl) hlocks
  · refine lv_iload_n hx hb dX3_output_4 rfl (lv_at hl 1 rfl) ?_
    refine lv_aload_n hx hb dX3_output_5 rfl (lv_at hl 0 rfl) ?_
    refine va_get (D := G) (ci := 1) (v := .int (x_ol u)) (C := RX3) (T := TX3) (N := 12) hx hb hts iw_X3_output_X3 hown hK hP 0 rfl rfl 5 (by decide) (hts (.fieldLink RX3 90 "MixBench" "outputLength" "I") (by decide +kernel)) (fun _ h9 => h9) rfl dX3_output_6 ?_
    refine lv_icmp_lt (tgt := 22) hx hb dX3_output_9 (by decide) (fun c2 => ?_) (fun c2 => ?_)
    · refine lv_aload_n hx hb dX3_output_22 rfl (lv_at hl 0 rfl) ?_
      refine va_get (D := G) (ci := 1) (v := .ref (a 4)) (C := RX3) (T := TX3) (N := 12) hx hb hts iw_X3_output_X3 hown hK hP 0 rfl rfl 3 (by decide) (hts (.fieldLink RX3 19 "MixBench" "outputBytes" "[B") (by decide +kernel)) (fun _ h9 => h9) rfl dX3_output_23 ?_
      refine lv_iload_n hx hb dX3_output_26 rfl (lv_at hl 1 rfl) ?_
      refine va_bald hx hb hK hP 4 1 rfl rfl (vp_le h0 c1 c2) dX3_output_27 ?_
      refine lv_sipush (v := 255) hx hb dX3_output_28 (by decide) ?_
      refine lv_iand hx hb dX3_output_31 ?_
      exact gx_iret (by exact (if_neg c1).trans ((if_pos c2).trans (rfl))) hx hb hr hP hD hS hlocks dX3_output_32
    · exact gx_throw (own := RX3) (cls := "java/lang/IndexOutOfBoundsException") (text := "no such byte of output") (ik := 41) (is := 93) (ic := 45) (by exact (if_neg c1).trans ((if_neg c2).trans (rfl))) (by decide) rfl hx hb hflag hown rfl (hts (.classLink RX3 41 "java/lang/IndexOutOfBoundsException") (by decide +kernel)) (hts (.initialized "java/lang/IndexOutOfBoundsException") (by decide +kernel)) (hE.2.1 (93, "no such byte of output") (by decide)) (vx_hat (fun w h => hts w (gaX3_output_45 w h)) (by decide +kernel) (vx_c (va_Nw.use rfl (hE.2.2.1.1 "java/lang/IndexOutOfBoundsException" (by decide))) (vx_c (va_Nw.use rfl (hE.2.2.1.2 "java/lang/RuntimeException" (by decide))) (vx_c (va_Nw.use rfl (hE.2.2.1.2 "java/lang/Exception" (by decide))) (vx_c (va_Nw.use rfl (hE.2.2.1.2 "java/lang/Throwable" (by decide))) vx_n))))) (by decide +kernel) hE.2.2.2.1 hE.2.2.2.2.1 hP hD hS (hl.1.trans hml.symm) dX3_output_12 dX3_output_15 dX3_output_16 dX3_output_18 dX3_output_21 hout (Nat.le_of_ble_eq_true rfl) (Nat.le_of_ble_eq_true rfl) (Nat.le_of_ble_eq_true rfl) (Nat.le_of_ble_eq_true rfl) hlocks
