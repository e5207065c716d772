def f_X3_get (u : XS) (p0 : Int32) : Int32 × Int64 × XS :=
  if p0 < (0 : Int32) then
    (1, 0, u)
  else
    if p0 < (264 : Int32) then
      if (256 : Int32) ≤ p0 then
        (0, x_sp u (p0 - (256 : Int32)).toNatClampNeg, u)
      else
        (0, x_g u p0.toNatClampNeg, u)
    else
      (1, 0, u)
abbrev rm_X3_get : Room := { frames := 6, cells := 1, slots := 6, locals := 90 }
set_option maxRecDepth 20000 in
theorem iw_X3_get_X3 : ∀ w ∈ wsX30, w ∈ wsX3_get := by decide +kernel
theorem gaX3_get_34 : ∀ w ∈ (vy_at RX3 34).filter goodWord, w ∈ wsX3_get := fun w h => List.mem_cons_of_mem _ (List.mem_append_right _ h)
set_option maxHeartbeats 4000000 in
set_option maxRecDepth 100000 in
theorem c_X3_get (l : Launch) (hflag : l.stackTraces = false) (yy : Nat → ClassId) (a : Nat → Nat) (u : XS) (p0 : Int32) : gxMl l yX3_get wsX3_get rm_X3_get eX (sT yy) (wX yy a) [.ref (a 0), .int p0] u (f_X3_get u p0) := by
  refine gx_ofW (Qc := gxQl (wX yy a) (f_X3_get u p0)) (XC := gxX (wX yy a) (f_X3_get u p0)) (by decide) rfl (Nat.le_of_ble_eq_true rfl) ?_
  intro G A p e s m args below meth c hx hb hr hml hts hown hlocks hout hK hE hA H locs hP hD hS ls hl
  have hl : lv_has ls 2 [(0, .ref (a 0)), (1, .int p0)] := hl
  refine lv_iload_n hx hb dX3_get_0 rfl (lv_at hl 1 rfl) ?_
  refine lv_if_lt (tgt := 11) hx hb dX3_get_1 (by decide) (fun c1 => ?_) (fun c1 => ?_)
  · exact gy_throw (own := RX3) (text := "no such register") (ik := 30) (is := 32) (ic := 34) (by exact (if_pos c1).trans (rfl)) (by decide) rfl hx hb hflag hown rfl (hts (.classLink RX3 30 "java/util/NoSuchElementException") (by decide +kernel)) (hts (.initialized "java/util/NoSuchElementException") (by decide +kernel)) (hE.2.1 (32, "no such register") (by decide)) (vx_hat (fun w h => hts w (gaX3_get_34 w h)) (by decide +kernel) (vx_c (va_Nw.use rfl (hE.2.2.1.1 "java/util/NoSuchElementException" (by decide))) (vx_c (va_Nw.use rfl (hE.2.2.1.2 "java/lang/RuntimeException" (by decide))) (vx_c (va_Nw.use rfl (hE.2.2.1.2 "java/lang/Exception" (by decide))) (vx_c (va_Nw.use rfl (hE.2.2.1.2 "java/lang/Throwable" (by decide))) vx_n))))) (by decide +kernel) hE.2.2.2.1 hE.2.2.2.2.1 hP hD hS (hl.1.trans hml.symm) dX3_get_11 dX3_get_14 dX3_get_15 dX3_get_17 dX3_get_20 hout (Nat.le_of_ble_eq_true rfl) (Nat.le_of_ble_eq_true rfl) (Nat.le_of_ble_eq_true rfl) (Nat.le_of_ble_eq_true rfl) hlocks
  · refine lv_iload_n hx hb dX3_get_4 rfl (lv_at hl 1 rfl) ?_
    refine lv_sipush (v := 264) hx hb dX3_get_5 (by decide) ?_
    refine lv_icmp_lt (tgt := 21) hx hb dX3_get_8 (by decide) (fun c2 => ?_) (fun c2 => ?_)
    · refine lv_iload_n hx hb dX3_get_21 rfl (lv_at hl 1 rfl) ?_
      refine lv_sipush (v := 256) hx hb dX3_get_22 (by decide) ?_
      refine lv_icmp_ge (tgt := 37) hx hb dX3_get_25 (by decide) (fun c3 => ?_) (fun c3 => ?_)
      · refine lv_aload_n hx hb dX3_get_37 rfl (lv_at hl 0 rfl) ?_
        refine va_get (D := G) (ci := 1) (v := .ref (a 2)) (C := RX3) (T := TX3) (N := 12) hx hb hts iw_X3_get_X3 hown hK hP 0 rfl rfl 1 (by decide) (hts (.fieldLink RX3 13 "MixBench" "specials" "[J") (by decide +kernel)) (fun _ h9 => h9) rfl dX3_get_38 ?_
        refine lv_iload_n hx hb dX3_get_41 rfl (lv_at hl 1 rfl) ?_
        refine lv_sipush (v := 256) hx hb dX3_get_42 (by decide) ?_
        refine lv_isub hx hb dX3_get_45 ?_
        refine va_lald hx hb hK hP 2 0 rfl rfl (vp_sub c1 c2 c3) dX3_get_46 ?_
        exact gx_lret (by exact (if_neg c1).trans ((if_pos c2).trans ((if_pos c3).trans (rfl)))) hx hb hr hP hD hS hlocks dX3_get_47
      · refine lv_aload_n hx hb dX3_get_28 rfl (lv_at hl 0 rfl) ?_
        refine va_get (D := G) (ci := 1) (v := .ref (a 1)) (C := RX3) (T := TX3) (N := 12) hx hb hts iw_X3_get_X3 hown hK hP 0 rfl rfl 0 (by decide) (hts (.fieldLink RX3 9 "MixBench" "registers" "[J") (by decide +kernel)) (fun _ h9 => h9) rfl dX3_get_29 ?_
        refine lv_iload_n hx hb dX3_get_32 rfl (lv_at hl 1 rfl) ?_
        refine va_lald hx hb hK hP 1 0 rfl rfl (vp_lt c1 (Int32.not_le.mp c3) rfl (by decide)) dX3_get_33 ?_
        refine lv_goto (tgt := 47) hx hb dX3_get_34 (by decide) ?_
        exact gx_lret (by exact (if_neg c1).trans ((if_pos c2).trans ((if_neg c3).trans (rfl)))) hx hb hr hP hD hS hlocks dX3_get_47
    · exact gy_throw (own := RX3) (text := "no such register") (ik := 30) (is := 32) (ic := 34) (by exact (if_neg c1).trans ((if_neg c2).trans (rfl))) (by decide) rfl hx hb hflag hown rfl (hts (.classLink RX3 30 "java/util/NoSuchElementException") (by decide +kernel)) (hts (.initialized "java/util/NoSuchElementException") (by decide +kernel)) (hE.2.1 (32, "no such register") (by decide)) (vx_hat (fun w h => hts w (gaX3_get_34 w h)) (by decide +kernel) (vx_c (va_Nw.use rfl (hE.2.2.1.1 "java/util/NoSuchElementException" (by decide))) (vx_c (va_Nw.use rfl (hE.2.2.1.2 "java/lang/RuntimeException" (by decide))) (vx_c (va_Nw.use rfl (hE.2.2.1.2 "java/lang/Exception" (by decide))) (vx_c (va_Nw.use rfl (hE.2.2.1.2 "java/lang/Throwable" (by decide))) vx_n))))) (by decide +kernel) hE.2.2.2.1 hE.2.2.2.2.1 hP hD hS (hl.1.trans hml.symm) dX3_get_11 dX3_get_14 dX3_get_15 dX3_get_17 dX3_get_20 hout (Nat.le_of_ble_eq_true rfl) (Nat.le_of_ble_eq_true rfl) (Nat.le_of_ble_eq_true rfl) (Nat.le_of_ble_eq_true rfl) hlocks
