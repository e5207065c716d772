def f_X3_tally (u : XS) (p0 : Int32) : Int32 × Int64 × XS :=
  if p0 < (0 : Int32) then
    (1, 0, u)
  else
    if p0 < (256 : Int32) then
      (0, x_ta u p0.toNatClampNeg, u)
    else
      (1, 0, u)
abbrev rm_X3_tally : Room := { frames := 6, cells := 1, slots := 6, locals := 90 }
set_option maxRecDepth 20000 in
theorem iw_X3_tally_X3 : ∀ w ∈ wsX30, w ∈ wsX3_tally := by decide +kernel
theorem gaX3_tally_34 : ∀ w ∈ (vy_at RX3 34).filter goodWord, w ∈ wsX3_tally := fun w h => List.mem_cons_of_mem _ (List.mem_append_right _ h)
set_option maxHeartbeats 4000000 in
set_option maxRecDepth 100000 in
theorem c_X3_tally (l : Launch) (hflag : l.stackTraces = false) (yy : Nat → ClassId) (a : Nat → Nat) (u : XS) (p0 : Int32) : gxMl l yX3_tally wsX3_tally rm_X3_tally eX (sT yy) (wX yy a) [.ref (a 0), .int p0] u (f_X3_tally u p0) := by
  refine gx_ofW (Qc := gxQl (wX yy a) (f_X3_tally u p0)) (XC := gxX (wX yy a) (f_X3_tally u p0)) (by decide) rfl (Nat.le_of_ble_eq_true rfl) ?_
  intro G A p e s m args below meth c hx hb hr hml hts hown hlocks hout hK hE hA H locs hP hD hS ls hl
  have hl : lv_has ls 2 [(0, .ref (a 0)), (1, .int p0)] := hl
  refine lv_iload_n hx hb dX3_tally_0 rfl (lv_at hl 1 rfl) ?_
  refine lv_if_lt (tgt := 11) hx hb dX3_tally_1 (by decide) (fun c1 => ?_) (fun c1 => ?_)
  · exact gy_throw (own := RX3) (text := "no such op") (ik := 30) (is := 83) (ic := 34) (by exact (if_pos c1).trans (rfl)) (by decide) rfl hx hb hflag hown rfl (hts (.classLink RX3 30 "java/util/NoSuchElementException") (by decide +kernel)) (hts (.initialized "java/util/NoSuchElementException") (by decide +kernel)) (hE.2.1 (83, "no such op") (by decide)) (vx_hat (fun w h => hts w (gaX3_tally_34 w h)) (by decide +kernel) (vx_c (va_Nw.use rfl (hE.2.2.1.1 "java/util/NoSuchElementException" (by decide))) (vx_c (va_Nw.use rfl (hE.2.2.1.2 "java/lang/RuntimeException" (by decide))) (vx_c (va_Nw.use rfl (hE.2.2.1.2 "java/lang/Exception" (by decide))) (vx_c (va_Nw.use rfl (hE.2.2.1.2 "java/lang/Throwable" (by decide))) vx_n))))) (by decide +kernel) hE.2.2.2.1 hE.2.2.2.2.1 hP hD hS (hl.1.trans hml.symm) dX3_tally_11 dX3_tally_14 dX3_tally_15 dX3_tally_17 dX3_tally_20 hout (Nat.le_of_ble_eq_true rfl) (Nat.le_of_ble_eq_true rfl) (Nat.le_of_ble_eq_true rfl) (Nat.le_of_ble_eq_true rfl) hlocks
  · refine lv_iload_n hx hb dX3_tally_4 rfl (lv_at hl 1 rfl) ?_
    refine lv_sipush (v := 256) hx hb dX3_tally_5 (by decide) ?_
    refine lv_icmp_lt (tgt := 21) hx hb dX3_tally_8 (by decide) (fun c2 => ?_) (fun c2 => ?_)
    · refine lv_aload_n hx hb dX3_tally_21 rfl (lv_at hl 0 rfl) ?_
      refine va_get (D := G) (ci := 1) (v := .ref (a 3)) (C := RX3) (T := TX3) (N := 12) hx hb hts iw_X3_tally_X3 hown hK hP 0 rfl rfl 2 (by decide) (hts (.fieldLink RX3 16 "MixBench" "tallies" "[J") (by decide +kernel)) (fun _ h9 => h9) rfl dX3_tally_22 ?_
      refine lv_iload_n hx hb dX3_tally_25 rfl (lv_at hl 1 rfl) ?_
      refine va_lald hx hb hK hP 3 0 rfl rfl (vp_lt c1 c2 rfl (by decide)) dX3_tally_26 ?_
      exact gx_lret (by exact (if_neg c1).trans ((if_pos c2).trans (rfl))) hx hb hr hP hD hS hlocks dX3_tally_27
    · exact gy_throw (own := RX3) (text := "no such op") (ik := 30) (is := 83) (ic := 34) (by exact (if_neg c1).trans ((if_neg c2).trans (rfl))) (by decide) rfl hx hb hflag hown rfl (hts (.classLink RX3 30 "java/util/NoSuchElementException") (by decide +kernel)) (hts (.initialized "java/util/NoSuchElementException") (by decide +kernel)) (hE.2.1 (83, "no such op") (by decide)) (vx_hat (fun w h => hts w (gaX3_tally_34 w h)) (by decide +kernel) (vx_c (va_Nw.use rfl (hE.2.2.1.1 "java/util/NoSuchElementException" (by decide))) (vx_c (va_Nw.use rfl (hE.2.2.1.2 "java/lang/RuntimeException" (by decide))) (vx_c (va_Nw.use rfl (hE.2.2.1.2 "java/lang/Exception" (by decide))) (vx_c (va_Nw.use rfl (hE.2.2.1.2 "java/lang/Throwable" (by decide))) vx_n))))) (by decide +kernel) hE.2.2.2.1 hE.2.2.2.2.1 hP hD hS (hl.1.trans hml.symm) dX3_tally_11 dX3_tally_14 dX3_tally_15 dX3_tally_17 dX3_tally_20 hout (Nat.le_of_ble_eq_true rfl) (Nat.le_of_ble_eq_true rfl) (Nat.le_of_ble_eq_true rfl) (Nat.le_of_ble_eq_true rfl) hlocks
