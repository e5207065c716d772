def f_X3_set (u : XS) (p0 : Int32) (p1 : Int64) : Int32 × Int64 × XS :=
  if p0 < (0 : Int32) then
    (1, 0, u)
  else
    if p0 < (256 : Int32) then
      let v3 : Int64 := x_g u p0.toNatClampNeg;
      let u4 : XS := sx_g u (vp_updL (x_g u) p0.toNatClampNeg p1);
      (0, v3, u4)
    else
      (1, 0, u)
abbrev rm_X3_set : Room := { frames := 6, cells := 1, slots := 6, locals := 90 }
set_option maxRecDepth 20000 in
theorem iw_X3_set_X3 : ∀ w ∈ wsX30, w ∈ wsX3_set := by decide +kernel
theorem gaX3_set_34 : ∀ w ∈ (vy_at RX3 34).filter goodWord, w ∈ wsX3_set := fun w h => List.mem_cons_of_mem _ (List.mem_append_right _ h)
set_option maxHeartbeats 4000000 in
set_option maxRecDepth 100000 in
theorem c_X3_set (l : Launch) (hflag : l.stackTraces = false) (yy : Nat → ClassId) (a : Nat → Nat) (u : XS) (p0 : Int32) (p1 : Int64) : gxMl l yX3_set wsX3_set rm_X3_set eX (sT yy) (wX yy a) [.ref (a 0), .int p0, .long p1] u (f_X3_set u p0 p1) := by
  refine gx_ofW (Qc := gxQl (wX yy a) (f_X3_set u p0 p1)) (XC := gxX (wX yy a) (f_X3_set u p0 p1)) (by decide) rfl (Nat.le_of_ble_eq_true rfl) ?_
  intro G A p e s m args below meth c hx hb hr hml hts hown hlocks hout hK hE hA H locs hP hD hS ls hl
  have hl : lv_has ls 6 [(0, .ref (a 0)), (1, .int p0), (2, .long p1)] := hl
  refine lv_iload_n hx hb dX3_set_0 rfl (lv_at hl 1 rfl) ?_
  refine lv_if_lt (tgt := 11) hx hb dX3_set_1 (by decide) (fun c1 => ?_) (fun c1 => ?_)
  · exact gy_throw (own := RX3) (text := "no such register") (ik := 30) (is := 32) (ic := 34) (by exact (if_pos c1).trans (rfl)) (by decide) rfl hx hb hflag hown rfl (hts (.classLink RX3 30 "java/util/NoSuchElementException") (by decide +kernel)) (hts (.initialized "java/util/NoSuchElementException") (by decide +kernel)) (hE.2.1 (32, "no such register") (by decide)) (vx_hat (fun w h => hts w (gaX3_set_34 w h)) (by decide +kernel) (vx_c (va_Nw.use rfl (hE.2.2.1.1 "java/util/NoSuchElementException" (by decide))) (vx_c (va_Nw.use rfl (hE.2.2.1.2 "java/lang/RuntimeException" (by decide))) (vx_c (va_Nw.use rfl (hE.2.2.1.2 "java/lang/Exception" (by decide))) (vx_c (va_Nw.use rfl (hE.2.2.1.2 "java/lang/Throwable" (by decide))) vx_n))))) (by decide +kernel) hE.2.2.2.1 hE.2.2.2.2.1 hP hD hS (hl.1.trans hml.symm) dX3_set_11 dX3_set_14 dX3_set_15 dX3_set_17 dX3_set_20 hout (Nat.le_of_ble_eq_true rfl) (Nat.le_of_ble_eq_true rfl) (Nat.le_of_ble_eq_true rfl) (Nat.le_of_ble_eq_true rfl) hlocks
  · refine lv_iload_n hx hb dX3_set_4 rfl (lv_at hl 1 rfl) ?_
    refine lv_sipush (v := 256) hx hb dX3_set_5 (by decide) ?_
    refine lv_icmp_lt (tgt := 21) hx hb dX3_set_8 (by decide) (fun c2 => ?_) (fun c2 => ?_)
    · refine lv_aload_n hx hb dX3_set_21 rfl (lv_at hl 0 rfl) ?_
      refine va_get (D := G) (ci := 1) (v := .ref (a 1)) (C := RX3) (T := TX3) (N := 12) hx hb hts iw_X3_set_X3 hown hK hP 0 rfl rfl 0 (by decide) (hts (.fieldLink RX3 9 "MixBench" "registers" "[J") (by decide +kernel)) (fun _ h9 => h9) rfl dX3_set_22 ?_
      refine lv_iload_n hx hb dX3_set_25 rfl (lv_at hl 1 rfl) ?_
      refine va_lald hx hb hK hP 1 0 rfl rfl (vp_lt c1 c2 rfl (by decide)) dX3_set_26 ?_
      refine lv_topl (fun v3 ev3 => ?_)
      refine lv_lstore (lv' := [(4, .long v3), (0, .ref (a 0)), (1, .int p0), (2, .long p1)]) hx hb dX3_set_27 hl (by decide) rfl (fun ls hl => ?_)
      refine lv_aload_n hx hb dX3_set_29 rfl (lv_at hl 1 rfl) ?_
      refine va_get (D := G) (ci := 1) (v := .ref (a 1)) (C := RX3) (T := TX3) (N := 12) hx hb hts iw_X3_set_X3 hown hK hP 0 rfl rfl 0 (by decide) (hts (.fieldLink RX3 9 "MixBench" "registers" "[J") (by decide +kernel)) (fun _ h9 => h9) rfl dX3_set_30 ?_
      refine lv_iload_n hx hb dX3_set_33 rfl (lv_at hl 2 rfl) ?_
      refine lv_lload_n hx hb dX3_set_34 rfl (lv_at hl 3 rfl) ?_
      refine va_last hx hb hK hP hD hS 1 0 rfl rfl (vp_lt c1 c2 rfl (by decide)) dX3_set_35 (fun H locs hP hD hS => ?_)
      obtain ⟨u4, eu4⟩ : ∃ z, z = sx_g u (vp_updL (x_g u) p0.toNatClampNeg p1) := ⟨_, rfl⟩
      have hP : va_P G vwCl (wX yy a u4) H := by rw [eu4]; exact hP
      have hD : va_D A (wX yy a u4) := by rw [eu4]; exact hD
      refine lv_lload hx hb dX3_set_36 (lv_at hl 0 rfl) ?_
      exact gx_lret (by have eu4 := eu4.symm; subst eu4; have ev3 := ev3.symm; subst ev3; exact (if_neg c1).trans ((if_pos c2).trans (rfl))) hx hb hr hP hD hS hlocks dX3_set_38
    · exact gy_throw (own := RX3) (text := "no such register") (ik := 30) (is := 32) (ic := 34) (by exact (if_neg c1).trans ((if_neg c2).trans (rfl))) (by decide) rfl hx hb hflag hown rfl (hts (.classLink RX3 30 "java/util/NoSuchElementException") (by decide +kernel)) (hts (.initialized "java/util/NoSuchElementException") (by decide +kernel)) (hE.2.1 (32, "no such register") (by decide)) (vx_hat (fun w h => hts w (gaX3_set_34 w h)) (by decide +kernel) (vx_c (va_Nw.use rfl (hE.2.2.1.1 "java/util/NoSuchElementException" (by decide))) (vx_c (va_Nw.use rfl (hE.2.2.1.2 "java/lang/RuntimeException" (by decide))) (vx_c (va_Nw.use rfl (hE.2.2.1.2 "java/lang/Exception" (by decide))) (vx_c (va_Nw.use rfl (hE.2.2.1.2 "java/lang/Throwable" (by decide))) vx_n))))) (by decide +kernel) hE.2.2.2.1 hE.2.2.2.2.1 hP hD hS (hl.1.trans hml.symm) dX3_set_11 dX3_set_14 dX3_set_15 dX3_set_17 dX3_set_20 hout (Nat.le_of_ble_eq_true rfl) (Nat.le_of_ble_eq_true rfl) (Nat.le_of_ble_eq_true rfl) (Nat.le_of_ble_eq_true rfl) hlocks
