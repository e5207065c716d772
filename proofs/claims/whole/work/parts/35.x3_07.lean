def f_X3_spend (u : XS) (p0 : Int32) : Int32 × Int64 × XS :=
  if p0 < (-1000 : Int32) then
    (3, 0, u)
  else
    if p0 ≤ (1000 : Int32) then
      let u3 : XS := sx_oo u ((x_oo u) + p0.toInt64);
      (0, x_oo u3, u3)
    else
      (3, 0, u)
abbrev rm_X3_spend : Room := { frames := 6, cells := 1, slots := 6, locals := 90 }
set_option maxRecDepth 20000 in
theorem iw_X3_spend_X3 : ∀ w ∈ wsX30, w ∈ wsX3_spend := by decide +kernel
theorem gaX3_spend_72 : ∀ w ∈ (vx_atS RX3 72 "java/lang/IllegalArgumentException" ["java/lang/RuntimeException", "java/lang/Exception"]).filter goodWord, w ∈ wsX3_spend := fun w h => List.mem_cons_of_mem _ (List.mem_append_right _ h)
set_option maxHeartbeats 4000000 in
set_option maxRecDepth 100000 in
theorem c_X3_spend (l : Launch) (hflag : l.stackTraces = false) (yy : Nat → ClassId) (a : Nat → Nat) (u : XS) (p0 : Int32) : gxMl l yX3_spend wsX3_spend rm_X3_spend eX (sT yy) (wX yy a) [.ref (a 0), .int p0] u (f_X3_spend u p0) := by
  refine gx_ofW (Qc := gxQl (wX yy a) (f_X3_spend u p0)) (XC := gxX (wX yy a) (f_X3_spend u p0)) (by decide) rfl (Nat.le_of_ble_eq_true rfl) ?_
  intro G A p e s m args below meth c hx hb hr hml hts hown hlocks hout hK hE hA H locs hP hD hS ls hl
  have hl : lv_has ls 2 [(0, .ref (a 0)), (1, .int p0)] := hl
  refine lv_iload_n hx hb dX3_spend_0 rfl (lv_at hl 1 rfl) ?_
  refine lv_sipush (v := (-1000)) hx hb dX3_spend_1 (by decide) ?_
  refine lv_icmp_lt (tgt := 14) hx hb dX3_spend_4 (by decide) (fun c1 => ?_) (fun c1 => ?_)
  · exact gx_throw (own := RX3) (cls := "java/lang/IllegalArgumentException") (text := "not -1000 to 1000 oops") (ik := 68) (is := 85) (ic := 72) (by exact (if_pos c1).trans (rfl)) (by decide) rfl hx hb hflag hown rfl (hts (.classLink RX3 68 "java/lang/IllegalArgumentException") (by decide +kernel)) (hts (.initialized "java/lang/IllegalArgumentException") (by decide +kernel)) (hE.2.1 (85, "not -1000 to 1000 oops") (by decide)) (vx_hat (fun w h => hts w (gaX3_spend_72 w h)) (by decide +kernel) (vx_c (va_Nw.use rfl (hE.2.2.1.1 "java/lang/IllegalArgumentException" (by decide))) (vx_c (va_Nw.use rfl (hE.2.2.1.2 "java/lang/RuntimeException" (by decide))) (vx_c (va_Nw.use rfl (hE.2.2.1.2 "java/lang/Exception" (by decide))) (vx_c (va_Nw.use rfl (hE.2.2.1.2 "java/lang/Throwable" (by decide))) vx_n))))) (by decide +kernel) hE.2.2.2.1 hE.2.2.2.2.1 hP hD hS (hl.1.trans hml.symm) dX3_spend_14 dX3_spend_17 dX3_spend_18 dX3_spend_20 dX3_spend_23 hout (Nat.le_of_ble_eq_true rfl) (Nat.le_of_ble_eq_true rfl) (Nat.le_of_ble_eq_true rfl) (Nat.le_of_ble_eq_true rfl) hlocks
  · refine lv_iload_n hx hb dX3_spend_7 rfl (lv_at hl 1 rfl) ?_
    refine lv_sipush (v := 1000) hx hb dX3_spend_8 (by decide) ?_
    refine lv_icmp_le (tgt := 24) hx hb dX3_spend_11 (by decide) (fun c2 => ?_) (fun c2 => ?_)
    · refine lv_aload_n hx hb dX3_spend_24 rfl (lv_at hl 0 rfl) ?_
      refine lv_dup hx hb dX3_spend_25 rfl ?_
      refine va_get (D := G) (ci := 1) (v := .long (x_oo u)) (C := RX3) (T := TX3) (N := 12) hx hb hts iw_X3_spend_X3 hown hK hP 0 rfl rfl 8 (by decide) (hts (.fieldLink RX3 87 "MixBench" "oops" "J") (by decide +kernel)) (fun _ h9 => h9) rfl dX3_spend_26 ?_
      refine lv_iload_n hx hb dX3_spend_29 rfl (lv_at hl 1 rfl) ?_
      refine lv_i2l (v := p0.toInt64) hx hb dX3_spend_30 rfl ?_
      refine lv_ladd hx hb dX3_spend_31 ?_
      refine va_put (D := G) (ci := 1) (v := .long ((x_oo u) + p0.toInt64)) (ty := .long) (C := RX3) (T := TX3) (N := 12) hx hb hts iw_X3_spend_X3 tyX3 tyX3_ok nmX3 hown hK hP hD hS 0 rfl rfl 8 (by decide) (hts (.fieldLink RX3 87 "MixBench" "oops" "J") (by decide +kernel)) (fun _ h9 => h9) rfl (by decide +kernel) rfl rfl (Nat.le_of_ble_eq_true rfl) dX3_spend_32 (fun H locs hP hD hS => ?_)
      obtain ⟨u3, eu3⟩ : ∃ z, z = sx_oo u ((x_oo u) + p0.toInt64) := ⟨_, rfl⟩
      have hP : va_P G vwCl (wX yy a u3) H := by rw [eu3]; exact hP
      have hD : va_D A (wX yy a u3) := by rw [eu3]; exact hD
      refine lv_aload_n hx hb dX3_spend_35 rfl (lv_at hl 0 rfl) ?_
      refine va_get (D := G) (ci := 1) (v := .long (x_oo u3)) (C := RX3) (T := TX3) (N := 12) hx hb hts iw_X3_spend_X3 hown hK hP 0 rfl rfl 8 (by decide) (hts (.fieldLink RX3 87 "MixBench" "oops" "J") (by decide +kernel)) (fun _ h9 => h9) rfl dX3_spend_36 ?_
      exact gx_lret (by have eu3 := eu3.symm; subst eu3; exact (if_neg c1).trans ((if_pos c2).trans (rfl))) hx hb hr hP hD hS hlocks dX3_spend_39
    · exact gx_throw (own := RX3) (cls := "java/lang/IllegalArgumentException") (text := "not -1000 to 1000 oops") (ik := 68) (is := 85) (ic := 72) (by exact (if_neg c1).trans ((if_neg c2).trans (rfl))) (by decide) rfl hx hb hflag hown rfl (hts (.classLink RX3 68 "java/lang/IllegalArgumentException") (by decide +kernel)) (hts (.initialized "java/lang/IllegalArgumentException") (by decide +kernel)) (hE.2.1 (85, "not -1000 to 1000 oops") (by decide)) (vx_hat (fun w h => hts w (gaX3_spend_72 w h)) (by decide +kernel) (vx_c (va_Nw.use rfl (hE.2.2.1.1 "java/lang/IllegalArgumentException" (by decide))) (vx_c (va_Nw.use rfl (hE.2.2.1.2 "java/lang/RuntimeException" (by decide))) (vx_c (va_Nw.use rfl (hE.2.2.1.2 "java/lang/Exception" (by decide))) (vx_c (va_Nw.use rfl (hE.2.2.1.2 "java/lang/Throwable" (by decide))) vx_n))))) (by decide +kernel) hE.2.2.2.1 hE.2.2.2.2.1 hP hD hS (hl.1.trans hml.symm) dX3_spend_14 dX3_spend_17 dX3_spend_18 dX3_spend_20 dX3_spend_23 hout (Nat.le_of_ble_eq_true rfl) (Nat.le_of_ble_eq_true rfl) (Nat.le_of_ble_eq_true rfl) (Nat.le_of_ble_eq_true rfl) hlocks
