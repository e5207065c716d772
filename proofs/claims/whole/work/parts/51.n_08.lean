noncomputable def f_X3_put (u : XS) (p0 : Int32) (p1 : Int32) (p2 : Int32) (p3 : Int32) : Int32 × Int32 × XS :=
  let v1 : Int32 := f_X1_opNamed p0;
  if (0 : Int32) ≤ v1 then
    if (f_X3_isBeyond ((x_pl u).toInt64)) = (0 : Int32) then
      let v4 : Int32 := ((jshl v1 (24 : Int32)) ||| (jshl (p1 &&& (255 : Int32)) (16 : Int32))) ||| (jshl (p2 &&& (255 : Int32)) (8 : Int32));
      let v5 : Int32 := v4 ||| (p3 &&& (255 : Int32));
      let u6 : XS := f_X0_store u ((x_pl u).toInt64) (4 : Int32) v5.toInt64;
      let u7 : XS := sx_pl u6 ((x_pl u6) + (4 : Int32));
      (0, v1, u7)
    else
      (2, 0, u)
  else
    (1, 0, u)
abbrev rm_X3_put : Room := { frames := 9, cells := 1, slots := 6, locals := 200 }
set_option maxRecDepth 20000 in
theorem iw_X3_put_X3 : ∀ w ∈ wsX30, w ∈ wsX3_put := by decide +kernel
theorem gaX3_put_34 : ∀ w ∈ (vy_at RX3 34).filter goodWord, w ∈ wsX3_put := fun w h => List.mem_cons_of_mem _ (List.mem_append_left _ (List.mem_append_right _ h))
theorem gaX3_put_45 : ∀ w ∈ (vx_atS RX3 45 "java/lang/IndexOutOfBoundsException" ["java/lang/RuntimeException", "java/lang/Exception"]).filter goodWord, w ∈ wsX3_put := fun w h => List.mem_cons_of_mem _ (List.mem_append_right _ h)
set_option maxHeartbeats 4000000 in
set_option maxRecDepth 100000 in
theorem c_X3_put (l : Launch) (hflag : l.stackTraces = false) (yy : Nat → ClassId) (a : Nat → Nat) (u : XS) (p0 : Int32) (p1 : Int32) (p2 : Int32) (p3 : Int32) : gxMi l yX3_put wsX3_put rm_X3_put eX (sT yy) (wX yy a) [.ref (a 0), .int p0, .int p1, .int p2, .int p3] u (f_X3_put u p0 p1 p2 p3) := by
  refine gx_ofW (Qc := gxQi (wX yy a) (f_X3_put u p0 p1 p2 p3)) (XC := gxX (wX yy a) (f_X3_put u p0 p1 p2 p3)) (by decide) rfl (Nat.le_of_ble_eq_true rfl) ?_
  intro G A p e s m args below meth c hx hb hr hml hts hown hlocks hout hK hE hA H locs hP hD hS ls hl
  obtain ⟨adK, adV, hES⟩ := hE.2.2.2.2.2
  have hl : lv_has ls 7 [(0, .ref (a 0)), (1, .int p0), (2, .int p1), (3, .int p2), (4, .int p3)] := hl
  refine lv_iload_n hx hb dX3_put_0 rfl (lv_at hl 1 rfl) ?_
  refine p_i (g_run (va_runSN (As := [.int p0]) (rest := []) ⟨hx, hb, hml, hown, hts⟩ (c_X1_opNamed l adK adV p0 ) ⟨va_cnB 1 hts gX3_put_X1_opNamed_n58 rfl rfl rfl (hE.1 (58, yX1_opNamed) (by decide +kernel)) (hts (.initialized RX1) (by decide +kernel)) (by decide +kernel) ⟨Nat.le_of_ble_eq_true rfl, Nat.le_of_ble_eq_true rfl⟩, (hts (.static yX1_opNamed) (by decide +kernel)), trivial⟩ (p_preG (eS_bl adK adV) hES hS) rfl rfl hl.1 rfl (lv_room (Nat.le_of_ble_eq_true rfl)) dX3_put_1 ⟨Nat.le_of_ble_eq_true rfl, Nat.le_of_ble_eq_true rfl⟩)) ?_
  refine lv_topi (fun v1 ev1 => ?_)
  refine lv_istore (lv' := [(5, .int v1), (0, .ref (a 0)), (1, .int p0), (2, .int p1), (3, .int p2), (4, .int p3)]) hx hb dX3_put_4 hl (by decide) rfl (fun ls hl => ?_)
  refine lv_iload hx hb dX3_put_6 (lv_at hl 0 rfl) ?_
  refine lv_if_ge (tgt := 21) hx hb dX3_put_8 (by decide) (fun c2 => ?_) (fun c2 => ?_)
  · refine lv_aload_n hx hb dX3_put_21 rfl (lv_at hl 1 rfl) ?_
    refine va_get (D := G) (ci := 1) (v := .int (x_pl u)) (C := RX3) (T := TX3) (N := 12) hx hb hts iw_X3_put_X3 hown hK hP 0 rfl rfl 6 (by decide) (hts (.fieldLink RX3 54 "MixBench" "place" "I") (by decide +kernel)) (fun _ h9 => h9) rfl dX3_put_22 ?_
    refine lv_i2l (v := (x_pl u).toInt64) hx hb dX3_put_25 rfl ?_
    refine p_i (W.runS (As := [.long ((x_pl u).toInt64)]) (rest := []) ⟨hx, hb, hml, hown, hts⟩ (c_X3_isBeyond l ((x_pl u).toInt64) ) (va_cwS 1 hts gX3_put_X3_isBeyond rfl rfl rfl (by decide +kernel) ⟨Nat.le_of_ble_eq_true rfl, Nat.le_of_ble_eq_true rfl⟩) p_preT rfl rfl hl.1 rfl (lv_room (Nat.le_of_ble_eq_true rfl)) dX3_put_26 ⟨Nat.le_of_ble_eq_true rfl, Nat.le_of_ble_eq_true rfl⟩) ?_
    refine lv_if_eq (tgt := 42) hx hb dX3_put_29 (by decide) (fun c3 => ?_) (fun c3 => ?_)
    · refine lv_iload hx hb dX3_put_42 (lv_at hl 0 rfl) ?_
      refine lv_bipush (v := 24) hx hb dX3_put_44 (by decide) ?_
      refine lv_ishl hx hb dX3_put_46 ?_
      refine lv_iload_n hx hb dX3_put_47 rfl (lv_at hl 3 rfl) ?_
      refine lv_sipush (v := 255) hx hb dX3_put_48 (by decide) ?_
      refine lv_iand hx hb dX3_put_51 ?_
      refine lv_bipush (v := 16) hx hb dX3_put_52 (by decide) ?_
      refine lv_ishl hx hb dX3_put_54 ?_
      refine lv_ior hx hb dX3_put_55 ?_
      refine lv_iload_n hx hb dX3_put_56 rfl (lv_at hl 4 rfl) ?_
      refine lv_sipush (v := 255) hx hb dX3_put_57 (by decide) ?_
      refine lv_iand hx hb dX3_put_60 ?_
      refine lv_bipush (v := 8) hx hb dX3_put_61 (by decide) ?_
      refine lv_ishl hx hb dX3_put_63 ?_
      refine lv_ior hx hb dX3_put_64 ?_
      refine lv_topi (fun v4 ev4 => ?_)
      refine lv_iload hx hb dX3_put_65 (lv_at hl 5 rfl) ?_
      refine lv_sipush (v := 255) hx hb dX3_put_67 (by decide) ?_
      refine lv_iand hx hb dX3_put_70 ?_
      refine lv_ior hx hb dX3_put_71 ?_
      refine lv_topi (fun v5 ev5 => ?_)
      refine lv_istore (lv' := [(6, .int v5), (5, .int v1), (0, .ref (a 0)), (1, .int p0), (2, .int p1), (3, .int p2), (4, .int p3)]) hx hb dX3_put_72 hl (by decide) rfl (fun ls hl => ?_)
      refine lv_aload_n hx hb dX3_put_74 rfl (lv_at hl 2 rfl) ?_
      refine va_get (D := G) (ci := 1) (v := .ref (a 5)) (C := RX3) (T := TX3) (N := 12) hx hb hts iw_X3_put_X3 hown hK hP 0 rfl rfl 4 (by decide) (hts (.fieldLink RX3 26 "MixBench" "memory" "LMixBench$Memory;") (by decide +kernel)) (fun _ h9 => h9) rfl dX3_put_75 ?_
      refine lv_aload_n hx hb dX3_put_78 rfl (lv_at hl 2 rfl) ?_
      refine va_get (D := G) (ci := 1) (v := .int (x_pl u)) (C := RX3) (T := TX3) (N := 12) hx hb hts iw_X3_put_X3 hown hK hP 0 rfl rfl 6 (by decide) (hts (.fieldLink RX3 54 "MixBench" "place" "I") (by decide +kernel)) (fun _ h9 => h9) rfl dX3_put_79 ?_
      refine lv_i2l (v := (x_pl u).toInt64) hx hb dX3_put_82 rfl ?_
      refine lv_iconst (v := 4) hx hb dX3_put_83 (by decide) ?_
      refine lv_iload hx hb dX3_put_84 (lv_at hl 0 rfl) ?_
      refine lv_i2l (v := v5.toInt64) hx hb dX3_put_86 rfl ?_
      refine g_v (va_runVN (As := [.long ((x_pl u).toInt64), .int (4 : Int32), .long v5.toInt64]) (rest := []) ⟨hx, hb, hml, hown, hts⟩ (c_X0_store l yy a u ((x_pl u).toInt64) (4 : Int32) v5.toInt64  G H.size) ⟨va_cnB 3 hts gX3_put_X0_store_n50 rfl rfl rfl (hE.1 (50, yX0_store) (by decide +kernel)) (hts (.initialized RX0) (by decide +kernel)) (by decide +kernel) ⟨Nat.le_of_ble_eq_true rfl, Nat.le_of_ble_eq_true rfl⟩, (hts (.instanceMethod yX0_store) (by decide +kernel)), (hts (.selects RX0 yX0_store yX0_store) (by decide +kernel))⟩ (g_preV eX_bl hK hE hP hD hS hA 5 rfl rfl) rfl rfl hl.1 rfl (lv_room (Nat.le_of_ble_eq_true rfl)) dX3_put_87 ⟨Nat.le_of_ble_eq_true rfl, Nat.le_of_ble_eq_true rfl⟩) hD hS hA (fun H locs hP hD hS => ?_)
      obtain ⟨u6, eu6⟩ : ∃ z, z = f_X0_store u ((x_pl u).toInt64) (4 : Int32) v5.toInt64 := ⟨_, rfl⟩
      have hP : va_P G vwCl (wX yy a u6) H := by rw [eu6]; exact hP
      have hD : va_D A (wX yy a u6) := by rw [eu6]; exact hD
      refine lv_aload_n hx hb dX3_put_90 rfl (lv_at hl 2 rfl) ?_
      refine lv_dup hx hb dX3_put_91 rfl ?_
      refine va_get (D := G) (ci := 1) (v := .int (x_pl u6)) (C := RX3) (T := TX3) (N := 12) hx hb hts iw_X3_put_X3 hown hK hP 0 rfl rfl 6 (by decide) (hts (.fieldLink RX3 54 "MixBench" "place" "I") (by decide +kernel)) (fun _ h9 => h9) rfl dX3_put_92 ?_
      refine lv_iconst (v := 4) hx hb dX3_put_95 (by decide) ?_
      refine lv_iadd hx hb dX3_put_96 ?_
      refine va_put (D := G) (ci := 1) (v := .int ((x_pl u6) + (4 : Int32))) (ty := .int) (C := RX3) (T := TX3) (N := 12) hx hb hts iw_X3_put_X3 tyX3 tyX3_ok nmX3 hown hK hP hD hS 0 rfl rfl 6 (by decide) (hts (.fieldLink RX3 54 "MixBench" "place" "I") (by decide +kernel)) (fun _ h9 => h9) rfl (by decide +kernel) rfl rfl (Nat.le_of_ble_eq_true rfl) dX3_put_97 (fun H locs hP hD hS => ?_)
      obtain ⟨u7, eu7⟩ : ∃ z, z = sx_pl u6 ((x_pl u6) + (4 : Int32)) := ⟨_, rfl⟩
      have hP : va_P G vwCl (wX yy a u7) H := by rw [eu7]; exact hP
      have hD : va_D A (wX yy a u7) := by rw [eu7]; exact hD
      refine lv_iload hx hb dX3_put_100 (lv_at hl 1 rfl) ?_
      exact gx_iret (by have eu7 := eu7.symm; subst eu7; have eu6 := eu6.symm; subst eu6; have ev5 := ev5.symm; subst ev5; have ev4 := ev4.symm; subst ev4; have ev1 := ev1.symm; subst ev1; exact (if_pos c2).trans ((if_pos c3).trans (rfl))) hx hb hr hP hD hS hlocks dX3_put_102
    · exact gx_throw (own := RX3) (cls := "java/lang/IndexOutOfBoundsException") (text := "the place is beyond the memory") (ik := 41) (is := 66) (ic := 45) (by have ev1 := ev1.symm; subst ev1; exact (if_pos c2).trans ((if_neg c3).trans (rfl))) (by decide) rfl hx hb hflag hown rfl (hts (.classLink RX3 41 "java/lang/IndexOutOfBoundsException") (by decide +kernel)) (hts (.initialized "java/lang/IndexOutOfBoundsException") (by decide +kernel)) (hE.2.1 (66, "the place is beyond the memory") (by decide)) (vx_hat (fun w h => hts w (gaX3_put_45 w h)) (by decide +kernel) (vx_c (va_Nw.use rfl (hE.2.2.1.1 "java/lang/IndexOutOfBoundsException" (by decide))) (vx_c (va_Nw.use rfl (hE.2.2.1.2 "java/lang/RuntimeException" (by decide))) (vx_c (va_Nw.use rfl (hE.2.2.1.2 "java/lang/Exception" (by decide))) (vx_c (va_Nw.use rfl (hE.2.2.1.2 "java/lang/Throwable" (by decide))) vx_n))))) (by decide +kernel) hE.2.2.2.1 hE.2.2.2.2.1 hP hD hS (hl.1.trans hml.symm) dX3_put_32 dX3_put_35 dX3_put_36 dX3_put_38 dX3_put_41 hout (Nat.le_of_ble_eq_true rfl) (Nat.le_of_ble_eq_true rfl) (Nat.le_of_ble_eq_true rfl) (Nat.le_of_ble_eq_true rfl) hlocks
  · exact gy_throw (own := RX3) (text := "no such name") (ik := 30) (is := 64) (ic := 34) (by have ev1 := ev1.symm; subst ev1; exact (if_neg c2).trans (rfl)) (by decide) rfl hx hb hflag hown rfl (hts (.classLink RX3 30 "java/util/NoSuchElementException") (by decide +kernel)) (hts (.initialized "java/util/NoSuchElementException") (by decide +kernel)) (hE.2.1 (64, "no such name") (by decide)) (vx_hat (fun w h => hts w (gaX3_put_34 w h)) (by decide +kernel) (vx_c (va_Nw.use rfl (hE.2.2.1.1 "java/util/NoSuchElementException" (by decide))) (vx_c (va_Nw.use rfl (hE.2.2.1.2 "java/lang/RuntimeException" (by decide))) (vx_c (va_Nw.use rfl (hE.2.2.1.2 "java/lang/Exception" (by decide))) (vx_c (va_Nw.use rfl (hE.2.2.1.2 "java/lang/Throwable" (by decide))) vx_n))))) (by decide +kernel) hE.2.2.2.1 hE.2.2.2.2.1 hP hD hS (hl.1.trans hml.symm) dX3_put_11 dX3_put_14 dX3_put_15 dX3_put_17 dX3_put_20 hout (Nat.le_of_ble_eq_true rfl) (Nat.le_of_ble_eq_true rfl) (Nat.le_of_ble_eq_true rfl) (Nat.le_of_ble_eq_true rfl) hlocks
