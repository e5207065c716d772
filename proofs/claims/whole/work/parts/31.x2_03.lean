def f_X3_withWyde (u : XS) (p0 : Int32) : Int64 :=
  let v1 : Int32 := f_X3_opOf p0;
  let v2 : Int64 := x_g u (f_X3_byteX p0).toNatClampNeg;
  let v3 : Int64 := jlshl ((f_X3_wydeYZ p0).toInt64) ((48 : Int32) - ((16 : Int32) * (v1 &&& (3 : Int32))));
  if ((jshr v1 (2 : Int32)) &&& (3 : Int32)) = (0 : Int32) then
    v3
  else
    if ((jshr v1 (2 : Int32)) &&& (3 : Int32)) = (1 : Int32) then
      v2 + v3
    else
      if ((jshr v1 (2 : Int32)) &&& (3 : Int32)) = (2 : Int32) then
        v2 ||| v3
      else
        v2 &&& (v3 ^^^ (-1 : Int64))
abbrev rm_X3_withWyde : Room := { frames := 1, cells := 0, slots := 0, locals := 20 }
set_option maxRecDepth 20000 in
theorem iw_X3_withWyde_X3 : ∀ w ∈ wsX30, w ∈ wsX3_withWyde := by decide +kernel
set_option maxHeartbeats 4000000 in
set_option maxRecDepth 100000 in
theorem c_X3_withWyde (l : Launch) (yy : Nat → ClassId) (a : Nat → Nat) (u : XS) (p0 : Int32) : gMl l yX3_withWyde wsX3_withWyde rm_X3_withWyde eX (sT yy) (wX yy a) [.ref (a 0), .int p0] u ((f_X3_withWyde u p0, u)) := by
  refine gm_ofW (Qc := gQl (wX yy a) ((f_X3_withWyde u p0, u))) (by decide) rfl (Nat.le_of_ble_eq_true rfl) ?_
  intro G A p e s m args below meth c hx hb hr hml hts hown hlocks hK hE hA H locs hP hD hS ls hl
  have hl : lv_has ls 7 [(0, .ref (a 0)), (1, .int p0)] := hl
  refine lv_iload_n hx hb dX3_withWyde_0 rfl (lv_at hl 1 rfl) ?_
  refine p_i (W.runS (As := [.int p0]) (rest := []) ⟨hx, hb, hml, hown, hts⟩ (c_X3_opOf l p0 ) (va_cwS 1 hts gX3_withWyde_X3_opOf rfl rfl rfl (by decide +kernel) ⟨Nat.le_of_ble_eq_true rfl, Nat.le_of_ble_eq_true rfl⟩) p_preT rfl rfl hl.1 rfl (lv_room (Nat.le_of_ble_eq_true rfl)) dX3_withWyde_1 ⟨Nat.le_of_ble_eq_true rfl, Nat.le_of_ble_eq_true rfl⟩) ?_
  refine lv_topi (fun v1 ev1 => ?_)
  refine lv_istore_n (lv' := [(2, .int v1), (0, .ref (a 0)), (1, .int p0)]) hx hb dX3_withWyde_4 rfl hl (by decide) rfl (fun ls hl => ?_)
  refine lv_aload_n hx hb dX3_withWyde_5 rfl (lv_at hl 1 rfl) ?_
  refine va_get (D := G) (ci := 1) (v := .ref (a 1)) (C := RX3) (T := TX3) (N := 12) hx hb hts iw_X3_withWyde_X3 hown hK hP 0 rfl rfl 0 (by decide) (hts (.fieldLink RX3 9 "MixBench" "registers" "[J") (by decide +kernel)) (fun _ h9 => h9) rfl dX3_withWyde_6 ?_
  refine lv_iload_n hx hb dX3_withWyde_9 rfl (lv_at hl 2 rfl) ?_
  refine p_i (W.runS (As := [.int p0]) (rest := [.ref (a 1)]) ⟨hx, hb, hml, hown, hts⟩ (c_X3_byteX l p0 ) (va_cwS 1 hts gX3_withWyde_X3_byteX rfl rfl rfl (by decide +kernel) ⟨Nat.le_of_ble_eq_true rfl, Nat.le_of_ble_eq_true rfl⟩) p_preT rfl rfl hl.1 rfl (lv_room (Nat.le_of_ble_eq_true rfl)) dX3_withWyde_10 ⟨Nat.le_of_ble_eq_true rfl, Nat.le_of_ble_eq_true rfl⟩) ?_
  refine va_lald hx hb hK hP 1 0 rfl rfl (in_byteX _) dX3_withWyde_13 ?_
  refine lv_topl (fun v2 ev2 => ?_)
  refine lv_lstore_n (lv' := [(3, .long v2), (2, .int v1), (0, .ref (a 0)), (1, .int p0)]) hx hb dX3_withWyde_14 rfl hl (by decide) rfl (fun ls hl => ?_)
  refine lv_iload_n hx hb dX3_withWyde_15 rfl (lv_at hl 3 rfl) ?_
  refine p_i (W.runS (As := [.int p0]) (rest := []) ⟨hx, hb, hml, hown, hts⟩ (c_X3_wydeYZ l p0 ) (va_cwS 1 hts gX3_withWyde_X3_wydeYZ rfl rfl rfl (by decide +kernel) ⟨Nat.le_of_ble_eq_true rfl, Nat.le_of_ble_eq_true rfl⟩) p_preT rfl rfl hl.1 rfl (lv_room (Nat.le_of_ble_eq_true rfl)) dX3_withWyde_16 ⟨Nat.le_of_ble_eq_true rfl, Nat.le_of_ble_eq_true rfl⟩) ?_
  refine lv_i2l (v := (f_X3_wydeYZ p0).toInt64) hx hb dX3_withWyde_19 rfl ?_
  refine lv_bipush (v := 48) hx hb dX3_withWyde_20 (by decide) ?_
  refine lv_bipush (v := 16) hx hb dX3_withWyde_22 (by decide) ?_
  refine lv_iload_n hx hb dX3_withWyde_24 rfl (lv_at hl 1 rfl) ?_
  refine lv_iconst (v := 3) hx hb dX3_withWyde_25 (by decide) ?_
  refine lv_iand hx hb dX3_withWyde_26 ?_
  refine lv_imul hx hb dX3_withWyde_27 ?_
  refine lv_isub hx hb dX3_withWyde_28 ?_
  refine lv_lshl (v := jlshl ((f_X3_wydeYZ p0).toInt64) ((48 : Int32) - ((16 : Int32) * (v1 &&& (3 : Int32))))) hx hb dX3_withWyde_29 rfl ?_
  refine lv_topl (fun v3 ev3 => ?_)
  refine lv_lstore (lv' := [(5, .long v3), (3, .long v2), (2, .int v1), (0, .ref (a 0)), (1, .int p0)]) hx hb dX3_withWyde_30 hl (by decide) rfl (fun ls hl => ?_)
  refine lv_iload_n hx hb dX3_withWyde_32 rfl (lv_at hl 2 rfl) ?_
  refine lv_iconst (v := 2) hx hb dX3_withWyde_33 (by decide) ?_
  refine lv_ishr hx hb dX3_withWyde_34 ?_
  refine lv_iconst (v := 3) hx hb dX3_withWyde_35 (by decide) ?_
  refine lv_iand hx hb dX3_withWyde_36 ?_
  by_cases c4 : ((jshr v1 (2 : Int32)) &&& (3 : Int32)) = 0
  · refine sw_t hx hb 0 (k := 0) (tgt := 64) dX3_withWyde_37 c4 (by decide) rfl (by decide) ?_
    refine lv_lload hx hb dX3_withWyde_64 (lv_at hl 0 rfl) ?_
    exact g_lret (s_ro (by have ev3 := ev3.symm; subst ev3; have ev2 := ev2.symm; subst ev2; have ev1 := ev1.symm; subst ev1; exact (if_pos c4).trans (rfl))) hx hb hr hP hD hS hlocks dX3_withWyde_66
  by_cases c5 : ((jshr v1 (2 : Int32)) &&& (3 : Int32)) = 1
  · refine sw_t hx hb 1 (k := 1) (tgt := 67) dX3_withWyde_37 c5 (by decide) rfl (by decide) ?_
    refine lv_lload_n hx hb dX3_withWyde_67 rfl (lv_at hl 1 rfl) ?_
    refine lv_lload hx hb dX3_withWyde_68 (lv_at hl 0 rfl) ?_
    refine lv_ladd hx hb dX3_withWyde_70 ?_
    exact g_lret (s_ro (by have ev3 := ev3.symm; subst ev3; have ev2 := ev2.symm; subst ev2; have ev1 := ev1.symm; subst ev1; exact (if_neg c4).trans ((if_pos c5).trans (rfl)))) hx hb hr hP hD hS hlocks dX3_withWyde_71
  by_cases c6 : ((jshr v1 (2 : Int32)) &&& (3 : Int32)) = 2
  · refine sw_t hx hb 2 (k := 2) (tgt := 72) dX3_withWyde_37 c6 (by decide) rfl (by decide) ?_
    refine lv_lload_n hx hb dX3_withWyde_72 rfl (lv_at hl 1 rfl) ?_
    refine lv_lload hx hb dX3_withWyde_73 (lv_at hl 0 rfl) ?_
    refine lv_lor hx hb dX3_withWyde_75 ?_
    exact g_lret (s_ro (by have ev3 := ev3.symm; subst ev3; have ev2 := ev2.symm; subst ev2; have ev1 := ev1.symm; subst ev1; exact (if_neg c4).trans ((if_neg c5).trans ((if_pos c6).trans (rfl))))) hx hb hr hP hD hS hlocks dX3_withWyde_76
  refine sw_td hx hb [0, 1, 2] (tgt := 77) dX3_withWyde_37 (List.forall_mem_cons.mpr ⟨c4, (List.forall_mem_cons.mpr ⟨c5, (List.forall_mem_cons.mpr ⟨c6, (fun _ h => absurd h List.not_mem_nil)⟩)⟩)⟩) (by decide) (by decide) (by decide) ?_
  refine lv_lload_n hx hb dX3_withWyde_77 rfl (lv_at hl 1 rfl) ?_
  refine lv_lload hx hb dX3_withWyde_78 (lv_at hl 0 rfl) ?_
  refine lv_ldc2 hx hb hown (hts (.constantLong RX3 104 (-1)) (by decide +kernel)) dX3_withWyde_80 ?_
  refine lv_lxor hx hb dX3_withWyde_83 ?_
  refine lv_land hx hb dX3_withWyde_84 ?_
  exact g_lret (s_ro (by have ev3 := ev3.symm; subst ev3; have ev2 := ev2.symm; subst ev2; have ev1 := ev1.symm; subst ev1; exact (if_neg c4).trans ((if_neg c5).trans ((if_neg c6).trans (rfl))))) hx hb hr hP hD hS hlocks dX3_withWyde_85
