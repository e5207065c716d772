def f_X3_performRest (u : XS) (p0 : Int32) (p1 : Int64) (p2 : Int64) : XS :=
  let v1 : Int32 := p0 &&& (16777215 : Int32);
  if (f_X3_opOf p0) = (240 : Int32) then
    let u3 : XS := sx_pc u (p2 + ((4 : Int64) * v1.toInt64));
    u3
  else
    if (f_X3_opOf p0) = (241 : Int32) then
      let v5 : Int64 := p2 + ((4 : Int64) * ((v1 - (16777216 : Int32)).toInt64));
      let u6 : XS := sx_pc u v5;
      u6
    else
      if (f_X3_opOf p0) = (244 : Int32) then
        let u8 : XS := f_X3_writeX u p0 (f_X3_relative p0 p2);
        u8
      else
        if (f_X3_opOf p0) = (245 : Int32) then
          let u10 : XS := f_X3_writeX u p0 (f_X3_relative p0 p2);
          u10
        else
          if (f_X3_opOf p0) = (246 : Int32) then
            let u12 : XS := sx_sp u (vp_updL (x_sp u) ((f_X3_byteX p0) &&& (7 : Int32)).toNatClampNeg p1);
            u12
          else
            if (f_X3_opOf p0) = (247 : Int32) then
              let u14 : XS := sx_sp u (vp_updL (x_sp u) ((f_X3_byteX p0) &&& (7 : Int32)).toNatClampNeg p1);
              u14
            else
              if (f_X3_opOf p0) = (254 : Int32) then
                let u16 : XS := f_X3_writeX u p0 (x_sp u ((f_X3_byteZ p0) &&& (7 : Int32)).toNatClampNeg);
                u16
              else
                u
abbrev rm_X3_performRest : Room := { frames := 2, cells := 0, slots := 0, locals := 44 }
set_option maxRecDepth 20000 in
theorem iw_X3_performRest_X3 : ∀ w ∈ wsX30, w ∈ wsX3_performRest := by decide +kernel
set_option maxHeartbeats 4000000 in
set_option maxRecDepth 100000 in
theorem c_X3_performRest (l : Launch) (yy : Nat → ClassId) (a : Nat → Nat) (u : XS) (p0 : Int32) (p1 : Int64) (p2 : Int64) : gMv l yX3_performRest wsX3_performRest rm_X3_performRest eX (sT yy) (wX yy a) [.ref (a 0), .int p0, .long p1, .long p2] u (f_X3_performRest u p0 p1 p2) := by
  refine gm_ofW (Qc := gQv (wX yy a) (f_X3_performRest u p0 p1 p2)) (by decide) rfl (Nat.le_of_ble_eq_true rfl) ?_
  intro G A p e s m args below meth c hx hb hr hml hts hown hlocks hK hE hA H locs hP hD hS ls hl
  have hl : lv_has ls 7 [(0, .ref (a 0)), (1, .int p0), (2, .long p1), (4, .long p2)] := hl
  refine lv_iload_n hx hb dX3_performRest_0 rfl (lv_at hl 1 rfl) ?_
  refine lv_ldcw hx hb hown (hts (.constant RX3 289 (16777215)) (by decide +kernel)) dX3_performRest_1 ?_
  refine lv_iand hx hb dX3_performRest_4 ?_
  refine lv_topi (fun v1 ev1 => ?_)
  refine lv_istore (lv' := [(6, .int v1), (0, .ref (a 0)), (1, .int p0), (2, .long p1), (4, .long p2)]) hx hb dX3_performRest_5 hl (by decide) rfl (fun ls hl => ?_)
  refine lv_iload_n hx hb dX3_performRest_7 rfl (lv_at hl 2 rfl) ?_
  refine p_i (W.runS (As := [.int p0]) (rest := []) ⟨hx, hb, hml, hown, hts⟩ (c_X3_opOf l p0 ) (va_cwS 1 hts gX3_performRest_X3_opOf rfl rfl rfl (by decide +kernel) ⟨Nat.le_of_ble_eq_true rfl, Nat.le_of_ble_eq_true rfl⟩) p_preT rfl rfl hl.1 rfl (lv_room (Nat.le_of_ble_eq_true rfl)) dX3_performRest_8 ⟨Nat.le_of_ble_eq_true rfl, Nat.le_of_ble_eq_true rfl⟩) ?_
  by_cases c2 : (f_X3_opOf p0) = 240
  · refine sw_t hx hb 0 (k := 240) (tgt := 84) dX3_performRest_11 c2 (by decide) rfl (by decide) ?_
    refine lv_aload_n hx hb dX3_performRest_84 rfl (lv_at hl 1 rfl) ?_
    refine lv_lload hx hb dX3_performRest_85 (lv_at hl 4 rfl) ?_
    refine lv_ldc2 hx hb hown (hts (.constantLong RX3 152 (4)) (by decide +kernel)) dX3_performRest_87 ?_
    refine lv_iload hx hb dX3_performRest_90 (lv_at hl 0 rfl) ?_
    refine lv_i2l (v := v1.toInt64) hx hb dX3_performRest_92 rfl ?_
    refine lv_lmul hx hb dX3_performRest_93 ?_
    refine lv_ladd hx hb dX3_performRest_94 ?_
    refine va_put (D := G) (ci := 1) (v := .long (p2 + ((4 : Int64) * v1.toInt64))) (ty := .long) (C := RX3) (T := TX3) (N := 12) hx hb hts iw_X3_performRest_X3 tyX3 tyX3_ok nmX3 hown hK hP hD hS 0 rfl rfl 7 (by decide) (hts (.fieldLink RX3 73 "MixBench" "pc" "J") (by decide +kernel)) (fun _ h9 => h9) rfl (by decide +kernel) rfl rfl (Nat.le_of_ble_eq_true rfl) dX3_performRest_95 (fun H locs hP hD hS => ?_)
    obtain ⟨u3, eu3⟩ : ∃ z, z = sx_pc u (p2 + ((4 : Int64) * v1.toInt64)) := ⟨_, rfl⟩
    have hP : va_P G vwCl (wX yy a u3) H := by rw [eu3]; exact hP
    have hD : va_D A (wX yy a u3) := by rw [eu3]; exact hD
    refine lv_goto (tgt := 172) hx hb dX3_performRest_98 (by decide) ?_
    exact g_vret (by have eu3 := eu3.symm; subst eu3; have ev1 := ev1.symm; subst ev1; exact (if_pos c2).trans (rfl)) hx hb hr hP hD hS hlocks dX3_performRest_172
  by_cases c4 : (f_X3_opOf p0) = 241
  · refine sw_t hx hb 1 (k := 241) (tgt := 101) dX3_performRest_11 c4 (by decide) rfl (by decide) ?_
    refine lv_aload_n hx hb dX3_performRest_101 rfl (lv_at hl 1 rfl) ?_
    refine lv_lload hx hb dX3_performRest_102 (lv_at hl 4 rfl) ?_
    refine lv_ldc2 hx hb hown (hts (.constantLong RX3 152 (4)) (by decide +kernel)) dX3_performRest_104 ?_
    refine lv_iload hx hb dX3_performRest_107 (lv_at hl 0 rfl) ?_
    refine lv_ldcw hx hb hown (hts (.constant RX3 290 (16777216)) (by decide +kernel)) dX3_performRest_109 ?_
    refine lv_isub hx hb dX3_performRest_112 ?_
    refine lv_i2l (v := (v1 - (16777216 : Int32)).toInt64) hx hb dX3_performRest_113 rfl ?_
    refine lv_lmul hx hb dX3_performRest_114 ?_
    refine lv_ladd hx hb dX3_performRest_115 ?_
    refine lv_topl (fun v5 ev5 => ?_)
    refine va_put (D := G) (ci := 1) (v := .long v5) (ty := .long) (C := RX3) (T := TX3) (N := 12) hx hb hts iw_X3_performRest_X3 tyX3 tyX3_ok nmX3 hown hK hP hD hS 0 rfl rfl 7 (by decide) (hts (.fieldLink RX3 73 "MixBench" "pc" "J") (by decide +kernel)) (fun _ h9 => h9) rfl (by decide +kernel) rfl rfl (Nat.le_of_ble_eq_true rfl) dX3_performRest_116 (fun H locs hP hD hS => ?_)
    obtain ⟨u6, eu6⟩ : ∃ z, z = sx_pc u v5 := ⟨_, rfl⟩
    have hP : va_P G vwCl (wX yy a u6) H := by rw [eu6]; exact hP
    have hD : va_D A (wX yy a u6) := by rw [eu6]; exact hD
    refine lv_goto (tgt := 172) hx hb dX3_performRest_119 (by decide) ?_
    exact g_vret (by have eu6 := eu6.symm; subst eu6; have ev5 := ev5.symm; subst ev5; have ev1 := ev1.symm; subst ev1; exact (if_neg c2).trans ((if_pos c4).trans (rfl))) hx hb hr hP hD hS hlocks dX3_performRest_172
  by_cases c7 : (f_X3_opOf p0) = 244
  · refine sw_t hx hb 4 (k := 244) (tgt := 122) dX3_performRest_11 c7 (by decide) rfl (by decide) ?_
    refine lv_aload_n hx hb dX3_performRest_122 rfl (lv_at hl 1 rfl) ?_
    refine lv_iload_n hx hb dX3_performRest_123 rfl (lv_at hl 2 rfl) ?_
    refine lv_iload_n hx hb dX3_performRest_124 rfl (lv_at hl 2 rfl) ?_
    refine lv_lload hx hb dX3_performRest_125 (lv_at hl 4 rfl) ?_
    refine p_l (W.runS (As := [.int p0, .long p2]) (rest := [.int p0, .ref (a 0)]) ⟨hx, hb, hml, hown, hts⟩ (c_X3_relative l p0 p2 ) (va_cwS 2 hts gX3_performRest_X3_relative rfl rfl rfl (by decide +kernel) ⟨Nat.le_of_ble_eq_true rfl, Nat.le_of_ble_eq_true rfl⟩) p_preT rfl rfl hl.1 rfl (lv_room (Nat.le_of_ble_eq_true rfl)) dX3_performRest_127 ⟨Nat.le_of_ble_eq_true rfl, Nat.le_of_ble_eq_true rfl⟩) ?_
    refine g_v (va_runV (As := [.int p0, .long (f_X3_relative p0 p2)]) (rest := []) ⟨hx, hb, hml, hown, hts⟩ (c_X3_writeX l yy a u p0 (f_X3_relative p0 p2)  G H.size) (cwV 2 hts gX3_performRest_X3_writeX rfl rfl rfl (by decide +kernel) ⟨Nat.le_of_ble_eq_true rfl, Nat.le_of_ble_eq_true rfl⟩) (g_preV eX_bl hK hE hP hD hS hA 0 rfl rfl) rfl rfl hl.1 rfl (lv_room (Nat.le_of_ble_eq_true rfl)) dX3_performRest_130 ⟨Nat.le_of_ble_eq_true rfl, Nat.le_of_ble_eq_true rfl⟩) hD hS hA (fun H locs hP hD hS => ?_)
    obtain ⟨u8, eu8⟩ : ∃ z, z = f_X3_writeX u p0 (f_X3_relative p0 p2) := ⟨_, rfl⟩
    have hP : va_P G vwCl (wX yy a u8) H := by rw [eu8]; exact hP
    have hD : va_D A (wX yy a u8) := by rw [eu8]; exact hD
    refine lv_goto (tgt := 172) hx hb dX3_performRest_133 (by decide) ?_
    exact g_vret (by have eu8 := eu8.symm; subst eu8; have ev1 := ev1.symm; subst ev1; exact (if_neg c2).trans ((if_neg c4).trans ((if_pos c7).trans (rfl)))) hx hb hr hP hD hS hlocks dX3_performRest_172
  by_cases c9 : (f_X3_opOf p0) = 245
  · refine sw_t hx hb 5 (k := 245) (tgt := 122) dX3_performRest_11 c9 (by decide) rfl (by decide) ?_
    refine lv_aload_n hx hb dX3_performRest_122 rfl (lv_at hl 1 rfl) ?_
    refine lv_iload_n hx hb dX3_performRest_123 rfl (lv_at hl 2 rfl) ?_
    refine lv_iload_n hx hb dX3_performRest_124 rfl (lv_at hl 2 rfl) ?_
    refine lv_lload hx hb dX3_performRest_125 (lv_at hl 4 rfl) ?_
    refine p_l (W.runS (As := [.int p0, .long p2]) (rest := [.int p0, .ref (a 0)]) ⟨hx, hb, hml, hown, hts⟩ (c_X3_relative l p0 p2 ) (va_cwS 2 hts gX3_performRest_X3_relative rfl rfl rfl (by decide +kernel) ⟨Nat.le_of_ble_eq_true rfl, Nat.le_of_ble_eq_true rfl⟩) p_preT rfl rfl hl.1 rfl (lv_room (Nat.le_of_ble_eq_true rfl)) dX3_performRest_127 ⟨Nat.le_of_ble_eq_true rfl, Nat.le_of_ble_eq_true rfl⟩) ?_
    refine g_v (va_runV (As := [.int p0, .long (f_X3_relative p0 p2)]) (rest := []) ⟨hx, hb, hml, hown, hts⟩ (c_X3_writeX l yy a u p0 (f_X3_relative p0 p2)  G H.size) (cwV 2 hts gX3_performRest_X3_writeX rfl rfl rfl (by decide +kernel) ⟨Nat.le_of_ble_eq_true rfl, Nat.le_of_ble_eq_true rfl⟩) (g_preV eX_bl hK hE hP hD hS hA 0 rfl rfl) rfl rfl hl.1 rfl (lv_room (Nat.le_of_ble_eq_true rfl)) dX3_performRest_130 ⟨Nat.le_of_ble_eq_true rfl, Nat.le_of_ble_eq_true rfl⟩) hD hS hA (fun H locs hP hD hS => ?_)
    obtain ⟨u10, eu10⟩ : ∃ z, z = f_X3_writeX u p0 (f_X3_relative p0 p2) := ⟨_, rfl⟩
    have hP : va_P G vwCl (wX yy a u10) H := by rw [eu10]; exact hP
    have hD : va_D A (wX yy a u10) := by rw [eu10]; exact hD
    refine lv_goto (tgt := 172) hx hb dX3_performRest_133 (by decide) ?_
    exact g_vret (by have eu10 := eu10.symm; subst eu10; have ev1 := ev1.symm; subst ev1; exact (if_neg c2).trans ((if_neg c4).trans ((if_neg c7).trans ((if_pos c9).trans (rfl))))) hx hb hr hP hD hS hlocks dX3_performRest_172
  by_cases c11 : (f_X3_opOf p0) = 246
  · refine sw_t hx hb 6 (k := 246) (tgt := 136) dX3_performRest_11 c11 (by decide) rfl (by decide) ?_
    refine lv_aload_n hx hb dX3_performRest_136 rfl (lv_at hl 1 rfl) ?_
    refine va_get (D := G) (ci := 1) (v := .ref (a 2)) (C := RX3) (T := TX3) (N := 12) hx hb hts iw_X3_performRest_X3 hown hK hP 0 rfl rfl 1 (by decide) (hts (.fieldLink RX3 13 "MixBench" "specials" "[J") (by decide +kernel)) (fun _ h9 => h9) rfl dX3_performRest_137 ?_
    refine lv_iload_n hx hb dX3_performRest_140 rfl (lv_at hl 2 rfl) ?_
    refine p_i (W.runS (As := [.int p0]) (rest := [.ref (a 2)]) ⟨hx, hb, hml, hown, hts⟩ (c_X3_byteX l p0 ) (va_cwS 1 hts gX3_performRest_X3_byteX rfl rfl rfl (by decide +kernel) ⟨Nat.le_of_ble_eq_true rfl, Nat.le_of_ble_eq_true rfl⟩) p_preT rfl rfl hl.1 rfl (lv_room (Nat.le_of_ble_eq_true rfl)) dX3_performRest_141 ⟨Nat.le_of_ble_eq_true rfl, Nat.le_of_ble_eq_true rfl⟩) ?_
    refine lv_bipush (v := 7) hx hb dX3_performRest_144 (by decide) ?_
    refine lv_iand hx hb dX3_performRest_146 ?_
    refine lv_lload_n hx hb dX3_performRest_147 rfl (lv_at hl 3 rfl) ?_
    refine va_last hx hb hK hP hD hS 2 0 rfl rfl (in_and7 _) dX3_performRest_148 (fun H locs hP hD hS => ?_)
    obtain ⟨u12, eu12⟩ : ∃ z, z = sx_sp u (vp_updL (x_sp u) ((f_X3_byteX p0) &&& (7 : Int32)).toNatClampNeg p1) := ⟨_, rfl⟩
    have hP : va_P G vwCl (wX yy a u12) H := by rw [eu12]; exact hP
    have hD : va_D A (wX yy a u12) := by rw [eu12]; exact hD
    refine lv_goto (tgt := 172) hx hb dX3_performRest_149 (by decide) ?_
    exact g_vret (by have eu12 := eu12.symm; subst eu12; have ev1 := ev1.symm; subst ev1; exact (if_neg c2).trans ((if_neg c4).trans ((if_neg c7).trans ((if_neg c9).trans ((if_pos c11).trans (rfl)))))) hx hb hr hP hD hS hlocks dX3_performRest_172
  by_cases c13 : (f_X3_opOf p0) = 247
  · refine sw_t hx hb 7 (k := 247) (tgt := 136) dX3_performRest_11 c13 (by decide) rfl (by decide) ?_
    refine lv_aload_n hx hb dX3_performRest_136 rfl (lv_at hl 1 rfl) ?_
    refine va_get (D := G) (ci := 1) (v := .ref (a 2)) (C := RX3) (T := TX3) (N := 12) hx hb hts iw_X3_performRest_X3 hown hK hP 0 rfl rfl 1 (by decide) (hts (.fieldLink RX3 13 "MixBench" "specials" "[J") (by decide +kernel)) (fun _ h9 => h9) rfl dX3_performRest_137 ?_
    refine lv_iload_n hx hb dX3_performRest_140 rfl (lv_at hl 2 rfl) ?_
    refine p_i (W.runS (As := [.int p0]) (rest := [.ref (a 2)]) ⟨hx, hb, hml, hown, hts⟩ (c_X3_byteX l p0 ) (va_cwS 1 hts gX3_performRest_X3_byteX rfl rfl rfl (by decide +kernel) ⟨Nat.le_of_ble_eq_true rfl, Nat.le_of_ble_eq_true rfl⟩) p_preT rfl rfl hl.1 rfl (lv_room (Nat.le_of_ble_eq_true rfl)) dX3_performRest_141 ⟨Nat.le_of_ble_eq_true rfl, Nat.le_of_ble_eq_true rfl⟩) ?_
    refine lv_bipush (v := 7) hx hb dX3_performRest_144 (by decide) ?_
    refine lv_iand hx hb dX3_performRest_146 ?_
    refine lv_lload_n hx hb dX3_performRest_147 rfl (lv_at hl 3 rfl) ?_
    refine va_last hx hb hK hP hD hS 2 0 rfl rfl (in_and7 _) dX3_performRest_148 (fun H locs hP hD hS => ?_)
    obtain ⟨u14, eu14⟩ : ∃ z, z = sx_sp u (vp_updL (x_sp u) ((f_X3_byteX p0) &&& (7 : Int32)).toNatClampNeg p1) := ⟨_, rfl⟩
    have hP : va_P G vwCl (wX yy a u14) H := by rw [eu14]; exact hP
    have hD : va_D A (wX yy a u14) := by rw [eu14]; exact hD
    refine lv_goto (tgt := 172) hx hb dX3_performRest_149 (by decide) ?_
    exact g_vret (by have eu14 := eu14.symm; subst eu14; have ev1 := ev1.symm; subst ev1; exact (if_neg c2).trans ((if_neg c4).trans ((if_neg c7).trans ((if_neg c9).trans ((if_neg c11).trans ((if_pos c13).trans (rfl))))))) hx hb hr hP hD hS hlocks dX3_performRest_172
  by_cases c15 : (f_X3_opOf p0) = 254
  · refine sw_t hx hb 14 (k := 254) (tgt := 152) dX3_performRest_11 c15 (by decide) rfl (by decide) ?_
    refine lv_aload_n hx hb dX3_performRest_152 rfl (lv_at hl 1 rfl) ?_
    refine lv_iload_n hx hb dX3_performRest_153 rfl (lv_at hl 2 rfl) ?_
    refine lv_aload_n hx hb dX3_performRest_154 rfl (lv_at hl 1 rfl) ?_
    refine va_get (D := G) (ci := 1) (v := .ref (a 2)) (C := RX3) (T := TX3) (N := 12) hx hb hts iw_X3_performRest_X3 hown hK hP 0 rfl rfl 1 (by decide) (hts (.fieldLink RX3 13 "MixBench" "specials" "[J") (by decide +kernel)) (fun _ h9 => h9) rfl dX3_performRest_155 ?_
    refine lv_iload_n hx hb dX3_performRest_158 rfl (lv_at hl 2 rfl) ?_
    refine p_i (W.runS (As := [.int p0]) (rest := [.ref (a 2), .int p0, .ref (a 0)]) ⟨hx, hb, hml, hown, hts⟩ (c_X3_byteZ l p0 ) (va_cwS 1 hts gX3_performRest_X3_byteZ rfl rfl rfl (by decide +kernel) ⟨Nat.le_of_ble_eq_true rfl, Nat.le_of_ble_eq_true rfl⟩) p_preT rfl rfl hl.1 rfl (lv_room (Nat.le_of_ble_eq_true rfl)) dX3_performRest_159 ⟨Nat.le_of_ble_eq_true rfl, Nat.le_of_ble_eq_true rfl⟩) ?_
    refine lv_bipush (v := 7) hx hb dX3_performRest_162 (by decide) ?_
    refine lv_iand hx hb dX3_performRest_164 ?_
    refine va_lald hx hb hK hP 2 0 rfl rfl (in_and7 _) dX3_performRest_165 ?_
    refine g_v (va_runV (As := [.int p0, .long (x_sp u ((f_X3_byteZ p0) &&& (7 : Int32)).toNatClampNeg)]) (rest := []) ⟨hx, hb, hml, hown, hts⟩ (c_X3_writeX l yy a u p0 (x_sp u ((f_X3_byteZ p0) &&& (7 : Int32)).toNatClampNeg)  G H.size) (cwV 2 hts gX3_performRest_X3_writeX rfl rfl rfl (by decide +kernel) ⟨Nat.le_of_ble_eq_true rfl, Nat.le_of_ble_eq_true rfl⟩) (g_preV eX_bl hK hE hP hD hS hA 0 rfl rfl) rfl rfl hl.1 rfl (lv_room (Nat.le_of_ble_eq_true rfl)) dX3_performRest_166 ⟨Nat.le_of_ble_eq_true rfl, Nat.le_of_ble_eq_true rfl⟩) hD hS hA (fun H locs hP hD hS => ?_)
    obtain ⟨u16, eu16⟩ : ∃ z, z = f_X3_writeX u p0 (x_sp u ((f_X3_byteZ p0) &&& (7 : Int32)).toNatClampNeg) := ⟨_, rfl⟩
    have hP : va_P G vwCl (wX yy a u16) H := by rw [eu16]; exact hP
    have hD : va_D A (wX yy a u16) := by rw [eu16]; exact hD
    refine lv_goto (tgt := 172) hx hb dX3_performRest_169 (by decide) ?_
    exact g_vret (by have eu16 := eu16.symm; subst eu16; have ev1 := ev1.symm; subst ev1; exact (if_neg c2).trans ((if_neg c4).trans ((if_neg c7).trans ((if_neg c9).trans ((if_neg c11).trans ((if_neg c13).trans ((if_pos c15).trans (rfl)))))))) hx hb hr hP hD hS hlocks dX3_performRest_172
  refine sw_td hx hb [240, 241, 244, 245, 246, 247, 254] (tgt := 172) dX3_performRest_11 (List.forall_mem_cons.mpr ⟨c2, (List.forall_mem_cons.mpr ⟨c4, (List.forall_mem_cons.mpr ⟨c7, (List.forall_mem_cons.mpr ⟨c9, (List.forall_mem_cons.mpr ⟨c11, (List.forall_mem_cons.mpr ⟨c13, (List.forall_mem_cons.mpr ⟨c15, (fun _ h => absurd h List.not_mem_nil)⟩)⟩)⟩)⟩)⟩)⟩)⟩) (by decide) (by decide) (by decide) ?_
  exact g_vret (by have ev1 := ev1.symm; subst ev1; exact (if_neg c2).trans ((if_neg c4).trans ((if_neg c7).trans ((if_neg c9).trans ((if_neg c11).trans ((if_neg c13).trans ((if_neg c15).trans (rfl)))))))) hx hb hr hP hD hS hlocks dX3_performRest_172
