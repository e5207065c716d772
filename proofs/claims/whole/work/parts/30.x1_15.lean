def f_X3_comparedOrShifted (u : XS) (p0 : Int32) (p1 : Int64) (p2 : Int64) : Int64 × XS :=
  if ((f_X3_opOf p0) &&& (254 : Int32)) = (48 : Int32) then
    if p2 ≤ p1 then
      if p1 ≤ p2 then
        ((0 : Int64), u)
      else
        ((1 : Int64), u)
    else
      ((-1 : Int64), u)
  else
    if ((f_X3_opOf p0) &&& (254 : Int32)) = (50 : Int32) then
      if (f_X2_isAbove p2 p1) = (0 : Int32) then
        if (f_X2_isAbove p1 p2) = (0 : Int32) then
          ((0 : Int64), u)
        else
          ((1 : Int64), u)
      else
        ((-1 : Int64), u)
    else
      if ((f_X3_opOf p0) &&& (254 : Int32)) = (52 : Int32) then
        let v8 : Int64 := (f_X3_checkedDifference u ((f_X3_byteY p0).toInt64) p2).1;
        let u9 : XS := (f_X3_checkedDifference u ((f_X3_byteY p0).toInt64) p2).2;
        (v8, u9)
      else
        if ((f_X3_opOf p0) &&& (254 : Int32)) = (54 : Int32) then
          (((f_X3_byteY p0).toInt64) - p2, u)
        else
          if ((f_X3_opOf p0) &&& (254 : Int32)) = (56 : Int32) then
            let v12 : Int64 := (f_X3_checkedShift u p1 p2).1;
            let u13 : XS := (f_X3_checkedShift u p1 p2).2;
            (v12, u13)
          else
            if ((f_X3_opOf p0) &&& (254 : Int32)) = (58 : Int32) then
              (f_X2_shiftLeft p1 p2, u)
            else
              if ((f_X3_opOf p0) &&& (254 : Int32)) = (60 : Int32) then
                (f_X2_shiftRight p1 p2, u)
              else
                (f_X2_shiftRightUnsigned p1 p2, u)
abbrev rm_X3_comparedOrShifted : Room := { frames := 3, cells := 0, slots := 0, locals := 70 }
set_option maxHeartbeats 4000000 in
set_option maxRecDepth 100000 in
theorem c_X3_comparedOrShifted (l : Launch) (yy : Nat → ClassId) (a : Nat → Nat) (u : XS) (p0 : Int32) (p1 : Int64) (p2 : Int64) : gMl l yX3_comparedOrShifted wsX3_comparedOrShifted rm_X3_comparedOrShifted eX (sT yy) (wX yy a) [.ref (a 0), .int p0, .long p1, .long p2] u (f_X3_comparedOrShifted u p0 p1 p2) := by
  refine gm_ofW (Qc := gQl (wX yy a) (f_X3_comparedOrShifted u p0 p1 p2)) (by decide) rfl (Nat.le_of_ble_eq_true rfl) ?_
  intro G A p e s m args below meth c hx hb hr hml hts hown hlocks hK hE hA H locs hP hD hS ls hl
  have hl : lv_has ls 6 [(0, .ref (a 0)), (1, .int p0), (2, .long p1), (4, .long p2)] := hl
  refine lv_iload_n hx hb dX3_comparedOrShifted_0 rfl (lv_at hl 1 rfl) ?_
  refine p_i (W.runS (As := [.int p0]) (rest := []) ⟨hx, hb, hml, hown, hts⟩ (c_X3_opOf l p0 ) (va_cwS 1 hts gX3_comparedOrShifted_X3_opOf rfl rfl rfl (by decide +kernel) ⟨Nat.le_of_ble_eq_true rfl, Nat.le_of_ble_eq_true rfl⟩) p_preT rfl rfl hl.1 rfl (lv_room (Nat.le_of_ble_eq_true rfl)) dX3_comparedOrShifted_1 ⟨Nat.le_of_ble_eq_true rfl, Nat.le_of_ble_eq_true rfl⟩) ?_
  refine lv_sipush (v := 254) hx hb dX3_comparedOrShifted_4 (by decide) ?_
  refine lv_iand hx hb dX3_comparedOrShifted_7 ?_
  by_cases c1 : ((f_X3_opOf p0) &&& (254 : Int32)) = 48
  · refine sw_t hx hb 0 (k := 48) (tgt := 76) dX3_comparedOrShifted_8 c1 (by decide) rfl (by decide) ?_
    refine lv_lload_n hx hb dX3_comparedOrShifted_76 rfl (lv_at hl 2 rfl) ?_
    refine lv_lload hx hb dX3_comparedOrShifted_77 (lv_at hl 3 rfl) ?_
    refine lc_ge (tgt := 89) hx hb dX3_comparedOrShifted_79 dX3_comparedOrShifted_80 (by decide) (fun c2 => ?_) (fun c2 => ?_)
    · refine lv_lload_n hx hb dX3_comparedOrShifted_89 rfl (lv_at hl 2 rfl) ?_
      refine lv_lload hx hb dX3_comparedOrShifted_90 (lv_at hl 3 rfl) ?_
      refine lc_le (tgt := 100) hx hb dX3_comparedOrShifted_92 dX3_comparedOrShifted_93 (by decide) (fun c3 => ?_) (fun c3 => ?_)
      · refine lv_lconst (v := 0) hx hb dX3_comparedOrShifted_100 (by decide) ?_
        exact g_lret (by exact (if_pos c1).trans ((if_pos c2).trans ((if_pos c3).trans (rfl)))) hx hb hr hP hD hS hlocks dX3_comparedOrShifted_101
      · refine lv_lconst (v := 1) hx hb dX3_comparedOrShifted_96 (by decide) ?_
        refine lv_goto (tgt := 101) hx hb dX3_comparedOrShifted_97 (by decide) ?_
        exact g_lret (by exact (if_pos c1).trans ((if_pos c2).trans ((if_neg c3).trans (rfl)))) hx hb hr hP hD hS hlocks dX3_comparedOrShifted_101
    · refine lv_ldc2 hx hb hown (hts (.constantLong RX3 104 (-1)) (by decide +kernel)) dX3_comparedOrShifted_83 ?_
      refine lv_goto (tgt := 101) hx hb dX3_comparedOrShifted_86 (by decide) ?_
      exact g_lret (by exact (if_pos c1).trans ((if_neg c2).trans (rfl))) hx hb hr hP hD hS hlocks dX3_comparedOrShifted_101
  by_cases c4 : ((f_X3_opOf p0) &&& (254 : Int32)) = 50
  · refine sw_t hx hb 2 (k := 50) (tgt := 102) dX3_comparedOrShifted_8 c4 (by decide) rfl (by decide) ?_
    refine lv_lload hx hb dX3_comparedOrShifted_102 (lv_at hl 3 rfl) ?_
    refine lv_lload_n hx hb dX3_comparedOrShifted_104 rfl (lv_at hl 2 rfl) ?_
    refine p_i (g_run (va_runSN (As := [.long p2, .long p1]) (rest := []) ⟨hx, hb, hml, hown, hts⟩ (c_X2_isAbove l p2 p1 ) ⟨va_cnB 2 hts gX3_comparedOrShifted_X2_isAbove_n228 rfl rfl rfl (hE.1 (228, yX2_isAbove) (by decide +kernel)) (hts (.initialized RX2) (by decide +kernel)) (by decide +kernel) ⟨Nat.le_of_ble_eq_true rfl, Nat.le_of_ble_eq_true rfl⟩, (hts (.static yX2_isAbove) (by decide +kernel)), trivial⟩ p_preT rfl rfl hl.1 rfl (lv_room (Nat.le_of_ble_eq_true rfl)) dX3_comparedOrShifted_105 ⟨Nat.le_of_ble_eq_true rfl, Nat.le_of_ble_eq_true rfl⟩)) ?_
    refine lv_if_eq (tgt := 117) hx hb dX3_comparedOrShifted_108 (by decide) (fun c5 => ?_) (fun c5 => ?_)
    · refine lv_lload_n hx hb dX3_comparedOrShifted_117 rfl (lv_at hl 2 rfl) ?_
      refine lv_lload hx hb dX3_comparedOrShifted_118 (lv_at hl 3 rfl) ?_
      refine p_i (g_run (va_runSN (As := [.long p1, .long p2]) (rest := []) ⟨hx, hb, hml, hown, hts⟩ (c_X2_isAbove l p1 p2 ) ⟨va_cnB 2 hts gX3_comparedOrShifted_X2_isAbove_n228 rfl rfl rfl (hE.1 (228, yX2_isAbove) (by decide +kernel)) (hts (.initialized RX2) (by decide +kernel)) (by decide +kernel) ⟨Nat.le_of_ble_eq_true rfl, Nat.le_of_ble_eq_true rfl⟩, (hts (.static yX2_isAbove) (by decide +kernel)), trivial⟩ p_preT rfl rfl hl.1 rfl (lv_room (Nat.le_of_ble_eq_true rfl)) dX3_comparedOrShifted_120 ⟨Nat.le_of_ble_eq_true rfl, Nat.le_of_ble_eq_true rfl⟩)) ?_
      refine lv_if_eq (tgt := 130) hx hb dX3_comparedOrShifted_123 (by decide) (fun c6 => ?_) (fun c6 => ?_)
      · refine lv_lconst (v := 0) hx hb dX3_comparedOrShifted_130 (by decide) ?_
        exact g_lret (by exact (if_neg c1).trans ((if_pos c4).trans ((if_pos c5).trans ((if_pos c6).trans (rfl))))) hx hb hr hP hD hS hlocks dX3_comparedOrShifted_131
      · refine lv_lconst (v := 1) hx hb dX3_comparedOrShifted_126 (by decide) ?_
        refine lv_goto (tgt := 131) hx hb dX3_comparedOrShifted_127 (by decide) ?_
        exact g_lret (by exact (if_neg c1).trans ((if_pos c4).trans ((if_pos c5).trans ((if_neg c6).trans (rfl))))) hx hb hr hP hD hS hlocks dX3_comparedOrShifted_131
    · refine lv_ldc2 hx hb hown (hts (.constantLong RX3 104 (-1)) (by decide +kernel)) dX3_comparedOrShifted_111 ?_
      refine lv_goto (tgt := 131) hx hb dX3_comparedOrShifted_114 (by decide) ?_
      exact g_lret (by exact (if_neg c1).trans ((if_pos c4).trans ((if_neg c5).trans (rfl)))) hx hb hr hP hD hS hlocks dX3_comparedOrShifted_131
  by_cases c7 : ((f_X3_opOf p0) &&& (254 : Int32)) = 52
  · refine sw_t hx hb 4 (k := 52) (tgt := 132) dX3_comparedOrShifted_8 c7 (by decide) rfl (by decide) ?_
    refine lv_aload_n hx hb dX3_comparedOrShifted_132 rfl (lv_at hl 0 rfl) ?_
    refine lv_iload_n hx hb dX3_comparedOrShifted_133 rfl (lv_at hl 1 rfl) ?_
    refine p_i (W.runS (As := [.int p0]) (rest := [.ref (a 0)]) ⟨hx, hb, hml, hown, hts⟩ (c_X3_byteY l p0 ) (va_cwS 1 hts gX3_comparedOrShifted_X3_byteY rfl rfl rfl (by decide +kernel) ⟨Nat.le_of_ble_eq_true rfl, Nat.le_of_ble_eq_true rfl⟩) p_preT rfl rfl hl.1 rfl (lv_room (Nat.le_of_ble_eq_true rfl)) dX3_comparedOrShifted_134 ⟨Nat.le_of_ble_eq_true rfl, Nat.le_of_ble_eq_true rfl⟩) ?_
    refine lv_i2l (v := (f_X3_byteY p0).toInt64) hx hb dX3_comparedOrShifted_137 rfl ?_
    refine lv_lload hx hb dX3_comparedOrShifted_138 (lv_at hl 3 rfl) ?_
    refine g_l (va_runV (As := [.long ((f_X3_byteY p0).toInt64), .long p2]) (rest := []) ⟨hx, hb, hml, hown, hts⟩ (c_X3_checkedDifference l yy a u ((f_X3_byteY p0).toInt64) p2  G H.size) (cwV 2 hts gX3_comparedOrShifted_X3_checkedDifference rfl rfl rfl (by decide +kernel) ⟨Nat.le_of_ble_eq_true rfl, Nat.le_of_ble_eq_true rfl⟩) (g_preV eX_bl hK hE hP hD hS hA 0 rfl rfl) rfl rfl hl.1 rfl (lv_room (Nat.le_of_ble_eq_true rfl)) dX3_comparedOrShifted_140 ⟨Nat.le_of_ble_eq_true rfl, Nat.le_of_ble_eq_true rfl⟩) hD hS hA (fun H locs hP hD hS => ?_)
    refine lv_topl (fun v8 ev8 => ?_)
    obtain ⟨u9, eu9⟩ : ∃ z, z = (f_X3_checkedDifference u ((f_X3_byteY p0).toInt64) p2).2 := ⟨_, rfl⟩
    have hP : va_P G vwCl (wX yy a u9) H := by rw [eu9]; exact hP
    have hD : va_D A (wX yy a u9) := by rw [eu9]; exact hD
    exact g_lret (by have eu9 := eu9.symm; subst eu9; have ev8 := ev8.symm; subst ev8; exact (if_neg c1).trans ((if_neg c4).trans ((if_pos c7).trans (rfl)))) hx hb hr hP hD hS hlocks dX3_comparedOrShifted_143
  by_cases c10 : ((f_X3_opOf p0) &&& (254 : Int32)) = 54
  · refine sw_t hx hb 6 (k := 54) (tgt := 144) dX3_comparedOrShifted_8 c10 (by decide) rfl (by decide) ?_
    refine lv_iload_n hx hb dX3_comparedOrShifted_144 rfl (lv_at hl 1 rfl) ?_
    refine p_i (W.runS (As := [.int p0]) (rest := []) ⟨hx, hb, hml, hown, hts⟩ (c_X3_byteY l p0 ) (va_cwS 1 hts gX3_comparedOrShifted_X3_byteY rfl rfl rfl (by decide +kernel) ⟨Nat.le_of_ble_eq_true rfl, Nat.le_of_ble_eq_true rfl⟩) p_preT rfl rfl hl.1 rfl (lv_room (Nat.le_of_ble_eq_true rfl)) dX3_comparedOrShifted_145 ⟨Nat.le_of_ble_eq_true rfl, Nat.le_of_ble_eq_true rfl⟩) ?_
    refine lv_i2l (v := (f_X3_byteY p0).toInt64) hx hb dX3_comparedOrShifted_148 rfl ?_
    refine lv_lload hx hb dX3_comparedOrShifted_149 (lv_at hl 3 rfl) ?_
    refine lv_lsub hx hb dX3_comparedOrShifted_151 ?_
    exact g_lret (by exact (if_neg c1).trans ((if_neg c4).trans ((if_neg c7).trans ((if_pos c10).trans (rfl))))) hx hb hr hP hD hS hlocks dX3_comparedOrShifted_152
  by_cases c11 : ((f_X3_opOf p0) &&& (254 : Int32)) = 56
  · refine sw_t hx hb 8 (k := 56) (tgt := 153) dX3_comparedOrShifted_8 c11 (by decide) rfl (by decide) ?_
    refine lv_aload_n hx hb dX3_comparedOrShifted_153 rfl (lv_at hl 0 rfl) ?_
    refine lv_lload_n hx hb dX3_comparedOrShifted_154 rfl (lv_at hl 2 rfl) ?_
    refine lv_lload hx hb dX3_comparedOrShifted_155 (lv_at hl 3 rfl) ?_
    refine g_l (va_runV (As := [.long p1, .long p2]) (rest := []) ⟨hx, hb, hml, hown, hts⟩ (c_X3_checkedShift l yy a u p1 p2  G H.size) (cwV 2 hts gX3_comparedOrShifted_X3_checkedShift rfl rfl rfl (by decide +kernel) ⟨Nat.le_of_ble_eq_true rfl, Nat.le_of_ble_eq_true rfl⟩) (g_preV eX_bl hK hE hP hD hS hA 0 rfl rfl) rfl rfl hl.1 rfl (lv_room (Nat.le_of_ble_eq_true rfl)) dX3_comparedOrShifted_157 ⟨Nat.le_of_ble_eq_true rfl, Nat.le_of_ble_eq_true rfl⟩) hD hS hA (fun H locs hP hD hS => ?_)
    refine lv_topl (fun v12 ev12 => ?_)
    obtain ⟨u13, eu13⟩ : ∃ z, z = (f_X3_checkedShift u p1 p2).2 := ⟨_, rfl⟩
    have hP : va_P G vwCl (wX yy a u13) H := by rw [eu13]; exact hP
    have hD : va_D A (wX yy a u13) := by rw [eu13]; exact hD
    exact g_lret (by have eu13 := eu13.symm; subst eu13; have ev12 := ev12.symm; subst ev12; exact (if_neg c1).trans ((if_neg c4).trans ((if_neg c7).trans ((if_neg c10).trans ((if_pos c11).trans (rfl)))))) hx hb hr hP hD hS hlocks dX3_comparedOrShifted_160
  by_cases c14 : ((f_X3_opOf p0) &&& (254 : Int32)) = 58
  · refine sw_t hx hb 10 (k := 58) (tgt := 161) dX3_comparedOrShifted_8 c14 (by decide) rfl (by decide) ?_
    refine lv_lload_n hx hb dX3_comparedOrShifted_161 rfl (lv_at hl 2 rfl) ?_
    refine lv_lload hx hb dX3_comparedOrShifted_162 (lv_at hl 3 rfl) ?_
    refine p_l (g_run (va_runSN (As := [.long p1, .long p2]) (rest := []) ⟨hx, hb, hml, hown, hts⟩ (c_X2_shiftLeft l p1 p2 ) ⟨va_cnB 2 hts gX3_comparedOrShifted_X2_shiftLeft_n241 rfl rfl rfl (hE.1 (241, yX2_shiftLeft) (by decide +kernel)) (hts (.initialized RX2) (by decide +kernel)) (by decide +kernel) ⟨Nat.le_of_ble_eq_true rfl, Nat.le_of_ble_eq_true rfl⟩, (hts (.static yX2_shiftLeft) (by decide +kernel)), trivial⟩ p_preT rfl rfl hl.1 rfl (lv_room (Nat.le_of_ble_eq_true rfl)) dX3_comparedOrShifted_164 ⟨Nat.le_of_ble_eq_true rfl, Nat.le_of_ble_eq_true rfl⟩)) ?_
    exact g_lret (by exact (if_neg c1).trans ((if_neg c4).trans ((if_neg c7).trans ((if_neg c10).trans ((if_neg c11).trans ((if_pos c14).trans (rfl))))))) hx hb hr hP hD hS hlocks dX3_comparedOrShifted_167
  by_cases c15 : ((f_X3_opOf p0) &&& (254 : Int32)) = 60
  · refine sw_t hx hb 12 (k := 60) (tgt := 168) dX3_comparedOrShifted_8 c15 (by decide) rfl (by decide) ?_
    refine lv_lload_n hx hb dX3_comparedOrShifted_168 rfl (lv_at hl 2 rfl) ?_
    refine lv_lload hx hb dX3_comparedOrShifted_169 (lv_at hl 3 rfl) ?_
    refine p_l (g_run (va_runSN (As := [.long p1, .long p2]) (rest := []) ⟨hx, hb, hml, hown, hts⟩ (c_X2_shiftRight l p1 p2 ) ⟨va_cnB 2 hts gX3_comparedOrShifted_X2_shiftRight_n244 rfl rfl rfl (hE.1 (244, yX2_shiftRight) (by decide +kernel)) (hts (.initialized RX2) (by decide +kernel)) (by decide +kernel) ⟨Nat.le_of_ble_eq_true rfl, Nat.le_of_ble_eq_true rfl⟩, (hts (.static yX2_shiftRight) (by decide +kernel)), trivial⟩ p_preT rfl rfl hl.1 rfl (lv_room (Nat.le_of_ble_eq_true rfl)) dX3_comparedOrShifted_171 ⟨Nat.le_of_ble_eq_true rfl, Nat.le_of_ble_eq_true rfl⟩)) ?_
    exact g_lret (by exact (if_neg c1).trans ((if_neg c4).trans ((if_neg c7).trans ((if_neg c10).trans ((if_neg c11).trans ((if_neg c14).trans ((if_pos c15).trans (rfl)))))))) hx hb hr hP hD hS hlocks dX3_comparedOrShifted_174
  refine sw_td hx hb [48, 50, 52, 54, 56, 58, 60] (tgt := 175) dX3_comparedOrShifted_8 (List.forall_mem_cons.mpr ⟨c1, (List.forall_mem_cons.mpr ⟨c4, (List.forall_mem_cons.mpr ⟨c7, (List.forall_mem_cons.mpr ⟨c10, (List.forall_mem_cons.mpr ⟨c11, (List.forall_mem_cons.mpr ⟨c14, (List.forall_mem_cons.mpr ⟨c15, (fun _ h => absurd h List.not_mem_nil)⟩)⟩)⟩)⟩)⟩)⟩)⟩) (by decide) (by decide) (by decide) ?_
  refine lv_lload_n hx hb dX3_comparedOrShifted_175 rfl (lv_at hl 2 rfl) ?_
  refine lv_lload hx hb dX3_comparedOrShifted_176 (lv_at hl 3 rfl) ?_
  refine p_l (g_run (va_runSN (As := [.long p1, .long p2]) (rest := []) ⟨hx, hb, hml, hown, hts⟩ (c_X2_shiftRightUnsigned l p1 p2 ) ⟨va_cnB 2 hts gX3_comparedOrShifted_X2_shiftRightUnsigned_n247 rfl rfl rfl (hE.1 (247, yX2_shiftRightUnsigned) (by decide +kernel)) (hts (.initialized RX2) (by decide +kernel)) (by decide +kernel) ⟨Nat.le_of_ble_eq_true rfl, Nat.le_of_ble_eq_true rfl⟩, (hts (.static yX2_shiftRightUnsigned) (by decide +kernel)), trivial⟩ p_preT rfl rfl hl.1 rfl (lv_room (Nat.le_of_ble_eq_true rfl)) dX3_comparedOrShifted_178 ⟨Nat.le_of_ble_eq_true rfl, Nat.le_of_ble_eq_true rfl⟩)) ?_
  exact g_lret (by exact (if_neg c1).trans ((if_neg c4).trans ((if_neg c7).trans ((if_neg c10).trans ((if_neg c11).trans ((if_neg c14).trans ((if_neg c15).trans (rfl)))))))) hx hb hr hP hD hS hlocks dX3_comparedOrShifted_181
