def f_X3_bytewise (u : XS) (p0 : Int32) (p1 : Int64) (p2 : Int64) : Int64 :=
  if (p0 &&& (254 : Int32)) = (208 : Int32) then
    f_X2_differences p1 p2 (8 : Int32)
  else
    if (p0 &&& (254 : Int32)) = (210 : Int32) then
      f_X2_differences p1 p2 (16 : Int32)
    else
      if (p0 &&& (254 : Int32)) = (212 : Int32) then
        f_X2_differences p1 p2 (32 : Int32)
      else
        if (p0 &&& (254 : Int32)) = (214 : Int32) then
          f_X2_differences p1 p2 (64 : Int32)
        else
          if (p0 &&& (254 : Int32)) = (216 : Int32) then
            let v6 : Int64 := (p1 &&& (x_sp u (5 : Int32).toNatClampNeg)) ||| (p2 &&& ((x_sp u (5 : Int32).toNatClampNeg) ^^^ (-1 : Int64)));
            v6
          else
            if (p0 &&& (254 : Int32)) = (218 : Int32) then
              (f_J13_bitCount_95d88 (p1 &&& (p2 ^^^ (-1 : Int64)))).toInt64
            else
              if (p0 &&& (254 : Int32)) = (220 : Int32) then
                f_X2_matrixProduct p1 p2 (0 : Int32)
              else
                f_X2_matrixProduct p1 p2 (1 : Int32)
abbrev rm_X3_bytewise : Room := { frames := 2, cells := 0, slots := 0, locals := 56 }
set_option maxRecDepth 20000 in
theorem iw_X3_bytewise_X3 : ∀ w ∈ wsX30, w ∈ wsX3_bytewise := by decide +kernel
set_option maxHeartbeats 4000000 in
set_option maxRecDepth 100000 in
theorem c_X3_bytewise (l : Launch) (yy : Nat → ClassId) (a : Nat → Nat) (u : XS) (p0 : Int32) (p1 : Int64) (p2 : Int64) : gMl l yX3_bytewise wsX3_bytewise rm_X3_bytewise eX (sT yy) (wX yy a) [.ref (a 0), .int p0, .long p1, .long p2] u ((f_X3_bytewise u p0 p1 p2, u)) := by
  refine gm_ofW (Qc := gQl (wX yy a) ((f_X3_bytewise u p0 p1 p2, u))) (by decide) rfl (Nat.le_of_ble_eq_true rfl) ?_
  intro G A p e s m args below meth c hx hb hr hml hts hown hlocks hK hE hA H locs hP hD hS ls hl
  have hl : lv_has ls 6 [(0, .ref (a 0)), (1, .int p0), (2, .long p1), (4, .long p2)] := hl
  refine lv_iload_n hx hb dX3_bytewise_0 rfl (lv_at hl 1 rfl) ?_
  refine lv_sipush (v := 254) hx hb dX3_bytewise_1 (by decide) ?_
  refine lv_iand hx hb dX3_bytewise_4 ?_
  by_cases c1 : (p0 &&& (254 : Int32)) = 208
  · refine sw_t hx hb 0 (k := 208) (tgt := 72) dX3_bytewise_5 c1 (by decide) rfl (by decide) ?_
    refine lv_lload_n hx hb dX3_bytewise_72 rfl (lv_at hl 2 rfl) ?_
    refine lv_lload hx hb dX3_bytewise_73 (lv_at hl 3 rfl) ?_
    refine lv_bipush (v := 8) hx hb dX3_bytewise_75 (by decide) ?_
    refine p_l (g_run (va_runSN (As := [.long p1, .long p2, .int (8 : Int32)]) (rest := []) ⟨hx, hb, hml, hown, hts⟩ (c_X2_differences l p1 p2 (8 : Int32) (by decide)) ⟨va_cnB 3 hts gX3_bytewise_X2_differences_n275 rfl rfl rfl (hE.1 (275, yX2_differences) (by decide +kernel)) (hts (.initialized RX2) (by decide +kernel)) (by decide +kernel) ⟨Nat.le_of_ble_eq_true rfl, Nat.le_of_ble_eq_true rfl⟩, (hts (.static yX2_differences) (by decide +kernel)), trivial⟩ p_preT rfl rfl hl.1 rfl (lv_room (Nat.le_of_ble_eq_true rfl)) dX3_bytewise_77 ⟨Nat.le_of_ble_eq_true rfl, Nat.le_of_ble_eq_true rfl⟩)) ?_
    exact g_lret (s_ro (by exact (if_pos c1).trans (rfl))) hx hb hr hP hD hS hlocks dX3_bytewise_80
  by_cases c2 : (p0 &&& (254 : Int32)) = 210
  · refine sw_t hx hb 2 (k := 210) (tgt := 81) dX3_bytewise_5 c2 (by decide) rfl (by decide) ?_
    refine lv_lload_n hx hb dX3_bytewise_81 rfl (lv_at hl 2 rfl) ?_
    refine lv_lload hx hb dX3_bytewise_82 (lv_at hl 3 rfl) ?_
    refine lv_bipush (v := 16) hx hb dX3_bytewise_84 (by decide) ?_
    refine p_l (g_run (va_runSN (As := [.long p1, .long p2, .int (16 : Int32)]) (rest := []) ⟨hx, hb, hml, hown, hts⟩ (c_X2_differences l p1 p2 (16 : Int32) (by decide)) ⟨va_cnB 3 hts gX3_bytewise_X2_differences_n275 rfl rfl rfl (hE.1 (275, yX2_differences) (by decide +kernel)) (hts (.initialized RX2) (by decide +kernel)) (by decide +kernel) ⟨Nat.le_of_ble_eq_true rfl, Nat.le_of_ble_eq_true rfl⟩, (hts (.static yX2_differences) (by decide +kernel)), trivial⟩ p_preT rfl rfl hl.1 rfl (lv_room (Nat.le_of_ble_eq_true rfl)) dX3_bytewise_86 ⟨Nat.le_of_ble_eq_true rfl, Nat.le_of_ble_eq_true rfl⟩)) ?_
    exact g_lret (s_ro (by exact (if_neg c1).trans ((if_pos c2).trans (rfl)))) hx hb hr hP hD hS hlocks dX3_bytewise_89
  by_cases c3 : (p0 &&& (254 : Int32)) = 212
  · refine sw_t hx hb 4 (k := 212) (tgt := 90) dX3_bytewise_5 c3 (by decide) rfl (by decide) ?_
    refine lv_lload_n hx hb dX3_bytewise_90 rfl (lv_at hl 2 rfl) ?_
    refine lv_lload hx hb dX3_bytewise_91 (lv_at hl 3 rfl) ?_
    refine lv_bipush (v := 32) hx hb dX3_bytewise_93 (by decide) ?_
    refine p_l (g_run (va_runSN (As := [.long p1, .long p2, .int (32 : Int32)]) (rest := []) ⟨hx, hb, hml, hown, hts⟩ (c_X2_differences l p1 p2 (32 : Int32) (by decide)) ⟨va_cnB 3 hts gX3_bytewise_X2_differences_n275 rfl rfl rfl (hE.1 (275, yX2_differences) (by decide +kernel)) (hts (.initialized RX2) (by decide +kernel)) (by decide +kernel) ⟨Nat.le_of_ble_eq_true rfl, Nat.le_of_ble_eq_true rfl⟩, (hts (.static yX2_differences) (by decide +kernel)), trivial⟩ p_preT rfl rfl hl.1 rfl (lv_room (Nat.le_of_ble_eq_true rfl)) dX3_bytewise_95 ⟨Nat.le_of_ble_eq_true rfl, Nat.le_of_ble_eq_true rfl⟩)) ?_
    exact g_lret (s_ro (by exact (if_neg c1).trans ((if_neg c2).trans ((if_pos c3).trans (rfl))))) hx hb hr hP hD hS hlocks dX3_bytewise_98
  by_cases c4 : (p0 &&& (254 : Int32)) = 214
  · refine sw_t hx hb 6 (k := 214) (tgt := 99) dX3_bytewise_5 c4 (by decide) rfl (by decide) ?_
    refine lv_lload_n hx hb dX3_bytewise_99 rfl (lv_at hl 2 rfl) ?_
    refine lv_lload hx hb dX3_bytewise_100 (lv_at hl 3 rfl) ?_
    refine lv_bipush (v := 64) hx hb dX3_bytewise_102 (by decide) ?_
    refine p_l (g_run (va_runSN (As := [.long p1, .long p2, .int (64 : Int32)]) (rest := []) ⟨hx, hb, hml, hown, hts⟩ (c_X2_differences l p1 p2 (64 : Int32) (by decide)) ⟨va_cnB 3 hts gX3_bytewise_X2_differences_n275 rfl rfl rfl (hE.1 (275, yX2_differences) (by decide +kernel)) (hts (.initialized RX2) (by decide +kernel)) (by decide +kernel) ⟨Nat.le_of_ble_eq_true rfl, Nat.le_of_ble_eq_true rfl⟩, (hts (.static yX2_differences) (by decide +kernel)), trivial⟩ p_preT rfl rfl hl.1 rfl (lv_room (Nat.le_of_ble_eq_true rfl)) dX3_bytewise_104 ⟨Nat.le_of_ble_eq_true rfl, Nat.le_of_ble_eq_true rfl⟩)) ?_
    exact g_lret (s_ro (by exact (if_neg c1).trans ((if_neg c2).trans ((if_neg c3).trans ((if_pos c4).trans (rfl)))))) hx hb hr hP hD hS hlocks dX3_bytewise_107
  by_cases c5 : (p0 &&& (254 : Int32)) = 216
  · refine sw_t hx hb 8 (k := 216) (tgt := 108) dX3_bytewise_5 c5 (by decide) rfl (by decide) ?_
    refine lv_lload_n hx hb dX3_bytewise_108 rfl (lv_at hl 2 rfl) ?_
    refine lv_aload_n hx hb dX3_bytewise_109 rfl (lv_at hl 0 rfl) ?_
    refine va_get (D := G) (ci := 1) (v := .ref (a 2)) (C := RX3) (T := TX3) (N := 12) hx hb hts iw_X3_bytewise_X3 hown hK hP 0 rfl rfl 1 (by decide) (hts (.fieldLink RX3 13 "MixBench" "specials" "[J") (by decide +kernel)) (fun _ h9 => h9) rfl dX3_bytewise_110 ?_
    refine lv_iconst (v := 5) hx hb dX3_bytewise_113 (by decide) ?_
    refine va_lald hx hb hK hP 2 0 rfl rfl (by unfold vp_in; decide) dX3_bytewise_114 ?_
    refine lv_land hx hb dX3_bytewise_115 ?_
    refine lv_lload hx hb dX3_bytewise_116 (lv_at hl 3 rfl) ?_
    refine lv_aload_n hx hb dX3_bytewise_118 rfl (lv_at hl 0 rfl) ?_
    refine va_get (D := G) (ci := 1) (v := .ref (a 2)) (C := RX3) (T := TX3) (N := 12) hx hb hts iw_X3_bytewise_X3 hown hK hP 0 rfl rfl 1 (by decide) (hts (.fieldLink RX3 13 "MixBench" "specials" "[J") (by decide +kernel)) (fun _ h9 => h9) rfl dX3_bytewise_119 ?_
    refine lv_iconst (v := 5) hx hb dX3_bytewise_122 (by decide) ?_
    refine va_lald hx hb hK hP 2 0 rfl rfl (by unfold vp_in; decide) dX3_bytewise_123 ?_
    refine lv_ldc2 hx hb hown (hts (.constantLong RX3 104 (-1)) (by decide +kernel)) dX3_bytewise_124 ?_
    refine lv_lxor hx hb dX3_bytewise_127 ?_
    refine lv_land hx hb dX3_bytewise_128 ?_
    refine lv_lor hx hb dX3_bytewise_129 ?_
    refine lv_topl (fun v6 ev6 => ?_)
    exact g_lret (s_ro (by have ev6 := ev6.symm; subst ev6; exact (if_neg c1).trans ((if_neg c2).trans ((if_neg c3).trans ((if_neg c4).trans ((if_pos c5).trans (rfl))))))) hx hb hr hP hD hS hlocks dX3_bytewise_130
  by_cases c7 : (p0 &&& (254 : Int32)) = 218
  · refine sw_t hx hb 10 (k := 218) (tgt := 131) dX3_bytewise_5 c7 (by decide) rfl (by decide) ?_
    refine lv_lload_n hx hb dX3_bytewise_131 rfl (lv_at hl 2 rfl) ?_
    refine lv_lload hx hb dX3_bytewise_132 (lv_at hl 3 rfl) ?_
    refine lv_ldc2 hx hb hown (hts (.constantLong RX3 104 (-1)) (by decide +kernel)) dX3_bytewise_134 ?_
    refine lv_lxor hx hb dX3_bytewise_137 ?_
    refine lv_land hx hb dX3_bytewise_138 ?_
    refine p_i (W.runS (As := [.long (p1 &&& (p2 ^^^ (-1 : Int64)))]) (rest := []) ⟨hx, hb, hml, hown, hts⟩ (c_J13_bitCount_95d88 l (p1 &&& (p2 ^^^ (-1 : Int64))) ) (va_cwS 1 hts gX3_bytewise_J13_bitCount_95d88 rfl rfl rfl (by decide +kernel) ⟨Nat.le_of_ble_eq_true rfl, Nat.le_of_ble_eq_true rfl⟩) p_preT rfl rfl hl.1 rfl (lv_room (Nat.le_of_ble_eq_true rfl)) dX3_bytewise_139 ⟨Nat.le_of_ble_eq_true rfl, Nat.le_of_ble_eq_true rfl⟩) ?_
    refine lv_i2l (v := (f_J13_bitCount_95d88 (p1 &&& (p2 ^^^ (-1 : Int64)))).toInt64) hx hb dX3_bytewise_142 rfl ?_
    exact g_lret (s_ro (by exact (if_neg c1).trans ((if_neg c2).trans ((if_neg c3).trans ((if_neg c4).trans ((if_neg c5).trans ((if_pos c7).trans (rfl)))))))) hx hb hr hP hD hS hlocks dX3_bytewise_143
  by_cases c8 : (p0 &&& (254 : Int32)) = 220
  · refine sw_t hx hb 12 (k := 220) (tgt := 144) dX3_bytewise_5 c8 (by decide) rfl (by decide) ?_
    refine lv_lload_n hx hb dX3_bytewise_144 rfl (lv_at hl 2 rfl) ?_
    refine lv_lload hx hb dX3_bytewise_145 (lv_at hl 3 rfl) ?_
    refine lv_iconst (v := 0) hx hb dX3_bytewise_147 (by decide) ?_
    refine p_l (g_run (va_runSN (As := [.long p1, .long p2, .int (0 : Int32)]) (rest := []) ⟨hx, hb, hml, hown, hts⟩ (c_X2_matrixProduct l p1 p2 (0 : Int32) ) ⟨va_cnB 3 hts gX3_bytewise_X2_matrixProduct_n285 rfl rfl rfl (hE.1 (285, yX2_matrixProduct) (by decide +kernel)) (hts (.initialized RX2) (by decide +kernel)) (by decide +kernel) ⟨Nat.le_of_ble_eq_true rfl, Nat.le_of_ble_eq_true rfl⟩, (hts (.static yX2_matrixProduct) (by decide +kernel)), trivial⟩ p_preT rfl rfl hl.1 rfl (lv_room (Nat.le_of_ble_eq_true rfl)) dX3_bytewise_148 ⟨Nat.le_of_ble_eq_true rfl, Nat.le_of_ble_eq_true rfl⟩)) ?_
    exact g_lret (s_ro (by exact (if_neg c1).trans ((if_neg c2).trans ((if_neg c3).trans ((if_neg c4).trans ((if_neg c5).trans ((if_neg c7).trans ((if_pos c8).trans (rfl))))))))) hx hb hr hP hD hS hlocks dX3_bytewise_151
  refine sw_td hx hb [208, 210, 212, 214, 216, 218, 220] (tgt := 152) dX3_bytewise_5 (List.forall_mem_cons.mpr ⟨c1, (List.forall_mem_cons.mpr ⟨c2, (List.forall_mem_cons.mpr ⟨c3, (List.forall_mem_cons.mpr ⟨c4, (List.forall_mem_cons.mpr ⟨c5, (List.forall_mem_cons.mpr ⟨c7, (List.forall_mem_cons.mpr ⟨c8, (fun _ h => absurd h List.not_mem_nil)⟩)⟩)⟩)⟩)⟩)⟩)⟩) (by decide) (by decide) (by decide) ?_
  refine lv_lload_n hx hb dX3_bytewise_152 rfl (lv_at hl 2 rfl) ?_
  refine lv_lload hx hb dX3_bytewise_153 (lv_at hl 3 rfl) ?_
  refine lv_iconst (v := 1) hx hb dX3_bytewise_155 (by decide) ?_
  refine p_l (g_run (va_runSN (As := [.long p1, .long p2, .int (1 : Int32)]) (rest := []) ⟨hx, hb, hml, hown, hts⟩ (c_X2_matrixProduct l p1 p2 (1 : Int32) ) ⟨va_cnB 3 hts gX3_bytewise_X2_matrixProduct_n285 rfl rfl rfl (hE.1 (285, yX2_matrixProduct) (by decide +kernel)) (hts (.initialized RX2) (by decide +kernel)) (by decide +kernel) ⟨Nat.le_of_ble_eq_true rfl, Nat.le_of_ble_eq_true rfl⟩, (hts (.static yX2_matrixProduct) (by decide +kernel)), trivial⟩ p_preT rfl rfl hl.1 rfl (lv_room (Nat.le_of_ble_eq_true rfl)) dX3_bytewise_156 ⟨Nat.le_of_ble_eq_true rfl, Nat.le_of_ble_eq_true rfl⟩)) ?_
  exact g_lret (s_ro (by exact (if_neg c1).trans ((if_neg c2).trans ((if_neg c3).trans ((if_neg c4).trans ((if_neg c5).trans ((if_neg c7).trans ((if_neg c8).trans (rfl))))))))) hx hb hr hP hD hS hlocks dX3_bytewise_159
