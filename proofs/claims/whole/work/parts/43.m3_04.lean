def f_X4_high (u : MS) (p0 : Int32) (p1 : Int32) (p2 : Int32) (p3 : Int32) (p4 : Int32) : Int32 × MS :=
  let v1 : Int64 := (p4 &&& (65535 : Int32)).toInt64;
  let v2 : Int64 := jlshl v1 ((48 : Int32) - ((16 : Int32) * (p0 &&& (3 : Int32))));
  let v3 : Int64 := (p4 &&& (16777215 : Int32)).toInt64;
  let u4 : MS := sm_lt u (0 : Int32);
  if ((jshr p0 (2 : Int32)) &&& (7 : Int32)) = (0 : Int32) then
    let v6 : Int32 := (f_X4_done u4 p1 v2).1;
    let u7 : MS := (f_X4_done u4 p1 v2).2;
    (v6, u7)
  else
    if ((jshr p0 (2 : Int32)) &&& (7 : Int32)) = (1 : Int32) then
      let v9 : Int32 := (f_X4_done u4 p1 ((m_g u4 p1.toNatClampNeg) + v2)).1;
      let u10 : MS := (f_X4_done u4 p1 ((m_g u4 p1.toNatClampNeg) + v2)).2;
      (v9, u10)
    else
      if ((jshr p0 (2 : Int32)) &&& (7 : Int32)) = (2 : Int32) then
        let v12 : Int32 := (f_X4_done u4 p1 ((m_g u4 p1.toNatClampNeg) ||| v2)).1;
        let u13 : MS := (f_X4_done u4 p1 ((m_g u4 p1.toNatClampNeg) ||| v2)).2;
        (v12, u13)
      else
        if ((jshr p0 (2 : Int32)) &&& (7 : Int32)) = (3 : Int32) then
          let v15 : Int32 := (f_X4_done u4 p1 ((m_g u4 p1.toNatClampNeg) &&& (v2 ^^^ (-1 : Int64)))).1;
          let u16 : MS := (f_X4_done u4 p1 ((m_g u4 p1.toNatClampNeg) &&& (v2 ^^^ (-1 : Int64)))).2;
          (v15, u16)
        else
          if p0 = (240 : Int32) then
            let u18 : MS := sm_pc u4 ((m_pc u4) + ((4 : Int64) * v3));
            ((0 : Int32), u18)
          else
            if p0 = (241 : Int32) then
              let v20 : Int64 := (m_pc u4) - ((4 : Int64) * ((16777216 : Int64) - v3));
              let u21 : MS := sm_pc u4 v20;
              ((0 : Int32), u21)
            else
              if p0 = (244 : Int32) then
                let v23 : Int32 := (f_X4_done u4 p1 ((m_pc u4) + ((4 : Int64) * v1))).1;
                let u24 : MS := (f_X4_done u4 p1 ((m_pc u4) + ((4 : Int64) * v1))).2;
                (v23, u24)
              else
                if p0 = (245 : Int32) then
                  let v26 : Int32 := (f_X4_done u4 p1 ((m_pc u4) - ((4 : Int64) * ((65536 : Int64) - v1)))).1;
                  let u27 : MS := (f_X4_done u4 p1 ((m_pc u4) - ((4 : Int64) * ((65536 : Int64) - v1)))).2;
                  (v26, u27)
                else
                  if p0 = (246 : Int32) then
                    if p1 ≤ (7 : Int32) then
                      let v30 : Int64 := f_X4_number u4 p0 p3;
                      let u31 : MS := sm_sp u4 (vp_updL (m_sp u4) p1.toNatClampNeg v30);
                      let u32 : MS := sm_pc u31 ((m_pc u31) + (4 : Int64));
                      ((0 : Int32), u32)
                    else
                      ((2 : Int32), u4)
                  else
                    if p0 = (247 : Int32) then
                      if p1 ≤ (7 : Int32) then
                        let v35 : Int64 := f_X4_number u4 p0 p3;
                        let u36 : MS := sm_sp u4 (vp_updL (m_sp u4) p1.toNatClampNeg v35);
                        let u37 : MS := sm_pc u36 ((m_pc u36) + (4 : Int64));
                        ((0 : Int32), u37)
                      else
                        ((2 : Int32), u4)
                    else
                      if p0 = (253 : Int32) then
                        let u39 : MS := sm_pc u4 ((m_pc u4) + (4 : Int64));
                        ((0 : Int32), u39)
                      else
                        if p0 = (254 : Int32) then
                          if p3 ≤ (7 : Int32) then
                            let v42 : Int32 := (f_X4_done u4 p1 (m_sp u4 p3.toNatClampNeg)).1;
                            let u43 : MS := (f_X4_done u4 p1 (m_sp u4 p3.toNatClampNeg)).2;
                            (v42, u43)
                          else
                            ((2 : Int32), u4)
                        else
                          ((2 : Int32), u4)
abbrev rm_X4_high : Room := { frames := 2, cells := 0, slots := 0, locals := 43 }
set_option maxRecDepth 20000 in
theorem iw_X4_high_X4 : ∀ w ∈ wsX40, w ∈ wsX4_high := by decide +kernel
set_option maxHeartbeats 4000000 in
set_option maxRecDepth 100000 in
theorem c_X4_high (l : Launch) (yy : Nat → ClassId) (a : Nat → Nat) (u : MS) (p0 : Int32) (p1 : Int32) (p2 : Int32) (p3 : Int32) (p4 : Int32) (h0 : vp_in p1 256) (h1 : vp_in p2 256) (h2 : vp_in p3 256) : gMi l yX4_high wsX4_high rm_X4_high eTrue (sT yy) (wM yy a) [.ref (a 0), .int p0, .int p1, .int p2, .int p3, .int p4] u (f_X4_high u p0 p1 p2 p3 p4) := by
  refine gm_ofW (Qc := gQi (wM yy a) (f_X4_high u p0 p1 p2 p3 p4)) (by decide) rfl (Nat.le_of_ble_eq_true rfl) ?_
  intro G A p e s m args below meth c hx hb hr hml hts hown hlocks hK hE hA H locs hP hD hS ls hl
  have hl : lv_has ls 12 [(0, .ref (a 0)), (1, .int p0), (2, .int p1), (3, .int p2), (4, .int p3), (5, .int p4)] := hl
  refine lv_iload hx hb dX4_high_0 (lv_at hl 5 rfl) ?_
  refine lv_ldc hx hb hown (hts (.constant RX4 179 (65535)) (by decide +kernel)) dX4_high_2 ?_
  refine lv_iand hx hb dX4_high_4 ?_
  refine lv_i2l (v := (p4 &&& (65535 : Int32)).toInt64) hx hb dX4_high_5 rfl ?_
  refine lv_topl (fun v1 ev1 => ?_)
  refine lv_lstore (lv' := [(6, .long v1), (0, .ref (a 0)), (1, .int p0), (2, .int p1), (3, .int p2), (4, .int p3), (5, .int p4)]) hx hb dX4_high_6 hl (by decide) rfl (fun ls hl => ?_)
  refine lv_lload hx hb dX4_high_8 (lv_at hl 0 rfl) ?_
  refine lv_bipush (v := 48) hx hb dX4_high_10 (by decide) ?_
  refine lv_bipush (v := 16) hx hb dX4_high_12 (by decide) ?_
  refine lv_iload_n hx hb dX4_high_14 rfl (lv_at hl 2 rfl) ?_
  refine lv_iconst (v := 3) hx hb dX4_high_15 (by decide) ?_
  refine lv_iand hx hb dX4_high_16 ?_
  refine lv_imul hx hb dX4_high_17 ?_
  refine lv_isub hx hb dX4_high_18 ?_
  refine lv_lshl (v := jlshl v1 ((48 : Int32) - ((16 : Int32) * (p0 &&& (3 : Int32))))) hx hb dX4_high_19 rfl ?_
  refine lv_topl (fun v2 ev2 => ?_)
  refine lv_lstore (lv' := [(8, .long v2), (6, .long v1), (0, .ref (a 0)), (1, .int p0), (2, .int p1), (3, .int p2), (4, .int p3), (5, .int p4)]) hx hb dX4_high_20 hl (by decide) rfl (fun ls hl => ?_)
  refine lv_iload hx hb dX4_high_22 (lv_at hl 7 rfl) ?_
  refine lv_ldcw hx hb hown (hts (.constant RX4 299 (16777215)) (by decide +kernel)) dX4_high_24 ?_
  refine lv_iand hx hb dX4_high_27 ?_
  refine lv_i2l (v := (p4 &&& (16777215 : Int32)).toInt64) hx hb dX4_high_28 rfl ?_
  refine lv_topl (fun v3 ev3 => ?_)
  refine lv_lstore (lv' := [(10, .long v3), (8, .long v2), (6, .long v1), (0, .ref (a 0)), (1, .int p0), (2, .int p1), (3, .int p2), (4, .int p3), (5, .int p4)]) hx hb dX4_high_29 hl (by decide) rfl (fun ls hl => ?_)
  refine lv_aload_n hx hb dX4_high_31 rfl (lv_at hl 3 rfl) ?_
  refine lv_iconst (v := 0) hx hb dX4_high_32 (by decide) ?_
  refine va_put (D := G) (ci := 2) (v := .int (0 : Int32)) (ty := .boolean) (C := RX4) (T := TX4) (N := 17) hx hb hts iw_X4_high_X4 tyX4 tyX4_ok nmX4 hown hK hP hD hS 0 rfl rfl 16 (by decide) (hts (.fieldLink RX4 215 "MixBenchModel" "late" "Z") (by decide +kernel)) (fun _ h9 => h9) rfl (by decide +kernel) rfl rfl (Nat.le_of_ble_eq_true rfl) dX4_high_33 (fun H locs hP hD hS => ?_)
  obtain ⟨u4, eu4⟩ : ∃ z, z = sm_lt u (0 : Int32) := ⟨_, rfl⟩
  have hP : va_P G vwCl (wM yy a u4) H := by rw [eu4]; exact hP
  have hD : va_D A (wM yy a u4) := by rw [eu4]; exact hD
  refine lv_iload_n hx hb dX4_high_36 rfl (lv_at hl 4 rfl) ?_
  refine lv_iconst (v := 2) hx hb dX4_high_37 (by decide) ?_
  refine lv_ishr hx hb dX4_high_38 ?_
  refine lv_bipush (v := 7) hx hb dX4_high_39 (by decide) ?_
  refine lv_iand hx hb dX4_high_41 ?_
  by_cases c5 : ((jshr p0 (2 : Int32)) &&& (7 : Int32)) = 0
  · refine sw_t hx hb 0 (k := 0) (tgt := 72) dX4_high_42 c5 (by decide) rfl (by decide) ?_
    refine lv_aload_n hx hb dX4_high_72 rfl (lv_at hl 3 rfl) ?_
    refine lv_iload_n hx hb dX4_high_73 rfl (lv_at hl 5 rfl) ?_
    refine lv_lload hx hb dX4_high_74 (lv_at hl 1 rfl) ?_
    refine g_i (va_runV (As := [.int p1, .long v2]) (rest := []) ⟨hx, hb, hml, hown, hts⟩ (c_X4_done l yy a u4 p1 v2 (h0) G H.size) (cwV 2 hts gX4_high_X4_done rfl rfl rfl (by decide +kernel) ⟨Nat.le_of_ble_eq_true rfl, Nat.le_of_ble_eq_true rfl⟩) (g_preV eTrue_bl hK hE hP hD hS hA 0 rfl rfl) rfl rfl hl.1 rfl (lv_room (Nat.le_of_ble_eq_true rfl)) dX4_high_76 ⟨Nat.le_of_ble_eq_true rfl, Nat.le_of_ble_eq_true rfl⟩) hD hS hA (fun H locs hP hD hS => ?_)
    refine lv_topi (fun v6 ev6 => ?_)
    obtain ⟨u7, eu7⟩ : ∃ z, z = (f_X4_done u4 p1 v2).2 := ⟨_, rfl⟩
    have hP : va_P G vwCl (wM yy a u7) H := by rw [eu7]; exact hP
    have hD : va_D A (wM yy a u7) := by rw [eu7]; exact hD
    exact g_iret (by have eu7 := eu7.symm; subst eu7; have ev6 := ev6.symm; subst ev6; have eu4 := eu4.symm; subst eu4; have ev3 := ev3.symm; subst ev3; have ev2 := ev2.symm; subst ev2; have ev1 := ev1.symm; subst ev1; exact (if_pos c5).trans (rfl)) hx hb hr hP hD hS hlocks dX4_high_79
  by_cases c8 : ((jshr p0 (2 : Int32)) &&& (7 : Int32)) = 1
  · refine sw_t hx hb 1 (k := 1) (tgt := 80) dX4_high_42 c8 (by decide) rfl (by decide) ?_
    refine lv_aload_n hx hb dX4_high_80 rfl (lv_at hl 3 rfl) ?_
    refine lv_iload_n hx hb dX4_high_81 rfl (lv_at hl 5 rfl) ?_
    refine lv_aload_n hx hb dX4_high_82 rfl (lv_at hl 3 rfl) ?_
    refine va_get (D := G) (ci := 2) (v := .ref (a 1)) (C := RX4) (T := TX4) (N := 17) hx hb hts iw_X4_high_X4 hown hK hP 0 rfl rfl 1 (by decide) (hts (.fieldLink RX4 7 "MixBenchModel" "g" "[J") (by decide +kernel)) (fun _ h9 => h9) rfl dX4_high_83 ?_
    refine lv_iload_n hx hb dX4_high_86 rfl (lv_at hl 5 rfl) ?_
    refine va_lald hx hb hK hP 1 0 rfl rfl h0 dX4_high_87 ?_
    refine lv_lload hx hb dX4_high_88 (lv_at hl 1 rfl) ?_
    refine lv_ladd hx hb dX4_high_90 ?_
    refine g_i (va_runV (As := [.int p1, .long ((m_g u4 p1.toNatClampNeg) + v2)]) (rest := []) ⟨hx, hb, hml, hown, hts⟩ (c_X4_done l yy a u4 p1 ((m_g u4 p1.toNatClampNeg) + v2) (h0) G H.size) (cwV 2 hts gX4_high_X4_done rfl rfl rfl (by decide +kernel) ⟨Nat.le_of_ble_eq_true rfl, Nat.le_of_ble_eq_true rfl⟩) (g_preV eTrue_bl hK hE hP hD hS hA 0 rfl rfl) rfl rfl hl.1 rfl (lv_room (Nat.le_of_ble_eq_true rfl)) dX4_high_91 ⟨Nat.le_of_ble_eq_true rfl, Nat.le_of_ble_eq_true rfl⟩) hD hS hA (fun H locs hP hD hS => ?_)
    refine lv_topi (fun v9 ev9 => ?_)
    obtain ⟨u10, eu10⟩ : ∃ z, z = (f_X4_done u4 p1 ((m_g u4 p1.toNatClampNeg) + v2)).2 := ⟨_, rfl⟩
    have hP : va_P G vwCl (wM yy a u10) H := by rw [eu10]; exact hP
    have hD : va_D A (wM yy a u10) := by rw [eu10]; exact hD
    exact g_iret (by have eu10 := eu10.symm; subst eu10; have ev9 := ev9.symm; subst ev9; have eu4 := eu4.symm; subst eu4; have ev3 := ev3.symm; subst ev3; have ev2 := ev2.symm; subst ev2; have ev1 := ev1.symm; subst ev1; exact (if_neg c5).trans ((if_pos c8).trans (rfl))) hx hb hr hP hD hS hlocks dX4_high_94
  by_cases c11 : ((jshr p0 (2 : Int32)) &&& (7 : Int32)) = 2
  · refine sw_t hx hb 2 (k := 2) (tgt := 95) dX4_high_42 c11 (by decide) rfl (by decide) ?_
    refine lv_aload_n hx hb dX4_high_95 rfl (lv_at hl 3 rfl) ?_
    refine lv_iload_n hx hb dX4_high_96 rfl (lv_at hl 5 rfl) ?_
    refine lv_aload_n hx hb dX4_high_97 rfl (lv_at hl 3 rfl) ?_
    refine va_get (D := G) (ci := 2) (v := .ref (a 1)) (C := RX4) (T := TX4) (N := 17) hx hb hts iw_X4_high_X4 hown hK hP 0 rfl rfl 1 (by decide) (hts (.fieldLink RX4 7 "MixBenchModel" "g" "[J") (by decide +kernel)) (fun _ h9 => h9) rfl dX4_high_98 ?_
    refine lv_iload_n hx hb dX4_high_101 rfl (lv_at hl 5 rfl) ?_
    refine va_lald hx hb hK hP 1 0 rfl rfl h0 dX4_high_102 ?_
    refine lv_lload hx hb dX4_high_103 (lv_at hl 1 rfl) ?_
    refine lv_lor hx hb dX4_high_105 ?_
    refine g_i (va_runV (As := [.int p1, .long ((m_g u4 p1.toNatClampNeg) ||| v2)]) (rest := []) ⟨hx, hb, hml, hown, hts⟩ (c_X4_done l yy a u4 p1 ((m_g u4 p1.toNatClampNeg) ||| v2) (h0) G H.size) (cwV 2 hts gX4_high_X4_done rfl rfl rfl (by decide +kernel) ⟨Nat.le_of_ble_eq_true rfl, Nat.le_of_ble_eq_true rfl⟩) (g_preV eTrue_bl hK hE hP hD hS hA 0 rfl rfl) rfl rfl hl.1 rfl (lv_room (Nat.le_of_ble_eq_true rfl)) dX4_high_106 ⟨Nat.le_of_ble_eq_true rfl, Nat.le_of_ble_eq_true rfl⟩) hD hS hA (fun H locs hP hD hS => ?_)
    refine lv_topi (fun v12 ev12 => ?_)
    obtain ⟨u13, eu13⟩ : ∃ z, z = (f_X4_done u4 p1 ((m_g u4 p1.toNatClampNeg) ||| v2)).2 := ⟨_, rfl⟩
    have hP : va_P G vwCl (wM yy a u13) H := by rw [eu13]; exact hP
    have hD : va_D A (wM yy a u13) := by rw [eu13]; exact hD
    exact g_iret (by have eu13 := eu13.symm; subst eu13; have ev12 := ev12.symm; subst ev12; have eu4 := eu4.symm; subst eu4; have ev3 := ev3.symm; subst ev3; have ev2 := ev2.symm; subst ev2; have ev1 := ev1.symm; subst ev1; exact (if_neg c5).trans ((if_neg c8).trans ((if_pos c11).trans (rfl)))) hx hb hr hP hD hS hlocks dX4_high_109
  by_cases c14 : ((jshr p0 (2 : Int32)) &&& (7 : Int32)) = 3
  · refine sw_t hx hb 3 (k := 3) (tgt := 110) dX4_high_42 c14 (by decide) rfl (by decide) ?_
    refine lv_aload_n hx hb dX4_high_110 rfl (lv_at hl 3 rfl) ?_
    refine lv_iload_n hx hb dX4_high_111 rfl (lv_at hl 5 rfl) ?_
    refine lv_aload_n hx hb dX4_high_112 rfl (lv_at hl 3 rfl) ?_
    refine va_get (D := G) (ci := 2) (v := .ref (a 1)) (C := RX4) (T := TX4) (N := 17) hx hb hts iw_X4_high_X4 hown hK hP 0 rfl rfl 1 (by decide) (hts (.fieldLink RX4 7 "MixBenchModel" "g" "[J") (by decide +kernel)) (fun _ h9 => h9) rfl dX4_high_113 ?_
    refine lv_iload_n hx hb dX4_high_116 rfl (lv_at hl 5 rfl) ?_
    refine va_lald hx hb hK hP 1 0 rfl rfl h0 dX4_high_117 ?_
    refine lv_lload hx hb dX4_high_118 (lv_at hl 1 rfl) ?_
    refine lv_ldc2 hx hb hown (hts (.constantLong RX4 261 (-1)) (by decide +kernel)) dX4_high_120 ?_
    refine lv_lxor hx hb dX4_high_123 ?_
    refine lv_land hx hb dX4_high_124 ?_
    refine g_i (va_runV (As := [.int p1, .long ((m_g u4 p1.toNatClampNeg) &&& (v2 ^^^ (-1 : Int64)))]) (rest := []) ⟨hx, hb, hml, hown, hts⟩ (c_X4_done l yy a u4 p1 ((m_g u4 p1.toNatClampNeg) &&& (v2 ^^^ (-1 : Int64))) (h0) G H.size) (cwV 2 hts gX4_high_X4_done rfl rfl rfl (by decide +kernel) ⟨Nat.le_of_ble_eq_true rfl, Nat.le_of_ble_eq_true rfl⟩) (g_preV eTrue_bl hK hE hP hD hS hA 0 rfl rfl) rfl rfl hl.1 rfl (lv_room (Nat.le_of_ble_eq_true rfl)) dX4_high_125 ⟨Nat.le_of_ble_eq_true rfl, Nat.le_of_ble_eq_true rfl⟩) hD hS hA (fun H locs hP hD hS => ?_)
    refine lv_topi (fun v15 ev15 => ?_)
    obtain ⟨u16, eu16⟩ : ∃ z, z = (f_X4_done u4 p1 ((m_g u4 p1.toNatClampNeg) &&& (v2 ^^^ (-1 : Int64)))).2 := ⟨_, rfl⟩
    have hP : va_P G vwCl (wM yy a u16) H := by rw [eu16]; exact hP
    have hD : va_D A (wM yy a u16) := by rw [eu16]; exact hD
    exact g_iret (by have eu16 := eu16.symm; subst eu16; have ev15 := ev15.symm; subst ev15; have eu4 := eu4.symm; subst eu4; have ev3 := ev3.symm; subst ev3; have ev2 := ev2.symm; subst ev2; have ev1 := ev1.symm; subst ev1; exact (if_neg c5).trans ((if_neg c8).trans ((if_neg c11).trans ((if_pos c14).trans (rfl))))) hx hb hr hP hD hS hlocks dX4_high_128
  refine sw_td hx hb [0, 1, 2, 3] (tgt := 129) dX4_high_42 (List.forall_mem_cons.mpr ⟨c5, (List.forall_mem_cons.mpr ⟨c8, (List.forall_mem_cons.mpr ⟨c11, (List.forall_mem_cons.mpr ⟨c14, (fun _ h => absurd h List.not_mem_nil)⟩)⟩)⟩)⟩) (by decide) (by decide) (by decide) ?_
  refine lv_iload_n hx hb dX4_high_129 rfl (lv_at hl 4 rfl) ?_
  by_cases c17 : p0 = 240
  · refine sw_t hx hb 0 (k := 240) (tgt := 204) dX4_high_130 c17 (by decide) rfl (by decide) ?_
    refine lv_aload_n hx hb dX4_high_204 rfl (lv_at hl 3 rfl) ?_
    refine lv_dup hx hb dX4_high_205 rfl ?_
    refine va_get (D := G) (ci := 2) (v := .long (m_pc u4)) (C := RX4) (T := TX4) (N := 17) hx hb hts iw_X4_high_X4 hown hK hP 0 rfl rfl 8 (by decide) (hts (.fieldLink RX4 162 "MixBenchModel" "pc" "J") (by decide +kernel)) (fun _ h9 => h9) rfl dX4_high_206 ?_
    refine lv_ldc2 hx hb hown (hts (.constantLong RX4 223 (4)) (by decide +kernel)) dX4_high_209 ?_
    refine lv_lload hx hb dX4_high_212 (lv_at hl 0 rfl) ?_
    refine lv_lmul hx hb dX4_high_214 ?_
    refine lv_ladd hx hb dX4_high_215 ?_
    refine va_put (D := G) (ci := 2) (v := .long ((m_pc u4) + ((4 : Int64) * v3))) (ty := .long) (C := RX4) (T := TX4) (N := 17) hx hb hts iw_X4_high_X4 tyX4 tyX4_ok nmX4 hown hK hP hD hS 0 rfl rfl 8 (by decide) (hts (.fieldLink RX4 162 "MixBenchModel" "pc" "J") (by decide +kernel)) (fun _ h9 => h9) rfl (by decide +kernel) rfl rfl (Nat.le_of_ble_eq_true rfl) dX4_high_216 (fun H locs hP hD hS => ?_)
    obtain ⟨u18, eu18⟩ : ∃ z, z = sm_pc u4 ((m_pc u4) + ((4 : Int64) * v3)) := ⟨_, rfl⟩
    have hP : va_P G vwCl (wM yy a u18) H := by rw [eu18]; exact hP
    have hD : va_D A (wM yy a u18) := by rw [eu18]; exact hD
    refine lv_iconst (v := 0) hx hb dX4_high_219 (by decide) ?_
    exact g_iret (by have eu18 := eu18.symm; subst eu18; have eu4 := eu4.symm; subst eu4; have ev3 := ev3.symm; subst ev3; have ev2 := ev2.symm; subst ev2; have ev1 := ev1.symm; subst ev1; exact (if_neg c5).trans ((if_neg c8).trans ((if_neg c11).trans ((if_neg c14).trans ((if_pos c17).trans (rfl)))))) hx hb hr hP hD hS hlocks dX4_high_220
  by_cases c19 : p0 = 241
  · refine sw_t hx hb 1 (k := 241) (tgt := 221) dX4_high_130 c19 (by decide) rfl (by decide) ?_
    refine lv_aload_n hx hb dX4_high_221 rfl (lv_at hl 3 rfl) ?_
    refine lv_dup hx hb dX4_high_222 rfl ?_
    refine va_get (D := G) (ci := 2) (v := .long (m_pc u4)) (C := RX4) (T := TX4) (N := 17) hx hb hts iw_X4_high_X4 hown hK hP 0 rfl rfl 8 (by decide) (hts (.fieldLink RX4 162 "MixBenchModel" "pc" "J") (by decide +kernel)) (fun _ h9 => h9) rfl dX4_high_223 ?_
    refine lv_ldc2 hx hb hown (hts (.constantLong RX4 223 (4)) (by decide +kernel)) dX4_high_226 ?_
    refine lv_ldc2 hx hb hown (hts (.constantLong RX4 300 (16777216)) (by decide +kernel)) dX4_high_229 ?_
    refine lv_lload hx hb dX4_high_232 (lv_at hl 0 rfl) ?_
    refine lv_lsub hx hb dX4_high_234 ?_
    refine lv_lmul hx hb dX4_high_235 ?_
    refine lv_lsub hx hb dX4_high_236 ?_
    refine lv_topl (fun v20 ev20 => ?_)
    refine va_put (D := G) (ci := 2) (v := .long v20) (ty := .long) (C := RX4) (T := TX4) (N := 17) hx hb hts iw_X4_high_X4 tyX4 tyX4_ok nmX4 hown hK hP hD hS 0 rfl rfl 8 (by decide) (hts (.fieldLink RX4 162 "MixBenchModel" "pc" "J") (by decide +kernel)) (fun _ h9 => h9) rfl (by decide +kernel) rfl rfl (Nat.le_of_ble_eq_true rfl) dX4_high_237 (fun H locs hP hD hS => ?_)
    obtain ⟨u21, eu21⟩ : ∃ z, z = sm_pc u4 v20 := ⟨_, rfl⟩
    have hP : va_P G vwCl (wM yy a u21) H := by rw [eu21]; exact hP
    have hD : va_D A (wM yy a u21) := by rw [eu21]; exact hD
    refine lv_iconst (v := 0) hx hb dX4_high_240 (by decide) ?_
    exact g_iret (by have eu21 := eu21.symm; subst eu21; have ev20 := ev20.symm; subst ev20; have eu4 := eu4.symm; subst eu4; have ev3 := ev3.symm; subst ev3; have ev2 := ev2.symm; subst ev2; have ev1 := ev1.symm; subst ev1; exact (if_neg c5).trans ((if_neg c8).trans ((if_neg c11).trans ((if_neg c14).trans ((if_neg c17).trans ((if_pos c19).trans (rfl))))))) hx hb hr hP hD hS hlocks dX4_high_241
  by_cases c22 : p0 = 244
  · refine sw_t hx hb 4 (k := 244) (tgt := 242) dX4_high_130 c22 (by decide) rfl (by decide) ?_
    refine lv_aload_n hx hb dX4_high_242 rfl (lv_at hl 3 rfl) ?_
    refine lv_iload_n hx hb dX4_high_243 rfl (lv_at hl 5 rfl) ?_
    refine lv_aload_n hx hb dX4_high_244 rfl (lv_at hl 3 rfl) ?_
    refine va_get (D := G) (ci := 2) (v := .long (m_pc u4)) (C := RX4) (T := TX4) (N := 17) hx hb hts iw_X4_high_X4 hown hK hP 0 rfl rfl 8 (by decide) (hts (.fieldLink RX4 162 "MixBenchModel" "pc" "J") (by decide +kernel)) (fun _ h9 => h9) rfl dX4_high_245 ?_
    refine lv_ldc2 hx hb hown (hts (.constantLong RX4 223 (4)) (by decide +kernel)) dX4_high_248 ?_
    refine lv_lload hx hb dX4_high_251 (lv_at hl 2 rfl) ?_
    refine lv_lmul hx hb dX4_high_253 ?_
    refine lv_ladd hx hb dX4_high_254 ?_
    refine g_i (va_runV (As := [.int p1, .long ((m_pc u4) + ((4 : Int64) * v1))]) (rest := []) ⟨hx, hb, hml, hown, hts⟩ (c_X4_done l yy a u4 p1 ((m_pc u4) + ((4 : Int64) * v1)) (h0) G H.size) (cwV 2 hts gX4_high_X4_done rfl rfl rfl (by decide +kernel) ⟨Nat.le_of_ble_eq_true rfl, Nat.le_of_ble_eq_true rfl⟩) (g_preV eTrue_bl hK hE hP hD hS hA 0 rfl rfl) rfl rfl hl.1 rfl (lv_room (Nat.le_of_ble_eq_true rfl)) dX4_high_255 ⟨Nat.le_of_ble_eq_true rfl, Nat.le_of_ble_eq_true rfl⟩) hD hS hA (fun H locs hP hD hS => ?_)
    refine lv_topi (fun v23 ev23 => ?_)
    obtain ⟨u24, eu24⟩ : ∃ z, z = (f_X4_done u4 p1 ((m_pc u4) + ((4 : Int64) * v1))).2 := ⟨_, rfl⟩
    have hP : va_P G vwCl (wM yy a u24) H := by rw [eu24]; exact hP
    have hD : va_D A (wM yy a u24) := by rw [eu24]; exact hD
    exact g_iret (by have eu24 := eu24.symm; subst eu24; have ev23 := ev23.symm; subst ev23; have eu4 := eu4.symm; subst eu4; have ev3 := ev3.symm; subst ev3; have ev2 := ev2.symm; subst ev2; have ev1 := ev1.symm; subst ev1; exact (if_neg c5).trans ((if_neg c8).trans ((if_neg c11).trans ((if_neg c14).trans ((if_neg c17).trans ((if_neg c19).trans ((if_pos c22).trans (rfl)))))))) hx hb hr hP hD hS hlocks dX4_high_258
  by_cases c25 : p0 = 245
  · refine sw_t hx hb 5 (k := 245) (tgt := 259) dX4_high_130 c25 (by decide) rfl (by decide) ?_
    refine lv_aload_n hx hb dX4_high_259 rfl (lv_at hl 3 rfl) ?_
    refine lv_iload_n hx hb dX4_high_260 rfl (lv_at hl 5 rfl) ?_
    refine lv_aload_n hx hb dX4_high_261 rfl (lv_at hl 3 rfl) ?_
    refine va_get (D := G) (ci := 2) (v := .long (m_pc u4)) (C := RX4) (T := TX4) (N := 17) hx hb hts iw_X4_high_X4 hown hK hP 0 rfl rfl 8 (by decide) (hts (.fieldLink RX4 162 "MixBenchModel" "pc" "J") (by decide +kernel)) (fun _ h9 => h9) rfl dX4_high_262 ?_
    refine lv_ldc2 hx hb hown (hts (.constantLong RX4 223 (4)) (by decide +kernel)) dX4_high_265 ?_
    refine lv_ldc2 hx hb hown (hts (.constantLong RX4 302 (65536)) (by decide +kernel)) dX4_high_268 ?_
    refine lv_lload hx hb dX4_high_271 (lv_at hl 2 rfl) ?_
    refine lv_lsub hx hb dX4_high_273 ?_
    refine lv_lmul hx hb dX4_high_274 ?_
    refine lv_lsub hx hb dX4_high_275 ?_
    refine g_i (va_runV (As := [.int p1, .long ((m_pc u4) - ((4 : Int64) * ((65536 : Int64) - v1)))]) (rest := []) ⟨hx, hb, hml, hown, hts⟩ (c_X4_done l yy a u4 p1 ((m_pc u4) - ((4 : Int64) * ((65536 : Int64) - v1))) (h0) G H.size) (cwV 2 hts gX4_high_X4_done rfl rfl rfl (by decide +kernel) ⟨Nat.le_of_ble_eq_true rfl, Nat.le_of_ble_eq_true rfl⟩) (g_preV eTrue_bl hK hE hP hD hS hA 0 rfl rfl) rfl rfl hl.1 rfl (lv_room (Nat.le_of_ble_eq_true rfl)) dX4_high_276 ⟨Nat.le_of_ble_eq_true rfl, Nat.le_of_ble_eq_true rfl⟩) hD hS hA (fun H locs hP hD hS => ?_)
    refine lv_topi (fun v26 ev26 => ?_)
    obtain ⟨u27, eu27⟩ : ∃ z, z = (f_X4_done u4 p1 ((m_pc u4) - ((4 : Int64) * ((65536 : Int64) - v1)))).2 := ⟨_, rfl⟩
    have hP : va_P G vwCl (wM yy a u27) H := by rw [eu27]; exact hP
    have hD : va_D A (wM yy a u27) := by rw [eu27]; exact hD
    exact g_iret (by have eu27 := eu27.symm; subst eu27; have ev26 := ev26.symm; subst ev26; have eu4 := eu4.symm; subst eu4; have ev3 := ev3.symm; subst ev3; have ev2 := ev2.symm; subst ev2; have ev1 := ev1.symm; subst ev1; exact (if_neg c5).trans ((if_neg c8).trans ((if_neg c11).trans ((if_neg c14).trans ((if_neg c17).trans ((if_neg c19).trans ((if_neg c22).trans ((if_pos c25).trans (rfl))))))))) hx hb hr hP hD hS hlocks dX4_high_279
  by_cases c28 : p0 = 246
  · refine sw_t hx hb 6 (k := 246) (tgt := 280) dX4_high_130 c28 (by decide) rfl (by decide) ?_
    refine lv_iload_n hx hb dX4_high_280 rfl (lv_at hl 5 rfl) ?_
    refine lv_bipush (v := 7) hx hb dX4_high_281 (by decide) ?_
    refine lv_icmp_le (tgt := 288) hx hb dX4_high_283 (by decide) (fun c29 => ?_) (fun c29 => ?_)
    · refine lv_aload_n hx hb dX4_high_288 rfl (lv_at hl 3 rfl) ?_
      refine va_get (D := G) (ci := 2) (v := .ref (a 2)) (C := RX4) (T := TX4) (N := 17) hx hb hts iw_X4_high_X4 hown hK hP 0 rfl rfl 2 (by decide) (hts (.fieldLink RX4 13 "MixBenchModel" "special" "[J") (by decide +kernel)) (fun _ h9 => h9) rfl dX4_high_289 ?_
      refine lv_iload_n hx hb dX4_high_292 rfl (lv_at hl 5 rfl) ?_
      refine lv_aload_n hx hb dX4_high_293 rfl (lv_at hl 3 rfl) ?_
      refine lv_iload_n hx hb dX4_high_294 rfl (lv_at hl 4 rfl) ?_
      refine lv_iload hx hb dX4_high_295 (lv_at hl 7 rfl) ?_
      refine g_l (va_runV (As := [.int p0, .int p3]) (rest := [.int p1, .ref (a 2)]) ⟨hx, hb, hml, hown, hts⟩ (c_X4_number l yy a u4 p0 p3 (h2) G H.size) (cwV 2 hts gX4_high_X4_number rfl rfl rfl (by decide +kernel) ⟨Nat.le_of_ble_eq_true rfl, Nat.le_of_ble_eq_true rfl⟩) (g_preV eTrue_bl hK hE hP hD hS hA 0 rfl rfl) rfl rfl hl.1 rfl (lv_room (Nat.le_of_ble_eq_true rfl)) dX4_high_297 ⟨Nat.le_of_ble_eq_true rfl, Nat.le_of_ble_eq_true rfl⟩) hD hS hA (fun H locs hP hD hS => ?_)
      have hP : va_P G vwCl (wM yy a u4) H := hP
      have hD : va_D A (wM yy a u4) := hD
      refine lv_topl (fun v30 ev30 => ?_)
      refine va_last hx hb hK hP hD hS 2 0 rfl rfl (vp_le7 h0 c29) dX4_high_300 (fun H locs hP hD hS => ?_)
      obtain ⟨u31, eu31⟩ : ∃ z, z = sm_sp u4 (vp_updL (m_sp u4) p1.toNatClampNeg v30) := ⟨_, rfl⟩
      have hP : va_P G vwCl (wM yy a u31) H := by rw [eu31]; exact hP
      have hD : va_D A (wM yy a u31) := by rw [eu31]; exact hD
      refine lv_aload_n hx hb dX4_high_301 rfl (lv_at hl 3 rfl) ?_
      refine lv_dup hx hb dX4_high_302 rfl ?_
      refine va_get (D := G) (ci := 2) (v := .long (m_pc u31)) (C := RX4) (T := TX4) (N := 17) hx hb hts iw_X4_high_X4 hown hK hP 0 rfl rfl 8 (by decide) (hts (.fieldLink RX4 162 "MixBenchModel" "pc" "J") (by decide +kernel)) (fun _ h9 => h9) rfl dX4_high_303 ?_
      refine lv_ldc2 hx hb hown (hts (.constantLong RX4 223 (4)) (by decide +kernel)) dX4_high_306 ?_
      refine lv_ladd hx hb dX4_high_309 ?_
      refine va_put (D := G) (ci := 2) (v := .long ((m_pc u31) + (4 : Int64))) (ty := .long) (C := RX4) (T := TX4) (N := 17) hx hb hts iw_X4_high_X4 tyX4 tyX4_ok nmX4 hown hK hP hD hS 0 rfl rfl 8 (by decide) (hts (.fieldLink RX4 162 "MixBenchModel" "pc" "J") (by decide +kernel)) (fun _ h9 => h9) rfl (by decide +kernel) rfl rfl (Nat.le_of_ble_eq_true rfl) dX4_high_310 (fun H locs hP hD hS => ?_)
      obtain ⟨u32, eu32⟩ : ∃ z, z = sm_pc u31 ((m_pc u31) + (4 : Int64)) := ⟨_, rfl⟩
      have hP : va_P G vwCl (wM yy a u32) H := by rw [eu32]; exact hP
      have hD : va_D A (wM yy a u32) := by rw [eu32]; exact hD
      refine lv_iconst (v := 0) hx hb dX4_high_313 (by decide) ?_
      exact g_iret (by have eu32 := eu32.symm; subst eu32; have eu31 := eu31.symm; subst eu31; have ev30 := ev30.symm; subst ev30; have eu4 := eu4.symm; subst eu4; have ev3 := ev3.symm; subst ev3; have ev2 := ev2.symm; subst ev2; have ev1 := ev1.symm; subst ev1; exact (if_neg c5).trans ((if_neg c8).trans ((if_neg c11).trans ((if_neg c14).trans ((if_neg c17).trans ((if_neg c19).trans ((if_neg c22).trans ((if_neg c25).trans ((if_pos c28).trans ((if_pos c29).trans (rfl))))))))))) hx hb hr hP hD hS hlocks dX4_high_314
    · refine lv_iconst (v := 2) hx hb dX4_high_286 (by decide) ?_
      exact g_iret (by have eu4 := eu4.symm; subst eu4; have ev3 := ev3.symm; subst ev3; have ev2 := ev2.symm; subst ev2; have ev1 := ev1.symm; subst ev1; exact (if_neg c5).trans ((if_neg c8).trans ((if_neg c11).trans ((if_neg c14).trans ((if_neg c17).trans ((if_neg c19).trans ((if_neg c22).trans ((if_neg c25).trans ((if_pos c28).trans ((if_neg c29).trans (rfl))))))))))) hx hb hr hP hD hS hlocks dX4_high_287
  by_cases c33 : p0 = 247
  · refine sw_t hx hb 7 (k := 247) (tgt := 280) dX4_high_130 c33 (by decide) rfl (by decide) ?_
    refine lv_iload_n hx hb dX4_high_280 rfl (lv_at hl 5 rfl) ?_
    refine lv_bipush (v := 7) hx hb dX4_high_281 (by decide) ?_
    refine lv_icmp_le (tgt := 288) hx hb dX4_high_283 (by decide) (fun c34 => ?_) (fun c34 => ?_)
    · refine lv_aload_n hx hb dX4_high_288 rfl (lv_at hl 3 rfl) ?_
      refine va_get (D := G) (ci := 2) (v := .ref (a 2)) (C := RX4) (T := TX4) (N := 17) hx hb hts iw_X4_high_X4 hown hK hP 0 rfl rfl 2 (by decide) (hts (.fieldLink RX4 13 "MixBenchModel" "special" "[J") (by decide +kernel)) (fun _ h9 => h9) rfl dX4_high_289 ?_
      refine lv_iload_n hx hb dX4_high_292 rfl (lv_at hl 5 rfl) ?_
      refine lv_aload_n hx hb dX4_high_293 rfl (lv_at hl 3 rfl) ?_
      refine lv_iload_n hx hb dX4_high_294 rfl (lv_at hl 4 rfl) ?_
      refine lv_iload hx hb dX4_high_295 (lv_at hl 7 rfl) ?_
      refine g_l (va_runV (As := [.int p0, .int p3]) (rest := [.int p1, .ref (a 2)]) ⟨hx, hb, hml, hown, hts⟩ (c_X4_number l yy a u4 p0 p3 (h2) G H.size) (cwV 2 hts gX4_high_X4_number rfl rfl rfl (by decide +kernel) ⟨Nat.le_of_ble_eq_true rfl, Nat.le_of_ble_eq_true rfl⟩) (g_preV eTrue_bl hK hE hP hD hS hA 0 rfl rfl) rfl rfl hl.1 rfl (lv_room (Nat.le_of_ble_eq_true rfl)) dX4_high_297 ⟨Nat.le_of_ble_eq_true rfl, Nat.le_of_ble_eq_true rfl⟩) hD hS hA (fun H locs hP hD hS => ?_)
      have hP : va_P G vwCl (wM yy a u4) H := hP
      have hD : va_D A (wM yy a u4) := hD
      refine lv_topl (fun v35 ev35 => ?_)
      refine va_last hx hb hK hP hD hS 2 0 rfl rfl (vp_le7 h0 c34) dX4_high_300 (fun H locs hP hD hS => ?_)
      obtain ⟨u36, eu36⟩ : ∃ z, z = sm_sp u4 (vp_updL (m_sp u4) p1.toNatClampNeg v35) := ⟨_, rfl⟩
      have hP : va_P G vwCl (wM yy a u36) H := by rw [eu36]; exact hP
      have hD : va_D A (wM yy a u36) := by rw [eu36]; exact hD
      refine lv_aload_n hx hb dX4_high_301 rfl (lv_at hl 3 rfl) ?_
      refine lv_dup hx hb dX4_high_302 rfl ?_
      refine va_get (D := G) (ci := 2) (v := .long (m_pc u36)) (C := RX4) (T := TX4) (N := 17) hx hb hts iw_X4_high_X4 hown hK hP 0 rfl rfl 8 (by decide) (hts (.fieldLink RX4 162 "MixBenchModel" "pc" "J") (by decide +kernel)) (fun _ h9 => h9) rfl dX4_high_303 ?_
      refine lv_ldc2 hx hb hown (hts (.constantLong RX4 223 (4)) (by decide +kernel)) dX4_high_306 ?_
      refine lv_ladd hx hb dX4_high_309 ?_
      refine va_put (D := G) (ci := 2) (v := .long ((m_pc u36) + (4 : Int64))) (ty := .long) (C := RX4) (T := TX4) (N := 17) hx hb hts iw_X4_high_X4 tyX4 tyX4_ok nmX4 hown hK hP hD hS 0 rfl rfl 8 (by decide) (hts (.fieldLink RX4 162 "MixBenchModel" "pc" "J") (by decide +kernel)) (fun _ h9 => h9) rfl (by decide +kernel) rfl rfl (Nat.le_of_ble_eq_true rfl) dX4_high_310 (fun H locs hP hD hS => ?_)
      obtain ⟨u37, eu37⟩ : ∃ z, z = sm_pc u36 ((m_pc u36) + (4 : Int64)) := ⟨_, rfl⟩
      have hP : va_P G vwCl (wM yy a u37) H := by rw [eu37]; exact hP
      have hD : va_D A (wM yy a u37) := by rw [eu37]; exact hD
      refine lv_iconst (v := 0) hx hb dX4_high_313 (by decide) ?_
      exact g_iret (by have eu37 := eu37.symm; subst eu37; have eu36 := eu36.symm; subst eu36; have ev35 := ev35.symm; subst ev35; have eu4 := eu4.symm; subst eu4; have ev3 := ev3.symm; subst ev3; have ev2 := ev2.symm; subst ev2; have ev1 := ev1.symm; subst ev1; exact (if_neg c5).trans ((if_neg c8).trans ((if_neg c11).trans ((if_neg c14).trans ((if_neg c17).trans ((if_neg c19).trans ((if_neg c22).trans ((if_neg c25).trans ((if_neg c28).trans ((if_pos c33).trans ((if_pos c34).trans (rfl)))))))))))) hx hb hr hP hD hS hlocks dX4_high_314
    · refine lv_iconst (v := 2) hx hb dX4_high_286 (by decide) ?_
      exact g_iret (by have eu4 := eu4.symm; subst eu4; have ev3 := ev3.symm; subst ev3; have ev2 := ev2.symm; subst ev2; have ev1 := ev1.symm; subst ev1; exact (if_neg c5).trans ((if_neg c8).trans ((if_neg c11).trans ((if_neg c14).trans ((if_neg c17).trans ((if_neg c19).trans ((if_neg c22).trans ((if_neg c25).trans ((if_neg c28).trans ((if_pos c33).trans ((if_neg c34).trans (rfl)))))))))))) hx hb hr hP hD hS hlocks dX4_high_287
  by_cases c38 : p0 = 253
  · refine sw_t hx hb 13 (k := 253) (tgt := 315) dX4_high_130 c38 (by decide) rfl (by decide) ?_
    refine lv_aload_n hx hb dX4_high_315 rfl (lv_at hl 3 rfl) ?_
    refine lv_dup hx hb dX4_high_316 rfl ?_
    refine va_get (D := G) (ci := 2) (v := .long (m_pc u4)) (C := RX4) (T := TX4) (N := 17) hx hb hts iw_X4_high_X4 hown hK hP 0 rfl rfl 8 (by decide) (hts (.fieldLink RX4 162 "MixBenchModel" "pc" "J") (by decide +kernel)) (fun _ h9 => h9) rfl dX4_high_317 ?_
    refine lv_ldc2 hx hb hown (hts (.constantLong RX4 223 (4)) (by decide +kernel)) dX4_high_320 ?_
    refine lv_ladd hx hb dX4_high_323 ?_
    refine va_put (D := G) (ci := 2) (v := .long ((m_pc u4) + (4 : Int64))) (ty := .long) (C := RX4) (T := TX4) (N := 17) hx hb hts iw_X4_high_X4 tyX4 tyX4_ok nmX4 hown hK hP hD hS 0 rfl rfl 8 (by decide) (hts (.fieldLink RX4 162 "MixBenchModel" "pc" "J") (by decide +kernel)) (fun _ h9 => h9) rfl (by decide +kernel) rfl rfl (Nat.le_of_ble_eq_true rfl) dX4_high_324 (fun H locs hP hD hS => ?_)
    obtain ⟨u39, eu39⟩ : ∃ z, z = sm_pc u4 ((m_pc u4) + (4 : Int64)) := ⟨_, rfl⟩
    have hP : va_P G vwCl (wM yy a u39) H := by rw [eu39]; exact hP
    have hD : va_D A (wM yy a u39) := by rw [eu39]; exact hD
    refine lv_iconst (v := 0) hx hb dX4_high_327 (by decide) ?_
    exact g_iret (by have eu39 := eu39.symm; subst eu39; have eu4 := eu4.symm; subst eu4; have ev3 := ev3.symm; subst ev3; have ev2 := ev2.symm; subst ev2; have ev1 := ev1.symm; subst ev1; exact (if_neg c5).trans ((if_neg c8).trans ((if_neg c11).trans ((if_neg c14).trans ((if_neg c17).trans ((if_neg c19).trans ((if_neg c22).trans ((if_neg c25).trans ((if_neg c28).trans ((if_neg c33).trans ((if_pos c38).trans (rfl)))))))))))) hx hb hr hP hD hS hlocks dX4_high_328
  by_cases c40 : p0 = 254
  · refine sw_t hx hb 14 (k := 254) (tgt := 329) dX4_high_130 c40 (by decide) rfl (by decide) ?_
    refine lv_iload hx hb dX4_high_329 (lv_at hl 7 rfl) ?_
    refine lv_bipush (v := 7) hx hb dX4_high_331 (by decide) ?_
    refine lv_icmp_le (tgt := 340) hx hb dX4_high_333 (by decide) (fun c41 => ?_) (fun c41 => ?_)
    · refine lv_aload_n hx hb dX4_high_340 rfl (lv_at hl 3 rfl) ?_
      refine lv_iload_n hx hb dX4_high_341 rfl (lv_at hl 5 rfl) ?_
      refine lv_aload_n hx hb dX4_high_342 rfl (lv_at hl 3 rfl) ?_
      refine va_get (D := G) (ci := 2) (v := .ref (a 2)) (C := RX4) (T := TX4) (N := 17) hx hb hts iw_X4_high_X4 hown hK hP 0 rfl rfl 2 (by decide) (hts (.fieldLink RX4 13 "MixBenchModel" "special" "[J") (by decide +kernel)) (fun _ h9 => h9) rfl dX4_high_343 ?_
      refine lv_iload hx hb dX4_high_346 (lv_at hl 7 rfl) ?_
      refine va_lald hx hb hK hP 2 0 rfl rfl (vp_le7 h2 c41) dX4_high_348 ?_
      refine g_i (va_runV (As := [.int p1, .long (m_sp u4 p3.toNatClampNeg)]) (rest := []) ⟨hx, hb, hml, hown, hts⟩ (c_X4_done l yy a u4 p1 (m_sp u4 p3.toNatClampNeg) (h0) G H.size) (cwV 2 hts gX4_high_X4_done rfl rfl rfl (by decide +kernel) ⟨Nat.le_of_ble_eq_true rfl, Nat.le_of_ble_eq_true rfl⟩) (g_preV eTrue_bl hK hE hP hD hS hA 0 rfl rfl) rfl rfl hl.1 rfl (lv_room (Nat.le_of_ble_eq_true rfl)) dX4_high_349 ⟨Nat.le_of_ble_eq_true rfl, Nat.le_of_ble_eq_true rfl⟩) hD hS hA (fun H locs hP hD hS => ?_)
      refine lv_topi (fun v42 ev42 => ?_)
      obtain ⟨u43, eu43⟩ : ∃ z, z = (f_X4_done u4 p1 (m_sp u4 p3.toNatClampNeg)).2 := ⟨_, rfl⟩
      have hP : va_P G vwCl (wM yy a u43) H := by rw [eu43]; exact hP
      have hD : va_D A (wM yy a u43) := by rw [eu43]; exact hD
      exact g_iret (by have eu43 := eu43.symm; subst eu43; have ev42 := ev42.symm; subst ev42; have eu4 := eu4.symm; subst eu4; have ev3 := ev3.symm; subst ev3; have ev2 := ev2.symm; subst ev2; have ev1 := ev1.symm; subst ev1; exact (if_neg c5).trans ((if_neg c8).trans ((if_neg c11).trans ((if_neg c14).trans ((if_neg c17).trans ((if_neg c19).trans ((if_neg c22).trans ((if_neg c25).trans ((if_neg c28).trans ((if_neg c33).trans ((if_neg c38).trans ((if_pos c40).trans ((if_pos c41).trans (rfl)))))))))))))) hx hb hr hP hD hS hlocks dX4_high_352
    · refine lv_iconst (v := 2) hx hb dX4_high_336 (by decide) ?_
      refine lv_goto (tgt := 352) hx hb dX4_high_337 (by decide) ?_
      exact g_iret (by have eu4 := eu4.symm; subst eu4; have ev3 := ev3.symm; subst ev3; have ev2 := ev2.symm; subst ev2; have ev1 := ev1.symm; subst ev1; exact (if_neg c5).trans ((if_neg c8).trans ((if_neg c11).trans ((if_neg c14).trans ((if_neg c17).trans ((if_neg c19).trans ((if_neg c22).trans ((if_neg c25).trans ((if_neg c28).trans ((if_neg c33).trans ((if_neg c38).trans ((if_pos c40).trans ((if_neg c41).trans (rfl)))))))))))))) hx hb hr hP hD hS hlocks dX4_high_352
  refine sw_td hx hb [240, 241, 244, 245, 246, 247, 253, 254] (tgt := 353) dX4_high_130 (List.forall_mem_cons.mpr ⟨c17, (List.forall_mem_cons.mpr ⟨c19, (List.forall_mem_cons.mpr ⟨c22, (List.forall_mem_cons.mpr ⟨c25, (List.forall_mem_cons.mpr ⟨c28, (List.forall_mem_cons.mpr ⟨c33, (List.forall_mem_cons.mpr ⟨c38, (List.forall_mem_cons.mpr ⟨c40, (fun _ h => absurd h List.not_mem_nil)⟩)⟩)⟩)⟩)⟩)⟩)⟩)⟩) (by decide) (by decide) (by decide) ?_
  refine lv_iconst (v := 2) hx hb dX4_high_353 (by decide) ?_
  exact g_iret (by have eu4 := eu4.symm; subst eu4; have ev3 := ev3.symm; subst ev3; have ev2 := ev2.symm; subst ev2; have ev1 := ev1.symm; subst ev1; exact (if_neg c5).trans ((if_neg c8).trans ((if_neg c11).trans ((if_neg c14).trans ((if_neg c17).trans ((if_neg c19).trans ((if_neg c22).trans ((if_neg c25).trans ((if_neg c28).trans ((if_neg c33).trans ((if_neg c38).trans ((if_neg c40).trans (rfl))))))))))))) hx hb hr hP hD hS hlocks dX4_high_354
