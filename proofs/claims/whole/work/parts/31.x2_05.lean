def f_X3_perform (u : XS) (p0 : Int32) (p1 : Int64) (p2 : Int64) : XS :=
  let v1 : Int32 := f_X3_opOf p0;
  let v2 : Int64 := x_pc u;
  let u3 : XS := sx_pc u (v2 + (4 : Int64));
  if (jshr v1 (4 : Int32)) = (0 : Int32) then
    let u5 : XS := f_X3_trap u3 p0 v2;
    u5
  else
    if (jshr v1 (4 : Int32)) = (1 : Int32) then
      let v7 : Int64 := (f_X3_productOrQuotient u3 v1 p1 p2).1;
      let u8 : XS := (f_X3_productOrQuotient u3 v1 p1 p2).2;
      let u9 : XS := f_X3_writeX u8 p0 v7;
      u9
    else
      if (jshr v1 (4 : Int32)) = (2 : Int32) then
        let v11 : Int64 := (f_X3_sumOrDifference u3 v1 p1 p2).1;
        let u12 : XS := (f_X3_sumOrDifference u3 v1 p1 p2).2;
        let u13 : XS := f_X3_writeX u12 p0 v11;
        u13
      else
        if (jshr v1 (4 : Int32)) = (3 : Int32) then
          let v15 : Int64 := (f_X3_comparedOrShifted u3 p0 p1 p2).1;
          let u16 : XS := (f_X3_comparedOrShifted u3 p0 p1 p2).2;
          let u17 : XS := f_X3_writeX u16 p0 v15;
          u17
        else
          if (jshr v1 (4 : Int32)) = (4 : Int32) then
            let u19 : XS := f_X3_branch u3 p0 v2;
            u19
          else
            if (jshr v1 (4 : Int32)) = (5 : Int32) then
              let u21 : XS := f_X3_branch u3 p0 v2;
              u21
            else
              if (jshr v1 (4 : Int32)) = (6 : Int32) then
                let u23 : XS := f_X3_choose u3 p0 p1 p2;
                u23
              else
                if (jshr v1 (4 : Int32)) = (7 : Int32) then
                  let u25 : XS := f_X3_choose u3 p0 p1 p2;
                  u25
                else
                  if (jshr v1 (4 : Int32)) = (8 : Int32) then
                    let u27 : XS := f_X3_loadOrGo u3 p0 (p1 + p2) v2;
                    u27
                  else
                    if (jshr v1 (4 : Int32)) = (9 : Int32) then
                      let u29 : XS := f_X3_loadOrGo u3 p0 (p1 + p2) v2;
                      u29
                    else
                      if (jshr v1 (4 : Int32)) = (10 : Int32) then
                        let u31 : XS := f_X3_storeX u3 p0 (p1 + p2);
                        u31
                      else
                        if (jshr v1 (4 : Int32)) = (11 : Int32) then
                          let u33 : XS := f_X3_storeX u3 p0 (p1 + p2);
                          u33
                        else
                          if (jshr v1 (4 : Int32)) = (12 : Int32) then
                            let u35 : XS := f_X3_writeX u3 p0 (f_X2_bitwise v1 p1 p2);
                            u35
                          else
                            if (jshr v1 (4 : Int32)) = (13 : Int32) then
                              let v37 : Int64 := f_X3_bytewise u3 v1 p1 p2;
                              let u38 : XS := f_X3_writeX u3 p0 v37;
                              u38
                            else
                              if (jshr v1 (4 : Int32)) = (14 : Int32) then
                                let v40 : Int64 := f_X3_withWyde u3 p0;
                                let u41 : XS := f_X3_writeX u3 p0 v40;
                                u41
                              else
                                let u42 : XS := f_X3_performRest u3 p0 p2 v2;
                                u42
abbrev rm_X3_perform : Room := { frames := 4, cells := 0, slots := 0, locals := 95 }
set_option maxRecDepth 20000 in
theorem iw_X3_perform_X3 : ∀ w ∈ wsX30, w ∈ wsX3_perform := by decide +kernel
set_option maxHeartbeats 4000000 in
set_option maxRecDepth 100000 in
theorem c_X3_perform (l : Launch) (yy : Nat → ClassId) (a : Nat → Nat) (u : XS) (p0 : Int32) (p1 : Int64) (p2 : Int64) (h0 : 0 ≤ x_ol u) : gMv l yX3_perform wsX3_perform rm_X3_perform eX (sT yy) (wX yy a) [.ref (a 0), .int p0, .long p1, .long p2] u (f_X3_perform u p0 p1 p2) := by
  refine gm_ofW (Qc := gQv (wX yy a) (f_X3_perform u p0 p1 p2)) (by decide) rfl (Nat.le_of_ble_eq_true rfl) ?_
  intro G A p e s m args below meth c hx hb hr hml hts hown hlocks hK hE hA H locs hP hD hS ls hl
  have hl : lv_has ls 9 [(0, .ref (a 0)), (1, .int p0), (2, .long p1), (4, .long p2)] := hl
  refine lv_iload_n hx hb dX3_perform_0 rfl (lv_at hl 1 rfl) ?_
  refine p_i (W.runS (As := [.int p0]) (rest := []) ⟨hx, hb, hml, hown, hts⟩ (c_X3_opOf l p0 ) (va_cwS 1 hts gX3_perform_X3_opOf rfl rfl rfl (by decide +kernel) ⟨Nat.le_of_ble_eq_true rfl, Nat.le_of_ble_eq_true rfl⟩) p_preT rfl rfl hl.1 rfl (lv_room (Nat.le_of_ble_eq_true rfl)) dX3_perform_1 ⟨Nat.le_of_ble_eq_true rfl, Nat.le_of_ble_eq_true rfl⟩) ?_
  refine lv_topi (fun v1 ev1 => ?_)
  refine lv_istore (lv' := [(6, .int v1), (0, .ref (a 0)), (1, .int p0), (2, .long p1), (4, .long p2)]) hx hb dX3_perform_4 hl (by decide) rfl (fun ls hl => ?_)
  refine lv_aload_n hx hb dX3_perform_6 rfl (lv_at hl 1 rfl) ?_
  refine va_get (D := G) (ci := 1) (v := .long (x_pc u)) (C := RX3) (T := TX3) (N := 12) hx hb hts iw_X3_perform_X3 hown hK hP 0 rfl rfl 7 (by decide) (hts (.fieldLink RX3 73 "MixBench" "pc" "J") (by decide +kernel)) (fun _ h9 => h9) rfl dX3_perform_7 ?_
  refine lv_topl (fun v2 ev2 => ?_)
  refine lv_lstore (lv' := [(7, .long v2), (6, .int v1), (0, .ref (a 0)), (1, .int p0), (2, .long p1), (4, .long p2)]) hx hb dX3_perform_10 hl (by decide) rfl (fun ls hl => ?_)
  refine lv_aload_n hx hb dX3_perform_12 rfl (lv_at hl 2 rfl) ?_
  refine lv_lload hx hb dX3_perform_13 (lv_at hl 0 rfl) ?_
  refine lv_ldc2 hx hb hown (hts (.constantLong RX3 152 (4)) (by decide +kernel)) dX3_perform_15 ?_
  refine lv_ladd hx hb dX3_perform_18 ?_
  refine va_put (D := G) (ci := 1) (v := .long (v2 + (4 : Int64))) (ty := .long) (C := RX3) (T := TX3) (N := 12) hx hb hts iw_X3_perform_X3 tyX3 tyX3_ok nmX3 hown hK hP hD hS 0 rfl rfl 7 (by decide) (hts (.fieldLink RX3 73 "MixBench" "pc" "J") (by decide +kernel)) (fun _ h9 => h9) rfl (by decide +kernel) rfl rfl (Nat.le_of_ble_eq_true rfl) dX3_perform_19 (fun H locs hP hD hS => ?_)
  obtain ⟨u3, eu3⟩ : ∃ z, z = sx_pc u (v2 + (4 : Int64)) := ⟨_, rfl⟩
  have hP : va_P G vwCl (wX yy a u3) H := by rw [eu3]; exact hP
  have hD : va_D A (wX yy a u3) := by rw [eu3]; exact hD
  refine lv_iload hx hb dX3_perform_22 (lv_at hl 1 rfl) ?_
  refine lv_iconst (v := 4) hx hb dX3_perform_24 (by decide) ?_
  refine lv_ishr hx hb dX3_perform_25 ?_
  by_cases c4 : (jshr v1 (4 : Int32)) = 0
  · refine sw_t hx hb 0 (k := 0) (tgt := 100) dX3_perform_26 c4 (by decide) rfl (by decide) ?_
    refine lv_aload_n hx hb dX3_perform_100 rfl (lv_at hl 2 rfl) ?_
    refine lv_iload_n hx hb dX3_perform_101 rfl (lv_at hl 3 rfl) ?_
    refine lv_lload hx hb dX3_perform_102 (lv_at hl 0 rfl) ?_
    refine g_v (va_runV (As := [.int p0, .long v2]) (rest := []) ⟨hx, hb, hml, hown, hts⟩ (c_X3_trap l yy a u3 p0 v2 (by have eu3 := eu3.symm; subst eu3; have ev2 := ev2.symm; subst ev2; have ev1 := ev1.symm; subst ev1; exact h0) G H.size) (cwV 2 hts gX3_perform_X3_trap rfl rfl rfl (by decide +kernel) ⟨Nat.le_of_ble_eq_true rfl, Nat.le_of_ble_eq_true rfl⟩) (g_preV eX_bl hK hE hP hD hS hA 0 rfl rfl) rfl rfl hl.1 rfl (lv_room (Nat.le_of_ble_eq_true rfl)) dX3_perform_104 ⟨Nat.le_of_ble_eq_true rfl, Nat.le_of_ble_eq_true rfl⟩) hD hS hA (fun H locs hP hD hS => ?_)
    obtain ⟨u5, eu5⟩ : ∃ z, z = f_X3_trap u3 p0 v2 := ⟨_, rfl⟩
    have hP : va_P G vwCl (wX yy a u5) H := by rw [eu5]; exact hP
    have hD : va_D A (wX yy a u5) := by rw [eu5]; exact hD
    refine lv_goto (tgt := 262) hx hb dX3_perform_107 (by decide) ?_
    exact g_vret (by have eu5 := eu5.symm; subst eu5; have eu3 := eu3.symm; subst eu3; have ev2 := ev2.symm; subst ev2; have ev1 := ev1.symm; subst ev1; exact (if_pos c4).trans (rfl)) hx hb hr hP hD hS hlocks dX3_perform_262
  by_cases c6 : (jshr v1 (4 : Int32)) = 1
  · refine sw_t hx hb 1 (k := 1) (tgt := 110) dX3_perform_26 c6 (by decide) rfl (by decide) ?_
    refine lv_aload_n hx hb dX3_perform_110 rfl (lv_at hl 2 rfl) ?_
    refine lv_iload_n hx hb dX3_perform_111 rfl (lv_at hl 3 rfl) ?_
    refine lv_aload_n hx hb dX3_perform_112 rfl (lv_at hl 2 rfl) ?_
    refine lv_iload hx hb dX3_perform_113 (lv_at hl 1 rfl) ?_
    refine lv_lload_n hx hb dX3_perform_115 rfl (lv_at hl 4 rfl) ?_
    refine lv_lload hx hb dX3_perform_116 (lv_at hl 5 rfl) ?_
    refine g_l (va_runV (As := [.int v1, .long p1, .long p2]) (rest := [.int p0, .ref (a 0)]) ⟨hx, hb, hml, hown, hts⟩ (c_X3_productOrQuotient l yy a u3 v1 p1 p2  G H.size) (cwV 3 hts gX3_perform_X3_productOrQuotient rfl rfl rfl (by decide +kernel) ⟨Nat.le_of_ble_eq_true rfl, Nat.le_of_ble_eq_true rfl⟩) (g_preV eX_bl hK hE hP hD hS hA 0 rfl rfl) rfl rfl hl.1 rfl (lv_room (Nat.le_of_ble_eq_true rfl)) dX3_perform_118 ⟨Nat.le_of_ble_eq_true rfl, Nat.le_of_ble_eq_true rfl⟩) hD hS hA (fun H locs hP hD hS => ?_)
    refine lv_topl (fun v7 ev7 => ?_)
    obtain ⟨u8, eu8⟩ : ∃ z, z = (f_X3_productOrQuotient u3 v1 p1 p2).2 := ⟨_, rfl⟩
    have hP : va_P G vwCl (wX yy a u8) H := by rw [eu8]; exact hP
    have hD : va_D A (wX yy a u8) := by rw [eu8]; exact hD
    refine g_v (va_runV (As := [.int p0, .long v7]) (rest := []) ⟨hx, hb, hml, hown, hts⟩ (c_X3_writeX l yy a u8 p0 v7  G H.size) (cwV 2 hts gX3_perform_X3_writeX rfl rfl rfl (by decide +kernel) ⟨Nat.le_of_ble_eq_true rfl, Nat.le_of_ble_eq_true rfl⟩) (g_preV eX_bl hK hE hP hD hS hA 0 rfl rfl) rfl rfl hl.1 rfl (lv_room (Nat.le_of_ble_eq_true rfl)) dX3_perform_121 ⟨Nat.le_of_ble_eq_true rfl, Nat.le_of_ble_eq_true rfl⟩) hD hS hA (fun H locs hP hD hS => ?_)
    obtain ⟨u9, eu9⟩ : ∃ z, z = f_X3_writeX u8 p0 v7 := ⟨_, rfl⟩
    have hP : va_P G vwCl (wX yy a u9) H := by rw [eu9]; exact hP
    have hD : va_D A (wX yy a u9) := by rw [eu9]; exact hD
    refine lv_goto (tgt := 262) hx hb dX3_perform_124 (by decide) ?_
    exact g_vret (by have eu9 := eu9.symm; subst eu9; have eu8 := eu8.symm; subst eu8; have ev7 := ev7.symm; subst ev7; have eu3 := eu3.symm; subst eu3; have ev2 := ev2.symm; subst ev2; have ev1 := ev1.symm; subst ev1; exact (if_neg c4).trans ((if_pos c6).trans (rfl))) hx hb hr hP hD hS hlocks dX3_perform_262
  by_cases c10 : (jshr v1 (4 : Int32)) = 2
  · refine sw_t hx hb 2 (k := 2) (tgt := 127) dX3_perform_26 c10 (by decide) rfl (by decide) ?_
    refine lv_aload_n hx hb dX3_perform_127 rfl (lv_at hl 2 rfl) ?_
    refine lv_iload_n hx hb dX3_perform_128 rfl (lv_at hl 3 rfl) ?_
    refine lv_aload_n hx hb dX3_perform_129 rfl (lv_at hl 2 rfl) ?_
    refine lv_iload hx hb dX3_perform_130 (lv_at hl 1 rfl) ?_
    refine lv_lload_n hx hb dX3_perform_132 rfl (lv_at hl 4 rfl) ?_
    refine lv_lload hx hb dX3_perform_133 (lv_at hl 5 rfl) ?_
    refine g_l (va_runV (As := [.int v1, .long p1, .long p2]) (rest := [.int p0, .ref (a 0)]) ⟨hx, hb, hml, hown, hts⟩ (c_X3_sumOrDifference l yy a u3 v1 p1 p2  G H.size) (cwV 3 hts gX3_perform_X3_sumOrDifference rfl rfl rfl (by decide +kernel) ⟨Nat.le_of_ble_eq_true rfl, Nat.le_of_ble_eq_true rfl⟩) (g_preV eX_bl hK hE hP hD hS hA 0 rfl rfl) rfl rfl hl.1 rfl (lv_room (Nat.le_of_ble_eq_true rfl)) dX3_perform_135 ⟨Nat.le_of_ble_eq_true rfl, Nat.le_of_ble_eq_true rfl⟩) hD hS hA (fun H locs hP hD hS => ?_)
    refine lv_topl (fun v11 ev11 => ?_)
    obtain ⟨u12, eu12⟩ : ∃ z, z = (f_X3_sumOrDifference u3 v1 p1 p2).2 := ⟨_, rfl⟩
    have hP : va_P G vwCl (wX yy a u12) H := by rw [eu12]; exact hP
    have hD : va_D A (wX yy a u12) := by rw [eu12]; exact hD
    refine g_v (va_runV (As := [.int p0, .long v11]) (rest := []) ⟨hx, hb, hml, hown, hts⟩ (c_X3_writeX l yy a u12 p0 v11  G H.size) (cwV 2 hts gX3_perform_X3_writeX rfl rfl rfl (by decide +kernel) ⟨Nat.le_of_ble_eq_true rfl, Nat.le_of_ble_eq_true rfl⟩) (g_preV eX_bl hK hE hP hD hS hA 0 rfl rfl) rfl rfl hl.1 rfl (lv_room (Nat.le_of_ble_eq_true rfl)) dX3_perform_138 ⟨Nat.le_of_ble_eq_true rfl, Nat.le_of_ble_eq_true rfl⟩) hD hS hA (fun H locs hP hD hS => ?_)
    obtain ⟨u13, eu13⟩ : ∃ z, z = f_X3_writeX u12 p0 v11 := ⟨_, rfl⟩
    have hP : va_P G vwCl (wX yy a u13) H := by rw [eu13]; exact hP
    have hD : va_D A (wX yy a u13) := by rw [eu13]; exact hD
    refine lv_goto (tgt := 262) hx hb dX3_perform_141 (by decide) ?_
    exact g_vret (by have eu13 := eu13.symm; subst eu13; have eu12 := eu12.symm; subst eu12; have ev11 := ev11.symm; subst ev11; have eu3 := eu3.symm; subst eu3; have ev2 := ev2.symm; subst ev2; have ev1 := ev1.symm; subst ev1; exact (if_neg c4).trans ((if_neg c6).trans ((if_pos c10).trans (rfl)))) hx hb hr hP hD hS hlocks dX3_perform_262
  by_cases c14 : (jshr v1 (4 : Int32)) = 3
  · refine sw_t hx hb 3 (k := 3) (tgt := 144) dX3_perform_26 c14 (by decide) rfl (by decide) ?_
    refine lv_aload_n hx hb dX3_perform_144 rfl (lv_at hl 2 rfl) ?_
    refine lv_iload_n hx hb dX3_perform_145 rfl (lv_at hl 3 rfl) ?_
    refine lv_aload_n hx hb dX3_perform_146 rfl (lv_at hl 2 rfl) ?_
    refine lv_iload_n hx hb dX3_perform_147 rfl (lv_at hl 3 rfl) ?_
    refine lv_lload_n hx hb dX3_perform_148 rfl (lv_at hl 4 rfl) ?_
    refine lv_lload hx hb dX3_perform_149 (lv_at hl 5 rfl) ?_
    refine g_l (va_runV (As := [.int p0, .long p1, .long p2]) (rest := [.int p0, .ref (a 0)]) ⟨hx, hb, hml, hown, hts⟩ (c_X3_comparedOrShifted l yy a u3 p0 p1 p2  G H.size) (cwV 3 hts gX3_perform_X3_comparedOrShifted rfl rfl rfl (by decide +kernel) ⟨Nat.le_of_ble_eq_true rfl, Nat.le_of_ble_eq_true rfl⟩) (g_preV eX_bl hK hE hP hD hS hA 0 rfl rfl) rfl rfl hl.1 rfl (lv_room (Nat.le_of_ble_eq_true rfl)) dX3_perform_151 ⟨Nat.le_of_ble_eq_true rfl, Nat.le_of_ble_eq_true rfl⟩) hD hS hA (fun H locs hP hD hS => ?_)
    refine lv_topl (fun v15 ev15 => ?_)
    obtain ⟨u16, eu16⟩ : ∃ z, z = (f_X3_comparedOrShifted u3 p0 p1 p2).2 := ⟨_, rfl⟩
    have hP : va_P G vwCl (wX yy a u16) H := by rw [eu16]; exact hP
    have hD : va_D A (wX yy a u16) := by rw [eu16]; exact hD
    refine g_v (va_runV (As := [.int p0, .long v15]) (rest := []) ⟨hx, hb, hml, hown, hts⟩ (c_X3_writeX l yy a u16 p0 v15  G H.size) (cwV 2 hts gX3_perform_X3_writeX rfl rfl rfl (by decide +kernel) ⟨Nat.le_of_ble_eq_true rfl, Nat.le_of_ble_eq_true rfl⟩) (g_preV eX_bl hK hE hP hD hS hA 0 rfl rfl) rfl rfl hl.1 rfl (lv_room (Nat.le_of_ble_eq_true rfl)) dX3_perform_154 ⟨Nat.le_of_ble_eq_true rfl, Nat.le_of_ble_eq_true rfl⟩) hD hS hA (fun H locs hP hD hS => ?_)
    obtain ⟨u17, eu17⟩ : ∃ z, z = f_X3_writeX u16 p0 v15 := ⟨_, rfl⟩
    have hP : va_P G vwCl (wX yy a u17) H := by rw [eu17]; exact hP
    have hD : va_D A (wX yy a u17) := by rw [eu17]; exact hD
    refine lv_goto (tgt := 262) hx hb dX3_perform_157 (by decide) ?_
    exact g_vret (by have eu17 := eu17.symm; subst eu17; have eu16 := eu16.symm; subst eu16; have ev15 := ev15.symm; subst ev15; have eu3 := eu3.symm; subst eu3; have ev2 := ev2.symm; subst ev2; have ev1 := ev1.symm; subst ev1; exact (if_neg c4).trans ((if_neg c6).trans ((if_neg c10).trans ((if_pos c14).trans (rfl))))) hx hb hr hP hD hS hlocks dX3_perform_262
  by_cases c18 : (jshr v1 (4 : Int32)) = 4
  · refine sw_t hx hb 4 (k := 4) (tgt := 160) dX3_perform_26 c18 (by decide) rfl (by decide) ?_
    refine lv_aload_n hx hb dX3_perform_160 rfl (lv_at hl 2 rfl) ?_
    refine lv_iload_n hx hb dX3_perform_161 rfl (lv_at hl 3 rfl) ?_
    refine lv_lload hx hb dX3_perform_162 (lv_at hl 0 rfl) ?_
    refine g_v (va_runV (As := [.int p0, .long v2]) (rest := []) ⟨hx, hb, hml, hown, hts⟩ (c_X3_branch l yy a u3 p0 v2  G H.size) (cwV 2 hts gX3_perform_X3_branch rfl rfl rfl (by decide +kernel) ⟨Nat.le_of_ble_eq_true rfl, Nat.le_of_ble_eq_true rfl⟩) (g_preV eX_bl hK hE hP hD hS hA 0 rfl rfl) rfl rfl hl.1 rfl (lv_room (Nat.le_of_ble_eq_true rfl)) dX3_perform_164 ⟨Nat.le_of_ble_eq_true rfl, Nat.le_of_ble_eq_true rfl⟩) hD hS hA (fun H locs hP hD hS => ?_)
    obtain ⟨u19, eu19⟩ : ∃ z, z = f_X3_branch u3 p0 v2 := ⟨_, rfl⟩
    have hP : va_P G vwCl (wX yy a u19) H := by rw [eu19]; exact hP
    have hD : va_D A (wX yy a u19) := by rw [eu19]; exact hD
    refine lv_goto (tgt := 262) hx hb dX3_perform_167 (by decide) ?_
    exact g_vret (by have eu19 := eu19.symm; subst eu19; have eu3 := eu3.symm; subst eu3; have ev2 := ev2.symm; subst ev2; have ev1 := ev1.symm; subst ev1; exact (if_neg c4).trans ((if_neg c6).trans ((if_neg c10).trans ((if_neg c14).trans ((if_pos c18).trans (rfl)))))) hx hb hr hP hD hS hlocks dX3_perform_262
  by_cases c20 : (jshr v1 (4 : Int32)) = 5
  · refine sw_t hx hb 5 (k := 5) (tgt := 160) dX3_perform_26 c20 (by decide) rfl (by decide) ?_
    refine lv_aload_n hx hb dX3_perform_160 rfl (lv_at hl 2 rfl) ?_
    refine lv_iload_n hx hb dX3_perform_161 rfl (lv_at hl 3 rfl) ?_
    refine lv_lload hx hb dX3_perform_162 (lv_at hl 0 rfl) ?_
    refine g_v (va_runV (As := [.int p0, .long v2]) (rest := []) ⟨hx, hb, hml, hown, hts⟩ (c_X3_branch l yy a u3 p0 v2  G H.size) (cwV 2 hts gX3_perform_X3_branch rfl rfl rfl (by decide +kernel) ⟨Nat.le_of_ble_eq_true rfl, Nat.le_of_ble_eq_true rfl⟩) (g_preV eX_bl hK hE hP hD hS hA 0 rfl rfl) rfl rfl hl.1 rfl (lv_room (Nat.le_of_ble_eq_true rfl)) dX3_perform_164 ⟨Nat.le_of_ble_eq_true rfl, Nat.le_of_ble_eq_true rfl⟩) hD hS hA (fun H locs hP hD hS => ?_)
    obtain ⟨u21, eu21⟩ : ∃ z, z = f_X3_branch u3 p0 v2 := ⟨_, rfl⟩
    have hP : va_P G vwCl (wX yy a u21) H := by rw [eu21]; exact hP
    have hD : va_D A (wX yy a u21) := by rw [eu21]; exact hD
    refine lv_goto (tgt := 262) hx hb dX3_perform_167 (by decide) ?_
    exact g_vret (by have eu21 := eu21.symm; subst eu21; have eu3 := eu3.symm; subst eu3; have ev2 := ev2.symm; subst ev2; have ev1 := ev1.symm; subst ev1; exact (if_neg c4).trans ((if_neg c6).trans ((if_neg c10).trans ((if_neg c14).trans ((if_neg c18).trans ((if_pos c20).trans (rfl))))))) hx hb hr hP hD hS hlocks dX3_perform_262
  by_cases c22 : (jshr v1 (4 : Int32)) = 6
  · refine sw_t hx hb 6 (k := 6) (tgt := 170) dX3_perform_26 c22 (by decide) rfl (by decide) ?_
    refine lv_aload_n hx hb dX3_perform_170 rfl (lv_at hl 2 rfl) ?_
    refine lv_iload_n hx hb dX3_perform_171 rfl (lv_at hl 3 rfl) ?_
    refine lv_lload_n hx hb dX3_perform_172 rfl (lv_at hl 4 rfl) ?_
    refine lv_lload hx hb dX3_perform_173 (lv_at hl 5 rfl) ?_
    refine g_v (va_runV (As := [.int p0, .long p1, .long p2]) (rest := []) ⟨hx, hb, hml, hown, hts⟩ (c_X3_choose l yy a u3 p0 p1 p2  G H.size) (cwV 3 hts gX3_perform_X3_choose rfl rfl rfl (by decide +kernel) ⟨Nat.le_of_ble_eq_true rfl, Nat.le_of_ble_eq_true rfl⟩) (g_preV eX_bl hK hE hP hD hS hA 0 rfl rfl) rfl rfl hl.1 rfl (lv_room (Nat.le_of_ble_eq_true rfl)) dX3_perform_175 ⟨Nat.le_of_ble_eq_true rfl, Nat.le_of_ble_eq_true rfl⟩) hD hS hA (fun H locs hP hD hS => ?_)
    obtain ⟨u23, eu23⟩ : ∃ z, z = f_X3_choose u3 p0 p1 p2 := ⟨_, rfl⟩
    have hP : va_P G vwCl (wX yy a u23) H := by rw [eu23]; exact hP
    have hD : va_D A (wX yy a u23) := by rw [eu23]; exact hD
    refine lv_goto (tgt := 262) hx hb dX3_perform_178 (by decide) ?_
    exact g_vret (by have eu23 := eu23.symm; subst eu23; have eu3 := eu3.symm; subst eu3; have ev2 := ev2.symm; subst ev2; have ev1 := ev1.symm; subst ev1; exact (if_neg c4).trans ((if_neg c6).trans ((if_neg c10).trans ((if_neg c14).trans ((if_neg c18).trans ((if_neg c20).trans ((if_pos c22).trans (rfl)))))))) hx hb hr hP hD hS hlocks dX3_perform_262
  by_cases c24 : (jshr v1 (4 : Int32)) = 7
  · refine sw_t hx hb 7 (k := 7) (tgt := 170) dX3_perform_26 c24 (by decide) rfl (by decide) ?_
    refine lv_aload_n hx hb dX3_perform_170 rfl (lv_at hl 2 rfl) ?_
    refine lv_iload_n hx hb dX3_perform_171 rfl (lv_at hl 3 rfl) ?_
    refine lv_lload_n hx hb dX3_perform_172 rfl (lv_at hl 4 rfl) ?_
    refine lv_lload hx hb dX3_perform_173 (lv_at hl 5 rfl) ?_
    refine g_v (va_runV (As := [.int p0, .long p1, .long p2]) (rest := []) ⟨hx, hb, hml, hown, hts⟩ (c_X3_choose l yy a u3 p0 p1 p2  G H.size) (cwV 3 hts gX3_perform_X3_choose rfl rfl rfl (by decide +kernel) ⟨Nat.le_of_ble_eq_true rfl, Nat.le_of_ble_eq_true rfl⟩) (g_preV eX_bl hK hE hP hD hS hA 0 rfl rfl) rfl rfl hl.1 rfl (lv_room (Nat.le_of_ble_eq_true rfl)) dX3_perform_175 ⟨Nat.le_of_ble_eq_true rfl, Nat.le_of_ble_eq_true rfl⟩) hD hS hA (fun H locs hP hD hS => ?_)
    obtain ⟨u25, eu25⟩ : ∃ z, z = f_X3_choose u3 p0 p1 p2 := ⟨_, rfl⟩
    have hP : va_P G vwCl (wX yy a u25) H := by rw [eu25]; exact hP
    have hD : va_D A (wX yy a u25) := by rw [eu25]; exact hD
    refine lv_goto (tgt := 262) hx hb dX3_perform_178 (by decide) ?_
    exact g_vret (by have eu25 := eu25.symm; subst eu25; have eu3 := eu3.symm; subst eu3; have ev2 := ev2.symm; subst ev2; have ev1 := ev1.symm; subst ev1; exact (if_neg c4).trans ((if_neg c6).trans ((if_neg c10).trans ((if_neg c14).trans ((if_neg c18).trans ((if_neg c20).trans ((if_neg c22).trans ((if_pos c24).trans (rfl))))))))) hx hb hr hP hD hS hlocks dX3_perform_262
  by_cases c26 : (jshr v1 (4 : Int32)) = 8
  · refine sw_t hx hb 8 (k := 8) (tgt := 181) dX3_perform_26 c26 (by decide) rfl (by decide) ?_
    refine lv_aload_n hx hb dX3_perform_181 rfl (lv_at hl 2 rfl) ?_
    refine lv_iload_n hx hb dX3_perform_182 rfl (lv_at hl 3 rfl) ?_
    refine lv_lload_n hx hb dX3_perform_183 rfl (lv_at hl 4 rfl) ?_
    refine lv_lload hx hb dX3_perform_184 (lv_at hl 5 rfl) ?_
    refine lv_ladd hx hb dX3_perform_186 ?_
    refine lv_lload hx hb dX3_perform_187 (lv_at hl 0 rfl) ?_
    refine g_v (va_runV (As := [.int p0, .long (p1 + p2), .long v2]) (rest := []) ⟨hx, hb, hml, hown, hts⟩ (c_X3_loadOrGo l yy a u3 p0 (p1 + p2) v2  G H.size) (cwV 3 hts gX3_perform_X3_loadOrGo rfl rfl rfl (by decide +kernel) ⟨Nat.le_of_ble_eq_true rfl, Nat.le_of_ble_eq_true rfl⟩) (g_preV eX_bl hK hE hP hD hS hA 0 rfl rfl) rfl rfl hl.1 rfl (lv_room (Nat.le_of_ble_eq_true rfl)) dX3_perform_189 ⟨Nat.le_of_ble_eq_true rfl, Nat.le_of_ble_eq_true rfl⟩) hD hS hA (fun H locs hP hD hS => ?_)
    obtain ⟨u27, eu27⟩ : ∃ z, z = f_X3_loadOrGo u3 p0 (p1 + p2) v2 := ⟨_, rfl⟩
    have hP : va_P G vwCl (wX yy a u27) H := by rw [eu27]; exact hP
    have hD : va_D A (wX yy a u27) := by rw [eu27]; exact hD
    refine lv_goto (tgt := 262) hx hb dX3_perform_192 (by decide) ?_
    exact g_vret (by have eu27 := eu27.symm; subst eu27; have eu3 := eu3.symm; subst eu3; have ev2 := ev2.symm; subst ev2; have ev1 := ev1.symm; subst ev1; exact (if_neg c4).trans ((if_neg c6).trans ((if_neg c10).trans ((if_neg c14).trans ((if_neg c18).trans ((if_neg c20).trans ((if_neg c22).trans ((if_neg c24).trans ((if_pos c26).trans (rfl)))))))))) hx hb hr hP hD hS hlocks dX3_perform_262
  by_cases c28 : (jshr v1 (4 : Int32)) = 9
  · refine sw_t hx hb 9 (k := 9) (tgt := 181) dX3_perform_26 c28 (by decide) rfl (by decide) ?_
    refine lv_aload_n hx hb dX3_perform_181 rfl (lv_at hl 2 rfl) ?_
    refine lv_iload_n hx hb dX3_perform_182 rfl (lv_at hl 3 rfl) ?_
    refine lv_lload_n hx hb dX3_perform_183 rfl (lv_at hl 4 rfl) ?_
    refine lv_lload hx hb dX3_perform_184 (lv_at hl 5 rfl) ?_
    refine lv_ladd hx hb dX3_perform_186 ?_
    refine lv_lload hx hb dX3_perform_187 (lv_at hl 0 rfl) ?_
    refine g_v (va_runV (As := [.int p0, .long (p1 + p2), .long v2]) (rest := []) ⟨hx, hb, hml, hown, hts⟩ (c_X3_loadOrGo l yy a u3 p0 (p1 + p2) v2  G H.size) (cwV 3 hts gX3_perform_X3_loadOrGo rfl rfl rfl (by decide +kernel) ⟨Nat.le_of_ble_eq_true rfl, Nat.le_of_ble_eq_true rfl⟩) (g_preV eX_bl hK hE hP hD hS hA 0 rfl rfl) rfl rfl hl.1 rfl (lv_room (Nat.le_of_ble_eq_true rfl)) dX3_perform_189 ⟨Nat.le_of_ble_eq_true rfl, Nat.le_of_ble_eq_true rfl⟩) hD hS hA (fun H locs hP hD hS => ?_)
    obtain ⟨u29, eu29⟩ : ∃ z, z = f_X3_loadOrGo u3 p0 (p1 + p2) v2 := ⟨_, rfl⟩
    have hP : va_P G vwCl (wX yy a u29) H := by rw [eu29]; exact hP
    have hD : va_D A (wX yy a u29) := by rw [eu29]; exact hD
    refine lv_goto (tgt := 262) hx hb dX3_perform_192 (by decide) ?_
    exact g_vret (by have eu29 := eu29.symm; subst eu29; have eu3 := eu3.symm; subst eu3; have ev2 := ev2.symm; subst ev2; have ev1 := ev1.symm; subst ev1; exact (if_neg c4).trans ((if_neg c6).trans ((if_neg c10).trans ((if_neg c14).trans ((if_neg c18).trans ((if_neg c20).trans ((if_neg c22).trans ((if_neg c24).trans ((if_neg c26).trans ((if_pos c28).trans (rfl))))))))))) hx hb hr hP hD hS hlocks dX3_perform_262
  by_cases c30 : (jshr v1 (4 : Int32)) = 10
  · refine sw_t hx hb 10 (k := 10) (tgt := 195) dX3_perform_26 c30 (by decide) rfl (by decide) ?_
    refine lv_aload_n hx hb dX3_perform_195 rfl (lv_at hl 2 rfl) ?_
    refine lv_iload_n hx hb dX3_perform_196 rfl (lv_at hl 3 rfl) ?_
    refine lv_lload_n hx hb dX3_perform_197 rfl (lv_at hl 4 rfl) ?_
    refine lv_lload hx hb dX3_perform_198 (lv_at hl 5 rfl) ?_
    refine lv_ladd hx hb dX3_perform_200 ?_
    refine g_v (va_runV (As := [.int p0, .long (p1 + p2)]) (rest := []) ⟨hx, hb, hml, hown, hts⟩ (c_X3_storeX l yy a u3 p0 (p1 + p2)  G H.size) (cwV 2 hts gX3_perform_X3_storeX rfl rfl rfl (by decide +kernel) ⟨Nat.le_of_ble_eq_true rfl, Nat.le_of_ble_eq_true rfl⟩) (g_preV eX_bl hK hE hP hD hS hA 0 rfl rfl) rfl rfl hl.1 rfl (lv_room (Nat.le_of_ble_eq_true rfl)) dX3_perform_201 ⟨Nat.le_of_ble_eq_true rfl, Nat.le_of_ble_eq_true rfl⟩) hD hS hA (fun H locs hP hD hS => ?_)
    obtain ⟨u31, eu31⟩ : ∃ z, z = f_X3_storeX u3 p0 (p1 + p2) := ⟨_, rfl⟩
    have hP : va_P G vwCl (wX yy a u31) H := by rw [eu31]; exact hP
    have hD : va_D A (wX yy a u31) := by rw [eu31]; exact hD
    refine lv_goto (tgt := 262) hx hb dX3_perform_204 (by decide) ?_
    exact g_vret (by have eu31 := eu31.symm; subst eu31; have eu3 := eu3.symm; subst eu3; have ev2 := ev2.symm; subst ev2; have ev1 := ev1.symm; subst ev1; exact (if_neg c4).trans ((if_neg c6).trans ((if_neg c10).trans ((if_neg c14).trans ((if_neg c18).trans ((if_neg c20).trans ((if_neg c22).trans ((if_neg c24).trans ((if_neg c26).trans ((if_neg c28).trans ((if_pos c30).trans (rfl)))))))))))) hx hb hr hP hD hS hlocks dX3_perform_262
  by_cases c32 : (jshr v1 (4 : Int32)) = 11
  · refine sw_t hx hb 11 (k := 11) (tgt := 195) dX3_perform_26 c32 (by decide) rfl (by decide) ?_
    refine lv_aload_n hx hb dX3_perform_195 rfl (lv_at hl 2 rfl) ?_
    refine lv_iload_n hx hb dX3_perform_196 rfl (lv_at hl 3 rfl) ?_
    refine lv_lload_n hx hb dX3_perform_197 rfl (lv_at hl 4 rfl) ?_
    refine lv_lload hx hb dX3_perform_198 (lv_at hl 5 rfl) ?_
    refine lv_ladd hx hb dX3_perform_200 ?_
    refine g_v (va_runV (As := [.int p0, .long (p1 + p2)]) (rest := []) ⟨hx, hb, hml, hown, hts⟩ (c_X3_storeX l yy a u3 p0 (p1 + p2)  G H.size) (cwV 2 hts gX3_perform_X3_storeX rfl rfl rfl (by decide +kernel) ⟨Nat.le_of_ble_eq_true rfl, Nat.le_of_ble_eq_true rfl⟩) (g_preV eX_bl hK hE hP hD hS hA 0 rfl rfl) rfl rfl hl.1 rfl (lv_room (Nat.le_of_ble_eq_true rfl)) dX3_perform_201 ⟨Nat.le_of_ble_eq_true rfl, Nat.le_of_ble_eq_true rfl⟩) hD hS hA (fun H locs hP hD hS => ?_)
    obtain ⟨u33, eu33⟩ : ∃ z, z = f_X3_storeX u3 p0 (p1 + p2) := ⟨_, rfl⟩
    have hP : va_P G vwCl (wX yy a u33) H := by rw [eu33]; exact hP
    have hD : va_D A (wX yy a u33) := by rw [eu33]; exact hD
    refine lv_goto (tgt := 262) hx hb dX3_perform_204 (by decide) ?_
    exact g_vret (by have eu33 := eu33.symm; subst eu33; have eu3 := eu3.symm; subst eu3; have ev2 := ev2.symm; subst ev2; have ev1 := ev1.symm; subst ev1; exact (if_neg c4).trans ((if_neg c6).trans ((if_neg c10).trans ((if_neg c14).trans ((if_neg c18).trans ((if_neg c20).trans ((if_neg c22).trans ((if_neg c24).trans ((if_neg c26).trans ((if_neg c28).trans ((if_neg c30).trans ((if_pos c32).trans (rfl))))))))))))) hx hb hr hP hD hS hlocks dX3_perform_262
  by_cases c34 : (jshr v1 (4 : Int32)) = 12
  · refine sw_t hx hb 12 (k := 12) (tgt := 207) dX3_perform_26 c34 (by decide) rfl (by decide) ?_
    refine lv_aload_n hx hb dX3_perform_207 rfl (lv_at hl 2 rfl) ?_
    refine lv_iload_n hx hb dX3_perform_208 rfl (lv_at hl 3 rfl) ?_
    refine lv_iload hx hb dX3_perform_209 (lv_at hl 1 rfl) ?_
    refine lv_lload_n hx hb dX3_perform_211 rfl (lv_at hl 4 rfl) ?_
    refine lv_lload hx hb dX3_perform_212 (lv_at hl 5 rfl) ?_
    refine p_l (g_run (va_runSN (As := [.int v1, .long p1, .long p2]) (rest := [.int p0, .ref (a 0)]) ⟨hx, hb, hml, hown, hts⟩ (c_X2_bitwise l v1 p1 p2 ) ⟨va_cnB 3 hts gX3_perform_X2_bitwise_n183 rfl rfl rfl (hE.1 (183, yX2_bitwise) (by decide +kernel)) (hts (.initialized RX2) (by decide +kernel)) (by decide +kernel) ⟨Nat.le_of_ble_eq_true rfl, Nat.le_of_ble_eq_true rfl⟩, (hts (.static yX2_bitwise) (by decide +kernel)), trivial⟩ p_preT rfl rfl hl.1 rfl (lv_room (Nat.le_of_ble_eq_true rfl)) dX3_perform_214 ⟨Nat.le_of_ble_eq_true rfl, Nat.le_of_ble_eq_true rfl⟩)) ?_
    refine g_v (va_runV (As := [.int p0, .long (f_X2_bitwise v1 p1 p2)]) (rest := []) ⟨hx, hb, hml, hown, hts⟩ (c_X3_writeX l yy a u3 p0 (f_X2_bitwise v1 p1 p2)  G H.size) (cwV 2 hts gX3_perform_X3_writeX rfl rfl rfl (by decide +kernel) ⟨Nat.le_of_ble_eq_true rfl, Nat.le_of_ble_eq_true rfl⟩) (g_preV eX_bl hK hE hP hD hS hA 0 rfl rfl) rfl rfl hl.1 rfl (lv_room (Nat.le_of_ble_eq_true rfl)) dX3_perform_217 ⟨Nat.le_of_ble_eq_true rfl, Nat.le_of_ble_eq_true rfl⟩) hD hS hA (fun H locs hP hD hS => ?_)
    obtain ⟨u35, eu35⟩ : ∃ z, z = f_X3_writeX u3 p0 (f_X2_bitwise v1 p1 p2) := ⟨_, rfl⟩
    have hP : va_P G vwCl (wX yy a u35) H := by rw [eu35]; exact hP
    have hD : va_D A (wX yy a u35) := by rw [eu35]; exact hD
    refine lv_goto (tgt := 262) hx hb dX3_perform_220 (by decide) ?_
    exact g_vret (by have eu35 := eu35.symm; subst eu35; have eu3 := eu3.symm; subst eu3; have ev2 := ev2.symm; subst ev2; have ev1 := ev1.symm; subst ev1; exact (if_neg c4).trans ((if_neg c6).trans ((if_neg c10).trans ((if_neg c14).trans ((if_neg c18).trans ((if_neg c20).trans ((if_neg c22).trans ((if_neg c24).trans ((if_neg c26).trans ((if_neg c28).trans ((if_neg c30).trans ((if_neg c32).trans ((if_pos c34).trans (rfl)))))))))))))) hx hb hr hP hD hS hlocks dX3_perform_262
  by_cases c36 : (jshr v1 (4 : Int32)) = 13
  · refine sw_t hx hb 13 (k := 13) (tgt := 223) dX3_perform_26 c36 (by decide) rfl (by decide) ?_
    refine lv_aload_n hx hb dX3_perform_223 rfl (lv_at hl 2 rfl) ?_
    refine lv_iload_n hx hb dX3_perform_224 rfl (lv_at hl 3 rfl) ?_
    refine lv_aload_n hx hb dX3_perform_225 rfl (lv_at hl 2 rfl) ?_
    refine lv_iload hx hb dX3_perform_226 (lv_at hl 1 rfl) ?_
    refine lv_lload_n hx hb dX3_perform_228 rfl (lv_at hl 4 rfl) ?_
    refine lv_lload hx hb dX3_perform_229 (lv_at hl 5 rfl) ?_
    refine g_l (va_runV (As := [.int v1, .long p1, .long p2]) (rest := [.int p0, .ref (a 0)]) ⟨hx, hb, hml, hown, hts⟩ (c_X3_bytewise l yy a u3 v1 p1 p2  G H.size) (cwV 3 hts gX3_perform_X3_bytewise rfl rfl rfl (by decide +kernel) ⟨Nat.le_of_ble_eq_true rfl, Nat.le_of_ble_eq_true rfl⟩) (g_preV eX_bl hK hE hP hD hS hA 0 rfl rfl) rfl rfl hl.1 rfl (lv_room (Nat.le_of_ble_eq_true rfl)) dX3_perform_231 ⟨Nat.le_of_ble_eq_true rfl, Nat.le_of_ble_eq_true rfl⟩) hD hS hA (fun H locs hP hD hS => ?_)
    have hP : va_P G vwCl (wX yy a u3) H := hP
    have hD : va_D A (wX yy a u3) := hD
    refine lv_topl (fun v37 ev37 => ?_)
    refine g_v (va_runV (As := [.int p0, .long v37]) (rest := []) ⟨hx, hb, hml, hown, hts⟩ (c_X3_writeX l yy a u3 p0 v37  G H.size) (cwV 2 hts gX3_perform_X3_writeX rfl rfl rfl (by decide +kernel) ⟨Nat.le_of_ble_eq_true rfl, Nat.le_of_ble_eq_true rfl⟩) (g_preV eX_bl hK hE hP hD hS hA 0 rfl rfl) rfl rfl hl.1 rfl (lv_room (Nat.le_of_ble_eq_true rfl)) dX3_perform_234 ⟨Nat.le_of_ble_eq_true rfl, Nat.le_of_ble_eq_true rfl⟩) hD hS hA (fun H locs hP hD hS => ?_)
    obtain ⟨u38, eu38⟩ : ∃ z, z = f_X3_writeX u3 p0 v37 := ⟨_, rfl⟩
    have hP : va_P G vwCl (wX yy a u38) H := by rw [eu38]; exact hP
    have hD : va_D A (wX yy a u38) := by rw [eu38]; exact hD
    refine lv_goto (tgt := 262) hx hb dX3_perform_237 (by decide) ?_
    exact g_vret (by have eu38 := eu38.symm; subst eu38; have ev37 := ev37.symm; subst ev37; have eu3 := eu3.symm; subst eu3; have ev2 := ev2.symm; subst ev2; have ev1 := ev1.symm; subst ev1; exact (if_neg c4).trans ((if_neg c6).trans ((if_neg c10).trans ((if_neg c14).trans ((if_neg c18).trans ((if_neg c20).trans ((if_neg c22).trans ((if_neg c24).trans ((if_neg c26).trans ((if_neg c28).trans ((if_neg c30).trans ((if_neg c32).trans ((if_neg c34).trans ((if_pos c36).trans (rfl))))))))))))))) hx hb hr hP hD hS hlocks dX3_perform_262
  by_cases c39 : (jshr v1 (4 : Int32)) = 14
  · refine sw_t hx hb 14 (k := 14) (tgt := 240) dX3_perform_26 c39 (by decide) rfl (by decide) ?_
    refine lv_aload_n hx hb dX3_perform_240 rfl (lv_at hl 2 rfl) ?_
    refine lv_iload_n hx hb dX3_perform_241 rfl (lv_at hl 3 rfl) ?_
    refine lv_aload_n hx hb dX3_perform_242 rfl (lv_at hl 2 rfl) ?_
    refine lv_iload_n hx hb dX3_perform_243 rfl (lv_at hl 3 rfl) ?_
    refine g_l (va_runV (As := [.int p0]) (rest := [.int p0, .ref (a 0)]) ⟨hx, hb, hml, hown, hts⟩ (c_X3_withWyde l yy a u3 p0  G H.size) (cwV 1 hts gX3_perform_X3_withWyde rfl rfl rfl (by decide +kernel) ⟨Nat.le_of_ble_eq_true rfl, Nat.le_of_ble_eq_true rfl⟩) (g_preV eX_bl hK hE hP hD hS hA 0 rfl rfl) rfl rfl hl.1 rfl (lv_room (Nat.le_of_ble_eq_true rfl)) dX3_perform_244 ⟨Nat.le_of_ble_eq_true rfl, Nat.le_of_ble_eq_true rfl⟩) hD hS hA (fun H locs hP hD hS => ?_)
    have hP : va_P G vwCl (wX yy a u3) H := hP
    have hD : va_D A (wX yy a u3) := hD
    refine lv_topl (fun v40 ev40 => ?_)
    refine g_v (va_runV (As := [.int p0, .long v40]) (rest := []) ⟨hx, hb, hml, hown, hts⟩ (c_X3_writeX l yy a u3 p0 v40  G H.size) (cwV 2 hts gX3_perform_X3_writeX rfl rfl rfl (by decide +kernel) ⟨Nat.le_of_ble_eq_true rfl, Nat.le_of_ble_eq_true rfl⟩) (g_preV eX_bl hK hE hP hD hS hA 0 rfl rfl) rfl rfl hl.1 rfl (lv_room (Nat.le_of_ble_eq_true rfl)) dX3_perform_247 ⟨Nat.le_of_ble_eq_true rfl, Nat.le_of_ble_eq_true rfl⟩) hD hS hA (fun H locs hP hD hS => ?_)
    obtain ⟨u41, eu41⟩ : ∃ z, z = f_X3_writeX u3 p0 v40 := ⟨_, rfl⟩
    have hP : va_P G vwCl (wX yy a u41) H := by rw [eu41]; exact hP
    have hD : va_D A (wX yy a u41) := by rw [eu41]; exact hD
    refine lv_goto (tgt := 262) hx hb dX3_perform_250 (by decide) ?_
    exact g_vret (by have eu41 := eu41.symm; subst eu41; have ev40 := ev40.symm; subst ev40; have eu3 := eu3.symm; subst eu3; have ev2 := ev2.symm; subst ev2; have ev1 := ev1.symm; subst ev1; exact (if_neg c4).trans ((if_neg c6).trans ((if_neg c10).trans ((if_neg c14).trans ((if_neg c18).trans ((if_neg c20).trans ((if_neg c22).trans ((if_neg c24).trans ((if_neg c26).trans ((if_neg c28).trans ((if_neg c30).trans ((if_neg c32).trans ((if_neg c34).trans ((if_neg c36).trans ((if_pos c39).trans (rfl)))))))))))))))) hx hb hr hP hD hS hlocks dX3_perform_262
  refine sw_td hx hb [0, 1, 2, 3, 4, 5, 6, 7, 8, 9, 10, 11, 12, 13, 14] (tgt := 253) dX3_perform_26 (List.forall_mem_cons.mpr ⟨c4, (List.forall_mem_cons.mpr ⟨c6, (List.forall_mem_cons.mpr ⟨c10, (List.forall_mem_cons.mpr ⟨c14, (List.forall_mem_cons.mpr ⟨c18, (List.forall_mem_cons.mpr ⟨c20, (List.forall_mem_cons.mpr ⟨c22, (List.forall_mem_cons.mpr ⟨c24, (List.forall_mem_cons.mpr ⟨c26, (List.forall_mem_cons.mpr ⟨c28, (List.forall_mem_cons.mpr ⟨c30, (List.forall_mem_cons.mpr ⟨c32, (List.forall_mem_cons.mpr ⟨c34, (List.forall_mem_cons.mpr ⟨c36, (List.forall_mem_cons.mpr ⟨c39, (fun _ h => absurd h List.not_mem_nil)⟩)⟩)⟩)⟩)⟩)⟩)⟩)⟩)⟩)⟩)⟩)⟩)⟩)⟩)⟩) (by decide) (by decide) (by decide) ?_
  refine lv_aload_n hx hb dX3_perform_253 rfl (lv_at hl 2 rfl) ?_
  refine lv_iload_n hx hb dX3_perform_254 rfl (lv_at hl 3 rfl) ?_
  refine lv_lload hx hb dX3_perform_255 (lv_at hl 5 rfl) ?_
  refine lv_lload hx hb dX3_perform_257 (lv_at hl 0 rfl) ?_
  refine g_v (va_runV (As := [.int p0, .long p2, .long v2]) (rest := []) ⟨hx, hb, hml, hown, hts⟩ (c_X3_performRest l yy a u3 p0 p2 v2  G H.size) (cwV 3 hts gX3_perform_X3_performRest rfl rfl rfl (by decide +kernel) ⟨Nat.le_of_ble_eq_true rfl, Nat.le_of_ble_eq_true rfl⟩) (g_preV eX_bl hK hE hP hD hS hA 0 rfl rfl) rfl rfl hl.1 rfl (lv_room (Nat.le_of_ble_eq_true rfl)) dX3_perform_259 ⟨Nat.le_of_ble_eq_true rfl, Nat.le_of_ble_eq_true rfl⟩) hD hS hA (fun H locs hP hD hS => ?_)
  obtain ⟨u42, eu42⟩ : ∃ z, z = f_X3_performRest u3 p0 p2 v2 := ⟨_, rfl⟩
  have hP : va_P G vwCl (wX yy a u42) H := by rw [eu42]; exact hP
  have hD : va_D A (wX yy a u42) := by rw [eu42]; exact hD
  exact g_vret (by have eu42 := eu42.symm; subst eu42; have eu3 := eu3.symm; subst eu3; have ev2 := ev2.symm; subst ev2; have ev1 := ev1.symm; subst ev1; exact (if_neg c4).trans ((if_neg c6).trans ((if_neg c10).trans ((if_neg c14).trans ((if_neg c18).trans ((if_neg c20).trans ((if_neg c22).trans ((if_neg c24).trans ((if_neg c26).trans ((if_neg c28).trans ((if_neg c30).trans ((if_neg c32).trans ((if_neg c34).trans ((if_neg c36).trans ((if_neg c39).trans (rfl)))))))))))))))) hx hb hr hP hD hS hlocks dX3_perform_262
