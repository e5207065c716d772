def f_X3_sumOrDifference (u : XS) (p0 : Int32) (p1 : Int64) (p2 : Int64) : Int64 × XS :=
  if (p0 &&& (254 : Int32)) = (32 : Int32) then
    let v2 : Int64 := (f_X3_checkedSum u p1 p2).1;
    let u3 : XS := (f_X3_checkedSum u p1 p2).2;
    (v2, u3)
  else
    if (p0 &&& (254 : Int32)) = (34 : Int32) then
      (p1 + p2, u)
    else
      if (p0 &&& (254 : Int32)) = (36 : Int32) then
        let v6 : Int64 := (f_X3_checkedDifference u p1 p2).1;
        let u7 : XS := (f_X3_checkedDifference u p1 p2).2;
        (v6, u7)
      else
        if (p0 &&& (254 : Int32)) = (38 : Int32) then
          (p1 - p2, u)
        else
          if (p0 &&& (254 : Int32)) = (40 : Int32) then
            ((jlshl p1 (1 : Int32)) + p2, u)
          else
            if (p0 &&& (254 : Int32)) = (42 : Int32) then
              ((jlshl p1 (2 : Int32)) + p2, u)
            else
              if (p0 &&& (254 : Int32)) = (44 : Int32) then
                ((jlshl p1 (3 : Int32)) + p2, u)
              else
                ((jlshl p1 (4 : Int32)) + p2, u)
abbrev rm_X3_sumOrDifference : Room := { frames := 2, cells := 0, slots := 0, locals := 49 }
set_option maxHeartbeats 4000000 in
set_option maxRecDepth 100000 in
theorem c_X3_sumOrDifference (l : Launch) (yy : Nat → ClassId) (a : Nat → Nat) (u : XS) (p0 : Int32) (p1 : Int64) (p2 : Int64) : gMl l yX3_sumOrDifference wsX3_sumOrDifference rm_X3_sumOrDifference eX (sT yy) (wX yy a) [.ref (a 0), .int p0, .long p1, .long p2] u (f_X3_sumOrDifference u p0 p1 p2) := by
  refine gm_ofW (Qc := gQl (wX yy a) (f_X3_sumOrDifference u p0 p1 p2)) (by decide) rfl (Nat.le_of_ble_eq_true rfl) ?_
  intro G A p e s m args below meth c hx hb hr hml hts hown hlocks hK hE hA H locs hP hD hS ls hl
  have hl : lv_has ls 6 [(0, .ref (a 0)), (1, .int p0), (2, .long p1), (4, .long p2)] := hl
  refine lv_iload_n hx hb dX3_sumOrDifference_0 rfl (lv_at hl 1 rfl) ?_
  refine lv_sipush (v := 254) hx hb dX3_sumOrDifference_1 (by decide) ?_
  refine lv_iand hx hb dX3_sumOrDifference_4 ?_
  by_cases c1 : (p0 &&& (254 : Int32)) = 32
  · refine sw_t hx hb 0 (k := 32) (tgt := 72) dX3_sumOrDifference_5 c1 (by decide) rfl (by decide) ?_
    refine lv_aload_n hx hb dX3_sumOrDifference_72 rfl (lv_at hl 0 rfl) ?_
    refine lv_lload_n hx hb dX3_sumOrDifference_73 rfl (lv_at hl 2 rfl) ?_
    refine lv_lload hx hb dX3_sumOrDifference_74 (lv_at hl 3 rfl) ?_
    refine g_l (va_runV (As := [.long p1, .long p2]) (rest := []) ⟨hx, hb, hml, hown, hts⟩ (c_X3_checkedSum l yy a u p1 p2  G H.size) (cwV 2 hts gX3_sumOrDifference_X3_checkedSum rfl rfl rfl (by decide +kernel) ⟨Nat.le_of_ble_eq_true rfl, Nat.le_of_ble_eq_true rfl⟩) (g_preV eX_bl hK hE hP hD hS hA 0 rfl rfl) rfl rfl hl.1 rfl (lv_room (Nat.le_of_ble_eq_true rfl)) dX3_sumOrDifference_76 ⟨Nat.le_of_ble_eq_true rfl, Nat.le_of_ble_eq_true rfl⟩) hD hS hA (fun H locs hP hD hS => ?_)
    refine lv_topl (fun v2 ev2 => ?_)
    obtain ⟨u3, eu3⟩ : ∃ z, z = (f_X3_checkedSum u p1 p2).2 := ⟨_, rfl⟩
    have hP : va_P G vwCl (wX yy a u3) H := by rw [eu3]; exact hP
    have hD : va_D A (wX yy a u3) := by rw [eu3]; exact hD
    exact g_lret (by have eu3 := eu3.symm; subst eu3; have ev2 := ev2.symm; subst ev2; exact (if_pos c1).trans (rfl)) hx hb hr hP hD hS hlocks dX3_sumOrDifference_79
  by_cases c4 : (p0 &&& (254 : Int32)) = 34
  · refine sw_t hx hb 2 (k := 34) (tgt := 80) dX3_sumOrDifference_5 c4 (by decide) rfl (by decide) ?_
    refine lv_lload_n hx hb dX3_sumOrDifference_80 rfl (lv_at hl 2 rfl) ?_
    refine lv_lload hx hb dX3_sumOrDifference_81 (lv_at hl 3 rfl) ?_
    refine lv_ladd hx hb dX3_sumOrDifference_83 ?_
    exact g_lret (by exact (if_neg c1).trans ((if_pos c4).trans (rfl))) hx hb hr hP hD hS hlocks dX3_sumOrDifference_84
  by_cases c5 : (p0 &&& (254 : Int32)) = 36
  · refine sw_t hx hb 4 (k := 36) (tgt := 85) dX3_sumOrDifference_5 c5 (by decide) rfl (by decide) ?_
    refine lv_aload_n hx hb dX3_sumOrDifference_85 rfl (lv_at hl 0 rfl) ?_
    refine lv_lload_n hx hb dX3_sumOrDifference_86 rfl (lv_at hl 2 rfl) ?_
    refine lv_lload hx hb dX3_sumOrDifference_87 (lv_at hl 3 rfl) ?_
    refine g_l (va_runV (As := [.long p1, .long p2]) (rest := []) ⟨hx, hb, hml, hown, hts⟩ (c_X3_checkedDifference l yy a u p1 p2  G H.size) (cwV 2 hts gX3_sumOrDifference_X3_checkedDifference rfl rfl rfl (by decide +kernel) ⟨Nat.le_of_ble_eq_true rfl, Nat.le_of_ble_eq_true rfl⟩) (g_preV eX_bl hK hE hP hD hS hA 0 rfl rfl) rfl rfl hl.1 rfl (lv_room (Nat.le_of_ble_eq_true rfl)) dX3_sumOrDifference_89 ⟨Nat.le_of_ble_eq_true rfl, Nat.le_of_ble_eq_true rfl⟩) hD hS hA (fun H locs hP hD hS => ?_)
    refine lv_topl (fun v6 ev6 => ?_)
    obtain ⟨u7, eu7⟩ : ∃ z, z = (f_X3_checkedDifference u p1 p2).2 := ⟨_, rfl⟩
    have hP : va_P G vwCl (wX yy a u7) H := by rw [eu7]; exact hP
    have hD : va_D A (wX yy a u7) := by rw [eu7]; exact hD
    exact g_lret (by have eu7 := eu7.symm; subst eu7; have ev6 := ev6.symm; subst ev6; exact (if_neg c1).trans ((if_neg c4).trans ((if_pos c5).trans (rfl)))) hx hb hr hP hD hS hlocks dX3_sumOrDifference_92
  by_cases c8 : (p0 &&& (254 : Int32)) = 38
  · refine sw_t hx hb 6 (k := 38) (tgt := 93) dX3_sumOrDifference_5 c8 (by decide) rfl (by decide) ?_
    refine lv_lload_n hx hb dX3_sumOrDifference_93 rfl (lv_at hl 2 rfl) ?_
    refine lv_lload hx hb dX3_sumOrDifference_94 (lv_at hl 3 rfl) ?_
    refine lv_lsub hx hb dX3_sumOrDifference_96 ?_
    exact g_lret (by exact (if_neg c1).trans ((if_neg c4).trans ((if_neg c5).trans ((if_pos c8).trans (rfl))))) hx hb hr hP hD hS hlocks dX3_sumOrDifference_97
  by_cases c9 : (p0 &&& (254 : Int32)) = 40
  · refine sw_t hx hb 8 (k := 40) (tgt := 98) dX3_sumOrDifference_5 c9 (by decide) rfl (by decide) ?_
    refine lv_lload_n hx hb dX3_sumOrDifference_98 rfl (lv_at hl 2 rfl) ?_
    refine lv_iconst (v := 1) hx hb dX3_sumOrDifference_99 (by decide) ?_
    refine lv_lshl (v := jlshl p1 (1 : Int32)) hx hb dX3_sumOrDifference_100 rfl ?_
    refine lv_lload hx hb dX3_sumOrDifference_101 (lv_at hl 3 rfl) ?_
    refine lv_ladd hx hb dX3_sumOrDifference_103 ?_
    exact g_lret (by exact (if_neg c1).trans ((if_neg c4).trans ((if_neg c5).trans ((if_neg c8).trans ((if_pos c9).trans (rfl)))))) hx hb hr hP hD hS hlocks dX3_sumOrDifference_104
  by_cases c10 : (p0 &&& (254 : Int32)) = 42
  · refine sw_t hx hb 10 (k := 42) (tgt := 105) dX3_sumOrDifference_5 c10 (by decide) rfl (by decide) ?_
    refine lv_lload_n hx hb dX3_sumOrDifference_105 rfl (lv_at hl 2 rfl) ?_
    refine lv_iconst (v := 2) hx hb dX3_sumOrDifference_106 (by decide) ?_
    refine lv_lshl (v := jlshl p1 (2 : Int32)) hx hb dX3_sumOrDifference_107 rfl ?_
    refine lv_lload hx hb dX3_sumOrDifference_108 (lv_at hl 3 rfl) ?_
    refine lv_ladd hx hb dX3_sumOrDifference_110 ?_
    exact g_lret (by exact (if_neg c1).trans ((if_neg c4).trans ((if_neg c5).trans ((if_neg c8).trans ((if_neg c9).trans ((if_pos c10).trans (rfl))))))) hx hb hr hP hD hS hlocks dX3_sumOrDifference_111
  by_cases c11 : (p0 &&& (254 : Int32)) = 44
  · refine sw_t hx hb 12 (k := 44) (tgt := 112) dX3_sumOrDifference_5 c11 (by decide) rfl (by decide) ?_
    refine lv_lload_n hx hb dX3_sumOrDifference_112 rfl (lv_at hl 2 rfl) ?_
    refine lv_iconst (v := 3) hx hb dX3_sumOrDifference_113 (by decide) ?_
    refine lv_lshl (v := jlshl p1 (3 : Int32)) hx hb dX3_sumOrDifference_114 rfl ?_
    refine lv_lload hx hb dX3_sumOrDifference_115 (lv_at hl 3 rfl) ?_
    refine lv_ladd hx hb dX3_sumOrDifference_117 ?_
    exact g_lret (by exact (if_neg c1).trans ((if_neg c4).trans ((if_neg c5).trans ((if_neg c8).trans ((if_neg c9).trans ((if_neg c10).trans ((if_pos c11).trans (rfl)))))))) hx hb hr hP hD hS hlocks dX3_sumOrDifference_118
  refine sw_td hx hb [32, 34, 36, 38, 40, 42, 44] (tgt := 119) dX3_sumOrDifference_5 (List.forall_mem_cons.mpr ⟨c1, (List.forall_mem_cons.mpr ⟨c4, (List.forall_mem_cons.mpr ⟨c5, (List.forall_mem_cons.mpr ⟨c8, (List.forall_mem_cons.mpr ⟨c9, (List.forall_mem_cons.mpr ⟨c10, (List.forall_mem_cons.mpr ⟨c11, (fun _ h => absurd h List.not_mem_nil)⟩)⟩)⟩)⟩)⟩)⟩)⟩) (by decide) (by decide) (by decide) ?_
  refine lv_lload_n hx hb dX3_sumOrDifference_119 rfl (lv_at hl 2 rfl) ?_
  refine lv_iconst (v := 4) hx hb dX3_sumOrDifference_120 (by decide) ?_
  refine lv_lshl (v := jlshl p1 (4 : Int32)) hx hb dX3_sumOrDifference_121 rfl ?_
  refine lv_lload hx hb dX3_sumOrDifference_122 (lv_at hl 3 rfl) ?_
  refine lv_ladd hx hb dX3_sumOrDifference_124 ?_
  exact g_lret (by exact (if_neg c1).trans ((if_neg c4).trans ((if_neg c5).trans ((if_neg c8).trans ((if_neg c9).trans ((if_neg c10).trans ((if_neg c11).trans (rfl)))))))) hx hb hr hP hD hS hlocks dX3_sumOrDifference_125
