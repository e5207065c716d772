def f_X4_count (u : MS) (p0 : Int32) : Int64 × MS :=
  let u1 : MS := sm_th u (0 : Int32);
  if p0 = (0 : Int32) then
    (m_pc u1, u1)
  else
    if p0 = (1 : Int32) then
      (m_oo u1, u1)
    else
      if p0 = (2 : Int32) then
        (m_me u1, u1)
      else
        if p0 = (3 : Int32) then
          ((m_on u1).toInt64, u1)
        else
          if p0 = (4 : Int32) then
            ((m_pl u1).toInt64, u1)
          else
            if p0 = (5 : Int32) then
              (m_tr u1, u1)
            else
              if p0 = (6 : Int32) then
                (m_la u1, u1)
              else
                ((-1 : Int64), u1)
abbrev rm_X4_count : Room := { frames := 0, cells := 0, slots := 0, locals := 0 }
set_option maxRecDepth 20000 in
theorem iw_X4_count_X4 : ∀ w ∈ wsX40, w ∈ wsX4_count := by decide +kernel
set_option maxHeartbeats 4000000 in
set_option maxRecDepth 100000 in
theorem c_X4_count (l : Launch) (yy : Nat → ClassId) (a : Nat → Nat) (u : MS) (p0 : Int32) : gMl l yX4_count wsX4_count rm_X4_count eTrue (sT yy) (wM yy a) [.ref (a 0), .int p0] u (f_X4_count u p0) := by
  refine gm_ofW (Qc := gQl (wM yy a) (f_X4_count u p0)) (by decide) rfl (Nat.le_of_ble_eq_true rfl) ?_
  intro G A p e s m args below meth c hx hb hr hml hts hown hlocks hK hE hA H locs hP hD hS ls hl
  have hl : lv_has ls 2 [(0, .ref (a 0)), (1, .int p0)] := hl
  refine lv_aload_n hx hb dX4_count_0 rfl (lv_at hl 0 rfl) ?_
  refine lv_iconst (v := 0) hx hb dX4_count_1 (by decide) ?_
  refine va_put (D := G) (ci := 2) (v := .int (0 : Int32)) (ty := .int) (C := RX4) (T := TX4) (N := 17) hx hb hts iw_X4_count_X4 tyX4 tyX4_ok nmX4 hown hK hP hD hS 0 rfl rfl 0 (by decide) (hts (.fieldLink RX4 153 "MixBenchModel" "thrown" "I") (by decide +kernel)) (fun _ h9 => h9) rfl (by decide +kernel) rfl rfl (Nat.le_of_ble_eq_true rfl) dX4_count_2 (fun H locs hP hD hS => ?_)
  obtain ⟨u1, eu1⟩ : ∃ z, z = sm_th u (0 : Int32) := ⟨_, rfl⟩
  have hP : va_P G vwCl (wM yy a u1) H := by rw [eu1]; exact hP
  have hD : va_D A (wM yy a u1) := by rw [eu1]; exact hD
  refine lv_iload_n hx hb dX4_count_5 rfl (lv_at hl 1 rfl) ?_
  by_cases c2 : p0 = 0
  · refine sw_t hx hb 0 (k := 0) (tgt := 48) dX4_count_6 c2 (by decide) rfl (by decide) ?_
    refine lv_aload_n hx hb dX4_count_48 rfl (lv_at hl 0 rfl) ?_
    refine va_get (D := G) (ci := 2) (v := .long (m_pc u1)) (C := RX4) (T := TX4) (N := 17) hx hb hts iw_X4_count_X4 hown hK hP 0 rfl rfl 8 (by decide) (hts (.fieldLink RX4 162 "MixBenchModel" "pc" "J") (by decide +kernel)) (fun _ h9 => h9) rfl dX4_count_49 ?_
    exact g_lret (by have eu1 := eu1.symm; subst eu1; exact (if_pos c2).trans (rfl)) hx hb hr hP hD hS hlocks dX4_count_52
  by_cases c3 : p0 = 1
  · refine sw_t hx hb 1 (k := 1) (tgt := 53) dX4_count_6 c3 (by decide) rfl (by decide) ?_
    refine lv_aload_n hx hb dX4_count_53 rfl (lv_at hl 0 rfl) ?_
    refine va_get (D := G) (ci := 2) (v := .long (m_oo u1)) (C := RX4) (T := TX4) (N := 17) hx hb hts iw_X4_count_X4 hown hK hP 0 rfl rfl 9 (by decide) (hts (.fieldLink RX4 204 "MixBenchModel" "oops" "J") (by decide +kernel)) (fun _ h9 => h9) rfl dX4_count_54 ?_
    exact g_lret (by have eu1 := eu1.symm; subst eu1; exact (if_neg c2).trans ((if_pos c3).trans (rfl))) hx hb hr hP hD hS hlocks dX4_count_57
  by_cases c4 : p0 = 2
  · refine sw_t hx hb 2 (k := 2) (tgt := 58) dX4_count_6 c4 (by decide) rfl (by decide) ?_
    refine lv_aload_n hx hb dX4_count_58 rfl (lv_at hl 0 rfl) ?_
    refine va_get (D := G) (ci := 2) (v := .long (m_me u1)) (C := RX4) (T := TX4) (N := 17) hx hb hts iw_X4_count_X4 hown hK hP 0 rfl rfl 10 (by decide) (hts (.fieldLink RX4 280 "MixBenchModel" "mems" "J") (by decide +kernel)) (fun _ h9 => h9) rfl dX4_count_59 ?_
    exact g_lret (by have eu1 := eu1.symm; subst eu1; exact (if_neg c2).trans ((if_neg c3).trans ((if_pos c4).trans (rfl)))) hx hb hr hP hD hS hlocks dX4_count_62
  by_cases c5 : p0 = 3
  · refine sw_t hx hb 3 (k := 3) (tgt := 63) dX4_count_6 c5 (by decide) rfl (by decide) ?_
    refine lv_aload_n hx hb dX4_count_63 rfl (lv_at hl 0 rfl) ?_
    refine va_get (D := G) (ci := 2) (v := .int (m_on u1)) (C := RX4) (T := TX4) (N := 17) hx hb hts iw_X4_count_X4 hown hK hP 0 rfl rfl 6 (by decide) (hts (.fieldLink RX4 277 "MixBenchModel" "outputs" "I") (by decide +kernel)) (fun _ h9 => h9) rfl dX4_count_64 ?_
    refine lv_i2l (v := (m_on u1).toInt64) hx hb dX4_count_67 rfl ?_
    exact g_lret (by have eu1 := eu1.symm; subst eu1; exact (if_neg c2).trans ((if_neg c3).trans ((if_neg c4).trans ((if_pos c5).trans (rfl))))) hx hb hr hP hD hS hlocks dX4_count_68
  by_cases c6 : p0 = 4
  · refine sw_t hx hb 4 (k := 4) (tgt := 69) dX4_count_6 c6 (by decide) rfl (by decide) ?_
    refine lv_aload_n hx hb dX4_count_69 rfl (lv_at hl 0 rfl) ?_
    refine va_get (D := G) (ci := 2) (v := .int (m_pl u1)) (C := RX4) (T := TX4) (N := 17) hx hb hts iw_X4_count_X4 hown hK hP 0 rfl rfl 7 (by decide) (hts (.fieldLink RX4 308 "MixBenchModel" "place" "I") (by decide +kernel)) (fun _ h9 => h9) rfl dX4_count_70 ?_
    refine lv_i2l (v := (m_pl u1).toInt64) hx hb dX4_count_73 rfl ?_
    exact g_lret (by have eu1 := eu1.symm; subst eu1; exact (if_neg c2).trans ((if_neg c3).trans ((if_neg c4).trans ((if_neg c5).trans ((if_pos c6).trans (rfl)))))) hx hb hr hP hD hS hlocks dX4_count_74
  by_cases c7 : p0 = 5
  · refine sw_t hx hb 5 (k := 5) (tgt := 75) dX4_count_6 c7 (by decide) rfl (by decide) ?_
    refine lv_aload_n hx hb dX4_count_75 rfl (lv_at hl 0 rfl) ?_
    refine va_get (D := G) (ci := 2) (v := .long (m_tr u1)) (C := RX4) (T := TX4) (N := 17) hx hb hts iw_X4_count_X4 hown hK hP 0 rfl rfl 11 (by decide) (hts (.fieldLink RX4 176 "MixBenchModel" "trail" "J") (by decide +kernel)) (fun _ h9 => h9) rfl dX4_count_76 ?_
    exact g_lret (by have eu1 := eu1.symm; subst eu1; exact (if_neg c2).trans ((if_neg c3).trans ((if_neg c4).trans ((if_neg c5).trans ((if_neg c6).trans ((if_pos c7).trans (rfl))))))) hx hb hr hP hD hS hlocks dX4_count_79
  by_cases c8 : p0 = 6
  · refine sw_t hx hb 6 (k := 6) (tgt := 80) dX4_count_6 c8 (by decide) rfl (by decide) ?_
    refine lv_aload_n hx hb dX4_count_80 rfl (lv_at hl 0 rfl) ?_
    refine va_get (D := G) (ci := 2) (v := .long (m_la u1)) (C := RX4) (T := TX4) (N := 17) hx hb hts iw_X4_count_X4 hown hK hP 0 rfl rfl 12 (by decide) (hts (.fieldLink RX4 201 "MixBenchModel" "last" "J") (by decide +kernel)) (fun _ h9 => h9) rfl dX4_count_81 ?_
    exact g_lret (by have eu1 := eu1.symm; subst eu1; exact (if_neg c2).trans ((if_neg c3).trans ((if_neg c4).trans ((if_neg c5).trans ((if_neg c6).trans ((if_neg c7).trans ((if_pos c8).trans (rfl)))))))) hx hb hr hP hD hS hlocks dX4_count_84
  refine sw_td hx hb [0, 1, 2, 3, 4, 5, 6] (tgt := 85) dX4_count_6 (List.forall_mem_cons.mpr ⟨c2, (List.forall_mem_cons.mpr ⟨c3, (List.forall_mem_cons.mpr ⟨c4, (List.forall_mem_cons.mpr ⟨c5, (List.forall_mem_cons.mpr ⟨c6, (List.forall_mem_cons.mpr ⟨c7, (List.forall_mem_cons.mpr ⟨c8, (fun _ h => absurd h List.not_mem_nil)⟩)⟩)⟩)⟩)⟩)⟩)⟩) (by decide) (by decide) (by decide) ?_
  refine lv_ldc2 hx hb hown (hts (.constantLong RX4 261 (-1)) (by decide +kernel)) dX4_count_85 ?_
  exact g_lret (by have eu1 := eu1.symm; subst eu1; exact (if_neg c2).trans ((if_neg c3).trans ((if_neg c4).trans ((if_neg c5).trans ((if_neg c6).trans ((if_neg c7).trans ((if_neg c8).trans (rfl)))))))) hx hb hr hP hD hS hlocks dX4_count_88
