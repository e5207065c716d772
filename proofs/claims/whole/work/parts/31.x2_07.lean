def f_X3_count (u : XS) (p0 : Int32) : Int64 :=
  if p0 = (0 : Int32) then
    x_pc u
  else
    if p0 = (1 : Int32) then
      x_oo u
    else
      if p0 = (2 : Int32) then
        x_me u
      else
        if p0 = (3 : Int32) then
          (x_ol u).toInt64
        else
          if p0 = (4 : Int32) then
            (x_pl u).toInt64
          else
            if p0 = (5 : Int32) then
              x_tr u
            else
              if p0 = (6 : Int32) then
                x_la u
              else
                (-1 : Int64)
abbrev rm_X3_count : Room := { frames := 0, cells := 0, slots := 0, locals := 0 }
set_option maxRecDepth 20000 in
theorem iw_X3_count_X3 : ∀ w ∈ wsX30, w ∈ wsX3_count := by decide +kernel
set_option maxHeartbeats 4000000 in
set_option maxRecDepth 100000 in
theorem c_X3_count (l : Launch) (yy : Nat → ClassId) (a : Nat → Nat) (u : XS) (p0 : Int32) : gMl l yX3_count wsX3_count rm_X3_count eX (sT yy) (wX yy a) [.ref (a 0), .int p0] u ((f_X3_count u p0, u)) := by
  refine gm_ofW (Qc := gQl (wX yy a) ((f_X3_count u p0, u))) (by decide) rfl (Nat.le_of_ble_eq_true rfl) ?_
  intro G A p e s m args below meth c hx hb hr hml hts hown hlocks hK hE hA H locs hP hD hS ls hl
  have hl : lv_has ls 2 [(0, .ref (a 0)), (1, .int p0)] := hl
  refine lv_iload_n hx hb dX3_count_0 rfl (lv_at hl 1 rfl) ?_
  by_cases c1 : p0 = 0
  · refine sw_t hx hb 0 (k := 0) (tgt := 44) dX3_count_1 c1 (by decide) rfl (by decide) ?_
    refine lv_aload_n hx hb dX3_count_44 rfl (lv_at hl 0 rfl) ?_
    refine va_get (D := G) (ci := 1) (v := .long (x_pc u)) (C := RX3) (T := TX3) (N := 12) hx hb hts iw_X3_count_X3 hown hK hP 0 rfl rfl 7 (by decide) (hts (.fieldLink RX3 73 "MixBench" "pc" "J") (by decide +kernel)) (fun _ h9 => h9) rfl dX3_count_45 ?_
    exact g_lret (s_ro (by exact (if_pos c1).trans (rfl))) hx hb hr hP hD hS hlocks dX3_count_48
  by_cases c2 : p0 = 1
  · refine sw_t hx hb 1 (k := 1) (tgt := 49) dX3_count_1 c2 (by decide) rfl (by decide) ?_
    refine lv_aload_n hx hb dX3_count_49 rfl (lv_at hl 0 rfl) ?_
    refine va_get (D := G) (ci := 1) (v := .long (x_oo u)) (C := RX3) (T := TX3) (N := 12) hx hb hts iw_X3_count_X3 hown hK hP 0 rfl rfl 8 (by decide) (hts (.fieldLink RX3 87 "MixBench" "oops" "J") (by decide +kernel)) (fun _ h9 => h9) rfl dX3_count_50 ?_
    exact g_lret (s_ro (by exact (if_neg c1).trans ((if_pos c2).trans (rfl)))) hx hb hr hP hD hS hlocks dX3_count_53
  by_cases c3 : p0 = 2
  · refine sw_t hx hb 2 (k := 2) (tgt := 54) dX3_count_1 c3 (by decide) rfl (by decide) ?_
    refine lv_aload_n hx hb dX3_count_54 rfl (lv_at hl 0 rfl) ?_
    refine va_get (D := G) (ci := 1) (v := .long (x_me u)) (C := RX3) (T := TX3) (N := 12) hx hb hts iw_X3_count_X3 hown hK hP 0 rfl rfl 9 (by decide) (hts (.fieldLink RX3 95 "MixBench" "mems" "J") (by decide +kernel)) (fun _ h9 => h9) rfl dX3_count_55 ?_
    exact g_lret (s_ro (by exact (if_neg c1).trans ((if_neg c2).trans ((if_pos c3).trans (rfl))))) hx hb hr hP hD hS hlocks dX3_count_58
  by_cases c4 : p0 = 3
  · refine sw_t hx hb 3 (k := 3) (tgt := 59) dX3_count_1 c4 (by decide) rfl (by decide) ?_
    refine lv_aload_n hx hb dX3_count_59 rfl (lv_at hl 0 rfl) ?_
    refine va_get (D := G) (ci := 1) (v := .int (x_ol u)) (C := RX3) (T := TX3) (N := 12) hx hb hts iw_X3_count_X3 hown hK hP 0 rfl rfl 5 (by decide) (hts (.fieldLink RX3 90 "MixBench" "outputLength" "I") (by decide +kernel)) (fun _ h9 => h9) rfl dX3_count_60 ?_
    refine lv_i2l (v := (x_ol u).toInt64) hx hb dX3_count_63 rfl ?_
    exact g_lret (s_ro (by exact (if_neg c1).trans ((if_neg c2).trans ((if_neg c3).trans ((if_pos c4).trans (rfl)))))) hx hb hr hP hD hS hlocks dX3_count_64
  by_cases c5 : p0 = 4
  · refine sw_t hx hb 4 (k := 4) (tgt := 65) dX3_count_1 c5 (by decide) rfl (by decide) ?_
    refine lv_aload_n hx hb dX3_count_65 rfl (lv_at hl 0 rfl) ?_
    refine va_get (D := G) (ci := 1) (v := .int (x_pl u)) (C := RX3) (T := TX3) (N := 12) hx hb hts iw_X3_count_X3 hown hK hP 0 rfl rfl 6 (by decide) (hts (.fieldLink RX3 54 "MixBench" "place" "I") (by decide +kernel)) (fun _ h9 => h9) rfl dX3_count_66 ?_
    refine lv_i2l (v := (x_pl u).toInt64) hx hb dX3_count_69 rfl ?_
    exact g_lret (s_ro (by exact (if_neg c1).trans ((if_neg c2).trans ((if_neg c3).trans ((if_neg c4).trans ((if_pos c5).trans (rfl))))))) hx hb hr hP hD hS hlocks dX3_count_70
  by_cases c6 : p0 = 5
  · refine sw_t hx hb 5 (k := 5) (tgt := 71) dX3_count_1 c6 (by decide) rfl (by decide) ?_
    refine lv_aload_n hx hb dX3_count_71 rfl (lv_at hl 0 rfl) ?_
    refine va_get (D := G) (ci := 1) (v := .long (x_tr u)) (C := RX3) (T := TX3) (N := 12) hx hb hts iw_X3_count_X3 hown hK hP 0 rfl rfl 10 (by decide) (hts (.fieldLink RX3 98 "MixBench" "trail" "J") (by decide +kernel)) (fun _ h9 => h9) rfl dX3_count_72 ?_
    exact g_lret (s_ro (by exact (if_neg c1).trans ((if_neg c2).trans ((if_neg c3).trans ((if_neg c4).trans ((if_neg c5).trans ((if_pos c6).trans (rfl)))))))) hx hb hr hP hD hS hlocks dX3_count_75
  by_cases c7 : p0 = 6
  · refine sw_t hx hb 6 (k := 6) (tgt := 76) dX3_count_1 c7 (by decide) rfl (by decide) ?_
    refine lv_aload_n hx hb dX3_count_76 rfl (lv_at hl 0 rfl) ?_
    refine va_get (D := G) (ci := 1) (v := .long (x_la u)) (C := RX3) (T := TX3) (N := 12) hx hb hts iw_X3_count_X3 hown hK hP 0 rfl rfl 11 (by decide) (hts (.fieldLink RX3 101 "MixBench" "lastTally" "J") (by decide +kernel)) (fun _ h9 => h9) rfl dX3_count_77 ?_
    exact g_lret (s_ro (by exact (if_neg c1).trans ((if_neg c2).trans ((if_neg c3).trans ((if_neg c4).trans ((if_neg c5).trans ((if_neg c6).trans ((if_pos c7).trans (rfl))))))))) hx hb hr hP hD hS hlocks dX3_count_80
  refine sw_td hx hb [0, 1, 2, 3, 4, 5, 6] (tgt := 81) dX3_count_1 (List.forall_mem_cons.mpr ⟨c1, (List.forall_mem_cons.mpr ⟨c2, (List.forall_mem_cons.mpr ⟨c3, (List.forall_mem_cons.mpr ⟨c4, (List.forall_mem_cons.mpr ⟨c5, (List.forall_mem_cons.mpr ⟨c6, (List.forall_mem_cons.mpr ⟨c7, (fun _ h => absurd h List.not_mem_nil)⟩)⟩)⟩)⟩)⟩)⟩)⟩) (by decide) (by decide) (by decide) ?_
  refine lv_ldc2 hx hb hown (hts (.constantLong RX3 104 (-1)) (by decide +kernel)) dX3_count_81 ?_
  exact g_lret (s_ro (by exact (if_neg c1).trans ((if_neg c2).trans ((if_neg c3).trans ((if_neg c4).trans ((if_neg c5).trans ((if_neg c6).trans ((if_neg c7).trans (rfl))))))))) hx hb hr hP hD hS hlocks dX3_count_84
