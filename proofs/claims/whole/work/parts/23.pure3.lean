def f_X4_beyond (p0 : Int64) : Int32 :=
  if p0 < (0 : Int64) then
    (1 : Int32)
  else
    if p0 ≤ (16383 : Int64) then
      (0 : Int32)
    else
      (1 : Int32)
abbrev rm_X4_beyond : Room := { frames := 0, cells := 0, slots := 0, locals := 0 }
set_option maxHeartbeats 4000000 in
set_option maxRecDepth 100000 in
theorem c_X4_beyond (l : Launch) (p0 : Int64) : pMi l yX4_beyond wsX4_beyond rm_X4_beyond eTrue [.long p0] (f_X4_beyond p0) := by
  refine pm_ofW (by decide) rfl (Nat.le_of_ble_eq_true rfl) ?_
  intro p e s m args below meth c hx hb hr hml hts hown hlocks hE ls hl
  have hl : lv_has ls 2 [(0, .long p0)] := hl
  refine lv_lload_n hx hb dX4_beyond_0 rfl (lv_at hl 0 rfl) ?_
  refine lv_lconst (v := 0) hx hb dX4_beyond_1 (by decide) ?_
  refine lc_lt (tgt := 14) hx hb dX4_beyond_2 dX4_beyond_3 (by decide) (fun c1 => ?_) (fun c1 => ?_)
  · refine lv_iconst (v := 1) hx hb dX4_beyond_14 (by decide) ?_
    refine lv_goto (tgt := 19) hx hb dX4_beyond_15 (by decide) ?_
    exact p_zret (by exact (if_pos c1).trans (rfl)) hx hb hr rfl hlocks dX4_beyond_19
  · refine lv_lload_n hx hb dX4_beyond_6 rfl (lv_at hl 0 rfl) ?_
    refine lv_ldc2 hx hb hown (hts (.constantLong RX4 156 (16383)) (by decide +kernel)) dX4_beyond_7 ?_
    refine lc_le (tgt := 18) hx hb dX4_beyond_10 dX4_beyond_11 (by decide) (fun c2 => ?_) (fun c2 => ?_)
    · refine lv_iconst (v := 0) hx hb dX4_beyond_18 (by decide) ?_
      exact p_zret (by exact (if_neg c1).trans ((if_pos c2).trans (rfl))) hx hb hr rfl hlocks dX4_beyond_19
    · refine lv_iconst (v := 1) hx hb dX4_beyond_14 (by decide) ?_
      refine lv_goto (tgt := 19) hx hb dX4_beyond_15 (by decide) ?_
      exact p_zret (by exact (if_neg c1).trans ((if_neg c2).trans (rfl))) hx hb hr rfl hlocks dX4_beyond_19
def f_X4_signed (p0 : Int64) (p1 : Int32) : Int64 :=
  if p1 = (8 : Int32) then
    p0
  else
    jlshr (jlshl p0 ((64 : Int32) - ((8 : Int32) * p1))) ((64 : Int32) - ((8 : Int32) * p1))
abbrev rm_X4_signed : Room := { frames := 0, cells := 0, slots := 0, locals := 0 }
set_option maxHeartbeats 4000000 in
set_option maxRecDepth 100000 in
theorem c_X4_signed (l : Launch) (p0 : Int64) (p1 : Int32) : pMl l yX4_signed wsX4_signed rm_X4_signed eTrue [.long p0, .int p1] (f_X4_signed p0 p1) := by
  refine pm_ofW (by decide) rfl (Nat.le_of_ble_eq_true rfl) ?_
  intro p e s m args below meth c hx hb hr hml hts hown hlocks hE ls hl
  have hl : lv_has ls 3 [(0, .long p0), (2, .int p1)] := hl
  refine lv_iload_n hx hb dX4_signed_0 rfl (lv_at hl 1 rfl) ?_
  refine lv_bipush (v := 8) hx hb dX4_signed_1 (by decide) ?_
  refine lv_icmp_ne (tgt := 10) hx hb dX4_signed_3 (by decide) (fun c1 => ?_) (fun c1 => ?_)
  · refine lv_lload_n hx hb dX4_signed_10 rfl (lv_at hl 0 rfl) ?_
    refine lv_bipush (v := 64) hx hb dX4_signed_11 (by decide) ?_
    refine lv_bipush (v := 8) hx hb dX4_signed_13 (by decide) ?_
    refine lv_iload_n hx hb dX4_signed_15 rfl (lv_at hl 1 rfl) ?_
    refine lv_imul hx hb dX4_signed_16 ?_
    refine lv_isub hx hb dX4_signed_17 ?_
    refine lv_lshl (v := jlshl p0 ((64 : Int32) - ((8 : Int32) * p1))) hx hb dX4_signed_18 rfl ?_
    refine lv_bipush (v := 64) hx hb dX4_signed_19 (by decide) ?_
    refine lv_bipush (v := 8) hx hb dX4_signed_21 (by decide) ?_
    refine lv_iload_n hx hb dX4_signed_23 rfl (lv_at hl 1 rfl) ?_
    refine lv_imul hx hb dX4_signed_24 ?_
    refine lv_isub hx hb dX4_signed_25 ?_
    refine lv_lshr (v := jlshr (jlshl p0 ((64 : Int32) - ((8 : Int32) * p1))) ((64 : Int32) - ((8 : Int32) * p1))) hx hb dX4_signed_26 rfl ?_
    exact p_lret (by exact (if_neg c1).trans (rfl)) hx hb hr hlocks dX4_signed_27
  · refine lv_lload_n hx hb dX4_signed_6 rfl (lv_at hl 0 rfl) ?_
    refine lv_goto (tgt := 27) hx hb dX4_signed_7 (by decide) ?_
    exact p_lret (by exact (if_pos c1).trans (rfl)) hx hb hr hlocks dX4_signed_27
def f_X4_above (p0 : Int64) (p1 : Int64) : Int32 :=
  if (p0 + (-9223372036854775808 : Int64)) ≤ (p1 + (-9223372036854775808 : Int64)) then
    (0 : Int32)
  else
    (1 : Int32)
abbrev rm_X4_above : Room := { frames := 0, cells := 0, slots := 0, locals := 0 }
set_option maxHeartbeats 4000000 in
set_option maxRecDepth 100000 in
theorem c_X4_above (l : Launch) (p0 : Int64) (p1 : Int64) : pMi l yX4_above wsX4_above rm_X4_above eTrue [.long p0, .long p1] (f_X4_above p0 p1) := by
  refine pm_ofW (by decide) rfl (Nat.le_of_ble_eq_true rfl) ?_
  intro p e s m args below meth c hx hb hr hml hts hown hlocks hE ls hl
  have hl : lv_has ls 4 [(0, .long p0), (2, .long p1)] := hl
  refine lv_lload_n hx hb dX4_above_0 rfl (lv_at hl 0 rfl) ?_
  refine lv_ldc2 hx hb hown (hts (.constantLong RX4 160 (-9223372036854775808)) (by decide +kernel)) dX4_above_1 ?_
  refine lv_ladd hx hb dX4_above_4 ?_
  refine lv_lload_n hx hb dX4_above_5 rfl (lv_at hl 1 rfl) ?_
  refine lv_ldc2 hx hb hown (hts (.constantLong RX4 160 (-9223372036854775808)) (by decide +kernel)) dX4_above_6 ?_
  refine lv_ladd hx hb dX4_above_9 ?_
  refine lc_le (tgt := 18) hx hb dX4_above_10 dX4_above_11 (by decide) (fun c1 => ?_) (fun c1 => ?_)
  · refine lv_iconst (v := 0) hx hb dX4_above_18 (by decide) ?_
    exact p_zret (by exact (if_pos c1).trans (rfl)) hx hb hr rfl hlocks dX4_above_19
  · refine lv_iconst (v := 1) hx hb dX4_above_14 (by decide) ?_
    refine lv_goto (tgt := 19) hx hb dX4_above_15 (by decide) ?_
    exact p_zret (by exact (if_neg c1).trans (rfl)) hx hb hr rfl hlocks dX4_above_19
def f_X4_holds (p0 : Int32) (p1 : Int64) : Int32 :=
  if p0 = (0 : Int32) then
    if (0 : Int64) ≤ p1 then
      (0 : Int32)
    else
      (1 : Int32)
  else
    if p0 = (1 : Int32) then
      if p1 = (0 : Int64) then
        (1 : Int32)
      else
        (0 : Int32)
    else
      if p0 = (2 : Int32) then
        if p1 ≤ (0 : Int64) then
          (0 : Int32)
        else
          (1 : Int32)
      else
        if p0 = (3 : Int32) then
          if (p1 &&& (1 : Int64)) = (1 : Int64) then
            (1 : Int32)
          else
            (0 : Int32)
        else
          if p0 = (4 : Int32) then
            if p1 < (0 : Int64) then
              (0 : Int32)
            else
              (1 : Int32)
          else
            if p0 = (5 : Int32) then
              if p1 = (0 : Int64) then
                (0 : Int32)
              else
                (1 : Int32)
            else
              if p0 = (6 : Int32) then
                if (0 : Int64) < p1 then
                  (0 : Int32)
                else
                  (1 : Int32)
              else
                if (p1 &&& (1 : Int64)) = (0 : Int64) then
                  (1 : Int32)
                else
                  (0 : Int32)
abbrev rm_X4_holds : Room := { frames := 0, cells := 0, slots := 0, locals := 0 }
set_option maxHeartbeats 4000000 in
set_option maxRecDepth 100000 in
theorem c_X4_holds (l : Launch) (p0 : Int32) (p1 : Int64) : pMi l yX4_holds wsX4_holds rm_X4_holds eTrue [.int p0, .long p1] (f_X4_holds p0 p1) := by
  refine pm_ofW (by decide) rfl (Nat.le_of_ble_eq_true rfl) ?_
  intro p e s m args below meth c hx hb hr hml hts hown hlocks hE ls hl
  have hl : lv_has ls 3 [(0, .int p0), (1, .long p1)] := hl
  refine lv_iload_n hx hb dX4_holds_0 rfl (lv_at hl 0 rfl) ?_
  by_cases c1 : p0 = 0
  · refine sw_t hx hb 0 (k := 0) (tgt := 44) dX4_holds_1 c1 (by decide) rfl (by decide) ?_
    refine lv_lload_n hx hb dX4_holds_44 rfl (lv_at hl 1 rfl) ?_
    refine lv_lconst (v := 0) hx hb dX4_holds_45 (by decide) ?_
    refine lc_ge (tgt := 54) hx hb dX4_holds_46 dX4_holds_47 (by decide) (fun c2 => ?_) (fun c2 => ?_)
    · refine lv_iconst (v := 0) hx hb dX4_holds_54 (by decide) ?_
      exact p_zret (by exact (if_pos c1).trans ((if_pos c2).trans (rfl))) hx hb hr rfl hlocks dX4_holds_55
    · refine lv_iconst (v := 1) hx hb dX4_holds_50 (by decide) ?_
      refine lv_goto (tgt := 55) hx hb dX4_holds_51 (by decide) ?_
      exact p_zret (by exact (if_pos c1).trans ((if_neg c2).trans (rfl))) hx hb hr rfl hlocks dX4_holds_55
  by_cases c3 : p0 = 1
  · refine sw_t hx hb 1 (k := 1) (tgt := 56) dX4_holds_1 c3 (by decide) rfl (by decide) ?_
    refine lv_lload_n hx hb dX4_holds_56 rfl (lv_at hl 1 rfl) ?_
    refine lv_lconst (v := 0) hx hb dX4_holds_57 (by decide) ?_
    refine lc_ne (tgt := 66) hx hb dX4_holds_58 dX4_holds_59 (by decide) (fun c4 => ?_) (fun c4 => ?_)
    · refine lv_iconst (v := 0) hx hb dX4_holds_66 (by decide) ?_
      exact p_zret (by exact (if_neg c1).trans ((if_pos c3).trans ((if_neg c4).trans (rfl)))) hx hb hr rfl hlocks dX4_holds_67
    · refine lv_iconst (v := 1) hx hb dX4_holds_62 (by decide) ?_
      refine lv_goto (tgt := 67) hx hb dX4_holds_63 (by decide) ?_
      exact p_zret (by exact (if_neg c1).trans ((if_pos c3).trans ((if_pos c4).trans (rfl)))) hx hb hr rfl hlocks dX4_holds_67
  by_cases c5 : p0 = 2
  · refine sw_t hx hb 2 (k := 2) (tgt := 68) dX4_holds_1 c5 (by decide) rfl (by decide) ?_
    refine lv_lload_n hx hb dX4_holds_68 rfl (lv_at hl 1 rfl) ?_
    refine lv_lconst (v := 0) hx hb dX4_holds_69 (by decide) ?_
    refine lc_le (tgt := 78) hx hb dX4_holds_70 dX4_holds_71 (by decide) (fun c6 => ?_) (fun c6 => ?_)
    · refine lv_iconst (v := 0) hx hb dX4_holds_78 (by decide) ?_
      exact p_zret (by exact (if_neg c1).trans ((if_neg c3).trans ((if_pos c5).trans ((if_pos c6).trans (rfl))))) hx hb hr rfl hlocks dX4_holds_79
    · refine lv_iconst (v := 1) hx hb dX4_holds_74 (by decide) ?_
      refine lv_goto (tgt := 79) hx hb dX4_holds_75 (by decide) ?_
      exact p_zret (by exact (if_neg c1).trans ((if_neg c3).trans ((if_pos c5).trans ((if_neg c6).trans (rfl))))) hx hb hr rfl hlocks dX4_holds_79
  by_cases c7 : p0 = 3
  · refine sw_t hx hb 3 (k := 3) (tgt := 80) dX4_holds_1 c7 (by decide) rfl (by decide) ?_
    refine lv_lload_n hx hb dX4_holds_80 rfl (lv_at hl 1 rfl) ?_
    refine lv_lconst (v := 1) hx hb dX4_holds_81 (by decide) ?_
    refine lv_land hx hb dX4_holds_82 ?_
    refine lv_lconst (v := 1) hx hb dX4_holds_83 (by decide) ?_
    refine lc_ne (tgt := 92) hx hb dX4_holds_84 dX4_holds_85 (by decide) (fun c8 => ?_) (fun c8 => ?_)
    · refine lv_iconst (v := 0) hx hb dX4_holds_92 (by decide) ?_
      exact p_zret (by exact (if_neg c1).trans ((if_neg c3).trans ((if_neg c5).trans ((if_pos c7).trans ((if_neg c8).trans (rfl)))))) hx hb hr rfl hlocks dX4_holds_93
    · refine lv_iconst (v := 1) hx hb dX4_holds_88 (by decide) ?_
      refine lv_goto (tgt := 93) hx hb dX4_holds_89 (by decide) ?_
      exact p_zret (by exact (if_neg c1).trans ((if_neg c3).trans ((if_neg c5).trans ((if_pos c7).trans ((if_pos c8).trans (rfl)))))) hx hb hr rfl hlocks dX4_holds_93
  by_cases c9 : p0 = 4
  · refine sw_t hx hb 4 (k := 4) (tgt := 94) dX4_holds_1 c9 (by decide) rfl (by decide) ?_
    refine lv_lload_n hx hb dX4_holds_94 rfl (lv_at hl 1 rfl) ?_
    refine lv_lconst (v := 0) hx hb dX4_holds_95 (by decide) ?_
    refine lc_lt (tgt := 104) hx hb dX4_holds_96 dX4_holds_97 (by decide) (fun c10 => ?_) (fun c10 => ?_)
    · refine lv_iconst (v := 0) hx hb dX4_holds_104 (by decide) ?_
      exact p_zret (by exact (if_neg c1).trans ((if_neg c3).trans ((if_neg c5).trans ((if_neg c7).trans ((if_pos c9).trans ((if_pos c10).trans (rfl))))))) hx hb hr rfl hlocks dX4_holds_105
    · refine lv_iconst (v := 1) hx hb dX4_holds_100 (by decide) ?_
      refine lv_goto (tgt := 105) hx hb dX4_holds_101 (by decide) ?_
      exact p_zret (by exact (if_neg c1).trans ((if_neg c3).trans ((if_neg c5).trans ((if_neg c7).trans ((if_pos c9).trans ((if_neg c10).trans (rfl))))))) hx hb hr rfl hlocks dX4_holds_105
  by_cases c11 : p0 = 5
  · refine sw_t hx hb 5 (k := 5) (tgt := 106) dX4_holds_1 c11 (by decide) rfl (by decide) ?_
    refine lv_lload_n hx hb dX4_holds_106 rfl (lv_at hl 1 rfl) ?_
    refine lv_lconst (v := 0) hx hb dX4_holds_107 (by decide) ?_
    refine lc_eq (tgt := 116) hx hb dX4_holds_108 dX4_holds_109 (by decide) (fun c12 => ?_) (fun c12 => ?_)
    · refine lv_iconst (v := 0) hx hb dX4_holds_116 (by decide) ?_
      exact p_zret (by exact (if_neg c1).trans ((if_neg c3).trans ((if_neg c5).trans ((if_neg c7).trans ((if_neg c9).trans ((if_pos c11).trans ((if_pos c12).trans (rfl)))))))) hx hb hr rfl hlocks dX4_holds_117
    · refine lv_iconst (v := 1) hx hb dX4_holds_112 (by decide) ?_
      refine lv_goto (tgt := 117) hx hb dX4_holds_113 (by decide) ?_
      exact p_zret (by exact (if_neg c1).trans ((if_neg c3).trans ((if_neg c5).trans ((if_neg c7).trans ((if_neg c9).trans ((if_pos c11).trans ((if_neg c12).trans (rfl)))))))) hx hb hr rfl hlocks dX4_holds_117
  by_cases c13 : p0 = 6
  · refine sw_t hx hb 6 (k := 6) (tgt := 118) dX4_holds_1 c13 (by decide) rfl (by decide) ?_
    refine lv_lload_n hx hb dX4_holds_118 rfl (lv_at hl 1 rfl) ?_
    refine lv_lconst (v := 0) hx hb dX4_holds_119 (by decide) ?_
    refine lc_gt (tgt := 128) hx hb dX4_holds_120 dX4_holds_121 (by decide) (fun c14 => ?_) (fun c14 => ?_)
    · refine lv_iconst (v := 0) hx hb dX4_holds_128 (by decide) ?_
      exact p_zret (by exact (if_neg c1).trans ((if_neg c3).trans ((if_neg c5).trans ((if_neg c7).trans ((if_neg c9).trans ((if_neg c11).trans ((if_pos c13).trans ((if_pos c14).trans (rfl))))))))) hx hb hr rfl hlocks dX4_holds_129
    · refine lv_iconst (v := 1) hx hb dX4_holds_124 (by decide) ?_
      refine lv_goto (tgt := 129) hx hb dX4_holds_125 (by decide) ?_
      exact p_zret (by exact (if_neg c1).trans ((if_neg c3).trans ((if_neg c5).trans ((if_neg c7).trans ((if_neg c9).trans ((if_neg c11).trans ((if_pos c13).trans ((if_neg c14).trans (rfl))))))))) hx hb hr rfl hlocks dX4_holds_129
  refine sw_td hx hb [0, 1, 2, 3, 4, 5, 6] (tgt := 130) dX4_holds_1 (List.forall_mem_cons.mpr ⟨c1, (List.forall_mem_cons.mpr ⟨c3, (List.forall_mem_cons.mpr ⟨c5, (List.forall_mem_cons.mpr ⟨c7, (List.forall_mem_cons.mpr ⟨c9, (List.forall_mem_cons.mpr ⟨c11, (List.forall_mem_cons.mpr ⟨c13, (fun _ h => absurd h List.not_mem_nil)⟩)⟩)⟩)⟩)⟩)⟩)⟩) (by decide) (by decide) (by decide) ?_
  refine lv_lload_n hx hb dX4_holds_130 rfl (lv_at hl 1 rfl) ?_
  refine lv_lconst (v := 1) hx hb dX4_holds_131 (by decide) ?_
  refine lv_land hx hb dX4_holds_132 ?_
  refine lv_lconst (v := 0) hx hb dX4_holds_133 (by decide) ?_
  refine lc_ne (tgt := 142) hx hb dX4_holds_134 dX4_holds_135 (by decide) (fun c15 => ?_) (fun c15 => ?_)
  · refine lv_iconst (v := 0) hx hb dX4_holds_142 (by decide) ?_
    exact p_zret (by exact (if_neg c1).trans ((if_neg c3).trans ((if_neg c5).trans ((if_neg c7).trans ((if_neg c9).trans ((if_neg c11).trans ((if_neg c13).trans ((if_neg c15).trans (rfl))))))))) hx hb hr rfl hlocks dX4_holds_143
  · refine lv_iconst (v := 1) hx hb dX4_holds_138 (by decide) ?_
    refine lv_goto (tgt := 143) hx hb dX4_holds_139 (by decide) ?_
    exact p_zret (by exact (if_neg c1).trans ((if_neg c3).trans ((if_neg c5).trans ((if_neg c7).trans ((if_neg c9).trans ((if_neg c11).trans ((if_neg c13).trans ((if_pos c15).trans (rfl))))))))) hx hb hr rfl hlocks dX4_holds_143
def f_X4_upper (p0 : Int64) (p1 : Int64) : Int64 :=
  let v1 : Int64 := p0 &&& (4294967295 : Int64);
  let v2 : Int64 := p1 &&& (4294967295 : Int64);
  let v3 : Int64 := jlshr p0 (32 : Int32);
  let v4 : Int64 := jlshr p1 (32 : Int32);
  let v5 : Int64 := (v3 * v2) + (jlushr (v1 * v2) (32 : Int32));
  let v6 : Int64 := (v5 &&& (4294967295 : Int64)) + (v1 * v4);
  ((v3 * v4) + (jlshr v5 (32 : Int32))) + (jlshr v6 (32 : Int32))
abbrev rm_X4_upper : Room := { frames := 0, cells := 0, slots := 0, locals := 0 }
set_option maxHeartbeats 4000000 in
set_option maxRecDepth 100000 in
theorem c_X4_upper (l : Launch) (p0 : Int64) (p1 : Int64) : pMl l yX4_upper wsX4_upper rm_X4_upper eTrue [.long p0, .long p1] (f_X4_upper p0 p1) := by
  refine pm_ofW (by decide) rfl (Nat.le_of_ble_eq_true rfl) ?_
  intro p e s m args below meth c hx hb hr hml hts hown hlocks hE ls hl
  have hl : lv_has ls 16 [(0, .long p0), (2, .long p1)] := hl
  refine lv_lload_n hx hb dX4_upper_0 rfl (lv_at hl 0 rfl) ?_
  refine lv_ldc2 hx hb hown (hts (.constantLong RX4 273 (4294967295)) (by decide +kernel)) dX4_upper_1 ?_
  refine lv_land hx hb dX4_upper_4 ?_
  refine lv_topl (fun v1 ev1 => ?_)
  refine lv_lstore (lv' := [(4, .long v1), (0, .long p0), (2, .long p1)]) hx hb dX4_upper_5 hl (by decide) rfl (fun ls hl => ?_)
  refine lv_lload_n hx hb dX4_upper_7 rfl (lv_at hl 2 rfl) ?_
  refine lv_ldc2 hx hb hown (hts (.constantLong RX4 273 (4294967295)) (by decide +kernel)) dX4_upper_8 ?_
  refine lv_land hx hb dX4_upper_11 ?_
  refine lv_topl (fun v2 ev2 => ?_)
  refine lv_lstore (lv' := [(6, .long v2), (4, .long v1), (0, .long p0), (2, .long p1)]) hx hb dX4_upper_12 hl (by decide) rfl (fun ls hl => ?_)
  refine lv_lload_n hx hb dX4_upper_14 rfl (lv_at hl 2 rfl) ?_
  refine lv_bipush (v := 32) hx hb dX4_upper_15 (by decide) ?_
  refine lv_lshr (v := jlshr p0 (32 : Int32)) hx hb dX4_upper_17 rfl ?_
  refine lv_topl (fun v3 ev3 => ?_)
  refine lv_lstore (lv' := [(8, .long v3), (6, .long v2), (4, .long v1), (0, .long p0), (2, .long p1)]) hx hb dX4_upper_18 hl (by decide) rfl (fun ls hl => ?_)
  refine lv_lload_n hx hb dX4_upper_20 rfl (lv_at hl 4 rfl) ?_
  refine lv_bipush (v := 32) hx hb dX4_upper_21 (by decide) ?_
  refine lv_lshr (v := jlshr p1 (32 : Int32)) hx hb dX4_upper_23 rfl ?_
  refine lv_topl (fun v4 ev4 => ?_)
  refine lv_lstore (lv' := [(10, .long v4), (8, .long v3), (6, .long v2), (4, .long v1), (0, .long p0), (2, .long p1)]) hx hb dX4_upper_24 hl (by decide) rfl (fun ls hl => ?_)
  refine lv_lload hx hb dX4_upper_26 (lv_at hl 1 rfl) ?_
  refine lv_lload hx hb dX4_upper_28 (lv_at hl 2 rfl) ?_
  refine lv_lmul hx hb dX4_upper_30 ?_
  refine lv_lload hx hb dX4_upper_31 (lv_at hl 3 rfl) ?_
  refine lv_lload hx hb dX4_upper_33 (lv_at hl 2 rfl) ?_
  refine lv_lmul hx hb dX4_upper_35 ?_
  refine lv_bipush (v := 32) hx hb dX4_upper_36 (by decide) ?_
  refine lv_lushr (v := jlushr (v1 * v2) (32 : Int32)) hx hb dX4_upper_38 rfl ?_
  refine lv_ladd hx hb dX4_upper_39 ?_
  refine lv_topl (fun v5 ev5 => ?_)
  refine lv_lstore (lv' := [(12, .long v5), (10, .long v4), (8, .long v3), (6, .long v2), (4, .long v1), (0, .long p0), (2, .long p1)]) hx hb dX4_upper_40 hl (by decide) rfl (fun ls hl => ?_)
  refine lv_lload hx hb dX4_upper_42 (lv_at hl 0 rfl) ?_
  refine lv_ldc2 hx hb hown (hts (.constantLong RX4 273 (4294967295)) (by decide +kernel)) dX4_upper_44 ?_
  refine lv_land hx hb dX4_upper_47 ?_
  refine lv_lload hx hb dX4_upper_48 (lv_at hl 4 rfl) ?_
  refine lv_lload hx hb dX4_upper_50 (lv_at hl 1 rfl) ?_
  refine lv_lmul hx hb dX4_upper_52 ?_
  refine lv_ladd hx hb dX4_upper_53 ?_
  refine lv_topl (fun v6 ev6 => ?_)
  refine lv_lstore (lv' := [(14, .long v6), (12, .long v5), (10, .long v4), (8, .long v3), (6, .long v2), (4, .long v1), (0, .long p0), (2, .long p1)]) hx hb dX4_upper_54 hl (by decide) rfl (fun ls hl => ?_)
  refine lv_lload hx hb dX4_upper_56 (lv_at hl 3 rfl) ?_
  refine lv_lload hx hb dX4_upper_58 (lv_at hl 2 rfl) ?_
  refine lv_lmul hx hb dX4_upper_60 ?_
  refine lv_lload hx hb dX4_upper_61 (lv_at hl 1 rfl) ?_
  refine lv_bipush (v := 32) hx hb dX4_upper_63 (by decide) ?_
  refine lv_lshr (v := jlshr v5 (32 : Int32)) hx hb dX4_upper_65 rfl ?_
  refine lv_ladd hx hb dX4_upper_66 ?_
  refine lv_lload hx hb dX4_upper_67 (lv_at hl 0 rfl) ?_
  refine lv_bipush (v := 32) hx hb dX4_upper_69 (by decide) ?_
  refine lv_lshr (v := jlshr v6 (32 : Int32)) hx hb dX4_upper_71 rfl ?_
  refine lv_ladd hx hb dX4_upper_72 ?_
  exact p_lret (by have ev6 := ev6.symm; subst ev6; have ev5 := ev5.symm; subst ev5; have ev4 := ev4.symm; subst ev4; have ev3 := ev3.symm; subst ev3; have ev2 := ev2.symm; subst ev2; have ev1 := ev1.symm; subst ev1; exact rfl) hx hb hr hlocks dX4_upper_73
def lf_X4_differences_40 (q0 : Int64) (q2 : Int64) (q4 : Int32) (q7 : Int64) : Nat → Int64 → Int32 → Int64 × Int32
  | 0, w5, w9 => (w5, w9)
  | n + 1, w5, w9 =>
    if (64 : Int32) ≤ w9 then
      (w5, w9)
    else
      let v4 : Int64 := ((jlushr q0 w9) &&& q7) - ((jlushr q2 w9) &&& q7);
      let z7 : Int64 := (if v4 ≤ (0 : Int64) then w5 else let v9 : Int64 := w5 ||| (jlshl v4 w9); v9);
      let v6 : Int64 := z7;
      let v10 : Int32 := w9 + ((8 : Int32) * q4);
      lf_X4_differences_40 q0 q2 q4 q7 n v6 v10
def f_X4_differences (p0 : Int64) (p1 : Int64) (p2 : Int32) : Int64 :=
  if p2 = (8 : Int32) then
    if (f_X4_above p0 p1) = (0 : Int32) then
      (0 : Int64)
    else
      p0 - p1
  else
    let v2 : Int64 := (jlshl (1 : Int64) ((8 : Int32) * p2)) - (1 : Int64);
    let v11 : Int64 := (lf_X4_differences_40 p0 p1 p2 v2 9 (0 : Int64) (0 : Int32)).1;
    let v12 : Int32 := (lf_X4_differences_40 p0 p1 p2 v2 9 (0 : Int64) (0 : Int32)).2;
    v11
abbrev rm_X4_differences : Room := { frames := 1, cells := 0, slots := 0, locals := 23 }
set_option maxHeartbeats 4000000 in
set_option maxRecDepth 100000 in
theorem c_X4_differences (l : Launch) (p0 : Int64) (p1 : Int64) (p2 : Int32) (h0 : p2 = 1 ∨ p2 = 2 ∨ p2 = 4 ∨ p2 = 8) : pMl l yX4_differences wsX4_differences rm_X4_differences eTrue [.long p0, .long p1, .int p2] (f_X4_differences p0 p1 p2) := by
  refine pm_ofW (by decide) rfl (Nat.le_of_ble_eq_true rfl) ?_
  intro p e s m args below meth c hx hb hr hml hts hown hlocks hE ls hl
  have hl : lv_has ls 12 [(0, .long p0), (2, .long p1), (4, .int p2)] := hl
  refine lv_iload hx hb dX4_differences_0 (lv_at hl 2 rfl) ?_
  refine lv_bipush (v := 8) hx hb dX4_differences_2 (by decide) ?_
  refine lv_icmp_ne (tgt := 23) hx hb dX4_differences_4 (by decide) (fun c1 => ?_) (fun c1 => ?_)
  · refine lv_lconst (v := 0) hx hb dX4_differences_23 (by decide) ?_
    refine lv_lstore (lv' := [(5, .long (0 : Int64)), (0, .long p0), (2, .long p1), (4, .int p2)]) hx hb dX4_differences_24 hl (by decide) rfl (fun ls hl => ?_)
    refine lv_lconst (v := 1) hx hb dX4_differences_26 (by decide) ?_
    refine lv_bipush (v := 8) hx hb dX4_differences_27 (by decide) ?_
    refine lv_iload hx hb dX4_differences_29 (lv_at hl 3 rfl) ?_
    refine lv_imul hx hb dX4_differences_31 ?_
    refine lv_lshl (v := jlshl (1 : Int64) ((8 : Int32) * p2)) hx hb dX4_differences_32 rfl ?_
    refine lv_lconst (v := 1) hx hb dX4_differences_33 (by decide) ?_
    refine lv_lsub hx hb dX4_differences_34 ?_
    refine lv_topl (fun v2 ev2 => ?_)
    refine lv_lstore (lv' := [(7, .long v2), (5, .long (0 : Int64)), (0, .long p0), (2, .long p1), (4, .int p2)]) hx hb dX4_differences_35 hl (by decide) rfl (fun ls hl => ?_)
    refine lv_iconst (v := 0) hx hb dX4_differences_37 (by decide) ?_
    refine lv_istore (lv' := [(9, .int (0 : Int32)), (7, .long v2), (5, .long (0 : Int64)), (0, .long p0), (2, .long p1), (4, .int p2)]) hx hb dX4_differences_38 hl (by decide) rfl (fun ls hl => ?_)
    have loop40 : ∀ (n : Nat) (w5 : Int64) (w9 : Int32), 0 < n ∧ 0 ≤ w9.toInt ∧ 64 ≤ w9.toInt + 8 * ((n : Int) - 1) → ∀ ls : Array Slot, lv_has ls 12 [(5, .long w5), (9, .int w9), (0, .long p0), (2, .long p1), (4, .int p2), (7, .long v2)] → (∀ ls : Array Slot, lv_has ls 12 [(5, .long ((lf_X4_differences_40 p0 p1 p2 v2 n w5 w9).1)), (9, .int ((lf_X4_differences_40 p0 p1 p2 v2 n w5 w9).2)), (0, .long p0), (2, .long p1), (4, .int p2), (7, .long v2)] → W p l e rm_X4_differences s m args below meth c s.heap [] 0 0 (MQ below (vp_Sl (fun r => r = f_X4_differences p0 p1 p2)) args s 0 0 (fun _ => False)) (F0 m 94 ls [])) → W p l e rm_X4_differences s m args below meth c s.heap [] 0 0 (MQ below (vp_Sl (fun r => r = f_X4_differences p0 p1 p2)) args s 0 0 (fun _ => False)) (F0 m 40 ls []) := by
      intro n
      induction n with
      | zero =>
        intro w5 w9 hI
        exact absurd hI (fun h => Nat.lt_irrefl 0 h.1)
      | succ n ih =>
        intro w5 w9 hI ls hl kx
        refine lv_iload hx hb dX4_differences_40 (lv_at hl 1 rfl) ?_
        refine lv_bipush (v := 64) hx hb dX4_differences_42 (by decide) ?_
        refine lv_icmp_ge (tgt := 94) hx hb dX4_differences_44 (by decide) (fun c3 => ?_) (fun c3 => ?_)
        · have hn : lf_X4_differences_40 p0 p1 p2 v2 (n + 1) w5 w9 = (w5, w9) := (by exact (if_pos c3).trans (rfl))
          rw [hn] at kx
          exact kx ls (lv_sub hl [0, 1, 2, 3, 4, 5] rfl)
        · refine lv_lload_n hx hb dX4_differences_47 rfl (lv_at hl 2 rfl) ?_
          refine lv_iload hx hb dX4_differences_48 (lv_at hl 1 rfl) ?_
          refine lv_lushr (v := jlushr p0 w9) hx hb dX4_differences_50 rfl ?_
          refine lv_lload hx hb dX4_differences_51 (lv_at hl 5 rfl) ?_
          refine lv_land hx hb dX4_differences_53 ?_
          refine lv_lload_n hx hb dX4_differences_54 rfl (lv_at hl 3 rfl) ?_
          refine lv_iload hx hb dX4_differences_55 (lv_at hl 1 rfl) ?_
          refine lv_lushr (v := jlushr p1 w9) hx hb dX4_differences_57 rfl ?_
          refine lv_lload hx hb dX4_differences_58 (lv_at hl 5 rfl) ?_
          refine lv_land hx hb dX4_differences_60 ?_
          refine lv_lsub hx hb dX4_differences_61 ?_
          refine lv_topl (fun v4 ev4 => ?_)
          refine lv_lstore (lv' := [(10, .long v4), (5, .long w5), (9, .int w9), (0, .long p0), (2, .long p1), (4, .int p2), (7, .long v2)]) hx hb dX4_differences_62 hl (by decide) rfl (fun ls hl => ?_)
          refine lv_lload hx hb dX4_differences_64 (lv_at hl 0 rfl) ?_
          refine lv_lconst (v := 0) hx hb dX4_differences_66 (by decide) ?_
          obtain ⟨z7, ez7⟩ : ∃ q : Int64, q = (if v4 ≤ (0 : Int64) then w5 else let v9 : Int64 := w5 ||| (jlshl v4 w9); v9) := ⟨_, rfl⟩
          have k8 : ∀ (v6 : Int64), v6 = z7 → ∀ ls : Array Slot, lv_has ls 12 [(0, .long p0), (2, .long p1), (4, .int p2), (5, .long v6), (7, .long v2), (9, .int w9), (10, .long v4)] → W p l e rm_X4_differences s m args below meth c s.heap [] 0 0 (MQ below (vp_Sl (fun r => r = f_X4_differences p0 p1 p2)) args s 0 0 (fun _ => False)) (F0 m 81 ls []) := by
            intro v6 jz7 ls hl
            have ev6 : v6 = z7 := jz7
            refine lv_iload hx hb dX4_differences_81 (lv_at hl 5 rfl) ?_
            refine lv_bipush (v := 8) hx hb dX4_differences_83 (by decide) ?_
            refine lv_iload hx hb dX4_differences_85 (lv_at hl 2 rfl) ?_
            refine lv_imul hx hb dX4_differences_87 ?_
            refine lv_iadd hx hb dX4_differences_88 ?_
            refine lv_topi (fun v10 ev10 => ?_)
            refine lv_istore (lv' := [(9, .int v10), (0, .long p0), (2, .long p1), (4, .int p2), (5, .long v6), (7, .long v2), (10, .long v4)]) hx hb dX4_differences_89 hl (by decide) rfl (fun ls hl => ?_)
            refine lv_goto (tgt := 40) hx hb dX4_differences_91 (by decide) ?_
            have hn : lf_X4_differences_40 p0 p1 p2 v2 (n + 1) w5 w9 = lf_X4_differences_40 p0 p1 p2 v2 n v6 v10 := (by have ev10 := ev10.symm; subst ev10; have ev6 := ev6.symm; subst ev6; have ez7 := ez7.symm; subst ez7; have ev4 := ev4.symm; subst ev4; exact (if_neg c3).trans (rfl))
            rw [hn] at kx
            exact ih v6 v10 (by have ev10 := ev10.symm; subst ev10; have ev6 := ev6.symm; subst ev6; have ez7 := ez7.symm; subst ez7; have ev4 := ev4.symm; subst ev4; have ev2 := ev2.symm; subst ev2; exact wd_next (wd_of h0) hI c3) ls (lv_sub hl [4, 0, 1, 2, 3, 5] rfl) kx
          refine lc_le (tgt := 81) hx hb dX4_differences_67 dX4_differences_68 (by decide) (fun c5 => ?_) (fun c5 => ?_)
          · exact k8 w5 (ez7.trans (by exact (if_pos c5).trans (rfl))).symm ls (lv_sub hl [3, 4, 5, 1, 6, 2, 0] rfl)
          · refine lv_lload hx hb dX4_differences_71 (lv_at hl 1 rfl) ?_
            refine lv_lload hx hb dX4_differences_73 (lv_at hl 0 rfl) ?_
            refine lv_iload hx hb dX4_differences_75 (lv_at hl 2 rfl) ?_
            refine lv_lshl (v := jlshl v4 w9) hx hb dX4_differences_77 rfl ?_
            refine lv_lor hx hb dX4_differences_78 ?_
            refine lv_topl (fun v9 ev9 => ?_)
            refine lv_lstore (lv' := [(5, .long v9), (10, .long v4), (9, .int w9), (0, .long p0), (2, .long p1), (4, .int p2), (7, .long v2)]) hx hb dX4_differences_79 hl (by decide) rfl (fun ls hl => ?_)
            exact k8 v9 (ez7.trans (by have ev9 := ev9.symm; subst ev9; exact (if_neg c5).trans (rfl))).symm ls (lv_sub hl [3, 4, 5, 0, 6, 2, 1] rfl)
    refine loop40 9 (0 : Int64) (0 : Int32) (⟨by decide, by decide, by decide⟩) ls (lv_sub hl [2, 0, 3, 4, 5, 1] rfl) ?_
    intro ls hl
    obtain ⟨v11, ev11⟩ : ∃ z, z = (lf_X4_differences_40 p0 p1 p2 v2 9 (0 : Int64) (0 : Int32)).1 := ⟨_, rfl⟩
    obtain ⟨v12, ev12⟩ : ∃ z, z = (lf_X4_differences_40 p0 p1 p2 v2 9 (0 : Int64) (0 : Int32)).2 := ⟨_, rfl⟩
    have hl : lv_has ls 12 [(5, .long v11), (9, .int v12), (0, .long p0), (2, .long p1), (4, .int p2), (7, .long v2)] := by rw [ev11, ev12]; exact hl
    refine lv_lload hx hb dX4_differences_94 (lv_at hl 0 rfl) ?_
    exact p_lret (by have ev12 := ev12.symm; subst ev12; have ev11 := ev11.symm; subst ev11; have ev2 := ev2.symm; subst ev2; exact (if_neg c1).trans (rfl)) hx hb hr hlocks dX4_differences_96
  · refine lv_lload_n hx hb dX4_differences_7 rfl (lv_at hl 0 rfl) ?_
    refine lv_lload_n hx hb dX4_differences_8 rfl (lv_at hl 1 rfl) ?_
    refine p_i (W.runS (As := [.long p0, .long p1]) (rest := []) ⟨hx, hb, hml, hown, hts⟩ (c_X4_above l p0 p1 ) (va_cwS 2 hts gX4_differences_X4_above rfl rfl rfl (by decide +kernel) ⟨Nat.le_of_ble_eq_true rfl, Nat.le_of_ble_eq_true rfl⟩) p_preT rfl rfl hl.1 rfl (lv_room (Nat.le_of_ble_eq_true rfl)) dX4_differences_9 ⟨Nat.le_of_ble_eq_true rfl, Nat.le_of_ble_eq_true rfl⟩) ?_
    refine lv_if_eq (tgt := 21) hx hb dX4_differences_12 (by decide) (fun c13 => ?_) (fun c13 => ?_)
    · refine lv_lconst (v := 0) hx hb dX4_differences_21 (by decide) ?_
      exact p_lret (by exact (if_pos c1).trans ((if_pos c13).trans (rfl))) hx hb hr hlocks dX4_differences_22
    · refine lv_lload_n hx hb dX4_differences_15 rfl (lv_at hl 0 rfl) ?_
      refine lv_lload_n hx hb dX4_differences_16 rfl (lv_at hl 1 rfl) ?_
      refine lv_lsub hx hb dX4_differences_17 ?_
      refine lv_goto (tgt := 22) hx hb dX4_differences_18 (by decide) ?_
      exact p_lret (by exact (if_pos c1).trans ((if_neg c13).trans (rfl))) hx hb hr hlocks dX4_differences_22
