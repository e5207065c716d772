def f_X3_isBeyond (p0 : Int64) : Int32 :=
  if p0 < (0 : Int64) then
    (1 : Int32)
  else
    if p0 < (16384 : Int64) then
      (0 : Int32)
    else
      (1 : Int32)
abbrev rm_X3_isBeyond : Room := { frames := 0, cells := 0, slots := 0, locals := 0 }
set_option maxHeartbeats 4000000 in
set_option maxRecDepth 100000 in
theorem c_X3_isBeyond (l : Launch) (p0 : Int64) : pMi l yX3_isBeyond wsX3_isBeyond rm_X3_isBeyond eTrue [.long p0] (f_X3_isBeyond p0) := by
  refine pm_ofW (by decide) rfl (Nat.le_of_ble_eq_true rfl) ?_
  intro p e s m args below meth c hx hb hr hml hts hown hlocks hE ls hl
  have hl : lv_has ls 2 [(0, .long p0)] := hl
  refine lv_lload_n hx hb dX3_isBeyond_0 rfl (lv_at hl 0 rfl) ?_
  refine lv_lconst (v := 0) hx hb dX3_isBeyond_1 (by decide) ?_
  refine lc_lt (tgt := 14) hx hb dX3_isBeyond_2 dX3_isBeyond_3 (by decide) (fun c1 => ?_) (fun c1 => ?_)
  · refine lv_iconst (v := 1) hx hb dX3_isBeyond_14 (by decide) ?_
    refine lv_goto (tgt := 19) hx hb dX3_isBeyond_15 (by decide) ?_
    exact p_zret (by exact (if_pos c1).trans (rfl)) hx hb hr rfl hlocks dX3_isBeyond_19
  · refine lv_lload_n hx hb dX3_isBeyond_6 rfl (lv_at hl 0 rfl) ?_
    refine lv_ldc2 hx hb hown (hts (.constantLong RX3 106 (16384)) (by decide +kernel)) dX3_isBeyond_7 ?_
    refine lc_lt (tgt := 18) hx hb dX3_isBeyond_10 dX3_isBeyond_11 (by decide) (fun c2 => ?_) (fun c2 => ?_)
    · refine lv_iconst (v := 0) hx hb dX3_isBeyond_18 (by decide) ?_
      exact p_zret (by exact (if_neg c1).trans ((if_pos c2).trans (rfl))) hx hb hr rfl hlocks dX3_isBeyond_19
    · refine lv_iconst (v := 1) hx hb dX3_isBeyond_14 (by decide) ?_
      refine lv_goto (tgt := 19) hx hb dX3_isBeyond_15 (by decide) ?_
      exact p_zret (by exact (if_neg c1).trans ((if_neg c2).trans (rfl))) hx hb hr rfl hlocks dX3_isBeyond_19
def f_X3_opOf (p0 : Int32) : Int32 :=
  jushr p0 (24 : Int32)
abbrev rm_X3_opOf : Room := { frames := 0, cells := 0, slots := 0, locals := 0 }
set_option maxHeartbeats 4000000 in
set_option maxRecDepth 100000 in
theorem c_X3_opOf (l : Launch) (p0 : Int32) : pMi l yX3_opOf wsX3_opOf rm_X3_opOf eTrue [.int p0] (f_X3_opOf p0) := by
  refine pm_ofW (by decide) rfl (Nat.le_of_ble_eq_true rfl) ?_
  intro p e s m args below meth c hx hb hr hml hts hown hlocks hE ls hl
  have hl : lv_has ls 1 [(0, .int p0)] := hl
  refine lv_iload_n hx hb dX3_opOf_0 rfl (lv_at hl 0 rfl) ?_
  refine lv_bipush (v := 24) hx hb dX3_opOf_1 (by decide) ?_
  refine lv_iushr (v := jushr p0 (24 : Int32)) hx hb dX3_opOf_3 rfl ?_
  exact p_iret (by exact rfl) hx hb hr hlocks dX3_opOf_4
def f_X3_byteX (p0 : Int32) : Int32 :=
  (jshr p0 (16 : Int32)) &&& (255 : Int32)
abbrev rm_X3_byteX : Room := { frames := 0, cells := 0, slots := 0, locals := 0 }
set_option maxHeartbeats 4000000 in
set_option maxRecDepth 100000 in
theorem c_X3_byteX (l : Launch) (p0 : Int32) : pMi l yX3_byteX wsX3_byteX rm_X3_byteX eTrue [.int p0] (f_X3_byteX p0) := by
  refine pm_ofW (by decide) rfl (Nat.le_of_ble_eq_true rfl) ?_
  intro p e s m args below meth c hx hb hr hml hts hown hlocks hE ls hl
  have hl : lv_has ls 1 [(0, .int p0)] := hl
  refine lv_iload_n hx hb dX3_byteX_0 rfl (lv_at hl 0 rfl) ?_
  refine lv_bipush (v := 16) hx hb dX3_byteX_1 (by decide) ?_
  refine lv_ishr hx hb dX3_byteX_3 ?_
  refine lv_sipush (v := 255) hx hb dX3_byteX_4 (by decide) ?_
  refine lv_iand hx hb dX3_byteX_7 ?_
  exact p_iret (by exact rfl) hx hb hr hlocks dX3_byteX_8
def f_X3_byteY (p0 : Int32) : Int32 :=
  (jshr p0 (8 : Int32)) &&& (255 : Int32)
abbrev rm_X3_byteY : Room := { frames := 0, cells := 0, slots := 0, locals := 0 }
set_option maxHeartbeats 4000000 in
set_option maxRecDepth 100000 in
theorem c_X3_byteY (l : Launch) (p0 : Int32) : pMi l yX3_byteY wsX3_byteY rm_X3_byteY eTrue [.int p0] (f_X3_byteY p0) := by
  refine pm_ofW (by decide) rfl (Nat.le_of_ble_eq_true rfl) ?_
  intro p e s m args below meth c hx hb hr hml hts hown hlocks hE ls hl
  have hl : lv_has ls 1 [(0, .int p0)] := hl
  refine lv_iload_n hx hb dX3_byteY_0 rfl (lv_at hl 0 rfl) ?_
  refine lv_bipush (v := 8) hx hb dX3_byteY_1 (by decide) ?_
  refine lv_ishr hx hb dX3_byteY_3 ?_
  refine lv_sipush (v := 255) hx hb dX3_byteY_4 (by decide) ?_
  refine lv_iand hx hb dX3_byteY_7 ?_
  exact p_iret (by exact rfl) hx hb hr hlocks dX3_byteY_8
def f_X3_byteZ (p0 : Int32) : Int32 :=
  p0 &&& (255 : Int32)
abbrev rm_X3_byteZ : Room := { frames := 0, cells := 0, slots := 0, locals := 0 }
set_option maxHeartbeats 4000000 in
set_option maxRecDepth 100000 in
theorem c_X3_byteZ (l : Launch) (p0 : Int32) : pMi l yX3_byteZ wsX3_byteZ rm_X3_byteZ eTrue [.int p0] (f_X3_byteZ p0) := by
  refine pm_ofW (by decide) rfl (Nat.le_of_ble_eq_true rfl) ?_
  intro p e s m args below meth c hx hb hr hml hts hown hlocks hE ls hl
  have hl : lv_has ls 1 [(0, .int p0)] := hl
  refine lv_iload_n hx hb dX3_byteZ_0 rfl (lv_at hl 0 rfl) ?_
  refine lv_sipush (v := 255) hx hb dX3_byteZ_1 (by decide) ?_
  refine lv_iand hx hb dX3_byteZ_4 ?_
  exact p_iret (by exact rfl) hx hb hr hlocks dX3_byteZ_5
def f_X3_wydeYZ (p0 : Int32) : Int32 :=
  p0 &&& (65535 : Int32)
abbrev rm_X3_wydeYZ : Room := { frames := 0, cells := 0, slots := 0, locals := 0 }
set_option maxHeartbeats 4000000 in
set_option maxRecDepth 100000 in
theorem c_X3_wydeYZ (l : Launch) (p0 : Int32) : pMi l yX3_wydeYZ wsX3_wydeYZ rm_X3_wydeYZ eTrue [.int p0] (f_X3_wydeYZ p0) := by
  refine pm_ofW (by decide) rfl (Nat.le_of_ble_eq_true rfl) ?_
  intro p e s m args below meth c hx hb hr hml hts hown hlocks hE ls hl
  have hl : lv_has ls 1 [(0, .int p0)] := hl
  refine lv_iload_n hx hb dX3_wydeYZ_0 rfl (lv_at hl 0 rfl) ?_
  refine lv_ldc hx hb hown (hts (.constant RX3 108 (65535)) (by decide +kernel)) dX3_wydeYZ_1 ?_
  refine lv_iand hx hb dX3_wydeYZ_3 ?_
  exact p_iret (by exact rfl) hx hb hr hlocks dX3_wydeYZ_4
def f_X3_isLegal (p0 : Int32) : Int32 :=
  let v1 : Int32 := f_X3_opOf p0;
  if v1 = (0 : Int32) then
    if p0 = (0 : Int32) then
      (1 : Int32)
    else
      if (jshr p0 (8 : Int32)) = (1 : Int32) then
        (1 : Int32)
      else
        (0 : Int32)
  else
    if v1 = (146 : Int32) then
      (1 : Int32)
    else
      if v1 = (147 : Int32) then
        (1 : Int32)
      else
        if v1 = (158 : Int32) then
          (1 : Int32)
        else
          if v1 = (159 : Int32) then
            (1 : Int32)
          else
            if v1 = (178 : Int32) then
              (1 : Int32)
            else
              if v1 = (179 : Int32) then
                (1 : Int32)
              else
                if v1 = (180 : Int32) then
                  (1 : Int32)
                else
                  if v1 = (181 : Int32) then
                    (1 : Int32)
                  else
                    if v1 = (240 : Int32) then
                      (1 : Int32)
                    else
                      if v1 = (241 : Int32) then
                        (1 : Int32)
                      else
                        if v1 = (244 : Int32) then
                          (1 : Int32)
                        else
                          if v1 = (245 : Int32) then
                            (1 : Int32)
                          else
                            if v1 = (246 : Int32) then
                              if (8 : Int32) ≤ (f_X3_byteX p0) then
                                (0 : Int32)
                              else
                                (1 : Int32)
                            else
                              if v1 = (247 : Int32) then
                                if (8 : Int32) ≤ (f_X3_byteX p0) then
                                  (0 : Int32)
                                else
                                  (1 : Int32)
                              else
                                if v1 = (253 : Int32) then
                                  (1 : Int32)
                                else
                                  if v1 = (254 : Int32) then
                                    if (8 : Int32) ≤ (f_X3_byteZ p0) then
                                      (0 : Int32)
                                    else
                                      (1 : Int32)
                                  else
                                    if v1 < (24 : Int32) then
                                      if v1 < (160 : Int32) then
                                        if v1 < (192 : Int32) then
                                          (0 : Int32)
                                        else
                                          if (240 : Int32) ≤ v1 then
                                            (0 : Int32)
                                          else
                                            (1 : Int32)
                                      else
                                        if v1 < (176 : Int32) then
                                          (1 : Int32)
                                        else
                                          if v1 < (192 : Int32) then
                                            (0 : Int32)
                                          else
                                            if (240 : Int32) ≤ v1 then
                                              (0 : Int32)
                                            else
                                              (1 : Int32)
                                    else
                                      if v1 < (144 : Int32) then
                                        (1 : Int32)
                                      else
                                        if v1 < (160 : Int32) then
                                          if v1 < (192 : Int32) then
                                            (0 : Int32)
                                          else
                                            if (240 : Int32) ≤ v1 then
                                              (0 : Int32)
                                            else
                                              (1 : Int32)
                                        else
                                          if v1 < (176 : Int32) then
                                            (1 : Int32)
                                          else
                                            if v1 < (192 : Int32) then
                                              (0 : Int32)
                                            else
                                              if (240 : Int32) ≤ v1 then
                                                (0 : Int32)
                                              else
                                                (1 : Int32)
abbrev rm_X3_isLegal : Room := { frames := 1, cells := 0, slots := 0, locals := 20 }
set_option maxHeartbeats 4000000 in
set_option maxRecDepth 100000 in
theorem c_X3_isLegal (l : Launch) (p0 : Int32) : pMi l yX3_isLegal wsX3_isLegal rm_X3_isLegal eTrue [.int p0] (f_X3_isLegal p0) := by
  refine pm_ofW (by decide) rfl (Nat.le_of_ble_eq_true rfl) ?_
  intro p e s m args below meth c hx hb hr hml hts hown hlocks hE ls hl
  have hl : lv_has ls 2 [(0, .int p0)] := hl
  refine lv_iload_n hx hb dX3_isLegal_0 rfl (lv_at hl 0 rfl) ?_
  refine p_i (W.runS (As := [.int p0]) (rest := []) ⟨hx, hb, hml, hown, hts⟩ (c_X3_opOf l p0 ) (va_cwS 1 hts gX3_isLegal_X3_opOf rfl rfl rfl (by decide +kernel) ⟨Nat.le_of_ble_eq_true rfl, Nat.le_of_ble_eq_true rfl⟩) p_preT rfl rfl hl.1 rfl (lv_room (Nat.le_of_ble_eq_true rfl)) dX3_isLegal_1 ⟨Nat.le_of_ble_eq_true rfl, Nat.le_of_ble_eq_true rfl⟩) ?_
  refine lv_topi (fun v1 ev1 => ?_)
  refine lv_istore_n (lv' := [(1, .int v1), (0, .int p0)]) hx hb dX3_isLegal_4 rfl hl (by decide) rfl (fun ls hl => ?_)
  refine lv_iload_n hx hb dX3_isLegal_5 rfl (lv_at hl 0 rfl) ?_
  by_cases c2 : v1 = 0
  · refine sw_l hx hb (k := 0) (tgt := 152) dX3_isLegal_6 c2 (by decide) rfl (by decide) ?_
    refine lv_iload_n hx hb dX3_isLegal_152 rfl (lv_at hl 1 rfl) ?_
    refine lv_if_eq (tgt := 164) hx hb dX3_isLegal_153 (by decide) (fun c3 => ?_) (fun c3 => ?_)
    · refine lv_iconst (v := 1) hx hb dX3_isLegal_164 (by decide) ?_
      refine lv_goto (tgt := 169) hx hb dX3_isLegal_165 (by decide) ?_
      exact p_zret (by have ev1 := ev1.symm; subst ev1; exact (if_pos c2).trans ((if_pos c3).trans (rfl))) hx hb hr rfl hlocks dX3_isLegal_169
    · refine lv_iload_n hx hb dX3_isLegal_156 rfl (lv_at hl 1 rfl) ?_
      refine lv_bipush (v := 8) hx hb dX3_isLegal_157 (by decide) ?_
      refine lv_ishr hx hb dX3_isLegal_159 ?_
      refine lv_iconst (v := 1) hx hb dX3_isLegal_160 (by decide) ?_
      refine lv_icmp_ne (tgt := 168) hx hb dX3_isLegal_161 (by decide) (fun c4 => ?_) (fun c4 => ?_)
      · refine lv_iconst (v := 0) hx hb dX3_isLegal_168 (by decide) ?_
        exact p_zret (by have ev1 := ev1.symm; subst ev1; exact (if_pos c2).trans ((if_neg c3).trans ((if_neg c4).trans (rfl)))) hx hb hr rfl hlocks dX3_isLegal_169
      · refine lv_iconst (v := 1) hx hb dX3_isLegal_164 (by decide) ?_
        refine lv_goto (tgt := 169) hx hb dX3_isLegal_165 (by decide) ?_
        exact p_zret (by have ev1 := ev1.symm; subst ev1; exact (if_pos c2).trans ((if_neg c3).trans ((if_pos c4).trans (rfl)))) hx hb hr rfl hlocks dX3_isLegal_169
  by_cases c5 : v1 = 146
  · refine sw_l hx hb (k := 146) (tgt := 170) dX3_isLegal_6 c5 (by decide) rfl (by decide) ?_
    refine lv_iconst (v := 1) hx hb dX3_isLegal_170 (by decide) ?_
    exact p_zret (by have ev1 := ev1.symm; subst ev1; exact (if_neg c2).trans ((if_pos c5).trans (rfl))) hx hb hr rfl hlocks dX3_isLegal_171
  by_cases c6 : v1 = 147
  · refine sw_l hx hb (k := 147) (tgt := 170) dX3_isLegal_6 c6 (by decide) rfl (by decide) ?_
    refine lv_iconst (v := 1) hx hb dX3_isLegal_170 (by decide) ?_
    exact p_zret (by have ev1 := ev1.symm; subst ev1; exact (if_neg c2).trans ((if_neg c5).trans ((if_pos c6).trans (rfl)))) hx hb hr rfl hlocks dX3_isLegal_171
  by_cases c7 : v1 = 158
  · refine sw_l hx hb (k := 158) (tgt := 170) dX3_isLegal_6 c7 (by decide) rfl (by decide) ?_
    refine lv_iconst (v := 1) hx hb dX3_isLegal_170 (by decide) ?_
    exact p_zret (by have ev1 := ev1.symm; subst ev1; exact (if_neg c2).trans ((if_neg c5).trans ((if_neg c6).trans ((if_pos c7).trans (rfl))))) hx hb hr rfl hlocks dX3_isLegal_171
  by_cases c8 : v1 = 159
  · refine sw_l hx hb (k := 159) (tgt := 170) dX3_isLegal_6 c8 (by decide) rfl (by decide) ?_
    refine lv_iconst (v := 1) hx hb dX3_isLegal_170 (by decide) ?_
    exact p_zret (by have ev1 := ev1.symm; subst ev1; exact (if_neg c2).trans ((if_neg c5).trans ((if_neg c6).trans ((if_neg c7).trans ((if_pos c8).trans (rfl)))))) hx hb hr rfl hlocks dX3_isLegal_171
  by_cases c9 : v1 = 178
  · refine sw_l hx hb (k := 178) (tgt := 172) dX3_isLegal_6 c9 (by decide) rfl (by decide) ?_
    refine lv_iconst (v := 1) hx hb dX3_isLegal_172 (by decide) ?_
    exact p_zret (by have ev1 := ev1.symm; subst ev1; exact (if_neg c2).trans ((if_neg c5).trans ((if_neg c6).trans ((if_neg c7).trans ((if_neg c8).trans ((if_pos c9).trans (rfl))))))) hx hb hr rfl hlocks dX3_isLegal_173
  by_cases c10 : v1 = 179
  · refine sw_l hx hb (k := 179) (tgt := 172) dX3_isLegal_6 c10 (by decide) rfl (by decide) ?_
    refine lv_iconst (v := 1) hx hb dX3_isLegal_172 (by decide) ?_
    exact p_zret (by have ev1 := ev1.symm; subst ev1; exact (if_neg c2).trans ((if_neg c5).trans ((if_neg c6).trans ((if_neg c7).trans ((if_neg c8).trans ((if_neg c9).trans ((if_pos c10).trans (rfl)))))))) hx hb hr rfl hlocks dX3_isLegal_173
  by_cases c11 : v1 = 180
  · refine sw_l hx hb (k := 180) (tgt := 172) dX3_isLegal_6 c11 (by decide) rfl (by decide) ?_
    refine lv_iconst (v := 1) hx hb dX3_isLegal_172 (by decide) ?_
    exact p_zret (by have ev1 := ev1.symm; subst ev1; exact (if_neg c2).trans ((if_neg c5).trans ((if_neg c6).trans ((if_neg c7).trans ((if_neg c8).trans ((if_neg c9).trans ((if_neg c10).trans ((if_pos c11).trans (rfl))))))))) hx hb hr rfl hlocks dX3_isLegal_173
  by_cases c12 : v1 = 181
  · refine sw_l hx hb (k := 181) (tgt := 172) dX3_isLegal_6 c12 (by decide) rfl (by decide) ?_
    refine lv_iconst (v := 1) hx hb dX3_isLegal_172 (by decide) ?_
    exact p_zret (by have ev1 := ev1.symm; subst ev1; exact (if_neg c2).trans ((if_neg c5).trans ((if_neg c6).trans ((if_neg c7).trans ((if_neg c8).trans ((if_neg c9).trans ((if_neg c10).trans ((if_neg c11).trans ((if_pos c12).trans (rfl)))))))))) hx hb hr rfl hlocks dX3_isLegal_173
  by_cases c13 : v1 = 240
  · refine sw_l hx hb (k := 240) (tgt := 174) dX3_isLegal_6 c13 (by decide) rfl (by decide) ?_
    refine lv_iconst (v := 1) hx hb dX3_isLegal_174 (by decide) ?_
    exact p_zret (by have ev1 := ev1.symm; subst ev1; exact (if_neg c2).trans ((if_neg c5).trans ((if_neg c6).trans ((if_neg c7).trans ((if_neg c8).trans ((if_neg c9).trans ((if_neg c10).trans ((if_neg c11).trans ((if_neg c12).trans ((if_pos c13).trans (rfl))))))))))) hx hb hr rfl hlocks dX3_isLegal_175
  by_cases c14 : v1 = 241
  · refine sw_l hx hb (k := 241) (tgt := 174) dX3_isLegal_6 c14 (by decide) rfl (by decide) ?_
    refine lv_iconst (v := 1) hx hb dX3_isLegal_174 (by decide) ?_
    exact p_zret (by have ev1 := ev1.symm; subst ev1; exact (if_neg c2).trans ((if_neg c5).trans ((if_neg c6).trans ((if_neg c7).trans ((if_neg c8).trans ((if_neg c9).trans ((if_neg c10).trans ((if_neg c11).trans ((if_neg c12).trans ((if_neg c13).trans ((if_pos c14).trans (rfl)))))))))))) hx hb hr rfl hlocks dX3_isLegal_175
  by_cases c15 : v1 = 244
  · refine sw_l hx hb (k := 244) (tgt := 174) dX3_isLegal_6 c15 (by decide) rfl (by decide) ?_
    refine lv_iconst (v := 1) hx hb dX3_isLegal_174 (by decide) ?_
    exact p_zret (by have ev1 := ev1.symm; subst ev1; exact (if_neg c2).trans ((if_neg c5).trans ((if_neg c6).trans ((if_neg c7).trans ((if_neg c8).trans ((if_neg c9).trans ((if_neg c10).trans ((if_neg c11).trans ((if_neg c12).trans ((if_neg c13).trans ((if_neg c14).trans ((if_pos c15).trans (rfl))))))))))))) hx hb hr rfl hlocks dX3_isLegal_175
  by_cases c16 : v1 = 245
  · refine sw_l hx hb (k := 245) (tgt := 174) dX3_isLegal_6 c16 (by decide) rfl (by decide) ?_
    refine lv_iconst (v := 1) hx hb dX3_isLegal_174 (by decide) ?_
    exact p_zret (by have ev1 := ev1.symm; subst ev1; exact (if_neg c2).trans ((if_neg c5).trans ((if_neg c6).trans ((if_neg c7).trans ((if_neg c8).trans ((if_neg c9).trans ((if_neg c10).trans ((if_neg c11).trans ((if_neg c12).trans ((if_neg c13).trans ((if_neg c14).trans ((if_neg c15).trans ((if_pos c16).trans (rfl)))))))))))))) hx hb hr rfl hlocks dX3_isLegal_175
  by_cases c17 : v1 = 246
  · refine sw_l hx hb (k := 246) (tgt := 176) dX3_isLegal_6 c17 (by decide) rfl (by decide) ?_
    refine lv_iload_n hx hb dX3_isLegal_176 rfl (lv_at hl 1 rfl) ?_
    refine p_i (W.runS (As := [.int p0]) (rest := []) ⟨hx, hb, hml, hown, hts⟩ (c_X3_byteX l p0 ) (va_cwS 1 hts gX3_isLegal_X3_byteX rfl rfl rfl (by decide +kernel) ⟨Nat.le_of_ble_eq_true rfl, Nat.le_of_ble_eq_true rfl⟩) p_preT rfl rfl hl.1 rfl (lv_room (Nat.le_of_ble_eq_true rfl)) dX3_isLegal_177 ⟨Nat.le_of_ble_eq_true rfl, Nat.le_of_ble_eq_true rfl⟩) ?_
    refine lv_bipush (v := 8) hx hb dX3_isLegal_180 (by decide) ?_
    refine lv_icmp_ge (tgt := 189) hx hb dX3_isLegal_182 (by decide) (fun c18 => ?_) (fun c18 => ?_)
    · refine lv_iconst (v := 0) hx hb dX3_isLegal_189 (by decide) ?_
      exact p_zret (by have ev1 := ev1.symm; subst ev1; exact (if_neg c2).trans ((if_neg c5).trans ((if_neg c6).trans ((if_neg c7).trans ((if_neg c8).trans ((if_neg c9).trans ((if_neg c10).trans ((if_neg c11).trans ((if_neg c12).trans ((if_neg c13).trans ((if_neg c14).trans ((if_neg c15).trans ((if_neg c16).trans ((if_pos c17).trans ((if_pos c18).trans (rfl)))))))))))))))) hx hb hr rfl hlocks dX3_isLegal_190
    · refine lv_iconst (v := 1) hx hb dX3_isLegal_185 (by decide) ?_
      refine lv_goto (tgt := 190) hx hb dX3_isLegal_186 (by decide) ?_
      exact p_zret (by have ev1 := ev1.symm; subst ev1; exact (if_neg c2).trans ((if_neg c5).trans ((if_neg c6).trans ((if_neg c7).trans ((if_neg c8).trans ((if_neg c9).trans ((if_neg c10).trans ((if_neg c11).trans ((if_neg c12).trans ((if_neg c13).trans ((if_neg c14).trans ((if_neg c15).trans ((if_neg c16).trans ((if_pos c17).trans ((if_neg c18).trans (rfl)))))))))))))))) hx hb hr rfl hlocks dX3_isLegal_190
  by_cases c19 : v1 = 247
  · refine sw_l hx hb (k := 247) (tgt := 176) dX3_isLegal_6 c19 (by decide) rfl (by decide) ?_
    refine lv_iload_n hx hb dX3_isLegal_176 rfl (lv_at hl 1 rfl) ?_
    refine p_i (W.runS (As := [.int p0]) (rest := []) ⟨hx, hb, hml, hown, hts⟩ (c_X3_byteX l p0 ) (va_cwS 1 hts gX3_isLegal_X3_byteX rfl rfl rfl (by decide +kernel) ⟨Nat.le_of_ble_eq_true rfl, Nat.le_of_ble_eq_true rfl⟩) p_preT rfl rfl hl.1 rfl (lv_room (Nat.le_of_ble_eq_true rfl)) dX3_isLegal_177 ⟨Nat.le_of_ble_eq_true rfl, Nat.le_of_ble_eq_true rfl⟩) ?_
    refine lv_bipush (v := 8) hx hb dX3_isLegal_180 (by decide) ?_
    refine lv_icmp_ge (tgt := 189) hx hb dX3_isLegal_182 (by decide) (fun c20 => ?_) (fun c20 => ?_)
    · refine lv_iconst (v := 0) hx hb dX3_isLegal_189 (by decide) ?_
      exact p_zret (by have ev1 := ev1.symm; subst ev1; exact (if_neg c2).trans ((if_neg c5).trans ((if_neg c6).trans ((if_neg c7).trans ((if_neg c8).trans ((if_neg c9).trans ((if_neg c10).trans ((if_neg c11).trans ((if_neg c12).trans ((if_neg c13).trans ((if_neg c14).trans ((if_neg c15).trans ((if_neg c16).trans ((if_neg c17).trans ((if_pos c19).trans ((if_pos c20).trans (rfl))))))))))))))))) hx hb hr rfl hlocks dX3_isLegal_190
    · refine lv_iconst (v := 1) hx hb dX3_isLegal_185 (by decide) ?_
      refine lv_goto (tgt := 190) hx hb dX3_isLegal_186 (by decide) ?_
      exact p_zret (by have ev1 := ev1.symm; subst ev1; exact (if_neg c2).trans ((if_neg c5).trans ((if_neg c6).trans ((if_neg c7).trans ((if_neg c8).trans ((if_neg c9).trans ((if_neg c10).trans ((if_neg c11).trans ((if_neg c12).trans ((if_neg c13).trans ((if_neg c14).trans ((if_neg c15).trans ((if_neg c16).trans ((if_neg c17).trans ((if_pos c19).trans ((if_neg c20).trans (rfl))))))))))))))))) hx hb hr rfl hlocks dX3_isLegal_190
  by_cases c21 : v1 = 253
  · refine sw_l hx hb (k := 253) (tgt := 174) dX3_isLegal_6 c21 (by decide) rfl (by decide) ?_
    refine lv_iconst (v := 1) hx hb dX3_isLegal_174 (by decide) ?_
    exact p_zret (by have ev1 := ev1.symm; subst ev1; exact (if_neg c2).trans ((if_neg c5).trans ((if_neg c6).trans ((if_neg c7).trans ((if_neg c8).trans ((if_neg c9).trans ((if_neg c10).trans ((if_neg c11).trans ((if_neg c12).trans ((if_neg c13).trans ((if_neg c14).trans ((if_neg c15).trans ((if_neg c16).trans ((if_neg c17).trans ((if_neg c19).trans ((if_pos c21).trans (rfl))))))))))))))))) hx hb hr rfl hlocks dX3_isLegal_175
  by_cases c22 : v1 = 254
  · refine sw_l hx hb (k := 254) (tgt := 191) dX3_isLegal_6 c22 (by decide) rfl (by decide) ?_
    refine lv_iload_n hx hb dX3_isLegal_191 rfl (lv_at hl 1 rfl) ?_
    refine p_i (W.runS (As := [.int p0]) (rest := []) ⟨hx, hb, hml, hown, hts⟩ (c_X3_byteZ l p0 ) (va_cwS 1 hts gX3_isLegal_X3_byteZ rfl rfl rfl (by decide +kernel) ⟨Nat.le_of_ble_eq_true rfl, Nat.le_of_ble_eq_true rfl⟩) p_preT rfl rfl hl.1 rfl (lv_room (Nat.le_of_ble_eq_true rfl)) dX3_isLegal_192 ⟨Nat.le_of_ble_eq_true rfl, Nat.le_of_ble_eq_true rfl⟩) ?_
    refine lv_bipush (v := 8) hx hb dX3_isLegal_195 (by decide) ?_
    refine lv_icmp_ge (tgt := 204) hx hb dX3_isLegal_197 (by decide) (fun c23 => ?_) (fun c23 => ?_)
    · refine lv_iconst (v := 0) hx hb dX3_isLegal_204 (by decide) ?_
      exact p_zret (by have ev1 := ev1.symm; subst ev1; exact (if_neg c2).trans ((if_neg c5).trans ((if_neg c6).trans ((if_neg c7).trans ((if_neg c8).trans ((if_neg c9).trans ((if_neg c10).trans ((if_neg c11).trans ((if_neg c12).trans ((if_neg c13).trans ((if_neg c14).trans ((if_neg c15).trans ((if_neg c16).trans ((if_neg c17).trans ((if_neg c19).trans ((if_neg c21).trans ((if_pos c22).trans ((if_pos c23).trans (rfl))))))))))))))))))) hx hb hr rfl hlocks dX3_isLegal_205
    · refine lv_iconst (v := 1) hx hb dX3_isLegal_200 (by decide) ?_
      refine lv_goto (tgt := 205) hx hb dX3_isLegal_201 (by decide) ?_
      exact p_zret (by have ev1 := ev1.symm; subst ev1; exact (if_neg c2).trans ((if_neg c5).trans ((if_neg c6).trans ((if_neg c7).trans ((if_neg c8).trans ((if_neg c9).trans ((if_neg c10).trans ((if_neg c11).trans ((if_neg c12).trans ((if_neg c13).trans ((if_neg c14).trans ((if_neg c15).trans ((if_neg c16).trans ((if_neg c17).trans ((if_neg c19).trans ((if_neg c21).trans ((if_pos c22).trans ((if_neg c23).trans (rfl))))))))))))))))))) hx hb hr rfl hlocks dX3_isLegal_205
  refine sw_ld hx hb [0, 146, 147, 158, 159, 178, 179, 180, 181, 240, 241, 244, 245, 246, 247, 253, 254] (tgt := 206) dX3_isLegal_6 (List.forall_mem_cons.mpr ⟨c2, (List.forall_mem_cons.mpr ⟨c5, (List.forall_mem_cons.mpr ⟨c6, (List.forall_mem_cons.mpr ⟨c7, (List.forall_mem_cons.mpr ⟨c8, (List.forall_mem_cons.mpr ⟨c9, (List.forall_mem_cons.mpr ⟨c10, (List.forall_mem_cons.mpr ⟨c11, (List.forall_mem_cons.mpr ⟨c12, (List.forall_mem_cons.mpr ⟨c13, (List.forall_mem_cons.mpr ⟨c14, (List.forall_mem_cons.mpr ⟨c15, (List.forall_mem_cons.mpr ⟨c16, (List.forall_mem_cons.mpr ⟨c17, (List.forall_mem_cons.mpr ⟨c19, (List.forall_mem_cons.mpr ⟨c21, (List.forall_mem_cons.mpr ⟨c22, (fun _ h => absurd h List.not_mem_nil)⟩)⟩)⟩)⟩)⟩)⟩)⟩)⟩)⟩)⟩)⟩)⟩)⟩)⟩)⟩)⟩)⟩) (by decide) (by decide) (by decide) ?_
  refine lv_iload_n hx hb dX3_isLegal_206 rfl (lv_at hl 0 rfl) ?_
  refine lv_bipush (v := 24) hx hb dX3_isLegal_207 (by decide) ?_
  refine lv_icmp_lt (tgt := 219) hx hb dX3_isLegal_209 (by decide) (fun c24 => ?_) (fun c24 => ?_)
  · refine lv_iload_n hx hb dX3_isLegal_219 rfl (lv_at hl 0 rfl) ?_
    refine lv_sipush (v := 160) hx hb dX3_isLegal_220 (by decide) ?_
    refine lv_icmp_lt (tgt := 233) hx hb dX3_isLegal_223 (by decide) (fun c25 => ?_) (fun c25 => ?_)
    · refine lv_iload_n hx hb dX3_isLegal_233 rfl (lv_at hl 0 rfl) ?_
      refine lv_sipush (v := 192) hx hb dX3_isLegal_234 (by decide) ?_
      refine lv_icmp_lt (tgt := 251) hx hb dX3_isLegal_237 (by decide) (fun c26 => ?_) (fun c26 => ?_)
      · refine lv_iconst (v := 0) hx hb dX3_isLegal_251 (by decide) ?_
        exact p_zret (by have ev1 := ev1.symm; subst ev1; exact (if_neg c2).trans ((if_neg c5).trans ((if_neg c6).trans ((if_neg c7).trans ((if_neg c8).trans ((if_neg c9).trans ((if_neg c10).trans ((if_neg c11).trans ((if_neg c12).trans ((if_neg c13).trans ((if_neg c14).trans ((if_neg c15).trans ((if_neg c16).trans ((if_neg c17).trans ((if_neg c19).trans ((if_neg c21).trans ((if_neg c22).trans ((if_pos c24).trans ((if_pos c25).trans ((if_pos c26).trans (rfl))))))))))))))))))))) hx hb hr rfl hlocks dX3_isLegal_252
      · refine lv_iload_n hx hb dX3_isLegal_240 rfl (lv_at hl 0 rfl) ?_
        refine lv_sipush (v := 240) hx hb dX3_isLegal_241 (by decide) ?_
        refine lv_icmp_ge (tgt := 251) hx hb dX3_isLegal_244 (by decide) (fun c27 => ?_) (fun c27 => ?_)
        · refine lv_iconst (v := 0) hx hb dX3_isLegal_251 (by decide) ?_
          exact p_zret (by have ev1 := ev1.symm; subst ev1; exact (if_neg c2).trans ((if_neg c5).trans ((if_neg c6).trans ((if_neg c7).trans ((if_neg c8).trans ((if_neg c9).trans ((if_neg c10).trans ((if_neg c11).trans ((if_neg c12).trans ((if_neg c13).trans ((if_neg c14).trans ((if_neg c15).trans ((if_neg c16).trans ((if_neg c17).trans ((if_neg c19).trans ((if_neg c21).trans ((if_neg c22).trans ((if_pos c24).trans ((if_pos c25).trans ((if_neg c26).trans ((if_pos c27).trans (rfl)))))))))))))))))))))) hx hb hr rfl hlocks dX3_isLegal_252
        · refine lv_iconst (v := 1) hx hb dX3_isLegal_247 (by decide) ?_
          refine lv_goto (tgt := 252) hx hb dX3_isLegal_248 (by decide) ?_
          exact p_zret (by have ev1 := ev1.symm; subst ev1; exact (if_neg c2).trans ((if_neg c5).trans ((if_neg c6).trans ((if_neg c7).trans ((if_neg c8).trans ((if_neg c9).trans ((if_neg c10).trans ((if_neg c11).trans ((if_neg c12).trans ((if_neg c13).trans ((if_neg c14).trans ((if_neg c15).trans ((if_neg c16).trans ((if_neg c17).trans ((if_neg c19).trans ((if_neg c21).trans ((if_neg c22).trans ((if_pos c24).trans ((if_pos c25).trans ((if_neg c26).trans ((if_neg c27).trans (rfl)))))))))))))))))))))) hx hb hr rfl hlocks dX3_isLegal_252
    · refine lv_iload_n hx hb dX3_isLegal_226 rfl (lv_at hl 0 rfl) ?_
      refine lv_sipush (v := 176) hx hb dX3_isLegal_227 (by decide) ?_
      refine lv_icmp_lt (tgt := 247) hx hb dX3_isLegal_230 (by decide) (fun c28 => ?_) (fun c28 => ?_)
      · refine lv_iconst (v := 1) hx hb dX3_isLegal_247 (by decide) ?_
        refine lv_goto (tgt := 252) hx hb dX3_isLegal_248 (by decide) ?_
        exact p_zret (by have ev1 := ev1.symm; subst ev1; exact (if_neg c2).trans ((if_neg c5).trans ((if_neg c6).trans ((if_neg c7).trans ((if_neg c8).trans ((if_neg c9).trans ((if_neg c10).trans ((if_neg c11).trans ((if_neg c12).trans ((if_neg c13).trans ((if_neg c14).trans ((if_neg c15).trans ((if_neg c16).trans ((if_neg c17).trans ((if_neg c19).trans ((if_neg c21).trans ((if_neg c22).trans ((if_pos c24).trans ((if_neg c25).trans ((if_pos c28).trans (rfl))))))))))))))))))))) hx hb hr rfl hlocks dX3_isLegal_252
      · refine lv_iload_n hx hb dX3_isLegal_233 rfl (lv_at hl 0 rfl) ?_
        refine lv_sipush (v := 192) hx hb dX3_isLegal_234 (by decide) ?_
        refine lv_icmp_lt (tgt := 251) hx hb dX3_isLegal_237 (by decide) (fun c29 => ?_) (fun c29 => ?_)
        · refine lv_iconst (v := 0) hx hb dX3_isLegal_251 (by decide) ?_
          exact p_zret (by have ev1 := ev1.symm; subst ev1; exact (if_neg c2).trans ((if_neg c5).trans ((if_neg c6).trans ((if_neg c7).trans ((if_neg c8).trans ((if_neg c9).trans ((if_neg c10).trans ((if_neg c11).trans ((if_neg c12).trans ((if_neg c13).trans ((if_neg c14).trans ((if_neg c15).trans ((if_neg c16).trans ((if_neg c17).trans ((if_neg c19).trans ((if_neg c21).trans ((if_neg c22).trans ((if_pos c24).trans ((if_neg c25).trans ((if_neg c28).trans ((if_pos c29).trans (rfl)))))))))))))))))))))) hx hb hr rfl hlocks dX3_isLegal_252
        · refine lv_iload_n hx hb dX3_isLegal_240 rfl (lv_at hl 0 rfl) ?_
          refine lv_sipush (v := 240) hx hb dX3_isLegal_241 (by decide) ?_
          refine lv_icmp_ge (tgt := 251) hx hb dX3_isLegal_244 (by decide) (fun c30 => ?_) (fun c30 => ?_)
          · refine lv_iconst (v := 0) hx hb dX3_isLegal_251 (by decide) ?_
            exact p_zret (by have ev1 := ev1.symm; subst ev1; exact (if_neg c2).trans ((if_neg c5).trans ((if_neg c6).trans ((if_neg c7).trans ((if_neg c8).trans ((if_neg c9).trans ((if_neg c10).trans ((if_neg c11).trans ((if_neg c12).trans ((if_neg c13).trans ((if_neg c14).trans ((if_neg c15).trans ((if_neg c16).trans ((if_neg c17).trans ((if_neg c19).trans ((if_neg c21).trans ((if_neg c22).trans ((if_pos c24).trans ((if_neg c25).trans ((if_neg c28).trans ((if_neg c29).trans ((if_pos c30).trans (rfl))))))))))))))))))))))) hx hb hr rfl hlocks dX3_isLegal_252
          · refine lv_iconst (v := 1) hx hb dX3_isLegal_247 (by decide) ?_
            refine lv_goto (tgt := 252) hx hb dX3_isLegal_248 (by decide) ?_
            exact p_zret (by have ev1 := ev1.symm; subst ev1; exact (if_neg c2).trans ((if_neg c5).trans ((if_neg c6).trans ((if_neg c7).trans ((if_neg c8).trans ((if_neg c9).trans ((if_neg c10).trans ((if_neg c11).trans ((if_neg c12).trans ((if_neg c13).trans ((if_neg c14).trans ((if_neg c15).trans ((if_neg c16).trans ((if_neg c17).trans ((if_neg c19).trans ((if_neg c21).trans ((if_neg c22).trans ((if_pos c24).trans ((if_neg c25).trans ((if_neg c28).trans ((if_neg c29).trans ((if_neg c30).trans (rfl))))))))))))))))))))))) hx hb hr rfl hlocks dX3_isLegal_252
  · refine lv_iload_n hx hb dX3_isLegal_212 rfl (lv_at hl 0 rfl) ?_
    refine lv_sipush (v := 144) hx hb dX3_isLegal_213 (by decide) ?_
    refine lv_icmp_lt (tgt := 247) hx hb dX3_isLegal_216 (by decide) (fun c31 => ?_) (fun c31 => ?_)
    · refine lv_iconst (v := 1) hx hb dX3_isLegal_247 (by decide) ?_
      refine lv_goto (tgt := 252) hx hb dX3_isLegal_248 (by decide) ?_
      exact p_zret (by have ev1 := ev1.symm; subst ev1; exact (if_neg c2).trans ((if_neg c5).trans ((if_neg c6).trans ((if_neg c7).trans ((if_neg c8).trans ((if_neg c9).trans ((if_neg c10).trans ((if_neg c11).trans ((if_neg c12).trans ((if_neg c13).trans ((if_neg c14).trans ((if_neg c15).trans ((if_neg c16).trans ((if_neg c17).trans ((if_neg c19).trans ((if_neg c21).trans ((if_neg c22).trans ((if_neg c24).trans ((if_pos c31).trans (rfl)))))))))))))))))))) hx hb hr rfl hlocks dX3_isLegal_252
    · refine lv_iload_n hx hb dX3_isLegal_219 rfl (lv_at hl 0 rfl) ?_
      refine lv_sipush (v := 160) hx hb dX3_isLegal_220 (by decide) ?_
      refine lv_icmp_lt (tgt := 233) hx hb dX3_isLegal_223 (by decide) (fun c32 => ?_) (fun c32 => ?_)
      · refine lv_iload_n hx hb dX3_isLegal_233 rfl (lv_at hl 0 rfl) ?_
        refine lv_sipush (v := 192) hx hb dX3_isLegal_234 (by decide) ?_
        refine lv_icmp_lt (tgt := 251) hx hb dX3_isLegal_237 (by decide) (fun c33 => ?_) (fun c33 => ?_)
        · refine lv_iconst (v := 0) hx hb dX3_isLegal_251 (by decide) ?_
          exact p_zret (by have ev1 := ev1.symm; subst ev1; exact (if_neg c2).trans ((if_neg c5).trans ((if_neg c6).trans ((if_neg c7).trans ((if_neg c8).trans ((if_neg c9).trans ((if_neg c10).trans ((if_neg c11).trans ((if_neg c12).trans ((if_neg c13).trans ((if_neg c14).trans ((if_neg c15).trans ((if_neg c16).trans ((if_neg c17).trans ((if_neg c19).trans ((if_neg c21).trans ((if_neg c22).trans ((if_neg c24).trans ((if_neg c31).trans ((if_pos c32).trans ((if_pos c33).trans (rfl)))))))))))))))))))))) hx hb hr rfl hlocks dX3_isLegal_252
        · refine lv_iload_n hx hb dX3_isLegal_240 rfl (lv_at hl 0 rfl) ?_
          refine lv_sipush (v := 240) hx hb dX3_isLegal_241 (by decide) ?_
          refine lv_icmp_ge (tgt := 251) hx hb dX3_isLegal_244 (by decide) (fun c34 => ?_) (fun c34 => ?_)
          · refine lv_iconst (v := 0) hx hb dX3_isLegal_251 (by decide) ?_
            exact p_zret (by have ev1 := ev1.symm; subst ev1; exact (if_neg c2).trans ((if_neg c5).trans ((if_neg c6).trans ((if_neg c7).trans ((if_neg c8).trans ((if_neg c9).trans ((if_neg c10).trans ((if_neg c11).trans ((if_neg c12).trans ((if_neg c13).trans ((if_neg c14).trans ((if_neg c15).trans ((if_neg c16).trans ((if_neg c17).trans ((if_neg c19).trans ((if_neg c21).trans ((if_neg c22).trans ((if_neg c24).trans ((if_neg c31).trans ((if_pos c32).trans ((if_neg c33).trans ((if_pos c34).trans (rfl))))))))))))))))))))))) hx hb hr rfl hlocks dX3_isLegal_252
          · refine lv_iconst (v := 1) hx hb dX3_isLegal_247 (by decide) ?_
            refine lv_goto (tgt := 252) hx hb dX3_isLegal_248 (by decide) ?_
            exact p_zret (by have ev1 := ev1.symm; subst ev1; exact (if_neg c2).trans ((if_neg c5).trans ((if_neg c6).trans ((if_neg c7).trans ((if_neg c8).trans ((if_neg c9).trans ((if_neg c10).trans ((if_neg c11).trans ((if_neg c12).trans ((if_neg c13).trans ((if_neg c14).trans ((if_neg c15).trans ((if_neg c16).trans ((if_neg c17).trans ((if_neg c19).trans ((if_neg c21).trans ((if_neg c22).trans ((if_neg c24).trans ((if_neg c31).trans ((if_pos c32).trans ((if_neg c33).trans ((if_neg c34).trans (rfl))))))))))))))))))))))) hx hb hr rfl hlocks dX3_isLegal_252
      · refine lv_iload_n hx hb dX3_isLegal_226 rfl (lv_at hl 0 rfl) ?_
        refine lv_sipush (v := 176) hx hb dX3_isLegal_227 (by decide) ?_
        refine lv_icmp_lt (tgt := 247) hx hb dX3_isLegal_230 (by decide) (fun c35 => ?_) (fun c35 => ?_)
        · refine lv_iconst (v := 1) hx hb dX3_isLegal_247 (by decide) ?_
          refine lv_goto (tgt := 252) hx hb dX3_isLegal_248 (by decide) ?_
          exact p_zret (by have ev1 := ev1.symm; subst ev1; exact (if_neg c2).trans ((if_neg c5).trans ((if_neg c6).trans ((if_neg c7).trans ((if_neg c8).trans ((if_neg c9).trans ((if_neg c10).trans ((if_neg c11).trans ((if_neg c12).trans ((if_neg c13).trans ((if_neg c14).trans ((if_neg c15).trans ((if_neg c16).trans ((if_neg c17).trans ((if_neg c19).trans ((if_neg c21).trans ((if_neg c22).trans ((if_neg c24).trans ((if_neg c31).trans ((if_neg c32).trans ((if_pos c35).trans (rfl)))))))))))))))))))))) hx hb hr rfl hlocks dX3_isLegal_252
        · refine lv_iload_n hx hb dX3_isLegal_233 rfl (lv_at hl 0 rfl) ?_
          refine lv_sipush (v := 192) hx hb dX3_isLegal_234 (by decide) ?_
          refine lv_icmp_lt (tgt := 251) hx hb dX3_isLegal_237 (by decide) (fun c36 => ?_) (fun c36 => ?_)
          · refine lv_iconst (v := 0) hx hb dX3_isLegal_251 (by decide) ?_
            exact p_zret (by have ev1 := ev1.symm; subst ev1; exact (if_neg c2).trans ((if_neg c5).trans ((if_neg c6).trans ((if_neg c7).trans ((if_neg c8).trans ((if_neg c9).trans ((if_neg c10).trans ((if_neg c11).trans ((if_neg c12).trans ((if_neg c13).trans ((if_neg c14).trans ((if_neg c15).trans ((if_neg c16).trans ((if_neg c17).trans ((if_neg c19).trans ((if_neg c21).trans ((if_neg c22).trans ((if_neg c24).trans ((if_neg c31).trans ((if_neg c32).trans ((if_neg c35).trans ((if_pos c36).trans (rfl))))))))))))))))))))))) hx hb hr rfl hlocks dX3_isLegal_252
          · refine lv_iload_n hx hb dX3_isLegal_240 rfl (lv_at hl 0 rfl) ?_
            refine lv_sipush (v := 240) hx hb dX3_isLegal_241 (by decide) ?_
            refine lv_icmp_ge (tgt := 251) hx hb dX3_isLegal_244 (by decide) (fun c37 => ?_) (fun c37 => ?_)
            · refine lv_iconst (v := 0) hx hb dX3_isLegal_251 (by decide) ?_
              exact p_zret (by have ev1 := ev1.symm; subst ev1; exact (if_neg c2).trans ((if_neg c5).trans ((if_neg c6).trans ((if_neg c7).trans ((if_neg c8).trans ((if_neg c9).trans ((if_neg c10).trans ((if_neg c11).trans ((if_neg c12).trans ((if_neg c13).trans ((if_neg c14).trans ((if_neg c15).trans ((if_neg c16).trans ((if_neg c17).trans ((if_neg c19).trans ((if_neg c21).trans ((if_neg c22).trans ((if_neg c24).trans ((if_neg c31).trans ((if_neg c32).trans ((if_neg c35).trans ((if_neg c36).trans ((if_pos c37).trans (rfl)))))))))))))))))))))))) hx hb hr rfl hlocks dX3_isLegal_252
            · refine lv_iconst (v := 1) hx hb dX3_isLegal_247 (by decide) ?_
              refine lv_goto (tgt := 252) hx hb dX3_isLegal_248 (by decide) ?_
              exact p_zret (by have ev1 := ev1.symm; subst ev1; exact (if_neg c2).trans ((if_neg c5).trans ((if_neg c6).trans ((if_neg c7).trans ((if_neg c8).trans ((if_neg c9).trans ((if_neg c10).trans ((if_neg c11).trans ((if_neg c12).trans ((if_neg c13).trans ((if_neg c14).trans ((if_neg c15).trans ((if_neg c16).trans ((if_neg c17).trans ((if_neg c19).trans ((if_neg c21).trans ((if_neg c22).trans ((if_neg c24).trans ((if_neg c31).trans ((if_neg c32).trans ((if_neg c35).trans ((if_neg c36).trans ((if_neg c37).trans (rfl)))))))))))))))))))))))) hx hb hr rfl hlocks dX3_isLegal_252
def f_X3_isGo (p0 : Int32) : Int32 :=
  if (p0 &&& (254 : Int32)) = (158 : Int32) then
    (1 : Int32)
  else
    (0 : Int32)
abbrev rm_X3_isGo : Room := { frames := 0, cells := 0, slots := 0, locals := 0 }
set_option maxHeartbeats 4000000 in
set_option maxRecDepth 100000 in
theorem c_X3_isGo (l : Launch) (p0 : Int32) : pMi l yX3_isGo wsX3_isGo rm_X3_isGo eTrue [.int p0] (f_X3_isGo p0) := by
  refine pm_ofW (by decide) rfl (Nat.le_of_ble_eq_true rfl) ?_
  intro p e s m args below meth c hx hb hr hml hts hown hlocks hE ls hl
  have hl : lv_has ls 1 [(0, .int p0)] := hl
  refine lv_iload_n hx hb dX3_isGo_0 rfl (lv_at hl 0 rfl) ?_
  refine lv_sipush (v := 254) hx hb dX3_isGo_1 (by decide) ?_
  refine lv_iand hx hb dX3_isGo_4 ?_
  refine lv_sipush (v := 158) hx hb dX3_isGo_5 (by decide) ?_
  refine lv_icmp_ne (tgt := 15) hx hb dX3_isGo_8 (by decide) (fun c1 => ?_) (fun c1 => ?_)
  · refine lv_iconst (v := 0) hx hb dX3_isGo_15 (by decide) ?_
    exact p_zret (by exact (if_neg c1).trans (rfl)) hx hb hr rfl hlocks dX3_isGo_16
  · refine lv_iconst (v := 1) hx hb dX3_isGo_11 (by decide) ?_
    refine lv_goto (tgt := 16) hx hb dX3_isGo_12 (by decide) ?_
    exact p_zret (by exact (if_pos c1).trans (rfl)) hx hb hr rfl hlocks dX3_isGo_16
def f_X3_isLoadOrStore (p0 : Int32) : Int32 :=
  if p0 < (128 : Int32) then
    (0 : Int32)
  else
    if (192 : Int32) ≤ p0 then
      (0 : Int32)
    else
      if (f_X3_isGo p0) = (0 : Int32) then
        (1 : Int32)
      else
        (0 : Int32)
abbrev rm_X3_isLoadOrStore : Room := { frames := 1, cells := 0, slots := 0, locals := 20 }
set_option maxHeartbeats 4000000 in
set_option maxRecDepth 100000 in
theorem c_X3_isLoadOrStore (l : Launch) (p0 : Int32) : pMi l yX3_isLoadOrStore wsX3_isLoadOrStore rm_X3_isLoadOrStore eTrue [.int p0] (f_X3_isLoadOrStore p0) := by
  refine pm_ofW (by decide) rfl (Nat.le_of_ble_eq_true rfl) ?_
  intro p e s m args below meth c hx hb hr hml hts hown hlocks hE ls hl
  have hl : lv_has ls 1 [(0, .int p0)] := hl
  refine lv_iload_n hx hb dX3_isLoadOrStore_0 rfl (lv_at hl 0 rfl) ?_
  refine lv_sipush (v := 128) hx hb dX3_isLoadOrStore_1 (by decide) ?_
  refine lv_icmp_lt (tgt := 25) hx hb dX3_isLoadOrStore_4 (by decide) (fun c1 => ?_) (fun c1 => ?_)
  · refine lv_iconst (v := 0) hx hb dX3_isLoadOrStore_25 (by decide) ?_
    exact p_zret (by exact (if_pos c1).trans (rfl)) hx hb hr rfl hlocks dX3_isLoadOrStore_26
  · refine lv_iload_n hx hb dX3_isLoadOrStore_7 rfl (lv_at hl 0 rfl) ?_
    refine lv_sipush (v := 192) hx hb dX3_isLoadOrStore_8 (by decide) ?_
    refine lv_icmp_ge (tgt := 25) hx hb dX3_isLoadOrStore_11 (by decide) (fun c2 => ?_) (fun c2 => ?_)
    · refine lv_iconst (v := 0) hx hb dX3_isLoadOrStore_25 (by decide) ?_
      exact p_zret (by exact (if_neg c1).trans ((if_pos c2).trans (rfl))) hx hb hr rfl hlocks dX3_isLoadOrStore_26
    · refine lv_iload_n hx hb dX3_isLoadOrStore_14 rfl (lv_at hl 0 rfl) ?_
      refine p_i (W.runS (As := [.int p0]) (rest := []) ⟨hx, hb, hml, hown, hts⟩ (c_X3_isGo l p0 ) (va_cwS 1 hts gX3_isLoadOrStore_X3_isGo rfl rfl rfl (by decide +kernel) ⟨Nat.le_of_ble_eq_true rfl, Nat.le_of_ble_eq_true rfl⟩) p_preT rfl rfl hl.1 rfl (lv_room (Nat.le_of_ble_eq_true rfl)) dX3_isLoadOrStore_15 ⟨Nat.le_of_ble_eq_true rfl, Nat.le_of_ble_eq_true rfl⟩) ?_
      refine lv_if_ne (tgt := 25) hx hb dX3_isLoadOrStore_18 (by decide) (fun c3 => ?_) (fun c3 => ?_)
      · refine lv_iconst (v := 0) hx hb dX3_isLoadOrStore_25 (by decide) ?_
        exact p_zret (by exact (if_neg c1).trans ((if_neg c2).trans ((if_neg c3).trans (rfl)))) hx hb hr rfl hlocks dX3_isLoadOrStore_26
      · refine lv_iconst (v := 1) hx hb dX3_isLoadOrStore_21 (by decide) ?_
        refine lv_goto (tgt := 26) hx hb dX3_isLoadOrStore_22 (by decide) ?_
        exact p_zret (by exact (if_neg c1).trans ((if_neg c2).trans ((if_pos c3).trans (rfl)))) hx hb hr rfl hlocks dX3_isLoadOrStore_26
def f_X3_leastOops (p0 : Int32) : Int32 :=
  if p0 = (0 : Int32) then
    (5 : Int32)
  else
    if p0 = (24 : Int32) then
      (10 : Int32)
    else
      if p0 = (25 : Int32) then
        (10 : Int32)
      else
        if p0 = (26 : Int32) then
          (10 : Int32)
        else
          if p0 = (27 : Int32) then
            (10 : Int32)
          else
            if p0 = (28 : Int32) then
              (60 : Int32)
            else
              if p0 = (29 : Int32) then
                (60 : Int32)
              else
                if p0 = (30 : Int32) then
                  (60 : Int32)
                else
                  if p0 = (31 : Int32) then
                    (60 : Int32)
                  else
                    if p0 = (158 : Int32) then
                      (3 : Int32)
                    else
                      if p0 = (159 : Int32) then
                        (3 : Int32)
                      else
                        (1 : Int32)
abbrev rm_X3_leastOops : Room := { frames := 0, cells := 0, slots := 0, locals := 0 }
set_option maxHeartbeats 4000000 in
set_option maxRecDepth 100000 in
theorem c_X3_leastOops (l : Launch) (p0 : Int32) : pMi l yX3_leastOops wsX3_leastOops rm_X3_leastOops eTrue [.int p0] (f_X3_leastOops p0) := by
  refine pm_ofW (by decide) rfl (Nat.le_of_ble_eq_true rfl) ?_
  intro p e s m args below meth c hx hb hr hml hts hown hlocks hE ls hl
  have hl : lv_has ls 1 [(0, .int p0)] := hl
  refine lv_iload_n hx hb dX3_leastOops_0 rfl (lv_at hl 0 rfl) ?_
  by_cases c1 : p0 = 0
  · refine sw_l hx hb (k := 0) (tgt := 100) dX3_leastOops_1 c1 (by decide) rfl (by decide) ?_
    refine lv_iconst (v := 5) hx hb dX3_leastOops_100 (by decide) ?_
    exact p_iret (by exact (if_pos c1).trans (rfl)) hx hb hr hlocks dX3_leastOops_101
  by_cases c2 : p0 = 24
  · refine sw_l hx hb (k := 24) (tgt := 102) dX3_leastOops_1 c2 (by decide) rfl (by decide) ?_
    refine lv_bipush (v := 10) hx hb dX3_leastOops_102 (by decide) ?_
    exact p_iret (by exact (if_neg c1).trans ((if_pos c2).trans (rfl))) hx hb hr hlocks dX3_leastOops_104
  by_cases c3 : p0 = 25
  · refine sw_l hx hb (k := 25) (tgt := 102) dX3_leastOops_1 c3 (by decide) rfl (by decide) ?_
    refine lv_bipush (v := 10) hx hb dX3_leastOops_102 (by decide) ?_
    exact p_iret (by exact (if_neg c1).trans ((if_neg c2).trans ((if_pos c3).trans (rfl)))) hx hb hr hlocks dX3_leastOops_104
  by_cases c4 : p0 = 26
  · refine sw_l hx hb (k := 26) (tgt := 102) dX3_leastOops_1 c4 (by decide) rfl (by decide) ?_
    refine lv_bipush (v := 10) hx hb dX3_leastOops_102 (by decide) ?_
    exact p_iret (by exact (if_neg c1).trans ((if_neg c2).trans ((if_neg c3).trans ((if_pos c4).trans (rfl))))) hx hb hr hlocks dX3_leastOops_104
  by_cases c5 : p0 = 27
  · refine sw_l hx hb (k := 27) (tgt := 102) dX3_leastOops_1 c5 (by decide) rfl (by decide) ?_
    refine lv_bipush (v := 10) hx hb dX3_leastOops_102 (by decide) ?_
    exact p_iret (by exact (if_neg c1).trans ((if_neg c2).trans ((if_neg c3).trans ((if_neg c4).trans ((if_pos c5).trans (rfl)))))) hx hb hr hlocks dX3_leastOops_104
  by_cases c6 : p0 = 28
  · refine sw_l hx hb (k := 28) (tgt := 105) dX3_leastOops_1 c6 (by decide) rfl (by decide) ?_
    refine lv_bipush (v := 60) hx hb dX3_leastOops_105 (by decide) ?_
    exact p_iret (by exact (if_neg c1).trans ((if_neg c2).trans ((if_neg c3).trans ((if_neg c4).trans ((if_neg c5).trans ((if_pos c6).trans (rfl))))))) hx hb hr hlocks dX3_leastOops_107
  by_cases c7 : p0 = 29
  · refine sw_l hx hb (k := 29) (tgt := 105) dX3_leastOops_1 c7 (by decide) rfl (by decide) ?_
    refine lv_bipush (v := 60) hx hb dX3_leastOops_105 (by decide) ?_
    exact p_iret (by exact (if_neg c1).trans ((if_neg c2).trans ((if_neg c3).trans ((if_neg c4).trans ((if_neg c5).trans ((if_neg c6).trans ((if_pos c7).trans (rfl)))))))) hx hb hr hlocks dX3_leastOops_107
  by_cases c8 : p0 = 30
  · refine sw_l hx hb (k := 30) (tgt := 105) dX3_leastOops_1 c8 (by decide) rfl (by decide) ?_
    refine lv_bipush (v := 60) hx hb dX3_leastOops_105 (by decide) ?_
    exact p_iret (by exact (if_neg c1).trans ((if_neg c2).trans ((if_neg c3).trans ((if_neg c4).trans ((if_neg c5).trans ((if_neg c6).trans ((if_neg c7).trans ((if_pos c8).trans (rfl))))))))) hx hb hr hlocks dX3_leastOops_107
  by_cases c9 : p0 = 31
  · refine sw_l hx hb (k := 31) (tgt := 105) dX3_leastOops_1 c9 (by decide) rfl (by decide) ?_
    refine lv_bipush (v := 60) hx hb dX3_leastOops_105 (by decide) ?_
    exact p_iret (by exact (if_neg c1).trans ((if_neg c2).trans ((if_neg c3).trans ((if_neg c4).trans ((if_neg c5).trans ((if_neg c6).trans ((if_neg c7).trans ((if_neg c8).trans ((if_pos c9).trans (rfl)))))))))) hx hb hr hlocks dX3_leastOops_107
  by_cases c10 : p0 = 158
  · refine sw_l hx hb (k := 158) (tgt := 108) dX3_leastOops_1 c10 (by decide) rfl (by decide) ?_
    refine lv_iconst (v := 3) hx hb dX3_leastOops_108 (by decide) ?_
    exact p_iret (by exact (if_neg c1).trans ((if_neg c2).trans ((if_neg c3).trans ((if_neg c4).trans ((if_neg c5).trans ((if_neg c6).trans ((if_neg c7).trans ((if_neg c8).trans ((if_neg c9).trans ((if_pos c10).trans (rfl))))))))))) hx hb hr hlocks dX3_leastOops_109
  by_cases c11 : p0 = 159
  · refine sw_l hx hb (k := 159) (tgt := 108) dX3_leastOops_1 c11 (by decide) rfl (by decide) ?_
    refine lv_iconst (v := 3) hx hb dX3_leastOops_108 (by decide) ?_
    exact p_iret (by exact (if_neg c1).trans ((if_neg c2).trans ((if_neg c3).trans ((if_neg c4).trans ((if_neg c5).trans ((if_neg c6).trans ((if_neg c7).trans ((if_neg c8).trans ((if_neg c9).trans ((if_neg c10).trans ((if_pos c11).trans (rfl)))))))))))) hx hb hr hlocks dX3_leastOops_109
  refine sw_ld hx hb [0, 24, 25, 26, 27, 28, 29, 30, 31, 158, 159] (tgt := 110) dX3_leastOops_1 (List.forall_mem_cons.mpr ⟨c1, (List.forall_mem_cons.mpr ⟨c2, (List.forall_mem_cons.mpr ⟨c3, (List.forall_mem_cons.mpr ⟨c4, (List.forall_mem_cons.mpr ⟨c5, (List.forall_mem_cons.mpr ⟨c6, (List.forall_mem_cons.mpr ⟨c7, (List.forall_mem_cons.mpr ⟨c8, (List.forall_mem_cons.mpr ⟨c9, (List.forall_mem_cons.mpr ⟨c10, (List.forall_mem_cons.mpr ⟨c11, (fun _ h => absurd h List.not_mem_nil)⟩)⟩)⟩)⟩)⟩)⟩)⟩)⟩)⟩)⟩)⟩) (by decide) (by decide) (by decide) ?_
  refine lv_iconst (v := 1) hx hb dX3_leastOops_110 (by decide) ?_
  exact p_iret (by exact (if_neg c1).trans ((if_neg c2).trans ((if_neg c3).trans ((if_neg c4).trans ((if_neg c5).trans ((if_neg c6).trans ((if_neg c7).trans ((if_neg c8).trans ((if_neg c9).trans ((if_neg c10).trans ((if_neg c11).trans (rfl)))))))))))) hx hb hr hlocks dX3_leastOops_111
def f_X3_holds (p0 : Int32) (p1 : Int64) : Int32 :=
  if ((jshr p0 (1 : Int32)) &&& (7 : Int32)) = (0 : Int32) then
    if (0 : Int64) ≤ p1 then
      (0 : Int32)
    else
      (1 : Int32)
  else
    if ((jshr p0 (1 : Int32)) &&& (7 : Int32)) = (1 : Int32) then
      if p1 = (0 : Int64) then
        (1 : Int32)
      else
        (0 : Int32)
    else
      if ((jshr p0 (1 : Int32)) &&& (7 : Int32)) = (2 : Int32) then
        if p1 ≤ (0 : Int64) then
          (0 : Int32)
        else
          (1 : Int32)
      else
        if ((jshr p0 (1 : Int32)) &&& (7 : Int32)) = (3 : Int32) then
          if (p1 &&& (1 : Int64)) = (1 : Int64) then
            (1 : Int32)
          else
            (0 : Int32)
        else
          if ((jshr p0 (1 : Int32)) &&& (7 : Int32)) = (4 : Int32) then
            if p1 < (0 : Int64) then
              (0 : Int32)
            else
              (1 : Int32)
          else
            if ((jshr p0 (1 : Int32)) &&& (7 : Int32)) = (5 : Int32) then
              if p1 = (0 : Int64) then
                (0 : Int32)
              else
                (1 : Int32)
            else
              if ((jshr p0 (1 : Int32)) &&& (7 : Int32)) = (6 : Int32) then
                if (0 : Int64) < p1 then
                  (0 : Int32)
                else
                  (1 : Int32)
              else
                if (p1 &&& (1 : Int64)) = (0 : Int64) then
                  (1 : Int32)
                else
                  (0 : Int32)
abbrev rm_X3_holds : Room := { frames := 0, cells := 0, slots := 0, locals := 0 }
set_option maxHeartbeats 4000000 in
set_option maxRecDepth 100000 in
theorem c_X3_holds (l : Launch) (p0 : Int32) (p1 : Int64) : pMi l yX3_holds wsX3_holds rm_X3_holds eTrue [.int p0, .long p1] (f_X3_holds p0 p1) := by
  refine pm_ofW (by decide) rfl (Nat.le_of_ble_eq_true rfl) ?_
  intro p e s m args below meth c hx hb hr hml hts hown hlocks hE ls hl
  have hl : lv_has ls 3 [(0, .int p0), (1, .long p1)] := hl
  refine lv_iload_n hx hb dX3_holds_0 rfl (lv_at hl 0 rfl) ?_
  refine lv_iconst (v := 1) hx hb dX3_holds_1 (by decide) ?_
  refine lv_ishr hx hb dX3_holds_2 ?_
  refine lv_bipush (v := 7) hx hb dX3_holds_3 (by decide) ?_
  refine lv_iand hx hb dX3_holds_5 ?_
  by_cases c1 : ((jshr p0 (1 : Int32)) &&& (7 : Int32)) = 0
  · refine sw_t hx hb 0 (k := 0) (tgt := 48) dX3_holds_6 c1 (by decide) rfl (by decide) ?_
    refine lv_lload_n hx hb dX3_holds_48 rfl (lv_at hl 1 rfl) ?_
    refine lv_lconst (v := 0) hx hb dX3_holds_49 (by decide) ?_
    refine lc_ge (tgt := 58) hx hb dX3_holds_50 dX3_holds_51 (by decide) (fun c2 => ?_) (fun c2 => ?_)
    · refine lv_iconst (v := 0) hx hb dX3_holds_58 (by decide) ?_
      exact p_zret (by exact (if_pos c1).trans ((if_pos c2).trans (rfl))) hx hb hr rfl hlocks dX3_holds_59
    · refine lv_iconst (v := 1) hx hb dX3_holds_54 (by decide) ?_
      refine lv_goto (tgt := 59) hx hb dX3_holds_55 (by decide) ?_
      exact p_zret (by exact (if_pos c1).trans ((if_neg c2).trans (rfl))) hx hb hr rfl hlocks dX3_holds_59
  by_cases c3 : ((jshr p0 (1 : Int32)) &&& (7 : Int32)) = 1
  · refine sw_t hx hb 1 (k := 1) (tgt := 60) dX3_holds_6 c3 (by decide) rfl (by decide) ?_
    refine lv_lload_n hx hb dX3_holds_60 rfl (lv_at hl 1 rfl) ?_
    refine lv_lconst (v := 0) hx hb dX3_holds_61 (by decide) ?_
    refine lc_ne (tgt := 70) hx hb dX3_holds_62 dX3_holds_63 (by decide) (fun c4 => ?_) (fun c4 => ?_)
    · refine lv_iconst (v := 0) hx hb dX3_holds_70 (by decide) ?_
      exact p_zret (by exact (if_neg c1).trans ((if_pos c3).trans ((if_neg c4).trans (rfl)))) hx hb hr rfl hlocks dX3_holds_71
    · refine lv_iconst (v := 1) hx hb dX3_holds_66 (by decide) ?_
      refine lv_goto (tgt := 71) hx hb dX3_holds_67 (by decide) ?_
      exact p_zret (by exact (if_neg c1).trans ((if_pos c3).trans ((if_pos c4).trans (rfl)))) hx hb hr rfl hlocks dX3_holds_71
  by_cases c5 : ((jshr p0 (1 : Int32)) &&& (7 : Int32)) = 2
  · refine sw_t hx hb 2 (k := 2) (tgt := 72) dX3_holds_6 c5 (by decide) rfl (by decide) ?_
    refine lv_lload_n hx hb dX3_holds_72 rfl (lv_at hl 1 rfl) ?_
    refine lv_lconst (v := 0) hx hb dX3_holds_73 (by decide) ?_
    refine lc_le (tgt := 82) hx hb dX3_holds_74 dX3_holds_75 (by decide) (fun c6 => ?_) (fun c6 => ?_)
    · refine lv_iconst (v := 0) hx hb dX3_holds_82 (by decide) ?_
      exact p_zret (by exact (if_neg c1).trans ((if_neg c3).trans ((if_pos c5).trans ((if_pos c6).trans (rfl))))) hx hb hr rfl hlocks dX3_holds_83
    · refine lv_iconst (v := 1) hx hb dX3_holds_78 (by decide) ?_
      refine lv_goto (tgt := 83) hx hb dX3_holds_79 (by decide) ?_
      exact p_zret (by exact (if_neg c1).trans ((if_neg c3).trans ((if_pos c5).trans ((if_neg c6).trans (rfl))))) hx hb hr rfl hlocks dX3_holds_83
  by_cases c7 : ((jshr p0 (1 : Int32)) &&& (7 : Int32)) = 3
  · refine sw_t hx hb 3 (k := 3) (tgt := 84) dX3_holds_6 c7 (by decide) rfl (by decide) ?_
    refine lv_lload_n hx hb dX3_holds_84 rfl (lv_at hl 1 rfl) ?_
    refine lv_lconst (v := 1) hx hb dX3_holds_85 (by decide) ?_
    refine lv_land hx hb dX3_holds_86 ?_
    refine lv_lconst (v := 1) hx hb dX3_holds_87 (by decide) ?_
    refine lc_ne (tgt := 96) hx hb dX3_holds_88 dX3_holds_89 (by decide) (fun c8 => ?_) (fun c8 => ?_)
    · refine lv_iconst (v := 0) hx hb dX3_holds_96 (by decide) ?_
      exact p_zret (by exact (if_neg c1).trans ((if_neg c3).trans ((if_neg c5).trans ((if_pos c7).trans ((if_neg c8).trans (rfl)))))) hx hb hr rfl hlocks dX3_holds_97
    · refine lv_iconst (v := 1) hx hb dX3_holds_92 (by decide) ?_
      refine lv_goto (tgt := 97) hx hb dX3_holds_93 (by decide) ?_
      exact p_zret (by exact (if_neg c1).trans ((if_neg c3).trans ((if_neg c5).trans ((if_pos c7).trans ((if_pos c8).trans (rfl)))))) hx hb hr rfl hlocks dX3_holds_97
  by_cases c9 : ((jshr p0 (1 : Int32)) &&& (7 : Int32)) = 4
  · refine sw_t hx hb 4 (k := 4) (tgt := 98) dX3_holds_6 c9 (by decide) rfl (by decide) ?_
    refine lv_lload_n hx hb dX3_holds_98 rfl (lv_at hl 1 rfl) ?_
    refine lv_lconst (v := 0) hx hb dX3_holds_99 (by decide) ?_
    refine lc_lt (tgt := 108) hx hb dX3_holds_100 dX3_holds_101 (by decide) (fun c10 => ?_) (fun c10 => ?_)
    · refine lv_iconst (v := 0) hx hb dX3_holds_108 (by decide) ?_
      exact p_zret (by exact (if_neg c1).trans ((if_neg c3).trans ((if_neg c5).trans ((if_neg c7).trans ((if_pos c9).trans ((if_pos c10).trans (rfl))))))) hx hb hr rfl hlocks dX3_holds_109
    · refine lv_iconst (v := 1) hx hb dX3_holds_104 (by decide) ?_
      refine lv_goto (tgt := 109) hx hb dX3_holds_105 (by decide) ?_
      exact p_zret (by exact (if_neg c1).trans ((if_neg c3).trans ((if_neg c5).trans ((if_neg c7).trans ((if_pos c9).trans ((if_neg c10).trans (rfl))))))) hx hb hr rfl hlocks dX3_holds_109
  by_cases c11 : ((jshr p0 (1 : Int32)) &&& (7 : Int32)) = 5
  · refine sw_t hx hb 5 (k := 5) (tgt := 110) dX3_holds_6 c11 (by decide) rfl (by decide) ?_
    refine lv_lload_n hx hb dX3_holds_110 rfl (lv_at hl 1 rfl) ?_
    refine lv_lconst (v := 0) hx hb dX3_holds_111 (by decide) ?_
    refine lc_eq (tgt := 120) hx hb dX3_holds_112 dX3_holds_113 (by decide) (fun c12 => ?_) (fun c12 => ?_)
    · refine lv_iconst (v := 0) hx hb dX3_holds_120 (by decide) ?_
      exact p_zret (by exact (if_neg c1).trans ((if_neg c3).trans ((if_neg c5).trans ((if_neg c7).trans ((if_neg c9).trans ((if_pos c11).trans ((if_pos c12).trans (rfl)))))))) hx hb hr rfl hlocks dX3_holds_121
    · refine lv_iconst (v := 1) hx hb dX3_holds_116 (by decide) ?_
      refine lv_goto (tgt := 121) hx hb dX3_holds_117 (by decide) ?_
      exact p_zret (by exact (if_neg c1).trans ((if_neg c3).trans ((if_neg c5).trans ((if_neg c7).trans ((if_neg c9).trans ((if_pos c11).trans ((if_neg c12).trans (rfl)))))))) hx hb hr rfl hlocks dX3_holds_121
  by_cases c13 : ((jshr p0 (1 : Int32)) &&& (7 : Int32)) = 6
  · refine sw_t hx hb 6 (k := 6) (tgt := 122) dX3_holds_6 c13 (by decide) rfl (by decide) ?_
    refine lv_lload_n hx hb dX3_holds_122 rfl (lv_at hl 1 rfl) ?_
    refine lv_lconst (v := 0) hx hb dX3_holds_123 (by decide) ?_
    refine lc_gt (tgt := 132) hx hb dX3_holds_124 dX3_holds_125 (by decide) (fun c14 => ?_) (fun c14 => ?_)
    · refine lv_iconst (v := 0) hx hb dX3_holds_132 (by decide) ?_
      exact p_zret (by exact (if_neg c1).trans ((if_neg c3).trans ((if_neg c5).trans ((if_neg c7).trans ((if_neg c9).trans ((if_neg c11).trans ((if_pos c13).trans ((if_pos c14).trans (rfl))))))))) hx hb hr rfl hlocks dX3_holds_133
    · refine lv_iconst (v := 1) hx hb dX3_holds_128 (by decide) ?_
      refine lv_goto (tgt := 133) hx hb dX3_holds_129 (by decide) ?_
      exact p_zret (by exact (if_neg c1).trans ((if_neg c3).trans ((if_neg c5).trans ((if_neg c7).trans ((if_neg c9).trans ((if_neg c11).trans ((if_pos c13).trans ((if_neg c14).trans (rfl))))))))) hx hb hr rfl hlocks dX3_holds_133
  refine sw_td hx hb [0, 1, 2, 3, 4, 5, 6] (tgt := 134) dX3_holds_6 (List.forall_mem_cons.mpr ⟨c1, (List.forall_mem_cons.mpr ⟨c3, (List.forall_mem_cons.mpr ⟨c5, (List.forall_mem_cons.mpr ⟨c7, (List.forall_mem_cons.mpr ⟨c9, (List.forall_mem_cons.mpr ⟨c11, (List.forall_mem_cons.mpr ⟨c13, (fun _ h => absurd h List.not_mem_nil)⟩)⟩)⟩)⟩)⟩)⟩)⟩) (by decide) (by decide) (by decide) ?_
  refine lv_lload_n hx hb dX3_holds_134 rfl (lv_at hl 1 rfl) ?_
  refine lv_lconst (v := 1) hx hb dX3_holds_135 (by decide) ?_
  refine lv_land hx hb dX3_holds_136 ?_
  refine lv_lconst (v := 0) hx hb dX3_holds_137 (by decide) ?_
  refine lc_ne (tgt := 146) hx hb dX3_holds_138 dX3_holds_139 (by decide) (fun c15 => ?_) (fun c15 => ?_)
  · refine lv_iconst (v := 0) hx hb dX3_holds_146 (by decide) ?_
    exact p_zret (by exact (if_neg c1).trans ((if_neg c3).trans ((if_neg c5).trans ((if_neg c7).trans ((if_neg c9).trans ((if_neg c11).trans ((if_neg c13).trans ((if_neg c15).trans (rfl))))))))) hx hb hr rfl hlocks dX3_holds_147
  · refine lv_iconst (v := 1) hx hb dX3_holds_142 (by decide) ?_
    refine lv_goto (tgt := 147) hx hb dX3_holds_143 (by decide) ?_
    exact p_zret (by exact (if_neg c1).trans ((if_neg c3).trans ((if_neg c5).trans ((if_neg c7).trans ((if_neg c9).trans ((if_neg c11).trans ((if_neg c13).trans ((if_pos c15).trans (rfl))))))))) hx hb hr rfl hlocks dX3_holds_147
def f_X3_relative (p0 : Int32) (p1 : Int64) : Int64 :=
  let z3 : Int32 := (if ((f_X3_opOf p0) &&& (1 : Int32)) = (1 : Int32) then (1 : Int32) else (0 : Int32));
  let v2 : Int32 := z3;
  let z7 : Int32 := (if v2 = (0 : Int32) then f_X3_wydeYZ p0 else (f_X3_wydeYZ p0) - (65536 : Int32));
  let v6 : Int32 := z7;
  p1 + ((4 : Int64) * v6.toInt64)
abbrev rm_X3_relative : Room := { frames := 1, cells := 0, slots := 0, locals := 20 }
set_option maxHeartbeats 4000000 in
set_option maxRecDepth 100000 in
theorem c_X3_relative (l : Launch) (p0 : Int32) (p1 : Int64) : pMl l yX3_relative wsX3_relative rm_X3_relative eTrue [.int p0, .long p1] (f_X3_relative p0 p1) := by
  refine pm_ofW (by decide) rfl (Nat.le_of_ble_eq_true rfl) ?_
  intro p e s m args below meth c hx hb hr hml hts hown hlocks hE ls hl
  have hl : lv_has ls 4 [(0, .int p0), (1, .long p1)] := hl
  refine lv_iload_n hx hb dX3_relative_0 rfl (lv_at hl 0 rfl) ?_
  refine p_i (W.runS (As := [.int p0]) (rest := []) ⟨hx, hb, hml, hown, hts⟩ (c_X3_opOf l p0 ) (va_cwS 1 hts gX3_relative_X3_opOf rfl rfl rfl (by decide +kernel) ⟨Nat.le_of_ble_eq_true rfl, Nat.le_of_ble_eq_true rfl⟩) p_preT rfl rfl hl.1 rfl (lv_room (Nat.le_of_ble_eq_true rfl)) dX3_relative_1 ⟨Nat.le_of_ble_eq_true rfl, Nat.le_of_ble_eq_true rfl⟩) ?_
  refine lv_iconst (v := 1) hx hb dX3_relative_4 (by decide) ?_
  refine lv_iand hx hb dX3_relative_5 ?_
  refine lv_iconst (v := 1) hx hb dX3_relative_6 (by decide) ?_
  obtain ⟨z3, ez3⟩ : ∃ q : Int32, q = (if ((f_X3_opOf p0) &&& (1 : Int32)) = (1 : Int32) then (1 : Int32) else (0 : Int32)) := ⟨_, rfl⟩
  have k4 : ∀ (v2 : Int32), v2 = z3 → ∀ ls : Array Slot, lv_has ls 4 [(0, .int p0), (1, .long p1)] → W p l e rm_X3_relative s m args below meth c s.heap [] 0 0 (MQ below (vp_Sl (fun r => r = f_X3_relative p0 p1)) args s 0 0 (fun _ => False)) (F0 m 15 ls [.int v2]) := by
    intro v2 jz3 ls hl
    have ev2 : v2 = z3 := jz3
    refine lv_istore_n (lv' := [(3, .int v2), (0, .int p0), (1, .long p1)]) hx hb dX3_relative_15 rfl hl (by decide) rfl (fun ls hl => ?_)
    refine lv_lload_n hx hb dX3_relative_16 rfl (lv_at hl 2 rfl) ?_
    refine lv_ldc2 hx hb hown (hts (.constantLong RX3 152 (4)) (by decide +kernel)) dX3_relative_17 ?_
    refine lv_iload_n hx hb dX3_relative_20 rfl (lv_at hl 0 rfl) ?_
    obtain ⟨z7, ez7⟩ : ∃ q : Int32, q = (if v2 = (0 : Int32) then f_X3_wydeYZ p0 else (f_X3_wydeYZ p0) - (65536 : Int32)) := ⟨_, rfl⟩
    have k8 : ∀ (v6 : Int32), v6 = z7 → ∀ ls : Array Slot, lv_has ls 4 [(0, .int p0), (1, .long p1), (3, .int v2)] → W p l e rm_X3_relative s m args below meth c s.heap [] 0 0 (MQ below (vp_Sl (fun r => r = f_X3_relative p0 p1)) args s 0 0 (fun _ => False)) (F0 m 39 ls [.int v6, .long (4 : Int64), .long p1]) := by
      intro v6 jz7 ls hl
      have ev6 : v6 = z7 := jz7
      refine lv_i2l (v := v6.toInt64) hx hb dX3_relative_39 rfl ?_
      refine lv_lmul hx hb dX3_relative_40 ?_
      refine lv_ladd hx hb dX3_relative_41 ?_
      exact p_lret (by have ev6 := ev6.symm; subst ev6; have ez7 := ez7.symm; subst ez7; have ev2 := ev2.symm; subst ev2; have ez3 := ez3.symm; subst ez3; exact rfl) hx hb hr hlocks dX3_relative_42
    refine lv_if_eq (tgt := 35) hx hb dX3_relative_21 (by decide) (fun c5 => ?_) (fun c5 => ?_)
    · refine lv_iload_n hx hb dX3_relative_35 rfl (lv_at hl 1 rfl) ?_
      refine p_i (W.runS (As := [.int p0]) (rest := [.long (4 : Int64), .long p1]) ⟨hx, hb, hml, hown, hts⟩ (c_X3_wydeYZ l p0 ) (va_cwS 1 hts gX3_relative_X3_wydeYZ rfl rfl rfl (by decide +kernel) ⟨Nat.le_of_ble_eq_true rfl, Nat.le_of_ble_eq_true rfl⟩) p_preT rfl rfl hl.1 rfl (lv_room (Nat.le_of_ble_eq_true rfl)) dX3_relative_36 ⟨Nat.le_of_ble_eq_true rfl, Nat.le_of_ble_eq_true rfl⟩) ?_
      exact k8 (f_X3_wydeYZ p0) (ez7.trans (by exact (if_pos c5).trans (rfl))).symm ls (lv_sub hl [1, 2, 0] rfl)
    · refine lv_iload_n hx hb dX3_relative_24 rfl (lv_at hl 1 rfl) ?_
      refine p_i (W.runS (As := [.int p0]) (rest := [.long (4 : Int64), .long p1]) ⟨hx, hb, hml, hown, hts⟩ (c_X3_wydeYZ l p0 ) (va_cwS 1 hts gX3_relative_X3_wydeYZ rfl rfl rfl (by decide +kernel) ⟨Nat.le_of_ble_eq_true rfl, Nat.le_of_ble_eq_true rfl⟩) p_preT rfl rfl hl.1 rfl (lv_room (Nat.le_of_ble_eq_true rfl)) dX3_relative_25 ⟨Nat.le_of_ble_eq_true rfl, Nat.le_of_ble_eq_true rfl⟩) ?_
      refine lv_ldcw hx hb hown (hts (.constant RX3 263 (65536)) (by decide +kernel)) dX3_relative_28 ?_
      refine lv_isub hx hb dX3_relative_31 ?_
      refine lv_goto (tgt := 39) hx hb dX3_relative_32 (by decide) ?_
      exact k8 ((f_X3_wydeYZ p0) - (65536 : Int32)) (ez7.trans (by exact (if_neg c5).trans (rfl))).symm ls (lv_sub hl [1, 2, 0] rfl)
  refine lv_icmp_ne (tgt := 14) hx hb dX3_relative_7 (by decide) (fun c1 => ?_) (fun c1 => ?_)
  · refine lv_iconst (v := 0) hx hb dX3_relative_14 (by decide) ?_
    exact k4 (0 : Int32) (ez3.trans (by exact (if_neg c1).trans (rfl))).symm ls (lv_sub hl [0, 1] rfl)
  · refine lv_iconst (v := 1) hx hb dX3_relative_10 (by decide) ?_
    refine lv_goto (tgt := 15) hx hb dX3_relative_11 (by decide) ?_
    exact k4 (1 : Int32) (ez3.trans (by exact (if_pos c1).trans (rfl))).symm ls (lv_sub hl [0, 1] rfl)
def f_X3_sizeOf (p0 : Int32) : Int32 :=
  jshl (1 : Int32) ((jshr p0 (2 : Int32)) &&& (3 : Int32))
abbrev rm_X3_sizeOf : Room := { frames := 0, cells := 0, slots := 0, locals := 0 }
set_option maxHeartbeats 4000000 in
set_option maxRecDepth 100000 in
theorem c_X3_sizeOf (l : Launch) (p0 : Int32) : pMi l yX3_sizeOf wsX3_sizeOf rm_X3_sizeOf eTrue [.int p0] (f_X3_sizeOf p0) := by
  refine pm_ofW (by decide) rfl (Nat.le_of_ble_eq_true rfl) ?_
  intro p e s m args below meth c hx hb hr hml hts hown hlocks hE ls hl
  have hl : lv_has ls 1 [(0, .int p0)] := hl
  refine lv_iconst (v := 1) hx hb dX3_sizeOf_0 (by decide) ?_
  refine lv_iload_n hx hb dX3_sizeOf_1 rfl (lv_at hl 0 rfl) ?_
  refine lv_iconst (v := 2) hx hb dX3_sizeOf_2 (by decide) ?_
  refine lv_ishr hx hb dX3_sizeOf_3 ?_
  refine lv_iconst (v := 3) hx hb dX3_sizeOf_4 (by decide) ?_
  refine lv_iand hx hb dX3_sizeOf_5 ?_
  refine lv_ishl hx hb dX3_sizeOf_6 ?_
  exact p_iret (by exact rfl) hx hb hr hlocks dX3_sizeOf_7
def f_X3_isUnsigned (p0 : Int32) : Int32 :=
  if (p0 &&& (2 : Int32)) = (0 : Int32) then
    (0 : Int32)
  else
    (1 : Int32)
abbrev rm_X3_isUnsigned : Room := { frames := 0, cells := 0, slots := 0, locals := 0 }
set_option maxHeartbeats 4000000 in
set_option maxRecDepth 100000 in
theorem c_X3_isUnsigned (l : Launch) (p0 : Int32) : pMi l yX3_isUnsigned wsX3_isUnsigned rm_X3_isUnsigned eTrue [.int p0] (f_X3_isUnsigned p0) := by
  refine pm_ofW (by decide) rfl (Nat.le_of_ble_eq_true rfl) ?_
  intro p e s m args below meth c hx hb hr hml hts hown hlocks hE ls hl
  have hl : lv_has ls 1 [(0, .int p0)] := hl
  refine lv_iload_n hx hb dX3_isUnsigned_0 rfl (lv_at hl 0 rfl) ?_
  refine lv_iconst (v := 2) hx hb dX3_isUnsigned_1 (by decide) ?_
  refine lv_iand hx hb dX3_isUnsigned_2 ?_
  refine lv_if_eq (tgt := 10) hx hb dX3_isUnsigned_3 (by decide) (fun c1 => ?_) (fun c1 => ?_)
  · refine lv_iconst (v := 0) hx hb dX3_isUnsigned_10 (by decide) ?_
    exact p_zret (by exact (if_pos c1).trans (rfl)) hx hb hr rfl hlocks dX3_isUnsigned_11
  · refine lv_iconst (v := 1) hx hb dX3_isUnsigned_6 (by decide) ?_
    refine lv_goto (tgt := 11) hx hb dX3_isUnsigned_7 (by decide) ?_
    exact p_zret (by exact (if_neg c1).trans (rfl)) hx hb hr rfl hlocks dX3_isUnsigned_11
def f_X0_octaOf (p0 : Int64) : Int32 :=
  ((jlshr p0 (3 : Int32)).toInt32) &&& (2047 : Int32)
abbrev rm_X0_octaOf : Room := { frames := 0, cells := 0, slots := 0, locals := 0 }
set_option maxHeartbeats 4000000 in
set_option maxRecDepth 100000 in
theorem c_X0_octaOf (l : Launch) (p0 : Int64) : pMi l yX0_octaOf wsX0_octaOf rm_X0_octaOf eTrue [.long p0] (f_X0_octaOf p0) := by
  refine pm_ofW (by decide) rfl (Nat.le_of_ble_eq_true rfl) ?_
  intro p e s m args below meth c hx hb hr hml hts hown hlocks hE ls hl
  have hl : lv_has ls 2 [(0, .long p0)] := hl
  refine lv_lload_n hx hb dX0_octaOf_0 rfl (lv_at hl 0 rfl) ?_
  refine lv_iconst (v := 3) hx hb dX0_octaOf_1 (by decide) ?_
  refine lv_lshr (v := jlshr p0 (3 : Int32)) hx hb dX0_octaOf_2 rfl ?_
  refine lv_l2i (v := (jlshr p0 (3 : Int32)).toInt32) hx hb dX0_octaOf_3 rfl ?_
  refine lv_sipush (v := 2047) hx hb dX0_octaOf_4 (by decide) ?_
  refine lv_iand hx hb dX0_octaOf_7 ?_
  exact p_iret (by exact rfl) hx hb hr hlocks dX0_octaOf_8
def f_X0_shiftOf (p0 : Int64) (p1 : Int32) : Int32 :=
  let v1 : Int32 := (8 : Int32) - p1;
  (8 : Int32) * (v1 - ((p0 &&& v1.toInt64).toInt32))
abbrev rm_X0_shiftOf : Room := { frames := 0, cells := 0, slots := 0, locals := 0 }
set_option maxHeartbeats 4000000 in
set_option maxRecDepth 100000 in
theorem c_X0_shiftOf (l : Launch) (p0 : Int64) (p1 : Int32) : pMi l yX0_shiftOf wsX0_shiftOf rm_X0_shiftOf eTrue [.long p0, .int p1] (f_X0_shiftOf p0 p1) := by
  refine pm_ofW (by decide) rfl (Nat.le_of_ble_eq_true rfl) ?_
  intro p e s m args below meth c hx hb hr hml hts hown hlocks hE ls hl
  have hl : lv_has ls 4 [(0, .long p0), (2, .int p1)] := hl
  refine lv_bipush (v := 8) hx hb dX0_shiftOf_0 (by decide) ?_
  refine lv_iload_n hx hb dX0_shiftOf_2 rfl (lv_at hl 1 rfl) ?_
  refine lv_isub hx hb dX0_shiftOf_3 ?_
  refine lv_topi (fun v1 ev1 => ?_)
  refine lv_istore_n (lv' := [(3, .int v1), (0, .long p0), (2, .int p1)]) hx hb dX0_shiftOf_4 rfl hl (by decide) rfl (fun ls hl => ?_)
  refine lv_bipush (v := 8) hx hb dX0_shiftOf_5 (by decide) ?_
  refine lv_iload_n hx hb dX0_shiftOf_7 rfl (lv_at hl 0 rfl) ?_
  refine lv_lload_n hx hb dX0_shiftOf_8 rfl (lv_at hl 1 rfl) ?_
  refine lv_iload_n hx hb dX0_shiftOf_9 rfl (lv_at hl 0 rfl) ?_
  refine lv_i2l (v := v1.toInt64) hx hb dX0_shiftOf_10 rfl ?_
  refine lv_land hx hb dX0_shiftOf_11 ?_
  refine lv_l2i (v := (p0 &&& v1.toInt64).toInt32) hx hb dX0_shiftOf_12 rfl ?_
  refine lv_isub hx hb dX0_shiftOf_13 ?_
  refine lv_imul hx hb dX0_shiftOf_14 ?_
  exact p_iret (by have ev1 := ev1.symm; subst ev1; exact rfl) hx hb hr hlocks dX0_shiftOf_15
def f_X0_maskOf (p0 : Int32) : Int64 :=
  jlushr (-1 : Int64) ((64 : Int32) - ((8 : Int32) * p0))
abbrev rm_X0_maskOf : Room := { frames := 0, cells := 0, slots := 0, locals := 0 }
set_option maxHeartbeats 4000000 in
set_option maxRecDepth 100000 in
theorem c_X0_maskOf (l : Launch) (p0 : Int32) : pMl l yX0_maskOf wsX0_maskOf rm_X0_maskOf eTrue [.int p0] (f_X0_maskOf p0) := by
  refine pm_ofW (by decide) rfl (Nat.le_of_ble_eq_true rfl) ?_
  intro p e s m args below meth c hx hb hr hml hts hown hlocks hE ls hl
  have hl : lv_has ls 1 [(0, .int p0)] := hl
  refine lv_ldc2 hx hb hown (hts (.constantLong RX0 15 (-1)) (by decide +kernel)) dX0_maskOf_0 ?_
  refine lv_bipush (v := 64) hx hb dX0_maskOf_3 (by decide) ?_
  refine lv_bipush (v := 8) hx hb dX0_maskOf_5 (by decide) ?_
  refine lv_iload_n hx hb dX0_maskOf_7 rfl (lv_at hl 0 rfl) ?_
  refine lv_imul hx hb dX0_maskOf_8 ?_
  refine lv_isub hx hb dX0_maskOf_9 ?_
  refine lv_lushr (v := jlushr (-1 : Int64) ((64 : Int32) - ((8 : Int32) * p0))) hx hb dX0_maskOf_10 rfl ?_
  exact p_lret (by exact rfl) hx hb hr hlocks dX0_maskOf_11
