def f_X2_isAbove (p0 : Int64) (p1 : Int64) : Int32 :=
  if (p0 + (-9223372036854775808 : Int64)) ≤ (p1 + (-9223372036854775808 : Int64)) then
    (0 : Int32)
  else
    (1 : Int32)
abbrev rm_X2_isAbove : Room := { frames := 0, cells := 0, slots := 0, locals := 0 }
set_option maxHeartbeats 4000000 in
set_option maxRecDepth 100000 in
theorem c_X2_isAbove (l : Launch) (p0 : Int64) (p1 : Int64) : pMi l yX2_isAbove wsX2_isAbove rm_X2_isAbove eTrue [.long p0, .long p1] (f_X2_isAbove p0 p1) := by
  refine pm_ofW (by decide) rfl (Nat.le_of_ble_eq_true rfl) ?_
  intro p e s m args below meth c hx hb hr hml hts hown hlocks hE ls hl
  have hl : lv_has ls 4 [(0, .long p0), (2, .long p1)] := hl
  refine lv_lload_n hx hb dX2_isAbove_0 rfl (lv_at hl 0 rfl) ?_
  refine lv_ldc2 hx hb hown (hts (.constantLong RX2 9 (-9223372036854775808)) (by decide +kernel)) dX2_isAbove_1 ?_
  refine lv_ladd hx hb dX2_isAbove_4 ?_
  refine lv_lload_n hx hb dX2_isAbove_5 rfl (lv_at hl 1 rfl) ?_
  refine lv_ldc2 hx hb hown (hts (.constantLong RX2 9 (-9223372036854775808)) (by decide +kernel)) dX2_isAbove_6 ?_
  refine lv_ladd hx hb dX2_isAbove_9 ?_
  refine lc_le (tgt := 18) hx hb dX2_isAbove_10 dX2_isAbove_11 (by decide) (fun c1 => ?_) (fun c1 => ?_)
  · refine lv_iconst (v := 0) hx hb dX2_isAbove_18 (by decide) ?_
    exact p_zret (by exact (if_pos c1).trans (rfl)) hx hb hr rfl hlocks dX2_isAbove_19
  · refine lv_iconst (v := 1) hx hb dX2_isAbove_14 (by decide) ?_
    refine lv_goto (tgt := 19) hx hb dX2_isAbove_15 (by decide) ?_
    exact p_zret (by exact (if_neg c1).trans (rfl)) hx hb hr rfl hlocks dX2_isAbove_19
def f_X2_highOfProduct (p0 : Int64) (p1 : Int64) : Int64 :=
  let v1 : Int64 := p0 &&& (4294967295 : Int64);
  let v2 : Int64 := p1 &&& (4294967295 : Int64);
  let v3 : Int64 := jlushr p0 (32 : Int32);
  let v4 : Int64 := jlushr p1 (32 : Int32);
  let v5 : Int64 := (v3 * v2) + (jlushr (v1 * v2) (32 : Int32));
  let v6 : Int64 := (v1 * v4) + (v5 &&& (4294967295 : Int64));
  ((v3 * v4) + (jlushr v5 (32 : Int32))) + (jlushr v6 (32 : Int32))
abbrev rm_X2_highOfProduct : Room := { frames := 0, cells := 0, slots := 0, locals := 0 }
set_option maxHeartbeats 4000000 in
set_option maxRecDepth 100000 in
theorem c_X2_highOfProduct (l : Launch) (p0 : Int64) (p1 : Int64) : pMl l yX2_highOfProduct wsX2_highOfProduct rm_X2_highOfProduct eTrue [.long p0, .long p1] (f_X2_highOfProduct p0 p1) := by
  refine pm_ofW (by decide) rfl (Nat.le_of_ble_eq_true rfl) ?_
  intro p e s m args below meth c hx hb hr hml hts hown hlocks hE ls hl
  have hl : lv_has ls 16 [(0, .long p0), (2, .long p1)] := hl
  refine lv_lload_n hx hb dX2_highOfProduct_0 rfl (lv_at hl 0 rfl) ?_
  refine lv_ldc2 hx hb hown (hts (.constantLong RX2 11 (4294967295)) (by decide +kernel)) dX2_highOfProduct_1 ?_
  refine lv_land hx hb dX2_highOfProduct_4 ?_
  refine lv_topl (fun v1 ev1 => ?_)
  refine lv_lstore (lv' := [(4, .long v1), (0, .long p0), (2, .long p1)]) hx hb dX2_highOfProduct_5 hl (by decide) rfl (fun ls hl => ?_)
  refine lv_lload_n hx hb dX2_highOfProduct_7 rfl (lv_at hl 2 rfl) ?_
  refine lv_ldc2 hx hb hown (hts (.constantLong RX2 11 (4294967295)) (by decide +kernel)) dX2_highOfProduct_8 ?_
  refine lv_land hx hb dX2_highOfProduct_11 ?_
  refine lv_topl (fun v2 ev2 => ?_)
  refine lv_lstore (lv' := [(6, .long v2), (4, .long v1), (0, .long p0), (2, .long p1)]) hx hb dX2_highOfProduct_12 hl (by decide) rfl (fun ls hl => ?_)
  refine lv_lload_n hx hb dX2_highOfProduct_14 rfl (lv_at hl 2 rfl) ?_
  refine lv_bipush (v := 32) hx hb dX2_highOfProduct_15 (by decide) ?_
  refine lv_lushr (v := jlushr p0 (32 : Int32)) hx hb dX2_highOfProduct_17 rfl ?_
  refine lv_topl (fun v3 ev3 => ?_)
  refine lv_lstore (lv' := [(8, .long v3), (6, .long v2), (4, .long v1), (0, .long p0), (2, .long p1)]) hx hb dX2_highOfProduct_18 hl (by decide) rfl (fun ls hl => ?_)
  refine lv_lload_n hx hb dX2_highOfProduct_20 rfl (lv_at hl 4 rfl) ?_
  refine lv_bipush (v := 32) hx hb dX2_highOfProduct_21 (by decide) ?_
  refine lv_lushr (v := jlushr p1 (32 : Int32)) hx hb dX2_highOfProduct_23 rfl ?_
  refine lv_topl (fun v4 ev4 => ?_)
  refine lv_lstore (lv' := [(10, .long v4), (8, .long v3), (6, .long v2), (4, .long v1), (0, .long p0), (2, .long p1)]) hx hb dX2_highOfProduct_24 hl (by decide) rfl (fun ls hl => ?_)
  refine lv_lload hx hb dX2_highOfProduct_26 (lv_at hl 1 rfl) ?_
  refine lv_lload hx hb dX2_highOfProduct_28 (lv_at hl 2 rfl) ?_
  refine lv_lmul hx hb dX2_highOfProduct_30 ?_
  refine lv_lload hx hb dX2_highOfProduct_31 (lv_at hl 3 rfl) ?_
  refine lv_lload hx hb dX2_highOfProduct_33 (lv_at hl 2 rfl) ?_
  refine lv_lmul hx hb dX2_highOfProduct_35 ?_
  refine lv_bipush (v := 32) hx hb dX2_highOfProduct_36 (by decide) ?_
  refine lv_lushr (v := jlushr (v1 * v2) (32 : Int32)) hx hb dX2_highOfProduct_38 rfl ?_
  refine lv_ladd hx hb dX2_highOfProduct_39 ?_
  refine lv_topl (fun v5 ev5 => ?_)
  refine lv_lstore (lv' := [(12, .long v5), (10, .long v4), (8, .long v3), (6, .long v2), (4, .long v1), (0, .long p0), (2, .long p1)]) hx hb dX2_highOfProduct_40 hl (by decide) rfl (fun ls hl => ?_)
  refine lv_lload hx hb dX2_highOfProduct_42 (lv_at hl 4 rfl) ?_
  refine lv_lload hx hb dX2_highOfProduct_44 (lv_at hl 1 rfl) ?_
  refine lv_lmul hx hb dX2_highOfProduct_46 ?_
  refine lv_lload hx hb dX2_highOfProduct_47 (lv_at hl 0 rfl) ?_
  refine lv_ldc2 hx hb hown (hts (.constantLong RX2 11 (4294967295)) (by decide +kernel)) dX2_highOfProduct_49 ?_
  refine lv_land hx hb dX2_highOfProduct_52 ?_
  refine lv_ladd hx hb dX2_highOfProduct_53 ?_
  refine lv_topl (fun v6 ev6 => ?_)
  refine lv_lstore (lv' := [(14, .long v6), (12, .long v5), (10, .long v4), (8, .long v3), (6, .long v2), (4, .long v1), (0, .long p0), (2, .long p1)]) hx hb dX2_highOfProduct_54 hl (by decide) rfl (fun ls hl => ?_)
  refine lv_lload hx hb dX2_highOfProduct_56 (lv_at hl 3 rfl) ?_
  refine lv_lload hx hb dX2_highOfProduct_58 (lv_at hl 2 rfl) ?_
  refine lv_lmul hx hb dX2_highOfProduct_60 ?_
  refine lv_lload hx hb dX2_highOfProduct_61 (lv_at hl 1 rfl) ?_
  refine lv_bipush (v := 32) hx hb dX2_highOfProduct_63 (by decide) ?_
  refine lv_lushr (v := jlushr v5 (32 : Int32)) hx hb dX2_highOfProduct_65 rfl ?_
  refine lv_ladd hx hb dX2_highOfProduct_66 ?_
  refine lv_lload hx hb dX2_highOfProduct_67 (lv_at hl 0 rfl) ?_
  refine lv_bipush (v := 32) hx hb dX2_highOfProduct_69 (by decide) ?_
  refine lv_lushr (v := jlushr v6 (32 : Int32)) hx hb dX2_highOfProduct_71 rfl ?_
  refine lv_ladd hx hb dX2_highOfProduct_72 ?_
  exact p_lret (by have ev6 := ev6.symm; subst ev6; have ev5 := ev5.symm; subst ev5; have ev4 := ev4.symm; subst ev4; have ev3 := ev3.symm; subst ev3; have ev2 := ev2.symm; subst ev2; have ev1 := ev1.symm; subst ev1; exact rfl) hx hb hr hlocks dX2_highOfProduct_73
def f_X2_highOfSignedProduct (p0 : Int64) (p1 : Int64) : Int64 :=
  let z3 : Int64 := (if (0 : Int64) ≤ p0 then (0 : Int64) else p1);
  let v2 : Int64 := z3;
  let z7 : Int64 := (if (0 : Int64) ≤ p1 then (0 : Int64) else p0);
  let v6 : Int64 := z7;
  ((f_X2_highOfProduct p0 p1) - v2) - v6
abbrev rm_X2_highOfSignedProduct : Room := { frames := 1, cells := 0, slots := 0, locals := 35 }
set_option maxHeartbeats 4000000 in
set_option maxRecDepth 100000 in
theorem c_X2_highOfSignedProduct (l : Launch) (p0 : Int64) (p1 : Int64) : pMl l yX2_highOfSignedProduct wsX2_highOfSignedProduct rm_X2_highOfSignedProduct eTrue [.long p0, .long p1] (f_X2_highOfSignedProduct p0 p1) := by
  refine pm_ofW (by decide) rfl (Nat.le_of_ble_eq_true rfl) ?_
  intro p e s m args below meth c hx hb hr hml hts hown hlocks hE ls hl
  have hl : lv_has ls 4 [(0, .long p0), (2, .long p1)] := hl
  refine lv_lload_n hx hb dX2_highOfSignedProduct_0 rfl (lv_at hl 0 rfl) ?_
  refine lv_lload_n hx hb dX2_highOfSignedProduct_1 rfl (lv_at hl 1 rfl) ?_
  refine p_l (W.runS (As := [.long p0, .long p1]) (rest := []) ⟨hx, hb, hml, hown, hts⟩ (c_X2_highOfProduct l p0 p1 ) (va_cwS 2 hts gX2_highOfSignedProduct_X2_highOfProduct rfl rfl rfl (by decide +kernel) ⟨Nat.le_of_ble_eq_true rfl, Nat.le_of_ble_eq_true rfl⟩) p_preT rfl rfl hl.1 rfl (lv_room (Nat.le_of_ble_eq_true rfl)) dX2_highOfSignedProduct_2 ⟨Nat.le_of_ble_eq_true rfl, Nat.le_of_ble_eq_true rfl⟩) ?_
  refine lv_lload_n hx hb dX2_highOfSignedProduct_5 rfl (lv_at hl 0 rfl) ?_
  refine lv_lconst (v := 0) hx hb dX2_highOfSignedProduct_6 (by decide) ?_
  obtain ⟨z3, ez3⟩ : ∃ q : Int64, q = (if (0 : Int64) ≤ p0 then (0 : Int64) else p1) := ⟨_, rfl⟩
  have k4 : ∀ (v2 : Int64), v2 = z3 → ∀ ls : Array Slot, lv_has ls 4 [(0, .long p0), (2, .long p1)] → W p l e rm_X2_highOfSignedProduct s m args below meth c s.heap [] 0 0 (MQ below (vp_Sl (fun r => r = f_X2_highOfSignedProduct p0 p1)) args s 0 0 (fun _ => False)) (F0 m 16 ls [.long v2, .long (f_X2_highOfProduct p0 p1)]) := by
    intro v2 jz3 ls hl
    have ev2 : v2 = z3 := jz3
    refine lv_lsub hx hb dX2_highOfSignedProduct_16 ?_
    refine lv_lload_n hx hb dX2_highOfSignedProduct_17 rfl (lv_at hl 1 rfl) ?_
    refine lv_lconst (v := 0) hx hb dX2_highOfSignedProduct_18 (by decide) ?_
    obtain ⟨z7, ez7⟩ : ∃ q : Int64, q = (if (0 : Int64) ≤ p1 then (0 : Int64) else p0) := ⟨_, rfl⟩
    have k8 : ∀ (v6 : Int64), v6 = z7 → ∀ ls : Array Slot, lv_has ls 4 [(0, .long p0), (2, .long p1)] → W p l e rm_X2_highOfSignedProduct s m args below meth c s.heap [] 0 0 (MQ below (vp_Sl (fun r => r = f_X2_highOfSignedProduct p0 p1)) args s 0 0 (fun _ => False)) (F0 m 28 ls [.long v6, .long ((f_X2_highOfProduct p0 p1) - v2)]) := by
      intro v6 jz7 ls hl
      have ev6 : v6 = z7 := jz7
      refine lv_lsub hx hb dX2_highOfSignedProduct_28 ?_
      exact p_lret (by have ev6 := ev6.symm; subst ev6; have ez7 := ez7.symm; subst ez7; have ev2 := ev2.symm; subst ev2; have ez3 := ez3.symm; subst ez3; exact rfl) hx hb hr hlocks dX2_highOfSignedProduct_29
    refine lc_ge (tgt := 27) hx hb dX2_highOfSignedProduct_19 dX2_highOfSignedProduct_20 (by decide) (fun c5 => ?_) (fun c5 => ?_)
    · refine lv_lconst (v := 0) hx hb dX2_highOfSignedProduct_27 (by decide) ?_
      exact k8 (0 : Int64) (ez7.trans (by exact (if_pos c5).trans (rfl))).symm ls (lv_sub hl [0, 1] rfl)
    · refine lv_lload_n hx hb dX2_highOfSignedProduct_23 rfl (lv_at hl 0 rfl) ?_
      refine lv_goto (tgt := 28) hx hb dX2_highOfSignedProduct_24 (by decide) ?_
      exact k8 p0 (ez7.trans (by exact (if_neg c5).trans (rfl))).symm ls (lv_sub hl [0, 1] rfl)
  refine lc_ge (tgt := 15) hx hb dX2_highOfSignedProduct_7 dX2_highOfSignedProduct_8 (by decide) (fun c1 => ?_) (fun c1 => ?_)
  · refine lv_lconst (v := 0) hx hb dX2_highOfSignedProduct_15 (by decide) ?_
    exact k4 (0 : Int64) (ez3.trans (by exact (if_pos c1).trans (rfl))).symm ls (lv_sub hl [0, 1] rfl)
  · refine lv_lload_n hx hb dX2_highOfSignedProduct_11 rfl (lv_at hl 1 rfl) ?_
    refine lv_goto (tgt := 16) hx hb dX2_highOfSignedProduct_12 (by decide) ?_
    exact k4 p1 (ez3.trans (by exact (if_neg c1).trans (rfl))).symm ls (lv_sub hl [0, 1] rfl)
def f_X2_isWholeShift (p0 : Int64) : Int32 :=
  if p0 < (0 : Int64) then
    (1 : Int32)
  else
    if p0 < (64 : Int64) then
      (0 : Int32)
    else
      (1 : Int32)
abbrev rm_X2_isWholeShift : Room := { frames := 0, cells := 0, slots := 0, locals := 0 }
set_option maxHeartbeats 4000000 in
set_option maxRecDepth 100000 in
theorem c_X2_isWholeShift (l : Launch) (p0 : Int64) : pMi l yX2_isWholeShift wsX2_isWholeShift rm_X2_isWholeShift eTrue [.long p0] (f_X2_isWholeShift p0) := by
  refine pm_ofW (by decide) rfl (Nat.le_of_ble_eq_true rfl) ?_
  intro p e s m args below meth c hx hb hr hml hts hown hlocks hE ls hl
  have hl : lv_has ls 2 [(0, .long p0)] := hl
  refine lv_lload_n hx hb dX2_isWholeShift_0 rfl (lv_at hl 0 rfl) ?_
  refine lv_lconst (v := 0) hx hb dX2_isWholeShift_1 (by decide) ?_
  refine lc_lt (tgt := 14) hx hb dX2_isWholeShift_2 dX2_isWholeShift_3 (by decide) (fun c1 => ?_) (fun c1 => ?_)
  · refine lv_iconst (v := 1) hx hb dX2_isWholeShift_14 (by decide) ?_
    refine lv_goto (tgt := 19) hx hb dX2_isWholeShift_15 (by decide) ?_
    exact p_zret (by exact (if_pos c1).trans (rfl)) hx hb hr rfl hlocks dX2_isWholeShift_19
  · refine lv_lload_n hx hb dX2_isWholeShift_6 rfl (lv_at hl 0 rfl) ?_
    refine lv_ldc2 hx hb hown (hts (.constantLong RX2 19 (64)) (by decide +kernel)) dX2_isWholeShift_7 ?_
    refine lc_lt (tgt := 18) hx hb dX2_isWholeShift_10 dX2_isWholeShift_11 (by decide) (fun c2 => ?_) (fun c2 => ?_)
    · refine lv_iconst (v := 0) hx hb dX2_isWholeShift_18 (by decide) ?_
      exact p_zret (by exact (if_neg c1).trans ((if_pos c2).trans (rfl))) hx hb hr rfl hlocks dX2_isWholeShift_19
    · refine lv_iconst (v := 1) hx hb dX2_isWholeShift_14 (by decide) ?_
      refine lv_goto (tgt := 19) hx hb dX2_isWholeShift_15 (by decide) ?_
      exact p_zret (by exact (if_neg c1).trans ((if_neg c2).trans (rfl))) hx hb hr rfl hlocks dX2_isWholeShift_19
def f_X2_shiftLeft (p0 : Int64) (p1 : Int64) : Int64 :=
  if (f_X2_isWholeShift p1) = (0 : Int32) then
    jlshl p0 p1.toInt32
  else
    (0 : Int64)
abbrev rm_X2_shiftLeft : Room := { frames := 1, cells := 0, slots := 0, locals := 21 }
set_option maxHeartbeats 4000000 in
set_option maxRecDepth 100000 in
theorem c_X2_shiftLeft (l : Launch) (p0 : Int64) (p1 : Int64) : pMl l yX2_shiftLeft wsX2_shiftLeft rm_X2_shiftLeft eTrue [.long p0, .long p1] (f_X2_shiftLeft p0 p1) := by
  refine pm_ofW (by decide) rfl (Nat.le_of_ble_eq_true rfl) ?_
  intro p e s m args below meth c hx hb hr hml hts hown hlocks hE ls hl
  have hl : lv_has ls 4 [(0, .long p0), (2, .long p1)] := hl
  refine lv_lload_n hx hb dX2_shiftLeft_0 rfl (lv_at hl 1 rfl) ?_
  refine p_i (W.runS (As := [.long p1]) (rest := []) ⟨hx, hb, hml, hown, hts⟩ (c_X2_isWholeShift l p1 ) (va_cwS 1 hts gX2_shiftLeft_X2_isWholeShift rfl rfl rfl (by decide +kernel) ⟨Nat.le_of_ble_eq_true rfl, Nat.le_of_ble_eq_true rfl⟩) p_preT rfl rfl hl.1 rfl (lv_room (Nat.le_of_ble_eq_true rfl)) dX2_shiftLeft_1 ⟨Nat.le_of_ble_eq_true rfl, Nat.le_of_ble_eq_true rfl⟩) ?_
  refine lv_if_eq (tgt := 11) hx hb dX2_shiftLeft_4 (by decide) (fun c1 => ?_) (fun c1 => ?_)
  · refine lv_lload_n hx hb dX2_shiftLeft_11 rfl (lv_at hl 0 rfl) ?_
    refine lv_lload_n hx hb dX2_shiftLeft_12 rfl (lv_at hl 1 rfl) ?_
    refine lv_l2i (v := p1.toInt32) hx hb dX2_shiftLeft_13 rfl ?_
    refine lv_lshl (v := jlshl p0 p1.toInt32) hx hb dX2_shiftLeft_14 rfl ?_
    exact p_lret (by exact (if_pos c1).trans (rfl)) hx hb hr hlocks dX2_shiftLeft_15
  · refine lv_lconst (v := 0) hx hb dX2_shiftLeft_7 (by decide) ?_
    refine lv_goto (tgt := 15) hx hb dX2_shiftLeft_8 (by decide) ?_
    exact p_lret (by exact (if_neg c1).trans (rfl)) hx hb hr hlocks dX2_shiftLeft_15
def f_X2_shiftRight (p0 : Int64) (p1 : Int64) : Int64 :=
  if (f_X2_isWholeShift p1) = (0 : Int32) then
    jlshr p0 p1.toInt32
  else
    jlshr p0 (63 : Int32)
abbrev rm_X2_shiftRight : Room := { frames := 1, cells := 0, slots := 0, locals := 21 }
set_option maxHeartbeats 4000000 in
set_option maxRecDepth 100000 in
theorem c_X2_shiftRight (l : Launch) (p0 : Int64) (p1 : Int64) : pMl l yX2_shiftRight wsX2_shiftRight rm_X2_shiftRight eTrue [.long p0, .long p1] (f_X2_shiftRight p0 p1) := by
  refine pm_ofW (by decide) rfl (Nat.le_of_ble_eq_true rfl) ?_
  intro p e s m args below meth c hx hb hr hml hts hown hlocks hE ls hl
  have hl : lv_has ls 4 [(0, .long p0), (2, .long p1)] := hl
  refine lv_lload_n hx hb dX2_shiftRight_0 rfl (lv_at hl 1 rfl) ?_
  refine p_i (W.runS (As := [.long p1]) (rest := []) ⟨hx, hb, hml, hown, hts⟩ (c_X2_isWholeShift l p1 ) (va_cwS 1 hts gX2_shiftRight_X2_isWholeShift rfl rfl rfl (by decide +kernel) ⟨Nat.le_of_ble_eq_true rfl, Nat.le_of_ble_eq_true rfl⟩) p_preT rfl rfl hl.1 rfl (lv_room (Nat.le_of_ble_eq_true rfl)) dX2_shiftRight_1 ⟨Nat.le_of_ble_eq_true rfl, Nat.le_of_ble_eq_true rfl⟩) ?_
  refine lv_if_eq (tgt := 14) hx hb dX2_shiftRight_4 (by decide) (fun c1 => ?_) (fun c1 => ?_)
  · refine lv_lload_n hx hb dX2_shiftRight_14 rfl (lv_at hl 0 rfl) ?_
    refine lv_lload_n hx hb dX2_shiftRight_15 rfl (lv_at hl 1 rfl) ?_
    refine lv_l2i (v := p1.toInt32) hx hb dX2_shiftRight_16 rfl ?_
    refine lv_lshr (v := jlshr p0 p1.toInt32) hx hb dX2_shiftRight_17 rfl ?_
    exact p_lret (by exact (if_pos c1).trans (rfl)) hx hb hr hlocks dX2_shiftRight_18
  · refine lv_lload_n hx hb dX2_shiftRight_7 rfl (lv_at hl 0 rfl) ?_
    refine lv_bipush (v := 63) hx hb dX2_shiftRight_8 (by decide) ?_
    refine lv_lshr (v := jlshr p0 (63 : Int32)) hx hb dX2_shiftRight_10 rfl ?_
    refine lv_goto (tgt := 18) hx hb dX2_shiftRight_11 (by decide) ?_
    exact p_lret (by exact (if_neg c1).trans (rfl)) hx hb hr hlocks dX2_shiftRight_18
def f_X2_shiftRightUnsigned (p0 : Int64) (p1 : Int64) : Int64 :=
  if (f_X2_isWholeShift p1) = (0 : Int32) then
    jlushr p0 p1.toInt32
  else
    (0 : Int64)
abbrev rm_X2_shiftRightUnsigned : Room := { frames := 1, cells := 0, slots := 0, locals := 21 }
set_option maxHeartbeats 4000000 in
set_option maxRecDepth 100000 in
theorem c_X2_shiftRightUnsigned (l : Launch) (p0 : Int64) (p1 : Int64) : pMl l yX2_shiftRightUnsigned wsX2_shiftRightUnsigned rm_X2_shiftRightUnsigned eTrue [.long p0, .long p1] (f_X2_shiftRightUnsigned p0 p1) := by
  refine pm_ofW (by decide) rfl (Nat.le_of_ble_eq_true rfl) ?_
  intro p e s m args below meth c hx hb hr hml hts hown hlocks hE ls hl
  have hl : lv_has ls 4 [(0, .long p0), (2, .long p1)] := hl
  refine lv_lload_n hx hb dX2_shiftRightUnsigned_0 rfl (lv_at hl 1 rfl) ?_
  refine p_i (W.runS (As := [.long p1]) (rest := []) ⟨hx, hb, hml, hown, hts⟩ (c_X2_isWholeShift l p1 ) (va_cwS 1 hts gX2_shiftRightUnsigned_X2_isWholeShift rfl rfl rfl (by decide +kernel) ⟨Nat.le_of_ble_eq_true rfl, Nat.le_of_ble_eq_true rfl⟩) p_preT rfl rfl hl.1 rfl (lv_room (Nat.le_of_ble_eq_true rfl)) dX2_shiftRightUnsigned_1 ⟨Nat.le_of_ble_eq_true rfl, Nat.le_of_ble_eq_true rfl⟩) ?_
  refine lv_if_eq (tgt := 11) hx hb dX2_shiftRightUnsigned_4 (by decide) (fun c1 => ?_) (fun c1 => ?_)
  · refine lv_lload_n hx hb dX2_shiftRightUnsigned_11 rfl (lv_at hl 0 rfl) ?_
    refine lv_lload_n hx hb dX2_shiftRightUnsigned_12 rfl (lv_at hl 1 rfl) ?_
    refine lv_l2i (v := p1.toInt32) hx hb dX2_shiftRightUnsigned_13 rfl ?_
    refine lv_lushr (v := jlushr p0 p1.toInt32) hx hb dX2_shiftRightUnsigned_14 rfl ?_
    exact p_lret (by exact (if_pos c1).trans (rfl)) hx hb hr hlocks dX2_shiftRightUnsigned_15
  · refine lv_lconst (v := 0) hx hb dX2_shiftRightUnsigned_7 (by decide) ?_
    refine lv_goto (tgt := 15) hx hb dX2_shiftRightUnsigned_8 (by decide) ?_
    exact p_lret (by exact (if_neg c1).trans (rfl)) hx hb hr hlocks dX2_shiftRightUnsigned_15
def f_X2_signed (p0 : Int64) (p1 : Int32) : Int64 :=
  let v1 : Int32 := (64 : Int32) - ((8 : Int32) * p1);
  jlshr (jlshl p0 v1) v1
abbrev rm_X2_signed : Room := { frames := 0, cells := 0, slots := 0, locals := 0 }
set_option maxHeartbeats 4000000 in
set_option maxRecDepth 100000 in
theorem c_X2_signed (l : Launch) (p0 : Int64) (p1 : Int32) : pMl l yX2_signed wsX2_signed rm_X2_signed eTrue [.long p0, .int p1] (f_X2_signed p0 p1) := by
  refine pm_ofW (by decide) rfl (Nat.le_of_ble_eq_true rfl) ?_
  intro p e s m args below meth c hx hb hr hml hts hown hlocks hE ls hl
  have hl : lv_has ls 4 [(0, .long p0), (2, .int p1)] := hl
  refine lv_bipush (v := 64) hx hb dX2_signed_0 (by decide) ?_
  refine lv_bipush (v := 8) hx hb dX2_signed_2 (by decide) ?_
  refine lv_iload_n hx hb dX2_signed_4 rfl (lv_at hl 1 rfl) ?_
  refine lv_imul hx hb dX2_signed_5 ?_
  refine lv_isub hx hb dX2_signed_6 ?_
  refine lv_topi (fun v1 ev1 => ?_)
  refine lv_istore_n (lv' := [(3, .int v1), (0, .long p0), (2, .int p1)]) hx hb dX2_signed_7 rfl hl (by decide) rfl (fun ls hl => ?_)
  refine lv_lload_n hx hb dX2_signed_8 rfl (lv_at hl 1 rfl) ?_
  refine lv_iload_n hx hb dX2_signed_9 rfl (lv_at hl 0 rfl) ?_
  refine lv_lshl (v := jlshl p0 v1) hx hb dX2_signed_10 rfl ?_
  refine lv_iload_n hx hb dX2_signed_11 rfl (lv_at hl 0 rfl) ?_
  refine lv_lshr (v := jlshr (jlshl p0 v1) v1) hx hb dX2_signed_12 rfl ?_
  exact p_lret (by have ev1 := ev1.symm; subst ev1; exact rfl) hx hb hr hlocks dX2_signed_13
def f_X2_bitwise (p0 : Int32) (p1 : Int64) (p2 : Int64) : Int64 :=
  if (p0 &&& (254 : Int32)) = (192 : Int32) then
    p1 ||| p2
  else
    if (p0 &&& (254 : Int32)) = (194 : Int32) then
      p1 ||| (p2 ^^^ (-1 : Int64))
    else
      if (p0 &&& (254 : Int32)) = (196 : Int32) then
        (p1 ||| p2) ^^^ (-1 : Int64)
      else
        if (p0 &&& (254 : Int32)) = (198 : Int32) then
          p1 ^^^ p2
        else
          if (p0 &&& (254 : Int32)) = (200 : Int32) then
            p1 &&& p2
          else
            if (p0 &&& (254 : Int32)) = (202 : Int32) then
              p1 &&& (p2 ^^^ (-1 : Int64))
            else
              if (p0 &&& (254 : Int32)) = (204 : Int32) then
                (p1 &&& p2) ^^^ (-1 : Int64)
              else
                (p1 ^^^ p2) ^^^ (-1 : Int64)
abbrev rm_X2_bitwise : Room := { frames := 0, cells := 0, slots := 0, locals := 0 }
set_option maxHeartbeats 4000000 in
set_option maxRecDepth 100000 in
theorem c_X2_bitwise (l : Launch) (p0 : Int32) (p1 : Int64) (p2 : Int64) : pMl l yX2_bitwise wsX2_bitwise rm_X2_bitwise eTrue [.int p0, .long p1, .long p2] (f_X2_bitwise p0 p1 p2) := by
  refine pm_ofW (by decide) rfl (Nat.le_of_ble_eq_true rfl) ?_
  intro p e s m args below meth c hx hb hr hml hts hown hlocks hE ls hl
  have hl : lv_has ls 5 [(0, .int p0), (1, .long p1), (3, .long p2)] := hl
  refine lv_iload_n hx hb dX2_bitwise_0 rfl (lv_at hl 0 rfl) ?_
  refine lv_sipush (v := 254) hx hb dX2_bitwise_1 (by decide) ?_
  refine lv_iand hx hb dX2_bitwise_4 ?_
  by_cases c1 : (p0 &&& (254 : Int32)) = 192
  · refine sw_t hx hb 0 (k := 192) (tgt := 72) dX2_bitwise_5 c1 (by decide) rfl (by decide) ?_
    refine lv_lload_n hx hb dX2_bitwise_72 rfl (lv_at hl 1 rfl) ?_
    refine lv_lload_n hx hb dX2_bitwise_73 rfl (lv_at hl 2 rfl) ?_
    refine lv_lor hx hb dX2_bitwise_74 ?_
    exact p_lret (by exact (if_pos c1).trans (rfl)) hx hb hr hlocks dX2_bitwise_75
  by_cases c2 : (p0 &&& (254 : Int32)) = 194
  · refine sw_t hx hb 2 (k := 194) (tgt := 76) dX2_bitwise_5 c2 (by decide) rfl (by decide) ?_
    refine lv_lload_n hx hb dX2_bitwise_76 rfl (lv_at hl 1 rfl) ?_
    refine lv_lload_n hx hb dX2_bitwise_77 rfl (lv_at hl 2 rfl) ?_
    refine lv_ldc2 hx hb hown (hts (.constantLong RX2 25 (-1)) (by decide +kernel)) dX2_bitwise_78 ?_
    refine lv_lxor hx hb dX2_bitwise_81 ?_
    refine lv_lor hx hb dX2_bitwise_82 ?_
    exact p_lret (by exact (if_neg c1).trans ((if_pos c2).trans (rfl))) hx hb hr hlocks dX2_bitwise_83
  by_cases c3 : (p0 &&& (254 : Int32)) = 196
  · refine sw_t hx hb 4 (k := 196) (tgt := 84) dX2_bitwise_5 c3 (by decide) rfl (by decide) ?_
    refine lv_lload_n hx hb dX2_bitwise_84 rfl (lv_at hl 1 rfl) ?_
    refine lv_lload_n hx hb dX2_bitwise_85 rfl (lv_at hl 2 rfl) ?_
    refine lv_lor hx hb dX2_bitwise_86 ?_
    refine lv_ldc2 hx hb hown (hts (.constantLong RX2 25 (-1)) (by decide +kernel)) dX2_bitwise_87 ?_
    refine lv_lxor hx hb dX2_bitwise_90 ?_
    exact p_lret (by exact (if_neg c1).trans ((if_neg c2).trans ((if_pos c3).trans (rfl)))) hx hb hr hlocks dX2_bitwise_91
  by_cases c4 : (p0 &&& (254 : Int32)) = 198
  · refine sw_t hx hb 6 (k := 198) (tgt := 92) dX2_bitwise_5 c4 (by decide) rfl (by decide) ?_
    refine lv_lload_n hx hb dX2_bitwise_92 rfl (lv_at hl 1 rfl) ?_
    refine lv_lload_n hx hb dX2_bitwise_93 rfl (lv_at hl 2 rfl) ?_
    refine lv_lxor hx hb dX2_bitwise_94 ?_
    exact p_lret (by exact (if_neg c1).trans ((if_neg c2).trans ((if_neg c3).trans ((if_pos c4).trans (rfl))))) hx hb hr hlocks dX2_bitwise_95
  by_cases c5 : (p0 &&& (254 : Int32)) = 200
  · refine sw_t hx hb 8 (k := 200) (tgt := 96) dX2_bitwise_5 c5 (by decide) rfl (by decide) ?_
    refine lv_lload_n hx hb dX2_bitwise_96 rfl (lv_at hl 1 rfl) ?_
    refine lv_lload_n hx hb dX2_bitwise_97 rfl (lv_at hl 2 rfl) ?_
    refine lv_land hx hb dX2_bitwise_98 ?_
    exact p_lret (by exact (if_neg c1).trans ((if_neg c2).trans ((if_neg c3).trans ((if_neg c4).trans ((if_pos c5).trans (rfl)))))) hx hb hr hlocks dX2_bitwise_99
  by_cases c6 : (p0 &&& (254 : Int32)) = 202
  · refine sw_t hx hb 10 (k := 202) (tgt := 100) dX2_bitwise_5 c6 (by decide) rfl (by decide) ?_
    refine lv_lload_n hx hb dX2_bitwise_100 rfl (lv_at hl 1 rfl) ?_
    refine lv_lload_n hx hb dX2_bitwise_101 rfl (lv_at hl 2 rfl) ?_
    refine lv_ldc2 hx hb hown (hts (.constantLong RX2 25 (-1)) (by decide +kernel)) dX2_bitwise_102 ?_
    refine lv_lxor hx hb dX2_bitwise_105 ?_
    refine lv_land hx hb dX2_bitwise_106 ?_
    exact p_lret (by exact (if_neg c1).trans ((if_neg c2).trans ((if_neg c3).trans ((if_neg c4).trans ((if_neg c5).trans ((if_pos c6).trans (rfl))))))) hx hb hr hlocks dX2_bitwise_107
  by_cases c7 : (p0 &&& (254 : Int32)) = 204
  · refine sw_t hx hb 12 (k := 204) (tgt := 108) dX2_bitwise_5 c7 (by decide) rfl (by decide) ?_
    refine lv_lload_n hx hb dX2_bitwise_108 rfl (lv_at hl 1 rfl) ?_
    refine lv_lload_n hx hb dX2_bitwise_109 rfl (lv_at hl 2 rfl) ?_
    refine lv_land hx hb dX2_bitwise_110 ?_
    refine lv_ldc2 hx hb hown (hts (.constantLong RX2 25 (-1)) (by decide +kernel)) dX2_bitwise_111 ?_
    refine lv_lxor hx hb dX2_bitwise_114 ?_
    exact p_lret (by exact (if_neg c1).trans ((if_neg c2).trans ((if_neg c3).trans ((if_neg c4).trans ((if_neg c5).trans ((if_neg c6).trans ((if_pos c7).trans (rfl)))))))) hx hb hr hlocks dX2_bitwise_115
  refine sw_td hx hb [192, 194, 196, 198, 200, 202, 204] (tgt := 116) dX2_bitwise_5 (List.forall_mem_cons.mpr ⟨c1, (List.forall_mem_cons.mpr ⟨c2, (List.forall_mem_cons.mpr ⟨c3, (List.forall_mem_cons.mpr ⟨c4, (List.forall_mem_cons.mpr ⟨c5, (List.forall_mem_cons.mpr ⟨c6, (List.forall_mem_cons.mpr ⟨c7, (fun _ h => absurd h List.not_mem_nil)⟩)⟩)⟩)⟩)⟩)⟩)⟩) (by decide) (by decide) (by decide) ?_
  refine lv_lload_n hx hb dX2_bitwise_116 rfl (lv_at hl 1 rfl) ?_
  refine lv_lload_n hx hb dX2_bitwise_117 rfl (lv_at hl 2 rfl) ?_
  refine lv_lxor hx hb dX2_bitwise_118 ?_
  refine lv_ldc2 hx hb hown (hts (.constantLong RX2 25 (-1)) (by decide +kernel)) dX2_bitwise_119 ?_
  refine lv_lxor hx hb dX2_bitwise_122 ?_
  exact p_lret (by exact (if_neg c1).trans ((if_neg c2).trans ((if_neg c3).trans ((if_neg c4).trans ((if_neg c5).trans ((if_neg c6).trans ((if_neg c7).trans (rfl)))))))) hx hb hr hlocks dX2_bitwise_123
def f_J13_bitCount_95d88 (p0 : Int64) : Int32 :=
  let v1 : Int64 := p0 - ((jlushr p0 (1 : Int32)) &&& (6148914691236517205 : Int64));
  let v2 : Int64 := (v1 &&& (3689348814741910323 : Int64)) + ((jlushr v1 (2 : Int32)) &&& (3689348814741910323 : Int64));
  let v3 : Int64 := (v2 + (jlushr v2 (4 : Int32))) &&& (1085102592571150095 : Int64);
  let v4 : Int64 := v3 + (jlushr v3 (8 : Int32));
  let v5 : Int64 := v4 + (jlushr v4 (16 : Int32));
  let v6 : Int64 := v5 + (jlushr v5 (32 : Int32));
  v6.toInt32 &&& (127 : Int32)
abbrev rm_J13_bitCount_95d88 : Room := { frames := 0, cells := 0, slots := 0, locals := 0 }
set_option maxHeartbeats 4000000 in
set_option maxRecDepth 100000 in
theorem c_J13_bitCount_95d88 (l : Launch) (p0 : Int64) : pMi l yJ13_bitCount_95d88 wsJ13_bitCount_95d88 rm_J13_bitCount_95d88 eTrue [.long p0] (f_J13_bitCount_95d88 p0) := by
  refine pm_ofW (by decide) rfl (Nat.le_of_ble_eq_true rfl) ?_
  intro p e s m args below meth c hx hb hr hml hts hown hlocks hE ls hl
  have hl : lv_has ls 2 [(0, .long p0)] := hl
  refine lv_lload_n hx hb dJ13_bitCount_95d88_0 rfl (lv_at hl 0 rfl) ?_
  refine lv_lload_n hx hb dJ13_bitCount_95d88_1 rfl (lv_at hl 0 rfl) ?_
  refine lv_iconst (v := 1) hx hb dJ13_bitCount_95d88_2 (by decide) ?_
  refine lv_lushr (v := jlushr p0 (1 : Int32)) hx hb dJ13_bitCount_95d88_3 rfl ?_
  refine lv_ldc2 hx hb hown (hts (.constantLong RJ13 314 (6148914691236517205)) (by decide +kernel)) dJ13_bitCount_95d88_4 ?_
  refine lv_land hx hb dJ13_bitCount_95d88_7 ?_
  refine lv_lsub hx hb dJ13_bitCount_95d88_8 ?_
  refine lv_topl (fun v1 ev1 => ?_)
  refine lv_lstore_n (lv' := [(0, .long v1)]) hx hb dJ13_bitCount_95d88_9 rfl hl (by decide) rfl (fun ls hl => ?_)
  refine lv_lload_n hx hb dJ13_bitCount_95d88_10 rfl (lv_at hl 0 rfl) ?_
  refine lv_ldc2 hx hb hown (hts (.constantLong RJ13 316 (3689348814741910323)) (by decide +kernel)) dJ13_bitCount_95d88_11 ?_
  refine lv_land hx hb dJ13_bitCount_95d88_14 ?_
  refine lv_lload_n hx hb dJ13_bitCount_95d88_15 rfl (lv_at hl 0 rfl) ?_
  refine lv_iconst (v := 2) hx hb dJ13_bitCount_95d88_16 (by decide) ?_
  refine lv_lushr (v := jlushr v1 (2 : Int32)) hx hb dJ13_bitCount_95d88_17 rfl ?_
  refine lv_ldc2 hx hb hown (hts (.constantLong RJ13 316 (3689348814741910323)) (by decide +kernel)) dJ13_bitCount_95d88_18 ?_
  refine lv_land hx hb dJ13_bitCount_95d88_21 ?_
  refine lv_ladd hx hb dJ13_bitCount_95d88_22 ?_
  refine lv_topl (fun v2 ev2 => ?_)
  refine lv_lstore_n (lv' := [(0, .long v2)]) hx hb dJ13_bitCount_95d88_23 rfl hl (by decide) rfl (fun ls hl => ?_)
  refine lv_lload_n hx hb dJ13_bitCount_95d88_24 rfl (lv_at hl 0 rfl) ?_
  refine lv_lload_n hx hb dJ13_bitCount_95d88_25 rfl (lv_at hl 0 rfl) ?_
  refine lv_iconst (v := 4) hx hb dJ13_bitCount_95d88_26 (by decide) ?_
  refine lv_lushr (v := jlushr v2 (4 : Int32)) hx hb dJ13_bitCount_95d88_27 rfl ?_
  refine lv_ladd hx hb dJ13_bitCount_95d88_28 ?_
  refine lv_ldc2 hx hb hown (hts (.constantLong RJ13 318 (1085102592571150095)) (by decide +kernel)) dJ13_bitCount_95d88_29 ?_
  refine lv_land hx hb dJ13_bitCount_95d88_32 ?_
  refine lv_topl (fun v3 ev3 => ?_)
  refine lv_lstore_n (lv' := [(0, .long v3)]) hx hb dJ13_bitCount_95d88_33 rfl hl (by decide) rfl (fun ls hl => ?_)
  refine lv_lload_n hx hb dJ13_bitCount_95d88_34 rfl (lv_at hl 0 rfl) ?_
  refine lv_lload_n hx hb dJ13_bitCount_95d88_35 rfl (lv_at hl 0 rfl) ?_
  refine lv_bipush (v := 8) hx hb dJ13_bitCount_95d88_36 (by decide) ?_
  refine lv_lushr (v := jlushr v3 (8 : Int32)) hx hb dJ13_bitCount_95d88_38 rfl ?_
  refine lv_ladd hx hb dJ13_bitCount_95d88_39 ?_
  refine lv_topl (fun v4 ev4 => ?_)
  refine lv_lstore_n (lv' := [(0, .long v4)]) hx hb dJ13_bitCount_95d88_40 rfl hl (by decide) rfl (fun ls hl => ?_)
  refine lv_lload_n hx hb dJ13_bitCount_95d88_41 rfl (lv_at hl 0 rfl) ?_
  refine lv_lload_n hx hb dJ13_bitCount_95d88_42 rfl (lv_at hl 0 rfl) ?_
  refine lv_bipush (v := 16) hx hb dJ13_bitCount_95d88_43 (by decide) ?_
  refine lv_lushr (v := jlushr v4 (16 : Int32)) hx hb dJ13_bitCount_95d88_45 rfl ?_
  refine lv_ladd hx hb dJ13_bitCount_95d88_46 ?_
  refine lv_topl (fun v5 ev5 => ?_)
  refine lv_lstore_n (lv' := [(0, .long v5)]) hx hb dJ13_bitCount_95d88_47 rfl hl (by decide) rfl (fun ls hl => ?_)
  refine lv_lload_n hx hb dJ13_bitCount_95d88_48 rfl (lv_at hl 0 rfl) ?_
  refine lv_lload_n hx hb dJ13_bitCount_95d88_49 rfl (lv_at hl 0 rfl) ?_
  refine lv_bipush (v := 32) hx hb dJ13_bitCount_95d88_50 (by decide) ?_
  refine lv_lushr (v := jlushr v5 (32 : Int32)) hx hb dJ13_bitCount_95d88_52 rfl ?_
  refine lv_ladd hx hb dJ13_bitCount_95d88_53 ?_
  refine lv_topl (fun v6 ev6 => ?_)
  refine lv_lstore_n (lv' := [(0, .long v6)]) hx hb dJ13_bitCount_95d88_54 rfl hl (by decide) rfl (fun ls hl => ?_)
  refine lv_lload_n hx hb dJ13_bitCount_95d88_55 rfl (lv_at hl 0 rfl) ?_
  refine lv_l2i (v := v6.toInt32) hx hb dJ13_bitCount_95d88_56 rfl ?_
  refine lv_bipush (v := 127) hx hb dJ13_bitCount_95d88_57 (by decide) ?_
  refine lv_iand hx hb dJ13_bitCount_95d88_59 ?_
  exact p_iret (by have ev6 := ev6.symm; subst ev6; have ev5 := ev5.symm; subst ev5; have ev4 := ev4.symm; subst ev4; have ev3 := ev3.symm; subst ev3; have ev2 := ev2.symm; subst ev2; have ev1 := ev1.symm; subst ev1; exact rfl) hx hb hr hlocks dJ13_bitCount_95d88_60
def f_J9_floorDiv_f86c9 (p0 : Int64) (p1 : Int64) : Int64 :=
  let v1 : Int64 := p0 / p1;
  if (0 : Int64) ≤ (p0 ^^^ p1) then
    v1
  else
    if (v1 * p1) = p0 then
      v1
    else
      v1 - (1 : Int64)
abbrev rm_J9_floorDiv_f86c9 : Room := { frames := 0, cells := 0, slots := 0, locals := 0 }
set_option maxHeartbeats 4000000 in
set_option maxRecDepth 100000 in
theorem c_J9_floorDiv_f86c9 (l : Launch) (p0 : Int64) (p1 : Int64) (h0 : ¬ p1 = (0 : Int64)) : pMl l yJ9_floorDiv_f86c9 wsJ9_floorDiv_f86c9 rm_J9_floorDiv_f86c9 eTrue [.long p0, .long p1] (f_J9_floorDiv_f86c9 p0 p1) := by
  refine pm_ofWF fdPlain rfl (Nat.le_of_ble_eq_true rfl) ?_
  intro p e s m args below meth c hx hb hr hml hts hown hlocks hE ls hl
  have hl : lv_has ls 6 [(0, .long p0), (2, .long p1)] := hl
  refine lv_lload_n hx hb dJ9_floorDiv_f86c9_0 rfl (lv_at hl 0 rfl) ?_
  refine lv_lload_n hx hb dJ9_floorDiv_f86c9_1 rfl (lv_at hl 1 rfl) ?_
  refine lv_ldiv hx hb dJ9_floorDiv_f86c9_2 h0 ?_
  refine lv_topl (fun v1 ev1 => ?_)
  refine lv_lstore (lv' := [(4, .long v1), (0, .long p0), (2, .long p1)]) hx hb dJ9_floorDiv_f86c9_3 hl (by decide) rfl (fun ls hl => ?_)
  refine lv_lload_n hx hb dJ9_floorDiv_f86c9_5 rfl (lv_at hl 1 rfl) ?_
  refine lv_lload_n hx hb dJ9_floorDiv_f86c9_6 rfl (lv_at hl 2 rfl) ?_
  refine lv_lxor hx hb dJ9_floorDiv_f86c9_7 ?_
  refine lv_lconst (v := 0) hx hb dJ9_floorDiv_f86c9_8 (by decide) ?_
  refine lc_ge (tgt := 27) hx hb dJ9_floorDiv_f86c9_9 dJ9_floorDiv_f86c9_10 (by decide) (fun c2 => ?_) (fun c2 => ?_)
  · refine lv_lload hx hb dJ9_floorDiv_f86c9_27 (lv_at hl 0 rfl) ?_
    exact p_lret (by have ev1 := ev1.symm; subst ev1; exact (if_pos c2).trans (rfl)) hx hb hr hlocks dJ9_floorDiv_f86c9_29
  · refine lv_lload hx hb dJ9_floorDiv_f86c9_13 (lv_at hl 0 rfl) ?_
    refine lv_lload_n hx hb dJ9_floorDiv_f86c9_15 rfl (lv_at hl 2 rfl) ?_
    refine lv_lmul hx hb dJ9_floorDiv_f86c9_16 ?_
    refine lv_lload_n hx hb dJ9_floorDiv_f86c9_17 rfl (lv_at hl 1 rfl) ?_
    refine lc_eq (tgt := 27) hx hb dJ9_floorDiv_f86c9_18 dJ9_floorDiv_f86c9_19 (by decide) (fun c3 => ?_) (fun c3 => ?_)
    · refine lv_lload hx hb dJ9_floorDiv_f86c9_27 (lv_at hl 0 rfl) ?_
      exact p_lret (by have ev1 := ev1.symm; subst ev1; exact (if_neg c2).trans ((if_pos c3).trans (rfl))) hx hb hr hlocks dJ9_floorDiv_f86c9_29
    · refine lv_lload hx hb dJ9_floorDiv_f86c9_22 (lv_at hl 0 rfl) ?_
      refine lv_lconst (v := 1) hx hb dJ9_floorDiv_f86c9_24 (by decide) ?_
      refine lv_lsub hx hb dJ9_floorDiv_f86c9_25 ?_
      exact p_lret (by have ev1 := ev1.symm; subst ev1; exact (if_neg c2).trans ((if_neg c3).trans (rfl))) hx hb hr hlocks dJ9_floorDiv_f86c9_26
def lf_X2_differences_17 (q0 : Int64) (q2 : Int64) (q4 : Int32) (q5 : Int64) : Nat → Int64 → Int32 → Int64 × Int32
  | 0, w7, w9 => (w7, w9)
  | n + 1, w7, w9 =>
    if (64 : Int32) ≤ w9 then
      (w7, w9)
    else
      let v3 : Int64 := (jlushr q0 w9) &&& q5;
      let v4 : Int64 := (jlushr q2 w9) &&& q5;
      let z7 : Int64 := (if (f_X2_isAbove v3 v4) = (0 : Int32) then w7 else let v9 : Int64 := w7 ||| (jlshl (v3 - v4) w9); v9);
      let v6 : Int64 := z7;
      let v10 : Int32 := w9 + q4;
      lf_X2_differences_17 q0 q2 q4 q5 n v6 v10
def f_X2_differences (p0 : Int64) (p1 : Int64) (p2 : Int32) : Int64 :=
  let v1 : Int64 := jlushr (-1 : Int64) ((64 : Int32) - p2);
  let v11 : Int64 := (lf_X2_differences_17 p0 p1 p2 v1 9 (0 : Int64) (0 : Int32)).1;
  let v12 : Int32 := (lf_X2_differences_17 p0 p1 p2 v1 9 (0 : Int64) (0 : Int32)).2;
  v11
abbrev rm_X2_differences : Room := { frames := 1, cells := 0, slots := 0, locals := 23 }
set_option maxHeartbeats 4000000 in
set_option maxRecDepth 100000 in
theorem c_X2_differences (l : Launch) (p0 : Int64) (p1 : Int64) (p2 : Int32) (h0 : p2 = 8 ∨ p2 = 16 ∨ p2 = 32 ∨ p2 = 64) : pMl l yX2_differences wsX2_differences rm_X2_differences eTrue [.long p0, .long p1, .int p2] (f_X2_differences p0 p1 p2) := by
  refine pm_ofW (by decide) rfl (Nat.le_of_ble_eq_true rfl) ?_
  intro p e s m args below meth c hx hb hr hml hts hown hlocks hE ls hl
  have hl : lv_has ls 14 [(0, .long p0), (2, .long p1), (4, .int p2)] := hl
  refine lv_ldc2 hx hb hown (hts (.constantLong RX2 25 (-1)) (by decide +kernel)) dX2_differences_0 ?_
  refine lv_bipush (v := 64) hx hb dX2_differences_3 (by decide) ?_
  refine lv_iload hx hb dX2_differences_5 (lv_at hl 2 rfl) ?_
  refine lv_isub hx hb dX2_differences_7 ?_
  refine lv_lushr (v := jlushr (-1 : Int64) ((64 : Int32) - p2)) hx hb dX2_differences_8 rfl ?_
  refine lv_topl (fun v1 ev1 => ?_)
  refine lv_lstore (lv' := [(5, .long v1), (0, .long p0), (2, .long p1), (4, .int p2)]) hx hb dX2_differences_9 hl (by decide) rfl (fun ls hl => ?_)
  refine lv_lconst (v := 0) hx hb dX2_differences_11 (by decide) ?_
  refine lv_lstore (lv' := [(7, .long (0 : Int64)), (5, .long v1), (0, .long p0), (2, .long p1), (4, .int p2)]) hx hb dX2_differences_12 hl (by decide) rfl (fun ls hl => ?_)
  refine lv_iconst (v := 0) hx hb dX2_differences_14 (by decide) ?_
  refine lv_istore (lv' := [(9, .int (0 : Int32)), (7, .long (0 : Int64)), (5, .long v1), (0, .long p0), (2, .long p1), (4, .int p2)]) hx hb dX2_differences_15 hl (by decide) rfl (fun ls hl => ?_)
  have loop17 : ∀ (n : Nat) (w7 : Int64) (w9 : Int32), 0 < n ∧ 0 ≤ w9.toInt ∧ 64 ≤ w9.toInt + 8 * ((n : Int) - 1) → ∀ ls : Array Slot, lv_has ls 14 [(7, .long w7), (9, .int w9), (0, .long p0), (2, .long p1), (4, .int p2), (5, .long v1)] → (∀ ls : Array Slot, lv_has ls 14 [(7, .long ((lf_X2_differences_17 p0 p1 p2 v1 n w7 w9).1)), (9, .int ((lf_X2_differences_17 p0 p1 p2 v1 n w7 w9).2)), (0, .long p0), (2, .long p1), (4, .int p2), (5, .long v1)] → W p l e rm_X2_differences s m args below meth c s.heap [] 0 0 (MQ below (vp_Sl (fun r => r = f_X2_differences p0 p1 p2)) args s 0 0 (fun _ => False)) (F0 m 75 ls [])) → W p l e rm_X2_differences s m args below meth c s.heap [] 0 0 (MQ below (vp_Sl (fun r => r = f_X2_differences p0 p1 p2)) args s 0 0 (fun _ => False)) (F0 m 17 ls []) := by
    intro n
    induction n with
    | zero =>
      intro w7 w9 hI
      exact absurd hI (fun h => Nat.lt_irrefl 0 h.1)
    | succ n ih =>
      intro w7 w9 hI ls hl kx
      refine lv_iload hx hb dX2_differences_17 (lv_at hl 1 rfl) ?_
      refine lv_bipush (v := 64) hx hb dX2_differences_19 (by decide) ?_
      refine lv_icmp_ge (tgt := 75) hx hb dX2_differences_21 (by decide) (fun c2 => ?_) (fun c2 => ?_)
      · have hn : lf_X2_differences_17 p0 p1 p2 v1 (n + 1) w7 w9 = (w7, w9) := (by exact (if_pos c2).trans (rfl))
        rw [hn] at kx
        exact kx ls (lv_sub hl [0, 1, 2, 3, 4, 5] rfl)
      · refine lv_lload_n hx hb dX2_differences_24 rfl (lv_at hl 2 rfl) ?_
        refine lv_iload hx hb dX2_differences_25 (lv_at hl 1 rfl) ?_
        refine lv_lushr (v := jlushr p0 w9) hx hb dX2_differences_27 rfl ?_
        refine lv_lload hx hb dX2_differences_28 (lv_at hl 5 rfl) ?_
        refine lv_land hx hb dX2_differences_30 ?_
        refine lv_topl (fun v3 ev3 => ?_)
        refine lv_lstore (lv' := [(10, .long v3), (7, .long w7), (9, .int w9), (0, .long p0), (2, .long p1), (4, .int p2), (5, .long v1)]) hx hb dX2_differences_31 hl (by decide) rfl (fun ls hl => ?_)
        refine lv_lload_n hx hb dX2_differences_33 rfl (lv_at hl 4 rfl) ?_
        refine lv_iload hx hb dX2_differences_34 (lv_at hl 2 rfl) ?_
        refine lv_lushr (v := jlushr p1 w9) hx hb dX2_differences_36 rfl ?_
        refine lv_lload hx hb dX2_differences_37 (lv_at hl 6 rfl) ?_
        refine lv_land hx hb dX2_differences_39 ?_
        refine lv_topl (fun v4 ev4 => ?_)
        refine lv_lstore (lv' := [(12, .long v4), (10, .long v3), (7, .long w7), (9, .int w9), (0, .long p0), (2, .long p1), (4, .int p2), (5, .long v1)]) hx hb dX2_differences_40 hl (by decide) rfl (fun ls hl => ?_)
        refine lv_lload hx hb dX2_differences_42 (lv_at hl 1 rfl) ?_
        refine lv_lload hx hb dX2_differences_44 (lv_at hl 0 rfl) ?_
        refine p_i (W.runS (As := [.long v3, .long v4]) (rest := []) ⟨hx, hb, hml, hown, hts⟩ (c_X2_isAbove l v3 v4 ) (va_cwS 2 hts gX2_differences_X2_isAbove rfl rfl rfl (by decide +kernel) ⟨Nat.le_of_ble_eq_true rfl, Nat.le_of_ble_eq_true rfl⟩) p_preT rfl rfl hl.1 rfl (lv_room (Nat.le_of_ble_eq_true rfl)) dX2_differences_46 ⟨Nat.le_of_ble_eq_true rfl, Nat.le_of_ble_eq_true rfl⟩) ?_
        obtain ⟨z7, ez7⟩ : ∃ q : Int64, q = (if (f_X2_isAbove v3 v4) = (0 : Int32) then w7 else let v9 : Int64 := w7 ||| (jlshl (v3 - v4) w9); v9) := ⟨_, rfl⟩
        have k8 : ∀ (v6 : Int64), v6 = z7 → ∀ ls : Array Slot, lv_has ls 14 [(0, .long p0), (2, .long p1), (4, .int p2), (5, .long v1), (7, .long v6), (9, .int w9), (10, .long v3), (12, .long v4)] → W p l e rm_X2_differences s m args below meth c s.heap [] 0 0 (MQ below (vp_Sl (fun r => r = f_X2_differences p0 p1 p2)) args s 0 0 (fun _ => False)) (F0 m 65 ls []) := by
          intro v6 jz7 ls hl
          have ev6 : v6 = z7 := jz7
          refine lv_iload hx hb dX2_differences_65 (lv_at hl 5 rfl) ?_
          refine lv_iload hx hb dX2_differences_67 (lv_at hl 2 rfl) ?_
          refine lv_iadd hx hb dX2_differences_69 ?_
          refine lv_topi (fun v10 ev10 => ?_)
          refine lv_istore (lv' := [(9, .int v10), (0, .long p0), (2, .long p1), (4, .int p2), (5, .long v1), (7, .long v6), (10, .long v3), (12, .long v4)]) hx hb dX2_differences_70 hl (by decide) rfl (fun ls hl => ?_)
          refine lv_goto (tgt := 17) hx hb dX2_differences_72 (by decide) ?_
          have hn : lf_X2_differences_17 p0 p1 p2 v1 (n + 1) w7 w9 = lf_X2_differences_17 p0 p1 p2 v1 n v6 v10 := (by have ev10 := ev10.symm; subst ev10; have ev6 := ev6.symm; subst ev6; have ez7 := ez7.symm; subst ez7; have ev4 := ev4.symm; subst ev4; have ev3 := ev3.symm; subst ev3; exact (if_neg c2).trans (rfl))
          rw [hn] at kx
          exact ih v6 v10 (by have ev10 := ev10.symm; subst ev10; have ev6 := ev6.symm; subst ev6; have ez7 := ez7.symm; subst ez7; have ev4 := ev4.symm; subst ev4; have ev3 := ev3.symm; subst ev3; have ev1 := ev1.symm; subst ev1; exact wd_next h0 hI c2) ls (lv_sub hl [5, 0, 1, 2, 3, 4] rfl) kx
        refine lv_if_eq (tgt := 65) hx hb dX2_differences_49 (by decide) (fun c5 => ?_) (fun c5 => ?_)
        · exact k8 w7 (ez7.trans (by exact (if_pos c5).trans (rfl))).symm ls (lv_sub hl [4, 5, 6, 7, 2, 3, 1, 0] rfl)
        · refine lv_lload hx hb dX2_differences_52 (lv_at hl 2 rfl) ?_
          refine lv_lload hx hb dX2_differences_54 (lv_at hl 1 rfl) ?_
          refine lv_lload hx hb dX2_differences_56 (lv_at hl 0 rfl) ?_
          refine lv_lsub hx hb dX2_differences_58 ?_
          refine lv_iload hx hb dX2_differences_59 (lv_at hl 3 rfl) ?_
          refine lv_lshl (v := jlshl (v3 - v4) w9) hx hb dX2_differences_61 rfl ?_
          refine lv_lor hx hb dX2_differences_62 ?_
          refine lv_topl (fun v9 ev9 => ?_)
          refine lv_lstore (lv' := [(7, .long v9), (12, .long v4), (10, .long v3), (9, .int w9), (0, .long p0), (2, .long p1), (4, .int p2), (5, .long v1)]) hx hb dX2_differences_63 hl (by decide) rfl (fun ls hl => ?_)
          exact k8 v9 (ez7.trans (by have ev9 := ev9.symm; subst ev9; exact (if_neg c5).trans (rfl))).symm ls (lv_sub hl [4, 5, 6, 7, 0, 3, 2, 1] rfl)
  refine loop17 9 (0 : Int64) (0 : Int32) (⟨by decide, by decide, by decide⟩) ls (lv_sub hl [1, 0, 3, 4, 5, 2] rfl) ?_
  intro ls hl
  obtain ⟨v11, ev11⟩ : ∃ z, z = (lf_X2_differences_17 p0 p1 p2 v1 9 (0 : Int64) (0 : Int32)).1 := ⟨_, rfl⟩
  obtain ⟨v12, ev12⟩ : ∃ z, z = (lf_X2_differences_17 p0 p1 p2 v1 9 (0 : Int64) (0 : Int32)).2 := ⟨_, rfl⟩
  have hl : lv_has ls 14 [(7, .long v11), (9, .int v12), (0, .long p0), (2, .long p1), (4, .int p2), (5, .long v1)] := by rw [ev11, ev12]; exact hl
  refine lv_lload hx hb dX2_differences_75 (lv_at hl 0 rfl) ?_
  exact p_lret (by have ev12 := ev12.symm; subst ev12; have ev11 := ev11.symm; subst ev11; have ev1 := ev1.symm; subst ev1; exact rfl) hx hb hr hlocks dX2_differences_77
def lf_X2_matrixProduct_6 (q0 : Int64) (q2 : Int64) (q4 : Int32) : Nat → Int64 → Int32 → Int64 × Int32
  | 0, w5, w7 => (w5, w7)
  | n + 1, w5, w7 =>
    if (8 : Int32) ≤ w7 then
      (w5, w7)
    else
      let v2 : Int64 := (jlushr q2 ((7 : Int32) - w7)) &&& (72340172838076673 : Int64);
      let v3 : Int64 := v2 * ((jlushr q0 ((56 : Int32) - ((8 : Int32) * w7))) &&& (255 : Int64));
      let z6 : Int64 := (if q4 = (0 : Int32) then w5 ||| v3 else w5 ^^^ v3);
      let v5 : Int64 := z6;
      let v8 : Int32 := w7 + (1 : Int32);
      lf_X2_matrixProduct_6 q0 q2 q4 n v5 v8
def f_X2_matrixProduct (p0 : Int64) (p1 : Int64) (p2 : Int32) : Int64 :=
  let v9 : Int64 := (lf_X2_matrixProduct_6 p0 p1 p2 (8 + 1) (0 : Int64) (0 : Int32)).1;
  let v10 : Int32 := (lf_X2_matrixProduct_6 p0 p1 p2 (8 + 1) (0 : Int64) (0 : Int32)).2;
  v9
abbrev rm_X2_matrixProduct : Room := { frames := 0, cells := 0, slots := 0, locals := 0 }
set_option maxHeartbeats 4000000 in
set_option maxRecDepth 100000 in
theorem c_X2_matrixProduct (l : Launch) (p0 : Int64) (p1 : Int64) (p2 : Int32) : pMl l yX2_matrixProduct wsX2_matrixProduct rm_X2_matrixProduct eTrue [.long p0, .long p1, .int p2] (f_X2_matrixProduct p0 p1 p2) := by
  refine pm_ofW (by decide) rfl (Nat.le_of_ble_eq_true rfl) ?_
  intro p e s m args below meth c hx hb hr hml hts hown hlocks hE ls hl
  have hl : lv_has ls 12 [(0, .long p0), (2, .long p1), (4, .int p2)] := hl
  refine lv_lconst (v := 0) hx hb dX2_matrixProduct_0 (by decide) ?_
  refine lv_lstore (lv' := [(5, .long (0 : Int64)), (0, .long p0), (2, .long p1), (4, .int p2)]) hx hb dX2_matrixProduct_1 hl (by decide) rfl (fun ls hl => ?_)
  refine lv_iconst (v := 0) hx hb dX2_matrixProduct_3 (by decide) ?_
  refine lv_istore (lv' := [(7, .int (0 : Int32)), (5, .long (0 : Int64)), (0, .long p0), (2, .long p1), (4, .int p2)]) hx hb dX2_matrixProduct_4 hl (by decide) rfl (fun ls hl => ?_)
  have loop6 : ∀ (n : Nat) (w5 : Int64) (w7 : Int32), w7 = nI (8 + 1 - n) ∧ 0 < n ∧ n ≤ 8 + 1 → ∀ ls : Array Slot, lv_has ls 12 [(5, .long w5), (7, .int w7), (0, .long p0), (2, .long p1), (4, .int p2)] → (∀ ls : Array Slot, lv_has ls 12 [(5, .long ((lf_X2_matrixProduct_6 p0 p1 p2 n w5 w7).1)), (7, .int ((lf_X2_matrixProduct_6 p0 p1 p2 n w5 w7).2)), (0, .long p0), (2, .long p1), (4, .int p2)] → W p l e rm_X2_matrixProduct s m args below meth c s.heap [] 0 0 (MQ below (vp_Sl (fun r => r = f_X2_matrixProduct p0 p1 p2)) args s 0 0 (fun _ => False)) (F0 m 71 ls [])) → W p l e rm_X2_matrixProduct s m args below meth c s.heap [] 0 0 (MQ below (vp_Sl (fun r => r = f_X2_matrixProduct p0 p1 p2)) args s 0 0 (fun _ => False)) (F0 m 6 ls []) := by
    intro n
    induction n with
    | zero =>
      intro w5 w7 hI
      exact absurd hI (fun h => Nat.lt_irrefl 0 h.2.1)
    | succ n ih =>
      intro w5 w7 hI ls hl kx
      refine lv_iload hx hb dX2_matrixProduct_6 (lv_at hl 1 rfl) ?_
      refine lv_bipush (v := 8) hx hb dX2_matrixProduct_8 (by decide) ?_
      refine lv_icmp_ge (tgt := 71) hx hb dX2_matrixProduct_10 (by decide) (fun c1 => ?_) (fun c1 => ?_)
      · have hn : lf_X2_matrixProduct_6 p0 p1 p2 (n + 1) w5 w7 = (w5, w7) := (by exact (if_pos c1).trans (rfl))
        rw [hn] at kx
        exact kx ls (lv_sub hl [0, 1, 2, 3, 4] rfl)
      · refine lv_lload_n hx hb dX2_matrixProduct_13 rfl (lv_at hl 3 rfl) ?_
        refine lv_bipush (v := 7) hx hb dX2_matrixProduct_14 (by decide) ?_
        refine lv_iload hx hb dX2_matrixProduct_16 (lv_at hl 1 rfl) ?_
        refine lv_isub hx hb dX2_matrixProduct_18 ?_
        refine lv_lushr (v := jlushr p1 ((7 : Int32) - w7)) hx hb dX2_matrixProduct_19 rfl ?_
        refine lv_ldc2 hx hb hown (hts (.constantLong RX2 31 (72340172838076673)) (by decide +kernel)) dX2_matrixProduct_20 ?_
        refine lv_land hx hb dX2_matrixProduct_23 ?_
        refine lv_topl (fun v2 ev2 => ?_)
        refine lv_lstore (lv' := [(8, .long v2), (5, .long w5), (7, .int w7), (0, .long p0), (2, .long p1), (4, .int p2)]) hx hb dX2_matrixProduct_24 hl (by decide) rfl (fun ls hl => ?_)
        refine lv_lload hx hb dX2_matrixProduct_26 (lv_at hl 0 rfl) ?_
        refine lv_lload_n hx hb dX2_matrixProduct_28 rfl (lv_at hl 3 rfl) ?_
        refine lv_bipush (v := 56) hx hb dX2_matrixProduct_29 (by decide) ?_
        refine lv_bipush (v := 8) hx hb dX2_matrixProduct_31 (by decide) ?_
        refine lv_iload hx hb dX2_matrixProduct_33 (lv_at hl 2 rfl) ?_
        refine lv_imul hx hb dX2_matrixProduct_35 ?_
        refine lv_isub hx hb dX2_matrixProduct_36 ?_
        refine lv_lushr (v := jlushr p0 ((56 : Int32) - ((8 : Int32) * w7))) hx hb dX2_matrixProduct_37 rfl ?_
        refine lv_ldc2 hx hb hown (hts (.constantLong RX2 33 (255)) (by decide +kernel)) dX2_matrixProduct_38 ?_
        refine lv_land hx hb dX2_matrixProduct_41 ?_
        refine lv_lmul hx hb dX2_matrixProduct_42 ?_
        refine lv_topl (fun v3 ev3 => ?_)
        refine lv_lstore (lv' := [(10, .long v3), (8, .long v2), (5, .long w5), (7, .int w7), (0, .long p0), (2, .long p1), (4, .int p2)]) hx hb dX2_matrixProduct_43 hl (by decide) rfl (fun ls hl => ?_)
        refine lv_iload hx hb dX2_matrixProduct_45 (lv_at hl 6 rfl) ?_
        obtain ⟨z6, ez6⟩ : ∃ q : Int64, q = (if p2 = (0 : Int32) then w5 ||| v3 else w5 ^^^ v3) := ⟨_, rfl⟩
        have k7 : ∀ (v5 : Int64), v5 = z6 → ∀ ls : Array Slot, lv_has ls 12 [(0, .long p0), (2, .long p1), (4, .int p2), (5, .long w5), (7, .int w7), (8, .long v2), (10, .long v3)] → W p l e rm_X2_matrixProduct s m args below meth c s.heap [] 0 0 (MQ below (vp_Sl (fun r => r = f_X2_matrixProduct p0 p1 p2)) args s 0 0 (fun _ => False)) (F0 m 63 ls [.long v5]) := by
          intro v5 jz6 ls hl
          have ev5 : v5 = z6 := jz6
          refine lv_lstore (lv' := [(5, .long v5), (0, .long p0), (2, .long p1), (4, .int p2), (7, .int w7), (8, .long v2), (10, .long v3)]) hx hb dX2_matrixProduct_63 hl (by decide) rfl (fun ls hl => ?_)
          obtain ⟨v8, ev8⟩ : ∃ y : Int32, y = w7 + (1 : Int32) := ⟨_, rfl⟩
          refine lv_iinc (v := v8) (lv' := [(7, .int v8), (5, .long v5), (0, .long p0), (2, .long p1), (4, .int p2), (8, .long v2), (10, .long v3)]) hx hb dX2_matrixProduct_65 hl (k := 4) rfl (by rw [ev8]; rfl) (by decide) rfl (fun ls hl => ?_)
          refine lv_goto (tgt := 6) hx hb dX2_matrixProduct_68 (by decide) ?_
          have hn : lf_X2_matrixProduct_6 p0 p1 p2 (n + 1) w5 w7 = lf_X2_matrixProduct_6 p0 p1 p2 n v5 v8 := (by have ev8 := ev8.symm; subst ev8; have ev5 := ev5.symm; subst ev5; have ez6 := ez6.symm; subst ez6; have ev3 := ev3.symm; subst ev3; have ev2 := ev2.symm; subst ev2; exact (if_neg c1).trans (rfl))
          rw [hn] at kx
          exact ih v5 v8 (by have ev8 := ev8.symm; subst ev8; have ev5 := ev5.symm; subst ev5; have ez6 := ez6.symm; subst ez6; have ev3 := ev3.symm; subst ev3; have ev2 := ev2.symm; subst ev2; exact up_next (N := 8) (by decide) hI c1) ls (lv_sub hl [1, 0, 2, 3, 4] rfl) kx
        refine lv_if_eq (tgt := 58) hx hb dX2_matrixProduct_47 (by decide) (fun c4 => ?_) (fun c4 => ?_)
        · refine lv_lload hx hb dX2_matrixProduct_58 (lv_at hl 2 rfl) ?_
          refine lv_lload hx hb dX2_matrixProduct_60 (lv_at hl 0 rfl) ?_
          refine lv_lor hx hb dX2_matrixProduct_62 ?_
          exact k7 (w5 ||| v3) (ez6.trans (by exact (if_pos c4).trans (rfl))).symm ls (lv_sub hl [4, 5, 6, 2, 3, 1, 0] rfl)
        · refine lv_lload hx hb dX2_matrixProduct_50 (lv_at hl 2 rfl) ?_
          refine lv_lload hx hb dX2_matrixProduct_52 (lv_at hl 0 rfl) ?_
          refine lv_lxor hx hb dX2_matrixProduct_54 ?_
          refine lv_goto (tgt := 63) hx hb dX2_matrixProduct_55 (by decide) ?_
          exact k7 (w5 ^^^ v3) (ez6.trans (by exact (if_neg c4).trans (rfl))).symm ls (lv_sub hl [4, 5, 6, 2, 3, 1, 0] rfl)
  refine loop6 (8 + 1) (0 : Int64) (0 : Int32) (⟨by rw [Nat.sub_self]; rfl, Nat.succ_pos _, Nat.le_refl _⟩) ls (lv_sub hl [1, 0, 2, 3, 4] rfl) ?_
  intro ls hl
  obtain ⟨v9, ev9⟩ : ∃ z, z = (lf_X2_matrixProduct_6 p0 p1 p2 (8 + 1) (0 : Int64) (0 : Int32)).1 := ⟨_, rfl⟩
  obtain ⟨v10, ev10⟩ : ∃ z, z = (lf_X2_matrixProduct_6 p0 p1 p2 (8 + 1) (0 : Int64) (0 : Int32)).2 := ⟨_, rfl⟩
  have hl : lv_has ls 12 [(5, .long v9), (7, .int v10), (0, .long p0), (2, .long p1), (4, .int p2)] := by rw [ev9, ev10]; exact hl
  refine lv_lload hx hb dX2_matrixProduct_71 (lv_at hl 0 rfl) ?_
  exact p_lret (by have ev10 := ev10.symm; subst ev10; have ev9 := ev9.symm; subst ev9; exact rfl) hx hb hr hlocks dX2_matrixProduct_73
