def f_X3_doNext (u : XS)  : Int32 × XS :=
  if (f_X3_isBeyond (x_pc u)) = (0 : Int32) then
    let v2 : Int64 := f_X0_load u (x_pc u) (4 : Int32);
    let v3 : Int32 := v2.toInt32;
    let u4 : XS := f_X3_followFetch u v3;
    if (f_X3_isLegal v3) = (0 : Int32) then
      ((2 : Int32), u4)
    else
      let v6 : Int64 := x_g u4 (f_X3_byteY v3).toNatClampNeg;
      let v7 : Int64 := f_X3_operandZ u4 v3;
      let v8 : Int32 := f_X3_isLoadOrStore (f_X3_opOf v3);
      if v8 = (0 : Int32) then
        let u10 : XS := f_X3_bill u4 (f_X3_opOf v3) v8;
        let u11 : XS := f_X3_perform u10 v3 v6 v7;
        if v3 = (0 : Int32) then
          ((1 : Int32), u11)
        else
          ((0 : Int32), u11)
      else
        if (f_X3_isBeyond (v6 + v7)) = (0 : Int32) then
          let u14 : XS := f_X3_bill u4 (f_X3_opOf v3) v8;
          let u15 : XS := f_X3_perform u14 v3 v6 v7;
          if v3 = (0 : Int32) then
            ((1 : Int32), u15)
          else
            ((0 : Int32), u15)
        else
          ((3 : Int32), u4)
  else
    ((3 : Int32), u)
abbrev rm_X3_doNext : Room := { frames := 5, cells := 0, slots := 0, locals := 123 }
set_option maxRecDepth 20000 in
theorem iw_X3_doNext_X3 : ∀ w ∈ wsX30, w ∈ wsX3_doNext := by decide +kernel
set_option maxHeartbeats 4000000 in
set_option maxRecDepth 100000 in
theorem c_X3_doNext (l : Launch) (yy : Nat → ClassId) (a : Nat → Nat) (u : XS) (h0 : 0 ≤ x_ol u) : gMi l yX3_doNext wsX3_doNext rm_X3_doNext eX (sT yy) (wX yy a) [.ref (a 0)] u (f_X3_doNext u) := by
  refine gm_ofW (Qc := gQi (wX yy a) (f_X3_doNext u)) (by decide) rfl (Nat.le_of_ble_eq_true rfl) ?_
  intro G A p e s m args below meth c hx hb hr hml hts hown hlocks hK hE hA H locs hP hD hS ls hl
  have hl : lv_has ls 7 [(0, .ref (a 0))] := hl
  refine lv_aload_n hx hb dX3_doNext_0 rfl (lv_at hl 0 rfl) ?_
  refine va_get (D := G) (ci := 1) (v := .long (x_pc u)) (C := RX3) (T := TX3) (N := 12) hx hb hts iw_X3_doNext_X3 hown hK hP 0 rfl rfl 7 (by decide) (hts (.fieldLink RX3 73 "MixBench" "pc" "J") (by decide +kernel)) (fun _ h9 => h9) rfl dX3_doNext_1 ?_
  refine p_i (W.runS (As := [.long (x_pc u)]) (rest := []) ⟨hx, hb, hml, hown, hts⟩ (c_X3_isBeyond l (x_pc u) ) (va_cwS 1 hts gX3_doNext_X3_isBeyond rfl rfl rfl (by decide +kernel) ⟨Nat.le_of_ble_eq_true rfl, Nat.le_of_ble_eq_true rfl⟩) p_preT rfl rfl hl.1 rfl (lv_room (Nat.le_of_ble_eq_true rfl)) dX3_doNext_4 ⟨Nat.le_of_ble_eq_true rfl, Nat.le_of_ble_eq_true rfl⟩) ?_
  refine lv_if_eq (tgt := 12) hx hb dX3_doNext_7 (by decide) (fun c1 => ?_) (fun c1 => ?_)
  · refine lv_aload_n hx hb dX3_doNext_12 rfl (lv_at hl 0 rfl) ?_
    refine va_get (D := G) (ci := 1) (v := .ref (a 5)) (C := RX3) (T := TX3) (N := 12) hx hb hts iw_X3_doNext_X3 hown hK hP 0 rfl rfl 4 (by decide) (hts (.fieldLink RX3 26 "MixBench" "memory" "LMixBench$Memory;") (by decide +kernel)) (fun _ h9 => h9) rfl dX3_doNext_13 ?_
    refine lv_aload_n hx hb dX3_doNext_16 rfl (lv_at hl 0 rfl) ?_
    refine va_get (D := G) (ci := 1) (v := .long (x_pc u)) (C := RX3) (T := TX3) (N := 12) hx hb hts iw_X3_doNext_X3 hown hK hP 0 rfl rfl 7 (by decide) (hts (.fieldLink RX3 73 "MixBench" "pc" "J") (by decide +kernel)) (fun _ h9 => h9) rfl dX3_doNext_17 ?_
    refine lv_iconst (v := 4) hx hb dX3_doNext_20 (by decide) ?_
    refine g_l (va_runVN (As := [.long (x_pc u), .int (4 : Int32)]) (rest := []) ⟨hx, hb, hml, hown, hts⟩ (c_X0_load l yy a u (x_pc u) (4 : Int32)  G H.size) ⟨va_cnB 2 hts gX3_doNext_X0_load_n46 rfl rfl rfl (hE.1 (46, yX0_load) (by decide +kernel)) (hts (.initialized RX0) (by decide +kernel)) (by decide +kernel) ⟨Nat.le_of_ble_eq_true rfl, Nat.le_of_ble_eq_true rfl⟩, (hts (.instanceMethod yX0_load) (by decide +kernel)), (hts (.selects RX0 yX0_load yX0_load) (by decide +kernel))⟩ (g_preV eX_bl hK hE hP hD hS hA 5 rfl rfl) rfl rfl hl.1 rfl (lv_room (Nat.le_of_ble_eq_true rfl)) dX3_doNext_21 ⟨Nat.le_of_ble_eq_true rfl, Nat.le_of_ble_eq_true rfl⟩) hD hS hA (fun H locs hP hD hS => ?_)
    have hP : va_P G vwCl (wX yy a u) H := hP
    have hD : va_D A (wX yy a u) := hD
    refine lv_topl (fun v2 ev2 => ?_)
    refine lv_l2i (v := v2.toInt32) hx hb dX3_doNext_24 rfl ?_
    refine lv_topi (fun v3 ev3 => ?_)
    refine lv_istore_n (lv' := [(1, .int v3), (0, .ref (a 0))]) hx hb dX3_doNext_25 rfl hl (by decide) rfl (fun ls hl => ?_)
    refine lv_aload_n hx hb dX3_doNext_26 rfl (lv_at hl 1 rfl) ?_
    refine lv_iload_n hx hb dX3_doNext_27 rfl (lv_at hl 0 rfl) ?_
    refine g_v (va_runV (As := [.int v3]) (rest := []) ⟨hx, hb, hml, hown, hts⟩ (c_X3_followFetch l yy a u v3  G H.size) (cwV 1 hts gX3_doNext_X3_followFetch rfl rfl rfl (by decide +kernel) ⟨Nat.le_of_ble_eq_true rfl, Nat.le_of_ble_eq_true rfl⟩) (g_preV eX_bl hK hE hP hD hS hA 0 rfl rfl) rfl rfl hl.1 rfl (lv_room (Nat.le_of_ble_eq_true rfl)) dX3_doNext_28 ⟨Nat.le_of_ble_eq_true rfl, Nat.le_of_ble_eq_true rfl⟩) hD hS hA (fun H locs hP hD hS => ?_)
    obtain ⟨u4, eu4⟩ : ∃ z, z = f_X3_followFetch u v3 := ⟨_, rfl⟩
    have hP : va_P G vwCl (wX yy a u4) H := by rw [eu4]; exact hP
    have hD : va_D A (wX yy a u4) := by rw [eu4]; exact hD
    refine lv_iload_n hx hb dX3_doNext_31 rfl (lv_at hl 0 rfl) ?_
    refine p_i (W.runS (As := [.int v3]) (rest := []) ⟨hx, hb, hml, hown, hts⟩ (c_X3_isLegal l v3 ) (va_cwS 1 hts gX3_doNext_X3_isLegal rfl rfl rfl (by decide +kernel) ⟨Nat.le_of_ble_eq_true rfl, Nat.le_of_ble_eq_true rfl⟩) p_preT rfl rfl hl.1 rfl (lv_room (Nat.le_of_ble_eq_true rfl)) dX3_doNext_32 ⟨Nat.le_of_ble_eq_true rfl, Nat.le_of_ble_eq_true rfl⟩) ?_
    refine lv_if_ne (tgt := 40) hx hb dX3_doNext_35 (by decide) (fun c5 => ?_) (fun c5 => ?_)
    · refine lv_aload_n hx hb dX3_doNext_40 rfl (lv_at hl 1 rfl) ?_
      refine va_get (D := G) (ci := 1) (v := .ref (a 1)) (C := RX3) (T := TX3) (N := 12) hx hb hts iw_X3_doNext_X3 hown hK hP 0 rfl rfl 0 (by decide) (hts (.fieldLink RX3 9 "MixBench" "registers" "[J") (by decide +kernel)) (fun _ h9 => h9) rfl dX3_doNext_41 ?_
      refine lv_iload_n hx hb dX3_doNext_44 rfl (lv_at hl 0 rfl) ?_
      refine p_i (W.runS (As := [.int v3]) (rest := [.ref (a 1)]) ⟨hx, hb, hml, hown, hts⟩ (c_X3_byteY l v3 ) (va_cwS 1 hts gX3_doNext_X3_byteY rfl rfl rfl (by decide +kernel) ⟨Nat.le_of_ble_eq_true rfl, Nat.le_of_ble_eq_true rfl⟩) p_preT rfl rfl hl.1 rfl (lv_room (Nat.le_of_ble_eq_true rfl)) dX3_doNext_45 ⟨Nat.le_of_ble_eq_true rfl, Nat.le_of_ble_eq_true rfl⟩) ?_
      refine va_lald hx hb hK hP 1 0 rfl rfl (in_byteY _) dX3_doNext_48 ?_
      refine lv_topl (fun v6 ev6 => ?_)
      refine lv_lstore_n (lv' := [(2, .long v6), (1, .int v3), (0, .ref (a 0))]) hx hb dX3_doNext_49 rfl hl (by decide) rfl (fun ls hl => ?_)
      refine lv_aload_n hx hb dX3_doNext_50 rfl (lv_at hl 2 rfl) ?_
      refine lv_iload_n hx hb dX3_doNext_51 rfl (lv_at hl 1 rfl) ?_
      refine g_l (va_runV (As := [.int v3]) (rest := []) ⟨hx, hb, hml, hown, hts⟩ (c_X3_operandZ l yy a u4 v3  G H.size) (cwV 1 hts gX3_doNext_X3_operandZ rfl rfl rfl (by decide +kernel) ⟨Nat.le_of_ble_eq_true rfl, Nat.le_of_ble_eq_true rfl⟩) (g_preV eX_bl hK hE hP hD hS hA 0 rfl rfl) rfl rfl hl.1 rfl (lv_room (Nat.le_of_ble_eq_true rfl)) dX3_doNext_52 ⟨Nat.le_of_ble_eq_true rfl, Nat.le_of_ble_eq_true rfl⟩) hD hS hA (fun H locs hP hD hS => ?_)
      have hP : va_P G vwCl (wX yy a u4) H := hP
      have hD : va_D A (wX yy a u4) := hD
      refine lv_topl (fun v7 ev7 => ?_)
      refine lv_lstore (lv' := [(4, .long v7), (2, .long v6), (1, .int v3), (0, .ref (a 0))]) hx hb dX3_doNext_55 hl (by decide) rfl (fun ls hl => ?_)
      refine lv_iload_n hx hb dX3_doNext_57 rfl (lv_at hl 2 rfl) ?_
      refine p_i (W.runS (As := [.int v3]) (rest := []) ⟨hx, hb, hml, hown, hts⟩ (c_X3_opOf l v3 ) (va_cwS 1 hts gX3_doNext_X3_opOf rfl rfl rfl (by decide +kernel) ⟨Nat.le_of_ble_eq_true rfl, Nat.le_of_ble_eq_true rfl⟩) p_preT rfl rfl hl.1 rfl (lv_room (Nat.le_of_ble_eq_true rfl)) dX3_doNext_58 ⟨Nat.le_of_ble_eq_true rfl, Nat.le_of_ble_eq_true rfl⟩) ?_
      refine p_i (W.runS (As := [.int (f_X3_opOf v3)]) (rest := []) ⟨hx, hb, hml, hown, hts⟩ (c_X3_isLoadOrStore l (f_X3_opOf v3) ) (va_cwS 1 hts gX3_doNext_X3_isLoadOrStore rfl rfl rfl (by decide +kernel) ⟨Nat.le_of_ble_eq_true rfl, Nat.le_of_ble_eq_true rfl⟩) p_preT rfl rfl hl.1 rfl (lv_room (Nat.le_of_ble_eq_true rfl)) dX3_doNext_61 ⟨Nat.le_of_ble_eq_true rfl, Nat.le_of_ble_eq_true rfl⟩) ?_
      refine lv_topi (fun v8 ev8 => ?_)
      refine lv_istore (lv' := [(6, .int v8), (4, .long v7), (2, .long v6), (1, .int v3), (0, .ref (a 0))]) hx hb dX3_doNext_64 hl (by decide) rfl (fun ls hl => ?_)
      refine lv_iload hx hb dX3_doNext_66 (lv_at hl 0 rfl) ?_
      refine lv_if_eq (tgt := 83) hx hb dX3_doNext_68 (by decide) (fun c9 => ?_) (fun c9 => ?_)
      · refine lv_aload_n hx hb dX3_doNext_83 rfl (lv_at hl 4 rfl) ?_
        refine lv_iload_n hx hb dX3_doNext_84 rfl (lv_at hl 3 rfl) ?_
        refine p_i (W.runS (As := [.int v3]) (rest := [.ref (a 0)]) ⟨hx, hb, hml, hown, hts⟩ (c_X3_opOf l v3 ) (va_cwS 1 hts gX3_doNext_X3_opOf rfl rfl rfl (by decide +kernel) ⟨Nat.le_of_ble_eq_true rfl, Nat.le_of_ble_eq_true rfl⟩) p_preT rfl rfl hl.1 rfl (lv_room (Nat.le_of_ble_eq_true rfl)) dX3_doNext_85 ⟨Nat.le_of_ble_eq_true rfl, Nat.le_of_ble_eq_true rfl⟩) ?_
        refine lv_iload hx hb dX3_doNext_88 (lv_at hl 0 rfl) ?_
        refine g_v (va_runV (As := [.int (f_X3_opOf v3), .int v8]) (rest := []) ⟨hx, hb, hml, hown, hts⟩ (c_X3_bill l yy a u4 (f_X3_opOf v3) v8 ((in_opOf _)) G H.size) (cwV 2 hts gX3_doNext_X3_bill rfl rfl rfl (by decide +kernel) ⟨Nat.le_of_ble_eq_true rfl, Nat.le_of_ble_eq_true rfl⟩) (g_preV eX_bl hK hE hP hD hS hA 0 rfl rfl) rfl rfl hl.1 rfl (lv_room (Nat.le_of_ble_eq_true rfl)) dX3_doNext_90 ⟨Nat.le_of_ble_eq_true rfl, Nat.le_of_ble_eq_true rfl⟩) hD hS hA (fun H locs hP hD hS => ?_)
        obtain ⟨u10, eu10⟩ : ∃ z, z = f_X3_bill u4 (f_X3_opOf v3) v8 := ⟨_, rfl⟩
        have hP : va_P G vwCl (wX yy a u10) H := by rw [eu10]; exact hP
        have hD : va_D A (wX yy a u10) := by rw [eu10]; exact hD
        refine lv_aload_n hx hb dX3_doNext_93 rfl (lv_at hl 4 rfl) ?_
        refine lv_iload_n hx hb dX3_doNext_94 rfl (lv_at hl 3 rfl) ?_
        refine lv_lload_n hx hb dX3_doNext_95 rfl (lv_at hl 2 rfl) ?_
        refine lv_lload hx hb dX3_doNext_96 (lv_at hl 1 rfl) ?_
        refine g_v (va_runV (As := [.int v3, .long v6, .long v7]) (rest := []) ⟨hx, hb, hml, hown, hts⟩ (c_X3_perform l yy a u10 v3 v6 v7 (by have eu10 := eu10.symm; subst eu10; have ev8 := ev8.symm; subst ev8; have ev7 := ev7.symm; subst ev7; have ev6 := ev6.symm; subst ev6; have eu4 := eu4.symm; subst eu4; have ev3 := ev3.symm; subst ev3; have ev2 := ev2.symm; subst ev2; rw [ol_bill, ol_followFetch]; exact h0) G H.size) (cwV 3 hts gX3_doNext_X3_perform rfl rfl rfl (by decide +kernel) ⟨Nat.le_of_ble_eq_true rfl, Nat.le_of_ble_eq_true rfl⟩) (g_preV eX_bl hK hE hP hD hS hA 0 rfl rfl) rfl rfl hl.1 rfl (lv_room (Nat.le_of_ble_eq_true rfl)) dX3_doNext_98 ⟨Nat.le_of_ble_eq_true rfl, Nat.le_of_ble_eq_true rfl⟩) hD hS hA (fun H locs hP hD hS => ?_)
        obtain ⟨u11, eu11⟩ : ∃ z, z = f_X3_perform u10 v3 v6 v7 := ⟨_, rfl⟩
        have hP : va_P G vwCl (wX yy a u11) H := by rw [eu11]; exact hP
        have hD : va_D A (wX yy a u11) := by rw [eu11]; exact hD
        refine lv_iload_n hx hb dX3_doNext_101 rfl (lv_at hl 3 rfl) ?_
        refine lv_if_ne (tgt := 109) hx hb dX3_doNext_102 (by decide) (fun c12 => ?_) (fun c12 => ?_)
        · refine lv_iconst (v := 0) hx hb dX3_doNext_109 (by decide) ?_
          exact g_iret (by have eu11 := eu11.symm; subst eu11; have eu10 := eu10.symm; subst eu10; have ev8 := ev8.symm; subst ev8; have ev7 := ev7.symm; subst ev7; have ev6 := ev6.symm; subst ev6; have eu4 := eu4.symm; subst eu4; have ev3 := ev3.symm; subst ev3; have ev2 := ev2.symm; subst ev2; exact (if_pos c1).trans ((if_neg c5).trans ((if_pos c9).trans ((if_neg c12).trans (rfl))))) hx hb hr hP hD hS hlocks dX3_doNext_110
        · refine lv_iconst (v := 1) hx hb dX3_doNext_105 (by decide) ?_
          refine lv_goto (tgt := 110) hx hb dX3_doNext_106 (by decide) ?_
          exact g_iret (by have eu11 := eu11.symm; subst eu11; have eu10 := eu10.symm; subst eu10; have ev8 := ev8.symm; subst ev8; have ev7 := ev7.symm; subst ev7; have ev6 := ev6.symm; subst ev6; have eu4 := eu4.symm; subst eu4; have ev3 := ev3.symm; subst ev3; have ev2 := ev2.symm; subst ev2; exact (if_pos c1).trans ((if_neg c5).trans ((if_pos c9).trans ((if_pos c12).trans (rfl))))) hx hb hr hP hD hS hlocks dX3_doNext_110
      · refine lv_lload_n hx hb dX3_doNext_71 rfl (lv_at hl 2 rfl) ?_
        refine lv_lload hx hb dX3_doNext_72 (lv_at hl 1 rfl) ?_
        refine lv_ladd hx hb dX3_doNext_74 ?_
        refine p_i (W.runS (As := [.long (v6 + v7)]) (rest := []) ⟨hx, hb, hml, hown, hts⟩ (c_X3_isBeyond l (v6 + v7) ) (va_cwS 1 hts gX3_doNext_X3_isBeyond rfl rfl rfl (by decide +kernel) ⟨Nat.le_of_ble_eq_true rfl, Nat.le_of_ble_eq_true rfl⟩) p_preT rfl rfl hl.1 rfl (lv_room (Nat.le_of_ble_eq_true rfl)) dX3_doNext_75 ⟨Nat.le_of_ble_eq_true rfl, Nat.le_of_ble_eq_true rfl⟩) ?_
        refine lv_if_eq (tgt := 83) hx hb dX3_doNext_78 (by decide) (fun c13 => ?_) (fun c13 => ?_)
        · refine lv_aload_n hx hb dX3_doNext_83 rfl (lv_at hl 4 rfl) ?_
          refine lv_iload_n hx hb dX3_doNext_84 rfl (lv_at hl 3 rfl) ?_
          refine p_i (W.runS (As := [.int v3]) (rest := [.ref (a 0)]) ⟨hx, hb, hml, hown, hts⟩ (c_X3_opOf l v3 ) (va_cwS 1 hts gX3_doNext_X3_opOf rfl rfl rfl (by decide +kernel) ⟨Nat.le_of_ble_eq_true rfl, Nat.le_of_ble_eq_true rfl⟩) p_preT rfl rfl hl.1 rfl (lv_room (Nat.le_of_ble_eq_true rfl)) dX3_doNext_85 ⟨Nat.le_of_ble_eq_true rfl, Nat.le_of_ble_eq_true rfl⟩) ?_
          refine lv_iload hx hb dX3_doNext_88 (lv_at hl 0 rfl) ?_
          refine g_v (va_runV (As := [.int (f_X3_opOf v3), .int v8]) (rest := []) ⟨hx, hb, hml, hown, hts⟩ (c_X3_bill l yy a u4 (f_X3_opOf v3) v8 ((in_opOf _)) G H.size) (cwV 2 hts gX3_doNext_X3_bill rfl rfl rfl (by decide +kernel) ⟨Nat.le_of_ble_eq_true rfl, Nat.le_of_ble_eq_true rfl⟩) (g_preV eX_bl hK hE hP hD hS hA 0 rfl rfl) rfl rfl hl.1 rfl (lv_room (Nat.le_of_ble_eq_true rfl)) dX3_doNext_90 ⟨Nat.le_of_ble_eq_true rfl, Nat.le_of_ble_eq_true rfl⟩) hD hS hA (fun H locs hP hD hS => ?_)
          obtain ⟨u14, eu14⟩ : ∃ z, z = f_X3_bill u4 (f_X3_opOf v3) v8 := ⟨_, rfl⟩
          have hP : va_P G vwCl (wX yy a u14) H := by rw [eu14]; exact hP
          have hD : va_D A (wX yy a u14) := by rw [eu14]; exact hD
          refine lv_aload_n hx hb dX3_doNext_93 rfl (lv_at hl 4 rfl) ?_
          refine lv_iload_n hx hb dX3_doNext_94 rfl (lv_at hl 3 rfl) ?_
          refine lv_lload_n hx hb dX3_doNext_95 rfl (lv_at hl 2 rfl) ?_
          refine lv_lload hx hb dX3_doNext_96 (lv_at hl 1 rfl) ?_
          refine g_v (va_runV (As := [.int v3, .long v6, .long v7]) (rest := []) ⟨hx, hb, hml, hown, hts⟩ (c_X3_perform l yy a u14 v3 v6 v7 (by have eu14 := eu14.symm; subst eu14; have ev8 := ev8.symm; subst ev8; have ev7 := ev7.symm; subst ev7; have ev6 := ev6.symm; subst ev6; have eu4 := eu4.symm; subst eu4; have ev3 := ev3.symm; subst ev3; have ev2 := ev2.symm; subst ev2; rw [ol_bill, ol_followFetch]; exact h0) G H.size) (cwV 3 hts gX3_doNext_X3_perform rfl rfl rfl (by decide +kernel) ⟨Nat.le_of_ble_eq_true rfl, Nat.le_of_ble_eq_true rfl⟩) (g_preV eX_bl hK hE hP hD hS hA 0 rfl rfl) rfl rfl hl.1 rfl (lv_room (Nat.le_of_ble_eq_true rfl)) dX3_doNext_98 ⟨Nat.le_of_ble_eq_true rfl, Nat.le_of_ble_eq_true rfl⟩) hD hS hA (fun H locs hP hD hS => ?_)
          obtain ⟨u15, eu15⟩ : ∃ z, z = f_X3_perform u14 v3 v6 v7 := ⟨_, rfl⟩
          have hP : va_P G vwCl (wX yy a u15) H := by rw [eu15]; exact hP
          have hD : va_D A (wX yy a u15) := by rw [eu15]; exact hD
          refine lv_iload_n hx hb dX3_doNext_101 rfl (lv_at hl 3 rfl) ?_
          refine lv_if_ne (tgt := 109) hx hb dX3_doNext_102 (by decide) (fun c16 => ?_) (fun c16 => ?_)
          · refine lv_iconst (v := 0) hx hb dX3_doNext_109 (by decide) ?_
            exact g_iret (by have eu15 := eu15.symm; subst eu15; have eu14 := eu14.symm; subst eu14; have ev8 := ev8.symm; subst ev8; have ev7 := ev7.symm; subst ev7; have ev6 := ev6.symm; subst ev6; have eu4 := eu4.symm; subst eu4; have ev3 := ev3.symm; subst ev3; have ev2 := ev2.symm; subst ev2; exact (if_pos c1).trans ((if_neg c5).trans ((if_neg c9).trans ((if_pos c13).trans ((if_neg c16).trans (rfl)))))) hx hb hr hP hD hS hlocks dX3_doNext_110
          · refine lv_iconst (v := 1) hx hb dX3_doNext_105 (by decide) ?_
            refine lv_goto (tgt := 110) hx hb dX3_doNext_106 (by decide) ?_
            exact g_iret (by have eu15 := eu15.symm; subst eu15; have eu14 := eu14.symm; subst eu14; have ev8 := ev8.symm; subst ev8; have ev7 := ev7.symm; subst ev7; have ev6 := ev6.symm; subst ev6; have eu4 := eu4.symm; subst eu4; have ev3 := ev3.symm; subst ev3; have ev2 := ev2.symm; subst ev2; exact (if_pos c1).trans ((if_neg c5).trans ((if_neg c9).trans ((if_pos c13).trans ((if_pos c16).trans (rfl)))))) hx hb hr hP hD hS hlocks dX3_doNext_110
        · refine lv_iconst (v := 3) hx hb dX3_doNext_81 (by decide) ?_
          exact g_iret (by have ev8 := ev8.symm; subst ev8; have ev7 := ev7.symm; subst ev7; have ev6 := ev6.symm; subst ev6; have eu4 := eu4.symm; subst eu4; have ev3 := ev3.symm; subst ev3; have ev2 := ev2.symm; subst ev2; exact (if_pos c1).trans ((if_neg c5).trans ((if_neg c9).trans ((if_neg c13).trans (rfl))))) hx hb hr hP hD hS hlocks dX3_doNext_82
    · refine lv_iconst (v := 2) hx hb dX3_doNext_38 (by decide) ?_
      exact g_iret (by have eu4 := eu4.symm; subst eu4; have ev3 := ev3.symm; subst ev3; have ev2 := ev2.symm; subst ev2; exact (if_pos c1).trans ((if_pos c5).trans (rfl))) hx hb hr hP hD hS hlocks dX3_doNext_39
  · refine lv_iconst (v := 3) hx hb dX3_doNext_10 (by decide) ?_
    exact g_iret (by exact (if_neg c1).trans (rfl)) hx hb hr hP hD hS hlocks dX3_doNext_11
