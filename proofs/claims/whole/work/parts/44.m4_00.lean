def f_X4_step (u : MS)  : Int32 × MS :=
  if (f_X4_beyond (m_pc u)) = (0 : Int32) then
    let v2 : Int64 := f_X4_m u (m_pc u) (4 : Int32);
    let v3 : Int32 := v2.toInt32;
    let v4 : Int32 := jushr v3 (24 : Int32);
    let v5 : Int32 := (jshr v3 (16 : Int32)) &&& (255 : Int32);
    let v6 : Int32 := (jshr v3 (8 : Int32)) &&& (255 : Int32);
    let v7 : Int32 := v3 &&& (255 : Int32);
    let u8 : MS := sm_tr u (((31 : Int64) * (m_tr u)) + (m_g u v6.toNatClampNeg));
    let u9 : MS := sm_tr u8 (((31 : Int64) * (m_tr u8)) + (m_g u8 v7.toNatClampNeg));
    let u10 : MS := sm_tr u9 (((31 : Int64) * (m_tr u9)) + (m_g u9 v5.toNatClampNeg));
    let z14 : Int32 × MS := (if v4 < (64 : Int32) then if (64 : Int32) ≤ v4 then if (128 : Int32) ≤ v4 then if (192 : Int32) ≤ v4 then if (224 : Int32) ≤ v4 then let v20 : Int32 := (f_X4_high u10 v4 v5 v6 v7 v3).1; let u21 : MS := (f_X4_high u10 v4 v5 v6 v7 v3).2; (v20, u21) else let v22 : Int32 := (f_X4_bits u10 v4 v5 v6 v7).1; let u23 : MS := (f_X4_bits u10 v4 v5 v6 v7).2; (v22, u23) else let v24 : Int32 := (f_X4_access u10 v4 v5 v6 v7).1; let u25 : MS := (f_X4_access u10 v4 v5 v6 v7).2; (v24, u25) else let v26 : Int32 := (f_X4_choose u10 v4 v5 v6 v7).1; let u27 : MS := (f_X4_choose u10 v4 v5 v6 v7).2; (v26, u27) else let v28 : Int32 := (f_X4_low u10 v4 v5 v6 v7).1; let u29 : MS := (f_X4_low u10 v4 v5 v6 v7).2; (v28, u29) else if (96 : Int32) ≤ v4 then if (64 : Int32) ≤ v4 then if (128 : Int32) ≤ v4 then if (192 : Int32) ≤ v4 then if (224 : Int32) ≤ v4 then let v35 : Int32 := (f_X4_high u10 v4 v5 v6 v7 v3).1; let u36 : MS := (f_X4_high u10 v4 v5 v6 v7 v3).2; (v35, u36) else let v37 : Int32 := (f_X4_bits u10 v4 v5 v6 v7).1; let u38 : MS := (f_X4_bits u10 v4 v5 v6 v7).2; (v37, u38) else let v39 : Int32 := (f_X4_access u10 v4 v5 v6 v7).1; let u40 : MS := (f_X4_access u10 v4 v5 v6 v7).2; (v39, u40) else let v41 : Int32 := (f_X4_choose u10 v4 v5 v6 v7).1; let u42 : MS := (f_X4_choose u10 v4 v5 v6 v7).2; (v41, u42) else let v43 : Int32 := (f_X4_low u10 v4 v5 v6 v7).1; let u44 : MS := (f_X4_low u10 v4 v5 v6 v7).2; (v43, u44) else let v45 : Int32 := (f_X4_branch u10 v4 v5 (v3 &&& (65535 : Int32))).1; let u46 : MS := (f_X4_branch u10 v4 v5 (v3 &&& (65535 : Int32))).2; (v45, u46));
    let v12 : Int32 := z14.1;
    let u13 : MS := z14.2;
    if v12 = (2 : Int32) then
      (v12, u13)
    else
      if v12 = (3 : Int32) then
        (v12, u13)
      else
        let u49 : MS := sm_ta u13 (vp_updL (m_ta u13) v4.toNatClampNeg ((m_ta u13 v4.toNatClampNeg) + (1 : Int64)));
        let u50 : MS := sm_la u49 (m_ta u49 v4.toNatClampNeg);
        let z53 : Int64 := (if v4 < (24 : Int32) then if v4 < (28 : Int32) then if v4 = (158 : Int32) then (3 : Int64) else if v4 = (159 : Int32) then (3 : Int64) else if v4 = (0 : Int32) then (5 : Int64) else if (m_lt u50) = (0 : Int32) then (1 : Int64) else (3 : Int64) else if (32 : Int32) ≤ v4 then if v4 = (158 : Int32) then (3 : Int64) else if v4 = (159 : Int32) then (3 : Int64) else if v4 = (0 : Int32) then (5 : Int64) else if (m_lt u50) = (0 : Int32) then (1 : Int64) else (3 : Int64) else (60 : Int64) else if (28 : Int32) ≤ v4 then if v4 < (28 : Int32) then if v4 = (158 : Int32) then (3 : Int64) else if v4 = (159 : Int32) then (3 : Int64) else if v4 = (0 : Int32) then (5 : Int64) else if (m_lt u50) = (0 : Int32) then (1 : Int64) else (3 : Int64) else if (32 : Int32) ≤ v4 then if v4 = (158 : Int32) then (3 : Int64) else if v4 = (159 : Int32) then (3 : Int64) else if v4 = (0 : Int32) then (5 : Int64) else if (m_lt u50) = (0 : Int32) then (1 : Int64) else (3 : Int64) else (60 : Int64) else (10 : Int64));
        let v52 : Int64 := z53;
        let u76 : MS := sm_oo u50 ((m_oo u50) + v52);
        (v12, u76)
  else
    ((3 : Int32), u)
abbrev rm_X4_step : Room := { frames := 3, cells := 0, slots := 0, locals := 85 }
set_option maxRecDepth 20000 in
theorem iw_X4_step_X4 : ∀ w ∈ wsX40, w ∈ wsX4_step := by decide +kernel
set_option maxHeartbeats 4000000 in
set_option maxRecDepth 100000 in
theorem c_X4_step (l : Launch) (yy : Nat → ClassId) (a : Nat → Nat) (u : MS) (h0 : 0 ≤ m_on u) : gMi l yX4_step wsX4_step rm_X4_step eTrue (sT yy) (wM yy a) [.ref (a 0)] u (f_X4_step u) := by
  refine gm_ofW (Qc := gQi (wM yy a) (f_X4_step u)) (by decide) rfl (Nat.le_of_ble_eq_true rfl) ?_
  intro G A p e s m args below meth c hx hb hr hml hts hown hlocks hK hE hA H locs hP hD hS ls hl
  have hl : lv_has ls 7 [(0, .ref (a 0))] := hl
  refine lv_aload_n hx hb dX4_step_0 rfl (lv_at hl 0 rfl) ?_
  refine va_get (D := G) (ci := 2) (v := .long (m_pc u)) (C := RX4) (T := TX4) (N := 17) hx hb hts iw_X4_step_X4 hown hK hP 0 rfl rfl 8 (by decide) (hts (.fieldLink RX4 162 "MixBenchModel" "pc" "J") (by decide +kernel)) (fun _ h9 => h9) rfl dX4_step_1 ?_
  refine p_i (W.runS (As := [.long (m_pc u)]) (rest := []) ⟨hx, hb, hml, hown, hts⟩ (c_X4_beyond l (m_pc u) ) (va_cwS 1 hts gX4_step_X4_beyond rfl rfl rfl (by decide +kernel) ⟨Nat.le_of_ble_eq_true rfl, Nat.le_of_ble_eq_true rfl⟩) p_preT rfl rfl hl.1 rfl (lv_room (Nat.le_of_ble_eq_true rfl)) dX4_step_4 ⟨Nat.le_of_ble_eq_true rfl, Nat.le_of_ble_eq_true rfl⟩) ?_
  refine lv_if_eq (tgt := 12) hx hb dX4_step_7 (by decide) (fun c1 => ?_) (fun c1 => ?_)
  · refine lv_aload_n hx hb dX4_step_12 rfl (lv_at hl 0 rfl) ?_
    refine lv_aload_n hx hb dX4_step_13 rfl (lv_at hl 0 rfl) ?_
    refine va_get (D := G) (ci := 2) (v := .long (m_pc u)) (C := RX4) (T := TX4) (N := 17) hx hb hts iw_X4_step_X4 hown hK hP 0 rfl rfl 8 (by decide) (hts (.fieldLink RX4 162 "MixBenchModel" "pc" "J") (by decide +kernel)) (fun _ h9 => h9) rfl dX4_step_14 ?_
    refine lv_iconst (v := 4) hx hb dX4_step_17 (by decide) ?_
    refine g_l (va_runV (As := [.long (m_pc u), .int (4 : Int32)]) (rest := []) ⟨hx, hb, hml, hown, hts⟩ (c_X4_m l yy a u (m_pc u) (4 : Int32) (c1) (by decide) G H.size) (cwV 2 hts gX4_step_X4_m rfl rfl rfl (by decide +kernel) ⟨Nat.le_of_ble_eq_true rfl, Nat.le_of_ble_eq_true rfl⟩) (g_preV eTrue_bl hK hE hP hD hS hA 0 rfl rfl) rfl rfl hl.1 rfl (lv_room (Nat.le_of_ble_eq_true rfl)) dX4_step_18 ⟨Nat.le_of_ble_eq_true rfl, Nat.le_of_ble_eq_true rfl⟩) hD hS hA (fun H locs hP hD hS => ?_)
    have hP : va_P G vwCl (wM yy a u) H := hP
    have hD : va_D A (wM yy a u) := hD
    refine lv_topl (fun v2 ev2 => ?_)
    refine lv_l2i (v := v2.toInt32) hx hb dX4_step_21 rfl ?_
    refine lv_topi (fun v3 ev3 => ?_)
    refine lv_istore_n (lv' := [(1, .int v3), (0, .ref (a 0))]) hx hb dX4_step_22 rfl hl (by decide) rfl (fun ls hl => ?_)
    refine lv_iload_n hx hb dX4_step_23 rfl (lv_at hl 0 rfl) ?_
    refine lv_bipush (v := 24) hx hb dX4_step_24 (by decide) ?_
    refine lv_iushr (v := jushr v3 (24 : Int32)) hx hb dX4_step_26 rfl ?_
    refine lv_topi (fun v4 ev4 => ?_)
    refine lv_istore_n (lv' := [(2, .int v4), (1, .int v3), (0, .ref (a 0))]) hx hb dX4_step_27 rfl hl (by decide) rfl (fun ls hl => ?_)
    refine lv_iload_n hx hb dX4_step_28 rfl (lv_at hl 1 rfl) ?_
    refine lv_bipush (v := 16) hx hb dX4_step_29 (by decide) ?_
    refine lv_ishr hx hb dX4_step_31 ?_
    refine lv_sipush (v := 255) hx hb dX4_step_32 (by decide) ?_
    refine lv_iand hx hb dX4_step_35 ?_
    refine lv_topi (fun v5 ev5 => ?_)
    refine lv_istore_n (lv' := [(3, .int v5), (2, .int v4), (1, .int v3), (0, .ref (a 0))]) hx hb dX4_step_36 rfl hl (by decide) rfl (fun ls hl => ?_)
    refine lv_iload_n hx hb dX4_step_37 rfl (lv_at hl 2 rfl) ?_
    refine lv_bipush (v := 8) hx hb dX4_step_38 (by decide) ?_
    refine lv_ishr hx hb dX4_step_40 ?_
    refine lv_sipush (v := 255) hx hb dX4_step_41 (by decide) ?_
    refine lv_iand hx hb dX4_step_44 ?_
    refine lv_topi (fun v6 ev6 => ?_)
    refine lv_istore (lv' := [(4, .int v6), (3, .int v5), (2, .int v4), (1, .int v3), (0, .ref (a 0))]) hx hb dX4_step_45 hl (by decide) rfl (fun ls hl => ?_)
    refine lv_iload_n hx hb dX4_step_47 rfl (lv_at hl 3 rfl) ?_
    refine lv_sipush (v := 255) hx hb dX4_step_48 (by decide) ?_
    refine lv_iand hx hb dX4_step_51 ?_
    refine lv_topi (fun v7 ev7 => ?_)
    refine lv_istore (lv' := [(5, .int v7), (4, .int v6), (3, .int v5), (2, .int v4), (1, .int v3), (0, .ref (a 0))]) hx hb dX4_step_52 hl (by decide) rfl (fun ls hl => ?_)
    refine lv_aload_n hx hb dX4_step_54 rfl (lv_at hl 5 rfl) ?_
    refine lv_ldc2 hx hb hown (hts (.constantLong RX4 174 (31)) (by decide +kernel)) dX4_step_55 ?_
    refine lv_aload_n hx hb dX4_step_58 rfl (lv_at hl 5 rfl) ?_
    refine va_get (D := G) (ci := 2) (v := .long (m_tr u)) (C := RX4) (T := TX4) (N := 17) hx hb hts iw_X4_step_X4 hown hK hP 0 rfl rfl 11 (by decide) (hts (.fieldLink RX4 176 "MixBenchModel" "trail" "J") (by decide +kernel)) (fun _ h9 => h9) rfl dX4_step_59 ?_
    refine lv_lmul hx hb dX4_step_62 ?_
    refine lv_aload_n hx hb dX4_step_63 rfl (lv_at hl 5 rfl) ?_
    refine va_get (D := G) (ci := 2) (v := .ref (a 1)) (C := RX4) (T := TX4) (N := 17) hx hb hts iw_X4_step_X4 hown hK hP 0 rfl rfl 1 (by decide) (hts (.fieldLink RX4 7 "MixBenchModel" "g" "[J") (by decide +kernel)) (fun _ h9 => h9) rfl dX4_step_64 ?_
    refine lv_iload hx hb dX4_step_67 (lv_at hl 1 rfl) ?_
    refine va_lald hx hb hK hP 1 0 rfl rfl (by rw [ev6]; exact (in_and255 _)) dX4_step_69 ?_
    refine lv_ladd hx hb dX4_step_70 ?_
    refine va_put (D := G) (ci := 2) (v := .long (((31 : Int64) * (m_tr u)) + (m_g u v6.toNatClampNeg))) (ty := .long) (C := RX4) (T := TX4) (N := 17) hx hb hts iw_X4_step_X4 tyX4 tyX4_ok nmX4 hown hK hP hD hS 0 rfl rfl 11 (by decide) (hts (.fieldLink RX4 176 "MixBenchModel" "trail" "J") (by decide +kernel)) (fun _ h9 => h9) rfl (by decide +kernel) rfl rfl (Nat.le_of_ble_eq_true rfl) dX4_step_71 (fun H locs hP hD hS => ?_)
    obtain ⟨u8, eu8⟩ : ∃ z, z = sm_tr u (((31 : Int64) * (m_tr u)) + (m_g u v6.toNatClampNeg)) := ⟨_, rfl⟩
    have hP : va_P G vwCl (wM yy a u8) H := by rw [eu8]; exact hP
    have hD : va_D A (wM yy a u8) := by rw [eu8]; exact hD
    refine lv_aload_n hx hb dX4_step_74 rfl (lv_at hl 5 rfl) ?_
    refine lv_ldc2 hx hb hown (hts (.constantLong RX4 174 (31)) (by decide +kernel)) dX4_step_75 ?_
    refine lv_aload_n hx hb dX4_step_78 rfl (lv_at hl 5 rfl) ?_
    refine va_get (D := G) (ci := 2) (v := .long (m_tr u8)) (C := RX4) (T := TX4) (N := 17) hx hb hts iw_X4_step_X4 hown hK hP 0 rfl rfl 11 (by decide) (hts (.fieldLink RX4 176 "MixBenchModel" "trail" "J") (by decide +kernel)) (fun _ h9 => h9) rfl dX4_step_79 ?_
    refine lv_lmul hx hb dX4_step_82 ?_
    refine lv_aload_n hx hb dX4_step_83 rfl (lv_at hl 5 rfl) ?_
    refine va_get (D := G) (ci := 2) (v := .ref (a 1)) (C := RX4) (T := TX4) (N := 17) hx hb hts iw_X4_step_X4 hown hK hP 0 rfl rfl 1 (by decide) (hts (.fieldLink RX4 7 "MixBenchModel" "g" "[J") (by decide +kernel)) (fun _ h9 => h9) rfl dX4_step_84 ?_
    refine lv_iload hx hb dX4_step_87 (lv_at hl 0 rfl) ?_
    refine va_lald hx hb hK hP 1 0 rfl rfl (by rw [ev7]; exact (in_and255 _)) dX4_step_89 ?_
    refine lv_ladd hx hb dX4_step_90 ?_
    refine va_put (D := G) (ci := 2) (v := .long (((31 : Int64) * (m_tr u8)) + (m_g u8 v7.toNatClampNeg))) (ty := .long) (C := RX4) (T := TX4) (N := 17) hx hb hts iw_X4_step_X4 tyX4 tyX4_ok nmX4 hown hK hP hD hS 0 rfl rfl 11 (by decide) (hts (.fieldLink RX4 176 "MixBenchModel" "trail" "J") (by decide +kernel)) (fun _ h9 => h9) rfl (by decide +kernel) rfl rfl (Nat.le_of_ble_eq_true rfl) dX4_step_91 (fun H locs hP hD hS => ?_)
    obtain ⟨u9, eu9⟩ : ∃ z, z = sm_tr u8 (((31 : Int64) * (m_tr u8)) + (m_g u8 v7.toNatClampNeg)) := ⟨_, rfl⟩
    have hP : va_P G vwCl (wM yy a u9) H := by rw [eu9]; exact hP
    have hD : va_D A (wM yy a u9) := by rw [eu9]; exact hD
    refine lv_aload_n hx hb dX4_step_94 rfl (lv_at hl 5 rfl) ?_
    refine lv_ldc2 hx hb hown (hts (.constantLong RX4 174 (31)) (by decide +kernel)) dX4_step_95 ?_
    refine lv_aload_n hx hb dX4_step_98 rfl (lv_at hl 5 rfl) ?_
    refine va_get (D := G) (ci := 2) (v := .long (m_tr u9)) (C := RX4) (T := TX4) (N := 17) hx hb hts iw_X4_step_X4 hown hK hP 0 rfl rfl 11 (by decide) (hts (.fieldLink RX4 176 "MixBenchModel" "trail" "J") (by decide +kernel)) (fun _ h9 => h9) rfl dX4_step_99 ?_
    refine lv_lmul hx hb dX4_step_102 ?_
    refine lv_aload_n hx hb dX4_step_103 rfl (lv_at hl 5 rfl) ?_
    refine va_get (D := G) (ci := 2) (v := .ref (a 1)) (C := RX4) (T := TX4) (N := 17) hx hb hts iw_X4_step_X4 hown hK hP 0 rfl rfl 1 (by decide) (hts (.fieldLink RX4 7 "MixBenchModel" "g" "[J") (by decide +kernel)) (fun _ h9 => h9) rfl dX4_step_104 ?_
    refine lv_iload_n hx hb dX4_step_107 rfl (lv_at hl 2 rfl) ?_
    refine va_lald hx hb hK hP 1 0 rfl rfl (by rw [ev5]; exact (in_and255 _)) dX4_step_108 ?_
    refine lv_ladd hx hb dX4_step_109 ?_
    refine va_put (D := G) (ci := 2) (v := .long (((31 : Int64) * (m_tr u9)) + (m_g u9 v5.toNatClampNeg))) (ty := .long) (C := RX4) (T := TX4) (N := 17) hx hb hts iw_X4_step_X4 tyX4 tyX4_ok nmX4 hown hK hP hD hS 0 rfl rfl 11 (by decide) (hts (.fieldLink RX4 176 "MixBenchModel" "trail" "J") (by decide +kernel)) (fun _ h9 => h9) rfl (by decide +kernel) rfl rfl (Nat.le_of_ble_eq_true rfl) dX4_step_110 (fun H locs hP hD hS => ?_)
    obtain ⟨u10, eu10⟩ : ∃ z, z = sm_tr u9 (((31 : Int64) * (m_tr u9)) + (m_g u9 v5.toNatClampNeg)) := ⟨_, rfl⟩
    have hP : va_P G vwCl (wM yy a u10) H := by rw [eu10]; exact hP
    have hD : va_D A (wM yy a u10) := by rw [eu10]; exact hD
    refine lv_iload_n hx hb dX4_step_113 rfl (lv_at hl 3 rfl) ?_
    refine lv_bipush (v := 64) hx hb dX4_step_114 (by decide) ?_
    obtain ⟨z14, ez14⟩ : ∃ q : Int32 × MS, q = (if v4 < (64 : Int32) then if (64 : Int32) ≤ v4 then if (128 : Int32) ≤ v4 then if (192 : Int32) ≤ v4 then if (224 : Int32) ≤ v4 then let v20 : Int32 := (f_X4_high u10 v4 v5 v6 v7 v3).1; let u21 : MS := (f_X4_high u10 v4 v5 v6 v7 v3).2; (v20, u21) else let v22 : Int32 := (f_X4_bits u10 v4 v5 v6 v7).1; let u23 : MS := (f_X4_bits u10 v4 v5 v6 v7).2; (v22, u23) else let v24 : Int32 := (f_X4_access u10 v4 v5 v6 v7).1; let u25 : MS := (f_X4_access u10 v4 v5 v6 v7).2; (v24, u25) else let v26 : Int32 := (f_X4_choose u10 v4 v5 v6 v7).1; let u27 : MS := (f_X4_choose u10 v4 v5 v6 v7).2; (v26, u27) else let v28 : Int32 := (f_X4_low u10 v4 v5 v6 v7).1; let u29 : MS := (f_X4_low u10 v4 v5 v6 v7).2; (v28, u29) else if (96 : Int32) ≤ v4 then if (64 : Int32) ≤ v4 then if (128 : Int32) ≤ v4 then if (192 : Int32) ≤ v4 then if (224 : Int32) ≤ v4 then let v35 : Int32 := (f_X4_high u10 v4 v5 v6 v7 v3).1; let u36 : MS := (f_X4_high u10 v4 v5 v6 v7 v3).2; (v35, u36) else let v37 : Int32 := (f_X4_bits u10 v4 v5 v6 v7).1; let u38 : MS := (f_X4_bits u10 v4 v5 v6 v7).2; (v37, u38) else let v39 : Int32 := (f_X4_access u10 v4 v5 v6 v7).1; let u40 : MS := (f_X4_access u10 v4 v5 v6 v7).2; (v39, u40) else let v41 : Int32 := (f_X4_choose u10 v4 v5 v6 v7).1; let u42 : MS := (f_X4_choose u10 v4 v5 v6 v7).2; (v41, u42) else let v43 : Int32 := (f_X4_low u10 v4 v5 v6 v7).1; let u44 : MS := (f_X4_low u10 v4 v5 v6 v7).2; (v43, u44) else let v45 : Int32 := (f_X4_branch u10 v4 v5 (v3 &&& (65535 : Int32))).1; let u46 : MS := (f_X4_branch u10 v4 v5 (v3 &&& (65535 : Int32))).2; (v45, u46)) := ⟨_, rfl⟩
    have k15 : ∀ (v12 : Int32) (u13 : MS), (v12, u13) = z14 → ∀ (H : Heap) (locs : List Loc), va_P G vwCl (wM yy a u13) H → va_D A (wM yy a u13) → va_S A s.heap H locs → ∀ ls : Array Slot, lv_has ls 7 [(0, .ref (a 0)), (1, .int v3), (2, .int v4), (3, .int v5), (4, .int v6), (5, .int v7)] → W p l e rm_X4_step s m args below meth c H locs 0 0 (MQ below (gQi (wM yy a) (f_X4_step u) G A) args s 0 0 A) (F0 m 228 ls [.int v12]) := by
      intro v12 u13 jz14 H locs hP hD hS ls hl
      have ev12 : v12 = z14.1 := congrArg (fun q => q.1) jz14
      have eu13 : u13 = z14.2 := congrArg (fun q => q.2) jz14
      refine lv_istore (lv' := [(6, .int v12), (0, .ref (a 0)), (1, .int v3), (2, .int v4), (3, .int v5), (4, .int v6), (5, .int v7)]) hx hb dX4_step_228 hl (by decide) rfl (fun ls hl => ?_)
      refine lv_iload hx hb dX4_step_230 (lv_at hl 0 rfl) ?_
      refine lv_iconst (v := 2) hx hb dX4_step_232 (by decide) ?_
      refine lv_icmp_eq (tgt := 242) hx hb dX4_step_233 (by decide) (fun c47 => ?_) (fun c47 => ?_)
      · refine lv_iload hx hb dX4_step_242 (lv_at hl 0 rfl) ?_
        exact g_iret (by have eu13 := eu13.symm; subst eu13; have ev12 := ev12.symm; subst ev12; have ez14 := ez14.symm; subst ez14; have eu10 := eu10.symm; subst eu10; have eu9 := eu9.symm; subst eu9; have eu8 := eu8.symm; subst eu8; have ev7 := ev7.symm; subst ev7; have ev6 := ev6.symm; subst ev6; have ev5 := ev5.symm; subst ev5; have ev4 := ev4.symm; subst ev4; have ev3 := ev3.symm; subst ev3; have ev2 := ev2.symm; subst ev2; exact (if_pos c1).trans ((if_pos c47).trans (rfl))) hx hb hr hP hD hS hlocks dX4_step_244
      · refine lv_iload hx hb dX4_step_236 (lv_at hl 0 rfl) ?_
        refine lv_iconst (v := 3) hx hb dX4_step_238 (by decide) ?_
        refine lv_icmp_ne (tgt := 245) hx hb dX4_step_239 (by decide) (fun c48 => ?_) (fun c48 => ?_)
        · refine lv_aload_n hx hb dX4_step_245 rfl (lv_at hl 1 rfl) ?_
          refine va_get (D := G) (ci := 2) (v := .ref (a 3)) (C := RX4) (T := TX4) (N := 17) hx hb hts iw_X4_step_X4 hown hK hP 0 rfl rfl 3 (by decide) (hts (.fieldLink RX4 16 "MixBenchModel" "tallies" "[J") (by decide +kernel)) (fun _ h9 => h9) rfl dX4_step_246 ?_
          refine lv_iload_n hx hb dX4_step_249 rfl (lv_at hl 3 rfl) ?_
          refine lv_dup2_11 hx hb dX4_step_250 rfl rfl ?_
          refine va_lald hx hb hK hP 3 0 rfl rfl (by rw [ev4]; exact (in_opOf _)) dX4_step_251 ?_
          refine lv_lconst (v := 1) hx hb dX4_step_252 (by decide) ?_
          refine lv_ladd hx hb dX4_step_253 ?_
          refine va_last hx hb hK hP hD hS 3 0 rfl rfl (by rw [ev4]; exact (in_opOf _)) dX4_step_254 (fun H locs hP hD hS => ?_)
          obtain ⟨u49, eu49⟩ : ∃ z, z = sm_ta u13 (vp_updL (m_ta u13) v4.toNatClampNeg ((m_ta u13 v4.toNatClampNeg) + (1 : Int64))) := ⟨_, rfl⟩
          have hP : va_P G vwCl (wM yy a u49) H := by rw [eu49]; exact hP
          have hD : va_D A (wM yy a u49) := by rw [eu49]; exact hD
          refine lv_aload_n hx hb dX4_step_255 rfl (lv_at hl 1 rfl) ?_
          refine lv_aload_n hx hb dX4_step_256 rfl (lv_at hl 1 rfl) ?_
          refine va_get (D := G) (ci := 2) (v := .ref (a 3)) (C := RX4) (T := TX4) (N := 17) hx hb hts iw_X4_step_X4 hown hK hP 0 rfl rfl 3 (by decide) (hts (.fieldLink RX4 16 "MixBenchModel" "tallies" "[J") (by decide +kernel)) (fun _ h9 => h9) rfl dX4_step_257 ?_
          refine lv_iload_n hx hb dX4_step_260 rfl (lv_at hl 3 rfl) ?_
          refine va_lald hx hb hK hP 3 0 rfl rfl (by rw [ev4]; exact (in_opOf _)) dX4_step_261 ?_
          refine va_put (D := G) (ci := 2) (v := .long (m_ta u49 v4.toNatClampNeg)) (ty := .long) (C := RX4) (T := TX4) (N := 17) hx hb hts iw_X4_step_X4 tyX4 tyX4_ok nmX4 hown hK hP hD hS 0 rfl rfl 12 (by decide) (hts (.fieldLink RX4 201 "MixBenchModel" "last" "J") (by decide +kernel)) (fun _ h9 => h9) rfl (by decide +kernel) rfl rfl (Nat.le_of_ble_eq_true rfl) dX4_step_262 (fun H locs hP hD hS => ?_)
          obtain ⟨u50, eu50⟩ : ∃ z, z = sm_la u49 (m_ta u49 v4.toNatClampNeg) := ⟨_, rfl⟩
          have hP : va_P G vwCl (wM yy a u50) H := by rw [eu50]; exact hP
          have hD : va_D A (wM yy a u50) := by rw [eu50]; exact hD
          refine lv_aload_n hx hb dX4_step_265 rfl (lv_at hl 1 rfl) ?_
          refine lv_dup hx hb dX4_step_266 rfl ?_
          refine va_get (D := G) (ci := 2) (v := .long (m_oo u50)) (C := RX4) (T := TX4) (N := 17) hx hb hts iw_X4_step_X4 hown hK hP 0 rfl rfl 9 (by decide) (hts (.fieldLink RX4 204 "MixBenchModel" "oops" "J") (by decide +kernel)) (fun _ h9 => h9) rfl dX4_step_267 ?_
          refine lv_iload_n hx hb dX4_step_270 rfl (lv_at hl 3 rfl) ?_
          refine lv_bipush (v := 24) hx hb dX4_step_271 (by decide) ?_
          obtain ⟨z53, ez53⟩ : ∃ q : Int64, q = (if v4 < (24 : Int32) then if v4 < (28 : Int32) then if v4 = (158 : Int32) then (3 : Int64) else if v4 = (159 : Int32) then (3 : Int64) else if v4 = (0 : Int32) then (5 : Int64) else if (m_lt u50) = (0 : Int32) then (1 : Int64) else (3 : Int64) else if (32 : Int32) ≤ v4 then if v4 = (158 : Int32) then (3 : Int64) else if v4 = (159 : Int32) then (3 : Int64) else if v4 = (0 : Int32) then (5 : Int64) else if (m_lt u50) = (0 : Int32) then (1 : Int64) else (3 : Int64) else (60 : Int64) else if (28 : Int32) ≤ v4 then if v4 < (28 : Int32) then if v4 = (158 : Int32) then (3 : Int64) else if v4 = (159 : Int32) then (3 : Int64) else if v4 = (0 : Int32) then (5 : Int64) else if (m_lt u50) = (0 : Int32) then (1 : Int64) else (3 : Int64) else if (32 : Int32) ≤ v4 then if v4 = (158 : Int32) then (3 : Int64) else if v4 = (159 : Int32) then (3 : Int64) else if v4 = (0 : Int32) then (5 : Int64) else if (m_lt u50) = (0 : Int32) then (1 : Int64) else (3 : Int64) else (60 : Int64) else (10 : Int64)) := ⟨_, rfl⟩
          have k54 : ∀ (v52 : Int64), v52 = z53 → ∀ (H : Heap) (locs : List Loc), va_P G vwCl (wM yy a u50) H → va_D A (wM yy a u50) → va_S A s.heap H locs → ∀ ls : Array Slot, lv_has ls 7 [(0, .ref (a 0)), (1, .int v3), (2, .int v4), (3, .int v5), (4, .int v6), (5, .int v7), (6, .int v12)] → W p l e rm_X4_step s m args below meth c H locs 0 0 (MQ below (gQi (wM yy a) (f_X4_step u) G A) args s 0 0 A) (F0 m 350 ls [.long v52, .long (m_oo u50), .ref (a 0)]) := by
            intro v52 jz53 H locs hP hD hS ls hl
            have ev52 : v52 = z53 := jz53
            refine lv_ladd hx hb dX4_step_350 ?_
            refine va_put (D := G) (ci := 2) (v := .long ((m_oo u50) + v52)) (ty := .long) (C := RX4) (T := TX4) (N := 17) hx hb hts iw_X4_step_X4 tyX4 tyX4_ok nmX4 hown hK hP hD hS 0 rfl rfl 9 (by decide) (hts (.fieldLink RX4 204 "MixBenchModel" "oops" "J") (by decide +kernel)) (fun _ h9 => h9) rfl (by decide +kernel) rfl rfl (Nat.le_of_ble_eq_true rfl) dX4_step_351 (fun H locs hP hD hS => ?_)
            obtain ⟨u76, eu76⟩ : ∃ z, z = sm_oo u50 ((m_oo u50) + v52) := ⟨_, rfl⟩
            have hP : va_P G vwCl (wM yy a u76) H := by rw [eu76]; exact hP
            have hD : va_D A (wM yy a u76) := by rw [eu76]; exact hD
            refine lv_iload hx hb dX4_step_354 (lv_at hl 6 rfl) ?_
            exact g_iret (by have eu76 := eu76.symm; subst eu76; have ev52 := ev52.symm; subst ev52; have ez53 := ez53.symm; subst ez53; have eu50 := eu50.symm; subst eu50; have eu49 := eu49.symm; subst eu49; have eu13 := eu13.symm; subst eu13; have ev12 := ev12.symm; subst ev12; have ez14 := ez14.symm; subst ez14; have eu10 := eu10.symm; subst eu10; have eu9 := eu9.symm; subst eu9; have eu8 := eu8.symm; subst eu8; have ev7 := ev7.symm; subst ev7; have ev6 := ev6.symm; subst ev6; have ev5 := ev5.symm; subst ev5; have ev4 := ev4.symm; subst ev4; have ev3 := ev3.symm; subst ev3; have ev2 := ev2.symm; subst ev2; exact (if_pos c1).trans ((if_neg c47).trans ((if_neg c48).trans (rfl)))) hx hb hr hP hD hS hlocks dX4_step_356
          refine lv_icmp_lt (tgt := 288) hx hb dX4_step_273 (by decide) (fun c51 => ?_) (fun c51 => ?_)
          · refine lv_iload_n hx hb dX4_step_288 rfl (lv_at hl 3 rfl) ?_
            refine lv_bipush (v := 28) hx hb dX4_step_289 (by decide) ?_
            refine lv_icmp_lt (tgt := 306) hx hb dX4_step_291 (by decide) (fun c55 => ?_) (fun c55 => ?_)
            · refine lv_iload_n hx hb dX4_step_306 rfl (lv_at hl 3 rfl) ?_
              refine lv_sipush (v := 158) hx hb dX4_step_307 (by decide) ?_
              refine lv_icmp_eq (tgt := 320) hx hb dX4_step_310 (by decide) (fun c56 => ?_) (fun c56 => ?_)
              · refine lv_ldc2 hx hb hown (hts (.constantLong RX4 211 (3)) (by decide +kernel)) dX4_step_320 ?_
                refine lv_goto (tgt := 350) hx hb dX4_step_323 (by decide) ?_
                exact k54 (3 : Int64) (ez53.trans (by exact (if_pos c51).trans ((if_pos c55).trans ((if_pos c56).trans (rfl))))).symm _ _ hP hD hS ls (lv_sub hl [1, 2, 3, 4, 5, 6, 0] rfl)
              · refine lv_iload_n hx hb dX4_step_313 rfl (lv_at hl 3 rfl) ?_
                refine lv_sipush (v := 159) hx hb dX4_step_314 (by decide) ?_
                refine lv_icmp_ne (tgt := 326) hx hb dX4_step_317 (by decide) (fun c57 => ?_) (fun c57 => ?_)
                · refine lv_iload_n hx hb dX4_step_326 rfl (lv_at hl 3 rfl) ?_
                  refine lv_if_ne (tgt := 336) hx hb dX4_step_327 (by decide) (fun c58 => ?_) (fun c58 => ?_)
                  · refine lv_aload_n hx hb dX4_step_336 rfl (lv_at hl 1 rfl) ?_
                    refine va_get (D := G) (ci := 2) (v := .int (m_lt u50)) (C := RX4) (T := TX4) (N := 17) hx hb hts iw_X4_step_X4 hown hK hP 0 rfl rfl 16 (by decide) (hts (.fieldLink RX4 215 "MixBenchModel" "late" "Z") (by decide +kernel)) (fun _ h9 => h9) rfl dX4_step_337 ?_
                    refine lv_if_eq (tgt := 349) hx hb dX4_step_340 (by decide) (fun c59 => ?_) (fun c59 => ?_)
                    · refine lv_lconst (v := 1) hx hb dX4_step_349 (by decide) ?_
                      exact k54 (1 : Int64) (ez53.trans (by exact (if_pos c51).trans ((if_pos c55).trans ((if_neg c56).trans ((if_neg c57).trans ((if_neg c58).trans ((if_pos c59).trans (rfl)))))))).symm _ _ hP hD hS ls (lv_sub hl [1, 2, 3, 4, 5, 6, 0] rfl)
                    · refine lv_ldc2 hx hb hown (hts (.constantLong RX4 211 (3)) (by decide +kernel)) dX4_step_343 ?_
                      refine lv_goto (tgt := 350) hx hb dX4_step_346 (by decide) ?_
                      exact k54 (3 : Int64) (ez53.trans (by exact (if_pos c51).trans ((if_pos c55).trans ((if_neg c56).trans ((if_neg c57).trans ((if_neg c58).trans ((if_neg c59).trans (rfl)))))))).symm _ _ hP hD hS ls (lv_sub hl [1, 2, 3, 4, 5, 6, 0] rfl)
                  · refine lv_ldc2 hx hb hown (hts (.constantLong RX4 213 (5)) (by decide +kernel)) dX4_step_330 ?_
                    refine lv_goto (tgt := 350) hx hb dX4_step_333 (by decide) ?_
                    exact k54 (5 : Int64) (ez53.trans (by exact (if_pos c51).trans ((if_pos c55).trans ((if_neg c56).trans ((if_neg c57).trans ((if_pos c58).trans (rfl))))))).symm _ _ hP hD hS ls (lv_sub hl [1, 2, 3, 4, 5, 6, 0] rfl)
                · refine lv_ldc2 hx hb hown (hts (.constantLong RX4 211 (3)) (by decide +kernel)) dX4_step_320 ?_
                  refine lv_goto (tgt := 350) hx hb dX4_step_323 (by decide) ?_
                  exact k54 (3 : Int64) (ez53.trans (by exact (if_pos c51).trans ((if_pos c55).trans ((if_neg c56).trans ((if_pos c57).trans (rfl)))))).symm _ _ hP hD hS ls (lv_sub hl [1, 2, 3, 4, 5, 6, 0] rfl)
            · refine lv_iload_n hx hb dX4_step_294 rfl (lv_at hl 3 rfl) ?_
              refine lv_bipush (v := 32) hx hb dX4_step_295 (by decide) ?_
              refine lv_icmp_ge (tgt := 306) hx hb dX4_step_297 (by decide) (fun c60 => ?_) (fun c60 => ?_)
              · refine lv_iload_n hx hb dX4_step_306 rfl (lv_at hl 3 rfl) ?_
                refine lv_sipush (v := 158) hx hb dX4_step_307 (by decide) ?_
                refine lv_icmp_eq (tgt := 320) hx hb dX4_step_310 (by decide) (fun c61 => ?_) (fun c61 => ?_)
                · refine lv_ldc2 hx hb hown (hts (.constantLong RX4 211 (3)) (by decide +kernel)) dX4_step_320 ?_
                  refine lv_goto (tgt := 350) hx hb dX4_step_323 (by decide) ?_
                  exact k54 (3 : Int64) (ez53.trans (by exact (if_pos c51).trans ((if_neg c55).trans ((if_pos c60).trans ((if_pos c61).trans (rfl)))))).symm _ _ hP hD hS ls (lv_sub hl [1, 2, 3, 4, 5, 6, 0] rfl)
                · refine lv_iload_n hx hb dX4_step_313 rfl (lv_at hl 3 rfl) ?_
                  refine lv_sipush (v := 159) hx hb dX4_step_314 (by decide) ?_
                  refine lv_icmp_ne (tgt := 326) hx hb dX4_step_317 (by decide) (fun c62 => ?_) (fun c62 => ?_)
                  · refine lv_iload_n hx hb dX4_step_326 rfl (lv_at hl 3 rfl) ?_
                    refine lv_if_ne (tgt := 336) hx hb dX4_step_327 (by decide) (fun c63 => ?_) (fun c63 => ?_)
                    · refine lv_aload_n hx hb dX4_step_336 rfl (lv_at hl 1 rfl) ?_
                      refine va_get (D := G) (ci := 2) (v := .int (m_lt u50)) (C := RX4) (T := TX4) (N := 17) hx hb hts iw_X4_step_X4 hown hK hP 0 rfl rfl 16 (by decide) (hts (.fieldLink RX4 215 "MixBenchModel" "late" "Z") (by decide +kernel)) (fun _ h9 => h9) rfl dX4_step_337 ?_
                      refine lv_if_eq (tgt := 349) hx hb dX4_step_340 (by decide) (fun c64 => ?_) (fun c64 => ?_)
                      · refine lv_lconst (v := 1) hx hb dX4_step_349 (by decide) ?_
                        exact k54 (1 : Int64) (ez53.trans (by exact (if_pos c51).trans ((if_neg c55).trans ((if_pos c60).trans ((if_neg c61).trans ((if_neg c62).trans ((if_neg c63).trans ((if_pos c64).trans (rfl))))))))).symm _ _ hP hD hS ls (lv_sub hl [1, 2, 3, 4, 5, 6, 0] rfl)
                      · refine lv_ldc2 hx hb hown (hts (.constantLong RX4 211 (3)) (by decide +kernel)) dX4_step_343 ?_
                        refine lv_goto (tgt := 350) hx hb dX4_step_346 (by decide) ?_
                        exact k54 (3 : Int64) (ez53.trans (by exact (if_pos c51).trans ((if_neg c55).trans ((if_pos c60).trans ((if_neg c61).trans ((if_neg c62).trans ((if_neg c63).trans ((if_neg c64).trans (rfl))))))))).symm _ _ hP hD hS ls (lv_sub hl [1, 2, 3, 4, 5, 6, 0] rfl)
                    · refine lv_ldc2 hx hb hown (hts (.constantLong RX4 213 (5)) (by decide +kernel)) dX4_step_330 ?_
                      refine lv_goto (tgt := 350) hx hb dX4_step_333 (by decide) ?_
                      exact k54 (5 : Int64) (ez53.trans (by exact (if_pos c51).trans ((if_neg c55).trans ((if_pos c60).trans ((if_neg c61).trans ((if_neg c62).trans ((if_pos c63).trans (rfl)))))))).symm _ _ hP hD hS ls (lv_sub hl [1, 2, 3, 4, 5, 6, 0] rfl)
                  · refine lv_ldc2 hx hb hown (hts (.constantLong RX4 211 (3)) (by decide +kernel)) dX4_step_320 ?_
                    refine lv_goto (tgt := 350) hx hb dX4_step_323 (by decide) ?_
                    exact k54 (3 : Int64) (ez53.trans (by exact (if_pos c51).trans ((if_neg c55).trans ((if_pos c60).trans ((if_neg c61).trans ((if_pos c62).trans (rfl))))))).symm _ _ hP hD hS ls (lv_sub hl [1, 2, 3, 4, 5, 6, 0] rfl)
              · refine lv_ldc2 hx hb hown (hts (.constantLong RX4 209 (60)) (by decide +kernel)) dX4_step_300 ?_
                refine lv_goto (tgt := 350) hx hb dX4_step_303 (by decide) ?_
                exact k54 (60 : Int64) (ez53.trans (by exact (if_pos c51).trans ((if_neg c55).trans ((if_neg c60).trans (rfl))))).symm _ _ hP hD hS ls (lv_sub hl [1, 2, 3, 4, 5, 6, 0] rfl)
          · refine lv_iload_n hx hb dX4_step_276 rfl (lv_at hl 3 rfl) ?_
            refine lv_bipush (v := 28) hx hb dX4_step_277 (by decide) ?_
            refine lv_icmp_ge (tgt := 288) hx hb dX4_step_279 (by decide) (fun c65 => ?_) (fun c65 => ?_)
            · refine lv_iload_n hx hb dX4_step_288 rfl (lv_at hl 3 rfl) ?_
              refine lv_bipush (v := 28) hx hb dX4_step_289 (by decide) ?_
              refine lv_icmp_lt (tgt := 306) hx hb dX4_step_291 (by decide) (fun c66 => ?_) (fun c66 => ?_)
              · refine lv_iload_n hx hb dX4_step_306 rfl (lv_at hl 3 rfl) ?_
                refine lv_sipush (v := 158) hx hb dX4_step_307 (by decide) ?_
                refine lv_icmp_eq (tgt := 320) hx hb dX4_step_310 (by decide) (fun c67 => ?_) (fun c67 => ?_)
                · refine lv_ldc2 hx hb hown (hts (.constantLong RX4 211 (3)) (by decide +kernel)) dX4_step_320 ?_
                  refine lv_goto (tgt := 350) hx hb dX4_step_323 (by decide) ?_
                  exact k54 (3 : Int64) (ez53.trans (by exact (if_neg c51).trans ((if_pos c65).trans ((if_pos c66).trans ((if_pos c67).trans (rfl)))))).symm _ _ hP hD hS ls (lv_sub hl [1, 2, 3, 4, 5, 6, 0] rfl)
                · refine lv_iload_n hx hb dX4_step_313 rfl (lv_at hl 3 rfl) ?_
                  refine lv_sipush (v := 159) hx hb dX4_step_314 (by decide) ?_
                  refine lv_icmp_ne (tgt := 326) hx hb dX4_step_317 (by decide) (fun c68 => ?_) (fun c68 => ?_)
                  · refine lv_iload_n hx hb dX4_step_326 rfl (lv_at hl 3 rfl) ?_
                    refine lv_if_ne (tgt := 336) hx hb dX4_step_327 (by decide) (fun c69 => ?_) (fun c69 => ?_)
                    · refine lv_aload_n hx hb dX4_step_336 rfl (lv_at hl 1 rfl) ?_
                      refine va_get (D := G) (ci := 2) (v := .int (m_lt u50)) (C := RX4) (T := TX4) (N := 17) hx hb hts iw_X4_step_X4 hown hK hP 0 rfl rfl 16 (by decide) (hts (.fieldLink RX4 215 "MixBenchModel" "late" "Z") (by decide +kernel)) (fun _ h9 => h9) rfl dX4_step_337 ?_
                      refine lv_if_eq (tgt := 349) hx hb dX4_step_340 (by decide) (fun c70 => ?_) (fun c70 => ?_)
                      · refine lv_lconst (v := 1) hx hb dX4_step_349 (by decide) ?_
                        exact k54 (1 : Int64) (ez53.trans (by exact (if_neg c51).trans ((if_pos c65).trans ((if_pos c66).trans ((if_neg c67).trans ((if_neg c68).trans ((if_neg c69).trans ((if_pos c70).trans (rfl))))))))).symm _ _ hP hD hS ls (lv_sub hl [1, 2, 3, 4, 5, 6, 0] rfl)
                      · refine lv_ldc2 hx hb hown (hts (.constantLong RX4 211 (3)) (by decide +kernel)) dX4_step_343 ?_
                        refine lv_goto (tgt := 350) hx hb dX4_step_346 (by decide) ?_
                        exact k54 (3 : Int64) (ez53.trans (by exact (if_neg c51).trans ((if_pos c65).trans ((if_pos c66).trans ((if_neg c67).trans ((if_neg c68).trans ((if_neg c69).trans ((if_neg c70).trans (rfl))))))))).symm _ _ hP hD hS ls (lv_sub hl [1, 2, 3, 4, 5, 6, 0] rfl)
                    · refine lv_ldc2 hx hb hown (hts (.constantLong RX4 213 (5)) (by decide +kernel)) dX4_step_330 ?_
                      refine lv_goto (tgt := 350) hx hb dX4_step_333 (by decide) ?_
                      exact k54 (5 : Int64) (ez53.trans (by exact (if_neg c51).trans ((if_pos c65).trans ((if_pos c66).trans ((if_neg c67).trans ((if_neg c68).trans ((if_pos c69).trans (rfl)))))))).symm _ _ hP hD hS ls (lv_sub hl [1, 2, 3, 4, 5, 6, 0] rfl)
                  · refine lv_ldc2 hx hb hown (hts (.constantLong RX4 211 (3)) (by decide +kernel)) dX4_step_320 ?_
                    refine lv_goto (tgt := 350) hx hb dX4_step_323 (by decide) ?_
                    exact k54 (3 : Int64) (ez53.trans (by exact (if_neg c51).trans ((if_pos c65).trans ((if_pos c66).trans ((if_neg c67).trans ((if_pos c68).trans (rfl))))))).symm _ _ hP hD hS ls (lv_sub hl [1, 2, 3, 4, 5, 6, 0] rfl)
              · refine lv_iload_n hx hb dX4_step_294 rfl (lv_at hl 3 rfl) ?_
                refine lv_bipush (v := 32) hx hb dX4_step_295 (by decide) ?_
                refine lv_icmp_ge (tgt := 306) hx hb dX4_step_297 (by decide) (fun c71 => ?_) (fun c71 => ?_)
                · refine lv_iload_n hx hb dX4_step_306 rfl (lv_at hl 3 rfl) ?_
                  refine lv_sipush (v := 158) hx hb dX4_step_307 (by decide) ?_
                  refine lv_icmp_eq (tgt := 320) hx hb dX4_step_310 (by decide) (fun c72 => ?_) (fun c72 => ?_)
                  · refine lv_ldc2 hx hb hown (hts (.constantLong RX4 211 (3)) (by decide +kernel)) dX4_step_320 ?_
                    refine lv_goto (tgt := 350) hx hb dX4_step_323 (by decide) ?_
                    exact k54 (3 : Int64) (ez53.trans (by exact (if_neg c51).trans ((if_pos c65).trans ((if_neg c66).trans ((if_pos c71).trans ((if_pos c72).trans (rfl))))))).symm _ _ hP hD hS ls (lv_sub hl [1, 2, 3, 4, 5, 6, 0] rfl)
                  · refine lv_iload_n hx hb dX4_step_313 rfl (lv_at hl 3 rfl) ?_
                    refine lv_sipush (v := 159) hx hb dX4_step_314 (by decide) ?_
                    refine lv_icmp_ne (tgt := 326) hx hb dX4_step_317 (by decide) (fun c73 => ?_) (fun c73 => ?_)
                    · refine lv_iload_n hx hb dX4_step_326 rfl (lv_at hl 3 rfl) ?_
                      refine lv_if_ne (tgt := 336) hx hb dX4_step_327 (by decide) (fun c74 => ?_) (fun c74 => ?_)
                      · refine lv_aload_n hx hb dX4_step_336 rfl (lv_at hl 1 rfl) ?_
                        refine va_get (D := G) (ci := 2) (v := .int (m_lt u50)) (C := RX4) (T := TX4) (N := 17) hx hb hts iw_X4_step_X4 hown hK hP 0 rfl rfl 16 (by decide) (hts (.fieldLink RX4 215 "MixBenchModel" "late" "Z") (by decide +kernel)) (fun _ h9 => h9) rfl dX4_step_337 ?_
                        refine lv_if_eq (tgt := 349) hx hb dX4_step_340 (by decide) (fun c75 => ?_) (fun c75 => ?_)
                        · refine lv_lconst (v := 1) hx hb dX4_step_349 (by decide) ?_
                          exact k54 (1 : Int64) (ez53.trans (by exact (if_neg c51).trans ((if_pos c65).trans ((if_neg c66).trans ((if_pos c71).trans ((if_neg c72).trans ((if_neg c73).trans ((if_neg c74).trans ((if_pos c75).trans (rfl)))))))))).symm _ _ hP hD hS ls (lv_sub hl [1, 2, 3, 4, 5, 6, 0] rfl)
                        · refine lv_ldc2 hx hb hown (hts (.constantLong RX4 211 (3)) (by decide +kernel)) dX4_step_343 ?_
                          refine lv_goto (tgt := 350) hx hb dX4_step_346 (by decide) ?_
                          exact k54 (3 : Int64) (ez53.trans (by exact (if_neg c51).trans ((if_pos c65).trans ((if_neg c66).trans ((if_pos c71).trans ((if_neg c72).trans ((if_neg c73).trans ((if_neg c74).trans ((if_neg c75).trans (rfl)))))))))).symm _ _ hP hD hS ls (lv_sub hl [1, 2, 3, 4, 5, 6, 0] rfl)
                      · refine lv_ldc2 hx hb hown (hts (.constantLong RX4 213 (5)) (by decide +kernel)) dX4_step_330 ?_
                        refine lv_goto (tgt := 350) hx hb dX4_step_333 (by decide) ?_
                        exact k54 (5 : Int64) (ez53.trans (by exact (if_neg c51).trans ((if_pos c65).trans ((if_neg c66).trans ((if_pos c71).trans ((if_neg c72).trans ((if_neg c73).trans ((if_pos c74).trans (rfl))))))))).symm _ _ hP hD hS ls (lv_sub hl [1, 2, 3, 4, 5, 6, 0] rfl)
                    · refine lv_ldc2 hx hb hown (hts (.constantLong RX4 211 (3)) (by decide +kernel)) dX4_step_320 ?_
                      refine lv_goto (tgt := 350) hx hb dX4_step_323 (by decide) ?_
                      exact k54 (3 : Int64) (ez53.trans (by exact (if_neg c51).trans ((if_pos c65).trans ((if_neg c66).trans ((if_pos c71).trans ((if_neg c72).trans ((if_pos c73).trans (rfl)))))))).symm _ _ hP hD hS ls (lv_sub hl [1, 2, 3, 4, 5, 6, 0] rfl)
                · refine lv_ldc2 hx hb hown (hts (.constantLong RX4 209 (60)) (by decide +kernel)) dX4_step_300 ?_
                  refine lv_goto (tgt := 350) hx hb dX4_step_303 (by decide) ?_
                  exact k54 (60 : Int64) (ez53.trans (by exact (if_neg c51).trans ((if_pos c65).trans ((if_neg c66).trans ((if_neg c71).trans (rfl)))))).symm _ _ hP hD hS ls (lv_sub hl [1, 2, 3, 4, 5, 6, 0] rfl)
            · refine lv_ldc2 hx hb hown (hts (.constantLong RX4 207 (10)) (by decide +kernel)) dX4_step_282 ?_
              refine lv_goto (tgt := 350) hx hb dX4_step_285 (by decide) ?_
              exact k54 (10 : Int64) (ez53.trans (by exact (if_neg c51).trans ((if_neg c65).trans (rfl)))).symm _ _ hP hD hS ls (lv_sub hl [1, 2, 3, 4, 5, 6, 0] rfl)
        · refine lv_iload hx hb dX4_step_242 (lv_at hl 0 rfl) ?_
          exact g_iret (by have eu13 := eu13.symm; subst eu13; have ev12 := ev12.symm; subst ev12; have ez14 := ez14.symm; subst ez14; have eu10 := eu10.symm; subst eu10; have eu9 := eu9.symm; subst eu9; have eu8 := eu8.symm; subst eu8; have ev7 := ev7.symm; subst ev7; have ev6 := ev6.symm; subst ev6; have ev5 := ev5.symm; subst ev5; have ev4 := ev4.symm; subst ev4; have ev3 := ev3.symm; subst ev3; have ev2 := ev2.symm; subst ev2; exact (if_pos c1).trans ((if_neg c47).trans ((if_pos c48).trans (rfl)))) hx hb hr hP hD hS hlocks dX4_step_244
    refine lv_icmp_lt (tgt := 138) hx hb dX4_step_116 (by decide) (fun c11 => ?_) (fun c11 => ?_)
    · refine lv_iload_n hx hb dX4_step_138 rfl (lv_at hl 3 rfl) ?_
      refine lv_bipush (v := 64) hx hb dX4_step_139 (by decide) ?_
      refine lv_icmp_ge (tgt := 157) hx hb dX4_step_141 (by decide) (fun c16 => ?_) (fun c16 => ?_)
      · refine lv_iload_n hx hb dX4_step_157 rfl (lv_at hl 3 rfl) ?_
        refine lv_sipush (v := 128) hx hb dX4_step_158 (by decide) ?_
        refine lv_icmp_ge (tgt := 177) hx hb dX4_step_161 (by decide) (fun c17 => ?_) (fun c17 => ?_)
        · refine lv_iload_n hx hb dX4_step_177 rfl (lv_at hl 3 rfl) ?_
          refine lv_sipush (v := 192) hx hb dX4_step_178 (by decide) ?_
          refine lv_icmp_ge (tgt := 197) hx hb dX4_step_181 (by decide) (fun c18 => ?_) (fun c18 => ?_)
          · refine lv_iload_n hx hb dX4_step_197 rfl (lv_at hl 3 rfl) ?_
            refine lv_sipush (v := 224) hx hb dX4_step_198 (by decide) ?_
            refine lv_icmp_ge (tgt := 217) hx hb dX4_step_201 (by decide) (fun c19 => ?_) (fun c19 => ?_)
            · refine lv_aload_n hx hb dX4_step_217 rfl (lv_at hl 5 rfl) ?_
              refine lv_iload_n hx hb dX4_step_218 rfl (lv_at hl 3 rfl) ?_
              refine lv_iload_n hx hb dX4_step_219 rfl (lv_at hl 2 rfl) ?_
              refine lv_iload hx hb dX4_step_220 (lv_at hl 1 rfl) ?_
              refine lv_iload hx hb dX4_step_222 (lv_at hl 0 rfl) ?_
              refine lv_iload_n hx hb dX4_step_224 rfl (lv_at hl 4 rfl) ?_
              refine g_i (va_runV (As := [.int v4, .int v5, .int v6, .int v7, .int v3]) (rest := []) ⟨hx, hb, hml, hown, hts⟩ (c_X4_high l yy a u10 v4 v5 v6 v7 v3 ((by rw [ev5]; exact (in_and255 _))) ((by rw [ev6]; exact (in_and255 _))) ((by rw [ev7]; exact (in_and255 _))) G H.size) (cwV 5 hts gX4_step_X4_high rfl rfl rfl (by decide +kernel) ⟨Nat.le_of_ble_eq_true rfl, Nat.le_of_ble_eq_true rfl⟩) (g_preV eTrue_bl hK hE hP hD hS hA 0 rfl rfl) rfl rfl hl.1 rfl (lv_room (Nat.le_of_ble_eq_true rfl)) dX4_step_225 ⟨Nat.le_of_ble_eq_true rfl, Nat.le_of_ble_eq_true rfl⟩) hD hS hA (fun H locs hP hD hS => ?_)
              refine lv_topi (fun v20 ev20 => ?_)
              obtain ⟨u21, eu21⟩ : ∃ z, z = (f_X4_high u10 v4 v5 v6 v7 v3).2 := ⟨_, rfl⟩
              have hP : va_P G vwCl (wM yy a u21) H := by rw [eu21]; exact hP
              have hD : va_D A (wM yy a u21) := by rw [eu21]; exact hD
              exact k15 v20 u21 (ez14.trans (by have eu21 := eu21.symm; subst eu21; have ev20 := ev20.symm; subst ev20; exact (if_pos c11).trans ((if_pos c16).trans ((if_pos c17).trans ((if_pos c18).trans ((if_pos c19).trans (rfl))))))).symm _ _ hP hD hS ls (lv_sub hl [5, 4, 3, 2, 1, 0] rfl)
            · refine lv_aload_n hx hb dX4_step_204 rfl (lv_at hl 5 rfl) ?_
              refine lv_iload_n hx hb dX4_step_205 rfl (lv_at hl 3 rfl) ?_
              refine lv_iload_n hx hb dX4_step_206 rfl (lv_at hl 2 rfl) ?_
              refine lv_iload hx hb dX4_step_207 (lv_at hl 1 rfl) ?_
              refine lv_iload hx hb dX4_step_209 (lv_at hl 0 rfl) ?_
              refine g_i (va_runV (As := [.int v4, .int v5, .int v6, .int v7]) (rest := []) ⟨hx, hb, hml, hown, hts⟩ (c_X4_bits l yy a u10 v4 v5 v6 v7 ((by rw [ev5]; exact (in_and255 _))) ((by rw [ev6]; exact (in_and255 _))) ((by rw [ev7]; exact (in_and255 _))) G H.size) (cwV 4 hts gX4_step_X4_bits rfl rfl rfl (by decide +kernel) ⟨Nat.le_of_ble_eq_true rfl, Nat.le_of_ble_eq_true rfl⟩) (g_preV eTrue_bl hK hE hP hD hS hA 0 rfl rfl) rfl rfl hl.1 rfl (lv_room (Nat.le_of_ble_eq_true rfl)) dX4_step_211 ⟨Nat.le_of_ble_eq_true rfl, Nat.le_of_ble_eq_true rfl⟩) hD hS hA (fun H locs hP hD hS => ?_)
              refine lv_topi (fun v22 ev22 => ?_)
              obtain ⟨u23, eu23⟩ : ∃ z, z = (f_X4_bits u10 v4 v5 v6 v7).2 := ⟨_, rfl⟩
              have hP : va_P G vwCl (wM yy a u23) H := by rw [eu23]; exact hP
              have hD : va_D A (wM yy a u23) := by rw [eu23]; exact hD
              refine lv_goto (tgt := 228) hx hb dX4_step_214 (by decide) ?_
              exact k15 v22 u23 (ez14.trans (by have eu23 := eu23.symm; subst eu23; have ev22 := ev22.symm; subst ev22; exact (if_pos c11).trans ((if_pos c16).trans ((if_pos c17).trans ((if_pos c18).trans ((if_neg c19).trans (rfl))))))).symm _ _ hP hD hS ls (lv_sub hl [5, 4, 3, 2, 1, 0] rfl)
          · refine lv_aload_n hx hb dX4_step_184 rfl (lv_at hl 5 rfl) ?_
            refine lv_iload_n hx hb dX4_step_185 rfl (lv_at hl 3 rfl) ?_
            refine lv_iload_n hx hb dX4_step_186 rfl (lv_at hl 2 rfl) ?_
            refine lv_iload hx hb dX4_step_187 (lv_at hl 1 rfl) ?_
            refine lv_iload hx hb dX4_step_189 (lv_at hl 0 rfl) ?_
            refine g_i (va_runV (As := [.int v4, .int v5, .int v6, .int v7]) (rest := []) ⟨hx, hb, hml, hown, hts⟩ (c_X4_access l yy a u10 v4 v5 v6 v7 ((by rw [ev5]; exact (in_and255 _))) ((by rw [ev6]; exact (in_and255 _))) ((by rw [ev7]; exact (in_and255 _))) G H.size) (cwV 4 hts gX4_step_X4_access rfl rfl rfl (by decide +kernel) ⟨Nat.le_of_ble_eq_true rfl, Nat.le_of_ble_eq_true rfl⟩) (g_preV eTrue_bl hK hE hP hD hS hA 0 rfl rfl) rfl rfl hl.1 rfl (lv_room (Nat.le_of_ble_eq_true rfl)) dX4_step_191 ⟨Nat.le_of_ble_eq_true rfl, Nat.le_of_ble_eq_true rfl⟩) hD hS hA (fun H locs hP hD hS => ?_)
            refine lv_topi (fun v24 ev24 => ?_)
            obtain ⟨u25, eu25⟩ : ∃ z, z = (f_X4_access u10 v4 v5 v6 v7).2 := ⟨_, rfl⟩
            have hP : va_P G vwCl (wM yy a u25) H := by rw [eu25]; exact hP
            have hD : va_D A (wM yy a u25) := by rw [eu25]; exact hD
            refine lv_goto (tgt := 228) hx hb dX4_step_194 (by decide) ?_
            exact k15 v24 u25 (ez14.trans (by have eu25 := eu25.symm; subst eu25; have ev24 := ev24.symm; subst ev24; exact (if_pos c11).trans ((if_pos c16).trans ((if_pos c17).trans ((if_neg c18).trans (rfl)))))).symm _ _ hP hD hS ls (lv_sub hl [5, 4, 3, 2, 1, 0] rfl)
        · refine lv_aload_n hx hb dX4_step_164 rfl (lv_at hl 5 rfl) ?_
          refine lv_iload_n hx hb dX4_step_165 rfl (lv_at hl 3 rfl) ?_
          refine lv_iload_n hx hb dX4_step_166 rfl (lv_at hl 2 rfl) ?_
          refine lv_iload hx hb dX4_step_167 (lv_at hl 1 rfl) ?_
          refine lv_iload hx hb dX4_step_169 (lv_at hl 0 rfl) ?_
          refine g_i (va_runV (As := [.int v4, .int v5, .int v6, .int v7]) (rest := []) ⟨hx, hb, hml, hown, hts⟩ (c_X4_choose l yy a u10 v4 v5 v6 v7 ((by rw [ev5]; exact (in_and255 _))) ((by rw [ev6]; exact (in_and255 _))) ((by rw [ev7]; exact (in_and255 _))) G H.size) (cwV 4 hts gX4_step_X4_choose rfl rfl rfl (by decide +kernel) ⟨Nat.le_of_ble_eq_true rfl, Nat.le_of_ble_eq_true rfl⟩) (g_preV eTrue_bl hK hE hP hD hS hA 0 rfl rfl) rfl rfl hl.1 rfl (lv_room (Nat.le_of_ble_eq_true rfl)) dX4_step_171 ⟨Nat.le_of_ble_eq_true rfl, Nat.le_of_ble_eq_true rfl⟩) hD hS hA (fun H locs hP hD hS => ?_)
          refine lv_topi (fun v26 ev26 => ?_)
          obtain ⟨u27, eu27⟩ : ∃ z, z = (f_X4_choose u10 v4 v5 v6 v7).2 := ⟨_, rfl⟩
          have hP : va_P G vwCl (wM yy a u27) H := by rw [eu27]; exact hP
          have hD : va_D A (wM yy a u27) := by rw [eu27]; exact hD
          refine lv_goto (tgt := 228) hx hb dX4_step_174 (by decide) ?_
          exact k15 v26 u27 (ez14.trans (by have eu27 := eu27.symm; subst eu27; have ev26 := ev26.symm; subst ev26; exact (if_pos c11).trans ((if_pos c16).trans ((if_neg c17).trans (rfl))))).symm _ _ hP hD hS ls (lv_sub hl [5, 4, 3, 2, 1, 0] rfl)
      · refine lv_aload_n hx hb dX4_step_144 rfl (lv_at hl 5 rfl) ?_
        refine lv_iload_n hx hb dX4_step_145 rfl (lv_at hl 3 rfl) ?_
        refine lv_iload_n hx hb dX4_step_146 rfl (lv_at hl 2 rfl) ?_
        refine lv_iload hx hb dX4_step_147 (lv_at hl 1 rfl) ?_
        refine lv_iload hx hb dX4_step_149 (lv_at hl 0 rfl) ?_
        refine g_i (va_runV (As := [.int v4, .int v5, .int v6, .int v7]) (rest := []) ⟨hx, hb, hml, hown, hts⟩ (c_X4_low l yy a u10 v4 v5 v6 v7 ((by rw [ev5]; exact (in_and255 _))) ((by rw [ev6]; exact (in_and255 _))) ((by rw [ev7]; exact (in_and255 _))) (by have eu10 := eu10.symm; subst eu10; have eu9 := eu9.symm; subst eu9; have eu8 := eu8.symm; subst eu8; have ev7 := ev7.symm; subst ev7; have ev6 := ev6.symm; subst ev6; have ev5 := ev5.symm; subst ev5; have ev4 := ev4.symm; subst ev4; have ev3 := ev3.symm; subst ev3; have ev2 := ev2.symm; subst ev2; exact h0) G H.size) (cwV 4 hts gX4_step_X4_low rfl rfl rfl (by decide +kernel) ⟨Nat.le_of_ble_eq_true rfl, Nat.le_of_ble_eq_true rfl⟩) (g_preV eTrue_bl hK hE hP hD hS hA 0 rfl rfl) rfl rfl hl.1 rfl (lv_room (Nat.le_of_ble_eq_true rfl)) dX4_step_151 ⟨Nat.le_of_ble_eq_true rfl, Nat.le_of_ble_eq_true rfl⟩) hD hS hA (fun H locs hP hD hS => ?_)
        refine lv_topi (fun v28 ev28 => ?_)
        obtain ⟨u29, eu29⟩ : ∃ z, z = (f_X4_low u10 v4 v5 v6 v7).2 := ⟨_, rfl⟩
        have hP : va_P G vwCl (wM yy a u29) H := by rw [eu29]; exact hP
        have hD : va_D A (wM yy a u29) := by rw [eu29]; exact hD
        refine lv_goto (tgt := 228) hx hb dX4_step_154 (by decide) ?_
        exact k15 v28 u29 (ez14.trans (by have eu29 := eu29.symm; subst eu29; have ev28 := ev28.symm; subst ev28; exact (if_pos c11).trans ((if_neg c16).trans (rfl)))).symm _ _ hP hD hS ls (lv_sub hl [5, 4, 3, 2, 1, 0] rfl)
    · refine lv_iload_n hx hb dX4_step_119 rfl (lv_at hl 3 rfl) ?_
      refine lv_bipush (v := 96) hx hb dX4_step_120 (by decide) ?_
      refine lv_icmp_ge (tgt := 138) hx hb dX4_step_122 (by decide) (fun c30 => ?_) (fun c30 => ?_)
      · refine lv_iload_n hx hb dX4_step_138 rfl (lv_at hl 3 rfl) ?_
        refine lv_bipush (v := 64) hx hb dX4_step_139 (by decide) ?_
        refine lv_icmp_ge (tgt := 157) hx hb dX4_step_141 (by decide) (fun c31 => ?_) (fun c31 => ?_)
        · refine lv_iload_n hx hb dX4_step_157 rfl (lv_at hl 3 rfl) ?_
          refine lv_sipush (v := 128) hx hb dX4_step_158 (by decide) ?_
          refine lv_icmp_ge (tgt := 177) hx hb dX4_step_161 (by decide) (fun c32 => ?_) (fun c32 => ?_)
          · refine lv_iload_n hx hb dX4_step_177 rfl (lv_at hl 3 rfl) ?_
            refine lv_sipush (v := 192) hx hb dX4_step_178 (by decide) ?_
            refine lv_icmp_ge (tgt := 197) hx hb dX4_step_181 (by decide) (fun c33 => ?_) (fun c33 => ?_)
            · refine lv_iload_n hx hb dX4_step_197 rfl (lv_at hl 3 rfl) ?_
              refine lv_sipush (v := 224) hx hb dX4_step_198 (by decide) ?_
              refine lv_icmp_ge (tgt := 217) hx hb dX4_step_201 (by decide) (fun c34 => ?_) (fun c34 => ?_)
              · refine lv_aload_n hx hb dX4_step_217 rfl (lv_at hl 5 rfl) ?_
                refine lv_iload_n hx hb dX4_step_218 rfl (lv_at hl 3 rfl) ?_
                refine lv_iload_n hx hb dX4_step_219 rfl (lv_at hl 2 rfl) ?_
                refine lv_iload hx hb dX4_step_220 (lv_at hl 1 rfl) ?_
                refine lv_iload hx hb dX4_step_222 (lv_at hl 0 rfl) ?_
                refine lv_iload_n hx hb dX4_step_224 rfl (lv_at hl 4 rfl) ?_
                refine g_i (va_runV (As := [.int v4, .int v5, .int v6, .int v7, .int v3]) (rest := []) ⟨hx, hb, hml, hown, hts⟩ (c_X4_high l yy a u10 v4 v5 v6 v7 v3 ((by rw [ev5]; exact (in_and255 _))) ((by rw [ev6]; exact (in_and255 _))) ((by rw [ev7]; exact (in_and255 _))) G H.size) (cwV 5 hts gX4_step_X4_high rfl rfl rfl (by decide +kernel) ⟨Nat.le_of_ble_eq_true rfl, Nat.le_of_ble_eq_true rfl⟩) (g_preV eTrue_bl hK hE hP hD hS hA 0 rfl rfl) rfl rfl hl.1 rfl (lv_room (Nat.le_of_ble_eq_true rfl)) dX4_step_225 ⟨Nat.le_of_ble_eq_true rfl, Nat.le_of_ble_eq_true rfl⟩) hD hS hA (fun H locs hP hD hS => ?_)
                refine lv_topi (fun v35 ev35 => ?_)
                obtain ⟨u36, eu36⟩ : ∃ z, z = (f_X4_high u10 v4 v5 v6 v7 v3).2 := ⟨_, rfl⟩
                have hP : va_P G vwCl (wM yy a u36) H := by rw [eu36]; exact hP
                have hD : va_D A (wM yy a u36) := by rw [eu36]; exact hD
                exact k15 v35 u36 (ez14.trans (by have eu36 := eu36.symm; subst eu36; have ev35 := ev35.symm; subst ev35; exact (if_neg c11).trans ((if_pos c30).trans ((if_pos c31).trans ((if_pos c32).trans ((if_pos c33).trans ((if_pos c34).trans (rfl)))))))).symm _ _ hP hD hS ls (lv_sub hl [5, 4, 3, 2, 1, 0] rfl)
              · refine lv_aload_n hx hb dX4_step_204 rfl (lv_at hl 5 rfl) ?_
                refine lv_iload_n hx hb dX4_step_205 rfl (lv_at hl 3 rfl) ?_
                refine lv_iload_n hx hb dX4_step_206 rfl (lv_at hl 2 rfl) ?_
                refine lv_iload hx hb dX4_step_207 (lv_at hl 1 rfl) ?_
                refine lv_iload hx hb dX4_step_209 (lv_at hl 0 rfl) ?_
                refine g_i (va_runV (As := [.int v4, .int v5, .int v6, .int v7]) (rest := []) ⟨hx, hb, hml, hown, hts⟩ (c_X4_bits l yy a u10 v4 v5 v6 v7 ((by rw [ev5]; exact (in_and255 _))) ((by rw [ev6]; exact (in_and255 _))) ((by rw [ev7]; exact (in_and255 _))) G H.size) (cwV 4 hts gX4_step_X4_bits rfl rfl rfl (by decide +kernel) ⟨Nat.le_of_ble_eq_true rfl, Nat.le_of_ble_eq_true rfl⟩) (g_preV eTrue_bl hK hE hP hD hS hA 0 rfl rfl) rfl rfl hl.1 rfl (lv_room (Nat.le_of_ble_eq_true rfl)) dX4_step_211 ⟨Nat.le_of_ble_eq_true rfl, Nat.le_of_ble_eq_true rfl⟩) hD hS hA (fun H locs hP hD hS => ?_)
                refine lv_topi (fun v37 ev37 => ?_)
                obtain ⟨u38, eu38⟩ : ∃ z, z = (f_X4_bits u10 v4 v5 v6 v7).2 := ⟨_, rfl⟩
                have hP : va_P G vwCl (wM yy a u38) H := by rw [eu38]; exact hP
                have hD : va_D A (wM yy a u38) := by rw [eu38]; exact hD
                refine lv_goto (tgt := 228) hx hb dX4_step_214 (by decide) ?_
                exact k15 v37 u38 (ez14.trans (by have eu38 := eu38.symm; subst eu38; have ev37 := ev37.symm; subst ev37; exact (if_neg c11).trans ((if_pos c30).trans ((if_pos c31).trans ((if_pos c32).trans ((if_pos c33).trans ((if_neg c34).trans (rfl)))))))).symm _ _ hP hD hS ls (lv_sub hl [5, 4, 3, 2, 1, 0] rfl)
            · refine lv_aload_n hx hb dX4_step_184 rfl (lv_at hl 5 rfl) ?_
              refine lv_iload_n hx hb dX4_step_185 rfl (lv_at hl 3 rfl) ?_
              refine lv_iload_n hx hb dX4_step_186 rfl (lv_at hl 2 rfl) ?_
              refine lv_iload hx hb dX4_step_187 (lv_at hl 1 rfl) ?_
              refine lv_iload hx hb dX4_step_189 (lv_at hl 0 rfl) ?_
              refine g_i (va_runV (As := [.int v4, .int v5, .int v6, .int v7]) (rest := []) ⟨hx, hb, hml, hown, hts⟩ (c_X4_access l yy a u10 v4 v5 v6 v7 ((by rw [ev5]; exact (in_and255 _))) ((by rw [ev6]; exact (in_and255 _))) ((by rw [ev7]; exact (in_and255 _))) G H.size) (cwV 4 hts gX4_step_X4_access rfl rfl rfl (by decide +kernel) ⟨Nat.le_of_ble_eq_true rfl, Nat.le_of_ble_eq_true rfl⟩) (g_preV eTrue_bl hK hE hP hD hS hA 0 rfl rfl) rfl rfl hl.1 rfl (lv_room (Nat.le_of_ble_eq_true rfl)) dX4_step_191 ⟨Nat.le_of_ble_eq_true rfl, Nat.le_of_ble_eq_true rfl⟩) hD hS hA (fun H locs hP hD hS => ?_)
              refine lv_topi (fun v39 ev39 => ?_)
              obtain ⟨u40, eu40⟩ : ∃ z, z = (f_X4_access u10 v4 v5 v6 v7).2 := ⟨_, rfl⟩
              have hP : va_P G vwCl (wM yy a u40) H := by rw [eu40]; exact hP
              have hD : va_D A (wM yy a u40) := by rw [eu40]; exact hD
              refine lv_goto (tgt := 228) hx hb dX4_step_194 (by decide) ?_
              exact k15 v39 u40 (ez14.trans (by have eu40 := eu40.symm; subst eu40; have ev39 := ev39.symm; subst ev39; exact (if_neg c11).trans ((if_pos c30).trans ((if_pos c31).trans ((if_pos c32).trans ((if_neg c33).trans (rfl))))))).symm _ _ hP hD hS ls (lv_sub hl [5, 4, 3, 2, 1, 0] rfl)
          · refine lv_aload_n hx hb dX4_step_164 rfl (lv_at hl 5 rfl) ?_
            refine lv_iload_n hx hb dX4_step_165 rfl (lv_at hl 3 rfl) ?_
            refine lv_iload_n hx hb dX4_step_166 rfl (lv_at hl 2 rfl) ?_
            refine lv_iload hx hb dX4_step_167 (lv_at hl 1 rfl) ?_
            refine lv_iload hx hb dX4_step_169 (lv_at hl 0 rfl) ?_
            refine g_i (va_runV (As := [.int v4, .int v5, .int v6, .int v7]) (rest := []) ⟨hx, hb, hml, hown, hts⟩ (c_X4_choose l yy a u10 v4 v5 v6 v7 ((by rw [ev5]; exact (in_and255 _))) ((by rw [ev6]; exact (in_and255 _))) ((by rw [ev7]; exact (in_and255 _))) G H.size) (cwV 4 hts gX4_step_X4_choose rfl rfl rfl (by decide +kernel) ⟨Nat.le_of_ble_eq_true rfl, Nat.le_of_ble_eq_true rfl⟩) (g_preV eTrue_bl hK hE hP hD hS hA 0 rfl rfl) rfl rfl hl.1 rfl (lv_room (Nat.le_of_ble_eq_true rfl)) dX4_step_171 ⟨Nat.le_of_ble_eq_true rfl, Nat.le_of_ble_eq_true rfl⟩) hD hS hA (fun H locs hP hD hS => ?_)
            refine lv_topi (fun v41 ev41 => ?_)
            obtain ⟨u42, eu42⟩ : ∃ z, z = (f_X4_choose u10 v4 v5 v6 v7).2 := ⟨_, rfl⟩
            have hP : va_P G vwCl (wM yy a u42) H := by rw [eu42]; exact hP
            have hD : va_D A (wM yy a u42) := by rw [eu42]; exact hD
            refine lv_goto (tgt := 228) hx hb dX4_step_174 (by decide) ?_
            exact k15 v41 u42 (ez14.trans (by have eu42 := eu42.symm; subst eu42; have ev41 := ev41.symm; subst ev41; exact (if_neg c11).trans ((if_pos c30).trans ((if_pos c31).trans ((if_neg c32).trans (rfl)))))).symm _ _ hP hD hS ls (lv_sub hl [5, 4, 3, 2, 1, 0] rfl)
        · refine lv_aload_n hx hb dX4_step_144 rfl (lv_at hl 5 rfl) ?_
          refine lv_iload_n hx hb dX4_step_145 rfl (lv_at hl 3 rfl) ?_
          refine lv_iload_n hx hb dX4_step_146 rfl (lv_at hl 2 rfl) ?_
          refine lv_iload hx hb dX4_step_147 (lv_at hl 1 rfl) ?_
          refine lv_iload hx hb dX4_step_149 (lv_at hl 0 rfl) ?_
          refine g_i (va_runV (As := [.int v4, .int v5, .int v6, .int v7]) (rest := []) ⟨hx, hb, hml, hown, hts⟩ (c_X4_low l yy a u10 v4 v5 v6 v7 ((by rw [ev5]; exact (in_and255 _))) ((by rw [ev6]; exact (in_and255 _))) ((by rw [ev7]; exact (in_and255 _))) (by have eu10 := eu10.symm; subst eu10; have eu9 := eu9.symm; subst eu9; have eu8 := eu8.symm; subst eu8; have ev7 := ev7.symm; subst ev7; have ev6 := ev6.symm; subst ev6; have ev5 := ev5.symm; subst ev5; have ev4 := ev4.symm; subst ev4; have ev3 := ev3.symm; subst ev3; have ev2 := ev2.symm; subst ev2; exact h0) G H.size) (cwV 4 hts gX4_step_X4_low rfl rfl rfl (by decide +kernel) ⟨Nat.le_of_ble_eq_true rfl, Nat.le_of_ble_eq_true rfl⟩) (g_preV eTrue_bl hK hE hP hD hS hA 0 rfl rfl) rfl rfl hl.1 rfl (lv_room (Nat.le_of_ble_eq_true rfl)) dX4_step_151 ⟨Nat.le_of_ble_eq_true rfl, Nat.le_of_ble_eq_true rfl⟩) hD hS hA (fun H locs hP hD hS => ?_)
          refine lv_topi (fun v43 ev43 => ?_)
          obtain ⟨u44, eu44⟩ : ∃ z, z = (f_X4_low u10 v4 v5 v6 v7).2 := ⟨_, rfl⟩
          have hP : va_P G vwCl (wM yy a u44) H := by rw [eu44]; exact hP
          have hD : va_D A (wM yy a u44) := by rw [eu44]; exact hD
          refine lv_goto (tgt := 228) hx hb dX4_step_154 (by decide) ?_
          exact k15 v43 u44 (ez14.trans (by have eu44 := eu44.symm; subst eu44; have ev43 := ev43.symm; subst ev43; exact (if_neg c11).trans ((if_pos c30).trans ((if_neg c31).trans (rfl))))).symm _ _ hP hD hS ls (lv_sub hl [5, 4, 3, 2, 1, 0] rfl)
      · refine lv_aload_n hx hb dX4_step_125 rfl (lv_at hl 5 rfl) ?_
        refine lv_iload_n hx hb dX4_step_126 rfl (lv_at hl 3 rfl) ?_
        refine lv_iload_n hx hb dX4_step_127 rfl (lv_at hl 2 rfl) ?_
        refine lv_iload_n hx hb dX4_step_128 rfl (lv_at hl 4 rfl) ?_
        refine lv_ldc hx hb hown (hts (.constant RX4 179 (65535)) (by decide +kernel)) dX4_step_129 ?_
        refine lv_iand hx hb dX4_step_131 ?_
        refine g_i (va_runV (As := [.int v4, .int v5, .int (v3 &&& (65535 : Int32))]) (rest := []) ⟨hx, hb, hml, hown, hts⟩ (c_X4_branch l yy a u10 v4 v5 (v3 &&& (65535 : Int32)) ((by rw [ev5]; exact (in_and255 _))) G H.size) (cwV 3 hts gX4_step_X4_branch rfl rfl rfl (by decide +kernel) ⟨Nat.le_of_ble_eq_true rfl, Nat.le_of_ble_eq_true rfl⟩) (g_preV eTrue_bl hK hE hP hD hS hA 0 rfl rfl) rfl rfl hl.1 rfl (lv_room (Nat.le_of_ble_eq_true rfl)) dX4_step_132 ⟨Nat.le_of_ble_eq_true rfl, Nat.le_of_ble_eq_true rfl⟩) hD hS hA (fun H locs hP hD hS => ?_)
        refine lv_topi (fun v45 ev45 => ?_)
        obtain ⟨u46, eu46⟩ : ∃ z, z = (f_X4_branch u10 v4 v5 (v3 &&& (65535 : Int32))).2 := ⟨_, rfl⟩
        have hP : va_P G vwCl (wM yy a u46) H := by rw [eu46]; exact hP
        have hD : va_D A (wM yy a u46) := by rw [eu46]; exact hD
        refine lv_goto (tgt := 228) hx hb dX4_step_135 (by decide) ?_
        exact k15 v45 u46 (ez14.trans (by have eu46 := eu46.symm; subst eu46; have ev45 := ev45.symm; subst ev45; exact (if_neg c11).trans ((if_neg c30).trans (rfl)))).symm _ _ hP hD hS ls (lv_sub hl [5, 4, 3, 2, 1, 0] rfl)
  · refine lv_iconst (v := 3) hx hb dX4_step_10 (by decide) ?_
    exact g_iret (by exact (if_neg c1).trans (rfl)) hx hb hr hP hD hS hlocks dX4_step_11
