def f_X3_loadOrGo (u : XS) (p0 : Int32) (p1 : Int64) (p2 : Int64) : XS :=
  let v1 : Int32 := f_X3_opOf p0;
  if (f_X3_isGo v1) = (0 : Int32) then
    if v1 < (144 : Int32) then
      let v4 : Int64 := f_X0_load u p1 (f_X3_sizeOf v1);
      let z7 : Int64 := (if (f_X3_isUnsigned v1) = (0 : Int32) then f_X2_signed v4 (f_X3_sizeOf v1) else v4);
      let v6 : Int64 := z7;
      let u9 : XS := f_X3_writeX u p0 v6;
      u9
    else
      let v10 : Int64 := f_X0_load u p1 (4 : Int32);
      let u11 : XS := f_X3_writeX u p0 (jlshl v10 (32 : Int32));
      u11
  else
    let u12 : XS := f_X3_writeX u p0 (p2 + (4 : Int64));
    let u13 : XS := sx_pc u12 (p1 &&& (-4 : Int64));
    u13
abbrev rm_X3_loadOrGo : Room := { frames := 2, cells := 0, slots := 0, locals := 46 }
set_option maxRecDepth 20000 in
theorem iw_X3_loadOrGo_X3 : ∀ w ∈ wsX30, w ∈ wsX3_loadOrGo := by decide +kernel
set_option maxHeartbeats 4000000 in
set_option maxRecDepth 100000 in
theorem c_X3_loadOrGo (l : Launch) (yy : Nat → ClassId) (a : Nat → Nat) (u : XS) (p0 : Int32) (p1 : Int64) (p2 : Int64) : gMv l yX3_loadOrGo wsX3_loadOrGo rm_X3_loadOrGo eX (sT yy) (wX yy a) [.ref (a 0), .int p0, .long p1, .long p2] u (f_X3_loadOrGo u p0 p1 p2) := by
  refine gm_ofW (Qc := gQv (wX yy a) (f_X3_loadOrGo u p0 p1 p2)) (by decide) rfl (Nat.le_of_ble_eq_true rfl) ?_
  intro G A p e s m args below meth c hx hb hr hml hts hown hlocks hK hE hA H locs hP hD hS ls hl
  have hl : lv_has ls 9 [(0, .ref (a 0)), (1, .int p0), (2, .long p1), (4, .long p2)] := hl
  refine lv_iload_n hx hb dX3_loadOrGo_0 rfl (lv_at hl 1 rfl) ?_
  refine p_i (W.runS (As := [.int p0]) (rest := []) ⟨hx, hb, hml, hown, hts⟩ (c_X3_opOf l p0 ) (va_cwS 1 hts gX3_loadOrGo_X3_opOf rfl rfl rfl (by decide +kernel) ⟨Nat.le_of_ble_eq_true rfl, Nat.le_of_ble_eq_true rfl⟩) p_preT rfl rfl hl.1 rfl (lv_room (Nat.le_of_ble_eq_true rfl)) dX3_loadOrGo_1 ⟨Nat.le_of_ble_eq_true rfl, Nat.le_of_ble_eq_true rfl⟩) ?_
  refine lv_topi (fun v1 ev1 => ?_)
  refine lv_istore (lv' := [(6, .int v1), (0, .ref (a 0)), (1, .int p0), (2, .long p1), (4, .long p2)]) hx hb dX3_loadOrGo_4 hl (by decide) rfl (fun ls hl => ?_)
  refine lv_iload hx hb dX3_loadOrGo_6 (lv_at hl 0 rfl) ?_
  refine p_i (W.runS (As := [.int v1]) (rest := []) ⟨hx, hb, hml, hown, hts⟩ (c_X3_isGo l v1 ) (va_cwS 1 hts gX3_loadOrGo_X3_isGo rfl rfl rfl (by decide +kernel) ⟨Nat.le_of_ble_eq_true rfl, Nat.le_of_ble_eq_true rfl⟩) p_preT rfl rfl hl.1 rfl (lv_room (Nat.le_of_ble_eq_true rfl)) dX3_loadOrGo_8 ⟨Nat.le_of_ble_eq_true rfl, Nat.le_of_ble_eq_true rfl⟩) ?_
  refine lv_if_eq (tgt := 37) hx hb dX3_loadOrGo_11 (by decide) (fun c2 => ?_) (fun c2 => ?_)
  · refine lv_iload hx hb dX3_loadOrGo_37 (lv_at hl 0 rfl) ?_
    refine lv_sipush (v := 144) hx hb dX3_loadOrGo_39 (by decide) ?_
    refine lv_icmp_lt (tgt := 65) hx hb dX3_loadOrGo_42 (by decide) (fun c3 => ?_) (fun c3 => ?_)
    · refine lv_aload_n hx hb dX3_loadOrGo_65 rfl (lv_at hl 1 rfl) ?_
      refine va_get (D := G) (ci := 1) (v := .ref (a 5)) (C := RX3) (T := TX3) (N := 12) hx hb hts iw_X3_loadOrGo_X3 hown hK hP 0 rfl rfl 4 (by decide) (hts (.fieldLink RX3 26 "MixBench" "memory" "LMixBench$Memory;") (by decide +kernel)) (fun _ h9 => h9) rfl dX3_loadOrGo_66 ?_
      refine lv_lload_n hx hb dX3_loadOrGo_69 rfl (lv_at hl 3 rfl) ?_
      refine lv_iload hx hb dX3_loadOrGo_70 (lv_at hl 0 rfl) ?_
      refine p_i (W.runS (As := [.int v1]) (rest := [.long p1, .ref (a 5)]) ⟨hx, hb, hml, hown, hts⟩ (c_X3_sizeOf l v1 ) (va_cwS 1 hts gX3_loadOrGo_X3_sizeOf rfl rfl rfl (by decide +kernel) ⟨Nat.le_of_ble_eq_true rfl, Nat.le_of_ble_eq_true rfl⟩) p_preT rfl rfl hl.1 rfl (lv_room (Nat.le_of_ble_eq_true rfl)) dX3_loadOrGo_72 ⟨Nat.le_of_ble_eq_true rfl, Nat.le_of_ble_eq_true rfl⟩) ?_
      refine g_l (va_runVN (As := [.long p1, .int (f_X3_sizeOf v1)]) (rest := []) ⟨hx, hb, hml, hown, hts⟩ (c_X0_load l yy a u p1 (f_X3_sizeOf v1)  G H.size) ⟨va_cnB 2 hts gX3_loadOrGo_X0_load_n46 rfl rfl rfl (hE.1 (46, yX0_load) (by decide +kernel)) (hts (.initialized RX0) (by decide +kernel)) (by decide +kernel) ⟨Nat.le_of_ble_eq_true rfl, Nat.le_of_ble_eq_true rfl⟩, (hts (.instanceMethod yX0_load) (by decide +kernel)), (hts (.selects RX0 yX0_load yX0_load) (by decide +kernel))⟩ (g_preV eX_bl hK hE hP hD hS hA 5 rfl rfl) rfl rfl hl.1 rfl (lv_room (Nat.le_of_ble_eq_true rfl)) dX3_loadOrGo_75 ⟨Nat.le_of_ble_eq_true rfl, Nat.le_of_ble_eq_true rfl⟩) hD hS hA (fun H locs hP hD hS => ?_)
      have hP : va_P G vwCl (wX yy a u) H := hP
      have hD : va_D A (wX yy a u) := hD
      refine lv_topl (fun v4 ev4 => ?_)
      refine lv_lstore (lv' := [(7, .long v4), (6, .int v1), (0, .ref (a 0)), (1, .int p0), (2, .long p1), (4, .long p2)]) hx hb dX3_loadOrGo_78 hl (by decide) rfl (fun ls hl => ?_)
      refine lv_aload_n hx hb dX3_loadOrGo_80 rfl (lv_at hl 2 rfl) ?_
      refine lv_iload_n hx hb dX3_loadOrGo_81 rfl (lv_at hl 3 rfl) ?_
      refine lv_iload hx hb dX3_loadOrGo_82 (lv_at hl 1 rfl) ?_
      refine p_i (W.runS (As := [.int v1]) (rest := [.int p0, .ref (a 0)]) ⟨hx, hb, hml, hown, hts⟩ (c_X3_isUnsigned l v1 ) (va_cwS 1 hts gX3_loadOrGo_X3_isUnsigned rfl rfl rfl (by decide +kernel) ⟨Nat.le_of_ble_eq_true rfl, Nat.le_of_ble_eq_true rfl⟩) p_preT rfl rfl hl.1 rfl (lv_room (Nat.le_of_ble_eq_true rfl)) dX3_loadOrGo_84 ⟨Nat.le_of_ble_eq_true rfl, Nat.le_of_ble_eq_true rfl⟩) ?_
      obtain ⟨z7, ez7⟩ : ∃ q : Int64, q = (if (f_X3_isUnsigned v1) = (0 : Int32) then f_X2_signed v4 (f_X3_sizeOf v1) else v4) := ⟨_, rfl⟩
      have k8 : ∀ (v6 : Int64), v6 = z7 → ∀ (H : Heap) (locs : List Loc), va_P G vwCl (wX yy a u) H → va_D A (wX yy a u) → va_S A s.heap H locs → ∀ ls : Array Slot, lv_has ls 9 [(0, .ref (a 0)), (1, .int p0), (2, .long p1), (4, .long p2), (6, .int v1), (7, .long v4)] → W p l e rm_X3_loadOrGo s m args below meth c H locs 0 0 (MQ below (gQv (wX yy a) (f_X3_loadOrGo u p0 p1 p2) G A) args s 0 0 A) (F0 m 105 ls [.long v6, .int p0, .ref (a 0)]) := by
        intro v6 jz7 H locs hP hD hS ls hl
        have ev6 : v6 = z7 := jz7
        refine g_v (va_runV (As := [.int p0, .long v6]) (rest := []) ⟨hx, hb, hml, hown, hts⟩ (c_X3_writeX l yy a u p0 v6  G H.size) (cwV 2 hts gX3_loadOrGo_X3_writeX rfl rfl rfl (by decide +kernel) ⟨Nat.le_of_ble_eq_true rfl, Nat.le_of_ble_eq_true rfl⟩) (g_preV eX_bl hK hE hP hD hS hA 0 rfl rfl) rfl rfl hl.1 rfl (lv_room (Nat.le_of_ble_eq_true rfl)) dX3_loadOrGo_105 ⟨Nat.le_of_ble_eq_true rfl, Nat.le_of_ble_eq_true rfl⟩) hD hS hA (fun H locs hP hD hS => ?_)
        obtain ⟨u9, eu9⟩ : ∃ z, z = f_X3_writeX u p0 v6 := ⟨_, rfl⟩
        have hP : va_P G vwCl (wX yy a u9) H := by rw [eu9]; exact hP
        have hD : va_D A (wX yy a u9) := by rw [eu9]; exact hD
        exact g_vret (by have eu9 := eu9.symm; subst eu9; have ev6 := ev6.symm; subst ev6; have ez7 := ez7.symm; subst ez7; have ev4 := ev4.symm; subst ev4; have ev1 := ev1.symm; subst ev1; exact (if_pos c2).trans ((if_pos c3).trans (rfl))) hx hb hr hP hD hS hlocks dX3_loadOrGo_108
      refine lv_if_eq (tgt := 95) hx hb dX3_loadOrGo_87 (by decide) (fun c5 => ?_) (fun c5 => ?_)
      · refine lv_lload hx hb dX3_loadOrGo_95 (lv_at hl 0 rfl) ?_
        refine lv_iload hx hb dX3_loadOrGo_97 (lv_at hl 1 rfl) ?_
        refine p_i (W.runS (As := [.int v1]) (rest := [.long v4, .int p0, .ref (a 0)]) ⟨hx, hb, hml, hown, hts⟩ (c_X3_sizeOf l v1 ) (va_cwS 1 hts gX3_loadOrGo_X3_sizeOf rfl rfl rfl (by decide +kernel) ⟨Nat.le_of_ble_eq_true rfl, Nat.le_of_ble_eq_true rfl⟩) p_preT rfl rfl hl.1 rfl (lv_room (Nat.le_of_ble_eq_true rfl)) dX3_loadOrGo_99 ⟨Nat.le_of_ble_eq_true rfl, Nat.le_of_ble_eq_true rfl⟩) ?_
        refine p_l (g_run (va_runSN (As := [.long v4, .int (f_X3_sizeOf v1)]) (rest := [.int p0, .ref (a 0)]) ⟨hx, hb, hml, hown, hts⟩ (c_X2_signed l v4 (f_X3_sizeOf v1) ) ⟨va_cnB 2 hts gX3_loadOrGo_X2_signed_n272 rfl rfl rfl (hE.1 (272, yX2_signed) (by decide +kernel)) (hts (.initialized RX2) (by decide +kernel)) (by decide +kernel) ⟨Nat.le_of_ble_eq_true rfl, Nat.le_of_ble_eq_true rfl⟩, (hts (.static yX2_signed) (by decide +kernel)), trivial⟩ p_preT rfl rfl hl.1 rfl (lv_room (Nat.le_of_ble_eq_true rfl)) dX3_loadOrGo_102 ⟨Nat.le_of_ble_eq_true rfl, Nat.le_of_ble_eq_true rfl⟩)) ?_
        exact k8 (f_X2_signed v4 (f_X3_sizeOf v1)) (ez7.trans (by exact (if_pos c5).trans (rfl))).symm _ _ hP hD hS ls (lv_sub hl [2, 3, 4, 5, 1, 0] rfl)
      · refine lv_lload hx hb dX3_loadOrGo_90 (lv_at hl 0 rfl) ?_
        refine lv_goto (tgt := 105) hx hb dX3_loadOrGo_92 (by decide) ?_
        exact k8 v4 (ez7.trans (by exact (if_neg c5).trans (rfl))).symm _ _ hP hD hS ls (lv_sub hl [2, 3, 4, 5, 1, 0] rfl)
    · refine lv_aload_n hx hb dX3_loadOrGo_45 rfl (lv_at hl 1 rfl) ?_
      refine lv_iload_n hx hb dX3_loadOrGo_46 rfl (lv_at hl 2 rfl) ?_
      refine lv_aload_n hx hb dX3_loadOrGo_47 rfl (lv_at hl 1 rfl) ?_
      refine va_get (D := G) (ci := 1) (v := .ref (a 5)) (C := RX3) (T := TX3) (N := 12) hx hb hts iw_X3_loadOrGo_X3 hown hK hP 0 rfl rfl 4 (by decide) (hts (.fieldLink RX3 26 "MixBench" "memory" "LMixBench$Memory;") (by decide +kernel)) (fun _ h9 => h9) rfl dX3_loadOrGo_48 ?_
      refine lv_lload_n hx hb dX3_loadOrGo_51 rfl (lv_at hl 3 rfl) ?_
      refine lv_iconst (v := 4) hx hb dX3_loadOrGo_52 (by decide) ?_
      refine g_l (va_runVN (As := [.long p1, .int (4 : Int32)]) (rest := [.int p0, .ref (a 0)]) ⟨hx, hb, hml, hown, hts⟩ (c_X0_load l yy a u p1 (4 : Int32)  G H.size) ⟨va_cnB 2 hts gX3_loadOrGo_X0_load_n46 rfl rfl rfl (hE.1 (46, yX0_load) (by decide +kernel)) (hts (.initialized RX0) (by decide +kernel)) (by decide +kernel) ⟨Nat.le_of_ble_eq_true rfl, Nat.le_of_ble_eq_true rfl⟩, (hts (.instanceMethod yX0_load) (by decide +kernel)), (hts (.selects RX0 yX0_load yX0_load) (by decide +kernel))⟩ (g_preV eX_bl hK hE hP hD hS hA 5 rfl rfl) rfl rfl hl.1 rfl (lv_room (Nat.le_of_ble_eq_true rfl)) dX3_loadOrGo_53 ⟨Nat.le_of_ble_eq_true rfl, Nat.le_of_ble_eq_true rfl⟩) hD hS hA (fun H locs hP hD hS => ?_)
      have hP : va_P G vwCl (wX yy a u) H := hP
      have hD : va_D A (wX yy a u) := hD
      refine lv_topl (fun v10 ev10 => ?_)
      refine lv_bipush (v := 32) hx hb dX3_loadOrGo_56 (by decide) ?_
      refine lv_lshl (v := jlshl v10 (32 : Int32)) hx hb dX3_loadOrGo_58 rfl ?_
      refine g_v (va_runV (As := [.int p0, .long (jlshl v10 (32 : Int32))]) (rest := []) ⟨hx, hb, hml, hown, hts⟩ (c_X3_writeX l yy a u p0 (jlshl v10 (32 : Int32))  G H.size) (cwV 2 hts gX3_loadOrGo_X3_writeX rfl rfl rfl (by decide +kernel) ⟨Nat.le_of_ble_eq_true rfl, Nat.le_of_ble_eq_true rfl⟩) (g_preV eX_bl hK hE hP hD hS hA 0 rfl rfl) rfl rfl hl.1 rfl (lv_room (Nat.le_of_ble_eq_true rfl)) dX3_loadOrGo_59 ⟨Nat.le_of_ble_eq_true rfl, Nat.le_of_ble_eq_true rfl⟩) hD hS hA (fun H locs hP hD hS => ?_)
      obtain ⟨u11, eu11⟩ : ∃ z, z = f_X3_writeX u p0 (jlshl v10 (32 : Int32)) := ⟨_, rfl⟩
      have hP : va_P G vwCl (wX yy a u11) H := by rw [eu11]; exact hP
      have hD : va_D A (wX yy a u11) := by rw [eu11]; exact hD
      refine lv_goto (tgt := 108) hx hb dX3_loadOrGo_62 (by decide) ?_
      exact g_vret (by have eu11 := eu11.symm; subst eu11; have ev10 := ev10.symm; subst ev10; have ev1 := ev1.symm; subst ev1; exact (if_pos c2).trans ((if_neg c3).trans (rfl))) hx hb hr hP hD hS hlocks dX3_loadOrGo_108
  · refine lv_aload_n hx hb dX3_loadOrGo_14 rfl (lv_at hl 1 rfl) ?_
    refine lv_iload_n hx hb dX3_loadOrGo_15 rfl (lv_at hl 2 rfl) ?_
    refine lv_lload hx hb dX3_loadOrGo_16 (lv_at hl 4 rfl) ?_
    refine lv_ldc2 hx hb hown (hts (.constantLong RX3 152 (4)) (by decide +kernel)) dX3_loadOrGo_18 ?_
    refine lv_ladd hx hb dX3_loadOrGo_21 ?_
    refine g_v (va_runV (As := [.int p0, .long (p2 + (4 : Int64))]) (rest := []) ⟨hx, hb, hml, hown, hts⟩ (c_X3_writeX l yy a u p0 (p2 + (4 : Int64))  G H.size) (cwV 2 hts gX3_loadOrGo_X3_writeX rfl rfl rfl (by decide +kernel) ⟨Nat.le_of_ble_eq_true rfl, Nat.le_of_ble_eq_true rfl⟩) (g_preV eX_bl hK hE hP hD hS hA 0 rfl rfl) rfl rfl hl.1 rfl (lv_room (Nat.le_of_ble_eq_true rfl)) dX3_loadOrGo_22 ⟨Nat.le_of_ble_eq_true rfl, Nat.le_of_ble_eq_true rfl⟩) hD hS hA (fun H locs hP hD hS => ?_)
    obtain ⟨u12, eu12⟩ : ∃ z, z = f_X3_writeX u p0 (p2 + (4 : Int64)) := ⟨_, rfl⟩
    have hP : va_P G vwCl (wX yy a u12) H := by rw [eu12]; exact hP
    have hD : va_D A (wX yy a u12) := by rw [eu12]; exact hD
    refine lv_aload_n hx hb dX3_loadOrGo_25 rfl (lv_at hl 1 rfl) ?_
    refine lv_lload_n hx hb dX3_loadOrGo_26 rfl (lv_at hl 3 rfl) ?_
    refine lv_ldc2 hx hb hown (hts (.constantLong RX3 264 (-4)) (by decide +kernel)) dX3_loadOrGo_27 ?_
    refine lv_land hx hb dX3_loadOrGo_30 ?_
    refine va_put (D := G) (ci := 1) (v := .long (p1 &&& (-4 : Int64))) (ty := .long) (C := RX3) (T := TX3) (N := 12) hx hb hts iw_X3_loadOrGo_X3 tyX3 tyX3_ok nmX3 hown hK hP hD hS 0 rfl rfl 7 (by decide) (hts (.fieldLink RX3 73 "MixBench" "pc" "J") (by decide +kernel)) (fun _ h9 => h9) rfl (by decide +kernel) rfl rfl (Nat.le_of_ble_eq_true rfl) dX3_loadOrGo_31 (fun H locs hP hD hS => ?_)
    obtain ⟨u13, eu13⟩ : ∃ z, z = sx_pc u12 (p1 &&& (-4 : Int64)) := ⟨_, rfl⟩
    have hP : va_P G vwCl (wX yy a u13) H := by rw [eu13]; exact hP
    have hD : va_D A (wX yy a u13) := by rw [eu13]; exact hD
    refine lv_goto (tgt := 108) hx hb dX3_loadOrGo_34 (by decide) ?_
    exact g_vret (by have eu13 := eu13.symm; subst eu13; have eu12 := eu12.symm; subst eu12; have ev1 := ev1.symm; subst ev1; exact (if_neg c2).trans (rfl)) hx hb hr hP hD hS hlocks dX3_loadOrGo_108
