def f_X3_storeX (u : XS) (p0 : Int32) (p1 : Int64) : XS :=
  let v1 : Int32 := f_X3_opOf p0;
  let v2 : Int64 := x_g u (f_X3_byteX p0).toNatClampNeg;
  if v1 < (180 : Int32) then
    if v1 < (176 : Int32) then
      let z7 : Int32 := (if (f_X3_isUnsigned v1) = (0 : Int32) then if (f_X2_signed v2 (f_X3_sizeOf v1)) = v2 then (0 : Int32) else (1 : Int32) else (0 : Int32));
      let v6 : Int32 := z7;
      let u10 : XS := f_X3_raise u (64 : Int64) v6;
      let u11 : XS := f_X0_store u10 p1 (f_X3_sizeOf v1) v2;
      u11
    else
      let u12 : XS := f_X0_store u p1 (4 : Int32) (jlushr v2 (32 : Int32));
      u12
  else
    let u13 : XS := f_X0_store u p1 (8 : Int32) ((f_X3_byteX p0).toInt64);
    u13
abbrev rm_X3_storeX : Room := { frames := 2, cells := 0, slots := 0, locals := 51 }
set_option maxRecDepth 20000 in
theorem iw_X3_storeX_X3 : ∀ w ∈ wsX30, w ∈ wsX3_storeX := by decide +kernel
set_option maxHeartbeats 4000000 in
set_option maxRecDepth 100000 in
theorem c_X3_storeX (l : Launch) (yy : Nat → ClassId) (a : Nat → Nat) (u : XS) (p0 : Int32) (p1 : Int64) : gMv l yX3_storeX wsX3_storeX rm_X3_storeX eX (sT yy) (wX yy a) [.ref (a 0), .int p0, .long p1] u (f_X3_storeX u p0 p1) := by
  refine gm_ofW (Qc := gQv (wX yy a) (f_X3_storeX u p0 p1)) (by decide) rfl (Nat.le_of_ble_eq_true rfl) ?_
  intro G A p e s m args below meth c hx hb hr hml hts hown hlocks hK hE hA H locs hP hD hS ls hl
  have hl : lv_has ls 7 [(0, .ref (a 0)), (1, .int p0), (2, .long p1)] := hl
  refine lv_iload_n hx hb dX3_storeX_0 rfl (lv_at hl 1 rfl) ?_
  refine p_i (W.runS (As := [.int p0]) (rest := []) ⟨hx, hb, hml, hown, hts⟩ (c_X3_opOf l p0 ) (va_cwS 1 hts gX3_storeX_X3_opOf rfl rfl rfl (by decide +kernel) ⟨Nat.le_of_ble_eq_true rfl, Nat.le_of_ble_eq_true rfl⟩) p_preT rfl rfl hl.1 rfl (lv_room (Nat.le_of_ble_eq_true rfl)) dX3_storeX_1 ⟨Nat.le_of_ble_eq_true rfl, Nat.le_of_ble_eq_true rfl⟩) ?_
  refine lv_topi (fun v1 ev1 => ?_)
  refine lv_istore (lv' := [(4, .int v1), (0, .ref (a 0)), (1, .int p0), (2, .long p1)]) hx hb dX3_storeX_4 hl (by decide) rfl (fun ls hl => ?_)
  refine lv_aload_n hx hb dX3_storeX_6 rfl (lv_at hl 1 rfl) ?_
  refine va_get (D := G) (ci := 1) (v := .ref (a 1)) (C := RX3) (T := TX3) (N := 12) hx hb hts iw_X3_storeX_X3 hown hK hP 0 rfl rfl 0 (by decide) (hts (.fieldLink RX3 9 "MixBench" "registers" "[J") (by decide +kernel)) (fun _ h9 => h9) rfl dX3_storeX_7 ?_
  refine lv_iload_n hx hb dX3_storeX_10 rfl (lv_at hl 2 rfl) ?_
  refine p_i (W.runS (As := [.int p0]) (rest := [.ref (a 1)]) ⟨hx, hb, hml, hown, hts⟩ (c_X3_byteX l p0 ) (va_cwS 1 hts gX3_storeX_X3_byteX rfl rfl rfl (by decide +kernel) ⟨Nat.le_of_ble_eq_true rfl, Nat.le_of_ble_eq_true rfl⟩) p_preT rfl rfl hl.1 rfl (lv_room (Nat.le_of_ble_eq_true rfl)) dX3_storeX_11 ⟨Nat.le_of_ble_eq_true rfl, Nat.le_of_ble_eq_true rfl⟩) ?_
  refine va_lald hx hb hK hP 1 0 rfl rfl (in_byteX _) dX3_storeX_14 ?_
  refine lv_topl (fun v2 ev2 => ?_)
  refine lv_lstore (lv' := [(5, .long v2), (4, .int v1), (0, .ref (a 0)), (1, .int p0), (2, .long p1)]) hx hb dX3_storeX_15 hl (by decide) rfl (fun ls hl => ?_)
  refine lv_iload hx hb dX3_storeX_17 (lv_at hl 1 rfl) ?_
  refine lv_sipush (v := 180) hx hb dX3_storeX_19 (by decide) ?_
  refine lv_icmp_lt (tgt := 43) hx hb dX3_storeX_22 (by decide) (fun c3 => ?_) (fun c3 => ?_)
  · refine lv_iload hx hb dX3_storeX_43 (lv_at hl 1 rfl) ?_
    refine lv_sipush (v := 176) hx hb dX3_storeX_45 (by decide) ?_
    refine lv_icmp_lt (tgt := 68) hx hb dX3_storeX_48 (by decide) (fun c4 => ?_) (fun c4 => ?_)
    · refine lv_aload_n hx hb dX3_storeX_68 rfl (lv_at hl 2 rfl) ?_
      refine lv_ldc2 hx hb hown (hts (.constantLong RX3 199 (64)) (by decide +kernel)) dX3_storeX_69 ?_
      refine lv_iload hx hb dX3_storeX_72 (lv_at hl 1 rfl) ?_
      refine p_i (W.runS (As := [.int v1]) (rest := [.long (64 : Int64), .ref (a 0)]) ⟨hx, hb, hml, hown, hts⟩ (c_X3_isUnsigned l v1 ) (va_cwS 1 hts gX3_storeX_X3_isUnsigned rfl rfl rfl (by decide +kernel) ⟨Nat.le_of_ble_eq_true rfl, Nat.le_of_ble_eq_true rfl⟩) p_preT rfl rfl hl.1 rfl (lv_room (Nat.le_of_ble_eq_true rfl)) dX3_storeX_74 ⟨Nat.le_of_ble_eq_true rfl, Nat.le_of_ble_eq_true rfl⟩) ?_
      obtain ⟨z7, ez7⟩ : ∃ q : Int32, q = (if (f_X3_isUnsigned v1) = (0 : Int32) then if (f_X2_signed v2 (f_X3_sizeOf v1)) = v2 then (0 : Int32) else (1 : Int32) else (0 : Int32)) := ⟨_, rfl⟩
      have k8 : ∀ (v6 : Int32), v6 = z7 → ∀ (H : Heap) (locs : List Loc), va_P G vwCl (wX yy a u) H → va_D A (wX yy a u) → va_S A s.heap H locs → ∀ ls : Array Slot, lv_has ls 7 [(0, .ref (a 0)), (1, .int p0), (2, .long p1), (4, .int v1), (5, .long v2)] → W p l e rm_X3_storeX s m args below meth c H locs 0 0 (MQ below (gQv (wX yy a) (f_X3_storeX u p0 p1) G A) args s 0 0 A) (F0 m 101 ls [.int v6, .long (64 : Int64), .ref (a 0)]) := by
        intro v6 jz7 H locs hP hD hS ls hl
        have ev6 : v6 = z7 := jz7
        refine g_v (va_runV (As := [.long (64 : Int64), .int v6]) (rest := []) ⟨hx, hb, hml, hown, hts⟩ (c_X3_raise l yy a u (64 : Int64) v6  G H.size) (cwV 2 hts gX3_storeX_X3_raise rfl rfl rfl (by decide +kernel) ⟨Nat.le_of_ble_eq_true rfl, Nat.le_of_ble_eq_true rfl⟩) (g_preV eX_bl hK hE hP hD hS hA 0 rfl rfl) rfl rfl hl.1 rfl (lv_room (Nat.le_of_ble_eq_true rfl)) dX3_storeX_101 ⟨Nat.le_of_ble_eq_true rfl, Nat.le_of_ble_eq_true rfl⟩) hD hS hA (fun H locs hP hD hS => ?_)
        obtain ⟨u10, eu10⟩ : ∃ z, z = f_X3_raise u (64 : Int64) v6 := ⟨_, rfl⟩
        have hP : va_P G vwCl (wX yy a u10) H := by rw [eu10]; exact hP
        have hD : va_D A (wX yy a u10) := by rw [eu10]; exact hD
        refine lv_aload_n hx hb dX3_storeX_104 rfl (lv_at hl 0 rfl) ?_
        refine va_get (D := G) (ci := 1) (v := .ref (a 5)) (C := RX3) (T := TX3) (N := 12) hx hb hts iw_X3_storeX_X3 hown hK hP 0 rfl rfl 4 (by decide) (hts (.fieldLink RX3 26 "MixBench" "memory" "LMixBench$Memory;") (by decide +kernel)) (fun _ h9 => h9) rfl dX3_storeX_105 ?_
        refine lv_lload_n hx hb dX3_storeX_108 rfl (lv_at hl 2 rfl) ?_
        refine lv_iload hx hb dX3_storeX_109 (lv_at hl 3 rfl) ?_
        refine p_i (W.runS (As := [.int v1]) (rest := [.long p1, .ref (a 5)]) ⟨hx, hb, hml, hown, hts⟩ (c_X3_sizeOf l v1 ) (va_cwS 1 hts gX3_storeX_X3_sizeOf rfl rfl rfl (by decide +kernel) ⟨Nat.le_of_ble_eq_true rfl, Nat.le_of_ble_eq_true rfl⟩) p_preT rfl rfl hl.1 rfl (lv_room (Nat.le_of_ble_eq_true rfl)) dX3_storeX_111 ⟨Nat.le_of_ble_eq_true rfl, Nat.le_of_ble_eq_true rfl⟩) ?_
        refine lv_lload hx hb dX3_storeX_114 (lv_at hl 4 rfl) ?_
        refine g_v (va_runVN (As := [.long p1, .int (f_X3_sizeOf v1), .long v2]) (rest := []) ⟨hx, hb, hml, hown, hts⟩ (c_X0_store l yy a u10 p1 (f_X3_sizeOf v1) v2  G H.size) ⟨va_cnB 3 hts gX3_storeX_X0_store_n50 rfl rfl rfl (hE.1 (50, yX0_store) (by decide +kernel)) (hts (.initialized RX0) (by decide +kernel)) (by decide +kernel) ⟨Nat.le_of_ble_eq_true rfl, Nat.le_of_ble_eq_true rfl⟩, (hts (.instanceMethod yX0_store) (by decide +kernel)), (hts (.selects RX0 yX0_store yX0_store) (by decide +kernel))⟩ (g_preV eX_bl hK hE hP hD hS hA 5 rfl rfl) rfl rfl hl.1 rfl (lv_room (Nat.le_of_ble_eq_true rfl)) dX3_storeX_116 ⟨Nat.le_of_ble_eq_true rfl, Nat.le_of_ble_eq_true rfl⟩) hD hS hA (fun H locs hP hD hS => ?_)
        obtain ⟨u11, eu11⟩ : ∃ z, z = f_X0_store u10 p1 (f_X3_sizeOf v1) v2 := ⟨_, rfl⟩
        have hP : va_P G vwCl (wX yy a u11) H := by rw [eu11]; exact hP
        have hD : va_D A (wX yy a u11) := by rw [eu11]; exact hD
        exact g_vret (by have eu11 := eu11.symm; subst eu11; have eu10 := eu10.symm; subst eu10; have ev6 := ev6.symm; subst ev6; have ez7 := ez7.symm; subst ez7; have ev2 := ev2.symm; subst ev2; have ev1 := ev1.symm; subst ev1; exact (if_pos c3).trans ((if_pos c4).trans (rfl))) hx hb hr hP hD hS hlocks dX3_storeX_119
      refine lv_if_ne (tgt := 100) hx hb dX3_storeX_77 (by decide) (fun c5 => ?_) (fun c5 => ?_)
      · refine lv_iconst (v := 0) hx hb dX3_storeX_100 (by decide) ?_
        exact k8 (0 : Int32) (ez7.trans (by exact (if_neg c5).trans (rfl))).symm _ _ hP hD hS ls (lv_sub hl [2, 3, 4, 1, 0] rfl)
      · refine lv_lload hx hb dX3_storeX_80 (lv_at hl 0 rfl) ?_
        refine lv_iload hx hb dX3_storeX_82 (lv_at hl 1 rfl) ?_
        refine p_i (W.runS (As := [.int v1]) (rest := [.long v2, .long (64 : Int64), .ref (a 0)]) ⟨hx, hb, hml, hown, hts⟩ (c_X3_sizeOf l v1 ) (va_cwS 1 hts gX3_storeX_X3_sizeOf rfl rfl rfl (by decide +kernel) ⟨Nat.le_of_ble_eq_true rfl, Nat.le_of_ble_eq_true rfl⟩) p_preT rfl rfl hl.1 rfl (lv_room (Nat.le_of_ble_eq_true rfl)) dX3_storeX_84 ⟨Nat.le_of_ble_eq_true rfl, Nat.le_of_ble_eq_true rfl⟩) ?_
        refine p_l (g_run (va_runSN (As := [.long v2, .int (f_X3_sizeOf v1)]) (rest := [.long (64 : Int64), .ref (a 0)]) ⟨hx, hb, hml, hown, hts⟩ (c_X2_signed l v2 (f_X3_sizeOf v1) ) ⟨va_cnB 2 hts gX3_storeX_X2_signed_n272 rfl rfl rfl (hE.1 (272, yX2_signed) (by decide +kernel)) (hts (.initialized RX2) (by decide +kernel)) (by decide +kernel) ⟨Nat.le_of_ble_eq_true rfl, Nat.le_of_ble_eq_true rfl⟩, (hts (.static yX2_signed) (by decide +kernel)), trivial⟩ p_preT rfl rfl hl.1 rfl (lv_room (Nat.le_of_ble_eq_true rfl)) dX3_storeX_87 ⟨Nat.le_of_ble_eq_true rfl, Nat.le_of_ble_eq_true rfl⟩)) ?_
        refine lv_lload hx hb dX3_storeX_90 (lv_at hl 0 rfl) ?_
        refine lc_eq (tgt := 100) hx hb dX3_storeX_92 dX3_storeX_93 (by decide) (fun c9 => ?_) (fun c9 => ?_)
        · refine lv_iconst (v := 0) hx hb dX3_storeX_100 (by decide) ?_
          exact k8 (0 : Int32) (ez7.trans (by exact (if_pos c5).trans ((if_pos c9).trans (rfl)))).symm _ _ hP hD hS ls (lv_sub hl [2, 3, 4, 1, 0] rfl)
        · refine lv_iconst (v := 1) hx hb dX3_storeX_96 (by decide) ?_
          refine lv_goto (tgt := 101) hx hb dX3_storeX_97 (by decide) ?_
          exact k8 (1 : Int32) (ez7.trans (by exact (if_pos c5).trans ((if_neg c9).trans (rfl)))).symm _ _ hP hD hS ls (lv_sub hl [2, 3, 4, 1, 0] rfl)
    · refine lv_aload_n hx hb dX3_storeX_51 rfl (lv_at hl 2 rfl) ?_
      refine va_get (D := G) (ci := 1) (v := .ref (a 5)) (C := RX3) (T := TX3) (N := 12) hx hb hts iw_X3_storeX_X3 hown hK hP 0 rfl rfl 4 (by decide) (hts (.fieldLink RX3 26 "MixBench" "memory" "LMixBench$Memory;") (by decide +kernel)) (fun _ h9 => h9) rfl dX3_storeX_52 ?_
      refine lv_lload_n hx hb dX3_storeX_55 rfl (lv_at hl 4 rfl) ?_
      refine lv_iconst (v := 4) hx hb dX3_storeX_56 (by decide) ?_
      refine lv_lload hx hb dX3_storeX_57 (lv_at hl 0 rfl) ?_
      refine lv_bipush (v := 32) hx hb dX3_storeX_59 (by decide) ?_
      refine lv_lushr (v := jlushr v2 (32 : Int32)) hx hb dX3_storeX_61 rfl ?_
      refine g_v (va_runVN (As := [.long p1, .int (4 : Int32), .long (jlushr v2 (32 : Int32))]) (rest := []) ⟨hx, hb, hml, hown, hts⟩ (c_X0_store l yy a u p1 (4 : Int32) (jlushr v2 (32 : Int32))  G H.size) ⟨va_cnB 3 hts gX3_storeX_X0_store_n50 rfl rfl rfl (hE.1 (50, yX0_store) (by decide +kernel)) (hts (.initialized RX0) (by decide +kernel)) (by decide +kernel) ⟨Nat.le_of_ble_eq_true rfl, Nat.le_of_ble_eq_true rfl⟩, (hts (.instanceMethod yX0_store) (by decide +kernel)), (hts (.selects RX0 yX0_store yX0_store) (by decide +kernel))⟩ (g_preV eX_bl hK hE hP hD hS hA 5 rfl rfl) rfl rfl hl.1 rfl (lv_room (Nat.le_of_ble_eq_true rfl)) dX3_storeX_62 ⟨Nat.le_of_ble_eq_true rfl, Nat.le_of_ble_eq_true rfl⟩) hD hS hA (fun H locs hP hD hS => ?_)
      obtain ⟨u12, eu12⟩ : ∃ z, z = f_X0_store u p1 (4 : Int32) (jlushr v2 (32 : Int32)) := ⟨_, rfl⟩
      have hP : va_P G vwCl (wX yy a u12) H := by rw [eu12]; exact hP
      have hD : va_D A (wX yy a u12) := by rw [eu12]; exact hD
      refine lv_goto (tgt := 119) hx hb dX3_storeX_65 (by decide) ?_
      exact g_vret (by have eu12 := eu12.symm; subst eu12; have ev2 := ev2.symm; subst ev2; have ev1 := ev1.symm; subst ev1; exact (if_pos c3).trans ((if_neg c4).trans (rfl))) hx hb hr hP hD hS hlocks dX3_storeX_119
  · refine lv_aload_n hx hb dX3_storeX_25 rfl (lv_at hl 2 rfl) ?_
    refine va_get (D := G) (ci := 1) (v := .ref (a 5)) (C := RX3) (T := TX3) (N := 12) hx hb hts iw_X3_storeX_X3 hown hK hP 0 rfl rfl 4 (by decide) (hts (.fieldLink RX3 26 "MixBench" "memory" "LMixBench$Memory;") (by decide +kernel)) (fun _ h9 => h9) rfl dX3_storeX_26 ?_
    refine lv_lload_n hx hb dX3_storeX_29 rfl (lv_at hl 4 rfl) ?_
    refine lv_bipush (v := 8) hx hb dX3_storeX_30 (by decide) ?_
    refine lv_iload_n hx hb dX3_storeX_32 rfl (lv_at hl 3 rfl) ?_
    refine p_i (W.runS (As := [.int p0]) (rest := [.int (8 : Int32), .long p1, .ref (a 5)]) ⟨hx, hb, hml, hown, hts⟩ (c_X3_byteX l p0 ) (va_cwS 1 hts gX3_storeX_X3_byteX rfl rfl rfl (by decide +kernel) ⟨Nat.le_of_ble_eq_true rfl, Nat.le_of_ble_eq_true rfl⟩) p_preT rfl rfl hl.1 rfl (lv_room (Nat.le_of_ble_eq_true rfl)) dX3_storeX_33 ⟨Nat.le_of_ble_eq_true rfl, Nat.le_of_ble_eq_true rfl⟩) ?_
    refine lv_i2l (v := (f_X3_byteX p0).toInt64) hx hb dX3_storeX_36 rfl ?_
    refine g_v (va_runVN (As := [.long p1, .int (8 : Int32), .long ((f_X3_byteX p0).toInt64)]) (rest := []) ⟨hx, hb, hml, hown, hts⟩ (c_X0_store l yy a u p1 (8 : Int32) ((f_X3_byteX p0).toInt64)  G H.size) ⟨va_cnB 3 hts gX3_storeX_X0_store_n50 rfl rfl rfl (hE.1 (50, yX0_store) (by decide +kernel)) (hts (.initialized RX0) (by decide +kernel)) (by decide +kernel) ⟨Nat.le_of_ble_eq_true rfl, Nat.le_of_ble_eq_true rfl⟩, (hts (.instanceMethod yX0_store) (by decide +kernel)), (hts (.selects RX0 yX0_store yX0_store) (by decide +kernel))⟩ (g_preV eX_bl hK hE hP hD hS hA 5 rfl rfl) rfl rfl hl.1 rfl (lv_room (Nat.le_of_ble_eq_true rfl)) dX3_storeX_37 ⟨Nat.le_of_ble_eq_true rfl, Nat.le_of_ble_eq_true rfl⟩) hD hS hA (fun H locs hP hD hS => ?_)
    obtain ⟨u13, eu13⟩ : ∃ z, z = f_X0_store u p1 (8 : Int32) ((f_X3_byteX p0).toInt64) := ⟨_, rfl⟩
    have hP : va_P G vwCl (wX yy a u13) H := by rw [eu13]; exact hP
    have hD : va_D A (wX yy a u13) := by rw [eu13]; exact hD
    refine lv_goto (tgt := 119) hx hb dX3_storeX_40 (by decide) ?_
    exact g_vret (by have eu13 := eu13.symm; subst eu13; have ev2 := ev2.symm; subst ev2; have ev1 := ev1.symm; subst ev1; exact (if_neg c3).trans (rfl)) hx hb hr hP hD hS hlocks dX3_storeX_119
