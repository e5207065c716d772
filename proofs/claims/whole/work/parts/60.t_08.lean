def f_X4_accesses (u : MS)  : MS :=
  let u1 : MS := f_X4_pair u (8858 : Int32) (128 : Int32) (9 : Int32);
  let u2 : MS := f_X4_pair u1 (239187 : Int32) (130 : Int32) (9 : Int32);
  let u3 : MS := f_X4_pair u2 (8879 : Int32) (132 : Int32) (9 : Int32);
  let u4 : MS := f_X4_pair u3 (239754 : Int32) (134 : Int32) (9 : Int32);
  let u5 : MS := f_X4_pair u4 (8876 : Int32) (136 : Int32) (9 : Int32);
  let u6 : MS := f_X4_pair u5 (239673 : Int32) (138 : Int32) (9 : Int32);
  let u7 : MS := f_X4_pair u6 (8871 : Int32) (140 : Int32) (9 : Int32);
  let u8 : MS := f_X4_pair u7 (239538 : Int32) (142 : Int32) (9 : Int32);
  let u9 : MS := f_X4_pair u8 (326 : Int32) (128 : Int32) (9 : Int32);
  let u10 : MS := f_X4_pair u9 (8823 : Int32) (130 : Int32) (9 : Int32);
  let u11 : MS := f_X4_pair u10 (347 : Int32) (132 : Int32) (9 : Int32);
  let u12 : MS := f_X4_pair u11 (9390 : Int32) (134 : Int32) (9 : Int32);
  let u13 : MS := f_X4_pair u12 (344 : Int32) (136 : Int32) (9 : Int32);
  let u14 : MS := f_X4_pair u13 (9309 : Int32) (138 : Int32) (9 : Int32);
  let u15 : MS := f_X4_pair u14 (339 : Int32) (140 : Int32) (9 : Int32);
  let u16 : MS := f_X4_pair u15 (9174 : Int32) (142 : Int32) (9 : Int32);
  let u17 : MS := f_X4_pair u16 (239348 : Int32) (146 : Int32) (9 : Int32);
  let u18 : MS := f_X4_pair u17 (204 : Int32) (158 : Int32) (9 : Int32);
  let u19 : MS := f_X4_pair u18 (212506 : Int32) (158 : Int32) (9 : Int32);
  let u20 : MS := f_X4_pair u19 (14393 : Int32) (160 : Int32) (9 : Int32);
  let u21 : MS := f_X4_pair u20 (388632 : Int32) (162 : Int32) (9 : Int32);
  let u22 : MS := f_X4_pair u21 (14414 : Int32) (164 : Int32) (9 : Int32);
  let u23 : MS := f_X4_pair u22 (389199 : Int32) (166 : Int32) (9 : Int32);
  let u24 : MS := f_X4_pair u23 (14411 : Int32) (168 : Int32) (9 : Int32);
  let u25 : MS := f_X4_pair u24 (389118 : Int32) (170 : Int32) (9 : Int32);
  let u26 : MS := f_X4_pair u25 (14406 : Int32) (172 : Int32) (9 : Int32);
  let u27 : MS := f_X4_pair u26 (388983 : Int32) (174 : Int32) (9 : Int32);
  let u28 : MS := f_X4_pair u27 (515 : Int32) (160 : Int32) (9 : Int32);
  let u29 : MS := f_X4_pair u28 (536 : Int32) (164 : Int32) (9 : Int32);
  let u30 : MS := f_X4_pair u29 (533 : Int32) (168 : Int32) (9 : Int32);
  let u31 : MS := f_X4_pair u30 (528 : Int32) (172 : Int32) (9 : Int32);
  let u32 : MS := f_X4_pair u31 (388793 : Int32) (178 : Int32) (9 : Int32);
  let u33 : MS := f_X4_pair u32 (388653 : Int32) (180 : Int32) (9 : Int32);
  u33
abbrev rm_X4_accesses : Room := { frames := 2, cells := 0, slots := 0, locals := 45 }
set_option maxHeartbeats 4000000 in
set_option maxRecDepth 100000 in
theorem c_X4_accesses (l : Launch) (yy : Nat → ClassId) (a : Nat → Nat) (u : MS) (h0 : m_ct u = nI 152) : gMv l yX4_accesses wsX4_accesses rm_X4_accesses eTrue (sT yy) (wM yy a) [.ref (a 0)] u (f_X4_accesses u) := by
  refine gm_ofW (Qc := gQv (wM yy a) (f_X4_accesses u)) (by decide) rfl (Nat.le_of_ble_eq_true rfl) ?_
  intro G A p e s m args below meth c hx hb hr hml hts hown hlocks hK hE hA H locs hP hD hS ls hl
  have hl : lv_has ls 1 [(0, .ref (a 0))] := hl
  refine lv_aload_n hx hb dX4_accesses_0 rfl (lv_at hl 0 rfl) ?_
  refine lv_sipush (v := 8858) hx hb dX4_accesses_1 (by decide) ?_
  refine lv_sipush (v := 128) hx hb dX4_accesses_4 (by decide) ?_
  refine lv_bipush (v := 9) hx hb dX4_accesses_7 (by decide) ?_
  refine g_v (va_runV (As := [.int (8858 : Int32), .int (128 : Int32), .int (9 : Int32)]) (rest := []) ⟨hx, hb, hml, hown, hts⟩ (c_X4_pair l yy a u (8858 : Int32) (128 : Int32) (9 : Int32) (⟨152, by decide, h0⟩) G H.size) (cwV 3 hts gX4_accesses_X4_pair rfl rfl rfl (by decide +kernel) ⟨Nat.le_of_ble_eq_true rfl, Nat.le_of_ble_eq_true rfl⟩) (g_preV eTrue_bl hK hE hP hD hS hA 0 rfl rfl) rfl rfl hl.1 rfl (lv_room (Nat.le_of_ble_eq_true rfl)) dX4_accesses_9 ⟨Nat.le_of_ble_eq_true rfl, Nat.le_of_ble_eq_true rfl⟩) hD hS hA (fun H locs hP hD hS => ?_)
  obtain ⟨u1, eu1⟩ : ∃ z, z = f_X4_pair u (8858 : Int32) (128 : Int32) (9 : Int32) := ⟨_, rfl⟩
  have hP : va_P G vwCl (wM yy a u1) H := by rw [eu1]; exact hP
  have hD : va_D A (wM yy a u1) := by rw [eu1]; exact hD
  have hqu1 : m_ct u1 = nI 154 := by rw [eu1]; exact ct_pair _ _ _ h0
  refine lv_aload_n hx hb dX4_accesses_12 rfl (lv_at hl 0 rfl) ?_
  refine lv_ldc hx hb hown (hts (.constant RX4 94 (239187)) (by decide +kernel)) dX4_accesses_13 ?_
  refine lv_sipush (v := 130) hx hb dX4_accesses_15 (by decide) ?_
  refine lv_bipush (v := 9) hx hb dX4_accesses_18 (by decide) ?_
  refine g_v (va_runV (As := [.int (239187 : Int32), .int (130 : Int32), .int (9 : Int32)]) (rest := []) ⟨hx, hb, hml, hown, hts⟩ (c_X4_pair l yy a u1 (239187 : Int32) (130 : Int32) (9 : Int32) (⟨154, by decide, hqu1⟩) G H.size) (cwV 3 hts gX4_accesses_X4_pair rfl rfl rfl (by decide +kernel) ⟨Nat.le_of_ble_eq_true rfl, Nat.le_of_ble_eq_true rfl⟩) (g_preV eTrue_bl hK hE hP hD hS hA 0 rfl rfl) rfl rfl hl.1 rfl (lv_room (Nat.le_of_ble_eq_true rfl)) dX4_accesses_20 ⟨Nat.le_of_ble_eq_true rfl, Nat.le_of_ble_eq_true rfl⟩) hD hS hA (fun H locs hP hD hS => ?_)
  obtain ⟨u2, eu2⟩ : ∃ z, z = f_X4_pair u1 (239187 : Int32) (130 : Int32) (9 : Int32) := ⟨_, rfl⟩
  have hP : va_P G vwCl (wM yy a u2) H := by rw [eu2]; exact hP
  have hD : va_D A (wM yy a u2) := by rw [eu2]; exact hD
  have hqu2 : m_ct u2 = nI 156 := by rw [eu2]; exact ct_pair _ _ _ hqu1
  refine lv_aload_n hx hb dX4_accesses_23 rfl (lv_at hl 0 rfl) ?_
  refine lv_sipush (v := 8879) hx hb dX4_accesses_24 (by decide) ?_
  refine lv_sipush (v := 132) hx hb dX4_accesses_27 (by decide) ?_
  refine lv_bipush (v := 9) hx hb dX4_accesses_30 (by decide) ?_
  refine g_v (va_runV (As := [.int (8879 : Int32), .int (132 : Int32), .int (9 : Int32)]) (rest := []) ⟨hx, hb, hml, hown, hts⟩ (c_X4_pair l yy a u2 (8879 : Int32) (132 : Int32) (9 : Int32) (⟨156, by decide, hqu2⟩) G H.size) (cwV 3 hts gX4_accesses_X4_pair rfl rfl rfl (by decide +kernel) ⟨Nat.le_of_ble_eq_true rfl, Nat.le_of_ble_eq_true rfl⟩) (g_preV eTrue_bl hK hE hP hD hS hA 0 rfl rfl) rfl rfl hl.1 rfl (lv_room (Nat.le_of_ble_eq_true rfl)) dX4_accesses_32 ⟨Nat.le_of_ble_eq_true rfl, Nat.le_of_ble_eq_true rfl⟩) hD hS hA (fun H locs hP hD hS => ?_)
  obtain ⟨u3, eu3⟩ : ∃ z, z = f_X4_pair u2 (8879 : Int32) (132 : Int32) (9 : Int32) := ⟨_, rfl⟩
  have hP : va_P G vwCl (wM yy a u3) H := by rw [eu3]; exact hP
  have hD : va_D A (wM yy a u3) := by rw [eu3]; exact hD
  have hqu3 : m_ct u3 = nI 158 := by rw [eu3]; exact ct_pair _ _ _ hqu2
  refine lv_aload_n hx hb dX4_accesses_35 rfl (lv_at hl 0 rfl) ?_
  refine lv_ldc hx hb hown (hts (.constant RX4 95 (239754)) (by decide +kernel)) dX4_accesses_36 ?_
  refine lv_sipush (v := 134) hx hb dX4_accesses_38 (by decide) ?_
  refine lv_bipush (v := 9) hx hb dX4_accesses_41 (by decide) ?_
  refine g_v (va_runV (As := [.int (239754 : Int32), .int (134 : Int32), .int (9 : Int32)]) (rest := []) ⟨hx, hb, hml, hown, hts⟩ (c_X4_pair l yy a u3 (239754 : Int32) (134 : Int32) (9 : Int32) (⟨158, by decide, hqu3⟩) G H.size) (cwV 3 hts gX4_accesses_X4_pair rfl rfl rfl (by decide +kernel) ⟨Nat.le_of_ble_eq_true rfl, Nat.le_of_ble_eq_true rfl⟩) (g_preV eTrue_bl hK hE hP hD hS hA 0 rfl rfl) rfl rfl hl.1 rfl (lv_room (Nat.le_of_ble_eq_true rfl)) dX4_accesses_43 ⟨Nat.le_of_ble_eq_true rfl, Nat.le_of_ble_eq_true rfl⟩) hD hS hA (fun H locs hP hD hS => ?_)
  obtain ⟨u4, eu4⟩ : ∃ z, z = f_X4_pair u3 (239754 : Int32) (134 : Int32) (9 : Int32) := ⟨_, rfl⟩
  have hP : va_P G vwCl (wM yy a u4) H := by rw [eu4]; exact hP
  have hD : va_D A (wM yy a u4) := by rw [eu4]; exact hD
  have hqu4 : m_ct u4 = nI 160 := by rw [eu4]; exact ct_pair _ _ _ hqu3
  refine lv_aload_n hx hb dX4_accesses_46 rfl (lv_at hl 0 rfl) ?_
  refine lv_sipush (v := 8876) hx hb dX4_accesses_47 (by decide) ?_
  refine lv_sipush (v := 136) hx hb dX4_accesses_50 (by decide) ?_
  refine lv_bipush (v := 9) hx hb dX4_accesses_53 (by decide) ?_
  refine g_v (va_runV (As := [.int (8876 : Int32), .int (136 : Int32), .int (9 : Int32)]) (rest := []) ⟨hx, hb, hml, hown, hts⟩ (c_X4_pair l yy a u4 (8876 : Int32) (136 : Int32) (9 : Int32) (⟨160, by decide, hqu4⟩) G H.size) (cwV 3 hts gX4_accesses_X4_pair rfl rfl rfl (by decide +kernel) ⟨Nat.le_of_ble_eq_true rfl, Nat.le_of_ble_eq_true rfl⟩) (g_preV eTrue_bl hK hE hP hD hS hA 0 rfl rfl) rfl rfl hl.1 rfl (lv_room (Nat.le_of_ble_eq_true rfl)) dX4_accesses_55 ⟨Nat.le_of_ble_eq_true rfl, Nat.le_of_ble_eq_true rfl⟩) hD hS hA (fun H locs hP hD hS => ?_)
  obtain ⟨u5, eu5⟩ : ∃ z, z = f_X4_pair u4 (8876 : Int32) (136 : Int32) (9 : Int32) := ⟨_, rfl⟩
  have hP : va_P G vwCl (wM yy a u5) H := by rw [eu5]; exact hP
  have hD : va_D A (wM yy a u5) := by rw [eu5]; exact hD
  have hqu5 : m_ct u5 = nI 162 := by rw [eu5]; exact ct_pair _ _ _ hqu4
  refine lv_aload_n hx hb dX4_accesses_58 rfl (lv_at hl 0 rfl) ?_
  refine lv_ldc hx hb hown (hts (.constant RX4 96 (239673)) (by decide +kernel)) dX4_accesses_59 ?_
  refine lv_sipush (v := 138) hx hb dX4_accesses_61 (by decide) ?_
  refine lv_bipush (v := 9) hx hb dX4_accesses_64 (by decide) ?_
  refine g_v (va_runV (As := [.int (239673 : Int32), .int (138 : Int32), .int (9 : Int32)]) (rest := []) ⟨hx, hb, hml, hown, hts⟩ (c_X4_pair l yy a u5 (239673 : Int32) (138 : Int32) (9 : Int32) (⟨162, by decide, hqu5⟩) G H.size) (cwV 3 hts gX4_accesses_X4_pair rfl rfl rfl (by decide +kernel) ⟨Nat.le_of_ble_eq_true rfl, Nat.le_of_ble_eq_true rfl⟩) (g_preV eTrue_bl hK hE hP hD hS hA 0 rfl rfl) rfl rfl hl.1 rfl (lv_room (Nat.le_of_ble_eq_true rfl)) dX4_accesses_66 ⟨Nat.le_of_ble_eq_true rfl, Nat.le_of_ble_eq_true rfl⟩) hD hS hA (fun H locs hP hD hS => ?_)
  obtain ⟨u6, eu6⟩ : ∃ z, z = f_X4_pair u5 (239673 : Int32) (138 : Int32) (9 : Int32) := ⟨_, rfl⟩
  have hP : va_P G vwCl (wM yy a u6) H := by rw [eu6]; exact hP
  have hD : va_D A (wM yy a u6) := by rw [eu6]; exact hD
  have hqu6 : m_ct u6 = nI 164 := by rw [eu6]; exact ct_pair _ _ _ hqu5
  refine lv_aload_n hx hb dX4_accesses_69 rfl (lv_at hl 0 rfl) ?_
  refine lv_sipush (v := 8871) hx hb dX4_accesses_70 (by decide) ?_
  refine lv_sipush (v := 140) hx hb dX4_accesses_73 (by decide) ?_
  refine lv_bipush (v := 9) hx hb dX4_accesses_76 (by decide) ?_
  refine g_v (va_runV (As := [.int (8871 : Int32), .int (140 : Int32), .int (9 : Int32)]) (rest := []) ⟨hx, hb, hml, hown, hts⟩ (c_X4_pair l yy a u6 (8871 : Int32) (140 : Int32) (9 : Int32) (⟨164, by decide, hqu6⟩) G H.size) (cwV 3 hts gX4_accesses_X4_pair rfl rfl rfl (by decide +kernel) ⟨Nat.le_of_ble_eq_true rfl, Nat.le_of_ble_eq_true rfl⟩) (g_preV eTrue_bl hK hE hP hD hS hA 0 rfl rfl) rfl rfl hl.1 rfl (lv_room (Nat.le_of_ble_eq_true rfl)) dX4_accesses_78 ⟨Nat.le_of_ble_eq_true rfl, Nat.le_of_ble_eq_true rfl⟩) hD hS hA (fun H locs hP hD hS => ?_)
  obtain ⟨u7, eu7⟩ : ∃ z, z = f_X4_pair u6 (8871 : Int32) (140 : Int32) (9 : Int32) := ⟨_, rfl⟩
  have hP : va_P G vwCl (wM yy a u7) H := by rw [eu7]; exact hP
  have hD : va_D A (wM yy a u7) := by rw [eu7]; exact hD
  have hqu7 : m_ct u7 = nI 166 := by rw [eu7]; exact ct_pair _ _ _ hqu6
  refine lv_aload_n hx hb dX4_accesses_81 rfl (lv_at hl 0 rfl) ?_
  refine lv_ldc hx hb hown (hts (.constant RX4 97 (239538)) (by decide +kernel)) dX4_accesses_82 ?_
  refine lv_sipush (v := 142) hx hb dX4_accesses_84 (by decide) ?_
  refine lv_bipush (v := 9) hx hb dX4_accesses_87 (by decide) ?_
  refine g_v (va_runV (As := [.int (239538 : Int32), .int (142 : Int32), .int (9 : Int32)]) (rest := []) ⟨hx, hb, hml, hown, hts⟩ (c_X4_pair l yy a u7 (239538 : Int32) (142 : Int32) (9 : Int32) (⟨166, by decide, hqu7⟩) G H.size) (cwV 3 hts gX4_accesses_X4_pair rfl rfl rfl (by decide +kernel) ⟨Nat.le_of_ble_eq_true rfl, Nat.le_of_ble_eq_true rfl⟩) (g_preV eTrue_bl hK hE hP hD hS hA 0 rfl rfl) rfl rfl hl.1 rfl (lv_room (Nat.le_of_ble_eq_true rfl)) dX4_accesses_89 ⟨Nat.le_of_ble_eq_true rfl, Nat.le_of_ble_eq_true rfl⟩) hD hS hA (fun H locs hP hD hS => ?_)
  obtain ⟨u8, eu8⟩ : ∃ z, z = f_X4_pair u7 (239538 : Int32) (142 : Int32) (9 : Int32) := ⟨_, rfl⟩
  have hP : va_P G vwCl (wM yy a u8) H := by rw [eu8]; exact hP
  have hD : va_D A (wM yy a u8) := by rw [eu8]; exact hD
  have hqu8 : m_ct u8 = nI 168 := by rw [eu8]; exact ct_pair _ _ _ hqu7
  refine lv_aload_n hx hb dX4_accesses_92 rfl (lv_at hl 0 rfl) ?_
  refine lv_sipush (v := 326) hx hb dX4_accesses_93 (by decide) ?_
  refine lv_sipush (v := 128) hx hb dX4_accesses_96 (by decide) ?_
  refine lv_bipush (v := 9) hx hb dX4_accesses_99 (by decide) ?_
  refine g_v (va_runV (As := [.int (326 : Int32), .int (128 : Int32), .int (9 : Int32)]) (rest := []) ⟨hx, hb, hml, hown, hts⟩ (c_X4_pair l yy a u8 (326 : Int32) (128 : Int32) (9 : Int32) (⟨168, by decide, hqu8⟩) G H.size) (cwV 3 hts gX4_accesses_X4_pair rfl rfl rfl (by decide +kernel) ⟨Nat.le_of_ble_eq_true rfl, Nat.le_of_ble_eq_true rfl⟩) (g_preV eTrue_bl hK hE hP hD hS hA 0 rfl rfl) rfl rfl hl.1 rfl (lv_room (Nat.le_of_ble_eq_true rfl)) dX4_accesses_101 ⟨Nat.le_of_ble_eq_true rfl, Nat.le_of_ble_eq_true rfl⟩) hD hS hA (fun H locs hP hD hS => ?_)
  obtain ⟨u9, eu9⟩ : ∃ z, z = f_X4_pair u8 (326 : Int32) (128 : Int32) (9 : Int32) := ⟨_, rfl⟩
  have hP : va_P G vwCl (wM yy a u9) H := by rw [eu9]; exact hP
  have hD : va_D A (wM yy a u9) := by rw [eu9]; exact hD
  have hqu9 : m_ct u9 = nI 170 := by rw [eu9]; exact ct_pair _ _ _ hqu8
  refine lv_aload_n hx hb dX4_accesses_104 rfl (lv_at hl 0 rfl) ?_
  refine lv_sipush (v := 8823) hx hb dX4_accesses_105 (by decide) ?_
  refine lv_sipush (v := 130) hx hb dX4_accesses_108 (by decide) ?_
  refine lv_bipush (v := 9) hx hb dX4_accesses_111 (by decide) ?_
  refine g_v (va_runV (As := [.int (8823 : Int32), .int (130 : Int32), .int (9 : Int32)]) (rest := []) ⟨hx, hb, hml, hown, hts⟩ (c_X4_pair l yy a u9 (8823 : Int32) (130 : Int32) (9 : Int32) (⟨170, by decide, hqu9⟩) G H.size) (cwV 3 hts gX4_accesses_X4_pair rfl rfl rfl (by decide +kernel) ⟨Nat.le_of_ble_eq_true rfl, Nat.le_of_ble_eq_true rfl⟩) (g_preV eTrue_bl hK hE hP hD hS hA 0 rfl rfl) rfl rfl hl.1 rfl (lv_room (Nat.le_of_ble_eq_true rfl)) dX4_accesses_113 ⟨Nat.le_of_ble_eq_true rfl, Nat.le_of_ble_eq_true rfl⟩) hD hS hA (fun H locs hP hD hS => ?_)
  obtain ⟨u10, eu10⟩ : ∃ z, z = f_X4_pair u9 (8823 : Int32) (130 : Int32) (9 : Int32) := ⟨_, rfl⟩
  have hP : va_P G vwCl (wM yy a u10) H := by rw [eu10]; exact hP
  have hD : va_D A (wM yy a u10) := by rw [eu10]; exact hD
  have hqu10 : m_ct u10 = nI 172 := by rw [eu10]; exact ct_pair _ _ _ hqu9
  refine lv_aload_n hx hb dX4_accesses_116 rfl (lv_at hl 0 rfl) ?_
  refine lv_sipush (v := 347) hx hb dX4_accesses_117 (by decide) ?_
  refine lv_sipush (v := 132) hx hb dX4_accesses_120 (by decide) ?_
  refine lv_bipush (v := 9) hx hb dX4_accesses_123 (by decide) ?_
  refine g_v (va_runV (As := [.int (347 : Int32), .int (132 : Int32), .int (9 : Int32)]) (rest := []) ⟨hx, hb, hml, hown, hts⟩ (c_X4_pair l yy a u10 (347 : Int32) (132 : Int32) (9 : Int32) (⟨172, by decide, hqu10⟩) G H.size) (cwV 3 hts gX4_accesses_X4_pair rfl rfl rfl (by decide +kernel) ⟨Nat.le_of_ble_eq_true rfl, Nat.le_of_ble_eq_true rfl⟩) (g_preV eTrue_bl hK hE hP hD hS hA 0 rfl rfl) rfl rfl hl.1 rfl (lv_room (Nat.le_of_ble_eq_true rfl)) dX4_accesses_125 ⟨Nat.le_of_ble_eq_true rfl, Nat.le_of_ble_eq_true rfl⟩) hD hS hA (fun H locs hP hD hS => ?_)
  obtain ⟨u11, eu11⟩ : ∃ z, z = f_X4_pair u10 (347 : Int32) (132 : Int32) (9 : Int32) := ⟨_, rfl⟩
  have hP : va_P G vwCl (wM yy a u11) H := by rw [eu11]; exact hP
  have hD : va_D A (wM yy a u11) := by rw [eu11]; exact hD
  have hqu11 : m_ct u11 = nI 174 := by rw [eu11]; exact ct_pair _ _ _ hqu10
  refine lv_aload_n hx hb dX4_accesses_128 rfl (lv_at hl 0 rfl) ?_
  refine lv_sipush (v := 9390) hx hb dX4_accesses_129 (by decide) ?_
  refine lv_sipush (v := 134) hx hb dX4_accesses_132 (by decide) ?_
  refine lv_bipush (v := 9) hx hb dX4_accesses_135 (by decide) ?_
  refine g_v (va_runV (As := [.int (9390 : Int32), .int (134 : Int32), .int (9 : Int32)]) (rest := []) ⟨hx, hb, hml, hown, hts⟩ (c_X4_pair l yy a u11 (9390 : Int32) (134 : Int32) (9 : Int32) (⟨174, by decide, hqu11⟩) G H.size) (cwV 3 hts gX4_accesses_X4_pair rfl rfl rfl (by decide +kernel) ⟨Nat.le_of_ble_eq_true rfl, Nat.le_of_ble_eq_true rfl⟩) (g_preV eTrue_bl hK hE hP hD hS hA 0 rfl rfl) rfl rfl hl.1 rfl (lv_room (Nat.le_of_ble_eq_true rfl)) dX4_accesses_137 ⟨Nat.le_of_ble_eq_true rfl, Nat.le_of_ble_eq_true rfl⟩) hD hS hA (fun H locs hP hD hS => ?_)
  obtain ⟨u12, eu12⟩ : ∃ z, z = f_X4_pair u11 (9390 : Int32) (134 : Int32) (9 : Int32) := ⟨_, rfl⟩
  have hP : va_P G vwCl (wM yy a u12) H := by rw [eu12]; exact hP
  have hD : va_D A (wM yy a u12) := by rw [eu12]; exact hD
  have hqu12 : m_ct u12 = nI 176 := by rw [eu12]; exact ct_pair _ _ _ hqu11
  refine lv_aload_n hx hb dX4_accesses_140 rfl (lv_at hl 0 rfl) ?_
  refine lv_sipush (v := 344) hx hb dX4_accesses_141 (by decide) ?_
  refine lv_sipush (v := 136) hx hb dX4_accesses_144 (by decide) ?_
  refine lv_bipush (v := 9) hx hb dX4_accesses_147 (by decide) ?_
  refine g_v (va_runV (As := [.int (344 : Int32), .int (136 : Int32), .int (9 : Int32)]) (rest := []) ⟨hx, hb, hml, hown, hts⟩ (c_X4_pair l yy a u12 (344 : Int32) (136 : Int32) (9 : Int32) (⟨176, by decide, hqu12⟩) G H.size) (cwV 3 hts gX4_accesses_X4_pair rfl rfl rfl (by decide +kernel) ⟨Nat.le_of_ble_eq_true rfl, Nat.le_of_ble_eq_true rfl⟩) (g_preV eTrue_bl hK hE hP hD hS hA 0 rfl rfl) rfl rfl hl.1 rfl (lv_room (Nat.le_of_ble_eq_true rfl)) dX4_accesses_149 ⟨Nat.le_of_ble_eq_true rfl, Nat.le_of_ble_eq_true rfl⟩) hD hS hA (fun H locs hP hD hS => ?_)
  obtain ⟨u13, eu13⟩ : ∃ z, z = f_X4_pair u12 (344 : Int32) (136 : Int32) (9 : Int32) := ⟨_, rfl⟩
  have hP : va_P G vwCl (wM yy a u13) H := by rw [eu13]; exact hP
  have hD : va_D A (wM yy a u13) := by rw [eu13]; exact hD
  have hqu13 : m_ct u13 = nI 178 := by rw [eu13]; exact ct_pair _ _ _ hqu12
  refine lv_aload_n hx hb dX4_accesses_152 rfl (lv_at hl 0 rfl) ?_
  refine lv_sipush (v := 9309) hx hb dX4_accesses_153 (by decide) ?_
  refine lv_sipush (v := 138) hx hb dX4_accesses_156 (by decide) ?_
  refine lv_bipush (v := 9) hx hb dX4_accesses_159 (by decide) ?_
  refine g_v (va_runV (As := [.int (9309 : Int32), .int (138 : Int32), .int (9 : Int32)]) (rest := []) ⟨hx, hb, hml, hown, hts⟩ (c_X4_pair l yy a u13 (9309 : Int32) (138 : Int32) (9 : Int32) (⟨178, by decide, hqu13⟩) G H.size) (cwV 3 hts gX4_accesses_X4_pair rfl rfl rfl (by decide +kernel) ⟨Nat.le_of_ble_eq_true rfl, Nat.le_of_ble_eq_true rfl⟩) (g_preV eTrue_bl hK hE hP hD hS hA 0 rfl rfl) rfl rfl hl.1 rfl (lv_room (Nat.le_of_ble_eq_true rfl)) dX4_accesses_161 ⟨Nat.le_of_ble_eq_true rfl, Nat.le_of_ble_eq_true rfl⟩) hD hS hA (fun H locs hP hD hS => ?_)
  obtain ⟨u14, eu14⟩ : ∃ z, z = f_X4_pair u13 (9309 : Int32) (138 : Int32) (9 : Int32) := ⟨_, rfl⟩
  have hP : va_P G vwCl (wM yy a u14) H := by rw [eu14]; exact hP
  have hD : va_D A (wM yy a u14) := by rw [eu14]; exact hD
  have hqu14 : m_ct u14 = nI 180 := by rw [eu14]; exact ct_pair _ _ _ hqu13
  refine lv_aload_n hx hb dX4_accesses_164 rfl (lv_at hl 0 rfl) ?_
  refine lv_sipush (v := 339) hx hb dX4_accesses_165 (by decide) ?_
  refine lv_sipush (v := 140) hx hb dX4_accesses_168 (by decide) ?_
  refine lv_bipush (v := 9) hx hb dX4_accesses_171 (by decide) ?_
  refine g_v (va_runV (As := [.int (339 : Int32), .int (140 : Int32), .int (9 : Int32)]) (rest := []) ⟨hx, hb, hml, hown, hts⟩ (c_X4_pair l yy a u14 (339 : Int32) (140 : Int32) (9 : Int32) (⟨180, by decide, hqu14⟩) G H.size) (cwV 3 hts gX4_accesses_X4_pair rfl rfl rfl (by decide +kernel) ⟨Nat.le_of_ble_eq_true rfl, Nat.le_of_ble_eq_true rfl⟩) (g_preV eTrue_bl hK hE hP hD hS hA 0 rfl rfl) rfl rfl hl.1 rfl (lv_room (Nat.le_of_ble_eq_true rfl)) dX4_accesses_173 ⟨Nat.le_of_ble_eq_true rfl, Nat.le_of_ble_eq_true rfl⟩) hD hS hA (fun H locs hP hD hS => ?_)
  obtain ⟨u15, eu15⟩ : ∃ z, z = f_X4_pair u14 (339 : Int32) (140 : Int32) (9 : Int32) := ⟨_, rfl⟩
  have hP : va_P G vwCl (wM yy a u15) H := by rw [eu15]; exact hP
  have hD : va_D A (wM yy a u15) := by rw [eu15]; exact hD
  have hqu15 : m_ct u15 = nI 182 := by rw [eu15]; exact ct_pair _ _ _ hqu14
  refine lv_aload_n hx hb dX4_accesses_176 rfl (lv_at hl 0 rfl) ?_
  refine lv_sipush (v := 9174) hx hb dX4_accesses_177 (by decide) ?_
  refine lv_sipush (v := 142) hx hb dX4_accesses_180 (by decide) ?_
  refine lv_bipush (v := 9) hx hb dX4_accesses_183 (by decide) ?_
  refine g_v (va_runV (As := [.int (9174 : Int32), .int (142 : Int32), .int (9 : Int32)]) (rest := []) ⟨hx, hb, hml, hown, hts⟩ (c_X4_pair l yy a u15 (9174 : Int32) (142 : Int32) (9 : Int32) (⟨182, by decide, hqu15⟩) G H.size) (cwV 3 hts gX4_accesses_X4_pair rfl rfl rfl (by decide +kernel) ⟨Nat.le_of_ble_eq_true rfl, Nat.le_of_ble_eq_true rfl⟩) (g_preV eTrue_bl hK hE hP hD hS hA 0 rfl rfl) rfl rfl hl.1 rfl (lv_room (Nat.le_of_ble_eq_true rfl)) dX4_accesses_185 ⟨Nat.le_of_ble_eq_true rfl, Nat.le_of_ble_eq_true rfl⟩) hD hS hA (fun H locs hP hD hS => ?_)
  obtain ⟨u16, eu16⟩ : ∃ z, z = f_X4_pair u15 (9174 : Int32) (142 : Int32) (9 : Int32) := ⟨_, rfl⟩
  have hP : va_P G vwCl (wM yy a u16) H := by rw [eu16]; exact hP
  have hD : va_D A (wM yy a u16) := by rw [eu16]; exact hD
  have hqu16 : m_ct u16 = nI 184 := by rw [eu16]; exact ct_pair _ _ _ hqu15
  refine lv_aload_n hx hb dX4_accesses_188 rfl (lv_at hl 0 rfl) ?_
  refine lv_ldc hx hb hown (hts (.constant RX4 98 (239348)) (by decide +kernel)) dX4_accesses_189 ?_
  refine lv_sipush (v := 146) hx hb dX4_accesses_191 (by decide) ?_
  refine lv_bipush (v := 9) hx hb dX4_accesses_194 (by decide) ?_
  refine g_v (va_runV (As := [.int (239348 : Int32), .int (146 : Int32), .int (9 : Int32)]) (rest := []) ⟨hx, hb, hml, hown, hts⟩ (c_X4_pair l yy a u16 (239348 : Int32) (146 : Int32) (9 : Int32) (⟨184, by decide, hqu16⟩) G H.size) (cwV 3 hts gX4_accesses_X4_pair rfl rfl rfl (by decide +kernel) ⟨Nat.le_of_ble_eq_true rfl, Nat.le_of_ble_eq_true rfl⟩) (g_preV eTrue_bl hK hE hP hD hS hA 0 rfl rfl) rfl rfl hl.1 rfl (lv_room (Nat.le_of_ble_eq_true rfl)) dX4_accesses_196 ⟨Nat.le_of_ble_eq_true rfl, Nat.le_of_ble_eq_true rfl⟩) hD hS hA (fun H locs hP hD hS => ?_)
  obtain ⟨u17, eu17⟩ : ∃ z, z = f_X4_pair u16 (239348 : Int32) (146 : Int32) (9 : Int32) := ⟨_, rfl⟩
  have hP : va_P G vwCl (wM yy a u17) H := by rw [eu17]; exact hP
  have hD : va_D A (wM yy a u17) := by rw [eu17]; exact hD
  have hqu17 : m_ct u17 = nI 186 := by rw [eu17]; exact ct_pair _ _ _ hqu16
  refine lv_aload_n hx hb dX4_accesses_199 rfl (lv_at hl 0 rfl) ?_
  refine lv_sipush (v := 204) hx hb dX4_accesses_200 (by decide) ?_
  refine lv_sipush (v := 158) hx hb dX4_accesses_203 (by decide) ?_
  refine lv_bipush (v := 9) hx hb dX4_accesses_206 (by decide) ?_
  refine g_v (va_runV (As := [.int (204 : Int32), .int (158 : Int32), .int (9 : Int32)]) (rest := []) ⟨hx, hb, hml, hown, hts⟩ (c_X4_pair l yy a u17 (204 : Int32) (158 : Int32) (9 : Int32) (⟨186, by decide, hqu17⟩) G H.size) (cwV 3 hts gX4_accesses_X4_pair rfl rfl rfl (by decide +kernel) ⟨Nat.le_of_ble_eq_true rfl, Nat.le_of_ble_eq_true rfl⟩) (g_preV eTrue_bl hK hE hP hD hS hA 0 rfl rfl) rfl rfl hl.1 rfl (lv_room (Nat.le_of_ble_eq_true rfl)) dX4_accesses_208 ⟨Nat.le_of_ble_eq_true rfl, Nat.le_of_ble_eq_true rfl⟩) hD hS hA (fun H locs hP hD hS => ?_)
  obtain ⟨u18, eu18⟩ : ∃ z, z = f_X4_pair u17 (204 : Int32) (158 : Int32) (9 : Int32) := ⟨_, rfl⟩
  have hP : va_P G vwCl (wM yy a u18) H := by rw [eu18]; exact hP
  have hD : va_D A (wM yy a u18) := by rw [eu18]; exact hD
  have hqu18 : m_ct u18 = nI 188 := by rw [eu18]; exact ct_pair _ _ _ hqu17
  refine lv_aload_n hx hb dX4_accesses_211 rfl (lv_at hl 0 rfl) ?_
  refine lv_ldc hx hb hown (hts (.constant RX4 99 (212506)) (by decide +kernel)) dX4_accesses_212 ?_
  refine lv_sipush (v := 158) hx hb dX4_accesses_214 (by decide) ?_
  refine lv_bipush (v := 9) hx hb dX4_accesses_217 (by decide) ?_
  refine g_v (va_runV (As := [.int (212506 : Int32), .int (158 : Int32), .int (9 : Int32)]) (rest := []) ⟨hx, hb, hml, hown, hts⟩ (c_X4_pair l yy a u18 (212506 : Int32) (158 : Int32) (9 : Int32) (⟨188, by decide, hqu18⟩) G H.size) (cwV 3 hts gX4_accesses_X4_pair rfl rfl rfl (by decide +kernel) ⟨Nat.le_of_ble_eq_true rfl, Nat.le_of_ble_eq_true rfl⟩) (g_preV eTrue_bl hK hE hP hD hS hA 0 rfl rfl) rfl rfl hl.1 rfl (lv_room (Nat.le_of_ble_eq_true rfl)) dX4_accesses_219 ⟨Nat.le_of_ble_eq_true rfl, Nat.le_of_ble_eq_true rfl⟩) hD hS hA (fun H locs hP hD hS => ?_)
  obtain ⟨u19, eu19⟩ : ∃ z, z = f_X4_pair u18 (212506 : Int32) (158 : Int32) (9 : Int32) := ⟨_, rfl⟩
  have hP : va_P G vwCl (wM yy a u19) H := by rw [eu19]; exact hP
  have hD : va_D A (wM yy a u19) := by rw [eu19]; exact hD
  have hqu19 : m_ct u19 = nI 190 := by rw [eu19]; exact ct_pair _ _ _ hqu18
  refine lv_aload_n hx hb dX4_accesses_222 rfl (lv_at hl 0 rfl) ?_
  refine lv_sipush (v := 14393) hx hb dX4_accesses_223 (by decide) ?_
  refine lv_sipush (v := 160) hx hb dX4_accesses_226 (by decide) ?_
  refine lv_bipush (v := 9) hx hb dX4_accesses_229 (by decide) ?_
  refine g_v (va_runV (As := [.int (14393 : Int32), .int (160 : Int32), .int (9 : Int32)]) (rest := []) ⟨hx, hb, hml, hown, hts⟩ (c_X4_pair l yy a u19 (14393 : Int32) (160 : Int32) (9 : Int32) (⟨190, by decide, hqu19⟩) G H.size) (cwV 3 hts gX4_accesses_X4_pair rfl rfl rfl (by decide +kernel) ⟨Nat.le_of_ble_eq_true rfl, Nat.le_of_ble_eq_true rfl⟩) (g_preV eTrue_bl hK hE hP hD hS hA 0 rfl rfl) rfl rfl hl.1 rfl (lv_room (Nat.le_of_ble_eq_true rfl)) dX4_accesses_231 ⟨Nat.le_of_ble_eq_true rfl, Nat.le_of_ble_eq_true rfl⟩) hD hS hA (fun H locs hP hD hS => ?_)
  obtain ⟨u20, eu20⟩ : ∃ z, z = f_X4_pair u19 (14393 : Int32) (160 : Int32) (9 : Int32) := ⟨_, rfl⟩
  have hP : va_P G vwCl (wM yy a u20) H := by rw [eu20]; exact hP
  have hD : va_D A (wM yy a u20) := by rw [eu20]; exact hD
  have hqu20 : m_ct u20 = nI 192 := by rw [eu20]; exact ct_pair _ _ _ hqu19
  refine lv_aload_n hx hb dX4_accesses_234 rfl (lv_at hl 0 rfl) ?_
  refine lv_ldc hx hb hown (hts (.constant RX4 100 (388632)) (by decide +kernel)) dX4_accesses_235 ?_
  refine lv_sipush (v := 162) hx hb dX4_accesses_237 (by decide) ?_
  refine lv_bipush (v := 9) hx hb dX4_accesses_240 (by decide) ?_
  refine g_v (va_runV (As := [.int (388632 : Int32), .int (162 : Int32), .int (9 : Int32)]) (rest := []) ⟨hx, hb, hml, hown, hts⟩ (c_X4_pair l yy a u20 (388632 : Int32) (162 : Int32) (9 : Int32) (⟨192, by decide, hqu20⟩) G H.size) (cwV 3 hts gX4_accesses_X4_pair rfl rfl rfl (by decide +kernel) ⟨Nat.le_of_ble_eq_true rfl, Nat.le_of_ble_eq_true rfl⟩) (g_preV eTrue_bl hK hE hP hD hS hA 0 rfl rfl) rfl rfl hl.1 rfl (lv_room (Nat.le_of_ble_eq_true rfl)) dX4_accesses_242 ⟨Nat.le_of_ble_eq_true rfl, Nat.le_of_ble_eq_true rfl⟩) hD hS hA (fun H locs hP hD hS => ?_)
  obtain ⟨u21, eu21⟩ : ∃ z, z = f_X4_pair u20 (388632 : Int32) (162 : Int32) (9 : Int32) := ⟨_, rfl⟩
  have hP : va_P G vwCl (wM yy a u21) H := by rw [eu21]; exact hP
  have hD : va_D A (wM yy a u21) := by rw [eu21]; exact hD
  have hqu21 : m_ct u21 = nI 194 := by rw [eu21]; exact ct_pair _ _ _ hqu20
  refine lv_aload_n hx hb dX4_accesses_245 rfl (lv_at hl 0 rfl) ?_
  refine lv_sipush (v := 14414) hx hb dX4_accesses_246 (by decide) ?_
  refine lv_sipush (v := 164) hx hb dX4_accesses_249 (by decide) ?_
  refine lv_bipush (v := 9) hx hb dX4_accesses_252 (by decide) ?_
  refine g_v (va_runV (As := [.int (14414 : Int32), .int (164 : Int32), .int (9 : Int32)]) (rest := []) ⟨hx, hb, hml, hown, hts⟩ (c_X4_pair l yy a u21 (14414 : Int32) (164 : Int32) (9 : Int32) (⟨194, by decide, hqu21⟩) G H.size) (cwV 3 hts gX4_accesses_X4_pair rfl rfl rfl (by decide +kernel) ⟨Nat.le_of_ble_eq_true rfl, Nat.le_of_ble_eq_true rfl⟩) (g_preV eTrue_bl hK hE hP hD hS hA 0 rfl rfl) rfl rfl hl.1 rfl (lv_room (Nat.le_of_ble_eq_true rfl)) dX4_accesses_254 ⟨Nat.le_of_ble_eq_true rfl, Nat.le_of_ble_eq_true rfl⟩) hD hS hA (fun H locs hP hD hS => ?_)
  obtain ⟨u22, eu22⟩ : ∃ z, z = f_X4_pair u21 (14414 : Int32) (164 : Int32) (9 : Int32) := ⟨_, rfl⟩
  have hP : va_P G vwCl (wM yy a u22) H := by rw [eu22]; exact hP
  have hD : va_D A (wM yy a u22) := by rw [eu22]; exact hD
  have hqu22 : m_ct u22 = nI 196 := by rw [eu22]; exact ct_pair _ _ _ hqu21
  refine lv_aload_n hx hb dX4_accesses_257 rfl (lv_at hl 0 rfl) ?_
  refine lv_ldc hx hb hown (hts (.constant RX4 101 (389199)) (by decide +kernel)) dX4_accesses_258 ?_
  refine lv_sipush (v := 166) hx hb dX4_accesses_260 (by decide) ?_
  refine lv_bipush (v := 9) hx hb dX4_accesses_263 (by decide) ?_
  refine g_v (va_runV (As := [.int (389199 : Int32), .int (166 : Int32), .int (9 : Int32)]) (rest := []) ⟨hx, hb, hml, hown, hts⟩ (c_X4_pair l yy a u22 (389199 : Int32) (166 : Int32) (9 : Int32) (⟨196, by decide, hqu22⟩) G H.size) (cwV 3 hts gX4_accesses_X4_pair rfl rfl rfl (by decide +kernel) ⟨Nat.le_of_ble_eq_true rfl, Nat.le_of_ble_eq_true rfl⟩) (g_preV eTrue_bl hK hE hP hD hS hA 0 rfl rfl) rfl rfl hl.1 rfl (lv_room (Nat.le_of_ble_eq_true rfl)) dX4_accesses_265 ⟨Nat.le_of_ble_eq_true rfl, Nat.le_of_ble_eq_true rfl⟩) hD hS hA (fun H locs hP hD hS => ?_)
  obtain ⟨u23, eu23⟩ : ∃ z, z = f_X4_pair u22 (389199 : Int32) (166 : Int32) (9 : Int32) := ⟨_, rfl⟩
  have hP : va_P G vwCl (wM yy a u23) H := by rw [eu23]; exact hP
  have hD : va_D A (wM yy a u23) := by rw [eu23]; exact hD
  have hqu23 : m_ct u23 = nI 198 := by rw [eu23]; exact ct_pair _ _ _ hqu22
  refine lv_aload_n hx hb dX4_accesses_268 rfl (lv_at hl 0 rfl) ?_
  refine lv_sipush (v := 14411) hx hb dX4_accesses_269 (by decide) ?_
  refine lv_sipush (v := 168) hx hb dX4_accesses_272 (by decide) ?_
  refine lv_bipush (v := 9) hx hb dX4_accesses_275 (by decide) ?_
  refine g_v (va_runV (As := [.int (14411 : Int32), .int (168 : Int32), .int (9 : Int32)]) (rest := []) ⟨hx, hb, hml, hown, hts⟩ (c_X4_pair l yy a u23 (14411 : Int32) (168 : Int32) (9 : Int32) (⟨198, by decide, hqu23⟩) G H.size) (cwV 3 hts gX4_accesses_X4_pair rfl rfl rfl (by decide +kernel) ⟨Nat.le_of_ble_eq_true rfl, Nat.le_of_ble_eq_true rfl⟩) (g_preV eTrue_bl hK hE hP hD hS hA 0 rfl rfl) rfl rfl hl.1 rfl (lv_room (Nat.le_of_ble_eq_true rfl)) dX4_accesses_277 ⟨Nat.le_of_ble_eq_true rfl, Nat.le_of_ble_eq_true rfl⟩) hD hS hA (fun H locs hP hD hS => ?_)
  obtain ⟨u24, eu24⟩ : ∃ z, z = f_X4_pair u23 (14411 : Int32) (168 : Int32) (9 : Int32) := ⟨_, rfl⟩
  have hP : va_P G vwCl (wM yy a u24) H := by rw [eu24]; exact hP
  have hD : va_D A (wM yy a u24) := by rw [eu24]; exact hD
  have hqu24 : m_ct u24 = nI 200 := by rw [eu24]; exact ct_pair _ _ _ hqu23
  refine lv_aload_n hx hb dX4_accesses_280 rfl (lv_at hl 0 rfl) ?_
  refine lv_ldc hx hb hown (hts (.constant RX4 102 (389118)) (by decide +kernel)) dX4_accesses_281 ?_
  refine lv_sipush (v := 170) hx hb dX4_accesses_283 (by decide) ?_
  refine lv_bipush (v := 9) hx hb dX4_accesses_286 (by decide) ?_
  refine g_v (va_runV (As := [.int (389118 : Int32), .int (170 : Int32), .int (9 : Int32)]) (rest := []) ⟨hx, hb, hml, hown, hts⟩ (c_X4_pair l yy a u24 (389118 : Int32) (170 : Int32) (9 : Int32) (⟨200, by decide, hqu24⟩) G H.size) (cwV 3 hts gX4_accesses_X4_pair rfl rfl rfl (by decide +kernel) ⟨Nat.le_of_ble_eq_true rfl, Nat.le_of_ble_eq_true rfl⟩) (g_preV eTrue_bl hK hE hP hD hS hA 0 rfl rfl) rfl rfl hl.1 rfl (lv_room (Nat.le_of_ble_eq_true rfl)) dX4_accesses_288 ⟨Nat.le_of_ble_eq_true rfl, Nat.le_of_ble_eq_true rfl⟩) hD hS hA (fun H locs hP hD hS => ?_)
  obtain ⟨u25, eu25⟩ : ∃ z, z = f_X4_pair u24 (389118 : Int32) (170 : Int32) (9 : Int32) := ⟨_, rfl⟩
  have hP : va_P G vwCl (wM yy a u25) H := by rw [eu25]; exact hP
  have hD : va_D A (wM yy a u25) := by rw [eu25]; exact hD
  have hqu25 : m_ct u25 = nI 202 := by rw [eu25]; exact ct_pair _ _ _ hqu24
  refine lv_aload_n hx hb dX4_accesses_291 rfl (lv_at hl 0 rfl) ?_
  refine lv_sipush (v := 14406) hx hb dX4_accesses_292 (by decide) ?_
  refine lv_sipush (v := 172) hx hb dX4_accesses_295 (by decide) ?_
  refine lv_bipush (v := 9) hx hb dX4_accesses_298 (by decide) ?_
  refine g_v (va_runV (As := [.int (14406 : Int32), .int (172 : Int32), .int (9 : Int32)]) (rest := []) ⟨hx, hb, hml, hown, hts⟩ (c_X4_pair l yy a u25 (14406 : Int32) (172 : Int32) (9 : Int32) (⟨202, by decide, hqu25⟩) G H.size) (cwV 3 hts gX4_accesses_X4_pair rfl rfl rfl (by decide +kernel) ⟨Nat.le_of_ble_eq_true rfl, Nat.le_of_ble_eq_true rfl⟩) (g_preV eTrue_bl hK hE hP hD hS hA 0 rfl rfl) rfl rfl hl.1 rfl (lv_room (Nat.le_of_ble_eq_true rfl)) dX4_accesses_300 ⟨Nat.le_of_ble_eq_true rfl, Nat.le_of_ble_eq_true rfl⟩) hD hS hA (fun H locs hP hD hS => ?_)
  obtain ⟨u26, eu26⟩ : ∃ z, z = f_X4_pair u25 (14406 : Int32) (172 : Int32) (9 : Int32) := ⟨_, rfl⟩
  have hP : va_P G vwCl (wM yy a u26) H := by rw [eu26]; exact hP
  have hD : va_D A (wM yy a u26) := by rw [eu26]; exact hD
  have hqu26 : m_ct u26 = nI 204 := by rw [eu26]; exact ct_pair _ _ _ hqu25
  refine lv_aload_n hx hb dX4_accesses_303 rfl (lv_at hl 0 rfl) ?_
  refine lv_ldc hx hb hown (hts (.constant RX4 103 (388983)) (by decide +kernel)) dX4_accesses_304 ?_
  refine lv_sipush (v := 174) hx hb dX4_accesses_306 (by decide) ?_
  refine lv_bipush (v := 9) hx hb dX4_accesses_309 (by decide) ?_
  refine g_v (va_runV (As := [.int (388983 : Int32), .int (174 : Int32), .int (9 : Int32)]) (rest := []) ⟨hx, hb, hml, hown, hts⟩ (c_X4_pair l yy a u26 (388983 : Int32) (174 : Int32) (9 : Int32) (⟨204, by decide, hqu26⟩) G H.size) (cwV 3 hts gX4_accesses_X4_pair rfl rfl rfl (by decide +kernel) ⟨Nat.le_of_ble_eq_true rfl, Nat.le_of_ble_eq_true rfl⟩) (g_preV eTrue_bl hK hE hP hD hS hA 0 rfl rfl) rfl rfl hl.1 rfl (lv_room (Nat.le_of_ble_eq_true rfl)) dX4_accesses_311 ⟨Nat.le_of_ble_eq_true rfl, Nat.le_of_ble_eq_true rfl⟩) hD hS hA (fun H locs hP hD hS => ?_)
  obtain ⟨u27, eu27⟩ : ∃ z, z = f_X4_pair u26 (388983 : Int32) (174 : Int32) (9 : Int32) := ⟨_, rfl⟩
  have hP : va_P G vwCl (wM yy a u27) H := by rw [eu27]; exact hP
  have hD : va_D A (wM yy a u27) := by rw [eu27]; exact hD
  have hqu27 : m_ct u27 = nI 206 := by rw [eu27]; exact ct_pair _ _ _ hqu26
  refine lv_aload_n hx hb dX4_accesses_314 rfl (lv_at hl 0 rfl) ?_
  refine lv_sipush (v := 515) hx hb dX4_accesses_315 (by decide) ?_
  refine lv_sipush (v := 160) hx hb dX4_accesses_318 (by decide) ?_
  refine lv_bipush (v := 9) hx hb dX4_accesses_321 (by decide) ?_
  refine g_v (va_runV (As := [.int (515 : Int32), .int (160 : Int32), .int (9 : Int32)]) (rest := []) ⟨hx, hb, hml, hown, hts⟩ (c_X4_pair l yy a u27 (515 : Int32) (160 : Int32) (9 : Int32) (⟨206, by decide, hqu27⟩) G H.size) (cwV 3 hts gX4_accesses_X4_pair rfl rfl rfl (by decide +kernel) ⟨Nat.le_of_ble_eq_true rfl, Nat.le_of_ble_eq_true rfl⟩) (g_preV eTrue_bl hK hE hP hD hS hA 0 rfl rfl) rfl rfl hl.1 rfl (lv_room (Nat.le_of_ble_eq_true rfl)) dX4_accesses_323 ⟨Nat.le_of_ble_eq_true rfl, Nat.le_of_ble_eq_true rfl⟩) hD hS hA (fun H locs hP hD hS => ?_)
  obtain ⟨u28, eu28⟩ : ∃ z, z = f_X4_pair u27 (515 : Int32) (160 : Int32) (9 : Int32) := ⟨_, rfl⟩
  have hP : va_P G vwCl (wM yy a u28) H := by rw [eu28]; exact hP
  have hD : va_D A (wM yy a u28) := by rw [eu28]; exact hD
  have hqu28 : m_ct u28 = nI 208 := by rw [eu28]; exact ct_pair _ _ _ hqu27
  refine lv_aload_n hx hb dX4_accesses_326 rfl (lv_at hl 0 rfl) ?_
  refine lv_sipush (v := 536) hx hb dX4_accesses_327 (by decide) ?_
  refine lv_sipush (v := 164) hx hb dX4_accesses_330 (by decide) ?_
  refine lv_bipush (v := 9) hx hb dX4_accesses_333 (by decide) ?_
  refine g_v (va_runV (As := [.int (536 : Int32), .int (164 : Int32), .int (9 : Int32)]) (rest := []) ⟨hx, hb, hml, hown, hts⟩ (c_X4_pair l yy a u28 (536 : Int32) (164 : Int32) (9 : Int32) (⟨208, by decide, hqu28⟩) G H.size) (cwV 3 hts gX4_accesses_X4_pair rfl rfl rfl (by decide +kernel) ⟨Nat.le_of_ble_eq_true rfl, Nat.le_of_ble_eq_true rfl⟩) (g_preV eTrue_bl hK hE hP hD hS hA 0 rfl rfl) rfl rfl hl.1 rfl (lv_room (Nat.le_of_ble_eq_true rfl)) dX4_accesses_335 ⟨Nat.le_of_ble_eq_true rfl, Nat.le_of_ble_eq_true rfl⟩) hD hS hA (fun H locs hP hD hS => ?_)
  obtain ⟨u29, eu29⟩ : ∃ z, z = f_X4_pair u28 (536 : Int32) (164 : Int32) (9 : Int32) := ⟨_, rfl⟩
  have hP : va_P G vwCl (wM yy a u29) H := by rw [eu29]; exact hP
  have hD : va_D A (wM yy a u29) := by rw [eu29]; exact hD
  have hqu29 : m_ct u29 = nI 210 := by rw [eu29]; exact ct_pair _ _ _ hqu28
  refine lv_aload_n hx hb dX4_accesses_338 rfl (lv_at hl 0 rfl) ?_
  refine lv_sipush (v := 533) hx hb dX4_accesses_339 (by decide) ?_
  refine lv_sipush (v := 168) hx hb dX4_accesses_342 (by decide) ?_
  refine lv_bipush (v := 9) hx hb dX4_accesses_345 (by decide) ?_
  refine g_v (va_runV (As := [.int (533 : Int32), .int (168 : Int32), .int (9 : Int32)]) (rest := []) ⟨hx, hb, hml, hown, hts⟩ (c_X4_pair l yy a u29 (533 : Int32) (168 : Int32) (9 : Int32) (⟨210, by decide, hqu29⟩) G H.size) (cwV 3 hts gX4_accesses_X4_pair rfl rfl rfl (by decide +kernel) ⟨Nat.le_of_ble_eq_true rfl, Nat.le_of_ble_eq_true rfl⟩) (g_preV eTrue_bl hK hE hP hD hS hA 0 rfl rfl) rfl rfl hl.1 rfl (lv_room (Nat.le_of_ble_eq_true rfl)) dX4_accesses_347 ⟨Nat.le_of_ble_eq_true rfl, Nat.le_of_ble_eq_true rfl⟩) hD hS hA (fun H locs hP hD hS => ?_)
  obtain ⟨u30, eu30⟩ : ∃ z, z = f_X4_pair u29 (533 : Int32) (168 : Int32) (9 : Int32) := ⟨_, rfl⟩
  have hP : va_P G vwCl (wM yy a u30) H := by rw [eu30]; exact hP
  have hD : va_D A (wM yy a u30) := by rw [eu30]; exact hD
  have hqu30 : m_ct u30 = nI 212 := by rw [eu30]; exact ct_pair _ _ _ hqu29
  refine lv_aload_n hx hb dX4_accesses_350 rfl (lv_at hl 0 rfl) ?_
  refine lv_sipush (v := 528) hx hb dX4_accesses_351 (by decide) ?_
  refine lv_sipush (v := 172) hx hb dX4_accesses_354 (by decide) ?_
  refine lv_bipush (v := 9) hx hb dX4_accesses_357 (by decide) ?_
  refine g_v (va_runV (As := [.int (528 : Int32), .int (172 : Int32), .int (9 : Int32)]) (rest := []) ⟨hx, hb, hml, hown, hts⟩ (c_X4_pair l yy a u30 (528 : Int32) (172 : Int32) (9 : Int32) (⟨212, by decide, hqu30⟩) G H.size) (cwV 3 hts gX4_accesses_X4_pair rfl rfl rfl (by decide +kernel) ⟨Nat.le_of_ble_eq_true rfl, Nat.le_of_ble_eq_true rfl⟩) (g_preV eTrue_bl hK hE hP hD hS hA 0 rfl rfl) rfl rfl hl.1 rfl (lv_room (Nat.le_of_ble_eq_true rfl)) dX4_accesses_359 ⟨Nat.le_of_ble_eq_true rfl, Nat.le_of_ble_eq_true rfl⟩) hD hS hA (fun H locs hP hD hS => ?_)
  obtain ⟨u31, eu31⟩ : ∃ z, z = f_X4_pair u30 (528 : Int32) (172 : Int32) (9 : Int32) := ⟨_, rfl⟩
  have hP : va_P G vwCl (wM yy a u31) H := by rw [eu31]; exact hP
  have hD : va_D A (wM yy a u31) := by rw [eu31]; exact hD
  have hqu31 : m_ct u31 = nI 214 := by rw [eu31]; exact ct_pair _ _ _ hqu30
  refine lv_aload_n hx hb dX4_accesses_362 rfl (lv_at hl 0 rfl) ?_
  refine lv_ldc hx hb hown (hts (.constant RX4 104 (388793)) (by decide +kernel)) dX4_accesses_363 ?_
  refine lv_sipush (v := 178) hx hb dX4_accesses_365 (by decide) ?_
  refine lv_bipush (v := 9) hx hb dX4_accesses_368 (by decide) ?_
  refine g_v (va_runV (As := [.int (388793 : Int32), .int (178 : Int32), .int (9 : Int32)]) (rest := []) ⟨hx, hb, hml, hown, hts⟩ (c_X4_pair l yy a u31 (388793 : Int32) (178 : Int32) (9 : Int32) (⟨214, by decide, hqu31⟩) G H.size) (cwV 3 hts gX4_accesses_X4_pair rfl rfl rfl (by decide +kernel) ⟨Nat.le_of_ble_eq_true rfl, Nat.le_of_ble_eq_true rfl⟩) (g_preV eTrue_bl hK hE hP hD hS hA 0 rfl rfl) rfl rfl hl.1 rfl (lv_room (Nat.le_of_ble_eq_true rfl)) dX4_accesses_370 ⟨Nat.le_of_ble_eq_true rfl, Nat.le_of_ble_eq_true rfl⟩) hD hS hA (fun H locs hP hD hS => ?_)
  obtain ⟨u32, eu32⟩ : ∃ z, z = f_X4_pair u31 (388793 : Int32) (178 : Int32) (9 : Int32) := ⟨_, rfl⟩
  have hP : va_P G vwCl (wM yy a u32) H := by rw [eu32]; exact hP
  have hD : va_D A (wM yy a u32) := by rw [eu32]; exact hD
  have hqu32 : m_ct u32 = nI 216 := by rw [eu32]; exact ct_pair _ _ _ hqu31
  refine lv_aload_n hx hb dX4_accesses_373 rfl (lv_at hl 0 rfl) ?_
  refine lv_ldc hx hb hown (hts (.constant RX4 105 (388653)) (by decide +kernel)) dX4_accesses_374 ?_
  refine lv_sipush (v := 180) hx hb dX4_accesses_376 (by decide) ?_
  refine lv_bipush (v := 9) hx hb dX4_accesses_379 (by decide) ?_
  refine g_v (va_runV (As := [.int (388653 : Int32), .int (180 : Int32), .int (9 : Int32)]) (rest := []) ⟨hx, hb, hml, hown, hts⟩ (c_X4_pair l yy a u32 (388653 : Int32) (180 : Int32) (9 : Int32) (⟨216, by decide, hqu32⟩) G H.size) (cwV 3 hts gX4_accesses_X4_pair rfl rfl rfl (by decide +kernel) ⟨Nat.le_of_ble_eq_true rfl, Nat.le_of_ble_eq_true rfl⟩) (g_preV eTrue_bl hK hE hP hD hS hA 0 rfl rfl) rfl rfl hl.1 rfl (lv_room (Nat.le_of_ble_eq_true rfl)) dX4_accesses_381 ⟨Nat.le_of_ble_eq_true rfl, Nat.le_of_ble_eq_true rfl⟩) hD hS hA (fun H locs hP hD hS => ?_)
  obtain ⟨u33, eu33⟩ : ∃ z, z = f_X4_pair u32 (388653 : Int32) (180 : Int32) (9 : Int32) := ⟨_, rfl⟩
  have hP : va_P G vwCl (wM yy a u33) H := by rw [eu33]; exact hP
  have hD : va_D A (wM yy a u33) := by rw [eu33]; exact hD
  have hqu33 : m_ct u33 = nI 218 := by rw [eu33]; exact ct_pair _ _ _ hqu32
  exact g_vret (by have eu33 := eu33.symm; subst eu33; have eu32 := eu32.symm; subst eu32; have eu31 := eu31.symm; subst eu31; have eu30 := eu30.symm; subst eu30; have eu29 := eu29.symm; subst eu29; have eu28 := eu28.symm; subst eu28; have eu27 := eu27.symm; subst eu27; have eu26 := eu26.symm; subst eu26; have eu25 := eu25.symm; subst eu25; have eu24 := eu24.symm; subst eu24; have eu23 := eu23.symm; subst eu23; have eu22 := eu22.symm; subst eu22; have eu21 := eu21.symm; subst eu21; have eu20 := eu20.symm; subst eu20; have eu19 := eu19.symm; subst eu19; have eu18 := eu18.symm; subst eu18; have eu17 := eu17.symm; subst eu17; have eu16 := eu16.symm; subst eu16; have eu15 := eu15.symm; subst eu15; have eu14 := eu14.symm; subst eu14; have eu13 := eu13.symm; subst eu13; have eu12 := eu12.symm; subst eu12; have eu11 := eu11.symm; subst eu11; have eu10 := eu10.symm; subst eu10; have eu9 := eu9.symm; subst eu9; have eu8 := eu8.symm; subst eu8; have eu7 := eu7.symm; subst eu7; have eu6 := eu6.symm; subst eu6; have eu5 := eu5.symm; subst eu5; have eu4 := eu4.symm; subst eu4; have eu3 := eu3.symm; subst eu3; have eu2 := eu2.symm; subst eu2; have eu1 := eu1.symm; subst eu1; exact rfl) hx hb hr hP hD hS hlocks dX4_accesses_384
