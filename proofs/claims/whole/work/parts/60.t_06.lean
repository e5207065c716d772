def f_X4_conditions (u : MS)  : MS :=
  let u1 : MS := f_X4_pair u (68 : Int32) (64 : Int32) (2 : Int32);
  let u2 : MS := f_X4_pair u1 (80 : Int32) (66 : Int32) (2 : Int32);
  let u3 : MS := f_X4_pair u2 (70 : Int32) (68 : Int32) (2 : Int32);
  let u4 : MS := f_X4_pair u3 (1867 : Int32) (70 : Int32) (2 : Int32);
  let u5 : MS := f_X4_pair u4 (1850 : Int32) (72 : Int32) (2 : Int32);
  let u6 : MS := f_X4_pair u5 (1862 : Int32) (74 : Int32) (2 : Int32);
  let u7 : MS := f_X4_pair u6 (1852 : Int32) (76 : Int32) (2 : Int32);
  let u8 : MS := f_X4_pair u7 (1615 : Int32) (78 : Int32) (2 : Int32);
  let u9 : MS := f_X4_pair u8 (1802 : Int32) (64 : Int32) (2 : Int32);
  let u10 : MS := f_X4_pair u9 (1610 : Int32) (66 : Int32) (2 : Int32);
  let u11 : MS := f_X4_pair u10 (1667 : Int32) (68 : Int32) (2 : Int32);
  let u12 : MS := f_X4_pair u11 (1652 : Int32) (72 : Int32) (2 : Int32);
  let u13 : MS := f_X4_pair u12 (1841 : Int32) (74 : Int32) (2 : Int32);
  let u14 : MS := f_X4_pair u13 (1787 : Int32) (76 : Int32) (2 : Int32);
  let u15 : MS := f_X4_pair u14 (11732 : Int32) (80 : Int32) (2 : Int32);
  let u16 : MS := f_X4_pair u15 (11744 : Int32) (82 : Int32) (2 : Int32);
  let u17 : MS := f_X4_pair u16 (11734 : Int32) (84 : Int32) (2 : Int32);
  let u18 : MS := f_X4_pair u17 (316795 : Int32) (86 : Int32) (2 : Int32);
  let u19 : MS := f_X4_pair u18 (316778 : Int32) (88 : Int32) (2 : Int32);
  let u20 : MS := f_X4_pair u19 (316790 : Int32) (90 : Int32) (2 : Int32);
  let u21 : MS := f_X4_pair u20 (316780 : Int32) (92 : Int32) (2 : Int32);
  let u22 : MS := f_X4_pair u21 (316543 : Int32) (94 : Int32) (2 : Int32);
  let u23 : MS := f_X4_pair u22 (316730 : Int32) (80 : Int32) (2 : Int32);
  let u24 : MS := f_X4_pair u23 (316538 : Int32) (82 : Int32) (2 : Int32);
  let u25 : MS := f_X4_pair u24 (316595 : Int32) (84 : Int32) (2 : Int32);
  let u26 : MS := f_X4_pair u25 (316580 : Int32) (88 : Int32) (2 : Int32);
  let u27 : MS := f_X4_pair u26 (316769 : Int32) (90 : Int32) (2 : Int32);
  let u28 : MS := f_X4_pair u27 (316715 : Int32) (92 : Int32) (2 : Int32);
  let u29 : MS := f_X4_pair u28 (2714 : Int32) (96 : Int32) (9 : Int32);
  let u30 : MS := f_X4_pair u29 (2726 : Int32) (98 : Int32) (9 : Int32);
  let u31 : MS := f_X4_pair u30 (2716 : Int32) (100 : Int32) (9 : Int32);
  let u32 : MS := f_X4_pair u31 (73309 : Int32) (102 : Int32) (9 : Int32);
  let u33 : MS := f_X4_pair u32 (73292 : Int32) (104 : Int32) (9 : Int32);
  let u34 : MS := f_X4_pair u33 (73304 : Int32) (106 : Int32) (9 : Int32);
  let u35 : MS := f_X4_pair u34 (73294 : Int32) (108 : Int32) (9 : Int32);
  let u36 : MS := f_X4_pair u35 (73057 : Int32) (110 : Int32) (9 : Int32);
  let u37 : MS := f_X4_pair u36 (73244 : Int32) (96 : Int32) (9 : Int32);
  let u38 : MS := f_X4_pair u37 (73052 : Int32) (98 : Int32) (9 : Int32);
  let u39 : MS := f_X4_pair u38 (73109 : Int32) (100 : Int32) (9 : Int32);
  let u40 : MS := f_X4_pair u39 (73094 : Int32) (104 : Int32) (9 : Int32);
  let u41 : MS := f_X4_pair u40 (73283 : Int32) (106 : Int32) (9 : Int32);
  let u42 : MS := f_X4_pair u41 (73229 : Int32) (108 : Int32) (9 : Int32);
  let u43 : MS := f_X4_pair u42 (19481 : Int32) (112 : Int32) (9 : Int32);
  let u44 : MS := f_X4_pair u43 (19493 : Int32) (114 : Int32) (9 : Int32);
  let u45 : MS := f_X4_pair u44 (19483 : Int32) (116 : Int32) (9 : Int32);
  let u46 : MS := f_X4_pair u45 (526018 : Int32) (118 : Int32) (9 : Int32);
  let u47 : MS := f_X4_pair u46 (526001 : Int32) (120 : Int32) (9 : Int32);
  let u48 : MS := f_X4_pair u47 (526013 : Int32) (122 : Int32) (9 : Int32);
  let u49 : MS := f_X4_pair u48 (526003 : Int32) (124 : Int32) (9 : Int32);
  let u50 : MS := f_X4_pair u49 (525766 : Int32) (126 : Int32) (9 : Int32);
  let u51 : MS := f_X4_pair u50 (525953 : Int32) (112 : Int32) (9 : Int32);
  let u52 : MS := f_X4_pair u51 (525761 : Int32) (114 : Int32) (9 : Int32);
  let u53 : MS := f_X4_pair u52 (525818 : Int32) (116 : Int32) (9 : Int32);
  let u54 : MS := f_X4_pair u53 (525803 : Int32) (120 : Int32) (9 : Int32);
  let u55 : MS := f_X4_pair u54 (525992 : Int32) (122 : Int32) (9 : Int32);
  let u56 : MS := f_X4_pair u55 (525938 : Int32) (124 : Int32) (9 : Int32);
  u56
abbrev rm_X4_conditions : Room := { frames := 2, cells := 0, slots := 0, locals := 45 }
set_option maxHeartbeats 4000000 in
set_option maxRecDepth 100000 in
theorem c_X4_conditions (l : Launch) (yy : Nat → ClassId) (a : Nat → Nat) (u : MS) (h0 : m_ct u = nI 40) : gMv l yX4_conditions wsX4_conditions rm_X4_conditions eTrue (sT yy) (wM yy a) [.ref (a 0)] u (f_X4_conditions u) := by
  refine gm_ofW (Qc := gQv (wM yy a) (f_X4_conditions u)) (by decide) rfl (Nat.le_of_ble_eq_true rfl) ?_
  intro G A p e s m args below meth c hx hb hr hml hts hown hlocks hK hE hA H locs hP hD hS ls hl
  have hl : lv_has ls 1 [(0, .ref (a 0))] := hl
  refine lv_aload_n hx hb dX4_conditions_0 rfl (lv_at hl 0 rfl) ?_
  refine lv_bipush (v := 68) hx hb dX4_conditions_1 (by decide) ?_
  refine lv_bipush (v := 64) hx hb dX4_conditions_3 (by decide) ?_
  refine lv_iconst (v := 2) hx hb dX4_conditions_5 (by decide) ?_
  refine g_v (va_runV (As := [.int (68 : Int32), .int (64 : Int32), .int (2 : Int32)]) (rest := []) ⟨hx, hb, hml, hown, hts⟩ (c_X4_pair l yy a u (68 : Int32) (64 : Int32) (2 : Int32) (⟨40, by decide, h0⟩) G H.size) (cwV 3 hts gX4_conditions_X4_pair rfl rfl rfl (by decide +kernel) ⟨Nat.le_of_ble_eq_true rfl, Nat.le_of_ble_eq_true rfl⟩) (g_preV eTrue_bl hK hE hP hD hS hA 0 rfl rfl) rfl rfl hl.1 rfl (lv_room (Nat.le_of_ble_eq_true rfl)) dX4_conditions_6 ⟨Nat.le_of_ble_eq_true rfl, Nat.le_of_ble_eq_true rfl⟩) hD hS hA (fun H locs hP hD hS => ?_)
  obtain ⟨u1, eu1⟩ : ∃ z, z = f_X4_pair u (68 : Int32) (64 : Int32) (2 : Int32) := ⟨_, rfl⟩
  have hP : va_P G vwCl (wM yy a u1) H := by rw [eu1]; exact hP
  have hD : va_D A (wM yy a u1) := by rw [eu1]; exact hD
  have hqu1 : m_ct u1 = nI 42 := by rw [eu1]; exact ct_pair _ _ _ h0
  refine lv_aload_n hx hb dX4_conditions_9 rfl (lv_at hl 0 rfl) ?_
  refine lv_bipush (v := 80) hx hb dX4_conditions_10 (by decide) ?_
  refine lv_bipush (v := 66) hx hb dX4_conditions_12 (by decide) ?_
  refine lv_iconst (v := 2) hx hb dX4_conditions_14 (by decide) ?_
  refine g_v (va_runV (As := [.int (80 : Int32), .int (66 : Int32), .int (2 : Int32)]) (rest := []) ⟨hx, hb, hml, hown, hts⟩ (c_X4_pair l yy a u1 (80 : Int32) (66 : Int32) (2 : Int32) (⟨42, by decide, hqu1⟩) G H.size) (cwV 3 hts gX4_conditions_X4_pair rfl rfl rfl (by decide +kernel) ⟨Nat.le_of_ble_eq_true rfl, Nat.le_of_ble_eq_true rfl⟩) (g_preV eTrue_bl hK hE hP hD hS hA 0 rfl rfl) rfl rfl hl.1 rfl (lv_room (Nat.le_of_ble_eq_true rfl)) dX4_conditions_15 ⟨Nat.le_of_ble_eq_true rfl, Nat.le_of_ble_eq_true rfl⟩) hD hS hA (fun H locs hP hD hS => ?_)
  obtain ⟨u2, eu2⟩ : ∃ z, z = f_X4_pair u1 (80 : Int32) (66 : Int32) (2 : Int32) := ⟨_, rfl⟩
  have hP : va_P G vwCl (wM yy a u2) H := by rw [eu2]; exact hP
  have hD : va_D A (wM yy a u2) := by rw [eu2]; exact hD
  have hqu2 : m_ct u2 = nI 44 := by rw [eu2]; exact ct_pair _ _ _ hqu1
  refine lv_aload_n hx hb dX4_conditions_18 rfl (lv_at hl 0 rfl) ?_
  refine lv_bipush (v := 70) hx hb dX4_conditions_19 (by decide) ?_
  refine lv_bipush (v := 68) hx hb dX4_conditions_21 (by decide) ?_
  refine lv_iconst (v := 2) hx hb dX4_conditions_23 (by decide) ?_
  refine g_v (va_runV (As := [.int (70 : Int32), .int (68 : Int32), .int (2 : Int32)]) (rest := []) ⟨hx, hb, hml, hown, hts⟩ (c_X4_pair l yy a u2 (70 : Int32) (68 : Int32) (2 : Int32) (⟨44, by decide, hqu2⟩) G H.size) (cwV 3 hts gX4_conditions_X4_pair rfl rfl rfl (by decide +kernel) ⟨Nat.le_of_ble_eq_true rfl, Nat.le_of_ble_eq_true rfl⟩) (g_preV eTrue_bl hK hE hP hD hS hA 0 rfl rfl) rfl rfl hl.1 rfl (lv_room (Nat.le_of_ble_eq_true rfl)) dX4_conditions_24 ⟨Nat.le_of_ble_eq_true rfl, Nat.le_of_ble_eq_true rfl⟩) hD hS hA (fun H locs hP hD hS => ?_)
  obtain ⟨u3, eu3⟩ : ∃ z, z = f_X4_pair u2 (70 : Int32) (68 : Int32) (2 : Int32) := ⟨_, rfl⟩
  have hP : va_P G vwCl (wM yy a u3) H := by rw [eu3]; exact hP
  have hD : va_D A (wM yy a u3) := by rw [eu3]; exact hD
  have hqu3 : m_ct u3 = nI 46 := by rw [eu3]; exact ct_pair _ _ _ hqu2
  refine lv_aload_n hx hb dX4_conditions_27 rfl (lv_at hl 0 rfl) ?_
  refine lv_sipush (v := 1867) hx hb dX4_conditions_28 (by decide) ?_
  refine lv_bipush (v := 70) hx hb dX4_conditions_31 (by decide) ?_
  refine lv_iconst (v := 2) hx hb dX4_conditions_33 (by decide) ?_
  refine g_v (va_runV (As := [.int (1867 : Int32), .int (70 : Int32), .int (2 : Int32)]) (rest := []) ⟨hx, hb, hml, hown, hts⟩ (c_X4_pair l yy a u3 (1867 : Int32) (70 : Int32) (2 : Int32) (⟨46, by decide, hqu3⟩) G H.size) (cwV 3 hts gX4_conditions_X4_pair rfl rfl rfl (by decide +kernel) ⟨Nat.le_of_ble_eq_true rfl, Nat.le_of_ble_eq_true rfl⟩) (g_preV eTrue_bl hK hE hP hD hS hA 0 rfl rfl) rfl rfl hl.1 rfl (lv_room (Nat.le_of_ble_eq_true rfl)) dX4_conditions_34 ⟨Nat.le_of_ble_eq_true rfl, Nat.le_of_ble_eq_true rfl⟩) hD hS hA (fun H locs hP hD hS => ?_)
  obtain ⟨u4, eu4⟩ : ∃ z, z = f_X4_pair u3 (1867 : Int32) (70 : Int32) (2 : Int32) := ⟨_, rfl⟩
  have hP : va_P G vwCl (wM yy a u4) H := by rw [eu4]; exact hP
  have hD : va_D A (wM yy a u4) := by rw [eu4]; exact hD
  have hqu4 : m_ct u4 = nI 48 := by rw [eu4]; exact ct_pair _ _ _ hqu3
  refine lv_aload_n hx hb dX4_conditions_37 rfl (lv_at hl 0 rfl) ?_
  refine lv_sipush (v := 1850) hx hb dX4_conditions_38 (by decide) ?_
  refine lv_bipush (v := 72) hx hb dX4_conditions_41 (by decide) ?_
  refine lv_iconst (v := 2) hx hb dX4_conditions_43 (by decide) ?_
  refine g_v (va_runV (As := [.int (1850 : Int32), .int (72 : Int32), .int (2 : Int32)]) (rest := []) ⟨hx, hb, hml, hown, hts⟩ (c_X4_pair l yy a u4 (1850 : Int32) (72 : Int32) (2 : Int32) (⟨48, by decide, hqu4⟩) G H.size) (cwV 3 hts gX4_conditions_X4_pair rfl rfl rfl (by decide +kernel) ⟨Nat.le_of_ble_eq_true rfl, Nat.le_of_ble_eq_true rfl⟩) (g_preV eTrue_bl hK hE hP hD hS hA 0 rfl rfl) rfl rfl hl.1 rfl (lv_room (Nat.le_of_ble_eq_true rfl)) dX4_conditions_44 ⟨Nat.le_of_ble_eq_true rfl, Nat.le_of_ble_eq_true rfl⟩) hD hS hA (fun H locs hP hD hS => ?_)
  obtain ⟨u5, eu5⟩ : ∃ z, z = f_X4_pair u4 (1850 : Int32) (72 : Int32) (2 : Int32) := ⟨_, rfl⟩
  have hP : va_P G vwCl (wM yy a u5) H := by rw [eu5]; exact hP
  have hD : va_D A (wM yy a u5) := by rw [eu5]; exact hD
  have hqu5 : m_ct u5 = nI 50 := by rw [eu5]; exact ct_pair _ _ _ hqu4
  refine lv_aload_n hx hb dX4_conditions_47 rfl (lv_at hl 0 rfl) ?_
  refine lv_sipush (v := 1862) hx hb dX4_conditions_48 (by decide) ?_
  refine lv_bipush (v := 74) hx hb dX4_conditions_51 (by decide) ?_
  refine lv_iconst (v := 2) hx hb dX4_conditions_53 (by decide) ?_
  refine g_v (va_runV (As := [.int (1862 : Int32), .int (74 : Int32), .int (2 : Int32)]) (rest := []) ⟨hx, hb, hml, hown, hts⟩ (c_X4_pair l yy a u5 (1862 : Int32) (74 : Int32) (2 : Int32) (⟨50, by decide, hqu5⟩) G H.size) (cwV 3 hts gX4_conditions_X4_pair rfl rfl rfl (by decide +kernel) ⟨Nat.le_of_ble_eq_true rfl, Nat.le_of_ble_eq_true rfl⟩) (g_preV eTrue_bl hK hE hP hD hS hA 0 rfl rfl) rfl rfl hl.1 rfl (lv_room (Nat.le_of_ble_eq_true rfl)) dX4_conditions_54 ⟨Nat.le_of_ble_eq_true rfl, Nat.le_of_ble_eq_true rfl⟩) hD hS hA (fun H locs hP hD hS => ?_)
  obtain ⟨u6, eu6⟩ : ∃ z, z = f_X4_pair u5 (1862 : Int32) (74 : Int32) (2 : Int32) := ⟨_, rfl⟩
  have hP : va_P G vwCl (wM yy a u6) H := by rw [eu6]; exact hP
  have hD : va_D A (wM yy a u6) := by rw [eu6]; exact hD
  have hqu6 : m_ct u6 = nI 52 := by rw [eu6]; exact ct_pair _ _ _ hqu5
  refine lv_aload_n hx hb dX4_conditions_57 rfl (lv_at hl 0 rfl) ?_
  refine lv_sipush (v := 1852) hx hb dX4_conditions_58 (by decide) ?_
  refine lv_bipush (v := 76) hx hb dX4_conditions_61 (by decide) ?_
  refine lv_iconst (v := 2) hx hb dX4_conditions_63 (by decide) ?_
  refine g_v (va_runV (As := [.int (1852 : Int32), .int (76 : Int32), .int (2 : Int32)]) (rest := []) ⟨hx, hb, hml, hown, hts⟩ (c_X4_pair l yy a u6 (1852 : Int32) (76 : Int32) (2 : Int32) (⟨52, by decide, hqu6⟩) G H.size) (cwV 3 hts gX4_conditions_X4_pair rfl rfl rfl (by decide +kernel) ⟨Nat.le_of_ble_eq_true rfl, Nat.le_of_ble_eq_true rfl⟩) (g_preV eTrue_bl hK hE hP hD hS hA 0 rfl rfl) rfl rfl hl.1 rfl (lv_room (Nat.le_of_ble_eq_true rfl)) dX4_conditions_64 ⟨Nat.le_of_ble_eq_true rfl, Nat.le_of_ble_eq_true rfl⟩) hD hS hA (fun H locs hP hD hS => ?_)
  obtain ⟨u7, eu7⟩ : ∃ z, z = f_X4_pair u6 (1852 : Int32) (76 : Int32) (2 : Int32) := ⟨_, rfl⟩
  have hP : va_P G vwCl (wM yy a u7) H := by rw [eu7]; exact hP
  have hD : va_D A (wM yy a u7) := by rw [eu7]; exact hD
  have hqu7 : m_ct u7 = nI 54 := by rw [eu7]; exact ct_pair _ _ _ hqu6
  refine lv_aload_n hx hb dX4_conditions_67 rfl (lv_at hl 0 rfl) ?_
  refine lv_sipush (v := 1615) hx hb dX4_conditions_68 (by decide) ?_
  refine lv_bipush (v := 78) hx hb dX4_conditions_71 (by decide) ?_
  refine lv_iconst (v := 2) hx hb dX4_conditions_73 (by decide) ?_
  refine g_v (va_runV (As := [.int (1615 : Int32), .int (78 : Int32), .int (2 : Int32)]) (rest := []) ⟨hx, hb, hml, hown, hts⟩ (c_X4_pair l yy a u7 (1615 : Int32) (78 : Int32) (2 : Int32) (⟨54, by decide, hqu7⟩) G H.size) (cwV 3 hts gX4_conditions_X4_pair rfl rfl rfl (by decide +kernel) ⟨Nat.le_of_ble_eq_true rfl, Nat.le_of_ble_eq_true rfl⟩) (g_preV eTrue_bl hK hE hP hD hS hA 0 rfl rfl) rfl rfl hl.1 rfl (lv_room (Nat.le_of_ble_eq_true rfl)) dX4_conditions_74 ⟨Nat.le_of_ble_eq_true rfl, Nat.le_of_ble_eq_true rfl⟩) hD hS hA (fun H locs hP hD hS => ?_)
  obtain ⟨u8, eu8⟩ : ∃ z, z = f_X4_pair u7 (1615 : Int32) (78 : Int32) (2 : Int32) := ⟨_, rfl⟩
  have hP : va_P G vwCl (wM yy a u8) H := by rw [eu8]; exact hP
  have hD : va_D A (wM yy a u8) := by rw [eu8]; exact hD
  have hqu8 : m_ct u8 = nI 56 := by rw [eu8]; exact ct_pair _ _ _ hqu7
  refine lv_aload_n hx hb dX4_conditions_77 rfl (lv_at hl 0 rfl) ?_
  refine lv_sipush (v := 1802) hx hb dX4_conditions_78 (by decide) ?_
  refine lv_bipush (v := 64) hx hb dX4_conditions_81 (by decide) ?_
  refine lv_iconst (v := 2) hx hb dX4_conditions_83 (by decide) ?_
  refine g_v (va_runV (As := [.int (1802 : Int32), .int (64 : Int32), .int (2 : Int32)]) (rest := []) ⟨hx, hb, hml, hown, hts⟩ (c_X4_pair l yy a u8 (1802 : Int32) (64 : Int32) (2 : Int32) (⟨56, by decide, hqu8⟩) G H.size) (cwV 3 hts gX4_conditions_X4_pair rfl rfl rfl (by decide +kernel) ⟨Nat.le_of_ble_eq_true rfl, Nat.le_of_ble_eq_true rfl⟩) (g_preV eTrue_bl hK hE hP hD hS hA 0 rfl rfl) rfl rfl hl.1 rfl (lv_room (Nat.le_of_ble_eq_true rfl)) dX4_conditions_84 ⟨Nat.le_of_ble_eq_true rfl, Nat.le_of_ble_eq_true rfl⟩) hD hS hA (fun H locs hP hD hS => ?_)
  obtain ⟨u9, eu9⟩ : ∃ z, z = f_X4_pair u8 (1802 : Int32) (64 : Int32) (2 : Int32) := ⟨_, rfl⟩
  have hP : va_P G vwCl (wM yy a u9) H := by rw [eu9]; exact hP
  have hD : va_D A (wM yy a u9) := by rw [eu9]; exact hD
  have hqu9 : m_ct u9 = nI 58 := by rw [eu9]; exact ct_pair _ _ _ hqu8
  refine lv_aload_n hx hb dX4_conditions_87 rfl (lv_at hl 0 rfl) ?_
  refine lv_sipush (v := 1610) hx hb dX4_conditions_88 (by decide) ?_
  refine lv_bipush (v := 66) hx hb dX4_conditions_91 (by decide) ?_
  refine lv_iconst (v := 2) hx hb dX4_conditions_93 (by decide) ?_
  refine g_v (va_runV (As := [.int (1610 : Int32), .int (66 : Int32), .int (2 : Int32)]) (rest := []) ⟨hx, hb, hml, hown, hts⟩ (c_X4_pair l yy a u9 (1610 : Int32) (66 : Int32) (2 : Int32) (⟨58, by decide, hqu9⟩) G H.size) (cwV 3 hts gX4_conditions_X4_pair rfl rfl rfl (by decide +kernel) ⟨Nat.le_of_ble_eq_true rfl, Nat.le_of_ble_eq_true rfl⟩) (g_preV eTrue_bl hK hE hP hD hS hA 0 rfl rfl) rfl rfl hl.1 rfl (lv_room (Nat.le_of_ble_eq_true rfl)) dX4_conditions_94 ⟨Nat.le_of_ble_eq_true rfl, Nat.le_of_ble_eq_true rfl⟩) hD hS hA (fun H locs hP hD hS => ?_)
  obtain ⟨u10, eu10⟩ : ∃ z, z = f_X4_pair u9 (1610 : Int32) (66 : Int32) (2 : Int32) := ⟨_, rfl⟩
  have hP : va_P G vwCl (wM yy a u10) H := by rw [eu10]; exact hP
  have hD : va_D A (wM yy a u10) := by rw [eu10]; exact hD
  have hqu10 : m_ct u10 = nI 60 := by rw [eu10]; exact ct_pair _ _ _ hqu9
  refine lv_aload_n hx hb dX4_conditions_97 rfl (lv_at hl 0 rfl) ?_
  refine lv_sipush (v := 1667) hx hb dX4_conditions_98 (by decide) ?_
  refine lv_bipush (v := 68) hx hb dX4_conditions_101 (by decide) ?_
  refine lv_iconst (v := 2) hx hb dX4_conditions_103 (by decide) ?_
  refine g_v (va_runV (As := [.int (1667 : Int32), .int (68 : Int32), .int (2 : Int32)]) (rest := []) ⟨hx, hb, hml, hown, hts⟩ (c_X4_pair l yy a u10 (1667 : Int32) (68 : Int32) (2 : Int32) (⟨60, by decide, hqu10⟩) G H.size) (cwV 3 hts gX4_conditions_X4_pair rfl rfl rfl (by decide +kernel) ⟨Nat.le_of_ble_eq_true rfl, Nat.le_of_ble_eq_true rfl⟩) (g_preV eTrue_bl hK hE hP hD hS hA 0 rfl rfl) rfl rfl hl.1 rfl (lv_room (Nat.le_of_ble_eq_true rfl)) dX4_conditions_104 ⟨Nat.le_of_ble_eq_true rfl, Nat.le_of_ble_eq_true rfl⟩) hD hS hA (fun H locs hP hD hS => ?_)
  obtain ⟨u11, eu11⟩ : ∃ z, z = f_X4_pair u10 (1667 : Int32) (68 : Int32) (2 : Int32) := ⟨_, rfl⟩
  have hP : va_P G vwCl (wM yy a u11) H := by rw [eu11]; exact hP
  have hD : va_D A (wM yy a u11) := by rw [eu11]; exact hD
  have hqu11 : m_ct u11 = nI 62 := by rw [eu11]; exact ct_pair _ _ _ hqu10
  refine lv_aload_n hx hb dX4_conditions_107 rfl (lv_at hl 0 rfl) ?_
  refine lv_sipush (v := 1652) hx hb dX4_conditions_108 (by decide) ?_
  refine lv_bipush (v := 72) hx hb dX4_conditions_111 (by decide) ?_
  refine lv_iconst (v := 2) hx hb dX4_conditions_113 (by decide) ?_
  refine g_v (va_runV (As := [.int (1652 : Int32), .int (72 : Int32), .int (2 : Int32)]) (rest := []) ⟨hx, hb, hml, hown, hts⟩ (c_X4_pair l yy a u11 (1652 : Int32) (72 : Int32) (2 : Int32) (⟨62, by decide, hqu11⟩) G H.size) (cwV 3 hts gX4_conditions_X4_pair rfl rfl rfl (by decide +kernel) ⟨Nat.le_of_ble_eq_true rfl, Nat.le_of_ble_eq_true rfl⟩) (g_preV eTrue_bl hK hE hP hD hS hA 0 rfl rfl) rfl rfl hl.1 rfl (lv_room (Nat.le_of_ble_eq_true rfl)) dX4_conditions_114 ⟨Nat.le_of_ble_eq_true rfl, Nat.le_of_ble_eq_true rfl⟩) hD hS hA (fun H locs hP hD hS => ?_)
  obtain ⟨u12, eu12⟩ : ∃ z, z = f_X4_pair u11 (1652 : Int32) (72 : Int32) (2 : Int32) := ⟨_, rfl⟩
  have hP : va_P G vwCl (wM yy a u12) H := by rw [eu12]; exact hP
  have hD : va_D A (wM yy a u12) := by rw [eu12]; exact hD
  have hqu12 : m_ct u12 = nI 64 := by rw [eu12]; exact ct_pair _ _ _ hqu11
  refine lv_aload_n hx hb dX4_conditions_117 rfl (lv_at hl 0 rfl) ?_
  refine lv_sipush (v := 1841) hx hb dX4_conditions_118 (by decide) ?_
  refine lv_bipush (v := 74) hx hb dX4_conditions_121 (by decide) ?_
  refine lv_iconst (v := 2) hx hb dX4_conditions_123 (by decide) ?_
  refine g_v (va_runV (As := [.int (1841 : Int32), .int (74 : Int32), .int (2 : Int32)]) (rest := []) ⟨hx, hb, hml, hown, hts⟩ (c_X4_pair l yy a u12 (1841 : Int32) (74 : Int32) (2 : Int32) (⟨64, by decide, hqu12⟩) G H.size) (cwV 3 hts gX4_conditions_X4_pair rfl rfl rfl (by decide +kernel) ⟨Nat.le_of_ble_eq_true rfl, Nat.le_of_ble_eq_true rfl⟩) (g_preV eTrue_bl hK hE hP hD hS hA 0 rfl rfl) rfl rfl hl.1 rfl (lv_room (Nat.le_of_ble_eq_true rfl)) dX4_conditions_124 ⟨Nat.le_of_ble_eq_true rfl, Nat.le_of_ble_eq_true rfl⟩) hD hS hA (fun H locs hP hD hS => ?_)
  obtain ⟨u13, eu13⟩ : ∃ z, z = f_X4_pair u12 (1841 : Int32) (74 : Int32) (2 : Int32) := ⟨_, rfl⟩
  have hP : va_P G vwCl (wM yy a u13) H := by rw [eu13]; exact hP
  have hD : va_D A (wM yy a u13) := by rw [eu13]; exact hD
  have hqu13 : m_ct u13 = nI 66 := by rw [eu13]; exact ct_pair _ _ _ hqu12
  refine lv_aload_n hx hb dX4_conditions_127 rfl (lv_at hl 0 rfl) ?_
  refine lv_sipush (v := 1787) hx hb dX4_conditions_128 (by decide) ?_
  refine lv_bipush (v := 76) hx hb dX4_conditions_131 (by decide) ?_
  refine lv_iconst (v := 2) hx hb dX4_conditions_133 (by decide) ?_
  refine g_v (va_runV (As := [.int (1787 : Int32), .int (76 : Int32), .int (2 : Int32)]) (rest := []) ⟨hx, hb, hml, hown, hts⟩ (c_X4_pair l yy a u13 (1787 : Int32) (76 : Int32) (2 : Int32) (⟨66, by decide, hqu13⟩) G H.size) (cwV 3 hts gX4_conditions_X4_pair rfl rfl rfl (by decide +kernel) ⟨Nat.le_of_ble_eq_true rfl, Nat.le_of_ble_eq_true rfl⟩) (g_preV eTrue_bl hK hE hP hD hS hA 0 rfl rfl) rfl rfl hl.1 rfl (lv_room (Nat.le_of_ble_eq_true rfl)) dX4_conditions_134 ⟨Nat.le_of_ble_eq_true rfl, Nat.le_of_ble_eq_true rfl⟩) hD hS hA (fun H locs hP hD hS => ?_)
  obtain ⟨u14, eu14⟩ : ∃ z, z = f_X4_pair u13 (1787 : Int32) (76 : Int32) (2 : Int32) := ⟨_, rfl⟩
  have hP : va_P G vwCl (wM yy a u14) H := by rw [eu14]; exact hP
  have hD : va_D A (wM yy a u14) := by rw [eu14]; exact hD
  have hqu14 : m_ct u14 = nI 68 := by rw [eu14]; exact ct_pair _ _ _ hqu13
  refine lv_aload_n hx hb dX4_conditions_137 rfl (lv_at hl 0 rfl) ?_
  refine lv_sipush (v := 11732) hx hb dX4_conditions_138 (by decide) ?_
  refine lv_bipush (v := 80) hx hb dX4_conditions_141 (by decide) ?_
  refine lv_iconst (v := 2) hx hb dX4_conditions_143 (by decide) ?_
  refine g_v (va_runV (As := [.int (11732 : Int32), .int (80 : Int32), .int (2 : Int32)]) (rest := []) ⟨hx, hb, hml, hown, hts⟩ (c_X4_pair l yy a u14 (11732 : Int32) (80 : Int32) (2 : Int32) (⟨68, by decide, hqu14⟩) G H.size) (cwV 3 hts gX4_conditions_X4_pair rfl rfl rfl (by decide +kernel) ⟨Nat.le_of_ble_eq_true rfl, Nat.le_of_ble_eq_true rfl⟩) (g_preV eTrue_bl hK hE hP hD hS hA 0 rfl rfl) rfl rfl hl.1 rfl (lv_room (Nat.le_of_ble_eq_true rfl)) dX4_conditions_144 ⟨Nat.le_of_ble_eq_true rfl, Nat.le_of_ble_eq_true rfl⟩) hD hS hA (fun H locs hP hD hS => ?_)
  obtain ⟨u15, eu15⟩ : ∃ z, z = f_X4_pair u14 (11732 : Int32) (80 : Int32) (2 : Int32) := ⟨_, rfl⟩
  have hP : va_P G vwCl (wM yy a u15) H := by rw [eu15]; exact hP
  have hD : va_D A (wM yy a u15) := by rw [eu15]; exact hD
  have hqu15 : m_ct u15 = nI 70 := by rw [eu15]; exact ct_pair _ _ _ hqu14
  refine lv_aload_n hx hb dX4_conditions_147 rfl (lv_at hl 0 rfl) ?_
  refine lv_sipush (v := 11744) hx hb dX4_conditions_148 (by decide) ?_
  refine lv_bipush (v := 82) hx hb dX4_conditions_151 (by decide) ?_
  refine lv_iconst (v := 2) hx hb dX4_conditions_153 (by decide) ?_
  refine g_v (va_runV (As := [.int (11744 : Int32), .int (82 : Int32), .int (2 : Int32)]) (rest := []) ⟨hx, hb, hml, hown, hts⟩ (c_X4_pair l yy a u15 (11744 : Int32) (82 : Int32) (2 : Int32) (⟨70, by decide, hqu15⟩) G H.size) (cwV 3 hts gX4_conditions_X4_pair rfl rfl rfl (by decide +kernel) ⟨Nat.le_of_ble_eq_true rfl, Nat.le_of_ble_eq_true rfl⟩) (g_preV eTrue_bl hK hE hP hD hS hA 0 rfl rfl) rfl rfl hl.1 rfl (lv_room (Nat.le_of_ble_eq_true rfl)) dX4_conditions_154 ⟨Nat.le_of_ble_eq_true rfl, Nat.le_of_ble_eq_true rfl⟩) hD hS hA (fun H locs hP hD hS => ?_)
  obtain ⟨u16, eu16⟩ : ∃ z, z = f_X4_pair u15 (11744 : Int32) (82 : Int32) (2 : Int32) := ⟨_, rfl⟩
  have hP : va_P G vwCl (wM yy a u16) H := by rw [eu16]; exact hP
  have hD : va_D A (wM yy a u16) := by rw [eu16]; exact hD
  have hqu16 : m_ct u16 = nI 72 := by rw [eu16]; exact ct_pair _ _ _ hqu15
  refine lv_aload_n hx hb dX4_conditions_157 rfl (lv_at hl 0 rfl) ?_
  refine lv_sipush (v := 11734) hx hb dX4_conditions_158 (by decide) ?_
  refine lv_bipush (v := 84) hx hb dX4_conditions_161 (by decide) ?_
  refine lv_iconst (v := 2) hx hb dX4_conditions_163 (by decide) ?_
  refine g_v (va_runV (As := [.int (11734 : Int32), .int (84 : Int32), .int (2 : Int32)]) (rest := []) ⟨hx, hb, hml, hown, hts⟩ (c_X4_pair l yy a u16 (11734 : Int32) (84 : Int32) (2 : Int32) (⟨72, by decide, hqu16⟩) G H.size) (cwV 3 hts gX4_conditions_X4_pair rfl rfl rfl (by decide +kernel) ⟨Nat.le_of_ble_eq_true rfl, Nat.le_of_ble_eq_true rfl⟩) (g_preV eTrue_bl hK hE hP hD hS hA 0 rfl rfl) rfl rfl hl.1 rfl (lv_room (Nat.le_of_ble_eq_true rfl)) dX4_conditions_164 ⟨Nat.le_of_ble_eq_true rfl, Nat.le_of_ble_eq_true rfl⟩) hD hS hA (fun H locs hP hD hS => ?_)
  obtain ⟨u17, eu17⟩ : ∃ z, z = f_X4_pair u16 (11734 : Int32) (84 : Int32) (2 : Int32) := ⟨_, rfl⟩
  have hP : va_P G vwCl (wM yy a u17) H := by rw [eu17]; exact hP
  have hD : va_D A (wM yy a u17) := by rw [eu17]; exact hD
  have hqu17 : m_ct u17 = nI 74 := by rw [eu17]; exact ct_pair _ _ _ hqu16
  refine lv_aload_n hx hb dX4_conditions_167 rfl (lv_at hl 0 rfl) ?_
  refine lv_ldc hx hb hown (hts (.constant RX4 61 (316795)) (by decide +kernel)) dX4_conditions_168 ?_
  refine lv_bipush (v := 86) hx hb dX4_conditions_170 (by decide) ?_
  refine lv_iconst (v := 2) hx hb dX4_conditions_172 (by decide) ?_
  refine g_v (va_runV (As := [.int (316795 : Int32), .int (86 : Int32), .int (2 : Int32)]) (rest := []) ⟨hx, hb, hml, hown, hts⟩ (c_X4_pair l yy a u17 (316795 : Int32) (86 : Int32) (2 : Int32) (⟨74, by decide, hqu17⟩) G H.size) (cwV 3 hts gX4_conditions_X4_pair rfl rfl rfl (by decide +kernel) ⟨Nat.le_of_ble_eq_true rfl, Nat.le_of_ble_eq_true rfl⟩) (g_preV eTrue_bl hK hE hP hD hS hA 0 rfl rfl) rfl rfl hl.1 rfl (lv_room (Nat.le_of_ble_eq_true rfl)) dX4_conditions_173 ⟨Nat.le_of_ble_eq_true rfl, Nat.le_of_ble_eq_true rfl⟩) hD hS hA (fun H locs hP hD hS => ?_)
  obtain ⟨u18, eu18⟩ : ∃ z, z = f_X4_pair u17 (316795 : Int32) (86 : Int32) (2 : Int32) := ⟨_, rfl⟩
  have hP : va_P G vwCl (wM yy a u18) H := by rw [eu18]; exact hP
  have hD : va_D A (wM yy a u18) := by rw [eu18]; exact hD
  have hqu18 : m_ct u18 = nI 76 := by rw [eu18]; exact ct_pair _ _ _ hqu17
  refine lv_aload_n hx hb dX4_conditions_176 rfl (lv_at hl 0 rfl) ?_
  refine lv_ldc hx hb hown (hts (.constant RX4 62 (316778)) (by decide +kernel)) dX4_conditions_177 ?_
  refine lv_bipush (v := 88) hx hb dX4_conditions_179 (by decide) ?_
  refine lv_iconst (v := 2) hx hb dX4_conditions_181 (by decide) ?_
  refine g_v (va_runV (As := [.int (316778 : Int32), .int (88 : Int32), .int (2 : Int32)]) (rest := []) ⟨hx, hb, hml, hown, hts⟩ (c_X4_pair l yy a u18 (316778 : Int32) (88 : Int32) (2 : Int32) (⟨76, by decide, hqu18⟩) G H.size) (cwV 3 hts gX4_conditions_X4_pair rfl rfl rfl (by decide +kernel) ⟨Nat.le_of_ble_eq_true rfl, Nat.le_of_ble_eq_true rfl⟩) (g_preV eTrue_bl hK hE hP hD hS hA 0 rfl rfl) rfl rfl hl.1 rfl (lv_room (Nat.le_of_ble_eq_true rfl)) dX4_conditions_182 ⟨Nat.le_of_ble_eq_true rfl, Nat.le_of_ble_eq_true rfl⟩) hD hS hA (fun H locs hP hD hS => ?_)
  obtain ⟨u19, eu19⟩ : ∃ z, z = f_X4_pair u18 (316778 : Int32) (88 : Int32) (2 : Int32) := ⟨_, rfl⟩
  have hP : va_P G vwCl (wM yy a u19) H := by rw [eu19]; exact hP
  have hD : va_D A (wM yy a u19) := by rw [eu19]; exact hD
  have hqu19 : m_ct u19 = nI 78 := by rw [eu19]; exact ct_pair _ _ _ hqu18
  refine lv_aload_n hx hb dX4_conditions_185 rfl (lv_at hl 0 rfl) ?_
  refine lv_ldc hx hb hown (hts (.constant RX4 63 (316790)) (by decide +kernel)) dX4_conditions_186 ?_
  refine lv_bipush (v := 90) hx hb dX4_conditions_188 (by decide) ?_
  refine lv_iconst (v := 2) hx hb dX4_conditions_190 (by decide) ?_
  refine g_v (va_runV (As := [.int (316790 : Int32), .int (90 : Int32), .int (2 : Int32)]) (rest := []) ⟨hx, hb, hml, hown, hts⟩ (c_X4_pair l yy a u19 (316790 : Int32) (90 : Int32) (2 : Int32) (⟨78, by decide, hqu19⟩) G H.size) (cwV 3 hts gX4_conditions_X4_pair rfl rfl rfl (by decide +kernel) ⟨Nat.le_of_ble_eq_true rfl, Nat.le_of_ble_eq_true rfl⟩) (g_preV eTrue_bl hK hE hP hD hS hA 0 rfl rfl) rfl rfl hl.1 rfl (lv_room (Nat.le_of_ble_eq_true rfl)) dX4_conditions_191 ⟨Nat.le_of_ble_eq_true rfl, Nat.le_of_ble_eq_true rfl⟩) hD hS hA (fun H locs hP hD hS => ?_)
  obtain ⟨u20, eu20⟩ : ∃ z, z = f_X4_pair u19 (316790 : Int32) (90 : Int32) (2 : Int32) := ⟨_, rfl⟩
  have hP : va_P G vwCl (wM yy a u20) H := by rw [eu20]; exact hP
  have hD : va_D A (wM yy a u20) := by rw [eu20]; exact hD
  have hqu20 : m_ct u20 = nI 80 := by rw [eu20]; exact ct_pair _ _ _ hqu19
  refine lv_aload_n hx hb dX4_conditions_194 rfl (lv_at hl 0 rfl) ?_
  refine lv_ldc hx hb hown (hts (.constant RX4 64 (316780)) (by decide +kernel)) dX4_conditions_195 ?_
  refine lv_bipush (v := 92) hx hb dX4_conditions_197 (by decide) ?_
  refine lv_iconst (v := 2) hx hb dX4_conditions_199 (by decide) ?_
  refine g_v (va_runV (As := [.int (316780 : Int32), .int (92 : Int32), .int (2 : Int32)]) (rest := []) ⟨hx, hb, hml, hown, hts⟩ (c_X4_pair l yy a u20 (316780 : Int32) (92 : Int32) (2 : Int32) (⟨80, by decide, hqu20⟩) G H.size) (cwV 3 hts gX4_conditions_X4_pair rfl rfl rfl (by decide +kernel) ⟨Nat.le_of_ble_eq_true rfl, Nat.le_of_ble_eq_true rfl⟩) (g_preV eTrue_bl hK hE hP hD hS hA 0 rfl rfl) rfl rfl hl.1 rfl (lv_room (Nat.le_of_ble_eq_true rfl)) dX4_conditions_200 ⟨Nat.le_of_ble_eq_true rfl, Nat.le_of_ble_eq_true rfl⟩) hD hS hA (fun H locs hP hD hS => ?_)
  obtain ⟨u21, eu21⟩ : ∃ z, z = f_X4_pair u20 (316780 : Int32) (92 : Int32) (2 : Int32) := ⟨_, rfl⟩
  have hP : va_P G vwCl (wM yy a u21) H := by rw [eu21]; exact hP
  have hD : va_D A (wM yy a u21) := by rw [eu21]; exact hD
  have hqu21 : m_ct u21 = nI 82 := by rw [eu21]; exact ct_pair _ _ _ hqu20
  refine lv_aload_n hx hb dX4_conditions_203 rfl (lv_at hl 0 rfl) ?_
  refine lv_ldc hx hb hown (hts (.constant RX4 65 (316543)) (by decide +kernel)) dX4_conditions_204 ?_
  refine lv_bipush (v := 94) hx hb dX4_conditions_206 (by decide) ?_
  refine lv_iconst (v := 2) hx hb dX4_conditions_208 (by decide) ?_
  refine g_v (va_runV (As := [.int (316543 : Int32), .int (94 : Int32), .int (2 : Int32)]) (rest := []) ⟨hx, hb, hml, hown, hts⟩ (c_X4_pair l yy a u21 (316543 : Int32) (94 : Int32) (2 : Int32) (⟨82, by decide, hqu21⟩) G H.size) (cwV 3 hts gX4_conditions_X4_pair rfl rfl rfl (by decide +kernel) ⟨Nat.le_of_ble_eq_true rfl, Nat.le_of_ble_eq_true rfl⟩) (g_preV eTrue_bl hK hE hP hD hS hA 0 rfl rfl) rfl rfl hl.1 rfl (lv_room (Nat.le_of_ble_eq_true rfl)) dX4_conditions_209 ⟨Nat.le_of_ble_eq_true rfl, Nat.le_of_ble_eq_true rfl⟩) hD hS hA (fun H locs hP hD hS => ?_)
  obtain ⟨u22, eu22⟩ : ∃ z, z = f_X4_pair u21 (316543 : Int32) (94 : Int32) (2 : Int32) := ⟨_, rfl⟩
  have hP : va_P G vwCl (wM yy a u22) H := by rw [eu22]; exact hP
  have hD : va_D A (wM yy a u22) := by rw [eu22]; exact hD
  have hqu22 : m_ct u22 = nI 84 := by rw [eu22]; exact ct_pair _ _ _ hqu21
  refine lv_aload_n hx hb dX4_conditions_212 rfl (lv_at hl 0 rfl) ?_
  refine lv_ldc hx hb hown (hts (.constant RX4 66 (316730)) (by decide +kernel)) dX4_conditions_213 ?_
  refine lv_bipush (v := 80) hx hb dX4_conditions_215 (by decide) ?_
  refine lv_iconst (v := 2) hx hb dX4_conditions_217 (by decide) ?_
  refine g_v (va_runV (As := [.int (316730 : Int32), .int (80 : Int32), .int (2 : Int32)]) (rest := []) ⟨hx, hb, hml, hown, hts⟩ (c_X4_pair l yy a u22 (316730 : Int32) (80 : Int32) (2 : Int32) (⟨84, by decide, hqu22⟩) G H.size) (cwV 3 hts gX4_conditions_X4_pair rfl rfl rfl (by decide +kernel) ⟨Nat.le_of_ble_eq_true rfl, Nat.le_of_ble_eq_true rfl⟩) (g_preV eTrue_bl hK hE hP hD hS hA 0 rfl rfl) rfl rfl hl.1 rfl (lv_room (Nat.le_of_ble_eq_true rfl)) dX4_conditions_218 ⟨Nat.le_of_ble_eq_true rfl, Nat.le_of_ble_eq_true rfl⟩) hD hS hA (fun H locs hP hD hS => ?_)
  obtain ⟨u23, eu23⟩ : ∃ z, z = f_X4_pair u22 (316730 : Int32) (80 : Int32) (2 : Int32) := ⟨_, rfl⟩
  have hP : va_P G vwCl (wM yy a u23) H := by rw [eu23]; exact hP
  have hD : va_D A (wM yy a u23) := by rw [eu23]; exact hD
  have hqu23 : m_ct u23 = nI 86 := by rw [eu23]; exact ct_pair _ _ _ hqu22
  refine lv_aload_n hx hb dX4_conditions_221 rfl (lv_at hl 0 rfl) ?_
  refine lv_ldc hx hb hown (hts (.constant RX4 67 (316538)) (by decide +kernel)) dX4_conditions_222 ?_
  refine lv_bipush (v := 82) hx hb dX4_conditions_224 (by decide) ?_
  refine lv_iconst (v := 2) hx hb dX4_conditions_226 (by decide) ?_
  refine g_v (va_runV (As := [.int (316538 : Int32), .int (82 : Int32), .int (2 : Int32)]) (rest := []) ⟨hx, hb, hml, hown, hts⟩ (c_X4_pair l yy a u23 (316538 : Int32) (82 : Int32) (2 : Int32) (⟨86, by decide, hqu23⟩) G H.size) (cwV 3 hts gX4_conditions_X4_pair rfl rfl rfl (by decide +kernel) ⟨Nat.le_of_ble_eq_true rfl, Nat.le_of_ble_eq_true rfl⟩) (g_preV eTrue_bl hK hE hP hD hS hA 0 rfl rfl) rfl rfl hl.1 rfl (lv_room (Nat.le_of_ble_eq_true rfl)) dX4_conditions_227 ⟨Nat.le_of_ble_eq_true rfl, Nat.le_of_ble_eq_true rfl⟩) hD hS hA (fun H locs hP hD hS => ?_)
  obtain ⟨u24, eu24⟩ : ∃ z, z = f_X4_pair u23 (316538 : Int32) (82 : Int32) (2 : Int32) := ⟨_, rfl⟩
  have hP : va_P G vwCl (wM yy a u24) H := by rw [eu24]; exact hP
  have hD : va_D A (wM yy a u24) := by rw [eu24]; exact hD
  have hqu24 : m_ct u24 = nI 88 := by rw [eu24]; exact ct_pair _ _ _ hqu23
  refine lv_aload_n hx hb dX4_conditions_230 rfl (lv_at hl 0 rfl) ?_
  refine lv_ldc hx hb hown (hts (.constant RX4 68 (316595)) (by decide +kernel)) dX4_conditions_231 ?_
  refine lv_bipush (v := 84) hx hb dX4_conditions_233 (by decide) ?_
  refine lv_iconst (v := 2) hx hb dX4_conditions_235 (by decide) ?_
  refine g_v (va_runV (As := [.int (316595 : Int32), .int (84 : Int32), .int (2 : Int32)]) (rest := []) ⟨hx, hb, hml, hown, hts⟩ (c_X4_pair l yy a u24 (316595 : Int32) (84 : Int32) (2 : Int32) (⟨88, by decide, hqu24⟩) G H.size) (cwV 3 hts gX4_conditions_X4_pair rfl rfl rfl (by decide +kernel) ⟨Nat.le_of_ble_eq_true rfl, Nat.le_of_ble_eq_true rfl⟩) (g_preV eTrue_bl hK hE hP hD hS hA 0 rfl rfl) rfl rfl hl.1 rfl (lv_room (Nat.le_of_ble_eq_true rfl)) dX4_conditions_236 ⟨Nat.le_of_ble_eq_true rfl, Nat.le_of_ble_eq_true rfl⟩) hD hS hA (fun H locs hP hD hS => ?_)
  obtain ⟨u25, eu25⟩ : ∃ z, z = f_X4_pair u24 (316595 : Int32) (84 : Int32) (2 : Int32) := ⟨_, rfl⟩
  have hP : va_P G vwCl (wM yy a u25) H := by rw [eu25]; exact hP
  have hD : va_D A (wM yy a u25) := by rw [eu25]; exact hD
  have hqu25 : m_ct u25 = nI 90 := by rw [eu25]; exact ct_pair _ _ _ hqu24
  refine lv_aload_n hx hb dX4_conditions_239 rfl (lv_at hl 0 rfl) ?_
  refine lv_ldc hx hb hown (hts (.constant RX4 69 (316580)) (by decide +kernel)) dX4_conditions_240 ?_
  refine lv_bipush (v := 88) hx hb dX4_conditions_242 (by decide) ?_
  refine lv_iconst (v := 2) hx hb dX4_conditions_244 (by decide) ?_
  refine g_v (va_runV (As := [.int (316580 : Int32), .int (88 : Int32), .int (2 : Int32)]) (rest := []) ⟨hx, hb, hml, hown, hts⟩ (c_X4_pair l yy a u25 (316580 : Int32) (88 : Int32) (2 : Int32) (⟨90, by decide, hqu25⟩) G H.size) (cwV 3 hts gX4_conditions_X4_pair rfl rfl rfl (by decide +kernel) ⟨Nat.le_of_ble_eq_true rfl, Nat.le_of_ble_eq_true rfl⟩) (g_preV eTrue_bl hK hE hP hD hS hA 0 rfl rfl) rfl rfl hl.1 rfl (lv_room (Nat.le_of_ble_eq_true rfl)) dX4_conditions_245 ⟨Nat.le_of_ble_eq_true rfl, Nat.le_of_ble_eq_true rfl⟩) hD hS hA (fun H locs hP hD hS => ?_)
  obtain ⟨u26, eu26⟩ : ∃ z, z = f_X4_pair u25 (316580 : Int32) (88 : Int32) (2 : Int32) := ⟨_, rfl⟩
  have hP : va_P G vwCl (wM yy a u26) H := by rw [eu26]; exact hP
  have hD : va_D A (wM yy a u26) := by rw [eu26]; exact hD
  have hqu26 : m_ct u26 = nI 92 := by rw [eu26]; exact ct_pair _ _ _ hqu25
  refine lv_aload_n hx hb dX4_conditions_248 rfl (lv_at hl 0 rfl) ?_
  refine lv_ldc hx hb hown (hts (.constant RX4 70 (316769)) (by decide +kernel)) dX4_conditions_249 ?_
  refine lv_bipush (v := 90) hx hb dX4_conditions_251 (by decide) ?_
  refine lv_iconst (v := 2) hx hb dX4_conditions_253 (by decide) ?_
  refine g_v (va_runV (As := [.int (316769 : Int32), .int (90 : Int32), .int (2 : Int32)]) (rest := []) ⟨hx, hb, hml, hown, hts⟩ (c_X4_pair l yy a u26 (316769 : Int32) (90 : Int32) (2 : Int32) (⟨92, by decide, hqu26⟩) G H.size) (cwV 3 hts gX4_conditions_X4_pair rfl rfl rfl (by decide +kernel) ⟨Nat.le_of_ble_eq_true rfl, Nat.le_of_ble_eq_true rfl⟩) (g_preV eTrue_bl hK hE hP hD hS hA 0 rfl rfl) rfl rfl hl.1 rfl (lv_room (Nat.le_of_ble_eq_true rfl)) dX4_conditions_254 ⟨Nat.le_of_ble_eq_true rfl, Nat.le_of_ble_eq_true rfl⟩) hD hS hA (fun H locs hP hD hS => ?_)
  obtain ⟨u27, eu27⟩ : ∃ z, z = f_X4_pair u26 (316769 : Int32) (90 : Int32) (2 : Int32) := ⟨_, rfl⟩
  have hP : va_P G vwCl (wM yy a u27) H := by rw [eu27]; exact hP
  have hD : va_D A (wM yy a u27) := by rw [eu27]; exact hD
  have hqu27 : m_ct u27 = nI 94 := by rw [eu27]; exact ct_pair _ _ _ hqu26
  refine lv_aload_n hx hb dX4_conditions_257 rfl (lv_at hl 0 rfl) ?_
  refine lv_ldc hx hb hown (hts (.constant RX4 71 (316715)) (by decide +kernel)) dX4_conditions_258 ?_
  refine lv_bipush (v := 92) hx hb dX4_conditions_260 (by decide) ?_
  refine lv_iconst (v := 2) hx hb dX4_conditions_262 (by decide) ?_
  refine g_v (va_runV (As := [.int (316715 : Int32), .int (92 : Int32), .int (2 : Int32)]) (rest := []) ⟨hx, hb, hml, hown, hts⟩ (c_X4_pair l yy a u27 (316715 : Int32) (92 : Int32) (2 : Int32) (⟨94, by decide, hqu27⟩) G H.size) (cwV 3 hts gX4_conditions_X4_pair rfl rfl rfl (by decide +kernel) ⟨Nat.le_of_ble_eq_true rfl, Nat.le_of_ble_eq_true rfl⟩) (g_preV eTrue_bl hK hE hP hD hS hA 0 rfl rfl) rfl rfl hl.1 rfl (lv_room (Nat.le_of_ble_eq_true rfl)) dX4_conditions_263 ⟨Nat.le_of_ble_eq_true rfl, Nat.le_of_ble_eq_true rfl⟩) hD hS hA (fun H locs hP hD hS => ?_)
  obtain ⟨u28, eu28⟩ : ∃ z, z = f_X4_pair u27 (316715 : Int32) (92 : Int32) (2 : Int32) := ⟨_, rfl⟩
  have hP : va_P G vwCl (wM yy a u28) H := by rw [eu28]; exact hP
  have hD : va_D A (wM yy a u28) := by rw [eu28]; exact hD
  have hqu28 : m_ct u28 = nI 96 := by rw [eu28]; exact ct_pair _ _ _ hqu27
  refine lv_aload_n hx hb dX4_conditions_266 rfl (lv_at hl 0 rfl) ?_
  refine lv_sipush (v := 2714) hx hb dX4_conditions_267 (by decide) ?_
  refine lv_bipush (v := 96) hx hb dX4_conditions_270 (by decide) ?_
  refine lv_bipush (v := 9) hx hb dX4_conditions_272 (by decide) ?_
  refine g_v (va_runV (As := [.int (2714 : Int32), .int (96 : Int32), .int (9 : Int32)]) (rest := []) ⟨hx, hb, hml, hown, hts⟩ (c_X4_pair l yy a u28 (2714 : Int32) (96 : Int32) (9 : Int32) (⟨96, by decide, hqu28⟩) G H.size) (cwV 3 hts gX4_conditions_X4_pair rfl rfl rfl (by decide +kernel) ⟨Nat.le_of_ble_eq_true rfl, Nat.le_of_ble_eq_true rfl⟩) (g_preV eTrue_bl hK hE hP hD hS hA 0 rfl rfl) rfl rfl hl.1 rfl (lv_room (Nat.le_of_ble_eq_true rfl)) dX4_conditions_274 ⟨Nat.le_of_ble_eq_true rfl, Nat.le_of_ble_eq_true rfl⟩) hD hS hA (fun H locs hP hD hS => ?_)
  obtain ⟨u29, eu29⟩ : ∃ z, z = f_X4_pair u28 (2714 : Int32) (96 : Int32) (9 : Int32) := ⟨_, rfl⟩
  have hP : va_P G vwCl (wM yy a u29) H := by rw [eu29]; exact hP
  have hD : va_D A (wM yy a u29) := by rw [eu29]; exact hD
  have hqu29 : m_ct u29 = nI 98 := by rw [eu29]; exact ct_pair _ _ _ hqu28
  refine lv_aload_n hx hb dX4_conditions_277 rfl (lv_at hl 0 rfl) ?_
  refine lv_sipush (v := 2726) hx hb dX4_conditions_278 (by decide) ?_
  refine lv_bipush (v := 98) hx hb dX4_conditions_281 (by decide) ?_
  refine lv_bipush (v := 9) hx hb dX4_conditions_283 (by decide) ?_
  refine g_v (va_runV (As := [.int (2726 : Int32), .int (98 : Int32), .int (9 : Int32)]) (rest := []) ⟨hx, hb, hml, hown, hts⟩ (c_X4_pair l yy a u29 (2726 : Int32) (98 : Int32) (9 : Int32) (⟨98, by decide, hqu29⟩) G H.size) (cwV 3 hts gX4_conditions_X4_pair rfl rfl rfl (by decide +kernel) ⟨Nat.le_of_ble_eq_true rfl, Nat.le_of_ble_eq_true rfl⟩) (g_preV eTrue_bl hK hE hP hD hS hA 0 rfl rfl) rfl rfl hl.1 rfl (lv_room (Nat.le_of_ble_eq_true rfl)) dX4_conditions_285 ⟨Nat.le_of_ble_eq_true rfl, Nat.le_of_ble_eq_true rfl⟩) hD hS hA (fun H locs hP hD hS => ?_)
  obtain ⟨u30, eu30⟩ : ∃ z, z = f_X4_pair u29 (2726 : Int32) (98 : Int32) (9 : Int32) := ⟨_, rfl⟩
  have hP : va_P G vwCl (wM yy a u30) H := by rw [eu30]; exact hP
  have hD : va_D A (wM yy a u30) := by rw [eu30]; exact hD
  have hqu30 : m_ct u30 = nI 100 := by rw [eu30]; exact ct_pair _ _ _ hqu29
  refine lv_aload_n hx hb dX4_conditions_288 rfl (lv_at hl 0 rfl) ?_
  refine lv_sipush (v := 2716) hx hb dX4_conditions_289 (by decide) ?_
  refine lv_bipush (v := 100) hx hb dX4_conditions_292 (by decide) ?_
  refine lv_bipush (v := 9) hx hb dX4_conditions_294 (by decide) ?_
  refine g_v (va_runV (As := [.int (2716 : Int32), .int (100 : Int32), .int (9 : Int32)]) (rest := []) ⟨hx, hb, hml, hown, hts⟩ (c_X4_pair l yy a u30 (2716 : Int32) (100 : Int32) (9 : Int32) (⟨100, by decide, hqu30⟩) G H.size) (cwV 3 hts gX4_conditions_X4_pair rfl rfl rfl (by decide +kernel) ⟨Nat.le_of_ble_eq_true rfl, Nat.le_of_ble_eq_true rfl⟩) (g_preV eTrue_bl hK hE hP hD hS hA 0 rfl rfl) rfl rfl hl.1 rfl (lv_room (Nat.le_of_ble_eq_true rfl)) dX4_conditions_296 ⟨Nat.le_of_ble_eq_true rfl, Nat.le_of_ble_eq_true rfl⟩) hD hS hA (fun H locs hP hD hS => ?_)
  obtain ⟨u31, eu31⟩ : ∃ z, z = f_X4_pair u30 (2716 : Int32) (100 : Int32) (9 : Int32) := ⟨_, rfl⟩
  have hP : va_P G vwCl (wM yy a u31) H := by rw [eu31]; exact hP
  have hD : va_D A (wM yy a u31) := by rw [eu31]; exact hD
  have hqu31 : m_ct u31 = nI 102 := by rw [eu31]; exact ct_pair _ _ _ hqu30
  refine lv_aload_n hx hb dX4_conditions_299 rfl (lv_at hl 0 rfl) ?_
  refine lv_ldc hx hb hown (hts (.constant RX4 72 (73309)) (by decide +kernel)) dX4_conditions_300 ?_
  refine lv_bipush (v := 102) hx hb dX4_conditions_302 (by decide) ?_
  refine lv_bipush (v := 9) hx hb dX4_conditions_304 (by decide) ?_
  refine g_v (va_runV (As := [.int (73309 : Int32), .int (102 : Int32), .int (9 : Int32)]) (rest := []) ⟨hx, hb, hml, hown, hts⟩ (c_X4_pair l yy a u31 (73309 : Int32) (102 : Int32) (9 : Int32) (⟨102, by decide, hqu31⟩) G H.size) (cwV 3 hts gX4_conditions_X4_pair rfl rfl rfl (by decide +kernel) ⟨Nat.le_of_ble_eq_true rfl, Nat.le_of_ble_eq_true rfl⟩) (g_preV eTrue_bl hK hE hP hD hS hA 0 rfl rfl) rfl rfl hl.1 rfl (lv_room (Nat.le_of_ble_eq_true rfl)) dX4_conditions_306 ⟨Nat.le_of_ble_eq_true rfl, Nat.le_of_ble_eq_true rfl⟩) hD hS hA (fun H locs hP hD hS => ?_)
  obtain ⟨u32, eu32⟩ : ∃ z, z = f_X4_pair u31 (73309 : Int32) (102 : Int32) (9 : Int32) := ⟨_, rfl⟩
  have hP : va_P G vwCl (wM yy a u32) H := by rw [eu32]; exact hP
  have hD : va_D A (wM yy a u32) := by rw [eu32]; exact hD
  have hqu32 : m_ct u32 = nI 104 := by rw [eu32]; exact ct_pair _ _ _ hqu31
  refine lv_aload_n hx hb dX4_conditions_309 rfl (lv_at hl 0 rfl) ?_
  refine lv_ldc hx hb hown (hts (.constant RX4 73 (73292)) (by decide +kernel)) dX4_conditions_310 ?_
  refine lv_bipush (v := 104) hx hb dX4_conditions_312 (by decide) ?_
  refine lv_bipush (v := 9) hx hb dX4_conditions_314 (by decide) ?_
  refine g_v (va_runV (As := [.int (73292 : Int32), .int (104 : Int32), .int (9 : Int32)]) (rest := []) ⟨hx, hb, hml, hown, hts⟩ (c_X4_pair l yy a u32 (73292 : Int32) (104 : Int32) (9 : Int32) (⟨104, by decide, hqu32⟩) G H.size) (cwV 3 hts gX4_conditions_X4_pair rfl rfl rfl (by decide +kernel) ⟨Nat.le_of_ble_eq_true rfl, Nat.le_of_ble_eq_true rfl⟩) (g_preV eTrue_bl hK hE hP hD hS hA 0 rfl rfl) rfl rfl hl.1 rfl (lv_room (Nat.le_of_ble_eq_true rfl)) dX4_conditions_316 ⟨Nat.le_of_ble_eq_true rfl, Nat.le_of_ble_eq_true rfl⟩) hD hS hA (fun H locs hP hD hS => ?_)
  obtain ⟨u33, eu33⟩ : ∃ z, z = f_X4_pair u32 (73292 : Int32) (104 : Int32) (9 : Int32) := ⟨_, rfl⟩
  have hP : va_P G vwCl (wM yy a u33) H := by rw [eu33]; exact hP
  have hD : va_D A (wM yy a u33) := by rw [eu33]; exact hD
  have hqu33 : m_ct u33 = nI 106 := by rw [eu33]; exact ct_pair _ _ _ hqu32
  refine lv_aload_n hx hb dX4_conditions_319 rfl (lv_at hl 0 rfl) ?_
  refine lv_ldc hx hb hown (hts (.constant RX4 74 (73304)) (by decide +kernel)) dX4_conditions_320 ?_
  refine lv_bipush (v := 106) hx hb dX4_conditions_322 (by decide) ?_
  refine lv_bipush (v := 9) hx hb dX4_conditions_324 (by decide) ?_
  refine g_v (va_runV (As := [.int (73304 : Int32), .int (106 : Int32), .int (9 : Int32)]) (rest := []) ⟨hx, hb, hml, hown, hts⟩ (c_X4_pair l yy a u33 (73304 : Int32) (106 : Int32) (9 : Int32) (⟨106, by decide, hqu33⟩) G H.size) (cwV 3 hts gX4_conditions_X4_pair rfl rfl rfl (by decide +kernel) ⟨Nat.le_of_ble_eq_true rfl, Nat.le_of_ble_eq_true rfl⟩) (g_preV eTrue_bl hK hE hP hD hS hA 0 rfl rfl) rfl rfl hl.1 rfl (lv_room (Nat.le_of_ble_eq_true rfl)) dX4_conditions_326 ⟨Nat.le_of_ble_eq_true rfl, Nat.le_of_ble_eq_true rfl⟩) hD hS hA (fun H locs hP hD hS => ?_)
  obtain ⟨u34, eu34⟩ : ∃ z, z = f_X4_pair u33 (73304 : Int32) (106 : Int32) (9 : Int32) := ⟨_, rfl⟩
  have hP : va_P G vwCl (wM yy a u34) H := by rw [eu34]; exact hP
  have hD : va_D A (wM yy a u34) := by rw [eu34]; exact hD
  have hqu34 : m_ct u34 = nI 108 := by rw [eu34]; exact ct_pair _ _ _ hqu33
  refine lv_aload_n hx hb dX4_conditions_329 rfl (lv_at hl 0 rfl) ?_
  refine lv_ldc hx hb hown (hts (.constant RX4 75 (73294)) (by decide +kernel)) dX4_conditions_330 ?_
  refine lv_bipush (v := 108) hx hb dX4_conditions_332 (by decide) ?_
  refine lv_bipush (v := 9) hx hb dX4_conditions_334 (by decide) ?_
  refine g_v (va_runV (As := [.int (73294 : Int32), .int (108 : Int32), .int (9 : Int32)]) (rest := []) ⟨hx, hb, hml, hown, hts⟩ (c_X4_pair l yy a u34 (73294 : Int32) (108 : Int32) (9 : Int32) (⟨108, by decide, hqu34⟩) G H.size) (cwV 3 hts gX4_conditions_X4_pair rfl rfl rfl (by decide +kernel) ⟨Nat.le_of_ble_eq_true rfl, Nat.le_of_ble_eq_true rfl⟩) (g_preV eTrue_bl hK hE hP hD hS hA 0 rfl rfl) rfl rfl hl.1 rfl (lv_room (Nat.le_of_ble_eq_true rfl)) dX4_conditions_336 ⟨Nat.le_of_ble_eq_true rfl, Nat.le_of_ble_eq_true rfl⟩) hD hS hA (fun H locs hP hD hS => ?_)
  obtain ⟨u35, eu35⟩ : ∃ z, z = f_X4_pair u34 (73294 : Int32) (108 : Int32) (9 : Int32) := ⟨_, rfl⟩
  have hP : va_P G vwCl (wM yy a u35) H := by rw [eu35]; exact hP
  have hD : va_D A (wM yy a u35) := by rw [eu35]; exact hD
  have hqu35 : m_ct u35 = nI 110 := by rw [eu35]; exact ct_pair _ _ _ hqu34
  refine lv_aload_n hx hb dX4_conditions_339 rfl (lv_at hl 0 rfl) ?_
  refine lv_ldc hx hb hown (hts (.constant RX4 76 (73057)) (by decide +kernel)) dX4_conditions_340 ?_
  refine lv_bipush (v := 110) hx hb dX4_conditions_342 (by decide) ?_
  refine lv_bipush (v := 9) hx hb dX4_conditions_344 (by decide) ?_
  refine g_v (va_runV (As := [.int (73057 : Int32), .int (110 : Int32), .int (9 : Int32)]) (rest := []) ⟨hx, hb, hml, hown, hts⟩ (c_X4_pair l yy a u35 (73057 : Int32) (110 : Int32) (9 : Int32) (⟨110, by decide, hqu35⟩) G H.size) (cwV 3 hts gX4_conditions_X4_pair rfl rfl rfl (by decide +kernel) ⟨Nat.le_of_ble_eq_true rfl, Nat.le_of_ble_eq_true rfl⟩) (g_preV eTrue_bl hK hE hP hD hS hA 0 rfl rfl) rfl rfl hl.1 rfl (lv_room (Nat.le_of_ble_eq_true rfl)) dX4_conditions_346 ⟨Nat.le_of_ble_eq_true rfl, Nat.le_of_ble_eq_true rfl⟩) hD hS hA (fun H locs hP hD hS => ?_)
  obtain ⟨u36, eu36⟩ : ∃ z, z = f_X4_pair u35 (73057 : Int32) (110 : Int32) (9 : Int32) := ⟨_, rfl⟩
  have hP : va_P G vwCl (wM yy a u36) H := by rw [eu36]; exact hP
  have hD : va_D A (wM yy a u36) := by rw [eu36]; exact hD
  have hqu36 : m_ct u36 = nI 112 := by rw [eu36]; exact ct_pair _ _ _ hqu35
  refine lv_aload_n hx hb dX4_conditions_349 rfl (lv_at hl 0 rfl) ?_
  refine lv_ldc hx hb hown (hts (.constant RX4 77 (73244)) (by decide +kernel)) dX4_conditions_350 ?_
  refine lv_bipush (v := 96) hx hb dX4_conditions_352 (by decide) ?_
  refine lv_bipush (v := 9) hx hb dX4_conditions_354 (by decide) ?_
  refine g_v (va_runV (As := [.int (73244 : Int32), .int (96 : Int32), .int (9 : Int32)]) (rest := []) ⟨hx, hb, hml, hown, hts⟩ (c_X4_pair l yy a u36 (73244 : Int32) (96 : Int32) (9 : Int32) (⟨112, by decide, hqu36⟩) G H.size) (cwV 3 hts gX4_conditions_X4_pair rfl rfl rfl (by decide +kernel) ⟨Nat.le_of_ble_eq_true rfl, Nat.le_of_ble_eq_true rfl⟩) (g_preV eTrue_bl hK hE hP hD hS hA 0 rfl rfl) rfl rfl hl.1 rfl (lv_room (Nat.le_of_ble_eq_true rfl)) dX4_conditions_356 ⟨Nat.le_of_ble_eq_true rfl, Nat.le_of_ble_eq_true rfl⟩) hD hS hA (fun H locs hP hD hS => ?_)
  obtain ⟨u37, eu37⟩ : ∃ z, z = f_X4_pair u36 (73244 : Int32) (96 : Int32) (9 : Int32) := ⟨_, rfl⟩
  have hP : va_P G vwCl (wM yy a u37) H := by rw [eu37]; exact hP
  have hD : va_D A (wM yy a u37) := by rw [eu37]; exact hD
  have hqu37 : m_ct u37 = nI 114 := by rw [eu37]; exact ct_pair _ _ _ hqu36
  refine lv_aload_n hx hb dX4_conditions_359 rfl (lv_at hl 0 rfl) ?_
  refine lv_ldc hx hb hown (hts (.constant RX4 78 (73052)) (by decide +kernel)) dX4_conditions_360 ?_
  refine lv_bipush (v := 98) hx hb dX4_conditions_362 (by decide) ?_
  refine lv_bipush (v := 9) hx hb dX4_conditions_364 (by decide) ?_
  refine g_v (va_runV (As := [.int (73052 : Int32), .int (98 : Int32), .int (9 : Int32)]) (rest := []) ⟨hx, hb, hml, hown, hts⟩ (c_X4_pair l yy a u37 (73052 : Int32) (98 : Int32) (9 : Int32) (⟨114, by decide, hqu37⟩) G H.size) (cwV 3 hts gX4_conditions_X4_pair rfl rfl rfl (by decide +kernel) ⟨Nat.le_of_ble_eq_true rfl, Nat.le_of_ble_eq_true rfl⟩) (g_preV eTrue_bl hK hE hP hD hS hA 0 rfl rfl) rfl rfl hl.1 rfl (lv_room (Nat.le_of_ble_eq_true rfl)) dX4_conditions_366 ⟨Nat.le_of_ble_eq_true rfl, Nat.le_of_ble_eq_true rfl⟩) hD hS hA (fun H locs hP hD hS => ?_)
  obtain ⟨u38, eu38⟩ : ∃ z, z = f_X4_pair u37 (73052 : Int32) (98 : Int32) (9 : Int32) := ⟨_, rfl⟩
  have hP : va_P G vwCl (wM yy a u38) H := by rw [eu38]; exact hP
  have hD : va_D A (wM yy a u38) := by rw [eu38]; exact hD
  have hqu38 : m_ct u38 = nI 116 := by rw [eu38]; exact ct_pair _ _ _ hqu37
  refine lv_aload_n hx hb dX4_conditions_369 rfl (lv_at hl 0 rfl) ?_
  refine lv_ldc hx hb hown (hts (.constant RX4 79 (73109)) (by decide +kernel)) dX4_conditions_370 ?_
  refine lv_bipush (v := 100) hx hb dX4_conditions_372 (by decide) ?_
  refine lv_bipush (v := 9) hx hb dX4_conditions_374 (by decide) ?_
  refine g_v (va_runV (As := [.int (73109 : Int32), .int (100 : Int32), .int (9 : Int32)]) (rest := []) ⟨hx, hb, hml, hown, hts⟩ (c_X4_pair l yy a u38 (73109 : Int32) (100 : Int32) (9 : Int32) (⟨116, by decide, hqu38⟩) G H.size) (cwV 3 hts gX4_conditions_X4_pair rfl rfl rfl (by decide +kernel) ⟨Nat.le_of_ble_eq_true rfl, Nat.le_of_ble_eq_true rfl⟩) (g_preV eTrue_bl hK hE hP hD hS hA 0 rfl rfl) rfl rfl hl.1 rfl (lv_room (Nat.le_of_ble_eq_true rfl)) dX4_conditions_376 ⟨Nat.le_of_ble_eq_true rfl, Nat.le_of_ble_eq_true rfl⟩) hD hS hA (fun H locs hP hD hS => ?_)
  obtain ⟨u39, eu39⟩ : ∃ z, z = f_X4_pair u38 (73109 : Int32) (100 : Int32) (9 : Int32) := ⟨_, rfl⟩
  have hP : va_P G vwCl (wM yy a u39) H := by rw [eu39]; exact hP
  have hD : va_D A (wM yy a u39) := by rw [eu39]; exact hD
  have hqu39 : m_ct u39 = nI 118 := by rw [eu39]; exact ct_pair _ _ _ hqu38
  refine lv_aload_n hx hb dX4_conditions_379 rfl (lv_at hl 0 rfl) ?_
  refine lv_ldc hx hb hown (hts (.constant RX4 80 (73094)) (by decide +kernel)) dX4_conditions_380 ?_
  refine lv_bipush (v := 104) hx hb dX4_conditions_382 (by decide) ?_
  refine lv_bipush (v := 9) hx hb dX4_conditions_384 (by decide) ?_
  refine g_v (va_runV (As := [.int (73094 : Int32), .int (104 : Int32), .int (9 : Int32)]) (rest := []) ⟨hx, hb, hml, hown, hts⟩ (c_X4_pair l yy a u39 (73094 : Int32) (104 : Int32) (9 : Int32) (⟨118, by decide, hqu39⟩) G H.size) (cwV 3 hts gX4_conditions_X4_pair rfl rfl rfl (by decide +kernel) ⟨Nat.le_of_ble_eq_true rfl, Nat.le_of_ble_eq_true rfl⟩) (g_preV eTrue_bl hK hE hP hD hS hA 0 rfl rfl) rfl rfl hl.1 rfl (lv_room (Nat.le_of_ble_eq_true rfl)) dX4_conditions_386 ⟨Nat.le_of_ble_eq_true rfl, Nat.le_of_ble_eq_true rfl⟩) hD hS hA (fun H locs hP hD hS => ?_)
  obtain ⟨u40, eu40⟩ : ∃ z, z = f_X4_pair u39 (73094 : Int32) (104 : Int32) (9 : Int32) := ⟨_, rfl⟩
  have hP : va_P G vwCl (wM yy a u40) H := by rw [eu40]; exact hP
  have hD : va_D A (wM yy a u40) := by rw [eu40]; exact hD
  have hqu40 : m_ct u40 = nI 120 := by rw [eu40]; exact ct_pair _ _ _ hqu39
  refine lv_aload_n hx hb dX4_conditions_389 rfl (lv_at hl 0 rfl) ?_
  refine lv_ldc hx hb hown (hts (.constant RX4 81 (73283)) (by decide +kernel)) dX4_conditions_390 ?_
  refine lv_bipush (v := 106) hx hb dX4_conditions_392 (by decide) ?_
  refine lv_bipush (v := 9) hx hb dX4_conditions_394 (by decide) ?_
  refine g_v (va_runV (As := [.int (73283 : Int32), .int (106 : Int32), .int (9 : Int32)]) (rest := []) ⟨hx, hb, hml, hown, hts⟩ (c_X4_pair l yy a u40 (73283 : Int32) (106 : Int32) (9 : Int32) (⟨120, by decide, hqu40⟩) G H.size) (cwV 3 hts gX4_conditions_X4_pair rfl rfl rfl (by decide +kernel) ⟨Nat.le_of_ble_eq_true rfl, Nat.le_of_ble_eq_true rfl⟩) (g_preV eTrue_bl hK hE hP hD hS hA 0 rfl rfl) rfl rfl hl.1 rfl (lv_room (Nat.le_of_ble_eq_true rfl)) dX4_conditions_396 ⟨Nat.le_of_ble_eq_true rfl, Nat.le_of_ble_eq_true rfl⟩) hD hS hA (fun H locs hP hD hS => ?_)
  obtain ⟨u41, eu41⟩ : ∃ z, z = f_X4_pair u40 (73283 : Int32) (106 : Int32) (9 : Int32) := ⟨_, rfl⟩
  have hP : va_P G vwCl (wM yy a u41) H := by rw [eu41]; exact hP
  have hD : va_D A (wM yy a u41) := by rw [eu41]; exact hD
  have hqu41 : m_ct u41 = nI 122 := by rw [eu41]; exact ct_pair _ _ _ hqu40
  refine lv_aload_n hx hb dX4_conditions_399 rfl (lv_at hl 0 rfl) ?_
  refine lv_ldc hx hb hown (hts (.constant RX4 82 (73229)) (by decide +kernel)) dX4_conditions_400 ?_
  refine lv_bipush (v := 108) hx hb dX4_conditions_402 (by decide) ?_
  refine lv_bipush (v := 9) hx hb dX4_conditions_404 (by decide) ?_
  refine g_v (va_runV (As := [.int (73229 : Int32), .int (108 : Int32), .int (9 : Int32)]) (rest := []) ⟨hx, hb, hml, hown, hts⟩ (c_X4_pair l yy a u41 (73229 : Int32) (108 : Int32) (9 : Int32) (⟨122, by decide, hqu41⟩) G H.size) (cwV 3 hts gX4_conditions_X4_pair rfl rfl rfl (by decide +kernel) ⟨Nat.le_of_ble_eq_true rfl, Nat.le_of_ble_eq_true rfl⟩) (g_preV eTrue_bl hK hE hP hD hS hA 0 rfl rfl) rfl rfl hl.1 rfl (lv_room (Nat.le_of_ble_eq_true rfl)) dX4_conditions_406 ⟨Nat.le_of_ble_eq_true rfl, Nat.le_of_ble_eq_true rfl⟩) hD hS hA (fun H locs hP hD hS => ?_)
  obtain ⟨u42, eu42⟩ : ∃ z, z = f_X4_pair u41 (73229 : Int32) (108 : Int32) (9 : Int32) := ⟨_, rfl⟩
  have hP : va_P G vwCl (wM yy a u42) H := by rw [eu42]; exact hP
  have hD : va_D A (wM yy a u42) := by rw [eu42]; exact hD
  have hqu42 : m_ct u42 = nI 124 := by rw [eu42]; exact ct_pair _ _ _ hqu41
  refine lv_aload_n hx hb dX4_conditions_409 rfl (lv_at hl 0 rfl) ?_
  refine lv_sipush (v := 19481) hx hb dX4_conditions_410 (by decide) ?_
  refine lv_bipush (v := 112) hx hb dX4_conditions_413 (by decide) ?_
  refine lv_bipush (v := 9) hx hb dX4_conditions_415 (by decide) ?_
  refine g_v (va_runV (As := [.int (19481 : Int32), .int (112 : Int32), .int (9 : Int32)]) (rest := []) ⟨hx, hb, hml, hown, hts⟩ (c_X4_pair l yy a u42 (19481 : Int32) (112 : Int32) (9 : Int32) (⟨124, by decide, hqu42⟩) G H.size) (cwV 3 hts gX4_conditions_X4_pair rfl rfl rfl (by decide +kernel) ⟨Nat.le_of_ble_eq_true rfl, Nat.le_of_ble_eq_true rfl⟩) (g_preV eTrue_bl hK hE hP hD hS hA 0 rfl rfl) rfl rfl hl.1 rfl (lv_room (Nat.le_of_ble_eq_true rfl)) dX4_conditions_417 ⟨Nat.le_of_ble_eq_true rfl, Nat.le_of_ble_eq_true rfl⟩) hD hS hA (fun H locs hP hD hS => ?_)
  obtain ⟨u43, eu43⟩ : ∃ z, z = f_X4_pair u42 (19481 : Int32) (112 : Int32) (9 : Int32) := ⟨_, rfl⟩
  have hP : va_P G vwCl (wM yy a u43) H := by rw [eu43]; exact hP
  have hD : va_D A (wM yy a u43) := by rw [eu43]; exact hD
  have hqu43 : m_ct u43 = nI 126 := by rw [eu43]; exact ct_pair _ _ _ hqu42
  refine lv_aload_n hx hb dX4_conditions_420 rfl (lv_at hl 0 rfl) ?_
  refine lv_sipush (v := 19493) hx hb dX4_conditions_421 (by decide) ?_
  refine lv_bipush (v := 114) hx hb dX4_conditions_424 (by decide) ?_
  refine lv_bipush (v := 9) hx hb dX4_conditions_426 (by decide) ?_
  refine g_v (va_runV (As := [.int (19493 : Int32), .int (114 : Int32), .int (9 : Int32)]) (rest := []) ⟨hx, hb, hml, hown, hts⟩ (c_X4_pair l yy a u43 (19493 : Int32) (114 : Int32) (9 : Int32) (⟨126, by decide, hqu43⟩) G H.size) (cwV 3 hts gX4_conditions_X4_pair rfl rfl rfl (by decide +kernel) ⟨Nat.le_of_ble_eq_true rfl, Nat.le_of_ble_eq_true rfl⟩) (g_preV eTrue_bl hK hE hP hD hS hA 0 rfl rfl) rfl rfl hl.1 rfl (lv_room (Nat.le_of_ble_eq_true rfl)) dX4_conditions_428 ⟨Nat.le_of_ble_eq_true rfl, Nat.le_of_ble_eq_true rfl⟩) hD hS hA (fun H locs hP hD hS => ?_)
  obtain ⟨u44, eu44⟩ : ∃ z, z = f_X4_pair u43 (19493 : Int32) (114 : Int32) (9 : Int32) := ⟨_, rfl⟩
  have hP : va_P G vwCl (wM yy a u44) H := by rw [eu44]; exact hP
  have hD : va_D A (wM yy a u44) := by rw [eu44]; exact hD
  have hqu44 : m_ct u44 = nI 128 := by rw [eu44]; exact ct_pair _ _ _ hqu43
  refine lv_aload_n hx hb dX4_conditions_431 rfl (lv_at hl 0 rfl) ?_
  refine lv_sipush (v := 19483) hx hb dX4_conditions_432 (by decide) ?_
  refine lv_bipush (v := 116) hx hb dX4_conditions_435 (by decide) ?_
  refine lv_bipush (v := 9) hx hb dX4_conditions_437 (by decide) ?_
  refine g_v (va_runV (As := [.int (19483 : Int32), .int (116 : Int32), .int (9 : Int32)]) (rest := []) ⟨hx, hb, hml, hown, hts⟩ (c_X4_pair l yy a u44 (19483 : Int32) (116 : Int32) (9 : Int32) (⟨128, by decide, hqu44⟩) G H.size) (cwV 3 hts gX4_conditions_X4_pair rfl rfl rfl (by decide +kernel) ⟨Nat.le_of_ble_eq_true rfl, Nat.le_of_ble_eq_true rfl⟩) (g_preV eTrue_bl hK hE hP hD hS hA 0 rfl rfl) rfl rfl hl.1 rfl (lv_room (Nat.le_of_ble_eq_true rfl)) dX4_conditions_439 ⟨Nat.le_of_ble_eq_true rfl, Nat.le_of_ble_eq_true rfl⟩) hD hS hA (fun H locs hP hD hS => ?_)
  obtain ⟨u45, eu45⟩ : ∃ z, z = f_X4_pair u44 (19483 : Int32) (116 : Int32) (9 : Int32) := ⟨_, rfl⟩
  have hP : va_P G vwCl (wM yy a u45) H := by rw [eu45]; exact hP
  have hD : va_D A (wM yy a u45) := by rw [eu45]; exact hD
  have hqu45 : m_ct u45 = nI 130 := by rw [eu45]; exact ct_pair _ _ _ hqu44
  refine lv_aload_n hx hb dX4_conditions_442 rfl (lv_at hl 0 rfl) ?_
  refine lv_ldc hx hb hown (hts (.constant RX4 83 (526018)) (by decide +kernel)) dX4_conditions_443 ?_
  refine lv_bipush (v := 118) hx hb dX4_conditions_445 (by decide) ?_
  refine lv_bipush (v := 9) hx hb dX4_conditions_447 (by decide) ?_
  refine g_v (va_runV (As := [.int (526018 : Int32), .int (118 : Int32), .int (9 : Int32)]) (rest := []) ⟨hx, hb, hml, hown, hts⟩ (c_X4_pair l yy a u45 (526018 : Int32) (118 : Int32) (9 : Int32) (⟨130, by decide, hqu45⟩) G H.size) (cwV 3 hts gX4_conditions_X4_pair rfl rfl rfl (by decide +kernel) ⟨Nat.le_of_ble_eq_true rfl, Nat.le_of_ble_eq_true rfl⟩) (g_preV eTrue_bl hK hE hP hD hS hA 0 rfl rfl) rfl rfl hl.1 rfl (lv_room (Nat.le_of_ble_eq_true rfl)) dX4_conditions_449 ⟨Nat.le_of_ble_eq_true rfl, Nat.le_of_ble_eq_true rfl⟩) hD hS hA (fun H locs hP hD hS => ?_)
  obtain ⟨u46, eu46⟩ : ∃ z, z = f_X4_pair u45 (526018 : Int32) (118 : Int32) (9 : Int32) := ⟨_, rfl⟩
  have hP : va_P G vwCl (wM yy a u46) H := by rw [eu46]; exact hP
  have hD : va_D A (wM yy a u46) := by rw [eu46]; exact hD
  have hqu46 : m_ct u46 = nI 132 := by rw [eu46]; exact ct_pair _ _ _ hqu45
  refine lv_aload_n hx hb dX4_conditions_452 rfl (lv_at hl 0 rfl) ?_
  refine lv_ldc hx hb hown (hts (.constant RX4 84 (526001)) (by decide +kernel)) dX4_conditions_453 ?_
  refine lv_bipush (v := 120) hx hb dX4_conditions_455 (by decide) ?_
  refine lv_bipush (v := 9) hx hb dX4_conditions_457 (by decide) ?_
  refine g_v (va_runV (As := [.int (526001 : Int32), .int (120 : Int32), .int (9 : Int32)]) (rest := []) ⟨hx, hb, hml, hown, hts⟩ (c_X4_pair l yy a u46 (526001 : Int32) (120 : Int32) (9 : Int32) (⟨132, by decide, hqu46⟩) G H.size) (cwV 3 hts gX4_conditions_X4_pair rfl rfl rfl (by decide +kernel) ⟨Nat.le_of_ble_eq_true rfl, Nat.le_of_ble_eq_true rfl⟩) (g_preV eTrue_bl hK hE hP hD hS hA 0 rfl rfl) rfl rfl hl.1 rfl (lv_room (Nat.le_of_ble_eq_true rfl)) dX4_conditions_459 ⟨Nat.le_of_ble_eq_true rfl, Nat.le_of_ble_eq_true rfl⟩) hD hS hA (fun H locs hP hD hS => ?_)
  obtain ⟨u47, eu47⟩ : ∃ z, z = f_X4_pair u46 (526001 : Int32) (120 : Int32) (9 : Int32) := ⟨_, rfl⟩
  have hP : va_P G vwCl (wM yy a u47) H := by rw [eu47]; exact hP
  have hD : va_D A (wM yy a u47) := by rw [eu47]; exact hD
  have hqu47 : m_ct u47 = nI 134 := by rw [eu47]; exact ct_pair _ _ _ hqu46
  refine lv_aload_n hx hb dX4_conditions_462 rfl (lv_at hl 0 rfl) ?_
  refine lv_ldc hx hb hown (hts (.constant RX4 85 (526013)) (by decide +kernel)) dX4_conditions_463 ?_
  refine lv_bipush (v := 122) hx hb dX4_conditions_465 (by decide) ?_
  refine lv_bipush (v := 9) hx hb dX4_conditions_467 (by decide) ?_
  refine g_v (va_runV (As := [.int (526013 : Int32), .int (122 : Int32), .int (9 : Int32)]) (rest := []) ⟨hx, hb, hml, hown, hts⟩ (c_X4_pair l yy a u47 (526013 : Int32) (122 : Int32) (9 : Int32) (⟨134, by decide, hqu47⟩) G H.size) (cwV 3 hts gX4_conditions_X4_pair rfl rfl rfl (by decide +kernel) ⟨Nat.le_of_ble_eq_true rfl, Nat.le_of_ble_eq_true rfl⟩) (g_preV eTrue_bl hK hE hP hD hS hA 0 rfl rfl) rfl rfl hl.1 rfl (lv_room (Nat.le_of_ble_eq_true rfl)) dX4_conditions_469 ⟨Nat.le_of_ble_eq_true rfl, Nat.le_of_ble_eq_true rfl⟩) hD hS hA (fun H locs hP hD hS => ?_)
  obtain ⟨u48, eu48⟩ : ∃ z, z = f_X4_pair u47 (526013 : Int32) (122 : Int32) (9 : Int32) := ⟨_, rfl⟩
  have hP : va_P G vwCl (wM yy a u48) H := by rw [eu48]; exact hP
  have hD : va_D A (wM yy a u48) := by rw [eu48]; exact hD
  have hqu48 : m_ct u48 = nI 136 := by rw [eu48]; exact ct_pair _ _ _ hqu47
  refine lv_aload_n hx hb dX4_conditions_472 rfl (lv_at hl 0 rfl) ?_
  refine lv_ldc hx hb hown (hts (.constant RX4 86 (526003)) (by decide +kernel)) dX4_conditions_473 ?_
  refine lv_bipush (v := 124) hx hb dX4_conditions_475 (by decide) ?_
  refine lv_bipush (v := 9) hx hb dX4_conditions_477 (by decide) ?_
  refine g_v (va_runV (As := [.int (526003 : Int32), .int (124 : Int32), .int (9 : Int32)]) (rest := []) ⟨hx, hb, hml, hown, hts⟩ (c_X4_pair l yy a u48 (526003 : Int32) (124 : Int32) (9 : Int32) (⟨136, by decide, hqu48⟩) G H.size) (cwV 3 hts gX4_conditions_X4_pair rfl rfl rfl (by decide +kernel) ⟨Nat.le_of_ble_eq_true rfl, Nat.le_of_ble_eq_true rfl⟩) (g_preV eTrue_bl hK hE hP hD hS hA 0 rfl rfl) rfl rfl hl.1 rfl (lv_room (Nat.le_of_ble_eq_true rfl)) dX4_conditions_479 ⟨Nat.le_of_ble_eq_true rfl, Nat.le_of_ble_eq_true rfl⟩) hD hS hA (fun H locs hP hD hS => ?_)
  obtain ⟨u49, eu49⟩ : ∃ z, z = f_X4_pair u48 (526003 : Int32) (124 : Int32) (9 : Int32) := ⟨_, rfl⟩
  have hP : va_P G vwCl (wM yy a u49) H := by rw [eu49]; exact hP
  have hD : va_D A (wM yy a u49) := by rw [eu49]; exact hD
  have hqu49 : m_ct u49 = nI 138 := by rw [eu49]; exact ct_pair _ _ _ hqu48
  refine lv_aload_n hx hb dX4_conditions_482 rfl (lv_at hl 0 rfl) ?_
  refine lv_ldc hx hb hown (hts (.constant RX4 87 (525766)) (by decide +kernel)) dX4_conditions_483 ?_
  refine lv_bipush (v := 126) hx hb dX4_conditions_485 (by decide) ?_
  refine lv_bipush (v := 9) hx hb dX4_conditions_487 (by decide) ?_
  refine g_v (va_runV (As := [.int (525766 : Int32), .int (126 : Int32), .int (9 : Int32)]) (rest := []) ⟨hx, hb, hml, hown, hts⟩ (c_X4_pair l yy a u49 (525766 : Int32) (126 : Int32) (9 : Int32) (⟨138, by decide, hqu49⟩) G H.size) (cwV 3 hts gX4_conditions_X4_pair rfl rfl rfl (by decide +kernel) ⟨Nat.le_of_ble_eq_true rfl, Nat.le_of_ble_eq_true rfl⟩) (g_preV eTrue_bl hK hE hP hD hS hA 0 rfl rfl) rfl rfl hl.1 rfl (lv_room (Nat.le_of_ble_eq_true rfl)) dX4_conditions_489 ⟨Nat.le_of_ble_eq_true rfl, Nat.le_of_ble_eq_true rfl⟩) hD hS hA (fun H locs hP hD hS => ?_)
  obtain ⟨u50, eu50⟩ : ∃ z, z = f_X4_pair u49 (525766 : Int32) (126 : Int32) (9 : Int32) := ⟨_, rfl⟩
  have hP : va_P G vwCl (wM yy a u50) H := by rw [eu50]; exact hP
  have hD : va_D A (wM yy a u50) := by rw [eu50]; exact hD
  have hqu50 : m_ct u50 = nI 140 := by rw [eu50]; exact ct_pair _ _ _ hqu49
  refine lv_aload_n hx hb dX4_conditions_492 rfl (lv_at hl 0 rfl) ?_
  refine lv_ldc hx hb hown (hts (.constant RX4 88 (525953)) (by decide +kernel)) dX4_conditions_493 ?_
  refine lv_bipush (v := 112) hx hb dX4_conditions_495 (by decide) ?_
  refine lv_bipush (v := 9) hx hb dX4_conditions_497 (by decide) ?_
  refine g_v (va_runV (As := [.int (525953 : Int32), .int (112 : Int32), .int (9 : Int32)]) (rest := []) ⟨hx, hb, hml, hown, hts⟩ (c_X4_pair l yy a u50 (525953 : Int32) (112 : Int32) (9 : Int32) (⟨140, by decide, hqu50⟩) G H.size) (cwV 3 hts gX4_conditions_X4_pair rfl rfl rfl (by decide +kernel) ⟨Nat.le_of_ble_eq_true rfl, Nat.le_of_ble_eq_true rfl⟩) (g_preV eTrue_bl hK hE hP hD hS hA 0 rfl rfl) rfl rfl hl.1 rfl (lv_room (Nat.le_of_ble_eq_true rfl)) dX4_conditions_499 ⟨Nat.le_of_ble_eq_true rfl, Nat.le_of_ble_eq_true rfl⟩) hD hS hA (fun H locs hP hD hS => ?_)
  obtain ⟨u51, eu51⟩ : ∃ z, z = f_X4_pair u50 (525953 : Int32) (112 : Int32) (9 : Int32) := ⟨_, rfl⟩
  have hP : va_P G vwCl (wM yy a u51) H := by rw [eu51]; exact hP
  have hD : va_D A (wM yy a u51) := by rw [eu51]; exact hD
  have hqu51 : m_ct u51 = nI 142 := by rw [eu51]; exact ct_pair _ _ _ hqu50
  refine lv_aload_n hx hb dX4_conditions_502 rfl (lv_at hl 0 rfl) ?_
  refine lv_ldc hx hb hown (hts (.constant RX4 89 (525761)) (by decide +kernel)) dX4_conditions_503 ?_
  refine lv_bipush (v := 114) hx hb dX4_conditions_505 (by decide) ?_
  refine lv_bipush (v := 9) hx hb dX4_conditions_507 (by decide) ?_
  refine g_v (va_runV (As := [.int (525761 : Int32), .int (114 : Int32), .int (9 : Int32)]) (rest := []) ⟨hx, hb, hml, hown, hts⟩ (c_X4_pair l yy a u51 (525761 : Int32) (114 : Int32) (9 : Int32) (⟨142, by decide, hqu51⟩) G H.size) (cwV 3 hts gX4_conditions_X4_pair rfl rfl rfl (by decide +kernel) ⟨Nat.le_of_ble_eq_true rfl, Nat.le_of_ble_eq_true rfl⟩) (g_preV eTrue_bl hK hE hP hD hS hA 0 rfl rfl) rfl rfl hl.1 rfl (lv_room (Nat.le_of_ble_eq_true rfl)) dX4_conditions_509 ⟨Nat.le_of_ble_eq_true rfl, Nat.le_of_ble_eq_true rfl⟩) hD hS hA (fun H locs hP hD hS => ?_)
  obtain ⟨u52, eu52⟩ : ∃ z, z = f_X4_pair u51 (525761 : Int32) (114 : Int32) (9 : Int32) := ⟨_, rfl⟩
  have hP : va_P G vwCl (wM yy a u52) H := by rw [eu52]; exact hP
  have hD : va_D A (wM yy a u52) := by rw [eu52]; exact hD
  have hqu52 : m_ct u52 = nI 144 := by rw [eu52]; exact ct_pair _ _ _ hqu51
  refine lv_aload_n hx hb dX4_conditions_512 rfl (lv_at hl 0 rfl) ?_
  refine lv_ldc hx hb hown (hts (.constant RX4 90 (525818)) (by decide +kernel)) dX4_conditions_513 ?_
  refine lv_bipush (v := 116) hx hb dX4_conditions_515 (by decide) ?_
  refine lv_bipush (v := 9) hx hb dX4_conditions_517 (by decide) ?_
  refine g_v (va_runV (As := [.int (525818 : Int32), .int (116 : Int32), .int (9 : Int32)]) (rest := []) ⟨hx, hb, hml, hown, hts⟩ (c_X4_pair l yy a u52 (525818 : Int32) (116 : Int32) (9 : Int32) (⟨144, by decide, hqu52⟩) G H.size) (cwV 3 hts gX4_conditions_X4_pair rfl rfl rfl (by decide +kernel) ⟨Nat.le_of_ble_eq_true rfl, Nat.le_of_ble_eq_true rfl⟩) (g_preV eTrue_bl hK hE hP hD hS hA 0 rfl rfl) rfl rfl hl.1 rfl (lv_room (Nat.le_of_ble_eq_true rfl)) dX4_conditions_519 ⟨Nat.le_of_ble_eq_true rfl, Nat.le_of_ble_eq_true rfl⟩) hD hS hA (fun H locs hP hD hS => ?_)
  obtain ⟨u53, eu53⟩ : ∃ z, z = f_X4_pair u52 (525818 : Int32) (116 : Int32) (9 : Int32) := ⟨_, rfl⟩
  have hP : va_P G vwCl (wM yy a u53) H := by rw [eu53]; exact hP
  have hD : va_D A (wM yy a u53) := by rw [eu53]; exact hD
  have hqu53 : m_ct u53 = nI 146 := by rw [eu53]; exact ct_pair _ _ _ hqu52
  refine lv_aload_n hx hb dX4_conditions_522 rfl (lv_at hl 0 rfl) ?_
  refine lv_ldc hx hb hown (hts (.constant RX4 91 (525803)) (by decide +kernel)) dX4_conditions_523 ?_
  refine lv_bipush (v := 120) hx hb dX4_conditions_525 (by decide) ?_
  refine lv_bipush (v := 9) hx hb dX4_conditions_527 (by decide) ?_
  refine g_v (va_runV (As := [.int (525803 : Int32), .int (120 : Int32), .int (9 : Int32)]) (rest := []) ⟨hx, hb, hml, hown, hts⟩ (c_X4_pair l yy a u53 (525803 : Int32) (120 : Int32) (9 : Int32) (⟨146, by decide, hqu53⟩) G H.size) (cwV 3 hts gX4_conditions_X4_pair rfl rfl rfl (by decide +kernel) ⟨Nat.le_of_ble_eq_true rfl, Nat.le_of_ble_eq_true rfl⟩) (g_preV eTrue_bl hK hE hP hD hS hA 0 rfl rfl) rfl rfl hl.1 rfl (lv_room (Nat.le_of_ble_eq_true rfl)) dX4_conditions_529 ⟨Nat.le_of_ble_eq_true rfl, Nat.le_of_ble_eq_true rfl⟩) hD hS hA (fun H locs hP hD hS => ?_)
  obtain ⟨u54, eu54⟩ : ∃ z, z = f_X4_pair u53 (525803 : Int32) (120 : Int32) (9 : Int32) := ⟨_, rfl⟩
  have hP : va_P G vwCl (wM yy a u54) H := by rw [eu54]; exact hP
  have hD : va_D A (wM yy a u54) := by rw [eu54]; exact hD
  have hqu54 : m_ct u54 = nI 148 := by rw [eu54]; exact ct_pair _ _ _ hqu53
  refine lv_aload_n hx hb dX4_conditions_532 rfl (lv_at hl 0 rfl) ?_
  refine lv_ldc hx hb hown (hts (.constant RX4 92 (525992)) (by decide +kernel)) dX4_conditions_533 ?_
  refine lv_bipush (v := 122) hx hb dX4_conditions_535 (by decide) ?_
  refine lv_bipush (v := 9) hx hb dX4_conditions_537 (by decide) ?_
  refine g_v (va_runV (As := [.int (525992 : Int32), .int (122 : Int32), .int (9 : Int32)]) (rest := []) ⟨hx, hb, hml, hown, hts⟩ (c_X4_pair l yy a u54 (525992 : Int32) (122 : Int32) (9 : Int32) (⟨148, by decide, hqu54⟩) G H.size) (cwV 3 hts gX4_conditions_X4_pair rfl rfl rfl (by decide +kernel) ⟨Nat.le_of_ble_eq_true rfl, Nat.le_of_ble_eq_true rfl⟩) (g_preV eTrue_bl hK hE hP hD hS hA 0 rfl rfl) rfl rfl hl.1 rfl (lv_room (Nat.le_of_ble_eq_true rfl)) dX4_conditions_539 ⟨Nat.le_of_ble_eq_true rfl, Nat.le_of_ble_eq_true rfl⟩) hD hS hA (fun H locs hP hD hS => ?_)
  obtain ⟨u55, eu55⟩ : ∃ z, z = f_X4_pair u54 (525992 : Int32) (122 : Int32) (9 : Int32) := ⟨_, rfl⟩
  have hP : va_P G vwCl (wM yy a u55) H := by rw [eu55]; exact hP
  have hD : va_D A (wM yy a u55) := by rw [eu55]; exact hD
  have hqu55 : m_ct u55 = nI 150 := by rw [eu55]; exact ct_pair _ _ _ hqu54
  refine lv_aload_n hx hb dX4_conditions_542 rfl (lv_at hl 0 rfl) ?_
  refine lv_ldc hx hb hown (hts (.constant RX4 93 (525938)) (by decide +kernel)) dX4_conditions_543 ?_
  refine lv_bipush (v := 124) hx hb dX4_conditions_545 (by decide) ?_
  refine lv_bipush (v := 9) hx hb dX4_conditions_547 (by decide) ?_
  refine g_v (va_runV (As := [.int (525938 : Int32), .int (124 : Int32), .int (9 : Int32)]) (rest := []) ⟨hx, hb, hml, hown, hts⟩ (c_X4_pair l yy a u55 (525938 : Int32) (124 : Int32) (9 : Int32) (⟨150, by decide, hqu55⟩) G H.size) (cwV 3 hts gX4_conditions_X4_pair rfl rfl rfl (by decide +kernel) ⟨Nat.le_of_ble_eq_true rfl, Nat.le_of_ble_eq_true rfl⟩) (g_preV eTrue_bl hK hE hP hD hS hA 0 rfl rfl) rfl rfl hl.1 rfl (lv_room (Nat.le_of_ble_eq_true rfl)) dX4_conditions_549 ⟨Nat.le_of_ble_eq_true rfl, Nat.le_of_ble_eq_true rfl⟩) hD hS hA (fun H locs hP hD hS => ?_)
  obtain ⟨u56, eu56⟩ : ∃ z, z = f_X4_pair u55 (525938 : Int32) (124 : Int32) (9 : Int32) := ⟨_, rfl⟩
  have hP : va_P G vwCl (wM yy a u56) H := by rw [eu56]; exact hP
  have hD : va_D A (wM yy a u56) := by rw [eu56]; exact hD
  have hqu56 : m_ct u56 = nI 152 := by rw [eu56]; exact ct_pair _ _ _ hqu55
  exact g_vret (by have eu56 := eu56.symm; subst eu56; have eu55 := eu55.symm; subst eu55; have eu54 := eu54.symm; subst eu54; have eu53 := eu53.symm; subst eu53; have eu52 := eu52.symm; subst eu52; have eu51 := eu51.symm; subst eu51; have eu50 := eu50.symm; subst eu50; have eu49 := eu49.symm; subst eu49; have eu48 := eu48.symm; subst eu48; have eu47 := eu47.symm; subst eu47; have eu46 := eu46.symm; subst eu46; have eu45 := eu45.symm; subst eu45; have eu44 := eu44.symm; subst eu44; have eu43 := eu43.symm; subst eu43; have eu42 := eu42.symm; subst eu42; have eu41 := eu41.symm; subst eu41; have eu40 := eu40.symm; subst eu40; have eu39 := eu39.symm; subst eu39; have eu38 := eu38.symm; subst eu38; have eu37 := eu37.symm; subst eu37; have eu36 := eu36.symm; subst eu36; have eu35 := eu35.symm; subst eu35; have eu34 := eu34.symm; subst eu34; have eu33 := eu33.symm; subst eu33; have eu32 := eu32.symm; subst eu32; have eu31 := eu31.symm; subst eu31; have eu30 := eu30.symm; subst eu30; have eu29 := eu29.symm; subst eu29; have eu28 := eu28.symm; subst eu28; have eu27 := eu27.symm; subst eu27; have eu26 := eu26.symm; subst eu26; have eu25 := eu25.symm; subst eu25; have eu24 := eu24.symm; subst eu24; have eu23 := eu23.symm; subst eu23; have eu22 := eu22.symm; subst eu22; have eu21 := eu21.symm; subst eu21; have eu20 := eu20.symm; subst eu20; have eu19 := eu19.symm; subst eu19; have eu18 := eu18.symm; subst eu18; have eu17 := eu17.symm; subst eu17; have eu16 := eu16.symm; subst eu16; have eu15 := eu15.symm; subst eu15; have eu14 := eu14.symm; subst eu14; have eu13 := eu13.symm; subst eu13; have eu12 := eu12.symm; subst eu12; have eu11 := eu11.symm; subst eu11; have eu10 := eu10.symm; subst eu10; have eu9 := eu9.symm; subst eu9; have eu8 := eu8.symm; subst eu8; have eu7 := eu7.symm; subst eu7; have eu6 := eu6.symm; subst eu6; have eu5 := eu5.symm; subst eu5; have eu4 := eu4.symm; subst eu4; have eu3 := eu3.symm; subst eu3; have eu2 := eu2.symm; subst eu2; have eu1 := eu1.symm; subst eu1; exact rfl) hx hb hr hP hD hS hlocks dX4_conditions_552
