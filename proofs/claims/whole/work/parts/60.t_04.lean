def f_X4_numbers (u : MS)  : MS :=
  let u1 : MS := f_X4_pair u (10056 : Int32) (24 : Int32) (9 : Int32);
  let u2 : MS := f_X4_pair u1 (271533 : Int32) (26 : Int32) (9 : Int32);
  let u3 : MS := f_X4_pair u2 (3181 : Int32) (28 : Int32) (9 : Int32);
  let u4 : MS := f_X4_pair u3 (85908 : Int32) (30 : Int32) (9 : Int32);
  let u5 : MS := f_X4_pair u4 (841 : Int32) (32 : Int32) (9 : Int32);
  let u6 : MS := f_X4_pair u5 (22728 : Int32) (34 : Int32) (9 : Int32);
  let u7 : MS := f_X4_pair u6 (14420 : Int32) (36 : Int32) (9 : Int32);
  let u8 : MS := f_X4_pair u7 (389361 : Int32) (38 : Int32) (9 : Int32);
  let u9 : MS := f_X4_pair u8 (2148492 : Int32) (40 : Int32) (9 : Int32);
  let u10 : MS := f_X4_pair u9 (9057225 : Int32) (42 : Int32) (9 : Int32);
  let u11 : MS := f_X4_pair u10 (7994343 : Int32) (44 : Int32) (9 : Int32);
  let u12 : MS := f_X4_pair u11 (4274256 : Int32) (46 : Int32) (9 : Int32);
  let u13 : MS := f_X4_pair u12 (2554 : Int32) (48 : Int32) (9 : Int32);
  let u14 : MS := f_X4_pair u13 (68979 : Int32) (50 : Int32) (9 : Int32);
  let u15 : MS := f_X4_pair u14 (10348 : Int32) (52 : Int32) (9 : Int32);
  let u16 : MS := f_X4_pair u15 (279417 : Int32) (54 : Int32) (9 : Int32);
  let u17 : MS := f_X4_pair u16 (525 : Int32) (56 : Int32) (9 : Int32);
  let u18 : MS := f_X4_pair u17 (14196 : Int32) (58 : Int32) (9 : Int32);
  let u19 : MS := f_X4_pair u18 (531 : Int32) (60 : Int32) (9 : Int32);
  let u20 : MS := f_X4_pair u19 (14358 : Int32) (62 : Int32) (9 : Int32);
  u20
abbrev rm_X4_numbers : Room := { frames := 2, cells := 0, slots := 0, locals := 45 }
set_option maxHeartbeats 4000000 in
set_option maxRecDepth 100000 in
theorem c_X4_numbers (l : Launch) (yy : Nat → ClassId) (a : Nat → Nat) (u : MS) (h0 : m_ct u = nI 0) : gMv l yX4_numbers wsX4_numbers rm_X4_numbers eTrue (sT yy) (wM yy a) [.ref (a 0)] u (f_X4_numbers u) := by
  refine gm_ofW (Qc := gQv (wM yy a) (f_X4_numbers u)) (by decide) rfl (Nat.le_of_ble_eq_true rfl) ?_
  intro G A p e s m args below meth c hx hb hr hml hts hown hlocks hK hE hA H locs hP hD hS ls hl
  have hl : lv_has ls 1 [(0, .ref (a 0))] := hl
  refine lv_aload_n hx hb dX4_numbers_0 rfl (lv_at hl 0 rfl) ?_
  refine lv_sipush (v := 10056) hx hb dX4_numbers_1 (by decide) ?_
  refine lv_bipush (v := 24) hx hb dX4_numbers_4 (by decide) ?_
  refine lv_bipush (v := 9) hx hb dX4_numbers_6 (by decide) ?_
  refine g_v (va_runV (As := [.int (10056 : Int32), .int (24 : Int32), .int (9 : Int32)]) (rest := []) ⟨hx, hb, hml, hown, hts⟩ (c_X4_pair l yy a u (10056 : Int32) (24 : Int32) (9 : Int32) (⟨0, by decide, h0⟩) G H.size) (cwV 3 hts gX4_numbers_X4_pair rfl rfl rfl (by decide +kernel) ⟨Nat.le_of_ble_eq_true rfl, Nat.le_of_ble_eq_true rfl⟩) (g_preV eTrue_bl hK hE hP hD hS hA 0 rfl rfl) rfl rfl hl.1 rfl (lv_room (Nat.le_of_ble_eq_true rfl)) dX4_numbers_8 ⟨Nat.le_of_ble_eq_true rfl, Nat.le_of_ble_eq_true rfl⟩) hD hS hA (fun H locs hP hD hS => ?_)
  obtain ⟨u1, eu1⟩ : ∃ z, z = f_X4_pair u (10056 : Int32) (24 : Int32) (9 : Int32) := ⟨_, rfl⟩
  have hP : va_P G vwCl (wM yy a u1) H := by rw [eu1]; exact hP
  have hD : va_D A (wM yy a u1) := by rw [eu1]; exact hD
  have hqu1 : m_ct u1 = nI 2 := by rw [eu1]; exact ct_pair _ _ _ h0
  refine lv_aload_n hx hb dX4_numbers_11 rfl (lv_at hl 0 rfl) ?_
  refine lv_ldc hx hb hown (hts (.constant RX4 52 (271533)) (by decide +kernel)) dX4_numbers_12 ?_
  refine lv_bipush (v := 26) hx hb dX4_numbers_14 (by decide) ?_
  refine lv_bipush (v := 9) hx hb dX4_numbers_16 (by decide) ?_
  refine g_v (va_runV (As := [.int (271533 : Int32), .int (26 : Int32), .int (9 : Int32)]) (rest := []) ⟨hx, hb, hml, hown, hts⟩ (c_X4_pair l yy a u1 (271533 : Int32) (26 : Int32) (9 : Int32) (⟨2, by decide, hqu1⟩) G H.size) (cwV 3 hts gX4_numbers_X4_pair rfl rfl rfl (by decide +kernel) ⟨Nat.le_of_ble_eq_true rfl, Nat.le_of_ble_eq_true rfl⟩) (g_preV eTrue_bl hK hE hP hD hS hA 0 rfl rfl) rfl rfl hl.1 rfl (lv_room (Nat.le_of_ble_eq_true rfl)) dX4_numbers_18 ⟨Nat.le_of_ble_eq_true rfl, Nat.le_of_ble_eq_true rfl⟩) hD hS hA (fun H locs hP hD hS => ?_)
  obtain ⟨u2, eu2⟩ : ∃ z, z = f_X4_pair u1 (271533 : Int32) (26 : Int32) (9 : Int32) := ⟨_, rfl⟩
  have hP : va_P G vwCl (wM yy a u2) H := by rw [eu2]; exact hP
  have hD : va_D A (wM yy a u2) := by rw [eu2]; exact hD
  have hqu2 : m_ct u2 = nI 4 := by rw [eu2]; exact ct_pair _ _ _ hqu1
  refine lv_aload_n hx hb dX4_numbers_21 rfl (lv_at hl 0 rfl) ?_
  refine lv_sipush (v := 3181) hx hb dX4_numbers_22 (by decide) ?_
  refine lv_bipush (v := 28) hx hb dX4_numbers_25 (by decide) ?_
  refine lv_bipush (v := 9) hx hb dX4_numbers_27 (by decide) ?_
  refine g_v (va_runV (As := [.int (3181 : Int32), .int (28 : Int32), .int (9 : Int32)]) (rest := []) ⟨hx, hb, hml, hown, hts⟩ (c_X4_pair l yy a u2 (3181 : Int32) (28 : Int32) (9 : Int32) (⟨4, by decide, hqu2⟩) G H.size) (cwV 3 hts gX4_numbers_X4_pair rfl rfl rfl (by decide +kernel) ⟨Nat.le_of_ble_eq_true rfl, Nat.le_of_ble_eq_true rfl⟩) (g_preV eTrue_bl hK hE hP hD hS hA 0 rfl rfl) rfl rfl hl.1 rfl (lv_room (Nat.le_of_ble_eq_true rfl)) dX4_numbers_29 ⟨Nat.le_of_ble_eq_true rfl, Nat.le_of_ble_eq_true rfl⟩) hD hS hA (fun H locs hP hD hS => ?_)
  obtain ⟨u3, eu3⟩ : ∃ z, z = f_X4_pair u2 (3181 : Int32) (28 : Int32) (9 : Int32) := ⟨_, rfl⟩
  have hP : va_P G vwCl (wM yy a u3) H := by rw [eu3]; exact hP
  have hD : va_D A (wM yy a u3) := by rw [eu3]; exact hD
  have hqu3 : m_ct u3 = nI 6 := by rw [eu3]; exact ct_pair _ _ _ hqu2
  refine lv_aload_n hx hb dX4_numbers_32 rfl (lv_at hl 0 rfl) ?_
  refine lv_ldc hx hb hown (hts (.constant RX4 53 (85908)) (by decide +kernel)) dX4_numbers_33 ?_
  refine lv_bipush (v := 30) hx hb dX4_numbers_35 (by decide) ?_
  refine lv_bipush (v := 9) hx hb dX4_numbers_37 (by decide) ?_
  refine g_v (va_runV (As := [.int (85908 : Int32), .int (30 : Int32), .int (9 : Int32)]) (rest := []) ⟨hx, hb, hml, hown, hts⟩ (c_X4_pair l yy a u3 (85908 : Int32) (30 : Int32) (9 : Int32) (⟨6, by decide, hqu3⟩) G H.size) (cwV 3 hts gX4_numbers_X4_pair rfl rfl rfl (by decide +kernel) ⟨Nat.le_of_ble_eq_true rfl, Nat.le_of_ble_eq_true rfl⟩) (g_preV eTrue_bl hK hE hP hD hS hA 0 rfl rfl) rfl rfl hl.1 rfl (lv_room (Nat.le_of_ble_eq_true rfl)) dX4_numbers_39 ⟨Nat.le_of_ble_eq_true rfl, Nat.le_of_ble_eq_true rfl⟩) hD hS hA (fun H locs hP hD hS => ?_)
  obtain ⟨u4, eu4⟩ : ∃ z, z = f_X4_pair u3 (85908 : Int32) (30 : Int32) (9 : Int32) := ⟨_, rfl⟩
  have hP : va_P G vwCl (wM yy a u4) H := by rw [eu4]; exact hP
  have hD : va_D A (wM yy a u4) := by rw [eu4]; exact hD
  have hqu4 : m_ct u4 = nI 8 := by rw [eu4]; exact ct_pair _ _ _ hqu3
  refine lv_aload_n hx hb dX4_numbers_42 rfl (lv_at hl 0 rfl) ?_
  refine lv_sipush (v := 841) hx hb dX4_numbers_43 (by decide) ?_
  refine lv_bipush (v := 32) hx hb dX4_numbers_46 (by decide) ?_
  refine lv_bipush (v := 9) hx hb dX4_numbers_48 (by decide) ?_
  refine g_v (va_runV (As := [.int (841 : Int32), .int (32 : Int32), .int (9 : Int32)]) (rest := []) ⟨hx, hb, hml, hown, hts⟩ (c_X4_pair l yy a u4 (841 : Int32) (32 : Int32) (9 : Int32) (⟨8, by decide, hqu4⟩) G H.size) (cwV 3 hts gX4_numbers_X4_pair rfl rfl rfl (by decide +kernel) ⟨Nat.le_of_ble_eq_true rfl, Nat.le_of_ble_eq_true rfl⟩) (g_preV eTrue_bl hK hE hP hD hS hA 0 rfl rfl) rfl rfl hl.1 rfl (lv_room (Nat.le_of_ble_eq_true rfl)) dX4_numbers_50 ⟨Nat.le_of_ble_eq_true rfl, Nat.le_of_ble_eq_true rfl⟩) hD hS hA (fun H locs hP hD hS => ?_)
  obtain ⟨u5, eu5⟩ : ∃ z, z = f_X4_pair u4 (841 : Int32) (32 : Int32) (9 : Int32) := ⟨_, rfl⟩
  have hP : va_P G vwCl (wM yy a u5) H := by rw [eu5]; exact hP
  have hD : va_D A (wM yy a u5) := by rw [eu5]; exact hD
  have hqu5 : m_ct u5 = nI 10 := by rw [eu5]; exact ct_pair _ _ _ hqu4
  refine lv_aload_n hx hb dX4_numbers_53 rfl (lv_at hl 0 rfl) ?_
  refine lv_sipush (v := 22728) hx hb dX4_numbers_54 (by decide) ?_
  refine lv_bipush (v := 34) hx hb dX4_numbers_57 (by decide) ?_
  refine lv_bipush (v := 9) hx hb dX4_numbers_59 (by decide) ?_
  refine g_v (va_runV (As := [.int (22728 : Int32), .int (34 : Int32), .int (9 : Int32)]) (rest := []) ⟨hx, hb, hml, hown, hts⟩ (c_X4_pair l yy a u5 (22728 : Int32) (34 : Int32) (9 : Int32) (⟨10, by decide, hqu5⟩) G H.size) (cwV 3 hts gX4_numbers_X4_pair rfl rfl rfl (by decide +kernel) ⟨Nat.le_of_ble_eq_true rfl, Nat.le_of_ble_eq_true rfl⟩) (g_preV eTrue_bl hK hE hP hD hS hA 0 rfl rfl) rfl rfl hl.1 rfl (lv_room (Nat.le_of_ble_eq_true rfl)) dX4_numbers_61 ⟨Nat.le_of_ble_eq_true rfl, Nat.le_of_ble_eq_true rfl⟩) hD hS hA (fun H locs hP hD hS => ?_)
  obtain ⟨u6, eu6⟩ : ∃ z, z = f_X4_pair u5 (22728 : Int32) (34 : Int32) (9 : Int32) := ⟨_, rfl⟩
  have hP : va_P G vwCl (wM yy a u6) H := by rw [eu6]; exact hP
  have hD : va_D A (wM yy a u6) := by rw [eu6]; exact hD
  have hqu6 : m_ct u6 = nI 12 := by rw [eu6]; exact ct_pair _ _ _ hqu5
  refine lv_aload_n hx hb dX4_numbers_64 rfl (lv_at hl 0 rfl) ?_
  refine lv_sipush (v := 14420) hx hb dX4_numbers_65 (by decide) ?_
  refine lv_bipush (v := 36) hx hb dX4_numbers_68 (by decide) ?_
  refine lv_bipush (v := 9) hx hb dX4_numbers_70 (by decide) ?_
  refine g_v (va_runV (As := [.int (14420 : Int32), .int (36 : Int32), .int (9 : Int32)]) (rest := []) ⟨hx, hb, hml, hown, hts⟩ (c_X4_pair l yy a u6 (14420 : Int32) (36 : Int32) (9 : Int32) (⟨12, by decide, hqu6⟩) G H.size) (cwV 3 hts gX4_numbers_X4_pair rfl rfl rfl (by decide +kernel) ⟨Nat.le_of_ble_eq_true rfl, Nat.le_of_ble_eq_true rfl⟩) (g_preV eTrue_bl hK hE hP hD hS hA 0 rfl rfl) rfl rfl hl.1 rfl (lv_room (Nat.le_of_ble_eq_true rfl)) dX4_numbers_72 ⟨Nat.le_of_ble_eq_true rfl, Nat.le_of_ble_eq_true rfl⟩) hD hS hA (fun H locs hP hD hS => ?_)
  obtain ⟨u7, eu7⟩ : ∃ z, z = f_X4_pair u6 (14420 : Int32) (36 : Int32) (9 : Int32) := ⟨_, rfl⟩
  have hP : va_P G vwCl (wM yy a u7) H := by rw [eu7]; exact hP
  have hD : va_D A (wM yy a u7) := by rw [eu7]; exact hD
  have hqu7 : m_ct u7 = nI 14 := by rw [eu7]; exact ct_pair _ _ _ hqu6
  refine lv_aload_n hx hb dX4_numbers_75 rfl (lv_at hl 0 rfl) ?_
  refine lv_ldc hx hb hown (hts (.constant RX4 54 (389361)) (by decide +kernel)) dX4_numbers_76 ?_
  refine lv_bipush (v := 38) hx hb dX4_numbers_78 (by decide) ?_
  refine lv_bipush (v := 9) hx hb dX4_numbers_80 (by decide) ?_
  refine g_v (va_runV (As := [.int (389361 : Int32), .int (38 : Int32), .int (9 : Int32)]) (rest := []) ⟨hx, hb, hml, hown, hts⟩ (c_X4_pair l yy a u7 (389361 : Int32) (38 : Int32) (9 : Int32) (⟨14, by decide, hqu7⟩) G H.size) (cwV 3 hts gX4_numbers_X4_pair rfl rfl rfl (by decide +kernel) ⟨Nat.le_of_ble_eq_true rfl, Nat.le_of_ble_eq_true rfl⟩) (g_preV eTrue_bl hK hE hP hD hS hA 0 rfl rfl) rfl rfl hl.1 rfl (lv_room (Nat.le_of_ble_eq_true rfl)) dX4_numbers_82 ⟨Nat.le_of_ble_eq_true rfl, Nat.le_of_ble_eq_true rfl⟩) hD hS hA (fun H locs hP hD hS => ?_)
  obtain ⟨u8, eu8⟩ : ∃ z, z = f_X4_pair u7 (389361 : Int32) (38 : Int32) (9 : Int32) := ⟨_, rfl⟩
  have hP : va_P G vwCl (wM yy a u8) H := by rw [eu8]; exact hP
  have hD : va_D A (wM yy a u8) := by rw [eu8]; exact hD
  have hqu8 : m_ct u8 = nI 16 := by rw [eu8]; exact ct_pair _ _ _ hqu7
  refine lv_aload_n hx hb dX4_numbers_85 rfl (lv_at hl 0 rfl) ?_
  refine lv_ldc hx hb hown (hts (.constant RX4 55 (2148492)) (by decide +kernel)) dX4_numbers_86 ?_
  refine lv_bipush (v := 40) hx hb dX4_numbers_88 (by decide) ?_
  refine lv_bipush (v := 9) hx hb dX4_numbers_90 (by decide) ?_
  refine g_v (va_runV (As := [.int (2148492 : Int32), .int (40 : Int32), .int (9 : Int32)]) (rest := []) ⟨hx, hb, hml, hown, hts⟩ (c_X4_pair l yy a u8 (2148492 : Int32) (40 : Int32) (9 : Int32) (⟨16, by decide, hqu8⟩) G H.size) (cwV 3 hts gX4_numbers_X4_pair rfl rfl rfl (by decide +kernel) ⟨Nat.le_of_ble_eq_true rfl, Nat.le_of_ble_eq_true rfl⟩) (g_preV eTrue_bl hK hE hP hD hS hA 0 rfl rfl) rfl rfl hl.1 rfl (lv_room (Nat.le_of_ble_eq_true rfl)) dX4_numbers_92 ⟨Nat.le_of_ble_eq_true rfl, Nat.le_of_ble_eq_true rfl⟩) hD hS hA (fun H locs hP hD hS => ?_)
  obtain ⟨u9, eu9⟩ : ∃ z, z = f_X4_pair u8 (2148492 : Int32) (40 : Int32) (9 : Int32) := ⟨_, rfl⟩
  have hP : va_P G vwCl (wM yy a u9) H := by rw [eu9]; exact hP
  have hD : va_D A (wM yy a u9) := by rw [eu9]; exact hD
  have hqu9 : m_ct u9 = nI 18 := by rw [eu9]; exact ct_pair _ _ _ hqu8
  refine lv_aload_n hx hb dX4_numbers_95 rfl (lv_at hl 0 rfl) ?_
  refine lv_ldc hx hb hown (hts (.constant RX4 56 (9057225)) (by decide +kernel)) dX4_numbers_96 ?_
  refine lv_bipush (v := 42) hx hb dX4_numbers_98 (by decide) ?_
  refine lv_bipush (v := 9) hx hb dX4_numbers_100 (by decide) ?_
  refine g_v (va_runV (As := [.int (9057225 : Int32), .int (42 : Int32), .int (9 : Int32)]) (rest := []) ⟨hx, hb, hml, hown, hts⟩ (c_X4_pair l yy a u9 (9057225 : Int32) (42 : Int32) (9 : Int32) (⟨18, by decide, hqu9⟩) G H.size) (cwV 3 hts gX4_numbers_X4_pair rfl rfl rfl (by decide +kernel) ⟨Nat.le_of_ble_eq_true rfl, Nat.le_of_ble_eq_true rfl⟩) (g_preV eTrue_bl hK hE hP hD hS hA 0 rfl rfl) rfl rfl hl.1 rfl (lv_room (Nat.le_of_ble_eq_true rfl)) dX4_numbers_102 ⟨Nat.le_of_ble_eq_true rfl, Nat.le_of_ble_eq_true rfl⟩) hD hS hA (fun H locs hP hD hS => ?_)
  obtain ⟨u10, eu10⟩ : ∃ z, z = f_X4_pair u9 (9057225 : Int32) (42 : Int32) (9 : Int32) := ⟨_, rfl⟩
  have hP : va_P G vwCl (wM yy a u10) H := by rw [eu10]; exact hP
  have hD : va_D A (wM yy a u10) := by rw [eu10]; exact hD
  have hqu10 : m_ct u10 = nI 20 := by rw [eu10]; exact ct_pair _ _ _ hqu9
  refine lv_aload_n hx hb dX4_numbers_105 rfl (lv_at hl 0 rfl) ?_
  refine lv_ldc hx hb hown (hts (.constant RX4 57 (7994343)) (by decide +kernel)) dX4_numbers_106 ?_
  refine lv_bipush (v := 44) hx hb dX4_numbers_108 (by decide) ?_
  refine lv_bipush (v := 9) hx hb dX4_numbers_110 (by decide) ?_
  refine g_v (va_runV (As := [.int (7994343 : Int32), .int (44 : Int32), .int (9 : Int32)]) (rest := []) ⟨hx, hb, hml, hown, hts⟩ (c_X4_pair l yy a u10 (7994343 : Int32) (44 : Int32) (9 : Int32) (⟨20, by decide, hqu10⟩) G H.size) (cwV 3 hts gX4_numbers_X4_pair rfl rfl rfl (by decide +kernel) ⟨Nat.le_of_ble_eq_true rfl, Nat.le_of_ble_eq_true rfl⟩) (g_preV eTrue_bl hK hE hP hD hS hA 0 rfl rfl) rfl rfl hl.1 rfl (lv_room (Nat.le_of_ble_eq_true rfl)) dX4_numbers_112 ⟨Nat.le_of_ble_eq_true rfl, Nat.le_of_ble_eq_true rfl⟩) hD hS hA (fun H locs hP hD hS => ?_)
  obtain ⟨u11, eu11⟩ : ∃ z, z = f_X4_pair u10 (7994343 : Int32) (44 : Int32) (9 : Int32) := ⟨_, rfl⟩
  have hP : va_P G vwCl (wM yy a u11) H := by rw [eu11]; exact hP
  have hD : va_D A (wM yy a u11) := by rw [eu11]; exact hD
  have hqu11 : m_ct u11 = nI 22 := by rw [eu11]; exact ct_pair _ _ _ hqu10
  refine lv_aload_n hx hb dX4_numbers_115 rfl (lv_at hl 0 rfl) ?_
  refine lv_ldc hx hb hown (hts (.constant RX4 58 (4274256)) (by decide +kernel)) dX4_numbers_116 ?_
  refine lv_bipush (v := 46) hx hb dX4_numbers_118 (by decide) ?_
  refine lv_bipush (v := 9) hx hb dX4_numbers_120 (by decide) ?_
  refine g_v (va_runV (As := [.int (4274256 : Int32), .int (46 : Int32), .int (9 : Int32)]) (rest := []) ⟨hx, hb, hml, hown, hts⟩ (c_X4_pair l yy a u11 (4274256 : Int32) (46 : Int32) (9 : Int32) (⟨22, by decide, hqu11⟩) G H.size) (cwV 3 hts gX4_numbers_X4_pair rfl rfl rfl (by decide +kernel) ⟨Nat.le_of_ble_eq_true rfl, Nat.le_of_ble_eq_true rfl⟩) (g_preV eTrue_bl hK hE hP hD hS hA 0 rfl rfl) rfl rfl hl.1 rfl (lv_room (Nat.le_of_ble_eq_true rfl)) dX4_numbers_122 ⟨Nat.le_of_ble_eq_true rfl, Nat.le_of_ble_eq_true rfl⟩) hD hS hA (fun H locs hP hD hS => ?_)
  obtain ⟨u12, eu12⟩ : ∃ z, z = f_X4_pair u11 (4274256 : Int32) (46 : Int32) (9 : Int32) := ⟨_, rfl⟩
  have hP : va_P G vwCl (wM yy a u12) H := by rw [eu12]; exact hP
  have hD : va_D A (wM yy a u12) := by rw [eu12]; exact hD
  have hqu12 : m_ct u12 = nI 24 := by rw [eu12]; exact ct_pair _ _ _ hqu11
  refine lv_aload_n hx hb dX4_numbers_125 rfl (lv_at hl 0 rfl) ?_
  refine lv_sipush (v := 2554) hx hb dX4_numbers_126 (by decide) ?_
  refine lv_bipush (v := 48) hx hb dX4_numbers_129 (by decide) ?_
  refine lv_bipush (v := 9) hx hb dX4_numbers_131 (by decide) ?_
  refine g_v (va_runV (As := [.int (2554 : Int32), .int (48 : Int32), .int (9 : Int32)]) (rest := []) ⟨hx, hb, hml, hown, hts⟩ (c_X4_pair l yy a u12 (2554 : Int32) (48 : Int32) (9 : Int32) (⟨24, by decide, hqu12⟩) G H.size) (cwV 3 hts gX4_numbers_X4_pair rfl rfl rfl (by decide +kernel) ⟨Nat.le_of_ble_eq_true rfl, Nat.le_of_ble_eq_true rfl⟩) (g_preV eTrue_bl hK hE hP hD hS hA 0 rfl rfl) rfl rfl hl.1 rfl (lv_room (Nat.le_of_ble_eq_true rfl)) dX4_numbers_133 ⟨Nat.le_of_ble_eq_true rfl, Nat.le_of_ble_eq_true rfl⟩) hD hS hA (fun H locs hP hD hS => ?_)
  obtain ⟨u13, eu13⟩ : ∃ z, z = f_X4_pair u12 (2554 : Int32) (48 : Int32) (9 : Int32) := ⟨_, rfl⟩
  have hP : va_P G vwCl (wM yy a u13) H := by rw [eu13]; exact hP
  have hD : va_D A (wM yy a u13) := by rw [eu13]; exact hD
  have hqu13 : m_ct u13 = nI 26 := by rw [eu13]; exact ct_pair _ _ _ hqu12
  refine lv_aload_n hx hb dX4_numbers_136 rfl (lv_at hl 0 rfl) ?_
  refine lv_ldc hx hb hown (hts (.constant RX4 59 (68979)) (by decide +kernel)) dX4_numbers_137 ?_
  refine lv_bipush (v := 50) hx hb dX4_numbers_139 (by decide) ?_
  refine lv_bipush (v := 9) hx hb dX4_numbers_141 (by decide) ?_
  refine g_v (va_runV (As := [.int (68979 : Int32), .int (50 : Int32), .int (9 : Int32)]) (rest := []) ⟨hx, hb, hml, hown, hts⟩ (c_X4_pair l yy a u13 (68979 : Int32) (50 : Int32) (9 : Int32) (⟨26, by decide, hqu13⟩) G H.size) (cwV 3 hts gX4_numbers_X4_pair rfl rfl rfl (by decide +kernel) ⟨Nat.le_of_ble_eq_true rfl, Nat.le_of_ble_eq_true rfl⟩) (g_preV eTrue_bl hK hE hP hD hS hA 0 rfl rfl) rfl rfl hl.1 rfl (lv_room (Nat.le_of_ble_eq_true rfl)) dX4_numbers_143 ⟨Nat.le_of_ble_eq_true rfl, Nat.le_of_ble_eq_true rfl⟩) hD hS hA (fun H locs hP hD hS => ?_)
  obtain ⟨u14, eu14⟩ : ∃ z, z = f_X4_pair u13 (68979 : Int32) (50 : Int32) (9 : Int32) := ⟨_, rfl⟩
  have hP : va_P G vwCl (wM yy a u14) H := by rw [eu14]; exact hP
  have hD : va_D A (wM yy a u14) := by rw [eu14]; exact hD
  have hqu14 : m_ct u14 = nI 28 := by rw [eu14]; exact ct_pair _ _ _ hqu13
  refine lv_aload_n hx hb dX4_numbers_146 rfl (lv_at hl 0 rfl) ?_
  refine lv_sipush (v := 10348) hx hb dX4_numbers_147 (by decide) ?_
  refine lv_bipush (v := 52) hx hb dX4_numbers_150 (by decide) ?_
  refine lv_bipush (v := 9) hx hb dX4_numbers_152 (by decide) ?_
  refine g_v (va_runV (As := [.int (10348 : Int32), .int (52 : Int32), .int (9 : Int32)]) (rest := []) ⟨hx, hb, hml, hown, hts⟩ (c_X4_pair l yy a u14 (10348 : Int32) (52 : Int32) (9 : Int32) (⟨28, by decide, hqu14⟩) G H.size) (cwV 3 hts gX4_numbers_X4_pair rfl rfl rfl (by decide +kernel) ⟨Nat.le_of_ble_eq_true rfl, Nat.le_of_ble_eq_true rfl⟩) (g_preV eTrue_bl hK hE hP hD hS hA 0 rfl rfl) rfl rfl hl.1 rfl (lv_room (Nat.le_of_ble_eq_true rfl)) dX4_numbers_154 ⟨Nat.le_of_ble_eq_true rfl, Nat.le_of_ble_eq_true rfl⟩) hD hS hA (fun H locs hP hD hS => ?_)
  obtain ⟨u15, eu15⟩ : ∃ z, z = f_X4_pair u14 (10348 : Int32) (52 : Int32) (9 : Int32) := ⟨_, rfl⟩
  have hP : va_P G vwCl (wM yy a u15) H := by rw [eu15]; exact hP
  have hD : va_D A (wM yy a u15) := by rw [eu15]; exact hD
  have hqu15 : m_ct u15 = nI 30 := by rw [eu15]; exact ct_pair _ _ _ hqu14
  refine lv_aload_n hx hb dX4_numbers_157 rfl (lv_at hl 0 rfl) ?_
  refine lv_ldc hx hb hown (hts (.constant RX4 60 (279417)) (by decide +kernel)) dX4_numbers_158 ?_
  refine lv_bipush (v := 54) hx hb dX4_numbers_160 (by decide) ?_
  refine lv_bipush (v := 9) hx hb dX4_numbers_162 (by decide) ?_
  refine g_v (va_runV (As := [.int (279417 : Int32), .int (54 : Int32), .int (9 : Int32)]) (rest := []) ⟨hx, hb, hml, hown, hts⟩ (c_X4_pair l yy a u15 (279417 : Int32) (54 : Int32) (9 : Int32) (⟨30, by decide, hqu15⟩) G H.size) (cwV 3 hts gX4_numbers_X4_pair rfl rfl rfl (by decide +kernel) ⟨Nat.le_of_ble_eq_true rfl, Nat.le_of_ble_eq_true rfl⟩) (g_preV eTrue_bl hK hE hP hD hS hA 0 rfl rfl) rfl rfl hl.1 rfl (lv_room (Nat.le_of_ble_eq_true rfl)) dX4_numbers_164 ⟨Nat.le_of_ble_eq_true rfl, Nat.le_of_ble_eq_true rfl⟩) hD hS hA (fun H locs hP hD hS => ?_)
  obtain ⟨u16, eu16⟩ : ∃ z, z = f_X4_pair u15 (279417 : Int32) (54 : Int32) (9 : Int32) := ⟨_, rfl⟩
  have hP : va_P G vwCl (wM yy a u16) H := by rw [eu16]; exact hP
  have hD : va_D A (wM yy a u16) := by rw [eu16]; exact hD
  have hqu16 : m_ct u16 = nI 32 := by rw [eu16]; exact ct_pair _ _ _ hqu15
  refine lv_aload_n hx hb dX4_numbers_167 rfl (lv_at hl 0 rfl) ?_
  refine lv_sipush (v := 525) hx hb dX4_numbers_168 (by decide) ?_
  refine lv_bipush (v := 56) hx hb dX4_numbers_171 (by decide) ?_
  refine lv_bipush (v := 9) hx hb dX4_numbers_173 (by decide) ?_
  refine g_v (va_runV (As := [.int (525 : Int32), .int (56 : Int32), .int (9 : Int32)]) (rest := []) ⟨hx, hb, hml, hown, hts⟩ (c_X4_pair l yy a u16 (525 : Int32) (56 : Int32) (9 : Int32) (⟨32, by decide, hqu16⟩) G H.size) (cwV 3 hts gX4_numbers_X4_pair rfl rfl rfl (by decide +kernel) ⟨Nat.le_of_ble_eq_true rfl, Nat.le_of_ble_eq_true rfl⟩) (g_preV eTrue_bl hK hE hP hD hS hA 0 rfl rfl) rfl rfl hl.1 rfl (lv_room (Nat.le_of_ble_eq_true rfl)) dX4_numbers_175 ⟨Nat.le_of_ble_eq_true rfl, Nat.le_of_ble_eq_true rfl⟩) hD hS hA (fun H locs hP hD hS => ?_)
  obtain ⟨u17, eu17⟩ : ∃ z, z = f_X4_pair u16 (525 : Int32) (56 : Int32) (9 : Int32) := ⟨_, rfl⟩
  have hP : va_P G vwCl (wM yy a u17) H := by rw [eu17]; exact hP
  have hD : va_D A (wM yy a u17) := by rw [eu17]; exact hD
  have hqu17 : m_ct u17 = nI 34 := by rw [eu17]; exact ct_pair _ _ _ hqu16
  refine lv_aload_n hx hb dX4_numbers_178 rfl (lv_at hl 0 rfl) ?_
  refine lv_sipush (v := 14196) hx hb dX4_numbers_179 (by decide) ?_
  refine lv_bipush (v := 58) hx hb dX4_numbers_182 (by decide) ?_
  refine lv_bipush (v := 9) hx hb dX4_numbers_184 (by decide) ?_
  refine g_v (va_runV (As := [.int (14196 : Int32), .int (58 : Int32), .int (9 : Int32)]) (rest := []) ⟨hx, hb, hml, hown, hts⟩ (c_X4_pair l yy a u17 (14196 : Int32) (58 : Int32) (9 : Int32) (⟨34, by decide, hqu17⟩) G H.size) (cwV 3 hts gX4_numbers_X4_pair rfl rfl rfl (by decide +kernel) ⟨Nat.le_of_ble_eq_true rfl, Nat.le_of_ble_eq_true rfl⟩) (g_preV eTrue_bl hK hE hP hD hS hA 0 rfl rfl) rfl rfl hl.1 rfl (lv_room (Nat.le_of_ble_eq_true rfl)) dX4_numbers_186 ⟨Nat.le_of_ble_eq_true rfl, Nat.le_of_ble_eq_true rfl⟩) hD hS hA (fun H locs hP hD hS => ?_)
  obtain ⟨u18, eu18⟩ : ∃ z, z = f_X4_pair u17 (14196 : Int32) (58 : Int32) (9 : Int32) := ⟨_, rfl⟩
  have hP : va_P G vwCl (wM yy a u18) H := by rw [eu18]; exact hP
  have hD : va_D A (wM yy a u18) := by rw [eu18]; exact hD
  have hqu18 : m_ct u18 = nI 36 := by rw [eu18]; exact ct_pair _ _ _ hqu17
  refine lv_aload_n hx hb dX4_numbers_189 rfl (lv_at hl 0 rfl) ?_
  refine lv_sipush (v := 531) hx hb dX4_numbers_190 (by decide) ?_
  refine lv_bipush (v := 60) hx hb dX4_numbers_193 (by decide) ?_
  refine lv_bipush (v := 9) hx hb dX4_numbers_195 (by decide) ?_
  refine g_v (va_runV (As := [.int (531 : Int32), .int (60 : Int32), .int (9 : Int32)]) (rest := []) ⟨hx, hb, hml, hown, hts⟩ (c_X4_pair l yy a u18 (531 : Int32) (60 : Int32) (9 : Int32) (⟨36, by decide, hqu18⟩) G H.size) (cwV 3 hts gX4_numbers_X4_pair rfl rfl rfl (by decide +kernel) ⟨Nat.le_of_ble_eq_true rfl, Nat.le_of_ble_eq_true rfl⟩) (g_preV eTrue_bl hK hE hP hD hS hA 0 rfl rfl) rfl rfl hl.1 rfl (lv_room (Nat.le_of_ble_eq_true rfl)) dX4_numbers_197 ⟨Nat.le_of_ble_eq_true rfl, Nat.le_of_ble_eq_true rfl⟩) hD hS hA (fun H locs hP hD hS => ?_)
  obtain ⟨u19, eu19⟩ : ∃ z, z = f_X4_pair u18 (531 : Int32) (60 : Int32) (9 : Int32) := ⟨_, rfl⟩
  have hP : va_P G vwCl (wM yy a u19) H := by rw [eu19]; exact hP
  have hD : va_D A (wM yy a u19) := by rw [eu19]; exact hD
  have hqu19 : m_ct u19 = nI 38 := by rw [eu19]; exact ct_pair _ _ _ hqu18
  refine lv_aload_n hx hb dX4_numbers_200 rfl (lv_at hl 0 rfl) ?_
  refine lv_sipush (v := 14358) hx hb dX4_numbers_201 (by decide) ?_
  refine lv_bipush (v := 62) hx hb dX4_numbers_204 (by decide) ?_
  refine lv_bipush (v := 9) hx hb dX4_numbers_206 (by decide) ?_
  refine g_v (va_runV (As := [.int (14358 : Int32), .int (62 : Int32), .int (9 : Int32)]) (rest := []) ⟨hx, hb, hml, hown, hts⟩ (c_X4_pair l yy a u19 (14358 : Int32) (62 : Int32) (9 : Int32) (⟨38, by decide, hqu19⟩) G H.size) (cwV 3 hts gX4_numbers_X4_pair rfl rfl rfl (by decide +kernel) ⟨Nat.le_of_ble_eq_true rfl, Nat.le_of_ble_eq_true rfl⟩) (g_preV eTrue_bl hK hE hP hD hS hA 0 rfl rfl) rfl rfl hl.1 rfl (lv_room (Nat.le_of_ble_eq_true rfl)) dX4_numbers_208 ⟨Nat.le_of_ble_eq_true rfl, Nat.le_of_ble_eq_true rfl⟩) hD hS hA (fun H locs hP hD hS => ?_)
  obtain ⟨u20, eu20⟩ : ∃ z, z = f_X4_pair u19 (14358 : Int32) (62 : Int32) (9 : Int32) := ⟨_, rfl⟩
  have hP : va_P G vwCl (wM yy a u20) H := by rw [eu20]; exact hP
  have hD : va_D A (wM yy a u20) := by rw [eu20]; exact hD
  have hqu20 : m_ct u20 = nI 40 := by rw [eu20]; exact ct_pair _ _ _ hqu19
  exact g_vret (by have eu20 := eu20.symm; subst eu20; have eu19 := eu19.symm; subst eu19; have eu18 := eu18.symm; subst eu18; have eu17 := eu17.symm; subst eu17; have eu16 := eu16.symm; subst eu16; have eu15 := eu15.symm; subst eu15; have eu14 := eu14.symm; subst eu14; have eu13 := eu13.symm; subst eu13; have eu12 := eu12.symm; subst eu12; have eu11 := eu11.symm; subst eu11; have eu10 := eu10.symm; subst eu10; have eu9 := eu9.symm; subst eu9; have eu8 := eu8.symm; subst eu8; have eu7 := eu7.symm; subst eu7; have eu6 := eu6.symm; subst eu6; have eu5 := eu5.symm; subst eu5; have eu4 := eu4.symm; subst eu4; have eu3 := eu3.symm; subst eu3; have eu2 := eu2.symm; subst eu2; have eu1 := eu1.symm; subst eu1; exact rfl) hx hb hr hP hD hS hlocks dX4_numbers_211
