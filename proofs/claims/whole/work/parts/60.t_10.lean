def f_X4_bitNames (u : MS)  : MS :=
  let u1 : MS := f_X4_pair u (423 : Int32) (192 : Int32) (9 : Int32);
  let u2 : MS := f_X4_pair u1 (11435 : Int32) (194 : Int32) (9 : Int32);
  let u3 : MS := f_X4_pair u2 (10629 : Int32) (196 : Int32) (9 : Int32);
  let u4 : MS := f_X4_pair u3 (17919 : Int32) (198 : Int32) (9 : Int32);
  let u5 : MS := f_X4_pair u4 (1111 : Int32) (200 : Int32) (9 : Int32);
  let u6 : MS := f_X4_pair u5 (30011 : Int32) (202 : Int32) (9 : Int32);
  let u7 : MS := f_X4_pair u6 (276673 : Int32) (204 : Int32) (9 : Int32);
  let u8 : MS := f_X4_pair u7 (293481 : Int32) (206 : Int32) (9 : Int32);
  let u9 : MS := f_X4_pair u8 (42531 : Int32) (208 : Int32) (9 : Int32);
  let u10 : MS := f_X4_pair u9 (455874 : Int32) (210 : Int32) (9 : Int32);
  let u11 : MS := f_X4_pair u10 (396825 : Int32) (212 : Int32) (9 : Int32);
  let u12 : MS := f_X4_pair u11 (298410 : Int32) (214 : Int32) (9 : Int32);
  let u13 : MS := f_X4_pair u12 (10068 : Int32) (216 : Int32) (9 : Int32);
  let u14 : MS := f_X4_pair u13 (374818 : Int32) (218 : Int32) (9 : Int32);
  let u15 : MS := f_X4_pair u14 (9900 : Int32) (220 : Int32) (9 : Int32);
  let u16 : MS := f_X4_pair u15 (273798 : Int32) (222 : Int32) (9 : Int32);
  u16
abbrev rm_X4_bitNames : Room := { frames := 2, cells := 0, slots := 0, locals := 45 }
set_option maxHeartbeats 4000000 in
set_option maxRecDepth 100000 in
theorem c_X4_bitNames (l : Launch) (yy : Nat → ClassId) (a : Nat → Nat) (u : MS) (h0 : m_ct u = nI 218) : gMv l yX4_bitNames wsX4_bitNames rm_X4_bitNames eTrue (sT yy) (wM yy a) [.ref (a 0)] u (f_X4_bitNames u) := by
  refine gm_ofW (Qc := gQv (wM yy a) (f_X4_bitNames u)) (by decide) rfl (Nat.le_of_ble_eq_true rfl) ?_
  intro G A p e s m args below meth c hx hb hr hml hts hown hlocks hK hE hA H locs hP hD hS ls hl
  have hl : lv_has ls 1 [(0, .ref (a 0))] := hl
  refine lv_aload_n hx hb dX4_bitNames_0 rfl (lv_at hl 0 rfl) ?_
  refine lv_sipush (v := 423) hx hb dX4_bitNames_1 (by decide) ?_
  refine lv_sipush (v := 192) hx hb dX4_bitNames_4 (by decide) ?_
  refine lv_bipush (v := 9) hx hb dX4_bitNames_7 (by decide) ?_
  refine g_v (va_runV (As := [.int (423 : Int32), .int (192 : Int32), .int (9 : Int32)]) (rest := []) ⟨hx, hb, hml, hown, hts⟩ (c_X4_pair l yy a u (423 : Int32) (192 : Int32) (9 : Int32) (⟨218, by decide, h0⟩) G H.size) (cwV 3 hts gX4_bitNames_X4_pair rfl rfl rfl (by decide +kernel) ⟨Nat.le_of_ble_eq_true rfl, Nat.le_of_ble_eq_true rfl⟩) (g_preV eTrue_bl hK hE hP hD hS hA 0 rfl rfl) rfl rfl hl.1 rfl (lv_room (Nat.le_of_ble_eq_true rfl)) dX4_bitNames_9 ⟨Nat.le_of_ble_eq_true rfl, Nat.le_of_ble_eq_true rfl⟩) hD hS hA (fun H locs hP hD hS => ?_)
  obtain ⟨u1, eu1⟩ : ∃ z, z = f_X4_pair u (423 : Int32) (192 : Int32) (9 : Int32) := ⟨_, rfl⟩
  have hP : va_P G vwCl (wM yy a u1) H := by rw [eu1]; exact hP
  have hD : va_D A (wM yy a u1) := by rw [eu1]; exact hD
  have hqu1 : m_ct u1 = nI 220 := by rw [eu1]; exact ct_pair _ _ _ h0
  refine lv_aload_n hx hb dX4_bitNames_12 rfl (lv_at hl 0 rfl) ?_
  refine lv_sipush (v := 11435) hx hb dX4_bitNames_13 (by decide) ?_
  refine lv_sipush (v := 194) hx hb dX4_bitNames_16 (by decide) ?_
  refine lv_bipush (v := 9) hx hb dX4_bitNames_19 (by decide) ?_
  refine g_v (va_runV (As := [.int (11435 : Int32), .int (194 : Int32), .int (9 : Int32)]) (rest := []) ⟨hx, hb, hml, hown, hts⟩ (c_X4_pair l yy a u1 (11435 : Int32) (194 : Int32) (9 : Int32) (⟨220, by decide, hqu1⟩) G H.size) (cwV 3 hts gX4_bitNames_X4_pair rfl rfl rfl (by decide +kernel) ⟨Nat.le_of_ble_eq_true rfl, Nat.le_of_ble_eq_true rfl⟩) (g_preV eTrue_bl hK hE hP hD hS hA 0 rfl rfl) rfl rfl hl.1 rfl (lv_room (Nat.le_of_ble_eq_true rfl)) dX4_bitNames_21 ⟨Nat.le_of_ble_eq_true rfl, Nat.le_of_ble_eq_true rfl⟩) hD hS hA (fun H locs hP hD hS => ?_)
  obtain ⟨u2, eu2⟩ : ∃ z, z = f_X4_pair u1 (11435 : Int32) (194 : Int32) (9 : Int32) := ⟨_, rfl⟩
  have hP : va_P G vwCl (wM yy a u2) H := by rw [eu2]; exact hP
  have hD : va_D A (wM yy a u2) := by rw [eu2]; exact hD
  have hqu2 : m_ct u2 = nI 222 := by rw [eu2]; exact ct_pair _ _ _ hqu1
  refine lv_aload_n hx hb dX4_bitNames_24 rfl (lv_at hl 0 rfl) ?_
  refine lv_sipush (v := 10629) hx hb dX4_bitNames_25 (by decide) ?_
  refine lv_sipush (v := 196) hx hb dX4_bitNames_28 (by decide) ?_
  refine lv_bipush (v := 9) hx hb dX4_bitNames_31 (by decide) ?_
  refine g_v (va_runV (As := [.int (10629 : Int32), .int (196 : Int32), .int (9 : Int32)]) (rest := []) ⟨hx, hb, hml, hown, hts⟩ (c_X4_pair l yy a u2 (10629 : Int32) (196 : Int32) (9 : Int32) (⟨222, by decide, hqu2⟩) G H.size) (cwV 3 hts gX4_bitNames_X4_pair rfl rfl rfl (by decide +kernel) ⟨Nat.le_of_ble_eq_true rfl, Nat.le_of_ble_eq_true rfl⟩) (g_preV eTrue_bl hK hE hP hD hS hA 0 rfl rfl) rfl rfl hl.1 rfl (lv_room (Nat.le_of_ble_eq_true rfl)) dX4_bitNames_33 ⟨Nat.le_of_ble_eq_true rfl, Nat.le_of_ble_eq_true rfl⟩) hD hS hA (fun H locs hP hD hS => ?_)
  obtain ⟨u3, eu3⟩ : ∃ z, z = f_X4_pair u2 (10629 : Int32) (196 : Int32) (9 : Int32) := ⟨_, rfl⟩
  have hP : va_P G vwCl (wM yy a u3) H := by rw [eu3]; exact hP
  have hD : va_D A (wM yy a u3) := by rw [eu3]; exact hD
  have hqu3 : m_ct u3 = nI 224 := by rw [eu3]; exact ct_pair _ _ _ hqu2
  refine lv_aload_n hx hb dX4_bitNames_36 rfl (lv_at hl 0 rfl) ?_
  refine lv_sipush (v := 17919) hx hb dX4_bitNames_37 (by decide) ?_
  refine lv_sipush (v := 198) hx hb dX4_bitNames_40 (by decide) ?_
  refine lv_bipush (v := 9) hx hb dX4_bitNames_43 (by decide) ?_
  refine g_v (va_runV (As := [.int (17919 : Int32), .int (198 : Int32), .int (9 : Int32)]) (rest := []) ⟨hx, hb, hml, hown, hts⟩ (c_X4_pair l yy a u3 (17919 : Int32) (198 : Int32) (9 : Int32) (⟨224, by decide, hqu3⟩) G H.size) (cwV 3 hts gX4_bitNames_X4_pair rfl rfl rfl (by decide +kernel) ⟨Nat.le_of_ble_eq_true rfl, Nat.le_of_ble_eq_true rfl⟩) (g_preV eTrue_bl hK hE hP hD hS hA 0 rfl rfl) rfl rfl hl.1 rfl (lv_room (Nat.le_of_ble_eq_true rfl)) dX4_bitNames_45 ⟨Nat.le_of_ble_eq_true rfl, Nat.le_of_ble_eq_true rfl⟩) hD hS hA (fun H locs hP hD hS => ?_)
  obtain ⟨u4, eu4⟩ : ∃ z, z = f_X4_pair u3 (17919 : Int32) (198 : Int32) (9 : Int32) := ⟨_, rfl⟩
  have hP : va_P G vwCl (wM yy a u4) H := by rw [eu4]; exact hP
  have hD : va_D A (wM yy a u4) := by rw [eu4]; exact hD
  have hqu4 : m_ct u4 = nI 226 := by rw [eu4]; exact ct_pair _ _ _ hqu3
  refine lv_aload_n hx hb dX4_bitNames_48 rfl (lv_at hl 0 rfl) ?_
  refine lv_sipush (v := 1111) hx hb dX4_bitNames_49 (by decide) ?_
  refine lv_sipush (v := 200) hx hb dX4_bitNames_52 (by decide) ?_
  refine lv_bipush (v := 9) hx hb dX4_bitNames_55 (by decide) ?_
  refine g_v (va_runV (As := [.int (1111 : Int32), .int (200 : Int32), .int (9 : Int32)]) (rest := []) ⟨hx, hb, hml, hown, hts⟩ (c_X4_pair l yy a u4 (1111 : Int32) (200 : Int32) (9 : Int32) (⟨226, by decide, hqu4⟩) G H.size) (cwV 3 hts gX4_bitNames_X4_pair rfl rfl rfl (by decide +kernel) ⟨Nat.le_of_ble_eq_true rfl, Nat.le_of_ble_eq_true rfl⟩) (g_preV eTrue_bl hK hE hP hD hS hA 0 rfl rfl) rfl rfl hl.1 rfl (lv_room (Nat.le_of_ble_eq_true rfl)) dX4_bitNames_57 ⟨Nat.le_of_ble_eq_true rfl, Nat.le_of_ble_eq_true rfl⟩) hD hS hA (fun H locs hP hD hS => ?_)
  obtain ⟨u5, eu5⟩ : ∃ z, z = f_X4_pair u4 (1111 : Int32) (200 : Int32) (9 : Int32) := ⟨_, rfl⟩
  have hP : va_P G vwCl (wM yy a u5) H := by rw [eu5]; exact hP
  have hD : va_D A (wM yy a u5) := by rw [eu5]; exact hD
  have hqu5 : m_ct u5 = nI 228 := by rw [eu5]; exact ct_pair _ _ _ hqu4
  refine lv_aload_n hx hb dX4_bitNames_60 rfl (lv_at hl 0 rfl) ?_
  refine lv_sipush (v := 30011) hx hb dX4_bitNames_61 (by decide) ?_
  refine lv_sipush (v := 202) hx hb dX4_bitNames_64 (by decide) ?_
  refine lv_bipush (v := 9) hx hb dX4_bitNames_67 (by decide) ?_
  refine g_v (va_runV (As := [.int (30011 : Int32), .int (202 : Int32), .int (9 : Int32)]) (rest := []) ⟨hx, hb, hml, hown, hts⟩ (c_X4_pair l yy a u5 (30011 : Int32) (202 : Int32) (9 : Int32) (⟨228, by decide, hqu5⟩) G H.size) (cwV 3 hts gX4_bitNames_X4_pair rfl rfl rfl (by decide +kernel) ⟨Nat.le_of_ble_eq_true rfl, Nat.le_of_ble_eq_true rfl⟩) (g_preV eTrue_bl hK hE hP hD hS hA 0 rfl rfl) rfl rfl hl.1 rfl (lv_room (Nat.le_of_ble_eq_true rfl)) dX4_bitNames_69 ⟨Nat.le_of_ble_eq_true rfl, Nat.le_of_ble_eq_true rfl⟩) hD hS hA (fun H locs hP hD hS => ?_)
  obtain ⟨u6, eu6⟩ : ∃ z, z = f_X4_pair u5 (30011 : Int32) (202 : Int32) (9 : Int32) := ⟨_, rfl⟩
  have hP : va_P G vwCl (wM yy a u6) H := by rw [eu6]; exact hP
  have hD : va_D A (wM yy a u6) := by rw [eu6]; exact hD
  have hqu6 : m_ct u6 = nI 230 := by rw [eu6]; exact ct_pair _ _ _ hqu5
  refine lv_aload_n hx hb dX4_bitNames_72 rfl (lv_at hl 0 rfl) ?_
  refine lv_ldc hx hb hown (hts (.constant RX4 106 (276673)) (by decide +kernel)) dX4_bitNames_73 ?_
  refine lv_sipush (v := 204) hx hb dX4_bitNames_75 (by decide) ?_
  refine lv_bipush (v := 9) hx hb dX4_bitNames_78 (by decide) ?_
  refine g_v (va_runV (As := [.int (276673 : Int32), .int (204 : Int32), .int (9 : Int32)]) (rest := []) ⟨hx, hb, hml, hown, hts⟩ (c_X4_pair l yy a u6 (276673 : Int32) (204 : Int32) (9 : Int32) (⟨230, by decide, hqu6⟩) G H.size) (cwV 3 hts gX4_bitNames_X4_pair rfl rfl rfl (by decide +kernel) ⟨Nat.le_of_ble_eq_true rfl, Nat.le_of_ble_eq_true rfl⟩) (g_preV eTrue_bl hK hE hP hD hS hA 0 rfl rfl) rfl rfl hl.1 rfl (lv_room (Nat.le_of_ble_eq_true rfl)) dX4_bitNames_80 ⟨Nat.le_of_ble_eq_true rfl, Nat.le_of_ble_eq_true rfl⟩) hD hS hA (fun H locs hP hD hS => ?_)
  obtain ⟨u7, eu7⟩ : ∃ z, z = f_X4_pair u6 (276673 : Int32) (204 : Int32) (9 : Int32) := ⟨_, rfl⟩
  have hP : va_P G vwCl (wM yy a u7) H := by rw [eu7]; exact hP
  have hD : va_D A (wM yy a u7) := by rw [eu7]; exact hD
  have hqu7 : m_ct u7 = nI 232 := by rw [eu7]; exact ct_pair _ _ _ hqu6
  refine lv_aload_n hx hb dX4_bitNames_83 rfl (lv_at hl 0 rfl) ?_
  refine lv_ldc hx hb hown (hts (.constant RX4 107 (293481)) (by decide +kernel)) dX4_bitNames_84 ?_
  refine lv_sipush (v := 206) hx hb dX4_bitNames_86 (by decide) ?_
  refine lv_bipush (v := 9) hx hb dX4_bitNames_89 (by decide) ?_
  refine g_v (va_runV (As := [.int (293481 : Int32), .int (206 : Int32), .int (9 : Int32)]) (rest := []) ⟨hx, hb, hml, hown, hts⟩ (c_X4_pair l yy a u7 (293481 : Int32) (206 : Int32) (9 : Int32) (⟨232, by decide, hqu7⟩) G H.size) (cwV 3 hts gX4_bitNames_X4_pair rfl rfl rfl (by decide +kernel) ⟨Nat.le_of_ble_eq_true rfl, Nat.le_of_ble_eq_true rfl⟩) (g_preV eTrue_bl hK hE hP hD hS hA 0 rfl rfl) rfl rfl hl.1 rfl (lv_room (Nat.le_of_ble_eq_true rfl)) dX4_bitNames_91 ⟨Nat.le_of_ble_eq_true rfl, Nat.le_of_ble_eq_true rfl⟩) hD hS hA (fun H locs hP hD hS => ?_)
  obtain ⟨u8, eu8⟩ : ∃ z, z = f_X4_pair u7 (293481 : Int32) (206 : Int32) (9 : Int32) := ⟨_, rfl⟩
  have hP : va_P G vwCl (wM yy a u8) H := by rw [eu8]; exact hP
  have hD : va_D A (wM yy a u8) := by rw [eu8]; exact hD
  have hqu8 : m_ct u8 = nI 234 := by rw [eu8]; exact ct_pair _ _ _ hqu7
  refine lv_aload_n hx hb dX4_bitNames_94 rfl (lv_at hl 0 rfl) ?_
  refine lv_ldc hx hb hown (hts (.constant RX4 108 (42531)) (by decide +kernel)) dX4_bitNames_95 ?_
  refine lv_sipush (v := 208) hx hb dX4_bitNames_97 (by decide) ?_
  refine lv_bipush (v := 9) hx hb dX4_bitNames_100 (by decide) ?_
  refine g_v (va_runV (As := [.int (42531 : Int32), .int (208 : Int32), .int (9 : Int32)]) (rest := []) ⟨hx, hb, hml, hown, hts⟩ (c_X4_pair l yy a u8 (42531 : Int32) (208 : Int32) (9 : Int32) (⟨234, by decide, hqu8⟩) G H.size) (cwV 3 hts gX4_bitNames_X4_pair rfl rfl rfl (by decide +kernel) ⟨Nat.le_of_ble_eq_true rfl, Nat.le_of_ble_eq_true rfl⟩) (g_preV eTrue_bl hK hE hP hD hS hA 0 rfl rfl) rfl rfl hl.1 rfl (lv_room (Nat.le_of_ble_eq_true rfl)) dX4_bitNames_102 ⟨Nat.le_of_ble_eq_true rfl, Nat.le_of_ble_eq_true rfl⟩) hD hS hA (fun H locs hP hD hS => ?_)
  obtain ⟨u9, eu9⟩ : ∃ z, z = f_X4_pair u8 (42531 : Int32) (208 : Int32) (9 : Int32) := ⟨_, rfl⟩
  have hP : va_P G vwCl (wM yy a u9) H := by rw [eu9]; exact hP
  have hD : va_D A (wM yy a u9) := by rw [eu9]; exact hD
  have hqu9 : m_ct u9 = nI 236 := by rw [eu9]; exact ct_pair _ _ _ hqu8
  refine lv_aload_n hx hb dX4_bitNames_105 rfl (lv_at hl 0 rfl) ?_
  refine lv_ldc hx hb hown (hts (.constant RX4 109 (455874)) (by decide +kernel)) dX4_bitNames_106 ?_
  refine lv_sipush (v := 210) hx hb dX4_bitNames_108 (by decide) ?_
  refine lv_bipush (v := 9) hx hb dX4_bitNames_111 (by decide) ?_
  refine g_v (va_runV (As := [.int (455874 : Int32), .int (210 : Int32), .int (9 : Int32)]) (rest := []) ⟨hx, hb, hml, hown, hts⟩ (c_X4_pair l yy a u9 (455874 : Int32) (210 : Int32) (9 : Int32) (⟨236, by decide, hqu9⟩) G H.size) (cwV 3 hts gX4_bitNames_X4_pair rfl rfl rfl (by decide +kernel) ⟨Nat.le_of_ble_eq_true rfl, Nat.le_of_ble_eq_true rfl⟩) (g_preV eTrue_bl hK hE hP hD hS hA 0 rfl rfl) rfl rfl hl.1 rfl (lv_room (Nat.le_of_ble_eq_true rfl)) dX4_bitNames_113 ⟨Nat.le_of_ble_eq_true rfl, Nat.le_of_ble_eq_true rfl⟩) hD hS hA (fun H locs hP hD hS => ?_)
  obtain ⟨u10, eu10⟩ : ∃ z, z = f_X4_pair u9 (455874 : Int32) (210 : Int32) (9 : Int32) := ⟨_, rfl⟩
  have hP : va_P G vwCl (wM yy a u10) H := by rw [eu10]; exact hP
  have hD : va_D A (wM yy a u10) := by rw [eu10]; exact hD
  have hqu10 : m_ct u10 = nI 238 := by rw [eu10]; exact ct_pair _ _ _ hqu9
  refine lv_aload_n hx hb dX4_bitNames_116 rfl (lv_at hl 0 rfl) ?_
  refine lv_ldc hx hb hown (hts (.constant RX4 110 (396825)) (by decide +kernel)) dX4_bitNames_117 ?_
  refine lv_sipush (v := 212) hx hb dX4_bitNames_119 (by decide) ?_
  refine lv_bipush (v := 9) hx hb dX4_bitNames_122 (by decide) ?_
  refine g_v (va_runV (As := [.int (396825 : Int32), .int (212 : Int32), .int (9 : Int32)]) (rest := []) ⟨hx, hb, hml, hown, hts⟩ (c_X4_pair l yy a u10 (396825 : Int32) (212 : Int32) (9 : Int32) (⟨238, by decide, hqu10⟩) G H.size) (cwV 3 hts gX4_bitNames_X4_pair rfl rfl rfl (by decide +kernel) ⟨Nat.le_of_ble_eq_true rfl, Nat.le_of_ble_eq_true rfl⟩) (g_preV eTrue_bl hK hE hP hD hS hA 0 rfl rfl) rfl rfl hl.1 rfl (lv_room (Nat.le_of_ble_eq_true rfl)) dX4_bitNames_124 ⟨Nat.le_of_ble_eq_true rfl, Nat.le_of_ble_eq_true rfl⟩) hD hS hA (fun H locs hP hD hS => ?_)
  obtain ⟨u11, eu11⟩ : ∃ z, z = f_X4_pair u10 (396825 : Int32) (212 : Int32) (9 : Int32) := ⟨_, rfl⟩
  have hP : va_P G vwCl (wM yy a u11) H := by rw [eu11]; exact hP
  have hD : va_D A (wM yy a u11) := by rw [eu11]; exact hD
  have hqu11 : m_ct u11 = nI 240 := by rw [eu11]; exact ct_pair _ _ _ hqu10
  refine lv_aload_n hx hb dX4_bitNames_127 rfl (lv_at hl 0 rfl) ?_
  refine lv_ldc hx hb hown (hts (.constant RX4 111 (298410)) (by decide +kernel)) dX4_bitNames_128 ?_
  refine lv_sipush (v := 214) hx hb dX4_bitNames_130 (by decide) ?_
  refine lv_bipush (v := 9) hx hb dX4_bitNames_133 (by decide) ?_
  refine g_v (va_runV (As := [.int (298410 : Int32), .int (214 : Int32), .int (9 : Int32)]) (rest := []) ⟨hx, hb, hml, hown, hts⟩ (c_X4_pair l yy a u11 (298410 : Int32) (214 : Int32) (9 : Int32) (⟨240, by decide, hqu11⟩) G H.size) (cwV 3 hts gX4_bitNames_X4_pair rfl rfl rfl (by decide +kernel) ⟨Nat.le_of_ble_eq_true rfl, Nat.le_of_ble_eq_true rfl⟩) (g_preV eTrue_bl hK hE hP hD hS hA 0 rfl rfl) rfl rfl hl.1 rfl (lv_room (Nat.le_of_ble_eq_true rfl)) dX4_bitNames_135 ⟨Nat.le_of_ble_eq_true rfl, Nat.le_of_ble_eq_true rfl⟩) hD hS hA (fun H locs hP hD hS => ?_)
  obtain ⟨u12, eu12⟩ : ∃ z, z = f_X4_pair u11 (298410 : Int32) (214 : Int32) (9 : Int32) := ⟨_, rfl⟩
  have hP : va_P G vwCl (wM yy a u12) H := by rw [eu12]; exact hP
  have hD : va_D A (wM yy a u12) := by rw [eu12]; exact hD
  have hqu12 : m_ct u12 = nI 242 := by rw [eu12]; exact ct_pair _ _ _ hqu11
  refine lv_aload_n hx hb dX4_bitNames_138 rfl (lv_at hl 0 rfl) ?_
  refine lv_sipush (v := 10068) hx hb dX4_bitNames_139 (by decide) ?_
  refine lv_sipush (v := 216) hx hb dX4_bitNames_142 (by decide) ?_
  refine lv_bipush (v := 9) hx hb dX4_bitNames_145 (by decide) ?_
  refine g_v (va_runV (As := [.int (10068 : Int32), .int (216 : Int32), .int (9 : Int32)]) (rest := []) ⟨hx, hb, hml, hown, hts⟩ (c_X4_pair l yy a u12 (10068 : Int32) (216 : Int32) (9 : Int32) (⟨242, by decide, hqu12⟩) G H.size) (cwV 3 hts gX4_bitNames_X4_pair rfl rfl rfl (by decide +kernel) ⟨Nat.le_of_ble_eq_true rfl, Nat.le_of_ble_eq_true rfl⟩) (g_preV eTrue_bl hK hE hP hD hS hA 0 rfl rfl) rfl rfl hl.1 rfl (lv_room (Nat.le_of_ble_eq_true rfl)) dX4_bitNames_147 ⟨Nat.le_of_ble_eq_true rfl, Nat.le_of_ble_eq_true rfl⟩) hD hS hA (fun H locs hP hD hS => ?_)
  obtain ⟨u13, eu13⟩ : ∃ z, z = f_X4_pair u12 (10068 : Int32) (216 : Int32) (9 : Int32) := ⟨_, rfl⟩
  have hP : va_P G vwCl (wM yy a u13) H := by rw [eu13]; exact hP
  have hD : va_D A (wM yy a u13) := by rw [eu13]; exact hD
  have hqu13 : m_ct u13 = nI 244 := by rw [eu13]; exact ct_pair _ _ _ hqu12
  refine lv_aload_n hx hb dX4_bitNames_150 rfl (lv_at hl 0 rfl) ?_
  refine lv_ldc hx hb hown (hts (.constant RX4 112 (374818)) (by decide +kernel)) dX4_bitNames_151 ?_
  refine lv_sipush (v := 218) hx hb dX4_bitNames_153 (by decide) ?_
  refine lv_bipush (v := 9) hx hb dX4_bitNames_156 (by decide) ?_
  refine g_v (va_runV (As := [.int (374818 : Int32), .int (218 : Int32), .int (9 : Int32)]) (rest := []) ⟨hx, hb, hml, hown, hts⟩ (c_X4_pair l yy a u13 (374818 : Int32) (218 : Int32) (9 : Int32) (⟨244, by decide, hqu13⟩) G H.size) (cwV 3 hts gX4_bitNames_X4_pair rfl rfl rfl (by decide +kernel) ⟨Nat.le_of_ble_eq_true rfl, Nat.le_of_ble_eq_true rfl⟩) (g_preV eTrue_bl hK hE hP hD hS hA 0 rfl rfl) rfl rfl hl.1 rfl (lv_room (Nat.le_of_ble_eq_true rfl)) dX4_bitNames_158 ⟨Nat.le_of_ble_eq_true rfl, Nat.le_of_ble_eq_true rfl⟩) hD hS hA (fun H locs hP hD hS => ?_)
  obtain ⟨u14, eu14⟩ : ∃ z, z = f_X4_pair u13 (374818 : Int32) (218 : Int32) (9 : Int32) := ⟨_, rfl⟩
  have hP : va_P G vwCl (wM yy a u14) H := by rw [eu14]; exact hP
  have hD : va_D A (wM yy a u14) := by rw [eu14]; exact hD
  have hqu14 : m_ct u14 = nI 246 := by rw [eu14]; exact ct_pair _ _ _ hqu13
  refine lv_aload_n hx hb dX4_bitNames_161 rfl (lv_at hl 0 rfl) ?_
  refine lv_sipush (v := 9900) hx hb dX4_bitNames_162 (by decide) ?_
  refine lv_sipush (v := 220) hx hb dX4_bitNames_165 (by decide) ?_
  refine lv_bipush (v := 9) hx hb dX4_bitNames_168 (by decide) ?_
  refine g_v (va_runV (As := [.int (9900 : Int32), .int (220 : Int32), .int (9 : Int32)]) (rest := []) ⟨hx, hb, hml, hown, hts⟩ (c_X4_pair l yy a u14 (9900 : Int32) (220 : Int32) (9 : Int32) (⟨246, by decide, hqu14⟩) G H.size) (cwV 3 hts gX4_bitNames_X4_pair rfl rfl rfl (by decide +kernel) ⟨Nat.le_of_ble_eq_true rfl, Nat.le_of_ble_eq_true rfl⟩) (g_preV eTrue_bl hK hE hP hD hS hA 0 rfl rfl) rfl rfl hl.1 rfl (lv_room (Nat.le_of_ble_eq_true rfl)) dX4_bitNames_170 ⟨Nat.le_of_ble_eq_true rfl, Nat.le_of_ble_eq_true rfl⟩) hD hS hA (fun H locs hP hD hS => ?_)
  obtain ⟨u15, eu15⟩ : ∃ z, z = f_X4_pair u14 (9900 : Int32) (220 : Int32) (9 : Int32) := ⟨_, rfl⟩
  have hP : va_P G vwCl (wM yy a u15) H := by rw [eu15]; exact hP
  have hD : va_D A (wM yy a u15) := by rw [eu15]; exact hD
  have hqu15 : m_ct u15 = nI 248 := by rw [eu15]; exact ct_pair _ _ _ hqu14
  refine lv_aload_n hx hb dX4_bitNames_173 rfl (lv_at hl 0 rfl) ?_
  refine lv_ldc hx hb hown (hts (.constant RX4 113 (273798)) (by decide +kernel)) dX4_bitNames_174 ?_
  refine lv_sipush (v := 222) hx hb dX4_bitNames_176 (by decide) ?_
  refine lv_bipush (v := 9) hx hb dX4_bitNames_179 (by decide) ?_
  refine g_v (va_runV (As := [.int (273798 : Int32), .int (222 : Int32), .int (9 : Int32)]) (rest := []) ⟨hx, hb, hml, hown, hts⟩ (c_X4_pair l yy a u15 (273798 : Int32) (222 : Int32) (9 : Int32) (⟨248, by decide, hqu15⟩) G H.size) (cwV 3 hts gX4_bitNames_X4_pair rfl rfl rfl (by decide +kernel) ⟨Nat.le_of_ble_eq_true rfl, Nat.le_of_ble_eq_true rfl⟩) (g_preV eTrue_bl hK hE hP hD hS hA 0 rfl rfl) rfl rfl hl.1 rfl (lv_room (Nat.le_of_ble_eq_true rfl)) dX4_bitNames_181 ⟨Nat.le_of_ble_eq_true rfl, Nat.le_of_ble_eq_true rfl⟩) hD hS hA (fun H locs hP hD hS => ?_)
  obtain ⟨u16, eu16⟩ : ∃ z, z = f_X4_pair u15 (273798 : Int32) (222 : Int32) (9 : Int32) := ⟨_, rfl⟩
  have hP : va_P G vwCl (wM yy a u16) H := by rw [eu16]; exact hP
  have hD : va_D A (wM yy a u16) := by rw [eu16]; exact hD
  have hqu16 : m_ct u16 = nI 250 := by rw [eu16]; exact ct_pair _ _ _ hqu15
  exact g_vret (by have eu16 := eu16.symm; subst eu16; have eu15 := eu15.symm; subst eu15; have eu14 := eu14.symm; subst eu14; have eu13 := eu13.symm; subst eu13; have eu12 := eu12.symm; subst eu12; have eu11 := eu11.symm; subst eu11; have eu10 := eu10.symm; subst eu10; have eu9 := eu9.symm; subst eu9; have eu8 := eu8.symm; subst eu8; have eu7 := eu7.symm; subst eu7; have eu6 := eu6.symm; subst eu6; have eu5 := eu5.symm; subst eu5; have eu4 := eu4.symm; subst eu4; have eu3 := eu3.symm; subst eu3; have eu2 := eu2.symm; subst eu2; have eu1 := eu1.symm; subst eu1; exact rfl) hx hb hr hP hD hS hlocks dX4_bitNames_184
