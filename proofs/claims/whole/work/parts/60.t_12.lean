def f_X4_others (u : MS)  : MS :=
  let u1 : MS := f_X4_add u (378170 : Int32) (224 : Int32);
  let u2 : MS := f_X4_add u1 (10210733 : Int32) (225 : Int32);
  let u3 : MS := f_X4_add u2 (10210737 : Int32) (226 : Int32);
  let u4 : MS := f_X4_add u3 (378174 : Int32) (227 : Int32);
  let u5 : MS := f_X4_add u4 (187442 : Int32) (228 : Int32);
  let u6 : MS := f_X4_add u5 (5061077 : Int32) (229 : Int32);
  let u7 : MS := f_X4_add u6 (5061081 : Int32) (230 : Int32);
  let u8 : MS := f_X4_add u7 (187446 : Int32) (231 : Int32);
  let u9 : MS := f_X4_add u8 (11429 : Int32) (232 : Int32);
  let u10 : MS := f_X4_add u9 (308726 : Int32) (233 : Int32);
  let u11 : MS := f_X4_add u10 (308730 : Int32) (234 : Int32);
  let u12 : MS := f_X4_add u11 (11433 : Int32) (235 : Int32);
  let u13 : MS := f_X4_add u12 (810305 : Int32) (236 : Int32);
  let u14 : MS := f_X4_add u13 (21878378 : Int32) (237 : Int32);
  let u15 : MS := f_X4_add u14 (21878382 : Int32) (238 : Int32);
  let u16 : MS := f_X4_add u15 (810309 : Int32) (239 : Int32);
  let u17 : MS := f_X4_pair u16 (7657 : Int32) (240 : Int32) (2 : Int32);
  let u18 : MS := f_X4_add u17 (40187 : Int32) (241 : Int32);
  let u19 : MS := f_X4_pair u18 (141967 : Int32) (244 : Int32) (2 : Int32);
  let u20 : MS := f_X4_pair u19 (12251 : Int32) (246 : Int32) (9 : Int32);
  let u21 : MS := f_X4_add u20 (5258 : Int32) (254 : Int32);
  let u22 : MS := f_X4_add u21 (391432 : Int32) (253 : Int32);
  let u23 : MS := f_X4_add u22 (10627 : Int32) (253 : Int32);
  let u24 : MS := f_X4_add u23 (406825 : Int32) (0 : Int32);
  let u25 : MS := f_X4_add u24 (158537 : Int32) (0 : Int32);
  let u26 : MS := f_X4_add u25 (333 : Int32) (227 : Int32);
  let u27 : MS := f_X4_add u26 (8999 : Int32) (224 : Int32);
  let u28 : MS := f_X4_add u27 (243116 : Int32) (225 : Int32);
  let u29 : MS := f_X4_add u28 (243120 : Int32) (226 : Int32);
  let u30 : MS := f_X4_pair u29 (8857 : Int32) (34 : Int32) (9 : Int32);
  let u31 : MS := f_X4_pair u30 (6942 : Int32) (34 : Int32) (9 : Int32);
  let u32 : MS := f_X4_pair u31 (324262 : Int32) (32 : Int32) (9 : Int32);
  let u33 : MS := f_X4_pair u32 (7096672 : Int32) (36 : Int32) (9 : Int32);
  let u34 : MS := f_X4_pair u33 (3054 : Int32) (38 : Int32) (9 : Int32);
  let u35 : MS := f_X4_pair u34 (10815598 : Int32) (24 : Int32) (9 : Int32);
  let u36 : MS := f_X4_pair u35 (350345 : Int32) (28 : Int32) (9 : Int32);
  let u37 : MS := f_X4_pair u36 (70351 : Int32) (48 : Int32) (9 : Int32);
  let u38 : MS := f_X4_pair u37 (14079 : Int32) (56 : Int32) (9 : Int32);
  let u39 : MS := f_X4_pair u38 (380154 : Int32) (58 : Int32) (9 : Int32);
  let u40 : MS := f_X4_pair u39 (14085 : Int32) (60 : Int32) (9 : Int32);
  let u41 : MS := f_X4_pair u40 (380316 : Int32) (62 : Int32) (9 : Int32);
  let u42 : MS := f_X4_pair u41 (267413 : Int32) (192 : Int32) (9 : Int32);
  let u43 : MS := f_X4_pair u42 (4068 : Int32) (198 : Int32) (9 : Int32);
  let u44 : MS := f_X4_pair u43 (1704 : Int32) (202 : Int32) (9 : Int32);
  let u45 : MS := f_X4_pair u44 (46486 : Int32) (218 : Int32) (9 : Int32);
  let u46 : MS := f_X4_pair u45 (321581 : Int32) (216 : Int32) (9 : Int32);
  u46
abbrev rm_X4_others : Room := { frames := 2, cells := 0, slots := 0, locals := 45 }
set_option maxHeartbeats 4000000 in
set_option maxRecDepth 100000 in
theorem c_X4_others (l : Launch) (yy : Nat → ClassId) (a : Nat → Nat) (u : MS) (h0 : m_ct u = nI 250) : gMv l yX4_others wsX4_others rm_X4_others eTrue (sT yy) (wM yy a) [.ref (a 0)] u (f_X4_others u) := by
  refine gm_ofW (Qc := gQv (wM yy a) (f_X4_others u)) (by decide) rfl (Nat.le_of_ble_eq_true rfl) ?_
  intro G A p e s m args below meth c hx hb hr hml hts hown hlocks hK hE hA H locs hP hD hS ls hl
  have hl : lv_has ls 1 [(0, .ref (a 0))] := hl
  refine lv_aload_n hx hb dX4_others_0 rfl (lv_at hl 0 rfl) ?_
  refine lv_ldc hx hb hown (hts (.constant RX4 114 (378170)) (by decide +kernel)) dX4_others_1 ?_
  refine lv_sipush (v := 224) hx hb dX4_others_3 (by decide) ?_
  refine g_v (va_runV (As := [.int (378170 : Int32), .int (224 : Int32)]) (rest := []) ⟨hx, hb, hml, hown, hts⟩ (c_X4_add l yy a u (378170 : Int32) (224 : Int32) (ct_in h0 (by decide : 250 < 400)) G H.size) (cwV 2 hts gX4_others_X4_add rfl rfl rfl (by decide +kernel) ⟨Nat.le_of_ble_eq_true rfl, Nat.le_of_ble_eq_true rfl⟩) (g_preV eTrue_bl hK hE hP hD hS hA 0 rfl rfl) rfl rfl hl.1 rfl (lv_room (Nat.le_of_ble_eq_true rfl)) dX4_others_6 ⟨Nat.le_of_ble_eq_true rfl, Nat.le_of_ble_eq_true rfl⟩) hD hS hA (fun H locs hP hD hS => ?_)
  obtain ⟨u1, eu1⟩ : ∃ z, z = f_X4_add u (378170 : Int32) (224 : Int32) := ⟨_, rfl⟩
  have hP : va_P G vwCl (wM yy a u1) H := by rw [eu1]; exact hP
  have hD : va_D A (wM yy a u1) := by rw [eu1]; exact hD
  have hqu1 : m_ct u1 = nI 251 := by rw [eu1]; exact ct_add _ _ h0
  refine lv_aload_n hx hb dX4_others_9 rfl (lv_at hl 0 rfl) ?_
  refine lv_ldc hx hb hown (hts (.constant RX4 119 (10210733)) (by decide +kernel)) dX4_others_10 ?_
  refine lv_sipush (v := 225) hx hb dX4_others_12 (by decide) ?_
  refine g_v (va_runV (As := [.int (10210733 : Int32), .int (225 : Int32)]) (rest := []) ⟨hx, hb, hml, hown, hts⟩ (c_X4_add l yy a u1 (10210733 : Int32) (225 : Int32) (ct_in hqu1 (by decide : 251 < 400)) G H.size) (cwV 2 hts gX4_others_X4_add rfl rfl rfl (by decide +kernel) ⟨Nat.le_of_ble_eq_true rfl, Nat.le_of_ble_eq_true rfl⟩) (g_preV eTrue_bl hK hE hP hD hS hA 0 rfl rfl) rfl rfl hl.1 rfl (lv_room (Nat.le_of_ble_eq_true rfl)) dX4_others_15 ⟨Nat.le_of_ble_eq_true rfl, Nat.le_of_ble_eq_true rfl⟩) hD hS hA (fun H locs hP hD hS => ?_)
  obtain ⟨u2, eu2⟩ : ∃ z, z = f_X4_add u1 (10210733 : Int32) (225 : Int32) := ⟨_, rfl⟩
  have hP : va_P G vwCl (wM yy a u2) H := by rw [eu2]; exact hP
  have hD : va_D A (wM yy a u2) := by rw [eu2]; exact hD
  have hqu2 : m_ct u2 = nI 252 := by rw [eu2]; exact ct_add _ _ hqu1
  refine lv_aload_n hx hb dX4_others_18 rfl (lv_at hl 0 rfl) ?_
  refine lv_ldc hx hb hown (hts (.constant RX4 120 (10210737)) (by decide +kernel)) dX4_others_19 ?_
  refine lv_sipush (v := 226) hx hb dX4_others_21 (by decide) ?_
  refine g_v (va_runV (As := [.int (10210737 : Int32), .int (226 : Int32)]) (rest := []) ⟨hx, hb, hml, hown, hts⟩ (c_X4_add l yy a u2 (10210737 : Int32) (226 : Int32) (ct_in hqu2 (by decide : 252 < 400)) G H.size) (cwV 2 hts gX4_others_X4_add rfl rfl rfl (by decide +kernel) ⟨Nat.le_of_ble_eq_true rfl, Nat.le_of_ble_eq_true rfl⟩) (g_preV eTrue_bl hK hE hP hD hS hA 0 rfl rfl) rfl rfl hl.1 rfl (lv_room (Nat.le_of_ble_eq_true rfl)) dX4_others_24 ⟨Nat.le_of_ble_eq_true rfl, Nat.le_of_ble_eq_true rfl⟩) hD hS hA (fun H locs hP hD hS => ?_)
  obtain ⟨u3, eu3⟩ : ∃ z, z = f_X4_add u2 (10210737 : Int32) (226 : Int32) := ⟨_, rfl⟩
  have hP : va_P G vwCl (wM yy a u3) H := by rw [eu3]; exact hP
  have hD : va_D A (wM yy a u3) := by rw [eu3]; exact hD
  have hqu3 : m_ct u3 = nI 253 := by rw [eu3]; exact ct_add _ _ hqu2
  refine lv_aload_n hx hb dX4_others_27 rfl (lv_at hl 0 rfl) ?_
  refine lv_ldc hx hb hown (hts (.constant RX4 121 (378174)) (by decide +kernel)) dX4_others_28 ?_
  refine lv_sipush (v := 227) hx hb dX4_others_30 (by decide) ?_
  refine g_v (va_runV (As := [.int (378174 : Int32), .int (227 : Int32)]) (rest := []) ⟨hx, hb, hml, hown, hts⟩ (c_X4_add l yy a u3 (378174 : Int32) (227 : Int32) (ct_in hqu3 (by decide : 253 < 400)) G H.size) (cwV 2 hts gX4_others_X4_add rfl rfl rfl (by decide +kernel) ⟨Nat.le_of_ble_eq_true rfl, Nat.le_of_ble_eq_true rfl⟩) (g_preV eTrue_bl hK hE hP hD hS hA 0 rfl rfl) rfl rfl hl.1 rfl (lv_room (Nat.le_of_ble_eq_true rfl)) dX4_others_33 ⟨Nat.le_of_ble_eq_true rfl, Nat.le_of_ble_eq_true rfl⟩) hD hS hA (fun H locs hP hD hS => ?_)
  obtain ⟨u4, eu4⟩ : ∃ z, z = f_X4_add u3 (378174 : Int32) (227 : Int32) := ⟨_, rfl⟩
  have hP : va_P G vwCl (wM yy a u4) H := by rw [eu4]; exact hP
  have hD : va_D A (wM yy a u4) := by rw [eu4]; exact hD
  have hqu4 : m_ct u4 = nI 254 := by rw [eu4]; exact ct_add _ _ hqu3
  refine lv_aload_n hx hb dX4_others_36 rfl (lv_at hl 0 rfl) ?_
  refine lv_ldc hx hb hown (hts (.constant RX4 122 (187442)) (by decide +kernel)) dX4_others_37 ?_
  refine lv_sipush (v := 228) hx hb dX4_others_39 (by decide) ?_
  refine g_v (va_runV (As := [.int (187442 : Int32), .int (228 : Int32)]) (rest := []) ⟨hx, hb, hml, hown, hts⟩ (c_X4_add l yy a u4 (187442 : Int32) (228 : Int32) (ct_in hqu4 (by decide : 254 < 400)) G H.size) (cwV 2 hts gX4_others_X4_add rfl rfl rfl (by decide +kernel) ⟨Nat.le_of_ble_eq_true rfl, Nat.le_of_ble_eq_true rfl⟩) (g_preV eTrue_bl hK hE hP hD hS hA 0 rfl rfl) rfl rfl hl.1 rfl (lv_room (Nat.le_of_ble_eq_true rfl)) dX4_others_42 ⟨Nat.le_of_ble_eq_true rfl, Nat.le_of_ble_eq_true rfl⟩) hD hS hA (fun H locs hP hD hS => ?_)
  obtain ⟨u5, eu5⟩ : ∃ z, z = f_X4_add u4 (187442 : Int32) (228 : Int32) := ⟨_, rfl⟩
  have hP : va_P G vwCl (wM yy a u5) H := by rw [eu5]; exact hP
  have hD : va_D A (wM yy a u5) := by rw [eu5]; exact hD
  have hqu5 : m_ct u5 = nI 255 := by rw [eu5]; exact ct_add _ _ hqu4
  refine lv_aload_n hx hb dX4_others_45 rfl (lv_at hl 0 rfl) ?_
  refine lv_ldc hx hb hown (hts (.constant RX4 123 (5061077)) (by decide +kernel)) dX4_others_46 ?_
  refine lv_sipush (v := 229) hx hb dX4_others_48 (by decide) ?_
  refine g_v (va_runV (As := [.int (5061077 : Int32), .int (229 : Int32)]) (rest := []) ⟨hx, hb, hml, hown, hts⟩ (c_X4_add l yy a u5 (5061077 : Int32) (229 : Int32) (ct_in hqu5 (by decide : 255 < 400)) G H.size) (cwV 2 hts gX4_others_X4_add rfl rfl rfl (by decide +kernel) ⟨Nat.le_of_ble_eq_true rfl, Nat.le_of_ble_eq_true rfl⟩) (g_preV eTrue_bl hK hE hP hD hS hA 0 rfl rfl) rfl rfl hl.1 rfl (lv_room (Nat.le_of_ble_eq_true rfl)) dX4_others_51 ⟨Nat.le_of_ble_eq_true rfl, Nat.le_of_ble_eq_true rfl⟩) hD hS hA (fun H locs hP hD hS => ?_)
  obtain ⟨u6, eu6⟩ : ∃ z, z = f_X4_add u5 (5061077 : Int32) (229 : Int32) := ⟨_, rfl⟩
  have hP : va_P G vwCl (wM yy a u6) H := by rw [eu6]; exact hP
  have hD : va_D A (wM yy a u6) := by rw [eu6]; exact hD
  have hqu6 : m_ct u6 = nI 256 := by rw [eu6]; exact ct_add _ _ hqu5
  refine lv_aload_n hx hb dX4_others_54 rfl (lv_at hl 0 rfl) ?_
  refine lv_ldc hx hb hown (hts (.constant RX4 124 (5061081)) (by decide +kernel)) dX4_others_55 ?_
  refine lv_sipush (v := 230) hx hb dX4_others_57 (by decide) ?_
  refine g_v (va_runV (As := [.int (5061081 : Int32), .int (230 : Int32)]) (rest := []) ⟨hx, hb, hml, hown, hts⟩ (c_X4_add l yy a u6 (5061081 : Int32) (230 : Int32) (ct_in hqu6 (by decide : 256 < 400)) G H.size) (cwV 2 hts gX4_others_X4_add rfl rfl rfl (by decide +kernel) ⟨Nat.le_of_ble_eq_true rfl, Nat.le_of_ble_eq_true rfl⟩) (g_preV eTrue_bl hK hE hP hD hS hA 0 rfl rfl) rfl rfl hl.1 rfl (lv_room (Nat.le_of_ble_eq_true rfl)) dX4_others_60 ⟨Nat.le_of_ble_eq_true rfl, Nat.le_of_ble_eq_true rfl⟩) hD hS hA (fun H locs hP hD hS => ?_)
  obtain ⟨u7, eu7⟩ : ∃ z, z = f_X4_add u6 (5061081 : Int32) (230 : Int32) := ⟨_, rfl⟩
  have hP : va_P G vwCl (wM yy a u7) H := by rw [eu7]; exact hP
  have hD : va_D A (wM yy a u7) := by rw [eu7]; exact hD
  have hqu7 : m_ct u7 = nI 257 := by rw [eu7]; exact ct_add _ _ hqu6
  refine lv_aload_n hx hb dX4_others_63 rfl (lv_at hl 0 rfl) ?_
  refine lv_ldc hx hb hown (hts (.constant RX4 125 (187446)) (by decide +kernel)) dX4_others_64 ?_
  refine lv_sipush (v := 231) hx hb dX4_others_66 (by decide) ?_
  refine g_v (va_runV (As := [.int (187446 : Int32), .int (231 : Int32)]) (rest := []) ⟨hx, hb, hml, hown, hts⟩ (c_X4_add l yy a u7 (187446 : Int32) (231 : Int32) (ct_in hqu7 (by decide : 257 < 400)) G H.size) (cwV 2 hts gX4_others_X4_add rfl rfl rfl (by decide +kernel) ⟨Nat.le_of_ble_eq_true rfl, Nat.le_of_ble_eq_true rfl⟩) (g_preV eTrue_bl hK hE hP hD hS hA 0 rfl rfl) rfl rfl hl.1 rfl (lv_room (Nat.le_of_ble_eq_true rfl)) dX4_others_69 ⟨Nat.le_of_ble_eq_true rfl, Nat.le_of_ble_eq_true rfl⟩) hD hS hA (fun H locs hP hD hS => ?_)
  obtain ⟨u8, eu8⟩ : ∃ z, z = f_X4_add u7 (187446 : Int32) (231 : Int32) := ⟨_, rfl⟩
  have hP : va_P G vwCl (wM yy a u8) H := by rw [eu8]; exact hP
  have hD : va_D A (wM yy a u8) := by rw [eu8]; exact hD
  have hqu8 : m_ct u8 = nI 258 := by rw [eu8]; exact ct_add _ _ hqu7
  refine lv_aload_n hx hb dX4_others_72 rfl (lv_at hl 0 rfl) ?_
  refine lv_sipush (v := 11429) hx hb dX4_others_73 (by decide) ?_
  refine lv_sipush (v := 232) hx hb dX4_others_76 (by decide) ?_
  refine g_v (va_runV (As := [.int (11429 : Int32), .int (232 : Int32)]) (rest := []) ⟨hx, hb, hml, hown, hts⟩ (c_X4_add l yy a u8 (11429 : Int32) (232 : Int32) (ct_in hqu8 (by decide : 258 < 400)) G H.size) (cwV 2 hts gX4_others_X4_add rfl rfl rfl (by decide +kernel) ⟨Nat.le_of_ble_eq_true rfl, Nat.le_of_ble_eq_true rfl⟩) (g_preV eTrue_bl hK hE hP hD hS hA 0 rfl rfl) rfl rfl hl.1 rfl (lv_room (Nat.le_of_ble_eq_true rfl)) dX4_others_79 ⟨Nat.le_of_ble_eq_true rfl, Nat.le_of_ble_eq_true rfl⟩) hD hS hA (fun H locs hP hD hS => ?_)
  obtain ⟨u9, eu9⟩ : ∃ z, z = f_X4_add u8 (11429 : Int32) (232 : Int32) := ⟨_, rfl⟩
  have hP : va_P G vwCl (wM yy a u9) H := by rw [eu9]; exact hP
  have hD : va_D A (wM yy a u9) := by rw [eu9]; exact hD
  have hqu9 : m_ct u9 = nI 259 := by rw [eu9]; exact ct_add _ _ hqu8
  refine lv_aload_n hx hb dX4_others_82 rfl (lv_at hl 0 rfl) ?_
  refine lv_ldc hx hb hown (hts (.constant RX4 126 (308726)) (by decide +kernel)) dX4_others_83 ?_
  refine lv_sipush (v := 233) hx hb dX4_others_85 (by decide) ?_
  refine g_v (va_runV (As := [.int (308726 : Int32), .int (233 : Int32)]) (rest := []) ⟨hx, hb, hml, hown, hts⟩ (c_X4_add l yy a u9 (308726 : Int32) (233 : Int32) (ct_in hqu9 (by decide : 259 < 400)) G H.size) (cwV 2 hts gX4_others_X4_add rfl rfl rfl (by decide +kernel) ⟨Nat.le_of_ble_eq_true rfl, Nat.le_of_ble_eq_true rfl⟩) (g_preV eTrue_bl hK hE hP hD hS hA 0 rfl rfl) rfl rfl hl.1 rfl (lv_room (Nat.le_of_ble_eq_true rfl)) dX4_others_88 ⟨Nat.le_of_ble_eq_true rfl, Nat.le_of_ble_eq_true rfl⟩) hD hS hA (fun H locs hP hD hS => ?_)
  obtain ⟨u10, eu10⟩ : ∃ z, z = f_X4_add u9 (308726 : Int32) (233 : Int32) := ⟨_, rfl⟩
  have hP : va_P G vwCl (wM yy a u10) H := by rw [eu10]; exact hP
  have hD : va_D A (wM yy a u10) := by rw [eu10]; exact hD
  have hqu10 : m_ct u10 = nI 260 := by rw [eu10]; exact ct_add _ _ hqu9
  refine lv_aload_n hx hb dX4_others_91 rfl (lv_at hl 0 rfl) ?_
  refine lv_ldc hx hb hown (hts (.constant RX4 127 (308730)) (by decide +kernel)) dX4_others_92 ?_
  refine lv_sipush (v := 234) hx hb dX4_others_94 (by decide) ?_
  refine g_v (va_runV (As := [.int (308730 : Int32), .int (234 : Int32)]) (rest := []) ⟨hx, hb, hml, hown, hts⟩ (c_X4_add l yy a u10 (308730 : Int32) (234 : Int32) (ct_in hqu10 (by decide : 260 < 400)) G H.size) (cwV 2 hts gX4_others_X4_add rfl rfl rfl (by decide +kernel) ⟨Nat.le_of_ble_eq_true rfl, Nat.le_of_ble_eq_true rfl⟩) (g_preV eTrue_bl hK hE hP hD hS hA 0 rfl rfl) rfl rfl hl.1 rfl (lv_room (Nat.le_of_ble_eq_true rfl)) dX4_others_97 ⟨Nat.le_of_ble_eq_true rfl, Nat.le_of_ble_eq_true rfl⟩) hD hS hA (fun H locs hP hD hS => ?_)
  obtain ⟨u11, eu11⟩ : ∃ z, z = f_X4_add u10 (308730 : Int32) (234 : Int32) := ⟨_, rfl⟩
  have hP : va_P G vwCl (wM yy a u11) H := by rw [eu11]; exact hP
  have hD : va_D A (wM yy a u11) := by rw [eu11]; exact hD
  have hqu11 : m_ct u11 = nI 261 := by rw [eu11]; exact ct_add _ _ hqu10
  refine lv_aload_n hx hb dX4_others_100 rfl (lv_at hl 0 rfl) ?_
  refine lv_sipush (v := 11433) hx hb dX4_others_101 (by decide) ?_
  refine lv_sipush (v := 235) hx hb dX4_others_104 (by decide) ?_
  refine g_v (va_runV (As := [.int (11433 : Int32), .int (235 : Int32)]) (rest := []) ⟨hx, hb, hml, hown, hts⟩ (c_X4_add l yy a u11 (11433 : Int32) (235 : Int32) (ct_in hqu11 (by decide : 261 < 400)) G H.size) (cwV 2 hts gX4_others_X4_add rfl rfl rfl (by decide +kernel) ⟨Nat.le_of_ble_eq_true rfl, Nat.le_of_ble_eq_true rfl⟩) (g_preV eTrue_bl hK hE hP hD hS hA 0 rfl rfl) rfl rfl hl.1 rfl (lv_room (Nat.le_of_ble_eq_true rfl)) dX4_others_107 ⟨Nat.le_of_ble_eq_true rfl, Nat.le_of_ble_eq_true rfl⟩) hD hS hA (fun H locs hP hD hS => ?_)
  obtain ⟨u12, eu12⟩ : ∃ z, z = f_X4_add u11 (11433 : Int32) (235 : Int32) := ⟨_, rfl⟩
  have hP : va_P G vwCl (wM yy a u12) H := by rw [eu12]; exact hP
  have hD : va_D A (wM yy a u12) := by rw [eu12]; exact hD
  have hqu12 : m_ct u12 = nI 262 := by rw [eu12]; exact ct_add _ _ hqu11
  refine lv_aload_n hx hb dX4_others_110 rfl (lv_at hl 0 rfl) ?_
  refine lv_ldc hx hb hown (hts (.constant RX4 128 (810305)) (by decide +kernel)) dX4_others_111 ?_
  refine lv_sipush (v := 236) hx hb dX4_others_113 (by decide) ?_
  refine g_v (va_runV (As := [.int (810305 : Int32), .int (236 : Int32)]) (rest := []) ⟨hx, hb, hml, hown, hts⟩ (c_X4_add l yy a u12 (810305 : Int32) (236 : Int32) (ct_in hqu12 (by decide : 262 < 400)) G H.size) (cwV 2 hts gX4_others_X4_add rfl rfl rfl (by decide +kernel) ⟨Nat.le_of_ble_eq_true rfl, Nat.le_of_ble_eq_true rfl⟩) (g_preV eTrue_bl hK hE hP hD hS hA 0 rfl rfl) rfl rfl hl.1 rfl (lv_room (Nat.le_of_ble_eq_true rfl)) dX4_others_116 ⟨Nat.le_of_ble_eq_true rfl, Nat.le_of_ble_eq_true rfl⟩) hD hS hA (fun H locs hP hD hS => ?_)
  obtain ⟨u13, eu13⟩ : ∃ z, z = f_X4_add u12 (810305 : Int32) (236 : Int32) := ⟨_, rfl⟩
  have hP : va_P G vwCl (wM yy a u13) H := by rw [eu13]; exact hP
  have hD : va_D A (wM yy a u13) := by rw [eu13]; exact hD
  have hqu13 : m_ct u13 = nI 263 := by rw [eu13]; exact ct_add _ _ hqu12
  refine lv_aload_n hx hb dX4_others_119 rfl (lv_at hl 0 rfl) ?_
  refine lv_ldc hx hb hown (hts (.constant RX4 129 (21878378)) (by decide +kernel)) dX4_others_120 ?_
  refine lv_sipush (v := 237) hx hb dX4_others_122 (by decide) ?_
  refine g_v (va_runV (As := [.int (21878378 : Int32), .int (237 : Int32)]) (rest := []) ⟨hx, hb, hml, hown, hts⟩ (c_X4_add l yy a u13 (21878378 : Int32) (237 : Int32) (ct_in hqu13 (by decide : 263 < 400)) G H.size) (cwV 2 hts gX4_others_X4_add rfl rfl rfl (by decide +kernel) ⟨Nat.le_of_ble_eq_true rfl, Nat.le_of_ble_eq_true rfl⟩) (g_preV eTrue_bl hK hE hP hD hS hA 0 rfl rfl) rfl rfl hl.1 rfl (lv_room (Nat.le_of_ble_eq_true rfl)) dX4_others_125 ⟨Nat.le_of_ble_eq_true rfl, Nat.le_of_ble_eq_true rfl⟩) hD hS hA (fun H locs hP hD hS => ?_)
  obtain ⟨u14, eu14⟩ : ∃ z, z = f_X4_add u13 (21878378 : Int32) (237 : Int32) := ⟨_, rfl⟩
  have hP : va_P G vwCl (wM yy a u14) H := by rw [eu14]; exact hP
  have hD : va_D A (wM yy a u14) := by rw [eu14]; exact hD
  have hqu14 : m_ct u14 = nI 264 := by rw [eu14]; exact ct_add _ _ hqu13
  refine lv_aload_n hx hb dX4_others_128 rfl (lv_at hl 0 rfl) ?_
  refine lv_ldc hx hb hown (hts (.constant RX4 130 (21878382)) (by decide +kernel)) dX4_others_129 ?_
  refine lv_sipush (v := 238) hx hb dX4_others_131 (by decide) ?_
  refine g_v (va_runV (As := [.int (21878382 : Int32), .int (238 : Int32)]) (rest := []) ⟨hx, hb, hml, hown, hts⟩ (c_X4_add l yy a u14 (21878382 : Int32) (238 : Int32) (ct_in hqu14 (by decide : 264 < 400)) G H.size) (cwV 2 hts gX4_others_X4_add rfl rfl rfl (by decide +kernel) ⟨Nat.le_of_ble_eq_true rfl, Nat.le_of_ble_eq_true rfl⟩) (g_preV eTrue_bl hK hE hP hD hS hA 0 rfl rfl) rfl rfl hl.1 rfl (lv_room (Nat.le_of_ble_eq_true rfl)) dX4_others_134 ⟨Nat.le_of_ble_eq_true rfl, Nat.le_of_ble_eq_true rfl⟩) hD hS hA (fun H locs hP hD hS => ?_)
  obtain ⟨u15, eu15⟩ : ∃ z, z = f_X4_add u14 (21878382 : Int32) (238 : Int32) := ⟨_, rfl⟩
  have hP : va_P G vwCl (wM yy a u15) H := by rw [eu15]; exact hP
  have hD : va_D A (wM yy a u15) := by rw [eu15]; exact hD
  have hqu15 : m_ct u15 = nI 265 := by rw [eu15]; exact ct_add _ _ hqu14
  refine lv_aload_n hx hb dX4_others_137 rfl (lv_at hl 0 rfl) ?_
  refine lv_ldc hx hb hown (hts (.constant RX4 131 (810309)) (by decide +kernel)) dX4_others_138 ?_
  refine lv_sipush (v := 239) hx hb dX4_others_140 (by decide) ?_
  refine g_v (va_runV (As := [.int (810309 : Int32), .int (239 : Int32)]) (rest := []) ⟨hx, hb, hml, hown, hts⟩ (c_X4_add l yy a u15 (810309 : Int32) (239 : Int32) (ct_in hqu15 (by decide : 265 < 400)) G H.size) (cwV 2 hts gX4_others_X4_add rfl rfl rfl (by decide +kernel) ⟨Nat.le_of_ble_eq_true rfl, Nat.le_of_ble_eq_true rfl⟩) (g_preV eTrue_bl hK hE hP hD hS hA 0 rfl rfl) rfl rfl hl.1 rfl (lv_room (Nat.le_of_ble_eq_true rfl)) dX4_others_143 ⟨Nat.le_of_ble_eq_true rfl, Nat.le_of_ble_eq_true rfl⟩) hD hS hA (fun H locs hP hD hS => ?_)
  obtain ⟨u16, eu16⟩ : ∃ z, z = f_X4_add u15 (810309 : Int32) (239 : Int32) := ⟨_, rfl⟩
  have hP : va_P G vwCl (wM yy a u16) H := by rw [eu16]; exact hP
  have hD : va_D A (wM yy a u16) := by rw [eu16]; exact hD
  have hqu16 : m_ct u16 = nI 266 := by rw [eu16]; exact ct_add _ _ hqu15
  refine lv_aload_n hx hb dX4_others_146 rfl (lv_at hl 0 rfl) ?_
  refine lv_sipush (v := 7657) hx hb dX4_others_147 (by decide) ?_
  refine lv_sipush (v := 240) hx hb dX4_others_150 (by decide) ?_
  refine lv_iconst (v := 2) hx hb dX4_others_153 (by decide) ?_
  refine g_v (va_runV (As := [.int (7657 : Int32), .int (240 : Int32), .int (2 : Int32)]) (rest := []) ⟨hx, hb, hml, hown, hts⟩ (c_X4_pair l yy a u16 (7657 : Int32) (240 : Int32) (2 : Int32) (⟨266, by decide, hqu16⟩) G H.size) (cwV 3 hts gX4_others_X4_pair rfl rfl rfl (by decide +kernel) ⟨Nat.le_of_ble_eq_true rfl, Nat.le_of_ble_eq_true rfl⟩) (g_preV eTrue_bl hK hE hP hD hS hA 0 rfl rfl) rfl rfl hl.1 rfl (lv_room (Nat.le_of_ble_eq_true rfl)) dX4_others_154 ⟨Nat.le_of_ble_eq_true rfl, Nat.le_of_ble_eq_true rfl⟩) hD hS hA (fun H locs hP hD hS => ?_)
  obtain ⟨u17, eu17⟩ : ∃ z, z = f_X4_pair u16 (7657 : Int32) (240 : Int32) (2 : Int32) := ⟨_, rfl⟩
  have hP : va_P G vwCl (wM yy a u17) H := by rw [eu17]; exact hP
  have hD : va_D A (wM yy a u17) := by rw [eu17]; exact hD
  have hqu17 : m_ct u17 = nI 268 := by rw [eu17]; exact ct_pair _ _ _ hqu16
  refine lv_aload_n hx hb dX4_others_157 rfl (lv_at hl 0 rfl) ?_
  refine lv_ldc hx hb hown (hts (.constant RX4 132 (40187)) (by decide +kernel)) dX4_others_158 ?_
  refine lv_sipush (v := 241) hx hb dX4_others_160 (by decide) ?_
  refine g_v (va_runV (As := [.int (40187 : Int32), .int (241 : Int32)]) (rest := []) ⟨hx, hb, hml, hown, hts⟩ (c_X4_add l yy a u17 (40187 : Int32) (241 : Int32) (ct_in hqu17 (by decide : 268 < 400)) G H.size) (cwV 2 hts gX4_others_X4_add rfl rfl rfl (by decide +kernel) ⟨Nat.le_of_ble_eq_true rfl, Nat.le_of_ble_eq_true rfl⟩) (g_preV eTrue_bl hK hE hP hD hS hA 0 rfl rfl) rfl rfl hl.1 rfl (lv_room (Nat.le_of_ble_eq_true rfl)) dX4_others_163 ⟨Nat.le_of_ble_eq_true rfl, Nat.le_of_ble_eq_true rfl⟩) hD hS hA (fun H locs hP hD hS => ?_)
  obtain ⟨u18, eu18⟩ : ∃ z, z = f_X4_add u17 (40187 : Int32) (241 : Int32) := ⟨_, rfl⟩
  have hP : va_P G vwCl (wM yy a u18) H := by rw [eu18]; exact hP
  have hD : va_D A (wM yy a u18) := by rw [eu18]; exact hD
  have hqu18 : m_ct u18 = nI 269 := by rw [eu18]; exact ct_add _ _ hqu17
  refine lv_aload_n hx hb dX4_others_166 rfl (lv_at hl 0 rfl) ?_
  refine lv_ldc hx hb hown (hts (.constant RX4 133 (141967)) (by decide +kernel)) dX4_others_167 ?_
  refine lv_sipush (v := 244) hx hb dX4_others_169 (by decide) ?_
  refine lv_iconst (v := 2) hx hb dX4_others_172 (by decide) ?_
  refine g_v (va_runV (As := [.int (141967 : Int32), .int (244 : Int32), .int (2 : Int32)]) (rest := []) ⟨hx, hb, hml, hown, hts⟩ (c_X4_pair l yy a u18 (141967 : Int32) (244 : Int32) (2 : Int32) (⟨269, by decide, hqu18⟩) G H.size) (cwV 3 hts gX4_others_X4_pair rfl rfl rfl (by decide +kernel) ⟨Nat.le_of_ble_eq_true rfl, Nat.le_of_ble_eq_true rfl⟩) (g_preV eTrue_bl hK hE hP hD hS hA 0 rfl rfl) rfl rfl hl.1 rfl (lv_room (Nat.le_of_ble_eq_true rfl)) dX4_others_173 ⟨Nat.le_of_ble_eq_true rfl, Nat.le_of_ble_eq_true rfl⟩) hD hS hA (fun H locs hP hD hS => ?_)
  obtain ⟨u19, eu19⟩ : ∃ z, z = f_X4_pair u18 (141967 : Int32) (244 : Int32) (2 : Int32) := ⟨_, rfl⟩
  have hP : va_P G vwCl (wM yy a u19) H := by rw [eu19]; exact hP
  have hD : va_D A (wM yy a u19) := by rw [eu19]; exact hD
  have hqu19 : m_ct u19 = nI 271 := by rw [eu19]; exact ct_pair _ _ _ hqu18
  refine lv_aload_n hx hb dX4_others_176 rfl (lv_at hl 0 rfl) ?_
  refine lv_sipush (v := 12251) hx hb dX4_others_177 (by decide) ?_
  refine lv_sipush (v := 246) hx hb dX4_others_180 (by decide) ?_
  refine lv_bipush (v := 9) hx hb dX4_others_183 (by decide) ?_
  refine g_v (va_runV (As := [.int (12251 : Int32), .int (246 : Int32), .int (9 : Int32)]) (rest := []) ⟨hx, hb, hml, hown, hts⟩ (c_X4_pair l yy a u19 (12251 : Int32) (246 : Int32) (9 : Int32) (⟨271, by decide, hqu19⟩) G H.size) (cwV 3 hts gX4_others_X4_pair rfl rfl rfl (by decide +kernel) ⟨Nat.le_of_ble_eq_true rfl, Nat.le_of_ble_eq_true rfl⟩) (g_preV eTrue_bl hK hE hP hD hS hA 0 rfl rfl) rfl rfl hl.1 rfl (lv_room (Nat.le_of_ble_eq_true rfl)) dX4_others_185 ⟨Nat.le_of_ble_eq_true rfl, Nat.le_of_ble_eq_true rfl⟩) hD hS hA (fun H locs hP hD hS => ?_)
  obtain ⟨u20, eu20⟩ : ∃ z, z = f_X4_pair u19 (12251 : Int32) (246 : Int32) (9 : Int32) := ⟨_, rfl⟩
  have hP : va_P G vwCl (wM yy a u20) H := by rw [eu20]; exact hP
  have hD : va_D A (wM yy a u20) := by rw [eu20]; exact hD
  have hqu20 : m_ct u20 = nI 273 := by rw [eu20]; exact ct_pair _ _ _ hqu19
  refine lv_aload_n hx hb dX4_others_188 rfl (lv_at hl 0 rfl) ?_
  refine lv_sipush (v := 5258) hx hb dX4_others_189 (by decide) ?_
  refine lv_sipush (v := 254) hx hb dX4_others_192 (by decide) ?_
  refine g_v (va_runV (As := [.int (5258 : Int32), .int (254 : Int32)]) (rest := []) ⟨hx, hb, hml, hown, hts⟩ (c_X4_add l yy a u20 (5258 : Int32) (254 : Int32) (ct_in hqu20 (by decide : 273 < 400)) G H.size) (cwV 2 hts gX4_others_X4_add rfl rfl rfl (by decide +kernel) ⟨Nat.le_of_ble_eq_true rfl, Nat.le_of_ble_eq_true rfl⟩) (g_preV eTrue_bl hK hE hP hD hS hA 0 rfl rfl) rfl rfl hl.1 rfl (lv_room (Nat.le_of_ble_eq_true rfl)) dX4_others_195 ⟨Nat.le_of_ble_eq_true rfl, Nat.le_of_ble_eq_true rfl⟩) hD hS hA (fun H locs hP hD hS => ?_)
  obtain ⟨u21, eu21⟩ : ∃ z, z = f_X4_add u20 (5258 : Int32) (254 : Int32) := ⟨_, rfl⟩
  have hP : va_P G vwCl (wM yy a u21) H := by rw [eu21]; exact hP
  have hD : va_D A (wM yy a u21) := by rw [eu21]; exact hD
  have hqu21 : m_ct u21 = nI 274 := by rw [eu21]; exact ct_add _ _ hqu20
  refine lv_aload_n hx hb dX4_others_198 rfl (lv_at hl 0 rfl) ?_
  refine lv_ldc hx hb hown (hts (.constant RX4 134 (391432)) (by decide +kernel)) dX4_others_199 ?_
  refine lv_sipush (v := 253) hx hb dX4_others_201 (by decide) ?_
  refine g_v (va_runV (As := [.int (391432 : Int32), .int (253 : Int32)]) (rest := []) ⟨hx, hb, hml, hown, hts⟩ (c_X4_add l yy a u21 (391432 : Int32) (253 : Int32) (ct_in hqu21 (by decide : 274 < 400)) G H.size) (cwV 2 hts gX4_others_X4_add rfl rfl rfl (by decide +kernel) ⟨Nat.le_of_ble_eq_true rfl, Nat.le_of_ble_eq_true rfl⟩) (g_preV eTrue_bl hK hE hP hD hS hA 0 rfl rfl) rfl rfl hl.1 rfl (lv_room (Nat.le_of_ble_eq_true rfl)) dX4_others_204 ⟨Nat.le_of_ble_eq_true rfl, Nat.le_of_ble_eq_true rfl⟩) hD hS hA (fun H locs hP hD hS => ?_)
  obtain ⟨u22, eu22⟩ : ∃ z, z = f_X4_add u21 (391432 : Int32) (253 : Int32) := ⟨_, rfl⟩
  have hP : va_P G vwCl (wM yy a u22) H := by rw [eu22]; exact hP
  have hD : va_D A (wM yy a u22) := by rw [eu22]; exact hD
  have hqu22 : m_ct u22 = nI 275 := by rw [eu22]; exact ct_add _ _ hqu21
  refine lv_aload_n hx hb dX4_others_207 rfl (lv_at hl 0 rfl) ?_
  refine lv_sipush (v := 10627) hx hb dX4_others_208 (by decide) ?_
  refine lv_sipush (v := 253) hx hb dX4_others_211 (by decide) ?_
  refine g_v (va_runV (As := [.int (10627 : Int32), .int (253 : Int32)]) (rest := []) ⟨hx, hb, hml, hown, hts⟩ (c_X4_add l yy a u22 (10627 : Int32) (253 : Int32) (ct_in hqu22 (by decide : 275 < 400)) G H.size) (cwV 2 hts gX4_others_X4_add rfl rfl rfl (by decide +kernel) ⟨Nat.le_of_ble_eq_true rfl, Nat.le_of_ble_eq_true rfl⟩) (g_preV eTrue_bl hK hE hP hD hS hA 0 rfl rfl) rfl rfl hl.1 rfl (lv_room (Nat.le_of_ble_eq_true rfl)) dX4_others_214 ⟨Nat.le_of_ble_eq_true rfl, Nat.le_of_ble_eq_true rfl⟩) hD hS hA (fun H locs hP hD hS => ?_)
  obtain ⟨u23, eu23⟩ : ∃ z, z = f_X4_add u22 (10627 : Int32) (253 : Int32) := ⟨_, rfl⟩
  have hP : va_P G vwCl (wM yy a u23) H := by rw [eu23]; exact hP
  have hD : va_D A (wM yy a u23) := by rw [eu23]; exact hD
  have hqu23 : m_ct u23 = nI 276 := by rw [eu23]; exact ct_add _ _ hqu22
  refine lv_aload_n hx hb dX4_others_217 rfl (lv_at hl 0 rfl) ?_
  refine lv_ldc hx hb hown (hts (.constant RX4 135 (406825)) (by decide +kernel)) dX4_others_218 ?_
  refine lv_iconst (v := 0) hx hb dX4_others_220 (by decide) ?_
  refine g_v (va_runV (As := [.int (406825 : Int32), .int (0 : Int32)]) (rest := []) ⟨hx, hb, hml, hown, hts⟩ (c_X4_add l yy a u23 (406825 : Int32) (0 : Int32) (ct_in hqu23 (by decide : 276 < 400)) G H.size) (cwV 2 hts gX4_others_X4_add rfl rfl rfl (by decide +kernel) ⟨Nat.le_of_ble_eq_true rfl, Nat.le_of_ble_eq_true rfl⟩) (g_preV eTrue_bl hK hE hP hD hS hA 0 rfl rfl) rfl rfl hl.1 rfl (lv_room (Nat.le_of_ble_eq_true rfl)) dX4_others_221 ⟨Nat.le_of_ble_eq_true rfl, Nat.le_of_ble_eq_true rfl⟩) hD hS hA (fun H locs hP hD hS => ?_)
  obtain ⟨u24, eu24⟩ : ∃ z, z = f_X4_add u23 (406825 : Int32) (0 : Int32) := ⟨_, rfl⟩
  have hP : va_P G vwCl (wM yy a u24) H := by rw [eu24]; exact hP
  have hD : va_D A (wM yy a u24) := by rw [eu24]; exact hD
  have hqu24 : m_ct u24 = nI 277 := by rw [eu24]; exact ct_add _ _ hqu23
  refine lv_aload_n hx hb dX4_others_224 rfl (lv_at hl 0 rfl) ?_
  refine lv_ldc hx hb hown (hts (.constant RX4 136 (158537)) (by decide +kernel)) dX4_others_225 ?_
  refine lv_iconst (v := 0) hx hb dX4_others_227 (by decide) ?_
  refine g_v (va_runV (As := [.int (158537 : Int32), .int (0 : Int32)]) (rest := []) ⟨hx, hb, hml, hown, hts⟩ (c_X4_add l yy a u24 (158537 : Int32) (0 : Int32) (ct_in hqu24 (by decide : 277 < 400)) G H.size) (cwV 2 hts gX4_others_X4_add rfl rfl rfl (by decide +kernel) ⟨Nat.le_of_ble_eq_true rfl, Nat.le_of_ble_eq_true rfl⟩) (g_preV eTrue_bl hK hE hP hD hS hA 0 rfl rfl) rfl rfl hl.1 rfl (lv_room (Nat.le_of_ble_eq_true rfl)) dX4_others_228 ⟨Nat.le_of_ble_eq_true rfl, Nat.le_of_ble_eq_true rfl⟩) hD hS hA (fun H locs hP hD hS => ?_)
  obtain ⟨u25, eu25⟩ : ∃ z, z = f_X4_add u24 (158537 : Int32) (0 : Int32) := ⟨_, rfl⟩
  have hP : va_P G vwCl (wM yy a u25) H := by rw [eu25]; exact hP
  have hD : va_D A (wM yy a u25) := by rw [eu25]; exact hD
  have hqu25 : m_ct u25 = nI 278 := by rw [eu25]; exact ct_add _ _ hqu24
  refine lv_aload_n hx hb dX4_others_231 rfl (lv_at hl 0 rfl) ?_
  refine lv_sipush (v := 333) hx hb dX4_others_232 (by decide) ?_
  refine lv_sipush (v := 227) hx hb dX4_others_235 (by decide) ?_
  refine g_v (va_runV (As := [.int (333 : Int32), .int (227 : Int32)]) (rest := []) ⟨hx, hb, hml, hown, hts⟩ (c_X4_add l yy a u25 (333 : Int32) (227 : Int32) (ct_in hqu25 (by decide : 278 < 400)) G H.size) (cwV 2 hts gX4_others_X4_add rfl rfl rfl (by decide +kernel) ⟨Nat.le_of_ble_eq_true rfl, Nat.le_of_ble_eq_true rfl⟩) (g_preV eTrue_bl hK hE hP hD hS hA 0 rfl rfl) rfl rfl hl.1 rfl (lv_room (Nat.le_of_ble_eq_true rfl)) dX4_others_238 ⟨Nat.le_of_ble_eq_true rfl, Nat.le_of_ble_eq_true rfl⟩) hD hS hA (fun H locs hP hD hS => ?_)
  obtain ⟨u26, eu26⟩ : ∃ z, z = f_X4_add u25 (333 : Int32) (227 : Int32) := ⟨_, rfl⟩
  have hP : va_P G vwCl (wM yy a u26) H := by rw [eu26]; exact hP
  have hD : va_D A (wM yy a u26) := by rw [eu26]; exact hD
  have hqu26 : m_ct u26 = nI 279 := by rw [eu26]; exact ct_add _ _ hqu25
  refine lv_aload_n hx hb dX4_others_241 rfl (lv_at hl 0 rfl) ?_
  refine lv_sipush (v := 8999) hx hb dX4_others_242 (by decide) ?_
  refine lv_sipush (v := 224) hx hb dX4_others_245 (by decide) ?_
  refine g_v (va_runV (As := [.int (8999 : Int32), .int (224 : Int32)]) (rest := []) ⟨hx, hb, hml, hown, hts⟩ (c_X4_add l yy a u26 (8999 : Int32) (224 : Int32) (ct_in hqu26 (by decide : 279 < 400)) G H.size) (cwV 2 hts gX4_others_X4_add rfl rfl rfl (by decide +kernel) ⟨Nat.le_of_ble_eq_true rfl, Nat.le_of_ble_eq_true rfl⟩) (g_preV eTrue_bl hK hE hP hD hS hA 0 rfl rfl) rfl rfl hl.1 rfl (lv_room (Nat.le_of_ble_eq_true rfl)) dX4_others_248 ⟨Nat.le_of_ble_eq_true rfl, Nat.le_of_ble_eq_true rfl⟩) hD hS hA (fun H locs hP hD hS => ?_)
  obtain ⟨u27, eu27⟩ : ∃ z, z = f_X4_add u26 (8999 : Int32) (224 : Int32) := ⟨_, rfl⟩
  have hP : va_P G vwCl (wM yy a u27) H := by rw [eu27]; exact hP
  have hD : va_D A (wM yy a u27) := by rw [eu27]; exact hD
  have hqu27 : m_ct u27 = nI 280 := by rw [eu27]; exact ct_add _ _ hqu26
  refine lv_aload_n hx hb dX4_others_251 rfl (lv_at hl 0 rfl) ?_
  refine lv_ldc hx hb hown (hts (.constant RX4 137 (243116)) (by decide +kernel)) dX4_others_252 ?_
  refine lv_sipush (v := 225) hx hb dX4_others_254 (by decide) ?_
  refine g_v (va_runV (As := [.int (243116 : Int32), .int (225 : Int32)]) (rest := []) ⟨hx, hb, hml, hown, hts⟩ (c_X4_add l yy a u27 (243116 : Int32) (225 : Int32) (ct_in hqu27 (by decide : 280 < 400)) G H.size) (cwV 2 hts gX4_others_X4_add rfl rfl rfl (by decide +kernel) ⟨Nat.le_of_ble_eq_true rfl, Nat.le_of_ble_eq_true rfl⟩) (g_preV eTrue_bl hK hE hP hD hS hA 0 rfl rfl) rfl rfl hl.1 rfl (lv_room (Nat.le_of_ble_eq_true rfl)) dX4_others_257 ⟨Nat.le_of_ble_eq_true rfl, Nat.le_of_ble_eq_true rfl⟩) hD hS hA (fun H locs hP hD hS => ?_)
  obtain ⟨u28, eu28⟩ : ∃ z, z = f_X4_add u27 (243116 : Int32) (225 : Int32) := ⟨_, rfl⟩
  have hP : va_P G vwCl (wM yy a u28) H := by rw [eu28]; exact hP
  have hD : va_D A (wM yy a u28) := by rw [eu28]; exact hD
  have hqu28 : m_ct u28 = nI 281 := by rw [eu28]; exact ct_add _ _ hqu27
  refine lv_aload_n hx hb dX4_others_260 rfl (lv_at hl 0 rfl) ?_
  refine lv_ldc hx hb hown (hts (.constant RX4 138 (243120)) (by decide +kernel)) dX4_others_261 ?_
  refine lv_sipush (v := 226) hx hb dX4_others_263 (by decide) ?_
  refine g_v (va_runV (As := [.int (243120 : Int32), .int (226 : Int32)]) (rest := []) ⟨hx, hb, hml, hown, hts⟩ (c_X4_add l yy a u28 (243120 : Int32) (226 : Int32) (ct_in hqu28 (by decide : 281 < 400)) G H.size) (cwV 2 hts gX4_others_X4_add rfl rfl rfl (by decide +kernel) ⟨Nat.le_of_ble_eq_true rfl, Nat.le_of_ble_eq_true rfl⟩) (g_preV eTrue_bl hK hE hP hD hS hA 0 rfl rfl) rfl rfl hl.1 rfl (lv_room (Nat.le_of_ble_eq_true rfl)) dX4_others_266 ⟨Nat.le_of_ble_eq_true rfl, Nat.le_of_ble_eq_true rfl⟩) hD hS hA (fun H locs hP hD hS => ?_)
  obtain ⟨u29, eu29⟩ : ∃ z, z = f_X4_add u28 (243120 : Int32) (226 : Int32) := ⟨_, rfl⟩
  have hP : va_P G vwCl (wM yy a u29) H := by rw [eu29]; exact hP
  have hD : va_D A (wM yy a u29) := by rw [eu29]; exact hD
  have hqu29 : m_ct u29 = nI 282 := by rw [eu29]; exact ct_add _ _ hqu28
  refine lv_aload_n hx hb dX4_others_269 rfl (lv_at hl 0 rfl) ?_
  refine lv_sipush (v := 8857) hx hb dX4_others_270 (by decide) ?_
  refine lv_bipush (v := 34) hx hb dX4_others_273 (by decide) ?_
  refine lv_bipush (v := 9) hx hb dX4_others_275 (by decide) ?_
  refine g_v (va_runV (As := [.int (8857 : Int32), .int (34 : Int32), .int (9 : Int32)]) (rest := []) ⟨hx, hb, hml, hown, hts⟩ (c_X4_pair l yy a u29 (8857 : Int32) (34 : Int32) (9 : Int32) (⟨282, by decide, hqu29⟩) G H.size) (cwV 3 hts gX4_others_X4_pair rfl rfl rfl (by decide +kernel) ⟨Nat.le_of_ble_eq_true rfl, Nat.le_of_ble_eq_true rfl⟩) (g_preV eTrue_bl hK hE hP hD hS hA 0 rfl rfl) rfl rfl hl.1 rfl (lv_room (Nat.le_of_ble_eq_true rfl)) dX4_others_277 ⟨Nat.le_of_ble_eq_true rfl, Nat.le_of_ble_eq_true rfl⟩) hD hS hA (fun H locs hP hD hS => ?_)
  obtain ⟨u30, eu30⟩ : ∃ z, z = f_X4_pair u29 (8857 : Int32) (34 : Int32) (9 : Int32) := ⟨_, rfl⟩
  have hP : va_P G vwCl (wM yy a u30) H := by rw [eu30]; exact hP
  have hD : va_D A (wM yy a u30) := by rw [eu30]; exact hD
  have hqu30 : m_ct u30 = nI 284 := by rw [eu30]; exact ct_pair _ _ _ hqu29
  refine lv_aload_n hx hb dX4_others_280 rfl (lv_at hl 0 rfl) ?_
  refine lv_sipush (v := 6942) hx hb dX4_others_281 (by decide) ?_
  refine lv_bipush (v := 34) hx hb dX4_others_284 (by decide) ?_
  refine lv_bipush (v := 9) hx hb dX4_others_286 (by decide) ?_
  refine g_v (va_runV (As := [.int (6942 : Int32), .int (34 : Int32), .int (9 : Int32)]) (rest := []) ⟨hx, hb, hml, hown, hts⟩ (c_X4_pair l yy a u30 (6942 : Int32) (34 : Int32) (9 : Int32) (⟨284, by decide, hqu30⟩) G H.size) (cwV 3 hts gX4_others_X4_pair rfl rfl rfl (by decide +kernel) ⟨Nat.le_of_ble_eq_true rfl, Nat.le_of_ble_eq_true rfl⟩) (g_preV eTrue_bl hK hE hP hD hS hA 0 rfl rfl) rfl rfl hl.1 rfl (lv_room (Nat.le_of_ble_eq_true rfl)) dX4_others_288 ⟨Nat.le_of_ble_eq_true rfl, Nat.le_of_ble_eq_true rfl⟩) hD hS hA (fun H locs hP hD hS => ?_)
  obtain ⟨u31, eu31⟩ : ∃ z, z = f_X4_pair u30 (6942 : Int32) (34 : Int32) (9 : Int32) := ⟨_, rfl⟩
  have hP : va_P G vwCl (wM yy a u31) H := by rw [eu31]; exact hP
  have hD : va_D A (wM yy a u31) := by rw [eu31]; exact hD
  have hqu31 : m_ct u31 = nI 286 := by rw [eu31]; exact ct_pair _ _ _ hqu30
  refine lv_aload_n hx hb dX4_others_291 rfl (lv_at hl 0 rfl) ?_
  refine lv_ldc hx hb hown (hts (.constant RX4 139 (324262)) (by decide +kernel)) dX4_others_292 ?_
  refine lv_bipush (v := 32) hx hb dX4_others_294 (by decide) ?_
  refine lv_bipush (v := 9) hx hb dX4_others_296 (by decide) ?_
  refine g_v (va_runV (As := [.int (324262 : Int32), .int (32 : Int32), .int (9 : Int32)]) (rest := []) ⟨hx, hb, hml, hown, hts⟩ (c_X4_pair l yy a u31 (324262 : Int32) (32 : Int32) (9 : Int32) (⟨286, by decide, hqu31⟩) G H.size) (cwV 3 hts gX4_others_X4_pair rfl rfl rfl (by decide +kernel) ⟨Nat.le_of_ble_eq_true rfl, Nat.le_of_ble_eq_true rfl⟩) (g_preV eTrue_bl hK hE hP hD hS hA 0 rfl rfl) rfl rfl hl.1 rfl (lv_room (Nat.le_of_ble_eq_true rfl)) dX4_others_298 ⟨Nat.le_of_ble_eq_true rfl, Nat.le_of_ble_eq_true rfl⟩) hD hS hA (fun H locs hP hD hS => ?_)
  obtain ⟨u32, eu32⟩ : ∃ z, z = f_X4_pair u31 (324262 : Int32) (32 : Int32) (9 : Int32) := ⟨_, rfl⟩
  have hP : va_P G vwCl (wM yy a u32) H := by rw [eu32]; exact hP
  have hD : va_D A (wM yy a u32) := by rw [eu32]; exact hD
  have hqu32 : m_ct u32 = nI 288 := by rw [eu32]; exact ct_pair _ _ _ hqu31
  refine lv_aload_n hx hb dX4_others_301 rfl (lv_at hl 0 rfl) ?_
  refine lv_ldc hx hb hown (hts (.constant RX4 140 (7096672)) (by decide +kernel)) dX4_others_302 ?_
  refine lv_bipush (v := 36) hx hb dX4_others_304 (by decide) ?_
  refine lv_bipush (v := 9) hx hb dX4_others_306 (by decide) ?_
  refine g_v (va_runV (As := [.int (7096672 : Int32), .int (36 : Int32), .int (9 : Int32)]) (rest := []) ⟨hx, hb, hml, hown, hts⟩ (c_X4_pair l yy a u32 (7096672 : Int32) (36 : Int32) (9 : Int32) (⟨288, by decide, hqu32⟩) G H.size) (cwV 3 hts gX4_others_X4_pair rfl rfl rfl (by decide +kernel) ⟨Nat.le_of_ble_eq_true rfl, Nat.le_of_ble_eq_true rfl⟩) (g_preV eTrue_bl hK hE hP hD hS hA 0 rfl rfl) rfl rfl hl.1 rfl (lv_room (Nat.le_of_ble_eq_true rfl)) dX4_others_308 ⟨Nat.le_of_ble_eq_true rfl, Nat.le_of_ble_eq_true rfl⟩) hD hS hA (fun H locs hP hD hS => ?_)
  obtain ⟨u33, eu33⟩ : ∃ z, z = f_X4_pair u32 (7096672 : Int32) (36 : Int32) (9 : Int32) := ⟨_, rfl⟩
  have hP : va_P G vwCl (wM yy a u33) H := by rw [eu33]; exact hP
  have hD : va_D A (wM yy a u33) := by rw [eu33]; exact hD
  have hqu33 : m_ct u33 = nI 290 := by rw [eu33]; exact ct_pair _ _ _ hqu32
  refine lv_aload_n hx hb dX4_others_311 rfl (lv_at hl 0 rfl) ?_
  refine lv_sipush (v := 3054) hx hb dX4_others_312 (by decide) ?_
  refine lv_bipush (v := 38) hx hb dX4_others_315 (by decide) ?_
  refine lv_bipush (v := 9) hx hb dX4_others_317 (by decide) ?_
  refine g_v (va_runV (As := [.int (3054 : Int32), .int (38 : Int32), .int (9 : Int32)]) (rest := []) ⟨hx, hb, hml, hown, hts⟩ (c_X4_pair l yy a u33 (3054 : Int32) (38 : Int32) (9 : Int32) (⟨290, by decide, hqu33⟩) G H.size) (cwV 3 hts gX4_others_X4_pair rfl rfl rfl (by decide +kernel) ⟨Nat.le_of_ble_eq_true rfl, Nat.le_of_ble_eq_true rfl⟩) (g_preV eTrue_bl hK hE hP hD hS hA 0 rfl rfl) rfl rfl hl.1 rfl (lv_room (Nat.le_of_ble_eq_true rfl)) dX4_others_319 ⟨Nat.le_of_ble_eq_true rfl, Nat.le_of_ble_eq_true rfl⟩) hD hS hA (fun H locs hP hD hS => ?_)
  obtain ⟨u34, eu34⟩ : ∃ z, z = f_X4_pair u33 (3054 : Int32) (38 : Int32) (9 : Int32) := ⟨_, rfl⟩
  have hP : va_P G vwCl (wM yy a u34) H := by rw [eu34]; exact hP
  have hD : va_D A (wM yy a u34) := by rw [eu34]; exact hD
  have hqu34 : m_ct u34 = nI 292 := by rw [eu34]; exact ct_pair _ _ _ hqu33
  refine lv_aload_n hx hb dX4_others_322 rfl (lv_at hl 0 rfl) ?_
  refine lv_ldc hx hb hown (hts (.constant RX4 141 (10815598)) (by decide +kernel)) dX4_others_323 ?_
  refine lv_bipush (v := 24) hx hb dX4_others_325 (by decide) ?_
  refine lv_bipush (v := 9) hx hb dX4_others_327 (by decide) ?_
  refine g_v (va_runV (As := [.int (10815598 : Int32), .int (24 : Int32), .int (9 : Int32)]) (rest := []) ⟨hx, hb, hml, hown, hts⟩ (c_X4_pair l yy a u34 (10815598 : Int32) (24 : Int32) (9 : Int32) (⟨292, by decide, hqu34⟩) G H.size) (cwV 3 hts gX4_others_X4_pair rfl rfl rfl (by decide +kernel) ⟨Nat.le_of_ble_eq_true rfl, Nat.le_of_ble_eq_true rfl⟩) (g_preV eTrue_bl hK hE hP hD hS hA 0 rfl rfl) rfl rfl hl.1 rfl (lv_room (Nat.le_of_ble_eq_true rfl)) dX4_others_329 ⟨Nat.le_of_ble_eq_true rfl, Nat.le_of_ble_eq_true rfl⟩) hD hS hA (fun H locs hP hD hS => ?_)
  obtain ⟨u35, eu35⟩ : ∃ z, z = f_X4_pair u34 (10815598 : Int32) (24 : Int32) (9 : Int32) := ⟨_, rfl⟩
  have hP : va_P G vwCl (wM yy a u35) H := by rw [eu35]; exact hP
  have hD : va_D A (wM yy a u35) := by rw [eu35]; exact hD
  have hqu35 : m_ct u35 = nI 294 := by rw [eu35]; exact ct_pair _ _ _ hqu34
  refine lv_aload_n hx hb dX4_others_332 rfl (lv_at hl 0 rfl) ?_
  refine lv_ldc hx hb hown (hts (.constant RX4 142 (350345)) (by decide +kernel)) dX4_others_333 ?_
  refine lv_bipush (v := 28) hx hb dX4_others_335 (by decide) ?_
  refine lv_bipush (v := 9) hx hb dX4_others_337 (by decide) ?_
  refine g_v (va_runV (As := [.int (350345 : Int32), .int (28 : Int32), .int (9 : Int32)]) (rest := []) ⟨hx, hb, hml, hown, hts⟩ (c_X4_pair l yy a u35 (350345 : Int32) (28 : Int32) (9 : Int32) (⟨294, by decide, hqu35⟩) G H.size) (cwV 3 hts gX4_others_X4_pair rfl rfl rfl (by decide +kernel) ⟨Nat.le_of_ble_eq_true rfl, Nat.le_of_ble_eq_true rfl⟩) (g_preV eTrue_bl hK hE hP hD hS hA 0 rfl rfl) rfl rfl hl.1 rfl (lv_room (Nat.le_of_ble_eq_true rfl)) dX4_others_339 ⟨Nat.le_of_ble_eq_true rfl, Nat.le_of_ble_eq_true rfl⟩) hD hS hA (fun H locs hP hD hS => ?_)
  obtain ⟨u36, eu36⟩ : ∃ z, z = f_X4_pair u35 (350345 : Int32) (28 : Int32) (9 : Int32) := ⟨_, rfl⟩
  have hP : va_P G vwCl (wM yy a u36) H := by rw [eu36]; exact hP
  have hD : va_D A (wM yy a u36) := by rw [eu36]; exact hD
  have hqu36 : m_ct u36 = nI 296 := by rw [eu36]; exact ct_pair _ _ _ hqu35
  refine lv_aload_n hx hb dX4_others_342 rfl (lv_at hl 0 rfl) ?_
  refine lv_ldc hx hb hown (hts (.constant RX4 143 (70351)) (by decide +kernel)) dX4_others_343 ?_
  refine lv_bipush (v := 48) hx hb dX4_others_345 (by decide) ?_
  refine lv_bipush (v := 9) hx hb dX4_others_347 (by decide) ?_
  refine g_v (va_runV (As := [.int (70351 : Int32), .int (48 : Int32), .int (9 : Int32)]) (rest := []) ⟨hx, hb, hml, hown, hts⟩ (c_X4_pair l yy a u36 (70351 : Int32) (48 : Int32) (9 : Int32) (⟨296, by decide, hqu36⟩) G H.size) (cwV 3 hts gX4_others_X4_pair rfl rfl rfl (by decide +kernel) ⟨Nat.le_of_ble_eq_true rfl, Nat.le_of_ble_eq_true rfl⟩) (g_preV eTrue_bl hK hE hP hD hS hA 0 rfl rfl) rfl rfl hl.1 rfl (lv_room (Nat.le_of_ble_eq_true rfl)) dX4_others_349 ⟨Nat.le_of_ble_eq_true rfl, Nat.le_of_ble_eq_true rfl⟩) hD hS hA (fun H locs hP hD hS => ?_)
  obtain ⟨u37, eu37⟩ : ∃ z, z = f_X4_pair u36 (70351 : Int32) (48 : Int32) (9 : Int32) := ⟨_, rfl⟩
  have hP : va_P G vwCl (wM yy a u37) H := by rw [eu37]; exact hP
  have hD : va_D A (wM yy a u37) := by rw [eu37]; exact hD
  have hqu37 : m_ct u37 = nI 298 := by rw [eu37]; exact ct_pair _ _ _ hqu36
  refine lv_aload_n hx hb dX4_others_352 rfl (lv_at hl 0 rfl) ?_
  refine lv_sipush (v := 14079) hx hb dX4_others_353 (by decide) ?_
  refine lv_bipush (v := 56) hx hb dX4_others_356 (by decide) ?_
  refine lv_bipush (v := 9) hx hb dX4_others_358 (by decide) ?_
  refine g_v (va_runV (As := [.int (14079 : Int32), .int (56 : Int32), .int (9 : Int32)]) (rest := []) ⟨hx, hb, hml, hown, hts⟩ (c_X4_pair l yy a u37 (14079 : Int32) (56 : Int32) (9 : Int32) (⟨298, by decide, hqu37⟩) G H.size) (cwV 3 hts gX4_others_X4_pair rfl rfl rfl (by decide +kernel) ⟨Nat.le_of_ble_eq_true rfl, Nat.le_of_ble_eq_true rfl⟩) (g_preV eTrue_bl hK hE hP hD hS hA 0 rfl rfl) rfl rfl hl.1 rfl (lv_room (Nat.le_of_ble_eq_true rfl)) dX4_others_360 ⟨Nat.le_of_ble_eq_true rfl, Nat.le_of_ble_eq_true rfl⟩) hD hS hA (fun H locs hP hD hS => ?_)
  obtain ⟨u38, eu38⟩ : ∃ z, z = f_X4_pair u37 (14079 : Int32) (56 : Int32) (9 : Int32) := ⟨_, rfl⟩
  have hP : va_P G vwCl (wM yy a u38) H := by rw [eu38]; exact hP
  have hD : va_D A (wM yy a u38) := by rw [eu38]; exact hD
  have hqu38 : m_ct u38 = nI 300 := by rw [eu38]; exact ct_pair _ _ _ hqu37
  refine lv_aload_n hx hb dX4_others_363 rfl (lv_at hl 0 rfl) ?_
  refine lv_ldc hx hb hown (hts (.constant RX4 144 (380154)) (by decide +kernel)) dX4_others_364 ?_
  refine lv_bipush (v := 58) hx hb dX4_others_366 (by decide) ?_
  refine lv_bipush (v := 9) hx hb dX4_others_368 (by decide) ?_
  refine g_v (va_runV (As := [.int (380154 : Int32), .int (58 : Int32), .int (9 : Int32)]) (rest := []) ⟨hx, hb, hml, hown, hts⟩ (c_X4_pair l yy a u38 (380154 : Int32) (58 : Int32) (9 : Int32) (⟨300, by decide, hqu38⟩) G H.size) (cwV 3 hts gX4_others_X4_pair rfl rfl rfl (by decide +kernel) ⟨Nat.le_of_ble_eq_true rfl, Nat.le_of_ble_eq_true rfl⟩) (g_preV eTrue_bl hK hE hP hD hS hA 0 rfl rfl) rfl rfl hl.1 rfl (lv_room (Nat.le_of_ble_eq_true rfl)) dX4_others_370 ⟨Nat.le_of_ble_eq_true rfl, Nat.le_of_ble_eq_true rfl⟩) hD hS hA (fun H locs hP hD hS => ?_)
  obtain ⟨u39, eu39⟩ : ∃ z, z = f_X4_pair u38 (380154 : Int32) (58 : Int32) (9 : Int32) := ⟨_, rfl⟩
  have hP : va_P G vwCl (wM yy a u39) H := by rw [eu39]; exact hP
  have hD : va_D A (wM yy a u39) := by rw [eu39]; exact hD
  have hqu39 : m_ct u39 = nI 302 := by rw [eu39]; exact ct_pair _ _ _ hqu38
  refine lv_aload_n hx hb dX4_others_373 rfl (lv_at hl 0 rfl) ?_
  refine lv_sipush (v := 14085) hx hb dX4_others_374 (by decide) ?_
  refine lv_bipush (v := 60) hx hb dX4_others_377 (by decide) ?_
  refine lv_bipush (v := 9) hx hb dX4_others_379 (by decide) ?_
  refine g_v (va_runV (As := [.int (14085 : Int32), .int (60 : Int32), .int (9 : Int32)]) (rest := []) ⟨hx, hb, hml, hown, hts⟩ (c_X4_pair l yy a u39 (14085 : Int32) (60 : Int32) (9 : Int32) (⟨302, by decide, hqu39⟩) G H.size) (cwV 3 hts gX4_others_X4_pair rfl rfl rfl (by decide +kernel) ⟨Nat.le_of_ble_eq_true rfl, Nat.le_of_ble_eq_true rfl⟩) (g_preV eTrue_bl hK hE hP hD hS hA 0 rfl rfl) rfl rfl hl.1 rfl (lv_room (Nat.le_of_ble_eq_true rfl)) dX4_others_381 ⟨Nat.le_of_ble_eq_true rfl, Nat.le_of_ble_eq_true rfl⟩) hD hS hA (fun H locs hP hD hS => ?_)
  obtain ⟨u40, eu40⟩ : ∃ z, z = f_X4_pair u39 (14085 : Int32) (60 : Int32) (9 : Int32) := ⟨_, rfl⟩
  have hP : va_P G vwCl (wM yy a u40) H := by rw [eu40]; exact hP
  have hD : va_D A (wM yy a u40) := by rw [eu40]; exact hD
  have hqu40 : m_ct u40 = nI 304 := by rw [eu40]; exact ct_pair _ _ _ hqu39
  refine lv_aload_n hx hb dX4_others_384 rfl (lv_at hl 0 rfl) ?_
  refine lv_ldc hx hb hown (hts (.constant RX4 145 (380316)) (by decide +kernel)) dX4_others_385 ?_
  refine lv_bipush (v := 62) hx hb dX4_others_387 (by decide) ?_
  refine lv_bipush (v := 9) hx hb dX4_others_389 (by decide) ?_
  refine g_v (va_runV (As := [.int (380316 : Int32), .int (62 : Int32), .int (9 : Int32)]) (rest := []) ⟨hx, hb, hml, hown, hts⟩ (c_X4_pair l yy a u40 (380316 : Int32) (62 : Int32) (9 : Int32) (⟨304, by decide, hqu40⟩) G H.size) (cwV 3 hts gX4_others_X4_pair rfl rfl rfl (by decide +kernel) ⟨Nat.le_of_ble_eq_true rfl, Nat.le_of_ble_eq_true rfl⟩) (g_preV eTrue_bl hK hE hP hD hS hA 0 rfl rfl) rfl rfl hl.1 rfl (lv_room (Nat.le_of_ble_eq_true rfl)) dX4_others_391 ⟨Nat.le_of_ble_eq_true rfl, Nat.le_of_ble_eq_true rfl⟩) hD hS hA (fun H locs hP hD hS => ?_)
  obtain ⟨u41, eu41⟩ : ∃ z, z = f_X4_pair u40 (380316 : Int32) (62 : Int32) (9 : Int32) := ⟨_, rfl⟩
  have hP : va_P G vwCl (wM yy a u41) H := by rw [eu41]; exact hP
  have hD : va_D A (wM yy a u41) := by rw [eu41]; exact hD
  have hqu41 : m_ct u41 = nI 306 := by rw [eu41]; exact ct_pair _ _ _ hqu40
  refine lv_aload_n hx hb dX4_others_394 rfl (lv_at hl 0 rfl) ?_
  refine lv_ldc hx hb hown (hts (.constant RX4 146 (267413)) (by decide +kernel)) dX4_others_395 ?_
  refine lv_sipush (v := 192) hx hb dX4_others_397 (by decide) ?_
  refine lv_bipush (v := 9) hx hb dX4_others_400 (by decide) ?_
  refine g_v (va_runV (As := [.int (267413 : Int32), .int (192 : Int32), .int (9 : Int32)]) (rest := []) ⟨hx, hb, hml, hown, hts⟩ (c_X4_pair l yy a u41 (267413 : Int32) (192 : Int32) (9 : Int32) (⟨306, by decide, hqu41⟩) G H.size) (cwV 3 hts gX4_others_X4_pair rfl rfl rfl (by decide +kernel) ⟨Nat.le_of_ble_eq_true rfl, Nat.le_of_ble_eq_true rfl⟩) (g_preV eTrue_bl hK hE hP hD hS hA 0 rfl rfl) rfl rfl hl.1 rfl (lv_room (Nat.le_of_ble_eq_true rfl)) dX4_others_402 ⟨Nat.le_of_ble_eq_true rfl, Nat.le_of_ble_eq_true rfl⟩) hD hS hA (fun H locs hP hD hS => ?_)
  obtain ⟨u42, eu42⟩ : ∃ z, z = f_X4_pair u41 (267413 : Int32) (192 : Int32) (9 : Int32) := ⟨_, rfl⟩
  have hP : va_P G vwCl (wM yy a u42) H := by rw [eu42]; exact hP
  have hD : va_D A (wM yy a u42) := by rw [eu42]; exact hD
  have hqu42 : m_ct u42 = nI 308 := by rw [eu42]; exact ct_pair _ _ _ hqu41
  refine lv_aload_n hx hb dX4_others_405 rfl (lv_at hl 0 rfl) ?_
  refine lv_sipush (v := 4068) hx hb dX4_others_406 (by decide) ?_
  refine lv_sipush (v := 198) hx hb dX4_others_409 (by decide) ?_
  refine lv_bipush (v := 9) hx hb dX4_others_412 (by decide) ?_
  refine g_v (va_runV (As := [.int (4068 : Int32), .int (198 : Int32), .int (9 : Int32)]) (rest := []) ⟨hx, hb, hml, hown, hts⟩ (c_X4_pair l yy a u42 (4068 : Int32) (198 : Int32) (9 : Int32) (⟨308, by decide, hqu42⟩) G H.size) (cwV 3 hts gX4_others_X4_pair rfl rfl rfl (by decide +kernel) ⟨Nat.le_of_ble_eq_true rfl, Nat.le_of_ble_eq_true rfl⟩) (g_preV eTrue_bl hK hE hP hD hS hA 0 rfl rfl) rfl rfl hl.1 rfl (lv_room (Nat.le_of_ble_eq_true rfl)) dX4_others_414 ⟨Nat.le_of_ble_eq_true rfl, Nat.le_of_ble_eq_true rfl⟩) hD hS hA (fun H locs hP hD hS => ?_)
  obtain ⟨u43, eu43⟩ : ∃ z, z = f_X4_pair u42 (4068 : Int32) (198 : Int32) (9 : Int32) := ⟨_, rfl⟩
  have hP : va_P G vwCl (wM yy a u43) H := by rw [eu43]; exact hP
  have hD : va_D A (wM yy a u43) := by rw [eu43]; exact hD
  have hqu43 : m_ct u43 = nI 310 := by rw [eu43]; exact ct_pair _ _ _ hqu42
  refine lv_aload_n hx hb dX4_others_417 rfl (lv_at hl 0 rfl) ?_
  refine lv_sipush (v := 1704) hx hb dX4_others_418 (by decide) ?_
  refine lv_sipush (v := 202) hx hb dX4_others_421 (by decide) ?_
  refine lv_bipush (v := 9) hx hb dX4_others_424 (by decide) ?_
  refine g_v (va_runV (As := [.int (1704 : Int32), .int (202 : Int32), .int (9 : Int32)]) (rest := []) ⟨hx, hb, hml, hown, hts⟩ (c_X4_pair l yy a u43 (1704 : Int32) (202 : Int32) (9 : Int32) (⟨310, by decide, hqu43⟩) G H.size) (cwV 3 hts gX4_others_X4_pair rfl rfl rfl (by decide +kernel) ⟨Nat.le_of_ble_eq_true rfl, Nat.le_of_ble_eq_true rfl⟩) (g_preV eTrue_bl hK hE hP hD hS hA 0 rfl rfl) rfl rfl hl.1 rfl (lv_room (Nat.le_of_ble_eq_true rfl)) dX4_others_426 ⟨Nat.le_of_ble_eq_true rfl, Nat.le_of_ble_eq_true rfl⟩) hD hS hA (fun H locs hP hD hS => ?_)
  obtain ⟨u44, eu44⟩ : ∃ z, z = f_X4_pair u43 (1704 : Int32) (202 : Int32) (9 : Int32) := ⟨_, rfl⟩
  have hP : va_P G vwCl (wM yy a u44) H := by rw [eu44]; exact hP
  have hD : va_D A (wM yy a u44) := by rw [eu44]; exact hD
  have hqu44 : m_ct u44 = nI 312 := by rw [eu44]; exact ct_pair _ _ _ hqu43
  refine lv_aload_n hx hb dX4_others_429 rfl (lv_at hl 0 rfl) ?_
  refine lv_ldc hx hb hown (hts (.constant RX4 147 (46486)) (by decide +kernel)) dX4_others_430 ?_
  refine lv_sipush (v := 218) hx hb dX4_others_432 (by decide) ?_
  refine lv_bipush (v := 9) hx hb dX4_others_435 (by decide) ?_
  refine g_v (va_runV (As := [.int (46486 : Int32), .int (218 : Int32), .int (9 : Int32)]) (rest := []) ⟨hx, hb, hml, hown, hts⟩ (c_X4_pair l yy a u44 (46486 : Int32) (218 : Int32) (9 : Int32) (⟨312, by decide, hqu44⟩) G H.size) (cwV 3 hts gX4_others_X4_pair rfl rfl rfl (by decide +kernel) ⟨Nat.le_of_ble_eq_true rfl, Nat.le_of_ble_eq_true rfl⟩) (g_preV eTrue_bl hK hE hP hD hS hA 0 rfl rfl) rfl rfl hl.1 rfl (lv_room (Nat.le_of_ble_eq_true rfl)) dX4_others_437 ⟨Nat.le_of_ble_eq_true rfl, Nat.le_of_ble_eq_true rfl⟩) hD hS hA (fun H locs hP hD hS => ?_)
  obtain ⟨u45, eu45⟩ : ∃ z, z = f_X4_pair u44 (46486 : Int32) (218 : Int32) (9 : Int32) := ⟨_, rfl⟩
  have hP : va_P G vwCl (wM yy a u45) H := by rw [eu45]; exact hP
  have hD : va_D A (wM yy a u45) := by rw [eu45]; exact hD
  have hqu45 : m_ct u45 = nI 314 := by rw [eu45]; exact ct_pair _ _ _ hqu44
  refine lv_aload_n hx hb dX4_others_440 rfl (lv_at hl 0 rfl) ?_
  refine lv_ldc hx hb hown (hts (.constant RX4 148 (321581)) (by decide +kernel)) dX4_others_441 ?_
  refine lv_sipush (v := 216) hx hb dX4_others_443 (by decide) ?_
  refine lv_bipush (v := 9) hx hb dX4_others_446 (by decide) ?_
  refine g_v (va_runV (As := [.int (321581 : Int32), .int (216 : Int32), .int (9 : Int32)]) (rest := []) ⟨hx, hb, hml, hown, hts⟩ (c_X4_pair l yy a u45 (321581 : Int32) (216 : Int32) (9 : Int32) (⟨314, by decide, hqu45⟩) G H.size) (cwV 3 hts gX4_others_X4_pair rfl rfl rfl (by decide +kernel) ⟨Nat.le_of_ble_eq_true rfl, Nat.le_of_ble_eq_true rfl⟩) (g_preV eTrue_bl hK hE hP hD hS hA 0 rfl rfl) rfl rfl hl.1 rfl (lv_room (Nat.le_of_ble_eq_true rfl)) dX4_others_448 ⟨Nat.le_of_ble_eq_true rfl, Nat.le_of_ble_eq_true rfl⟩) hD hS hA (fun H locs hP hD hS => ?_)
  obtain ⟨u46, eu46⟩ : ∃ z, z = f_X4_pair u45 (321581 : Int32) (216 : Int32) (9 : Int32) := ⟨_, rfl⟩
  have hP : va_P G vwCl (wM yy a u46) H := by rw [eu46]; exact hP
  have hD : va_D A (wM yy a u46) := by rw [eu46]; exact hD
  have hqu46 : m_ct u46 = nI 316 := by rw [eu46]; exact ct_pair _ _ _ hqu45
  exact g_vret (by have eu46 := eu46.symm; subst eu46; have eu45 := eu45.symm; subst eu45; have eu44 := eu44.symm; subst eu44; have eu43 := eu43.symm; subst eu43; have eu42 := eu42.symm; subst eu42; have eu41 := eu41.symm; subst eu41; have eu40 := eu40.symm; subst eu40; have eu39 := eu39.symm; subst eu39; have eu38 := eu38.symm; subst eu38; have eu37 := eu37.symm; subst eu37; have eu36 := eu36.symm; subst eu36; have eu35 := eu35.symm; subst eu35; have eu34 := eu34.symm; subst eu34; have eu33 := eu33.symm; subst eu33; have eu32 := eu32.symm; subst eu32; have eu31 := eu31.symm; subst eu31; have eu30 := eu30.symm; subst eu30; have eu29 := eu29.symm; subst eu29; have eu28 := eu28.symm; subst eu28; have eu27 := eu27.symm; subst eu27; have eu26 := eu26.symm; subst eu26; have eu25 := eu25.symm; subst eu25; have eu24 := eu24.symm; subst eu24; have eu23 := eu23.symm; subst eu23; have eu22 := eu22.symm; subst eu22; have eu21 := eu21.symm; subst eu21; have eu20 := eu20.symm; subst eu20; have eu19 := eu19.symm; subst eu19; have eu18 := eu18.symm; subst eu18; have eu17 := eu17.symm; subst eu17; have eu16 := eu16.symm; subst eu16; have eu15 := eu15.symm; subst eu15; have eu14 := eu14.symm; subst eu14; have eu13 := eu13.symm; subst eu13; have eu12 := eu12.symm; subst eu12; have eu11 := eu11.symm; subst eu11; have eu10 := eu10.symm; subst eu10; have eu9 := eu9.symm; subst eu9; have eu8 := eu8.symm; subst eu8; have eu7 := eu7.symm; subst eu7; have eu6 := eu6.symm; subst eu6; have eu5 := eu5.symm; subst eu5; have eu4 := eu4.symm; subst eu4; have eu3 := eu3.symm; subst eu3; have eu2 := eu2.symm; subst eu2; have eu1 := eu1.symm; subst eu1; exact rfl) hx hb hr hP hD hS hlocks dX4_others_451
