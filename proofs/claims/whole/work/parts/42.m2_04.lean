def f_X4_low (u : MS) (p0 : Int32) (p1 : Int32) (p2 : Int32) (p3 : Int32) : Int32 × MS :=
  if p0 = (0 : Int32) then
    let v101 : Int32 := (f_X4_trap u p1 p2 p3).1;
    let u102 : MS := (f_X4_trap u p1 p2 p3).2;
    (v101, u102)
  else
    if (24 : Int32) ≤ p0 then
      let v3 : Int64 := m_g u p2.toNatClampNeg;
      let v4 : Int64 := f_X4_number u p0 p3;
      let z7 : Int64 × MS := (if (p0 &&& (254 : Int32)) = (24 : Int32) then let v10 : Int64 := v3 * v4; let z13 : Int32 := (if (f_X4_upper v3 v4) = (jlshr v10 (63 : Int32)) then (0 : Int32) else (1 : Int32)); let v12 : Int32 := z13; let u15 : MS := f_X4_over u v12; (v10, u15) else if (p0 &&& (254 : Int32)) = (26 : Int32) then let v17 : Int64 := v3 * v4; let v18 : Int64 := ((f_X4_upper v3 v4) + ((jlshr v3 (63 : Int32)) &&& v4)) + ((jlshr v4 (63 : Int32)) &&& v3); let u19 : MS := sm_sp u (vp_updL (m_sp u) (3 : Int32).toNatClampNeg v18); (v17, u19) else if (p0 &&& (254 : Int32)) = (28 : Int32) then let v21 : Int64 := (f_X4_quotient u v3 v4).1; let u22 : MS := (f_X4_quotient u v3 v4).2; (v21, u22) else if (p0 &&& (254 : Int32)) = (30 : Int32) then let v24 : Int64 := (f_X4_quotientOf u v3 v4).1; let u25 : MS := (f_X4_quotientOf u v3 v4).2; (v24, u25) else if (p0 &&& (254 : Int32)) = (32 : Int32) then let v27 : Int64 := v3 + v4; let z30 : Int32 := (if (0 : Int64) ≤ ((v3 ^^^ v27) &&& (v4 ^^^ v27)) then (0 : Int32) else (1 : Int32)); let v29 : Int32 := z30; let u32 : MS := f_X4_over u v29; (v27, u32) else if (p0 &&& (254 : Int32)) = (34 : Int32) then let v34 : Int64 := v3 + v4; (v34, u) else if (p0 &&& (254 : Int32)) = (36 : Int32) then let v36 : Int64 := v3 - v4; let z39 : Int32 := (if (0 : Int64) ≤ ((v3 ^^^ v4) &&& (v3 ^^^ v36)) then (0 : Int32) else (1 : Int32)); let v38 : Int32 := z39; let u41 : MS := f_X4_over u v38; (v36, u41) else if (p0 &&& (254 : Int32)) = (38 : Int32) then let v43 : Int64 := v3 - v4; (v43, u) else if (p0 &&& (254 : Int32)) = (40 : Int32) then let v45 : Int64 := (v3 * (2 : Int64)) + v4; (v45, u) else if (p0 &&& (254 : Int32)) = (42 : Int32) then let v47 : Int64 := (v3 * (4 : Int64)) + v4; (v47, u) else if (p0 &&& (254 : Int32)) = (44 : Int32) then let v49 : Int64 := (v3 * (8 : Int64)) + v4; (v49, u) else if (p0 &&& (254 : Int32)) = (46 : Int32) then let v51 : Int64 := (v3 * (16 : Int64)) + v4; (v51, u) else if (p0 &&& (254 : Int32)) = (48 : Int32) then let z55 : Int64 := (if v4 ≤ v3 then if v3 = v4 then (0 : Int64) else (1 : Int64) else (-1 : Int64)); let v54 : Int64 := z55; (v54, u) else if (p0 &&& (254 : Int32)) = (50 : Int32) then let z61 : Int64 := (if (f_X4_above v4 v3) = (0 : Int32) then if v3 = v4 then (0 : Int64) else (1 : Int64) else (-1 : Int64)); let v60 : Int64 := z61; (v60, u) else if (p0 &&& (254 : Int32)) = (52 : Int32) then let v65 : Int64 := p2.toInt64 - v4; let z68 : Int32 := (if (0 : Int64) ≤ ((p2.toInt64 ^^^ v4) &&& (p2.toInt64 ^^^ v65)) then (0 : Int32) else (1 : Int32)); let v67 : Int32 := z68; let u70 : MS := f_X4_over u v67; (v65, u70) else if (p0 &&& (254 : Int32)) = (54 : Int32) then let v72 : Int64 := p2.toInt64 - v4; (v72, u) else if (p0 &&& (254 : Int32)) = (56 : Int32) then let z76 : Int64 := (if (f_X4_above v4 (63 : Int64)) = (0 : Int32) then jlshl v3 v4.toInt32 else (0 : Int64)); let v75 : Int64 := z76; let z80 : Int32 := (if (f_X4_above v4 (63 : Int64)) = (0 : Int32) then if (jlshr v75 v4.toInt32) = v3 then (0 : Int32) else (1 : Int32) else if v3 = (0 : Int64) then (0 : Int32) else (1 : Int32)); let v79 : Int32 := z80; let u84 : MS := f_X4_over u v79; (v75, u84) else if (p0 &&& (254 : Int32)) = (58 : Int32) then let z88 : Int64 := (if (f_X4_above v4 (63 : Int64)) = (0 : Int32) then jlshl v3 v4.toInt32 else (0 : Int64)); let v87 : Int64 := z88; (v87, u) else if (p0 &&& (254 : Int32)) = (60 : Int32) then let z93 : Int64 := (if (f_X4_above v4 (63 : Int64)) = (0 : Int32) then jlshr v3 v4.toInt32 else jlshr v3 (63 : Int32)); let v92 : Int64 := z93; (v92, u) else let z97 : Int64 := (if (f_X4_above v4 (63 : Int64)) = (0 : Int32) then jlushr v3 v4.toInt32 else (0 : Int64)); let v96 : Int64 := z97; (v96, u));
      let v5 : Int64 := z7.1;
      let u6 : MS := z7.2;
      let v99 : Int32 := (f_X4_done u6 p1 v5).1;
      let u100 : MS := (f_X4_done u6 p1 v5).2;
      (v99, u100)
    else
      ((2 : Int32), u)
abbrev rm_X4_low : Room := { frames := 2, cells := 0, slots := 0, locals := 53 }
set_option maxRecDepth 20000 in
theorem iw_X4_low_X4 : ∀ w ∈ wsX40, w ∈ wsX4_low := by decide +kernel
set_option maxHeartbeats 4000000 in
set_option maxRecDepth 100000 in
theorem c_X4_low (l : Launch) (yy : Nat → ClassId) (a : Nat → Nat) (u : MS) (p0 : Int32) (p1 : Int32) (p2 : Int32) (p3 : Int32) (h0 : vp_in p1 256) (h1 : vp_in p2 256) (h2 : vp_in p3 256) (h3 : 0 ≤ m_on u) : gMi l yX4_low wsX4_low rm_X4_low eTrue (sT yy) (wM yy a) [.ref (a 0), .int p0, .int p1, .int p2, .int p3] u (f_X4_low u p0 p1 p2 p3) := by
  refine gm_ofW (Qc := gQi (wM yy a) (f_X4_low u p0 p1 p2 p3)) (by decide) rfl (Nat.le_of_ble_eq_true rfl) ?_
  intro G A p e s m args below meth c hx hb hr hml hts hown hlocks hK hE hA H locs hP hD hS ls hl
  have hl : lv_has ls 11 [(0, .ref (a 0)), (1, .int p0), (2, .int p1), (3, .int p2), (4, .int p3)] := hl
  refine lv_iload_n hx hb dX4_low_0 rfl (lv_at hl 1 rfl) ?_
  refine lv_if_ne (tgt := 13) hx hb dX4_low_1 (by decide) (fun c1 => ?_) (fun c1 => ?_)
  · refine lv_iload_n hx hb dX4_low_13 rfl (lv_at hl 1 rfl) ?_
    refine lv_bipush (v := 24) hx hb dX4_low_14 (by decide) ?_
    refine lv_icmp_ge (tgt := 21) hx hb dX4_low_16 (by decide) (fun c2 => ?_) (fun c2 => ?_)
    · refine lv_aload_n hx hb dX4_low_21 rfl (lv_at hl 0 rfl) ?_
      refine va_get (D := G) (ci := 2) (v := .ref (a 1)) (C := RX4) (T := TX4) (N := 17) hx hb hts iw_X4_low_X4 hown hK hP 0 rfl rfl 1 (by decide) (hts (.fieldLink RX4 7 "MixBenchModel" "g" "[J") (by decide +kernel)) (fun _ h9 => h9) rfl dX4_low_22 ?_
      refine lv_iload_n hx hb dX4_low_25 rfl (lv_at hl 3 rfl) ?_
      refine va_lald hx hb hK hP 1 0 rfl rfl h1 dX4_low_26 ?_
      refine lv_topl (fun v3 ev3 => ?_)
      refine lv_lstore (lv' := [(5, .long v3), (0, .ref (a 0)), (1, .int p0), (2, .int p1), (3, .int p2), (4, .int p3)]) hx hb dX4_low_27 hl (by decide) rfl (fun ls hl => ?_)
      refine lv_aload_n hx hb dX4_low_29 rfl (lv_at hl 1 rfl) ?_
      refine lv_iload_n hx hb dX4_low_30 rfl (lv_at hl 2 rfl) ?_
      refine lv_iload hx hb dX4_low_31 (lv_at hl 5 rfl) ?_
      refine g_l (va_runV (As := [.int p0, .int p3]) (rest := []) ⟨hx, hb, hml, hown, hts⟩ (c_X4_number l yy a u p0 p3 (h2) G H.size) (cwV 2 hts gX4_low_X4_number rfl rfl rfl (by decide +kernel) ⟨Nat.le_of_ble_eq_true rfl, Nat.le_of_ble_eq_true rfl⟩) (g_preV eTrue_bl hK hE hP hD hS hA 0 rfl rfl) rfl rfl hl.1 rfl (lv_room (Nat.le_of_ble_eq_true rfl)) dX4_low_33 ⟨Nat.le_of_ble_eq_true rfl, Nat.le_of_ble_eq_true rfl⟩) hD hS hA (fun H locs hP hD hS => ?_)
      have hP : va_P G vwCl (wM yy a u) H := hP
      have hD : va_D A (wM yy a u) := hD
      refine lv_topl (fun v4 ev4 => ?_)
      refine lv_lstore (lv' := [(7, .long v4), (5, .long v3), (0, .ref (a 0)), (1, .int p0), (2, .int p1), (3, .int p2), (4, .int p3)]) hx hb dX4_low_36 hl (by decide) rfl (fun ls hl => ?_)
      refine lv_iload_n hx hb dX4_low_38 rfl (lv_at hl 3 rfl) ?_
      refine lv_sipush (v := 254) hx hb dX4_low_39 (by decide) ?_
      refine lv_iand hx hb dX4_low_42 ?_
      obtain ⟨z7, ez7⟩ : ∃ q : Int64 × MS, q = (if (p0 &&& (254 : Int32)) = (24 : Int32) then let v10 : Int64 := v3 * v4; let z13 : Int32 := (if (f_X4_upper v3 v4) = (jlshr v10 (63 : Int32)) then (0 : Int32) else (1 : Int32)); let v12 : Int32 := z13; let u15 : MS := f_X4_over u v12; (v10, u15) else if (p0 &&& (254 : Int32)) = (26 : Int32) then let v17 : Int64 := v3 * v4; let v18 : Int64 := ((f_X4_upper v3 v4) + ((jlshr v3 (63 : Int32)) &&& v4)) + ((jlshr v4 (63 : Int32)) &&& v3); let u19 : MS := sm_sp u (vp_updL (m_sp u) (3 : Int32).toNatClampNeg v18); (v17, u19) else if (p0 &&& (254 : Int32)) = (28 : Int32) then let v21 : Int64 := (f_X4_quotient u v3 v4).1; let u22 : MS := (f_X4_quotient u v3 v4).2; (v21, u22) else if (p0 &&& (254 : Int32)) = (30 : Int32) then let v24 : Int64 := (f_X4_quotientOf u v3 v4).1; let u25 : MS := (f_X4_quotientOf u v3 v4).2; (v24, u25) else if (p0 &&& (254 : Int32)) = (32 : Int32) then let v27 : Int64 := v3 + v4; let z30 : Int32 := (if (0 : Int64) ≤ ((v3 ^^^ v27) &&& (v4 ^^^ v27)) then (0 : Int32) else (1 : Int32)); let v29 : Int32 := z30; let u32 : MS := f_X4_over u v29; (v27, u32) else if (p0 &&& (254 : Int32)) = (34 : Int32) then let v34 : Int64 := v3 + v4; (v34, u) else if (p0 &&& (254 : Int32)) = (36 : Int32) then let v36 : Int64 := v3 - v4; let z39 : Int32 := (if (0 : Int64) ≤ ((v3 ^^^ v4) &&& (v3 ^^^ v36)) then (0 : Int32) else (1 : Int32)); let v38 : Int32 := z39; let u41 : MS := f_X4_over u v38; (v36, u41) else if (p0 &&& (254 : Int32)) = (38 : Int32) then let v43 : Int64 := v3 - v4; (v43, u) else if (p0 &&& (254 : Int32)) = (40 : Int32) then let v45 : Int64 := (v3 * (2 : Int64)) + v4; (v45, u) else if (p0 &&& (254 : Int32)) = (42 : Int32) then let v47 : Int64 := (v3 * (4 : Int64)) + v4; (v47, u) else if (p0 &&& (254 : Int32)) = (44 : Int32) then let v49 : Int64 := (v3 * (8 : Int64)) + v4; (v49, u) else if (p0 &&& (254 : Int32)) = (46 : Int32) then let v51 : Int64 := (v3 * (16 : Int64)) + v4; (v51, u) else if (p0 &&& (254 : Int32)) = (48 : Int32) then let z55 : Int64 := (if v4 ≤ v3 then if v3 = v4 then (0 : Int64) else (1 : Int64) else (-1 : Int64)); let v54 : Int64 := z55; (v54, u) else if (p0 &&& (254 : Int32)) = (50 : Int32) then let z61 : Int64 := (if (f_X4_above v4 v3) = (0 : Int32) then if v3 = v4 then (0 : Int64) else (1 : Int64) else (-1 : Int64)); let v60 : Int64 := z61; (v60, u) else if (p0 &&& (254 : Int32)) = (52 : Int32) then let v65 : Int64 := p2.toInt64 - v4; let z68 : Int32 := (if (0 : Int64) ≤ ((p2.toInt64 ^^^ v4) &&& (p2.toInt64 ^^^ v65)) then (0 : Int32) else (1 : Int32)); let v67 : Int32 := z68; let u70 : MS := f_X4_over u v67; (v65, u70) else if (p0 &&& (254 : Int32)) = (54 : Int32) then let v72 : Int64 := p2.toInt64 - v4; (v72, u) else if (p0 &&& (254 : Int32)) = (56 : Int32) then let z76 : Int64 := (if (f_X4_above v4 (63 : Int64)) = (0 : Int32) then jlshl v3 v4.toInt32 else (0 : Int64)); let v75 : Int64 := z76; let z80 : Int32 := (if (f_X4_above v4 (63 : Int64)) = (0 : Int32) then if (jlshr v75 v4.toInt32) = v3 then (0 : Int32) else (1 : Int32) else if v3 = (0 : Int64) then (0 : Int32) else (1 : Int32)); let v79 : Int32 := z80; let u84 : MS := f_X4_over u v79; (v75, u84) else if (p0 &&& (254 : Int32)) = (58 : Int32) then let z88 : Int64 := (if (f_X4_above v4 (63 : Int64)) = (0 : Int32) then jlshl v3 v4.toInt32 else (0 : Int64)); let v87 : Int64 := z88; (v87, u) else if (p0 &&& (254 : Int32)) = (60 : Int32) then let z93 : Int64 := (if (f_X4_above v4 (63 : Int64)) = (0 : Int32) then jlshr v3 v4.toInt32 else jlshr v3 (63 : Int32)); let v92 : Int64 := z93; (v92, u) else let z97 : Int64 := (if (f_X4_above v4 (63 : Int64)) = (0 : Int32) then jlushr v3 v4.toInt32 else (0 : Int64)); let v96 : Int64 := z97; (v96, u)) := ⟨_, rfl⟩
      have k8 : ∀ (v5 : Int64) (u6 : MS), (v5, u6) = z7 → ∀ (H : Heap) (locs : List Loc), va_P G vwCl (wM yy a u6) H → va_D A (wM yy a u6) → va_S A s.heap H locs → ∀ ls : Array Slot, lv_has ls 11 [(0, .ref (a 0)), (1, .int p0), (2, .int p1), (3, .int p2), (4, .int p3), (5, .long v3), (7, .long v4), (9, .long v5)] → W p l e rm_X4_low s m args below meth c H locs 0 0 (MQ below (gQi (wM yy a) (f_X4_low u p0 p1 p2 p3) G A) args s 0 0 A) (F0 m 715 ls []) := by
        intro v5 u6 jz7 H locs hP hD hS ls hl
        have ev5 : v5 = z7.1 := congrArg (fun q => q.1) jz7
        have eu6 : u6 = z7.2 := congrArg (fun q => q.2) jz7
        refine lv_aload_n hx hb dX4_low_715 rfl (lv_at hl 0 rfl) ?_
        refine lv_iload_n hx hb dX4_low_716 rfl (lv_at hl 2 rfl) ?_
        refine lv_lload hx hb dX4_low_717 (lv_at hl 7 rfl) ?_
        refine g_i (va_runV (As := [.int p1, .long v5]) (rest := []) ⟨hx, hb, hml, hown, hts⟩ (c_X4_done l yy a u6 p1 v5 (h0) G H.size) (cwV 2 hts gX4_low_X4_done rfl rfl rfl (by decide +kernel) ⟨Nat.le_of_ble_eq_true rfl, Nat.le_of_ble_eq_true rfl⟩) (g_preV eTrue_bl hK hE hP hD hS hA 0 rfl rfl) rfl rfl hl.1 rfl (lv_room (Nat.le_of_ble_eq_true rfl)) dX4_low_719 ⟨Nat.le_of_ble_eq_true rfl, Nat.le_of_ble_eq_true rfl⟩) hD hS hA (fun H locs hP hD hS => ?_)
        refine lv_topi (fun v99 ev99 => ?_)
        obtain ⟨u100, eu100⟩ : ∃ z, z = (f_X4_done u6 p1 v5).2 := ⟨_, rfl⟩
        have hP : va_P G vwCl (wM yy a u100) H := by rw [eu100]; exact hP
        have hD : va_D A (wM yy a u100) := by rw [eu100]; exact hD
        exact g_iret (by have eu100 := eu100.symm; subst eu100; have ev99 := ev99.symm; subst ev99; have eu6 := eu6.symm; subst eu6; have ev5 := ev5.symm; subst ev5; have ez7 := ez7.symm; subst ez7; have ev4 := ev4.symm; subst ev4; have ev3 := ev3.symm; subst ev3; exact (if_neg c1).trans ((if_pos c2).trans (rfl))) hx hb hr hP hD hS hlocks dX4_low_722
      by_cases c9 : (p0 &&& (254 : Int32)) = 24
      · refine sw_t hx hb 0 (k := 24) (tgt := 204) dX4_low_43 c9 (by decide) rfl (by decide) ?_
        refine lv_lload hx hb dX4_low_204 (lv_at hl 1 rfl) ?_
        refine lv_lload hx hb dX4_low_206 (lv_at hl 0 rfl) ?_
        refine lv_lmul hx hb dX4_low_208 ?_
        refine lv_topl (fun v10 ev10 => ?_)
        refine lv_lstore (lv' := [(9, .long v10), (7, .long v4), (5, .long v3), (0, .ref (a 0)), (1, .int p0), (2, .int p1), (3, .int p2), (4, .int p3)]) hx hb dX4_low_209 hl (by decide) rfl (fun ls hl => ?_)
        refine lv_aload_n hx hb dX4_low_211 rfl (lv_at hl 3 rfl) ?_
        refine lv_lload hx hb dX4_low_212 (lv_at hl 2 rfl) ?_
        refine lv_lload hx hb dX4_low_214 (lv_at hl 1 rfl) ?_
        refine p_l (W.runS (As := [.long v3, .long v4]) (rest := [.ref (a 0)]) ⟨hx, hb, hml, hown, hts⟩ (c_X4_upper l v3 v4 ) (va_cwS 2 hts gX4_low_X4_upper rfl rfl rfl (by decide +kernel) ⟨Nat.le_of_ble_eq_true rfl, Nat.le_of_ble_eq_true rfl⟩) p_preT rfl rfl hl.1 rfl (lv_room (Nat.le_of_ble_eq_true rfl)) dX4_low_216 ⟨Nat.le_of_ble_eq_true rfl, Nat.le_of_ble_eq_true rfl⟩) ?_
        refine lv_lload hx hb dX4_low_219 (lv_at hl 0 rfl) ?_
        refine lv_bipush (v := 63) hx hb dX4_low_221 (by decide) ?_
        refine lv_lshr (v := jlshr v10 (63 : Int32)) hx hb dX4_low_223 rfl ?_
        obtain ⟨z13, ez13⟩ : ∃ q : Int32, q = (if (f_X4_upper v3 v4) = (jlshr v10 (63 : Int32)) then (0 : Int32) else (1 : Int32)) := ⟨_, rfl⟩
        have k14 : ∀ (v12 : Int32), v12 = z13 → ∀ (H : Heap) (locs : List Loc), va_P G vwCl (wM yy a u) H → va_D A (wM yy a u) → va_S A s.heap H locs → ∀ ls : Array Slot, lv_has ls 11 [(0, .ref (a 0)), (1, .int p0), (2, .int p1), (3, .int p2), (4, .int p3), (5, .long v3), (7, .long v4), (9, .long v10)] → W p l e rm_X4_low s m args below meth c H locs 0 0 (MQ below (gQi (wM yy a) (f_X4_low u p0 p1 p2 p3) G A) args s 0 0 A) (F0 m 233 ls [.int v12, .ref (a 0)]) := by
          intro v12 jz13 H locs hP hD hS ls hl
          have ev12 : v12 = z13 := jz13
          refine g_v (va_runV (As := [.int v12]) (rest := []) ⟨hx, hb, hml, hown, hts⟩ (c_X4_over l yy a u v12  G H.size) (cwV 1 hts gX4_low_X4_over rfl rfl rfl (by decide +kernel) ⟨Nat.le_of_ble_eq_true rfl, Nat.le_of_ble_eq_true rfl⟩) (g_preV eTrue_bl hK hE hP hD hS hA 0 rfl rfl) rfl rfl hl.1 rfl (lv_room (Nat.le_of_ble_eq_true rfl)) dX4_low_233 ⟨Nat.le_of_ble_eq_true rfl, Nat.le_of_ble_eq_true rfl⟩) hD hS hA (fun H locs hP hD hS => ?_)
          obtain ⟨u15, eu15⟩ : ∃ z, z = f_X4_over u v12 := ⟨_, rfl⟩
          have hP : va_P G vwCl (wM yy a u15) H := by rw [eu15]; exact hP
          have hD : va_D A (wM yy a u15) := by rw [eu15]; exact hD
          refine lv_goto (tgt := 715) hx hb dX4_low_236 (by decide) ?_
          exact k8 v10 u15 (ez7.trans (by have eu15 := eu15.symm; subst eu15; have ev12 := ev12.symm; subst ev12; have ez13 := ez13.symm; subst ez13; have ev10 := ev10.symm; subst ev10; exact (if_pos c9).trans (rfl))).symm _ _ hP hD hS ls (lv_sub hl [0, 1, 2, 3, 4, 5, 6, 7] rfl)
        refine lc_eq (tgt := 232) hx hb dX4_low_224 dX4_low_225 (by decide) (fun c11 => ?_) (fun c11 => ?_)
        · refine lv_iconst (v := 0) hx hb dX4_low_232 (by decide) ?_
          exact k14 (0 : Int32) (ez13.trans (by exact (if_pos c11).trans (rfl))).symm _ _ hP hD hS ls (lv_sub hl [3, 4, 5, 6, 7, 2, 1, 0] rfl)
        · refine lv_iconst (v := 1) hx hb dX4_low_228 (by decide) ?_
          refine lv_goto (tgt := 233) hx hb dX4_low_229 (by decide) ?_
          exact k14 (1 : Int32) (ez13.trans (by exact (if_neg c11).trans (rfl))).symm _ _ hP hD hS ls (lv_sub hl [3, 4, 5, 6, 7, 2, 1, 0] rfl)
      by_cases c16 : (p0 &&& (254 : Int32)) = 26
      · refine sw_t hx hb 2 (k := 26) (tgt := 239) dX4_low_43 c16 (by decide) rfl (by decide) ?_
        refine lv_lload hx hb dX4_low_239 (lv_at hl 1 rfl) ?_
        refine lv_lload hx hb dX4_low_241 (lv_at hl 0 rfl) ?_
        refine lv_lmul hx hb dX4_low_243 ?_
        refine lv_topl (fun v17 ev17 => ?_)
        refine lv_lstore (lv' := [(9, .long v17), (7, .long v4), (5, .long v3), (0, .ref (a 0)), (1, .int p0), (2, .int p1), (3, .int p2), (4, .int p3)]) hx hb dX4_low_244 hl (by decide) rfl (fun ls hl => ?_)
        refine lv_aload_n hx hb dX4_low_246 rfl (lv_at hl 3 rfl) ?_
        refine va_get (D := G) (ci := 2) (v := .ref (a 2)) (C := RX4) (T := TX4) (N := 17) hx hb hts iw_X4_low_X4 hown hK hP 0 rfl rfl 2 (by decide) (hts (.fieldLink RX4 13 "MixBenchModel" "special" "[J") (by decide +kernel)) (fun _ h9 => h9) rfl dX4_low_247 ?_
        refine lv_iconst (v := 3) hx hb dX4_low_250 (by decide) ?_
        refine lv_lload hx hb dX4_low_251 (lv_at hl 2 rfl) ?_
        refine lv_lload hx hb dX4_low_253 (lv_at hl 1 rfl) ?_
        refine p_l (W.runS (As := [.long v3, .long v4]) (rest := [.int (3 : Int32), .ref (a 2)]) ⟨hx, hb, hml, hown, hts⟩ (c_X4_upper l v3 v4 ) (va_cwS 2 hts gX4_low_X4_upper rfl rfl rfl (by decide +kernel) ⟨Nat.le_of_ble_eq_true rfl, Nat.le_of_ble_eq_true rfl⟩) p_preT rfl rfl hl.1 rfl (lv_room (Nat.le_of_ble_eq_true rfl)) dX4_low_255 ⟨Nat.le_of_ble_eq_true rfl, Nat.le_of_ble_eq_true rfl⟩) ?_
        refine lv_lload hx hb dX4_low_258 (lv_at hl 2 rfl) ?_
        refine lv_bipush (v := 63) hx hb dX4_low_260 (by decide) ?_
        refine lv_lshr (v := jlshr v3 (63 : Int32)) hx hb dX4_low_262 rfl ?_
        refine lv_lload hx hb dX4_low_263 (lv_at hl 1 rfl) ?_
        refine lv_land hx hb dX4_low_265 ?_
        refine lv_ladd hx hb dX4_low_266 ?_
        refine lv_lload hx hb dX4_low_267 (lv_at hl 1 rfl) ?_
        refine lv_bipush (v := 63) hx hb dX4_low_269 (by decide) ?_
        refine lv_lshr (v := jlshr v4 (63 : Int32)) hx hb dX4_low_271 rfl ?_
        refine lv_lload hx hb dX4_low_272 (lv_at hl 2 rfl) ?_
        refine lv_land hx hb dX4_low_274 ?_
        refine lv_ladd hx hb dX4_low_275 ?_
        refine lv_topl (fun v18 ev18 => ?_)
        refine va_last hx hb hK hP hD hS 2 0 rfl rfl (by unfold vp_in; decide) dX4_low_276 (fun H locs hP hD hS => ?_)
        obtain ⟨u19, eu19⟩ : ∃ z, z = sm_sp u (vp_updL (m_sp u) (3 : Int32).toNatClampNeg v18) := ⟨_, rfl⟩
        have hP : va_P G vwCl (wM yy a u19) H := by rw [eu19]; exact hP
        have hD : va_D A (wM yy a u19) := by rw [eu19]; exact hD
        refine lv_goto (tgt := 715) hx hb dX4_low_277 (by decide) ?_
        exact k8 v17 u19 (ez7.trans (by have eu19 := eu19.symm; subst eu19; have ev18 := ev18.symm; subst ev18; have ev17 := ev17.symm; subst ev17; exact (if_neg c9).trans ((if_pos c16).trans (rfl)))).symm _ _ hP hD hS ls (lv_sub hl [3, 4, 5, 6, 7, 2, 1, 0] rfl)
      by_cases c20 : (p0 &&& (254 : Int32)) = 28
      · refine sw_t hx hb 4 (k := 28) (tgt := 280) dX4_low_43 c20 (by decide) rfl (by decide) ?_
        refine lv_aload_n hx hb dX4_low_280 rfl (lv_at hl 2 rfl) ?_
        refine lv_lload hx hb dX4_low_281 (lv_at hl 1 rfl) ?_
        refine lv_lload hx hb dX4_low_283 (lv_at hl 0 rfl) ?_
        refine g_l (va_runV (As := [.long v3, .long v4]) (rest := []) ⟨hx, hb, hml, hown, hts⟩ (c_X4_quotient l yy a u v3 v4  G H.size) (cwV 2 hts gX4_low_X4_quotient rfl rfl rfl (by decide +kernel) ⟨Nat.le_of_ble_eq_true rfl, Nat.le_of_ble_eq_true rfl⟩) (g_preV eTrue_bl hK hE hP hD hS hA 0 rfl rfl) rfl rfl hl.1 rfl (lv_room (Nat.le_of_ble_eq_true rfl)) dX4_low_285 ⟨Nat.le_of_ble_eq_true rfl, Nat.le_of_ble_eq_true rfl⟩) hD hS hA (fun H locs hP hD hS => ?_)
        refine lv_topl (fun v21 ev21 => ?_)
        obtain ⟨u22, eu22⟩ : ∃ z, z = (f_X4_quotient u v3 v4).2 := ⟨_, rfl⟩
        have hP : va_P G vwCl (wM yy a u22) H := by rw [eu22]; exact hP
        have hD : va_D A (wM yy a u22) := by rw [eu22]; exact hD
        refine lv_lstore (lv' := [(9, .long v21), (7, .long v4), (5, .long v3), (0, .ref (a 0)), (1, .int p0), (2, .int p1), (3, .int p2), (4, .int p3)]) hx hb dX4_low_288 hl (by decide) rfl (fun ls hl => ?_)
        refine lv_goto (tgt := 715) hx hb dX4_low_290 (by decide) ?_
        exact k8 v21 u22 (ez7.trans (by have eu22 := eu22.symm; subst eu22; have ev21 := ev21.symm; subst ev21; exact (if_neg c9).trans ((if_neg c16).trans ((if_pos c20).trans (rfl))))).symm _ _ hP hD hS ls (lv_sub hl [3, 4, 5, 6, 7, 2, 1, 0] rfl)
      by_cases c23 : (p0 &&& (254 : Int32)) = 30
      · refine sw_t hx hb 6 (k := 30) (tgt := 293) dX4_low_43 c23 (by decide) rfl (by decide) ?_
        refine lv_aload_n hx hb dX4_low_293 rfl (lv_at hl 2 rfl) ?_
        refine lv_lload hx hb dX4_low_294 (lv_at hl 1 rfl) ?_
        refine lv_lload hx hb dX4_low_296 (lv_at hl 0 rfl) ?_
        refine g_l (va_runV (As := [.long v3, .long v4]) (rest := []) ⟨hx, hb, hml, hown, hts⟩ (c_X4_quotientOf l yy a u v3 v4  G H.size) (cwV 2 hts gX4_low_X4_quotientOf rfl rfl rfl (by decide +kernel) ⟨Nat.le_of_ble_eq_true rfl, Nat.le_of_ble_eq_true rfl⟩) (g_preV eTrue_bl hK hE hP hD hS hA 0 rfl rfl) rfl rfl hl.1 rfl (lv_room (Nat.le_of_ble_eq_true rfl)) dX4_low_298 ⟨Nat.le_of_ble_eq_true rfl, Nat.le_of_ble_eq_true rfl⟩) hD hS hA (fun H locs hP hD hS => ?_)
        refine lv_topl (fun v24 ev24 => ?_)
        obtain ⟨u25, eu25⟩ : ∃ z, z = (f_X4_quotientOf u v3 v4).2 := ⟨_, rfl⟩
        have hP : va_P G vwCl (wM yy a u25) H := by rw [eu25]; exact hP
        have hD : va_D A (wM yy a u25) := by rw [eu25]; exact hD
        refine lv_lstore (lv' := [(9, .long v24), (7, .long v4), (5, .long v3), (0, .ref (a 0)), (1, .int p0), (2, .int p1), (3, .int p2), (4, .int p3)]) hx hb dX4_low_301 hl (by decide) rfl (fun ls hl => ?_)
        refine lv_goto (tgt := 715) hx hb dX4_low_303 (by decide) ?_
        exact k8 v24 u25 (ez7.trans (by have eu25 := eu25.symm; subst eu25; have ev24 := ev24.symm; subst ev24; exact (if_neg c9).trans ((if_neg c16).trans ((if_neg c20).trans ((if_pos c23).trans (rfl)))))).symm _ _ hP hD hS ls (lv_sub hl [3, 4, 5, 6, 7, 2, 1, 0] rfl)
      by_cases c26 : (p0 &&& (254 : Int32)) = 32
      · refine sw_t hx hb 8 (k := 32) (tgt := 306) dX4_low_43 c26 (by decide) rfl (by decide) ?_
        refine lv_lload hx hb dX4_low_306 (lv_at hl 1 rfl) ?_
        refine lv_lload hx hb dX4_low_308 (lv_at hl 0 rfl) ?_
        refine lv_ladd hx hb dX4_low_310 ?_
        refine lv_topl (fun v27 ev27 => ?_)
        refine lv_lstore (lv' := [(9, .long v27), (7, .long v4), (5, .long v3), (0, .ref (a 0)), (1, .int p0), (2, .int p1), (3, .int p2), (4, .int p3)]) hx hb dX4_low_311 hl (by decide) rfl (fun ls hl => ?_)
        refine lv_aload_n hx hb dX4_low_313 rfl (lv_at hl 3 rfl) ?_
        refine lv_lload hx hb dX4_low_314 (lv_at hl 2 rfl) ?_
        refine lv_lload hx hb dX4_low_316 (lv_at hl 0 rfl) ?_
        refine lv_lxor hx hb dX4_low_318 ?_
        refine lv_lload hx hb dX4_low_319 (lv_at hl 1 rfl) ?_
        refine lv_lload hx hb dX4_low_321 (lv_at hl 0 rfl) ?_
        refine lv_lxor hx hb dX4_low_323 ?_
        refine lv_land hx hb dX4_low_324 ?_
        refine lv_lconst (v := 0) hx hb dX4_low_325 (by decide) ?_
        obtain ⟨z30, ez30⟩ : ∃ q : Int32, q = (if (0 : Int64) ≤ ((v3 ^^^ v27) &&& (v4 ^^^ v27)) then (0 : Int32) else (1 : Int32)) := ⟨_, rfl⟩
        have k31 : ∀ (v29 : Int32), v29 = z30 → ∀ (H : Heap) (locs : List Loc), va_P G vwCl (wM yy a u) H → va_D A (wM yy a u) → va_S A s.heap H locs → ∀ ls : Array Slot, lv_has ls 11 [(0, .ref (a 0)), (1, .int p0), (2, .int p1), (3, .int p2), (4, .int p3), (5, .long v3), (7, .long v4), (9, .long v27)] → W p l e rm_X4_low s m args below meth c H locs 0 0 (MQ below (gQi (wM yy a) (f_X4_low u p0 p1 p2 p3) G A) args s 0 0 A) (F0 m 335 ls [.int v29, .ref (a 0)]) := by
          intro v29 jz30 H locs hP hD hS ls hl
          have ev29 : v29 = z30 := jz30
          refine g_v (va_runV (As := [.int v29]) (rest := []) ⟨hx, hb, hml, hown, hts⟩ (c_X4_over l yy a u v29  G H.size) (cwV 1 hts gX4_low_X4_over rfl rfl rfl (by decide +kernel) ⟨Nat.le_of_ble_eq_true rfl, Nat.le_of_ble_eq_true rfl⟩) (g_preV eTrue_bl hK hE hP hD hS hA 0 rfl rfl) rfl rfl hl.1 rfl (lv_room (Nat.le_of_ble_eq_true rfl)) dX4_low_335 ⟨Nat.le_of_ble_eq_true rfl, Nat.le_of_ble_eq_true rfl⟩) hD hS hA (fun H locs hP hD hS => ?_)
          obtain ⟨u32, eu32⟩ : ∃ z, z = f_X4_over u v29 := ⟨_, rfl⟩
          have hP : va_P G vwCl (wM yy a u32) H := by rw [eu32]; exact hP
          have hD : va_D A (wM yy a u32) := by rw [eu32]; exact hD
          refine lv_goto (tgt := 715) hx hb dX4_low_338 (by decide) ?_
          exact k8 v27 u32 (ez7.trans (by have eu32 := eu32.symm; subst eu32; have ev29 := ev29.symm; subst ev29; have ez30 := ez30.symm; subst ez30; have ev27 := ev27.symm; subst ev27; exact (if_neg c9).trans ((if_neg c16).trans ((if_neg c20).trans ((if_neg c23).trans ((if_pos c26).trans (rfl))))))).symm _ _ hP hD hS ls (lv_sub hl [0, 1, 2, 3, 4, 5, 6, 7] rfl)
        refine lc_ge (tgt := 334) hx hb dX4_low_326 dX4_low_327 (by decide) (fun c28 => ?_) (fun c28 => ?_)
        · refine lv_iconst (v := 0) hx hb dX4_low_334 (by decide) ?_
          exact k31 (0 : Int32) (ez30.trans (by exact (if_pos c28).trans (rfl))).symm _ _ hP hD hS ls (lv_sub hl [3, 4, 5, 6, 7, 2, 1, 0] rfl)
        · refine lv_iconst (v := 1) hx hb dX4_low_330 (by decide) ?_
          refine lv_goto (tgt := 335) hx hb dX4_low_331 (by decide) ?_
          exact k31 (1 : Int32) (ez30.trans (by exact (if_neg c28).trans (rfl))).symm _ _ hP hD hS ls (lv_sub hl [3, 4, 5, 6, 7, 2, 1, 0] rfl)
      by_cases c33 : (p0 &&& (254 : Int32)) = 34
      · refine sw_t hx hb 10 (k := 34) (tgt := 341) dX4_low_43 c33 (by decide) rfl (by decide) ?_
        refine lv_lload hx hb dX4_low_341 (lv_at hl 1 rfl) ?_
        refine lv_lload hx hb dX4_low_343 (lv_at hl 0 rfl) ?_
        refine lv_ladd hx hb dX4_low_345 ?_
        refine lv_topl (fun v34 ev34 => ?_)
        refine lv_lstore (lv' := [(9, .long v34), (7, .long v4), (5, .long v3), (0, .ref (a 0)), (1, .int p0), (2, .int p1), (3, .int p2), (4, .int p3)]) hx hb dX4_low_346 hl (by decide) rfl (fun ls hl => ?_)
        refine lv_goto (tgt := 715) hx hb dX4_low_348 (by decide) ?_
        exact k8 v34 u (ez7.trans (by have ev34 := ev34.symm; subst ev34; exact (if_neg c9).trans ((if_neg c16).trans ((if_neg c20).trans ((if_neg c23).trans ((if_neg c26).trans ((if_pos c33).trans (rfl)))))))).symm _ _ hP hD hS ls (lv_sub hl [3, 4, 5, 6, 7, 2, 1, 0] rfl)
      by_cases c35 : (p0 &&& (254 : Int32)) = 36
      · refine sw_t hx hb 12 (k := 36) (tgt := 351) dX4_low_43 c35 (by decide) rfl (by decide) ?_
        refine lv_lload hx hb dX4_low_351 (lv_at hl 1 rfl) ?_
        refine lv_lload hx hb dX4_low_353 (lv_at hl 0 rfl) ?_
        refine lv_lsub hx hb dX4_low_355 ?_
        refine lv_topl (fun v36 ev36 => ?_)
        refine lv_lstore (lv' := [(9, .long v36), (7, .long v4), (5, .long v3), (0, .ref (a 0)), (1, .int p0), (2, .int p1), (3, .int p2), (4, .int p3)]) hx hb dX4_low_356 hl (by decide) rfl (fun ls hl => ?_)
        refine lv_aload_n hx hb dX4_low_358 rfl (lv_at hl 3 rfl) ?_
        refine lv_lload hx hb dX4_low_359 (lv_at hl 2 rfl) ?_
        refine lv_lload hx hb dX4_low_361 (lv_at hl 1 rfl) ?_
        refine lv_lxor hx hb dX4_low_363 ?_
        refine lv_lload hx hb dX4_low_364 (lv_at hl 2 rfl) ?_
        refine lv_lload hx hb dX4_low_366 (lv_at hl 0 rfl) ?_
        refine lv_lxor hx hb dX4_low_368 ?_
        refine lv_land hx hb dX4_low_369 ?_
        refine lv_lconst (v := 0) hx hb dX4_low_370 (by decide) ?_
        obtain ⟨z39, ez39⟩ : ∃ q : Int32, q = (if (0 : Int64) ≤ ((v3 ^^^ v4) &&& (v3 ^^^ v36)) then (0 : Int32) else (1 : Int32)) := ⟨_, rfl⟩
        have k40 : ∀ (v38 : Int32), v38 = z39 → ∀ (H : Heap) (locs : List Loc), va_P G vwCl (wM yy a u) H → va_D A (wM yy a u) → va_S A s.heap H locs → ∀ ls : Array Slot, lv_has ls 11 [(0, .ref (a 0)), (1, .int p0), (2, .int p1), (3, .int p2), (4, .int p3), (5, .long v3), (7, .long v4), (9, .long v36)] → W p l e rm_X4_low s m args below meth c H locs 0 0 (MQ below (gQi (wM yy a) (f_X4_low u p0 p1 p2 p3) G A) args s 0 0 A) (F0 m 380 ls [.int v38, .ref (a 0)]) := by
          intro v38 jz39 H locs hP hD hS ls hl
          have ev38 : v38 = z39 := jz39
          refine g_v (va_runV (As := [.int v38]) (rest := []) ⟨hx, hb, hml, hown, hts⟩ (c_X4_over l yy a u v38  G H.size) (cwV 1 hts gX4_low_X4_over rfl rfl rfl (by decide +kernel) ⟨Nat.le_of_ble_eq_true rfl, Nat.le_of_ble_eq_true rfl⟩) (g_preV eTrue_bl hK hE hP hD hS hA 0 rfl rfl) rfl rfl hl.1 rfl (lv_room (Nat.le_of_ble_eq_true rfl)) dX4_low_380 ⟨Nat.le_of_ble_eq_true rfl, Nat.le_of_ble_eq_true rfl⟩) hD hS hA (fun H locs hP hD hS => ?_)
          obtain ⟨u41, eu41⟩ : ∃ z, z = f_X4_over u v38 := ⟨_, rfl⟩
          have hP : va_P G vwCl (wM yy a u41) H := by rw [eu41]; exact hP
          have hD : va_D A (wM yy a u41) := by rw [eu41]; exact hD
          refine lv_goto (tgt := 715) hx hb dX4_low_383 (by decide) ?_
          exact k8 v36 u41 (ez7.trans (by have eu41 := eu41.symm; subst eu41; have ev38 := ev38.symm; subst ev38; have ez39 := ez39.symm; subst ez39; have ev36 := ev36.symm; subst ev36; exact (if_neg c9).trans ((if_neg c16).trans ((if_neg c20).trans ((if_neg c23).trans ((if_neg c26).trans ((if_neg c33).trans ((if_pos c35).trans (rfl))))))))).symm _ _ hP hD hS ls (lv_sub hl [0, 1, 2, 3, 4, 5, 6, 7] rfl)
        refine lc_ge (tgt := 379) hx hb dX4_low_371 dX4_low_372 (by decide) (fun c37 => ?_) (fun c37 => ?_)
        · refine lv_iconst (v := 0) hx hb dX4_low_379 (by decide) ?_
          exact k40 (0 : Int32) (ez39.trans (by exact (if_pos c37).trans (rfl))).symm _ _ hP hD hS ls (lv_sub hl [3, 4, 5, 6, 7, 2, 1, 0] rfl)
        · refine lv_iconst (v := 1) hx hb dX4_low_375 (by decide) ?_
          refine lv_goto (tgt := 380) hx hb dX4_low_376 (by decide) ?_
          exact k40 (1 : Int32) (ez39.trans (by exact (if_neg c37).trans (rfl))).symm _ _ hP hD hS ls (lv_sub hl [3, 4, 5, 6, 7, 2, 1, 0] rfl)
      by_cases c42 : (p0 &&& (254 : Int32)) = 38
      · refine sw_t hx hb 14 (k := 38) (tgt := 386) dX4_low_43 c42 (by decide) rfl (by decide) ?_
        refine lv_lload hx hb dX4_low_386 (lv_at hl 1 rfl) ?_
        refine lv_lload hx hb dX4_low_388 (lv_at hl 0 rfl) ?_
        refine lv_lsub hx hb dX4_low_390 ?_
        refine lv_topl (fun v43 ev43 => ?_)
        refine lv_lstore (lv' := [(9, .long v43), (7, .long v4), (5, .long v3), (0, .ref (a 0)), (1, .int p0), (2, .int p1), (3, .int p2), (4, .int p3)]) hx hb dX4_low_391 hl (by decide) rfl (fun ls hl => ?_)
        refine lv_goto (tgt := 715) hx hb dX4_low_393 (by decide) ?_
        exact k8 v43 u (ez7.trans (by have ev43 := ev43.symm; subst ev43; exact (if_neg c9).trans ((if_neg c16).trans ((if_neg c20).trans ((if_neg c23).trans ((if_neg c26).trans ((if_neg c33).trans ((if_neg c35).trans ((if_pos c42).trans (rfl)))))))))).symm _ _ hP hD hS ls (lv_sub hl [3, 4, 5, 6, 7, 2, 1, 0] rfl)
      by_cases c44 : (p0 &&& (254 : Int32)) = 40
      · refine sw_t hx hb 16 (k := 40) (tgt := 396) dX4_low_43 c44 (by decide) rfl (by decide) ?_
        refine lv_lload hx hb dX4_low_396 (lv_at hl 1 rfl) ?_
        refine lv_ldc2 hx hb hown (hts (.constantLong RX4 255 (2)) (by decide +kernel)) dX4_low_398 ?_
        refine lv_lmul hx hb dX4_low_401 ?_
        refine lv_lload hx hb dX4_low_402 (lv_at hl 0 rfl) ?_
        refine lv_ladd hx hb dX4_low_404 ?_
        refine lv_topl (fun v45 ev45 => ?_)
        refine lv_lstore (lv' := [(9, .long v45), (7, .long v4), (5, .long v3), (0, .ref (a 0)), (1, .int p0), (2, .int p1), (3, .int p2), (4, .int p3)]) hx hb dX4_low_405 hl (by decide) rfl (fun ls hl => ?_)
        refine lv_goto (tgt := 715) hx hb dX4_low_407 (by decide) ?_
        exact k8 v45 u (ez7.trans (by have ev45 := ev45.symm; subst ev45; exact (if_neg c9).trans ((if_neg c16).trans ((if_neg c20).trans ((if_neg c23).trans ((if_neg c26).trans ((if_neg c33).trans ((if_neg c35).trans ((if_neg c42).trans ((if_pos c44).trans (rfl))))))))))).symm _ _ hP hD hS ls (lv_sub hl [3, 4, 5, 6, 7, 2, 1, 0] rfl)
      by_cases c46 : (p0 &&& (254 : Int32)) = 42
      · refine sw_t hx hb 18 (k := 42) (tgt := 410) dX4_low_43 c46 (by decide) rfl (by decide) ?_
        refine lv_lload hx hb dX4_low_410 (lv_at hl 1 rfl) ?_
        refine lv_ldc2 hx hb hown (hts (.constantLong RX4 223 (4)) (by decide +kernel)) dX4_low_412 ?_
        refine lv_lmul hx hb dX4_low_415 ?_
        refine lv_lload hx hb dX4_low_416 (lv_at hl 0 rfl) ?_
        refine lv_ladd hx hb dX4_low_418 ?_
        refine lv_topl (fun v47 ev47 => ?_)
        refine lv_lstore (lv' := [(9, .long v47), (7, .long v4), (5, .long v3), (0, .ref (a 0)), (1, .int p0), (2, .int p1), (3, .int p2), (4, .int p3)]) hx hb dX4_low_419 hl (by decide) rfl (fun ls hl => ?_)
        refine lv_goto (tgt := 715) hx hb dX4_low_421 (by decide) ?_
        exact k8 v47 u (ez7.trans (by have ev47 := ev47.symm; subst ev47; exact (if_neg c9).trans ((if_neg c16).trans ((if_neg c20).trans ((if_neg c23).trans ((if_neg c26).trans ((if_neg c33).trans ((if_neg c35).trans ((if_neg c42).trans ((if_neg c44).trans ((if_pos c46).trans (rfl)))))))))))).symm _ _ hP hD hS ls (lv_sub hl [3, 4, 5, 6, 7, 2, 1, 0] rfl)
      by_cases c48 : (p0 &&& (254 : Int32)) = 44
      · refine sw_t hx hb 20 (k := 44) (tgt := 424) dX4_low_43 c48 (by decide) rfl (by decide) ?_
        refine lv_lload hx hb dX4_low_424 (lv_at hl 1 rfl) ?_
        refine lv_ldc2 hx hb hown (hts (.constantLong RX4 257 (8)) (by decide +kernel)) dX4_low_426 ?_
        refine lv_lmul hx hb dX4_low_429 ?_
        refine lv_lload hx hb dX4_low_430 (lv_at hl 0 rfl) ?_
        refine lv_ladd hx hb dX4_low_432 ?_
        refine lv_topl (fun v49 ev49 => ?_)
        refine lv_lstore (lv' := [(9, .long v49), (7, .long v4), (5, .long v3), (0, .ref (a 0)), (1, .int p0), (2, .int p1), (3, .int p2), (4, .int p3)]) hx hb dX4_low_433 hl (by decide) rfl (fun ls hl => ?_)
        refine lv_goto (tgt := 715) hx hb dX4_low_435 (by decide) ?_
        exact k8 v49 u (ez7.trans (by have ev49 := ev49.symm; subst ev49; exact (if_neg c9).trans ((if_neg c16).trans ((if_neg c20).trans ((if_neg c23).trans ((if_neg c26).trans ((if_neg c33).trans ((if_neg c35).trans ((if_neg c42).trans ((if_neg c44).trans ((if_neg c46).trans ((if_pos c48).trans (rfl))))))))))))).symm _ _ hP hD hS ls (lv_sub hl [3, 4, 5, 6, 7, 2, 1, 0] rfl)
      by_cases c50 : (p0 &&& (254 : Int32)) = 46
      · refine sw_t hx hb 22 (k := 46) (tgt := 438) dX4_low_43 c50 (by decide) rfl (by decide) ?_
        refine lv_lload hx hb dX4_low_438 (lv_at hl 1 rfl) ?_
        refine lv_ldc2 hx hb hown (hts (.constantLong RX4 259 (16)) (by decide +kernel)) dX4_low_440 ?_
        refine lv_lmul hx hb dX4_low_443 ?_
        refine lv_lload hx hb dX4_low_444 (lv_at hl 0 rfl) ?_
        refine lv_ladd hx hb dX4_low_446 ?_
        refine lv_topl (fun v51 ev51 => ?_)
        refine lv_lstore (lv' := [(9, .long v51), (7, .long v4), (5, .long v3), (0, .ref (a 0)), (1, .int p0), (2, .int p1), (3, .int p2), (4, .int p3)]) hx hb dX4_low_447 hl (by decide) rfl (fun ls hl => ?_)
        refine lv_goto (tgt := 715) hx hb dX4_low_449 (by decide) ?_
        exact k8 v51 u (ez7.trans (by have ev51 := ev51.symm; subst ev51; exact (if_neg c9).trans ((if_neg c16).trans ((if_neg c20).trans ((if_neg c23).trans ((if_neg c26).trans ((if_neg c33).trans ((if_neg c35).trans ((if_neg c42).trans ((if_neg c44).trans ((if_neg c46).trans ((if_neg c48).trans ((if_pos c50).trans (rfl)))))))))))))).symm _ _ hP hD hS ls (lv_sub hl [3, 4, 5, 6, 7, 2, 1, 0] rfl)
      by_cases c52 : (p0 &&& (254 : Int32)) = 48
      · refine sw_t hx hb 24 (k := 48) (tgt := 452) dX4_low_43 c52 (by decide) rfl (by decide) ?_
        refine lv_lload hx hb dX4_low_452 (lv_at hl 1 rfl) ?_
        refine lv_lload hx hb dX4_low_454 (lv_at hl 0 rfl) ?_
        obtain ⟨z55, ez55⟩ : ∃ q : Int64, q = (if v4 ≤ v3 then if v3 = v4 then (0 : Int64) else (1 : Int64) else (-1 : Int64)) := ⟨_, rfl⟩
        have k56 : ∀ (v54 : Int64), v54 = z55 → ∀ (H : Heap) (locs : List Loc), va_P G vwCl (wM yy a u) H → va_D A (wM yy a u) → va_S A s.heap H locs → ∀ ls : Array Slot, lv_has ls 11 [(0, .ref (a 0)), (1, .int p0), (2, .int p1), (3, .int p2), (4, .int p3), (5, .long v3), (7, .long v4)] → W p l e rm_X4_low s m args below meth c H locs 0 0 (MQ below (gQi (wM yy a) (f_X4_low u p0 p1 p2 p3) G A) args s 0 0 A) (F0 m 479 ls [.long v54]) := by
          intro v54 jz55 H locs hP hD hS ls hl
          have ev54 : v54 = z55 := jz55
          refine lv_lstore (lv' := [(9, .long v54), (0, .ref (a 0)), (1, .int p0), (2, .int p1), (3, .int p2), (4, .int p3), (5, .long v3), (7, .long v4)]) hx hb dX4_low_479 hl (by decide) rfl (fun ls hl => ?_)
          refine lv_goto (tgt := 715) hx hb dX4_low_481 (by decide) ?_
          exact k8 v54 u (ez7.trans (by have ev54 := ev54.symm; subst ev54; have ez55 := ez55.symm; subst ez55; exact (if_neg c9).trans ((if_neg c16).trans ((if_neg c20).trans ((if_neg c23).trans ((if_neg c26).trans ((if_neg c33).trans ((if_neg c35).trans ((if_neg c42).trans ((if_neg c44).trans ((if_neg c46).trans ((if_neg c48).trans ((if_neg c50).trans ((if_pos c52).trans (rfl))))))))))))))).symm _ _ hP hD hS ls (lv_sub hl [1, 2, 3, 4, 5, 6, 7, 0] rfl)
        refine lc_ge (tgt := 466) hx hb dX4_low_456 dX4_low_457 (by decide) (fun c53 => ?_) (fun c53 => ?_)
        · refine lv_lload hx hb dX4_low_466 (lv_at hl 1 rfl) ?_
          refine lv_lload hx hb dX4_low_468 (lv_at hl 0 rfl) ?_
          refine lc_ne (tgt := 478) hx hb dX4_low_470 dX4_low_471 (by decide) (fun c57 => ?_) (fun c57 => ?_)
          · refine lv_lconst (v := 1) hx hb dX4_low_478 (by decide) ?_
            exact k56 (1 : Int64) (ez55.trans (by exact (if_pos c53).trans ((if_neg c57).trans (rfl)))).symm _ _ hP hD hS ls (lv_sub hl [2, 3, 4, 5, 6, 1, 0] rfl)
          · refine lv_lconst (v := 0) hx hb dX4_low_474 (by decide) ?_
            refine lv_goto (tgt := 479) hx hb dX4_low_475 (by decide) ?_
            exact k56 (0 : Int64) (ez55.trans (by exact (if_pos c53).trans ((if_pos c57).trans (rfl)))).symm _ _ hP hD hS ls (lv_sub hl [2, 3, 4, 5, 6, 1, 0] rfl)
        · refine lv_ldc2 hx hb hown (hts (.constantLong RX4 261 (-1)) (by decide +kernel)) dX4_low_460 ?_
          refine lv_goto (tgt := 479) hx hb dX4_low_463 (by decide) ?_
          exact k56 (-1 : Int64) (ez55.trans (by exact (if_neg c53).trans (rfl))).symm _ _ hP hD hS ls (lv_sub hl [2, 3, 4, 5, 6, 1, 0] rfl)
      by_cases c58 : (p0 &&& (254 : Int32)) = 50
      · refine sw_t hx hb 26 (k := 50) (tgt := 484) dX4_low_43 c58 (by decide) rfl (by decide) ?_
        refine lv_lload hx hb dX4_low_484 (lv_at hl 0 rfl) ?_
        refine lv_lload hx hb dX4_low_486 (lv_at hl 1 rfl) ?_
        refine p_i (W.runS (As := [.long v4, .long v3]) (rest := []) ⟨hx, hb, hml, hown, hts⟩ (c_X4_above l v4 v3 ) (va_cwS 2 hts gX4_low_X4_above rfl rfl rfl (by decide +kernel) ⟨Nat.le_of_ble_eq_true rfl, Nat.le_of_ble_eq_true rfl⟩) p_preT rfl rfl hl.1 rfl (lv_room (Nat.le_of_ble_eq_true rfl)) dX4_low_488 ⟨Nat.le_of_ble_eq_true rfl, Nat.le_of_ble_eq_true rfl⟩) ?_
        obtain ⟨z61, ez61⟩ : ∃ q : Int64, q = (if (f_X4_above v4 v3) = (0 : Int32) then if v3 = v4 then (0 : Int64) else (1 : Int64) else (-1 : Int64)) := ⟨_, rfl⟩
        have k62 : ∀ (v60 : Int64), v60 = z61 → ∀ (H : Heap) (locs : List Loc), va_P G vwCl (wM yy a u) H → va_D A (wM yy a u) → va_S A s.heap H locs → ∀ ls : Array Slot, lv_has ls 11 [(0, .ref (a 0)), (1, .int p0), (2, .int p1), (3, .int p2), (4, .int p3), (5, .long v3), (7, .long v4)] → W p l e rm_X4_low s m args below meth c H locs 0 0 (MQ below (gQi (wM yy a) (f_X4_low u p0 p1 p2 p3) G A) args s 0 0 A) (F0 m 513 ls [.long v60]) := by
          intro v60 jz61 H locs hP hD hS ls hl
          have ev60 : v60 = z61 := jz61
          refine lv_lstore (lv' := [(9, .long v60), (0, .ref (a 0)), (1, .int p0), (2, .int p1), (3, .int p2), (4, .int p3), (5, .long v3), (7, .long v4)]) hx hb dX4_low_513 hl (by decide) rfl (fun ls hl => ?_)
          refine lv_goto (tgt := 715) hx hb dX4_low_515 (by decide) ?_
          exact k8 v60 u (ez7.trans (by have ev60 := ev60.symm; subst ev60; have ez61 := ez61.symm; subst ez61; exact (if_neg c9).trans ((if_neg c16).trans ((if_neg c20).trans ((if_neg c23).trans ((if_neg c26).trans ((if_neg c33).trans ((if_neg c35).trans ((if_neg c42).trans ((if_neg c44).trans ((if_neg c46).trans ((if_neg c48).trans ((if_neg c50).trans ((if_neg c52).trans ((if_pos c58).trans (rfl)))))))))))))))).symm _ _ hP hD hS ls (lv_sub hl [1, 2, 3, 4, 5, 6, 7, 0] rfl)
        refine lv_if_eq (tgt := 500) hx hb dX4_low_491 (by decide) (fun c59 => ?_) (fun c59 => ?_)
        · refine lv_lload hx hb dX4_low_500 (lv_at hl 1 rfl) ?_
          refine lv_lload hx hb dX4_low_502 (lv_at hl 0 rfl) ?_
          refine lc_ne (tgt := 512) hx hb dX4_low_504 dX4_low_505 (by decide) (fun c63 => ?_) (fun c63 => ?_)
          · refine lv_lconst (v := 1) hx hb dX4_low_512 (by decide) ?_
            exact k62 (1 : Int64) (ez61.trans (by exact (if_pos c59).trans ((if_neg c63).trans (rfl)))).symm _ _ hP hD hS ls (lv_sub hl [2, 3, 4, 5, 6, 1, 0] rfl)
          · refine lv_lconst (v := 0) hx hb dX4_low_508 (by decide) ?_
            refine lv_goto (tgt := 513) hx hb dX4_low_509 (by decide) ?_
            exact k62 (0 : Int64) (ez61.trans (by exact (if_pos c59).trans ((if_pos c63).trans (rfl)))).symm _ _ hP hD hS ls (lv_sub hl [2, 3, 4, 5, 6, 1, 0] rfl)
        · refine lv_ldc2 hx hb hown (hts (.constantLong RX4 261 (-1)) (by decide +kernel)) dX4_low_494 ?_
          refine lv_goto (tgt := 513) hx hb dX4_low_497 (by decide) ?_
          exact k62 (-1 : Int64) (ez61.trans (by exact (if_neg c59).trans (rfl))).symm _ _ hP hD hS ls (lv_sub hl [2, 3, 4, 5, 6, 1, 0] rfl)
      by_cases c64 : (p0 &&& (254 : Int32)) = 52
      · refine sw_t hx hb 28 (k := 52) (tgt := 518) dX4_low_43 c64 (by decide) rfl (by decide) ?_
        refine lv_iload_n hx hb dX4_low_518 rfl (lv_at hl 5 rfl) ?_
        refine lv_i2l (v := p2.toInt64) hx hb dX4_low_519 rfl ?_
        refine lv_lload hx hb dX4_low_520 (lv_at hl 0 rfl) ?_
        refine lv_lsub hx hb dX4_low_522 ?_
        refine lv_topl (fun v65 ev65 => ?_)
        refine lv_lstore (lv' := [(9, .long v65), (7, .long v4), (5, .long v3), (0, .ref (a 0)), (1, .int p0), (2, .int p1), (3, .int p2), (4, .int p3)]) hx hb dX4_low_523 hl (by decide) rfl (fun ls hl => ?_)
        refine lv_aload_n hx hb dX4_low_525 rfl (lv_at hl 3 rfl) ?_
        refine lv_iload_n hx hb dX4_low_526 rfl (lv_at hl 6 rfl) ?_
        refine lv_i2l (v := p2.toInt64) hx hb dX4_low_527 rfl ?_
        refine lv_lload hx hb dX4_low_528 (lv_at hl 1 rfl) ?_
        refine lv_lxor hx hb dX4_low_530 ?_
        refine lv_iload_n hx hb dX4_low_531 rfl (lv_at hl 6 rfl) ?_
        refine lv_i2l (v := p2.toInt64) hx hb dX4_low_532 rfl ?_
        refine lv_lload hx hb dX4_low_533 (lv_at hl 0 rfl) ?_
        refine lv_lxor hx hb dX4_low_535 ?_
        refine lv_land hx hb dX4_low_536 ?_
        refine lv_lconst (v := 0) hx hb dX4_low_537 (by decide) ?_
        obtain ⟨z68, ez68⟩ : ∃ q : Int32, q = (if (0 : Int64) ≤ ((p2.toInt64 ^^^ v4) &&& (p2.toInt64 ^^^ v65)) then (0 : Int32) else (1 : Int32)) := ⟨_, rfl⟩
        have k69 : ∀ (v67 : Int32), v67 = z68 → ∀ (H : Heap) (locs : List Loc), va_P G vwCl (wM yy a u) H → va_D A (wM yy a u) → va_S A s.heap H locs → ∀ ls : Array Slot, lv_has ls 11 [(0, .ref (a 0)), (1, .int p0), (2, .int p1), (3, .int p2), (4, .int p3), (5, .long v3), (7, .long v4), (9, .long v65)] → W p l e rm_X4_low s m args below meth c H locs 0 0 (MQ below (gQi (wM yy a) (f_X4_low u p0 p1 p2 p3) G A) args s 0 0 A) (F0 m 547 ls [.int v67, .ref (a 0)]) := by
          intro v67 jz68 H locs hP hD hS ls hl
          have ev67 : v67 = z68 := jz68
          refine g_v (va_runV (As := [.int v67]) (rest := []) ⟨hx, hb, hml, hown, hts⟩ (c_X4_over l yy a u v67  G H.size) (cwV 1 hts gX4_low_X4_over rfl rfl rfl (by decide +kernel) ⟨Nat.le_of_ble_eq_true rfl, Nat.le_of_ble_eq_true rfl⟩) (g_preV eTrue_bl hK hE hP hD hS hA 0 rfl rfl) rfl rfl hl.1 rfl (lv_room (Nat.le_of_ble_eq_true rfl)) dX4_low_547 ⟨Nat.le_of_ble_eq_true rfl, Nat.le_of_ble_eq_true rfl⟩) hD hS hA (fun H locs hP hD hS => ?_)
          obtain ⟨u70, eu70⟩ : ∃ z, z = f_X4_over u v67 := ⟨_, rfl⟩
          have hP : va_P G vwCl (wM yy a u70) H := by rw [eu70]; exact hP
          have hD : va_D A (wM yy a u70) := by rw [eu70]; exact hD
          refine lv_goto (tgt := 715) hx hb dX4_low_550 (by decide) ?_
          exact k8 v65 u70 (ez7.trans (by have eu70 := eu70.symm; subst eu70; have ev67 := ev67.symm; subst ev67; have ez68 := ez68.symm; subst ez68; have ev65 := ev65.symm; subst ev65; exact (if_neg c9).trans ((if_neg c16).trans ((if_neg c20).trans ((if_neg c23).trans ((if_neg c26).trans ((if_neg c33).trans ((if_neg c35).trans ((if_neg c42).trans ((if_neg c44).trans ((if_neg c46).trans ((if_neg c48).trans ((if_neg c50).trans ((if_neg c52).trans ((if_neg c58).trans ((if_pos c64).trans (rfl))))))))))))))))).symm _ _ hP hD hS ls (lv_sub hl [0, 1, 2, 3, 4, 5, 6, 7] rfl)
        refine lc_ge (tgt := 546) hx hb dX4_low_538 dX4_low_539 (by decide) (fun c66 => ?_) (fun c66 => ?_)
        · refine lv_iconst (v := 0) hx hb dX4_low_546 (by decide) ?_
          exact k69 (0 : Int32) (ez68.trans (by exact (if_pos c66).trans (rfl))).symm _ _ hP hD hS ls (lv_sub hl [3, 4, 5, 6, 7, 2, 1, 0] rfl)
        · refine lv_iconst (v := 1) hx hb dX4_low_542 (by decide) ?_
          refine lv_goto (tgt := 547) hx hb dX4_low_543 (by decide) ?_
          exact k69 (1 : Int32) (ez68.trans (by exact (if_neg c66).trans (rfl))).symm _ _ hP hD hS ls (lv_sub hl [3, 4, 5, 6, 7, 2, 1, 0] rfl)
      by_cases c71 : (p0 &&& (254 : Int32)) = 54
      · refine sw_t hx hb 30 (k := 54) (tgt := 553) dX4_low_43 c71 (by decide) rfl (by decide) ?_
        refine lv_iload_n hx hb dX4_low_553 rfl (lv_at hl 5 rfl) ?_
        refine lv_i2l (v := p2.toInt64) hx hb dX4_low_554 rfl ?_
        refine lv_lload hx hb dX4_low_555 (lv_at hl 0 rfl) ?_
        refine lv_lsub hx hb dX4_low_557 ?_
        refine lv_topl (fun v72 ev72 => ?_)
        refine lv_lstore (lv' := [(9, .long v72), (7, .long v4), (5, .long v3), (0, .ref (a 0)), (1, .int p0), (2, .int p1), (3, .int p2), (4, .int p3)]) hx hb dX4_low_558 hl (by decide) rfl (fun ls hl => ?_)
        refine lv_goto (tgt := 715) hx hb dX4_low_560 (by decide) ?_
        exact k8 v72 u (ez7.trans (by have ev72 := ev72.symm; subst ev72; exact (if_neg c9).trans ((if_neg c16).trans ((if_neg c20).trans ((if_neg c23).trans ((if_neg c26).trans ((if_neg c33).trans ((if_neg c35).trans ((if_neg c42).trans ((if_neg c44).trans ((if_neg c46).trans ((if_neg c48).trans ((if_neg c50).trans ((if_neg c52).trans ((if_neg c58).trans ((if_neg c64).trans ((if_pos c71).trans (rfl)))))))))))))))))).symm _ _ hP hD hS ls (lv_sub hl [3, 4, 5, 6, 7, 2, 1, 0] rfl)
      by_cases c73 : (p0 &&& (254 : Int32)) = 56
      · refine sw_t hx hb 32 (k := 56) (tgt := 563) dX4_low_43 c73 (by decide) rfl (by decide) ?_
        refine lv_lload hx hb dX4_low_563 (lv_at hl 0 rfl) ?_
        refine lv_ldc2 hx hb hown (hts (.constantLong RX4 267 (63)) (by decide +kernel)) dX4_low_565 ?_
        refine p_i (W.runS (As := [.long v4, .long (63 : Int64)]) (rest := []) ⟨hx, hb, hml, hown, hts⟩ (c_X4_above l v4 (63 : Int64) ) (va_cwS 2 hts gX4_low_X4_above rfl rfl rfl (by decide +kernel) ⟨Nat.le_of_ble_eq_true rfl, Nat.le_of_ble_eq_true rfl⟩) p_preT rfl rfl hl.1 rfl (lv_room (Nat.le_of_ble_eq_true rfl)) dX4_low_568 ⟨Nat.le_of_ble_eq_true rfl, Nat.le_of_ble_eq_true rfl⟩) ?_
        obtain ⟨z76, ez76⟩ : ∃ q : Int64, q = (if (f_X4_above v4 (63 : Int64)) = (0 : Int32) then jlshl v3 v4.toInt32 else (0 : Int64)) := ⟨_, rfl⟩
        have k77 : ∀ (v75 : Int64), v75 = z76 → ∀ (H : Heap) (locs : List Loc), va_P G vwCl (wM yy a u) H → va_D A (wM yy a u) → va_S A s.heap H locs → ∀ ls : Array Slot, lv_has ls 11 [(0, .ref (a 0)), (1, .int p0), (2, .int p1), (3, .int p2), (4, .int p3), (5, .long v3), (7, .long v4)] → W p l e rm_X4_low s m args below meth c H locs 0 0 (MQ below (gQi (wM yy a) (f_X4_low u p0 p1 p2 p3) G A) args s 0 0 A) (F0 m 584 ls [.long v75]) := by
          intro v75 jz76 H locs hP hD hS ls hl
          have ev75 : v75 = z76 := jz76
          refine lv_lstore (lv' := [(9, .long v75), (0, .ref (a 0)), (1, .int p0), (2, .int p1), (3, .int p2), (4, .int p3), (5, .long v3), (7, .long v4)]) hx hb dX4_low_584 hl (by decide) rfl (fun ls hl => ?_)
          refine lv_aload_n hx hb dX4_low_586 rfl (lv_at hl 1 rfl) ?_
          refine lv_lload hx hb dX4_low_587 (lv_at hl 7 rfl) ?_
          refine lv_ldc2 hx hb hown (hts (.constantLong RX4 267 (63)) (by decide +kernel)) dX4_low_589 ?_
          refine p_i (W.runS (As := [.long v4, .long (63 : Int64)]) (rest := [.ref (a 0)]) ⟨hx, hb, hml, hown, hts⟩ (c_X4_above l v4 (63 : Int64) ) (va_cwS 2 hts gX4_low_X4_above rfl rfl rfl (by decide +kernel) ⟨Nat.le_of_ble_eq_true rfl, Nat.le_of_ble_eq_true rfl⟩) p_preT rfl rfl hl.1 rfl (lv_room (Nat.le_of_ble_eq_true rfl)) dX4_low_592 ⟨Nat.le_of_ble_eq_true rfl, Nat.le_of_ble_eq_true rfl⟩) ?_
          obtain ⟨z80, ez80⟩ : ∃ q : Int32, q = (if (f_X4_above v4 (63 : Int64)) = (0 : Int32) then if (jlshr v75 v4.toInt32) = v3 then (0 : Int32) else (1 : Int32) else if v3 = (0 : Int64) then (0 : Int32) else (1 : Int32)) := ⟨_, rfl⟩
          have k81 : ∀ (v79 : Int32), v79 = z80 → ∀ (H : Heap) (locs : List Loc), va_P G vwCl (wM yy a u) H → va_D A (wM yy a u) → va_S A s.heap H locs → ∀ ls : Array Slot, lv_has ls 11 [(0, .ref (a 0)), (1, .int p0), (2, .int p1), (3, .int p2), (4, .int p3), (5, .long v3), (7, .long v4), (9, .long v75)] → W p l e rm_X4_low s m args below meth c H locs 0 0 (MQ below (gQi (wM yy a) (f_X4_low u p0 p1 p2 p3) G A) args s 0 0 A) (F0 m 630 ls [.int v79, .ref (a 0)]) := by
            intro v79 jz80 H locs hP hD hS ls hl
            have ev79 : v79 = z80 := jz80
            refine g_v (va_runV (As := [.int v79]) (rest := []) ⟨hx, hb, hml, hown, hts⟩ (c_X4_over l yy a u v79  G H.size) (cwV 1 hts gX4_low_X4_over rfl rfl rfl (by decide +kernel) ⟨Nat.le_of_ble_eq_true rfl, Nat.le_of_ble_eq_true rfl⟩) (g_preV eTrue_bl hK hE hP hD hS hA 0 rfl rfl) rfl rfl hl.1 rfl (lv_room (Nat.le_of_ble_eq_true rfl)) dX4_low_630 ⟨Nat.le_of_ble_eq_true rfl, Nat.le_of_ble_eq_true rfl⟩) hD hS hA (fun H locs hP hD hS => ?_)
            obtain ⟨u84, eu84⟩ : ∃ z, z = f_X4_over u v79 := ⟨_, rfl⟩
            have hP : va_P G vwCl (wM yy a u84) H := by rw [eu84]; exact hP
            have hD : va_D A (wM yy a u84) := by rw [eu84]; exact hD
            refine lv_goto (tgt := 715) hx hb dX4_low_633 (by decide) ?_
            exact k8 v75 u84 (ez7.trans (by have eu84 := eu84.symm; subst eu84; have ev79 := ev79.symm; subst ev79; have ez80 := ez80.symm; subst ez80; have ev75 := ev75.symm; subst ev75; have ez76 := ez76.symm; subst ez76; exact (if_neg c9).trans ((if_neg c16).trans ((if_neg c20).trans ((if_neg c23).trans ((if_neg c26).trans ((if_neg c33).trans ((if_neg c35).trans ((if_neg c42).trans ((if_neg c44).trans ((if_neg c46).trans ((if_neg c48).trans ((if_neg c50).trans ((if_neg c52).trans ((if_neg c58).trans ((if_neg c64).trans ((if_neg c71).trans ((if_pos c73).trans (rfl))))))))))))))))))).symm _ _ hP hD hS ls (lv_sub hl [0, 1, 2, 3, 4, 5, 6, 7] rfl)
          refine lv_if_eq (tgt := 613) hx hb dX4_low_595 (by decide) (fun c78 => ?_) (fun c78 => ?_)
          · refine lv_lload hx hb dX4_low_613 (lv_at hl 0 rfl) ?_
            refine lv_lload hx hb dX4_low_615 (lv_at hl 7 rfl) ?_
            refine lv_l2i (v := v4.toInt32) hx hb dX4_low_617 rfl ?_
            refine lv_lshr (v := jlshr v75 v4.toInt32) hx hb dX4_low_618 rfl ?_
            refine lv_lload hx hb dX4_low_619 (lv_at hl 6 rfl) ?_
            refine lc_eq (tgt := 629) hx hb dX4_low_621 dX4_low_622 (by decide) (fun c82 => ?_) (fun c82 => ?_)
            · refine lv_iconst (v := 0) hx hb dX4_low_629 (by decide) ?_
              exact k81 (0 : Int32) (ez80.trans (by exact (if_pos c78).trans ((if_pos c82).trans (rfl)))).symm _ _ hP hD hS ls (lv_sub hl [1, 2, 3, 4, 5, 6, 7, 0] rfl)
            · refine lv_iconst (v := 1) hx hb dX4_low_625 (by decide) ?_
              refine lv_goto (tgt := 630) hx hb dX4_low_626 (by decide) ?_
              exact k81 (1 : Int32) (ez80.trans (by exact (if_pos c78).trans ((if_neg c82).trans (rfl)))).symm _ _ hP hD hS ls (lv_sub hl [1, 2, 3, 4, 5, 6, 7, 0] rfl)
          · refine lv_lload hx hb dX4_low_598 (lv_at hl 6 rfl) ?_
            refine lv_lconst (v := 0) hx hb dX4_low_600 (by decide) ?_
            refine lc_eq (tgt := 609) hx hb dX4_low_601 dX4_low_602 (by decide) (fun c83 => ?_) (fun c83 => ?_)
            · refine lv_iconst (v := 0) hx hb dX4_low_609 (by decide) ?_
              refine lv_goto (tgt := 630) hx hb dX4_low_610 (by decide) ?_
              exact k81 (0 : Int32) (ez80.trans (by exact (if_neg c78).trans ((if_pos c83).trans (rfl)))).symm _ _ hP hD hS ls (lv_sub hl [1, 2, 3, 4, 5, 6, 7, 0] rfl)
            · refine lv_iconst (v := 1) hx hb dX4_low_605 (by decide) ?_
              refine lv_goto (tgt := 630) hx hb dX4_low_606 (by decide) ?_
              exact k81 (1 : Int32) (ez80.trans (by exact (if_neg c78).trans ((if_neg c83).trans (rfl)))).symm _ _ hP hD hS ls (lv_sub hl [1, 2, 3, 4, 5, 6, 7, 0] rfl)
        refine lv_if_eq (tgt := 578) hx hb dX4_low_571 (by decide) (fun c74 => ?_) (fun c74 => ?_)
        · refine lv_lload hx hb dX4_low_578 (lv_at hl 1 rfl) ?_
          refine lv_lload hx hb dX4_low_580 (lv_at hl 0 rfl) ?_
          refine lv_l2i (v := v4.toInt32) hx hb dX4_low_582 rfl ?_
          refine lv_lshl (v := jlshl v3 v4.toInt32) hx hb dX4_low_583 rfl ?_
          exact k77 (jlshl v3 v4.toInt32) (ez76.trans (by exact (if_pos c74).trans (rfl))).symm _ _ hP hD hS ls (lv_sub hl [2, 3, 4, 5, 6, 1, 0] rfl)
        · refine lv_lconst (v := 0) hx hb dX4_low_574 (by decide) ?_
          refine lv_goto (tgt := 584) hx hb dX4_low_575 (by decide) ?_
          exact k77 (0 : Int64) (ez76.trans (by exact (if_neg c74).trans (rfl))).symm _ _ hP hD hS ls (lv_sub hl [2, 3, 4, 5, 6, 1, 0] rfl)
      by_cases c85 : (p0 &&& (254 : Int32)) = 58
      · refine sw_t hx hb 34 (k := 58) (tgt := 636) dX4_low_43 c85 (by decide) rfl (by decide) ?_
        refine lv_lload hx hb dX4_low_636 (lv_at hl 0 rfl) ?_
        refine lv_ldc2 hx hb hown (hts (.constantLong RX4 267 (63)) (by decide +kernel)) dX4_low_638 ?_
        refine p_i (W.runS (As := [.long v4, .long (63 : Int64)]) (rest := []) ⟨hx, hb, hml, hown, hts⟩ (c_X4_above l v4 (63 : Int64) ) (va_cwS 2 hts gX4_low_X4_above rfl rfl rfl (by decide +kernel) ⟨Nat.le_of_ble_eq_true rfl, Nat.le_of_ble_eq_true rfl⟩) p_preT rfl rfl hl.1 rfl (lv_room (Nat.le_of_ble_eq_true rfl)) dX4_low_641 ⟨Nat.le_of_ble_eq_true rfl, Nat.le_of_ble_eq_true rfl⟩) ?_
        obtain ⟨z88, ez88⟩ : ∃ q : Int64, q = (if (f_X4_above v4 (63 : Int64)) = (0 : Int32) then jlshl v3 v4.toInt32 else (0 : Int64)) := ⟨_, rfl⟩
        have k89 : ∀ (v87 : Int64), v87 = z88 → ∀ (H : Heap) (locs : List Loc), va_P G vwCl (wM yy a u) H → va_D A (wM yy a u) → va_S A s.heap H locs → ∀ ls : Array Slot, lv_has ls 11 [(0, .ref (a 0)), (1, .int p0), (2, .int p1), (3, .int p2), (4, .int p3), (5, .long v3), (7, .long v4)] → W p l e rm_X4_low s m args below meth c H locs 0 0 (MQ below (gQi (wM yy a) (f_X4_low u p0 p1 p2 p3) G A) args s 0 0 A) (F0 m 657 ls [.long v87]) := by
          intro v87 jz88 H locs hP hD hS ls hl
          have ev87 : v87 = z88 := jz88
          refine lv_lstore (lv' := [(9, .long v87), (0, .ref (a 0)), (1, .int p0), (2, .int p1), (3, .int p2), (4, .int p3), (5, .long v3), (7, .long v4)]) hx hb dX4_low_657 hl (by decide) rfl (fun ls hl => ?_)
          refine lv_goto (tgt := 715) hx hb dX4_low_659 (by decide) ?_
          exact k8 v87 u (ez7.trans (by have ev87 := ev87.symm; subst ev87; have ez88 := ez88.symm; subst ez88; exact (if_neg c9).trans ((if_neg c16).trans ((if_neg c20).trans ((if_neg c23).trans ((if_neg c26).trans ((if_neg c33).trans ((if_neg c35).trans ((if_neg c42).trans ((if_neg c44).trans ((if_neg c46).trans ((if_neg c48).trans ((if_neg c50).trans ((if_neg c52).trans ((if_neg c58).trans ((if_neg c64).trans ((if_neg c71).trans ((if_neg c73).trans ((if_pos c85).trans (rfl)))))))))))))))))))).symm _ _ hP hD hS ls (lv_sub hl [1, 2, 3, 4, 5, 6, 7, 0] rfl)
        refine lv_if_eq (tgt := 651) hx hb dX4_low_644 (by decide) (fun c86 => ?_) (fun c86 => ?_)
        · refine lv_lload hx hb dX4_low_651 (lv_at hl 1 rfl) ?_
          refine lv_lload hx hb dX4_low_653 (lv_at hl 0 rfl) ?_
          refine lv_l2i (v := v4.toInt32) hx hb dX4_low_655 rfl ?_
          refine lv_lshl (v := jlshl v3 v4.toInt32) hx hb dX4_low_656 rfl ?_
          exact k89 (jlshl v3 v4.toInt32) (ez88.trans (by exact (if_pos c86).trans (rfl))).symm _ _ hP hD hS ls (lv_sub hl [2, 3, 4, 5, 6, 1, 0] rfl)
        · refine lv_lconst (v := 0) hx hb dX4_low_647 (by decide) ?_
          refine lv_goto (tgt := 657) hx hb dX4_low_648 (by decide) ?_
          exact k89 (0 : Int64) (ez88.trans (by exact (if_neg c86).trans (rfl))).symm _ _ hP hD hS ls (lv_sub hl [2, 3, 4, 5, 6, 1, 0] rfl)
      by_cases c90 : (p0 &&& (254 : Int32)) = 60
      · refine sw_t hx hb 36 (k := 60) (tgt := 662) dX4_low_43 c90 (by decide) rfl (by decide) ?_
        refine lv_lload hx hb dX4_low_662 (lv_at hl 0 rfl) ?_
        refine lv_ldc2 hx hb hown (hts (.constantLong RX4 267 (63)) (by decide +kernel)) dX4_low_664 ?_
        refine p_i (W.runS (As := [.long v4, .long (63 : Int64)]) (rest := []) ⟨hx, hb, hml, hown, hts⟩ (c_X4_above l v4 (63 : Int64) ) (va_cwS 2 hts gX4_low_X4_above rfl rfl rfl (by decide +kernel) ⟨Nat.le_of_ble_eq_true rfl, Nat.le_of_ble_eq_true rfl⟩) p_preT rfl rfl hl.1 rfl (lv_room (Nat.le_of_ble_eq_true rfl)) dX4_low_667 ⟨Nat.le_of_ble_eq_true rfl, Nat.le_of_ble_eq_true rfl⟩) ?_
        obtain ⟨z93, ez93⟩ : ∃ q : Int64, q = (if (f_X4_above v4 (63 : Int64)) = (0 : Int32) then jlshr v3 v4.toInt32 else jlshr v3 (63 : Int32)) := ⟨_, rfl⟩
        have k94 : ∀ (v92 : Int64), v92 = z93 → ∀ (H : Heap) (locs : List Loc), va_P G vwCl (wM yy a u) H → va_D A (wM yy a u) → va_S A s.heap H locs → ∀ ls : Array Slot, lv_has ls 11 [(0, .ref (a 0)), (1, .int p0), (2, .int p1), (3, .int p2), (4, .int p3), (5, .long v3), (7, .long v4)] → W p l e rm_X4_low s m args below meth c H locs 0 0 (MQ below (gQi (wM yy a) (f_X4_low u p0 p1 p2 p3) G A) args s 0 0 A) (F0 m 687 ls [.long v92]) := by
          intro v92 jz93 H locs hP hD hS ls hl
          have ev92 : v92 = z93 := jz93
          refine lv_lstore (lv' := [(9, .long v92), (0, .ref (a 0)), (1, .int p0), (2, .int p1), (3, .int p2), (4, .int p3), (5, .long v3), (7, .long v4)]) hx hb dX4_low_687 hl (by decide) rfl (fun ls hl => ?_)
          refine lv_goto (tgt := 715) hx hb dX4_low_689 (by decide) ?_
          exact k8 v92 u (ez7.trans (by have ev92 := ev92.symm; subst ev92; have ez93 := ez93.symm; subst ez93; exact (if_neg c9).trans ((if_neg c16).trans ((if_neg c20).trans ((if_neg c23).trans ((if_neg c26).trans ((if_neg c33).trans ((if_neg c35).trans ((if_neg c42).trans ((if_neg c44).trans ((if_neg c46).trans ((if_neg c48).trans ((if_neg c50).trans ((if_neg c52).trans ((if_neg c58).trans ((if_neg c64).trans ((if_neg c71).trans ((if_neg c73).trans ((if_neg c85).trans ((if_pos c90).trans (rfl))))))))))))))))))))).symm _ _ hP hD hS ls (lv_sub hl [1, 2, 3, 4, 5, 6, 7, 0] rfl)
        refine lv_if_eq (tgt := 681) hx hb dX4_low_670 (by decide) (fun c91 => ?_) (fun c91 => ?_)
        · refine lv_lload hx hb dX4_low_681 (lv_at hl 1 rfl) ?_
          refine lv_lload hx hb dX4_low_683 (lv_at hl 0 rfl) ?_
          refine lv_l2i (v := v4.toInt32) hx hb dX4_low_685 rfl ?_
          refine lv_lshr (v := jlshr v3 v4.toInt32) hx hb dX4_low_686 rfl ?_
          exact k94 (jlshr v3 v4.toInt32) (ez93.trans (by exact (if_pos c91).trans (rfl))).symm _ _ hP hD hS ls (lv_sub hl [2, 3, 4, 5, 6, 1, 0] rfl)
        · refine lv_lload hx hb dX4_low_673 (lv_at hl 1 rfl) ?_
          refine lv_bipush (v := 63) hx hb dX4_low_675 (by decide) ?_
          refine lv_lshr (v := jlshr v3 (63 : Int32)) hx hb dX4_low_677 rfl ?_
          refine lv_goto (tgt := 687) hx hb dX4_low_678 (by decide) ?_
          exact k94 (jlshr v3 (63 : Int32)) (ez93.trans (by exact (if_neg c91).trans (rfl))).symm _ _ hP hD hS ls (lv_sub hl [2, 3, 4, 5, 6, 1, 0] rfl)
      refine sw_td hx hb [24, 26, 28, 30, 32, 34, 36, 38, 40, 42, 44, 46, 48, 50, 52, 54, 56, 58, 60] (tgt := 692) dX4_low_43 (List.forall_mem_cons.mpr ⟨c9, (List.forall_mem_cons.mpr ⟨c16, (List.forall_mem_cons.mpr ⟨c20, (List.forall_mem_cons.mpr ⟨c23, (List.forall_mem_cons.mpr ⟨c26, (List.forall_mem_cons.mpr ⟨c33, (List.forall_mem_cons.mpr ⟨c35, (List.forall_mem_cons.mpr ⟨c42, (List.forall_mem_cons.mpr ⟨c44, (List.forall_mem_cons.mpr ⟨c46, (List.forall_mem_cons.mpr ⟨c48, (List.forall_mem_cons.mpr ⟨c50, (List.forall_mem_cons.mpr ⟨c52, (List.forall_mem_cons.mpr ⟨c58, (List.forall_mem_cons.mpr ⟨c64, (List.forall_mem_cons.mpr ⟨c71, (List.forall_mem_cons.mpr ⟨c73, (List.forall_mem_cons.mpr ⟨c85, (List.forall_mem_cons.mpr ⟨c90, (fun _ h => absurd h List.not_mem_nil)⟩)⟩)⟩)⟩)⟩)⟩)⟩)⟩)⟩)⟩)⟩)⟩)⟩)⟩)⟩)⟩)⟩)⟩)⟩) (by decide) (by decide) (by decide) ?_
      refine lv_lload hx hb dX4_low_692 (lv_at hl 0 rfl) ?_
      refine lv_ldc2 hx hb hown (hts (.constantLong RX4 267 (63)) (by decide +kernel)) dX4_low_694 ?_
      refine p_i (W.runS (As := [.long v4, .long (63 : Int64)]) (rest := []) ⟨hx, hb, hml, hown, hts⟩ (c_X4_above l v4 (63 : Int64) ) (va_cwS 2 hts gX4_low_X4_above rfl rfl rfl (by decide +kernel) ⟨Nat.le_of_ble_eq_true rfl, Nat.le_of_ble_eq_true rfl⟩) p_preT rfl rfl hl.1 rfl (lv_room (Nat.le_of_ble_eq_true rfl)) dX4_low_697 ⟨Nat.le_of_ble_eq_true rfl, Nat.le_of_ble_eq_true rfl⟩) ?_
      obtain ⟨z97, ez97⟩ : ∃ q : Int64, q = (if (f_X4_above v4 (63 : Int64)) = (0 : Int32) then jlushr v3 v4.toInt32 else (0 : Int64)) := ⟨_, rfl⟩
      have k98 : ∀ (v96 : Int64), v96 = z97 → ∀ (H : Heap) (locs : List Loc), va_P G vwCl (wM yy a u) H → va_D A (wM yy a u) → va_S A s.heap H locs → ∀ ls : Array Slot, lv_has ls 11 [(0, .ref (a 0)), (1, .int p0), (2, .int p1), (3, .int p2), (4, .int p3), (5, .long v3), (7, .long v4)] → W p l e rm_X4_low s m args below meth c H locs 0 0 (MQ below (gQi (wM yy a) (f_X4_low u p0 p1 p2 p3) G A) args s 0 0 A) (F0 m 713 ls [.long v96]) := by
        intro v96 jz97 H locs hP hD hS ls hl
        have ev96 : v96 = z97 := jz97
        refine lv_lstore (lv' := [(9, .long v96), (0, .ref (a 0)), (1, .int p0), (2, .int p1), (3, .int p2), (4, .int p3), (5, .long v3), (7, .long v4)]) hx hb dX4_low_713 hl (by decide) rfl (fun ls hl => ?_)
        exact k8 v96 u (ez7.trans (by have ev96 := ev96.symm; subst ev96; have ez97 := ez97.symm; subst ez97; exact (if_neg c9).trans ((if_neg c16).trans ((if_neg c20).trans ((if_neg c23).trans ((if_neg c26).trans ((if_neg c33).trans ((if_neg c35).trans ((if_neg c42).trans ((if_neg c44).trans ((if_neg c46).trans ((if_neg c48).trans ((if_neg c50).trans ((if_neg c52).trans ((if_neg c58).trans ((if_neg c64).trans ((if_neg c71).trans ((if_neg c73).trans ((if_neg c85).trans ((if_neg c90).trans (rfl))))))))))))))))))))).symm _ _ hP hD hS ls (lv_sub hl [1, 2, 3, 4, 5, 6, 7, 0] rfl)
      refine lv_if_eq (tgt := 707) hx hb dX4_low_700 (by decide) (fun c95 => ?_) (fun c95 => ?_)
      · refine lv_lload hx hb dX4_low_707 (lv_at hl 1 rfl) ?_
        refine lv_lload hx hb dX4_low_709 (lv_at hl 0 rfl) ?_
        refine lv_l2i (v := v4.toInt32) hx hb dX4_low_711 rfl ?_
        refine lv_lushr (v := jlushr v3 v4.toInt32) hx hb dX4_low_712 rfl ?_
        exact k98 (jlushr v3 v4.toInt32) (ez97.trans (by exact (if_pos c95).trans (rfl))).symm _ _ hP hD hS ls (lv_sub hl [2, 3, 4, 5, 6, 1, 0] rfl)
      · refine lv_lconst (v := 0) hx hb dX4_low_703 (by decide) ?_
        refine lv_goto (tgt := 713) hx hb dX4_low_704 (by decide) ?_
        exact k98 (0 : Int64) (ez97.trans (by exact (if_neg c95).trans (rfl))).symm _ _ hP hD hS ls (lv_sub hl [2, 3, 4, 5, 6, 1, 0] rfl)
    · refine lv_iconst (v := 2) hx hb dX4_low_19 (by decide) ?_
      exact g_iret (by exact (if_neg c1).trans ((if_neg c2).trans (rfl))) hx hb hr hP hD hS hlocks dX4_low_20
  · refine lv_aload_n hx hb dX4_low_4 rfl (lv_at hl 0 rfl) ?_
    refine lv_iload_n hx hb dX4_low_5 rfl (lv_at hl 2 rfl) ?_
    refine lv_iload_n hx hb dX4_low_6 rfl (lv_at hl 3 rfl) ?_
    refine lv_iload hx hb dX4_low_7 (lv_at hl 4 rfl) ?_
    refine g_i (va_runV (As := [.int p1, .int p2, .int p3]) (rest := []) ⟨hx, hb, hml, hown, hts⟩ (c_X4_trap l yy a u p1 p2 p3 (h2) (by exact h3) G H.size) (cwV 3 hts gX4_low_X4_trap rfl rfl rfl (by decide +kernel) ⟨Nat.le_of_ble_eq_true rfl, Nat.le_of_ble_eq_true rfl⟩) (g_preV eTrue_bl hK hE hP hD hS hA 0 rfl rfl) rfl rfl hl.1 rfl (lv_room (Nat.le_of_ble_eq_true rfl)) dX4_low_9 ⟨Nat.le_of_ble_eq_true rfl, Nat.le_of_ble_eq_true rfl⟩) hD hS hA (fun H locs hP hD hS => ?_)
    refine lv_topi (fun v101 ev101 => ?_)
    obtain ⟨u102, eu102⟩ : ∃ z, z = (f_X4_trap u p1 p2 p3).2 := ⟨_, rfl⟩
    have hP : va_P G vwCl (wM yy a u102) H := by rw [eu102]; exact hP
    have hD : va_D A (wM yy a u102) := by rw [eu102]; exact hD
    exact g_iret (by have eu102 := eu102.symm; subst eu102; have ev101 := ev101.symm; subst ev101; exact (if_pos c1).trans (rfl)) hx hb hr hP hD hS hlocks dX4_low_12
