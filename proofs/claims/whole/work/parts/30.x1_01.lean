def f_X0_store (u : XS) (p0 : Int64) (p1 : Int32) (p2 : Int64) : XS :=
  let v1 : Int32 := f_X0_shiftOf p0 p1;
  let v2 : Int64 := (x_oc u (f_X0_octaOf p0).toNatClampNeg) &&& ((jlshl (f_X0_maskOf p1) v1) ^^^ (-1 : Int64));
  let u3 : XS := sx_oc u (vp_updL (x_oc u) (f_X0_octaOf p0).toNatClampNeg (v2 ||| (jlshl (p2 &&& (f_X0_maskOf p1)) v1)));
  u3
abbrev rm_X0_store : Room := { frames := 1, cells := 0, slots := 0, locals := 23 }
set_option maxRecDepth 20000 in
theorem iw_X0_store_X0 : ∀ w ∈ wsX00, w ∈ wsX0_store := by decide +kernel
set_option maxHeartbeats 4000000 in
set_option maxRecDepth 100000 in
theorem c_X0_store (l : Launch) (yy : Nat → ClassId) (a : Nat → Nat) (u : XS) (p0 : Int64) (p1 : Int32) (p2 : Int64) : gMv l yX0_store wsX0_store rm_X0_store eX (sT yy) (wX yy a) [.ref (a 5), .long p0, .int p1, .long p2] u (f_X0_store u p0 p1 p2) := by
  refine gm_ofW (Qc := gQv (wX yy a) (f_X0_store u p0 p1 p2)) (by decide) rfl (Nat.le_of_ble_eq_true rfl) ?_
  intro G A p e s m args below meth c hx hb hr hml hts hown hlocks hK hE hA H locs hP hD hS ls hl
  have hl : lv_has ls 9 [(0, .ref (a 5)), (1, .long p0), (3, .int p1), (4, .long p2)] := hl
  refine lv_lload_n hx hb dX0_store_0 rfl (lv_at hl 1 rfl) ?_
  refine lv_iload_n hx hb dX0_store_1 rfl (lv_at hl 2 rfl) ?_
  refine p_i (W.runS (As := [.long p0, .int p1]) (rest := []) ⟨hx, hb, hml, hown, hts⟩ (c_X0_shiftOf l p0 p1 ) (va_cwS 2 hts gX0_store_X0_shiftOf rfl rfl rfl (by decide +kernel) ⟨Nat.le_of_ble_eq_true rfl, Nat.le_of_ble_eq_true rfl⟩) p_preT rfl rfl hl.1 rfl (lv_room (Nat.le_of_ble_eq_true rfl)) dX0_store_2 ⟨Nat.le_of_ble_eq_true rfl, Nat.le_of_ble_eq_true rfl⟩) ?_
  refine lv_topi (fun v1 ev1 => ?_)
  refine lv_istore (lv' := [(6, .int v1), (0, .ref (a 5)), (1, .long p0), (3, .int p1), (4, .long p2)]) hx hb dX0_store_5 hl (by decide) rfl (fun ls hl => ?_)
  refine lv_aload_n hx hb dX0_store_7 rfl (lv_at hl 1 rfl) ?_
  refine va_get (D := G) (ci := 0) (v := .ref (a 6)) (C := RX0) (T := TX0) (N := 1) hx hb hts iw_X0_store_X0 hown hK hP 5 rfl rfl 0 (by decide) (hts (.fieldLink RX0 9 "MixBench$Memory" "octas" "[J") (by decide +kernel)) (fun _ h9 => h9) rfl dX0_store_8 ?_
  refine lv_lload_n hx hb dX0_store_11 rfl (lv_at hl 2 rfl) ?_
  refine p_i (W.runS (As := [.long p0]) (rest := [.ref (a 6)]) ⟨hx, hb, hml, hown, hts⟩ (c_X0_octaOf l p0 ) (va_cwS 1 hts gX0_store_X0_octaOf rfl rfl rfl (by decide +kernel) ⟨Nat.le_of_ble_eq_true rfl, Nat.le_of_ble_eq_true rfl⟩) p_preT rfl rfl hl.1 rfl (lv_room (Nat.le_of_ble_eq_true rfl)) dX0_store_12 ⟨Nat.le_of_ble_eq_true rfl, Nat.le_of_ble_eq_true rfl⟩) ?_
  refine va_lald hx hb hK hP 6 0 rfl rfl (in_octaOf _) dX0_store_15 ?_
  refine lv_iload_n hx hb dX0_store_16 rfl (lv_at hl 3 rfl) ?_
  refine p_l (W.runS (As := [.int p1]) (rest := [.long (x_oc u (f_X0_octaOf p0).toNatClampNeg)]) ⟨hx, hb, hml, hown, hts⟩ (c_X0_maskOf l p1 ) (va_cwS 1 hts gX0_store_X0_maskOf rfl rfl rfl (by decide +kernel) ⟨Nat.le_of_ble_eq_true rfl, Nat.le_of_ble_eq_true rfl⟩) p_preT rfl rfl hl.1 rfl (lv_room (Nat.le_of_ble_eq_true rfl)) dX0_store_17 ⟨Nat.le_of_ble_eq_true rfl, Nat.le_of_ble_eq_true rfl⟩) ?_
  refine lv_iload hx hb dX0_store_20 (lv_at hl 0 rfl) ?_
  refine lv_lshl (v := jlshl (f_X0_maskOf p1) v1) hx hb dX0_store_22 rfl ?_
  refine lv_ldc2 hx hb hown (hts (.constantLong RX0 15 (-1)) (by decide +kernel)) dX0_store_23 ?_
  refine lv_lxor hx hb dX0_store_26 ?_
  refine lv_land hx hb dX0_store_27 ?_
  refine lv_topl (fun v2 ev2 => ?_)
  refine lv_lstore (lv' := [(7, .long v2), (6, .int v1), (0, .ref (a 5)), (1, .long p0), (3, .int p1), (4, .long p2)]) hx hb dX0_store_28 hl (by decide) rfl (fun ls hl => ?_)
  refine lv_aload_n hx hb dX0_store_30 rfl (lv_at hl 2 rfl) ?_
  refine va_get (D := G) (ci := 0) (v := .ref (a 6)) (C := RX0) (T := TX0) (N := 1) hx hb hts iw_X0_store_X0 hown hK hP 5 rfl rfl 0 (by decide) (hts (.fieldLink RX0 9 "MixBench$Memory" "octas" "[J") (by decide +kernel)) (fun _ h9 => h9) rfl dX0_store_31 ?_
  refine lv_lload_n hx hb dX0_store_34 rfl (lv_at hl 3 rfl) ?_
  refine p_i (W.runS (As := [.long p0]) (rest := [.ref (a 6)]) ⟨hx, hb, hml, hown, hts⟩ (c_X0_octaOf l p0 ) (va_cwS 1 hts gX0_store_X0_octaOf rfl rfl rfl (by decide +kernel) ⟨Nat.le_of_ble_eq_true rfl, Nat.le_of_ble_eq_true rfl⟩) p_preT rfl rfl hl.1 rfl (lv_room (Nat.le_of_ble_eq_true rfl)) dX0_store_35 ⟨Nat.le_of_ble_eq_true rfl, Nat.le_of_ble_eq_true rfl⟩) ?_
  refine lv_lload hx hb dX0_store_38 (lv_at hl 0 rfl) ?_
  refine lv_lload hx hb dX0_store_40 (lv_at hl 5 rfl) ?_
  refine lv_iload_n hx hb dX0_store_42 rfl (lv_at hl 4 rfl) ?_
  refine p_l (W.runS (As := [.int p1]) (rest := [.long p2, .long v2, .int (f_X0_octaOf p0), .ref (a 6)]) ⟨hx, hb, hml, hown, hts⟩ (c_X0_maskOf l p1 ) (va_cwS 1 hts gX0_store_X0_maskOf rfl rfl rfl (by decide +kernel) ⟨Nat.le_of_ble_eq_true rfl, Nat.le_of_ble_eq_true rfl⟩) p_preT rfl rfl hl.1 rfl (lv_room (Nat.le_of_ble_eq_true rfl)) dX0_store_43 ⟨Nat.le_of_ble_eq_true rfl, Nat.le_of_ble_eq_true rfl⟩) ?_
  refine lv_land hx hb dX0_store_46 ?_
  refine lv_iload hx hb dX0_store_47 (lv_at hl 1 rfl) ?_
  refine lv_lshl (v := jlshl (p2 &&& (f_X0_maskOf p1)) v1) hx hb dX0_store_49 rfl ?_
  refine lv_lor hx hb dX0_store_50 ?_
  refine va_last hx hb hK hP hD hS 6 0 rfl rfl (in_octaOf _) dX0_store_51 (fun H locs hP hD hS => ?_)
  obtain ⟨u3, eu3⟩ : ∃ z, z = sx_oc u (vp_updL (x_oc u) (f_X0_octaOf p0).toNatClampNeg (v2 ||| (jlshl (p2 &&& (f_X0_maskOf p1)) v1))) := ⟨_, rfl⟩
  have hP : va_P G vwCl (wX yy a u3) H := by rw [eu3]; exact hP
  have hD : va_D A (wX yy a u3) := by rw [eu3]; exact hD
  exact g_vret (by have eu3 := eu3.symm; subst eu3; have ev2 := ev2.symm; subst ev2; have ev1 := ev1.symm; subst ev1; exact rfl) hx hb hr hP hD hS hlocks dX0_store_52
