def f_X0_load (u : XS) (p0 : Int64) (p1 : Int32) : Int64 :=
  let v1 : Int64 := (jlushr (x_oc u (f_X0_octaOf p0).toNatClampNeg) (f_X0_shiftOf p0 p1)) &&& (f_X0_maskOf p1);
  v1
abbrev rm_X0_load : Room := { frames := 1, cells := 0, slots := 0, locals := 23 }
set_option maxRecDepth 20000 in
theorem iw_X0_load_X0 : ∀ w ∈ wsX00, w ∈ wsX0_load := by decide +kernel
set_option maxHeartbeats 4000000 in
set_option maxRecDepth 100000 in
theorem c_X0_load (l : Launch) (yy : Nat → ClassId) (a : Nat → Nat) (u : XS) (p0 : Int64) (p1 : Int32) : gMl l yX0_load wsX0_load rm_X0_load eX (sT yy) (wX yy a) [.ref (a 5), .long p0, .int p1] u ((f_X0_load u p0 p1, u)) := by
  refine gm_ofW (Qc := gQl (wX yy a) ((f_X0_load u p0 p1, u))) (by decide) rfl (Nat.le_of_ble_eq_true rfl) ?_
  intro G A p e s m args below meth c hx hb hr hml hts hown hlocks hK hE hA H locs hP hD hS ls hl
  have hl : lv_has ls 4 [(0, .ref (a 5)), (1, .long p0), (3, .int p1)] := hl
  refine lv_aload_n hx hb dX0_load_0 rfl (lv_at hl 0 rfl) ?_
  refine va_get (D := G) (ci := 0) (v := .ref (a 6)) (C := RX0) (T := TX0) (N := 1) hx hb hts iw_X0_load_X0 hown hK hP 5 rfl rfl 0 (by decide) (hts (.fieldLink RX0 9 "MixBench$Memory" "octas" "[J") (by decide +kernel)) (fun _ h9 => h9) rfl dX0_load_1 ?_
  refine lv_lload_n hx hb dX0_load_4 rfl (lv_at hl 1 rfl) ?_
  refine p_i (W.runS (As := [.long p0]) (rest := [.ref (a 6)]) ⟨hx, hb, hml, hown, hts⟩ (c_X0_octaOf l p0 ) (va_cwS 1 hts gX0_load_X0_octaOf rfl rfl rfl (by decide +kernel) ⟨Nat.le_of_ble_eq_true rfl, Nat.le_of_ble_eq_true rfl⟩) p_preT rfl rfl hl.1 rfl (lv_room (Nat.le_of_ble_eq_true rfl)) dX0_load_5 ⟨Nat.le_of_ble_eq_true rfl, Nat.le_of_ble_eq_true rfl⟩) ?_
  refine va_lald hx hb hK hP 6 0 rfl rfl (in_octaOf _) dX0_load_8 ?_
  refine lv_lload_n hx hb dX0_load_9 rfl (lv_at hl 1 rfl) ?_
  refine lv_iload_n hx hb dX0_load_10 rfl (lv_at hl 2 rfl) ?_
  refine p_i (W.runS (As := [.long p0, .int p1]) (rest := [.long (x_oc u (f_X0_octaOf p0).toNatClampNeg)]) ⟨hx, hb, hml, hown, hts⟩ (c_X0_shiftOf l p0 p1 ) (va_cwS 2 hts gX0_load_X0_shiftOf rfl rfl rfl (by decide +kernel) ⟨Nat.le_of_ble_eq_true rfl, Nat.le_of_ble_eq_true rfl⟩) p_preT rfl rfl hl.1 rfl (lv_room (Nat.le_of_ble_eq_true rfl)) dX0_load_11 ⟨Nat.le_of_ble_eq_true rfl, Nat.le_of_ble_eq_true rfl⟩) ?_
  refine lv_lushr (v := jlushr (x_oc u (f_X0_octaOf p0).toNatClampNeg) (f_X0_shiftOf p0 p1)) hx hb dX0_load_14 rfl ?_
  refine lv_iload_n hx hb dX0_load_15 rfl (lv_at hl 2 rfl) ?_
  refine p_l (W.runS (As := [.int p1]) (rest := [.long (jlushr (x_oc u (f_X0_octaOf p0).toNatClampNeg) (f_X0_shiftOf p0 p1))]) ⟨hx, hb, hml, hown, hts⟩ (c_X0_maskOf l p1 ) (va_cwS 1 hts gX0_load_X0_maskOf rfl rfl rfl (by decide +kernel) ⟨Nat.le_of_ble_eq_true rfl, Nat.le_of_ble_eq_true rfl⟩) p_preT rfl rfl hl.1 rfl (lv_room (Nat.le_of_ble_eq_true rfl)) dX0_load_16 ⟨Nat.le_of_ble_eq_true rfl, Nat.le_of_ble_eq_true rfl⟩) ?_
  refine lv_land hx hb dX0_load_19 ?_
  refine lv_topl (fun v1 ev1 => ?_)
  exact g_lret (s_ro (by have ev1 := ev1.symm; subst ev1; exact rfl)) hx hb hr hP hD hS hlocks dX0_load_20
