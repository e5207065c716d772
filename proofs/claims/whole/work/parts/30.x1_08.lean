def f_X3_quotient (u : XS) (p0 : Int64) (p1 : Int64) : Int64 × XS :=
  if p1 = (0 : Int64) then
    let u10 : XS := f_X3_raise u (128 : Int64) (1 : Int32);
    let u11 : XS := sx_sp u10 (vp_updL (x_sp u10) (6 : Int32).toNatClampNeg p0);
    ((0 : Int64), u11)
  else
    let z4 : Int32 := (if p0 = (-9223372036854775808 : Int64) then if p1 = (-1 : Int64) then (1 : Int32) else (0 : Int32) else (0 : Int32));
    let v3 : Int32 := z4;
    let u7 : XS := f_X3_raise u (64 : Int64) v3;
    let v8 : Int64 := f_J9_floorDiv_f86c9 p0 p1;
    let u9 : XS := sx_sp u7 (vp_updL (x_sp u7) (6 : Int32).toNatClampNeg (p0 - (p1 * v8)));
    (v8, u9)
abbrev rm_X3_quotient : Room := { frames := 1, cells := 0, slots := 0, locals := 25 }
set_option maxRecDepth 20000 in
theorem iw_X3_quotient_X3 : ∀ w ∈ wsX30, w ∈ wsX3_quotient := by decide +kernel
set_option maxHeartbeats 4000000 in
set_option maxRecDepth 100000 in
theorem c_X3_quotient (l : Launch) (yy : Nat → ClassId) (a : Nat → Nat) (u : XS) (p0 : Int64) (p1 : Int64) : gMl l yX3_quotient wsX3_quotient rm_X3_quotient eX (sT yy) (wX yy a) [.ref (a 0), .long p0, .long p1] u (f_X3_quotient u p0 p1) := by
  refine gm_ofW (Qc := gQl (wX yy a) (f_X3_quotient u p0 p1)) (by decide) rfl (Nat.le_of_ble_eq_true rfl) ?_
  intro G A p e s m args below meth c hx hb hr hml hts hown hlocks hK hE hA H locs hP hD hS ls hl
  have hl : lv_has ls 7 [(0, .ref (a 0)), (1, .long p0), (3, .long p1)] := hl
  refine lv_lload_n hx hb dX3_quotient_0 rfl (lv_at hl 2 rfl) ?_
  refine lv_lconst (v := 0) hx hb dX3_quotient_1 (by decide) ?_
  refine lc_ne (tgt := 24) hx hb dX3_quotient_2 dX3_quotient_3 (by decide) (fun c1 => ?_) (fun c1 => ?_)
  · refine lv_aload_n hx hb dX3_quotient_24 rfl (lv_at hl 0 rfl) ?_
    refine lv_ldc2 hx hb hown (hts (.constantLong RX3 199 (64)) (by decide +kernel)) dX3_quotient_25 ?_
    refine lv_lload_n hx hb dX3_quotient_28 rfl (lv_at hl 1 rfl) ?_
    refine lv_ldc2 hx hb hown (hts (.constantLong RX3 221 (-9223372036854775808)) (by decide +kernel)) dX3_quotient_29 ?_
    obtain ⟨z4, ez4⟩ : ∃ q : Int32, q = (if p0 = (-9223372036854775808 : Int64) then if p1 = (-1 : Int64) then (1 : Int32) else (0 : Int32) else (0 : Int32)) := ⟨_, rfl⟩
    have k5 : ∀ (v3 : Int32), v3 = z4 → ∀ (H : Heap) (locs : List Loc), va_P G vwCl (wX yy a u) H → va_D A (wX yy a u) → va_S A s.heap H locs → ∀ ls : Array Slot, lv_has ls 7 [(0, .ref (a 0)), (1, .long p0), (3, .long p1)] → W p l e rm_X3_quotient s m args below meth c H locs 0 0 (MQ below (gQl (wX yy a) (f_X3_quotient u p0 p1) G A) args s 0 0 A) (F0 m 49 ls [.int v3, .long (64 : Int64), .ref (a 0)]) := by
      intro v3 jz4 H locs hP hD hS ls hl
      have ev3 : v3 = z4 := jz4
      refine g_v (va_runV (As := [.long (64 : Int64), .int v3]) (rest := []) ⟨hx, hb, hml, hown, hts⟩ (c_X3_raise l yy a u (64 : Int64) v3  G H.size) (cwV 2 hts gX3_quotient_X3_raise rfl rfl rfl (by decide +kernel) ⟨Nat.le_of_ble_eq_true rfl, Nat.le_of_ble_eq_true rfl⟩) (g_preV eX_bl hK hE hP hD hS hA 0 rfl rfl) rfl rfl hl.1 rfl (lv_room (Nat.le_of_ble_eq_true rfl)) dX3_quotient_49 ⟨Nat.le_of_ble_eq_true rfl, Nat.le_of_ble_eq_true rfl⟩) hD hS hA (fun H locs hP hD hS => ?_)
      obtain ⟨u7, eu7⟩ : ∃ z, z = f_X3_raise u (64 : Int64) v3 := ⟨_, rfl⟩
      have hP : va_P G vwCl (wX yy a u7) H := by rw [eu7]; exact hP
      have hD : va_D A (wX yy a u7) := by rw [eu7]; exact hD
      refine lv_lload_n hx hb dX3_quotient_52 rfl (lv_at hl 1 rfl) ?_
      refine lv_lload_n hx hb dX3_quotient_53 rfl (lv_at hl 2 rfl) ?_
      refine p_l (W.runS (As := [.long p0, .long p1]) (rest := []) ⟨hx, hb, hml, hown, hts⟩ (c_J9_floorDiv_f86c9 l p0 p1 (c1)) (va_cwS 2 hts gX3_quotient_J9_floorDiv_f86c9 rfl rfl rfl (by decide +kernel) ⟨Nat.le_of_ble_eq_true rfl, Nat.le_of_ble_eq_true rfl⟩) p_preT rfl rfl hl.1 rfl (lv_room (Nat.le_of_ble_eq_true rfl)) dX3_quotient_54 ⟨Nat.le_of_ble_eq_true rfl, Nat.le_of_ble_eq_true rfl⟩) ?_
      refine lv_topl (fun v8 ev8 => ?_)
      refine lv_lstore (lv' := [(5, .long v8), (0, .ref (a 0)), (1, .long p0), (3, .long p1)]) hx hb dX3_quotient_57 hl (by decide) rfl (fun ls hl => ?_)
      refine lv_aload_n hx hb dX3_quotient_59 rfl (lv_at hl 1 rfl) ?_
      refine va_get (D := G) (ci := 1) (v := .ref (a 2)) (C := RX3) (T := TX3) (N := 12) hx hb hts iw_X3_quotient_X3 hown hK hP 0 rfl rfl 1 (by decide) (hts (.fieldLink RX3 13 "MixBench" "specials" "[J") (by decide +kernel)) (fun _ h9 => h9) rfl dX3_quotient_60 ?_
      refine lv_bipush (v := 6) hx hb dX3_quotient_63 (by decide) ?_
      refine lv_lload_n hx hb dX3_quotient_65 rfl (lv_at hl 2 rfl) ?_
      refine lv_lload_n hx hb dX3_quotient_66 rfl (lv_at hl 3 rfl) ?_
      refine lv_lload hx hb dX3_quotient_67 (lv_at hl 0 rfl) ?_
      refine lv_lmul hx hb dX3_quotient_69 ?_
      refine lv_lsub hx hb dX3_quotient_70 ?_
      refine va_last hx hb hK hP hD hS 2 0 rfl rfl (by unfold vp_in; decide) dX3_quotient_71 (fun H locs hP hD hS => ?_)
      obtain ⟨u9, eu9⟩ : ∃ z, z = sx_sp u7 (vp_updL (x_sp u7) (6 : Int32).toNatClampNeg (p0 - (p1 * v8))) := ⟨_, rfl⟩
      have hP : va_P G vwCl (wX yy a u9) H := by rw [eu9]; exact hP
      have hD : va_D A (wX yy a u9) := by rw [eu9]; exact hD
      refine lv_lload hx hb dX3_quotient_72 (lv_at hl 0 rfl) ?_
      exact g_lret (by have eu9 := eu9.symm; subst eu9; have ev8 := ev8.symm; subst ev8; have eu7 := eu7.symm; subst eu7; have ev3 := ev3.symm; subst ev3; have ez4 := ez4.symm; subst ez4; exact (if_neg c1).trans (rfl)) hx hb hr hP hD hS hlocks dX3_quotient_74
    refine lc_ne (tgt := 48) hx hb dX3_quotient_32 dX3_quotient_33 (by decide) (fun c2 => ?_) (fun c2 => ?_)
    · refine lv_iconst (v := 0) hx hb dX3_quotient_48 (by decide) ?_
      exact k5 (0 : Int32) (ez4.trans (by exact (if_neg c2).trans (rfl))).symm _ _ hP hD hS ls (lv_sub hl [0, 1, 2] rfl)
    · refine lv_lload_n hx hb dX3_quotient_36 rfl (lv_at hl 2 rfl) ?_
      refine lv_ldc2 hx hb hown (hts (.constantLong RX3 104 (-1)) (by decide +kernel)) dX3_quotient_37 ?_
      refine lc_ne (tgt := 48) hx hb dX3_quotient_40 dX3_quotient_41 (by decide) (fun c6 => ?_) (fun c6 => ?_)
      · refine lv_iconst (v := 0) hx hb dX3_quotient_48 (by decide) ?_
        exact k5 (0 : Int32) (ez4.trans (by exact (if_pos c2).trans ((if_neg c6).trans (rfl)))).symm _ _ hP hD hS ls (lv_sub hl [0, 1, 2] rfl)
      · refine lv_iconst (v := 1) hx hb dX3_quotient_44 (by decide) ?_
        refine lv_goto (tgt := 49) hx hb dX3_quotient_45 (by decide) ?_
        exact k5 (1 : Int32) (ez4.trans (by exact (if_pos c2).trans ((if_pos c6).trans (rfl)))).symm _ _ hP hD hS ls (lv_sub hl [0, 1, 2] rfl)
  · refine lv_aload_n hx hb dX3_quotient_6 rfl (lv_at hl 0 rfl) ?_
    refine lv_ldc2 hx hb hown (hts (.constantLong RX3 219 (128)) (by decide +kernel)) dX3_quotient_7 ?_
    refine lv_iconst (v := 1) hx hb dX3_quotient_10 (by decide) ?_
    refine g_v (va_runV (As := [.long (128 : Int64), .int (1 : Int32)]) (rest := []) ⟨hx, hb, hml, hown, hts⟩ (c_X3_raise l yy a u (128 : Int64) (1 : Int32)  G H.size) (cwV 2 hts gX3_quotient_X3_raise rfl rfl rfl (by decide +kernel) ⟨Nat.le_of_ble_eq_true rfl, Nat.le_of_ble_eq_true rfl⟩) (g_preV eX_bl hK hE hP hD hS hA 0 rfl rfl) rfl rfl hl.1 rfl (lv_room (Nat.le_of_ble_eq_true rfl)) dX3_quotient_11 ⟨Nat.le_of_ble_eq_true rfl, Nat.le_of_ble_eq_true rfl⟩) hD hS hA (fun H locs hP hD hS => ?_)
    obtain ⟨u10, eu10⟩ : ∃ z, z = f_X3_raise u (128 : Int64) (1 : Int32) := ⟨_, rfl⟩
    have hP : va_P G vwCl (wX yy a u10) H := by rw [eu10]; exact hP
    have hD : va_D A (wX yy a u10) := by rw [eu10]; exact hD
    refine lv_aload_n hx hb dX3_quotient_14 rfl (lv_at hl 0 rfl) ?_
    refine va_get (D := G) (ci := 1) (v := .ref (a 2)) (C := RX3) (T := TX3) (N := 12) hx hb hts iw_X3_quotient_X3 hown hK hP 0 rfl rfl 1 (by decide) (hts (.fieldLink RX3 13 "MixBench" "specials" "[J") (by decide +kernel)) (fun _ h9 => h9) rfl dX3_quotient_15 ?_
    refine lv_bipush (v := 6) hx hb dX3_quotient_18 (by decide) ?_
    refine lv_lload_n hx hb dX3_quotient_20 rfl (lv_at hl 1 rfl) ?_
    refine va_last hx hb hK hP hD hS 2 0 rfl rfl (by unfold vp_in; decide) dX3_quotient_21 (fun H locs hP hD hS => ?_)
    obtain ⟨u11, eu11⟩ : ∃ z, z = sx_sp u10 (vp_updL (x_sp u10) (6 : Int32).toNatClampNeg p0) := ⟨_, rfl⟩
    have hP : va_P G vwCl (wX yy a u11) H := by rw [eu11]; exact hP
    have hD : va_D A (wX yy a u11) := by rw [eu11]; exact hD
    refine lv_lconst (v := 0) hx hb dX3_quotient_22 (by decide) ?_
    exact g_lret (by have eu11 := eu11.symm; subst eu11; have eu10 := eu10.symm; subst eu10; exact (if_pos c1).trans (rfl)) hx hb hr hP hD hS hlocks dX3_quotient_23
