def f_X3_productOrQuotient (u : XS) (p0 : Int32) (p1 : Int64) (p2 : Int64) : Int64 × XS :=
  if (p0 &&& (254 : Int32)) = (24 : Int32) then
    let z4 : Int32 := (if (f_X2_highOfSignedProduct p1 p2) = (jlshr (p1 * p2) (63 : Int32)) then (0 : Int32) else (1 : Int32));
    let v3 : Int32 := z4;
    let u6 : XS := f_X3_raise u (64 : Int64) v3;
    (p1 * p2, u6)
  else
    if (p0 &&& (254 : Int32)) = (26 : Int32) then
      let u8 : XS := sx_sp u (vp_updL (x_sp u) (3 : Int32).toNatClampNeg (f_X2_highOfProduct p1 p2));
      (p1 * p2, u8)
    else
      if (p0 &&& (254 : Int32)) = (28 : Int32) then
        let v10 : Int64 := (f_X3_quotient u p1 p2).1;
        let u11 : XS := (f_X3_quotient u p1 p2).2;
        (v10, u11)
      else
        let v12 : Int64 := (f_X3_longQuotient u (x_sp u (1 : Int32).toNatClampNeg) p1 p2).1;
        let u13 : XS := (f_X3_longQuotient u (x_sp u (1 : Int32).toNatClampNeg) p1 p2).2;
        (v12, u13)
abbrev rm_X3_productOrQuotient : Room := { frames := 2, cells := 0, slots := 0, locals := 58 }
set_option maxRecDepth 20000 in
theorem iw_X3_productOrQuotient_X3 : ∀ w ∈ wsX30, w ∈ wsX3_productOrQuotient := by decide +kernel
set_option maxHeartbeats 4000000 in
set_option maxRecDepth 100000 in
theorem c_X3_productOrQuotient (l : Launch) (yy : Nat → ClassId) (a : Nat → Nat) (u : XS) (p0 : Int32) (p1 : Int64) (p2 : Int64) : gMl l yX3_productOrQuotient wsX3_productOrQuotient rm_X3_productOrQuotient eX (sT yy) (wX yy a) [.ref (a 0), .int p0, .long p1, .long p2] u (f_X3_productOrQuotient u p0 p1 p2) := by
  refine gm_ofW (Qc := gQl (wX yy a) (f_X3_productOrQuotient u p0 p1 p2)) (by decide) rfl (Nat.le_of_ble_eq_true rfl) ?_
  intro G A p e s m args below meth c hx hb hr hml hts hown hlocks hK hE hA H locs hP hD hS ls hl
  have hl : lv_has ls 6 [(0, .ref (a 0)), (1, .int p0), (2, .long p1), (4, .long p2)] := hl
  refine lv_iload_n hx hb dX3_productOrQuotient_0 rfl (lv_at hl 1 rfl) ?_
  refine lv_sipush (v := 254) hx hb dX3_productOrQuotient_1 (by decide) ?_
  refine lv_iand hx hb dX3_productOrQuotient_4 ?_
  by_cases c1 : (p0 &&& (254 : Int32)) = 24
  · refine sw_t hx hb 0 (k := 24) (tgt := 40) dX3_productOrQuotient_5 c1 (by decide) rfl (by decide) ?_
    refine lv_aload_n hx hb dX3_productOrQuotient_40 rfl (lv_at hl 0 rfl) ?_
    refine lv_ldc2 hx hb hown (hts (.constantLong RX3 199 (64)) (by decide +kernel)) dX3_productOrQuotient_41 ?_
    refine lv_lload_n hx hb dX3_productOrQuotient_44 rfl (lv_at hl 2 rfl) ?_
    refine lv_lload hx hb dX3_productOrQuotient_45 (lv_at hl 3 rfl) ?_
    refine p_l (g_run (va_runSN (As := [.long p1, .long p2]) (rest := [.long (64 : Int64), .ref (a 0)]) ⟨hx, hb, hml, hown, hts⟩ (c_X2_highOfSignedProduct l p1 p2 ) ⟨va_cnB 2 hts gX3_productOrQuotient_X2_highOfSignedProduct_n201 rfl rfl rfl (hE.1 (201, yX2_highOfSignedProduct) (by decide +kernel)) (hts (.initialized RX2) (by decide +kernel)) (by decide +kernel) ⟨Nat.le_of_ble_eq_true rfl, Nat.le_of_ble_eq_true rfl⟩, (hts (.static yX2_highOfSignedProduct) (by decide +kernel)), trivial⟩ p_preT rfl rfl hl.1 rfl (lv_room (Nat.le_of_ble_eq_true rfl)) dX3_productOrQuotient_47 ⟨Nat.le_of_ble_eq_true rfl, Nat.le_of_ble_eq_true rfl⟩)) ?_
    refine lv_lload_n hx hb dX3_productOrQuotient_50 rfl (lv_at hl 2 rfl) ?_
    refine lv_lload hx hb dX3_productOrQuotient_51 (lv_at hl 3 rfl) ?_
    refine lv_lmul hx hb dX3_productOrQuotient_53 ?_
    refine lv_bipush (v := 63) hx hb dX3_productOrQuotient_54 (by decide) ?_
    refine lv_lshr (v := jlshr (p1 * p2) (63 : Int32)) hx hb dX3_productOrQuotient_56 rfl ?_
    obtain ⟨z4, ez4⟩ : ∃ q : Int32, q = (if (f_X2_highOfSignedProduct p1 p2) = (jlshr (p1 * p2) (63 : Int32)) then (0 : Int32) else (1 : Int32)) := ⟨_, rfl⟩
    have k5 : ∀ (v3 : Int32), v3 = z4 → ∀ (H : Heap) (locs : List Loc), va_P G vwCl (wX yy a u) H → va_D A (wX yy a u) → va_S A s.heap H locs → ∀ ls : Array Slot, lv_has ls 6 [(0, .ref (a 0)), (1, .int p0), (2, .long p1), (4, .long p2)] → W p l e rm_X3_productOrQuotient s m args below meth c H locs 0 0 (MQ below (gQl (wX yy a) (f_X3_productOrQuotient u p0 p1 p2) G A) args s 0 0 A) (F0 m 66 ls [.int v3, .long (64 : Int64), .ref (a 0)]) := by
      intro v3 jz4 H locs hP hD hS ls hl
      have ev3 : v3 = z4 := jz4
      refine g_v (va_runV (As := [.long (64 : Int64), .int v3]) (rest := []) ⟨hx, hb, hml, hown, hts⟩ (c_X3_raise l yy a u (64 : Int64) v3  G H.size) (cwV 2 hts gX3_productOrQuotient_X3_raise rfl rfl rfl (by decide +kernel) ⟨Nat.le_of_ble_eq_true rfl, Nat.le_of_ble_eq_true rfl⟩) (g_preV eX_bl hK hE hP hD hS hA 0 rfl rfl) rfl rfl hl.1 rfl (lv_room (Nat.le_of_ble_eq_true rfl)) dX3_productOrQuotient_66 ⟨Nat.le_of_ble_eq_true rfl, Nat.le_of_ble_eq_true rfl⟩) hD hS hA (fun H locs hP hD hS => ?_)
      obtain ⟨u6, eu6⟩ : ∃ z, z = f_X3_raise u (64 : Int64) v3 := ⟨_, rfl⟩
      have hP : va_P G vwCl (wX yy a u6) H := by rw [eu6]; exact hP
      have hD : va_D A (wX yy a u6) := by rw [eu6]; exact hD
      refine lv_lload_n hx hb dX3_productOrQuotient_69 rfl (lv_at hl 2 rfl) ?_
      refine lv_lload hx hb dX3_productOrQuotient_70 (lv_at hl 3 rfl) ?_
      refine lv_lmul hx hb dX3_productOrQuotient_72 ?_
      exact g_lret (by have eu6 := eu6.symm; subst eu6; have ev3 := ev3.symm; subst ev3; have ez4 := ez4.symm; subst ez4; exact (if_pos c1).trans (rfl)) hx hb hr hP hD hS hlocks dX3_productOrQuotient_73
    refine lc_eq (tgt := 65) hx hb dX3_productOrQuotient_57 dX3_productOrQuotient_58 (by decide) (fun c2 => ?_) (fun c2 => ?_)
    · refine lv_iconst (v := 0) hx hb dX3_productOrQuotient_65 (by decide) ?_
      exact k5 (0 : Int32) (ez4.trans (by exact (if_pos c2).trans (rfl))).symm _ _ hP hD hS ls (lv_sub hl [0, 1, 2, 3] rfl)
    · refine lv_iconst (v := 1) hx hb dX3_productOrQuotient_61 (by decide) ?_
      refine lv_goto (tgt := 66) hx hb dX3_productOrQuotient_62 (by decide) ?_
      exact k5 (1 : Int32) (ez4.trans (by exact (if_neg c2).trans (rfl))).symm _ _ hP hD hS ls (lv_sub hl [0, 1, 2, 3] rfl)
  by_cases c7 : (p0 &&& (254 : Int32)) = 26
  · refine sw_t hx hb 2 (k := 26) (tgt := 74) dX3_productOrQuotient_5 c7 (by decide) rfl (by decide) ?_
    refine lv_aload_n hx hb dX3_productOrQuotient_74 rfl (lv_at hl 0 rfl) ?_
    refine va_get (D := G) (ci := 1) (v := .ref (a 2)) (C := RX3) (T := TX3) (N := 12) hx hb hts iw_X3_productOrQuotient_X3 hown hK hP 0 rfl rfl 1 (by decide) (hts (.fieldLink RX3 13 "MixBench" "specials" "[J") (by decide +kernel)) (fun _ h9 => h9) rfl dX3_productOrQuotient_75 ?_
    refine lv_iconst (v := 3) hx hb dX3_productOrQuotient_78 (by decide) ?_
    refine lv_lload_n hx hb dX3_productOrQuotient_79 rfl (lv_at hl 2 rfl) ?_
    refine lv_lload hx hb dX3_productOrQuotient_80 (lv_at hl 3 rfl) ?_
    refine p_l (g_run (va_runSN (As := [.long p1, .long p2]) (rest := [.int (3 : Int32), .ref (a 2)]) ⟨hx, hb, hml, hown, hts⟩ (c_X2_highOfProduct l p1 p2 ) ⟨va_cnB 2 hts gX3_productOrQuotient_X2_highOfProduct_n209 rfl rfl rfl (hE.1 (209, yX2_highOfProduct) (by decide +kernel)) (hts (.initialized RX2) (by decide +kernel)) (by decide +kernel) ⟨Nat.le_of_ble_eq_true rfl, Nat.le_of_ble_eq_true rfl⟩, (hts (.static yX2_highOfProduct) (by decide +kernel)), trivial⟩ p_preT rfl rfl hl.1 rfl (lv_room (Nat.le_of_ble_eq_true rfl)) dX3_productOrQuotient_82 ⟨Nat.le_of_ble_eq_true rfl, Nat.le_of_ble_eq_true rfl⟩)) ?_
    refine va_last hx hb hK hP hD hS 2 0 rfl rfl (by unfold vp_in; decide) dX3_productOrQuotient_85 (fun H locs hP hD hS => ?_)
    obtain ⟨u8, eu8⟩ : ∃ z, z = sx_sp u (vp_updL (x_sp u) (3 : Int32).toNatClampNeg (f_X2_highOfProduct p1 p2)) := ⟨_, rfl⟩
    have hP : va_P G vwCl (wX yy a u8) H := by rw [eu8]; exact hP
    have hD : va_D A (wX yy a u8) := by rw [eu8]; exact hD
    refine lv_lload_n hx hb dX3_productOrQuotient_86 rfl (lv_at hl 2 rfl) ?_
    refine lv_lload hx hb dX3_productOrQuotient_87 (lv_at hl 3 rfl) ?_
    refine lv_lmul hx hb dX3_productOrQuotient_89 ?_
    exact g_lret (by have eu8 := eu8.symm; subst eu8; exact (if_neg c1).trans ((if_pos c7).trans (rfl))) hx hb hr hP hD hS hlocks dX3_productOrQuotient_90
  by_cases c9 : (p0 &&& (254 : Int32)) = 28
  · refine sw_t hx hb 4 (k := 28) (tgt := 91) dX3_productOrQuotient_5 c9 (by decide) rfl (by decide) ?_
    refine lv_aload_n hx hb dX3_productOrQuotient_91 rfl (lv_at hl 0 rfl) ?_
    refine lv_lload_n hx hb dX3_productOrQuotient_92 rfl (lv_at hl 2 rfl) ?_
    refine lv_lload hx hb dX3_productOrQuotient_93 (lv_at hl 3 rfl) ?_
    refine g_l (va_runV (As := [.long p1, .long p2]) (rest := []) ⟨hx, hb, hml, hown, hts⟩ (c_X3_quotient l yy a u p1 p2  G H.size) (cwV 2 hts gX3_productOrQuotient_X3_quotient rfl rfl rfl (by decide +kernel) ⟨Nat.le_of_ble_eq_true rfl, Nat.le_of_ble_eq_true rfl⟩) (g_preV eX_bl hK hE hP hD hS hA 0 rfl rfl) rfl rfl hl.1 rfl (lv_room (Nat.le_of_ble_eq_true rfl)) dX3_productOrQuotient_95 ⟨Nat.le_of_ble_eq_true rfl, Nat.le_of_ble_eq_true rfl⟩) hD hS hA (fun H locs hP hD hS => ?_)
    refine lv_topl (fun v10 ev10 => ?_)
    obtain ⟨u11, eu11⟩ : ∃ z, z = (f_X3_quotient u p1 p2).2 := ⟨_, rfl⟩
    have hP : va_P G vwCl (wX yy a u11) H := by rw [eu11]; exact hP
    have hD : va_D A (wX yy a u11) := by rw [eu11]; exact hD
    exact g_lret (by have eu11 := eu11.symm; subst eu11; have ev10 := ev10.symm; subst ev10; exact (if_neg c1).trans ((if_neg c7).trans ((if_pos c9).trans (rfl)))) hx hb hr hP hD hS hlocks dX3_productOrQuotient_98
  refine sw_td hx hb [24, 26, 28] (tgt := 99) dX3_productOrQuotient_5 (List.forall_mem_cons.mpr ⟨c1, (List.forall_mem_cons.mpr ⟨c7, (List.forall_mem_cons.mpr ⟨c9, (fun _ h => absurd h List.not_mem_nil)⟩)⟩)⟩) (by decide) (by decide) (by decide) ?_
  refine lv_aload_n hx hb dX3_productOrQuotient_99 rfl (lv_at hl 0 rfl) ?_
  refine lv_aload_n hx hb dX3_productOrQuotient_100 rfl (lv_at hl 0 rfl) ?_
  refine va_get (D := G) (ci := 1) (v := .ref (a 2)) (C := RX3) (T := TX3) (N := 12) hx hb hts iw_X3_productOrQuotient_X3 hown hK hP 0 rfl rfl 1 (by decide) (hts (.fieldLink RX3 13 "MixBench" "specials" "[J") (by decide +kernel)) (fun _ h9 => h9) rfl dX3_productOrQuotient_101 ?_
  refine lv_iconst (v := 1) hx hb dX3_productOrQuotient_104 (by decide) ?_
  refine va_lald hx hb hK hP 2 0 rfl rfl (by unfold vp_in; decide) dX3_productOrQuotient_105 ?_
  refine lv_lload_n hx hb dX3_productOrQuotient_106 rfl (lv_at hl 2 rfl) ?_
  refine lv_lload hx hb dX3_productOrQuotient_107 (lv_at hl 3 rfl) ?_
  refine g_l (va_runV (As := [.long (x_sp u (1 : Int32).toNatClampNeg), .long p1, .long p2]) (rest := []) ⟨hx, hb, hml, hown, hts⟩ (c_X3_longQuotient l yy a u (x_sp u (1 : Int32).toNatClampNeg) p1 p2  G H.size) (cwV 3 hts gX3_productOrQuotient_X3_longQuotient rfl rfl rfl (by decide +kernel) ⟨Nat.le_of_ble_eq_true rfl, Nat.le_of_ble_eq_true rfl⟩) (g_preV eX_bl hK hE hP hD hS hA 0 rfl rfl) rfl rfl hl.1 rfl (lv_room (Nat.le_of_ble_eq_true rfl)) dX3_productOrQuotient_109 ⟨Nat.le_of_ble_eq_true rfl, Nat.le_of_ble_eq_true rfl⟩) hD hS hA (fun H locs hP hD hS => ?_)
  refine lv_topl (fun v12 ev12 => ?_)
  obtain ⟨u13, eu13⟩ : ∃ z, z = (f_X3_longQuotient u (x_sp u (1 : Int32).toNatClampNeg) p1 p2).2 := ⟨_, rfl⟩
  have hP : va_P G vwCl (wX yy a u13) H := by rw [eu13]; exact hP
  have hD : va_D A (wX yy a u13) := by rw [eu13]; exact hD
  exact g_lret (by have eu13 := eu13.symm; subst eu13; have ev12 := ev12.symm; subst ev12; exact (if_neg c1).trans ((if_neg c7).trans ((if_neg c9).trans (rfl)))) hx hb hr hP hD hS hlocks dX3_productOrQuotient_112
