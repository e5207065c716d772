def f_X4_choose (u : MS) (p0 : Int32) (p1 : Int32) (p2 : Int32) (p3 : Int32) : Int32 × MS :=
  let v1 : Int32 := f_X4_holds ((jshr p0 (1 : Int32)) &&& (7 : Int32)) (m_g u p2.toNatClampNeg);
  if v1 = (0 : Int32) then
    if (112 : Int32) ≤ p0 then
      let z13 : Int64 := (if v1 = (0 : Int32) then (0 : Int64) else let v15 : Int64 := f_X4_number u p0 p3; v15);
      let v12 : Int64 := z13;
      let v16 : Int32 := (f_X4_done u p1 v12).1;
      let u17 : MS := (f_X4_done u p1 v12).2;
      (v16, u17)
    else
      let v18 : Int32 := (f_X4_on u ).1;
      let u19 : MS := (f_X4_on u ).2;
      (v18, u19)
  else
    let z5 : Int64 := (if v1 = (0 : Int32) then (0 : Int64) else let v7 : Int64 := f_X4_number u p0 p3; v7);
    let v4 : Int64 := z5;
    let v8 : Int32 := (f_X4_done u p1 v4).1;
    let u9 : MS := (f_X4_done u p1 v4).2;
    (v8, u9)
abbrev rm_X4_choose : Room := { frames := 2, cells := 0, slots := 0, locals := 43 }
set_option maxRecDepth 20000 in
theorem iw_X4_choose_X4 : ∀ w ∈ wsX40, w ∈ wsX4_choose := by decide +kernel
set_option maxHeartbeats 4000000 in
set_option maxRecDepth 100000 in
theorem c_X4_choose (l : Launch) (yy : Nat → ClassId) (a : Nat → Nat) (u : MS) (p0 : Int32) (p1 : Int32) (p2 : Int32) (p3 : Int32) (h0 : vp_in p1 256) (h1 : vp_in p2 256) (h2 : vp_in p3 256) : gMi l yX4_choose wsX4_choose rm_X4_choose eTrue (sT yy) (wM yy a) [.ref (a 0), .int p0, .int p1, .int p2, .int p3] u (f_X4_choose u p0 p1 p2 p3) := by
  refine gm_ofW (Qc := gQi (wM yy a) (f_X4_choose u p0 p1 p2 p3)) (by decide) rfl (Nat.le_of_ble_eq_true rfl) ?_
  intro G A p e s m args below meth c hx hb hr hml hts hown hlocks hK hE hA H locs hP hD hS ls hl
  have hl : lv_has ls 6 [(0, .ref (a 0)), (1, .int p0), (2, .int p1), (3, .int p2), (4, .int p3)] := hl
  refine lv_iload_n hx hb dX4_choose_0 rfl (lv_at hl 1 rfl) ?_
  refine lv_iconst (v := 1) hx hb dX4_choose_1 (by decide) ?_
  refine lv_ishr hx hb dX4_choose_2 ?_
  refine lv_bipush (v := 7) hx hb dX4_choose_3 (by decide) ?_
  refine lv_iand hx hb dX4_choose_5 ?_
  refine lv_aload_n hx hb dX4_choose_6 rfl (lv_at hl 0 rfl) ?_
  refine va_get (D := G) (ci := 2) (v := .ref (a 1)) (C := RX4) (T := TX4) (N := 17) hx hb hts iw_X4_choose_X4 hown hK hP 0 rfl rfl 1 (by decide) (hts (.fieldLink RX4 7 "MixBenchModel" "g" "[J") (by decide +kernel)) (fun _ h9 => h9) rfl dX4_choose_7 ?_
  refine lv_iload_n hx hb dX4_choose_10 rfl (lv_at hl 3 rfl) ?_
  refine va_lald hx hb hK hP 1 0 rfl rfl h1 dX4_choose_11 ?_
  refine p_i (W.runS (As := [.int ((jshr p0 (1 : Int32)) &&& (7 : Int32)), .long (m_g u p2.toNatClampNeg)]) (rest := []) ⟨hx, hb, hml, hown, hts⟩ (c_X4_holds l ((jshr p0 (1 : Int32)) &&& (7 : Int32)) (m_g u p2.toNatClampNeg) ) (va_cwS 2 hts gX4_choose_X4_holds rfl rfl rfl (by decide +kernel) ⟨Nat.le_of_ble_eq_true rfl, Nat.le_of_ble_eq_true rfl⟩) p_preT rfl rfl hl.1 rfl (lv_room (Nat.le_of_ble_eq_true rfl)) dX4_choose_12 ⟨Nat.le_of_ble_eq_true rfl, Nat.le_of_ble_eq_true rfl⟩) ?_
  refine lv_topi (fun v1 ev1 => ?_)
  refine lv_istore (lv' := [(5, .int v1), (0, .ref (a 0)), (1, .int p0), (2, .int p1), (3, .int p2), (4, .int p3)]) hx hb dX4_choose_15 hl (by decide) rfl (fun ls hl => ?_)
  refine lv_iload hx hb dX4_choose_17 (lv_at hl 0 rfl) ?_
  refine lv_if_ne (tgt := 35) hx hb dX4_choose_19 (by decide) (fun c2 => ?_) (fun c2 => ?_)
  · refine lv_aload_n hx hb dX4_choose_35 rfl (lv_at hl 1 rfl) ?_
    refine lv_iload_n hx hb dX4_choose_36 rfl (lv_at hl 3 rfl) ?_
    refine lv_iload hx hb dX4_choose_37 (lv_at hl 0 rfl) ?_
    obtain ⟨z5, ez5⟩ : ∃ q : Int64, q = (if v1 = (0 : Int32) then (0 : Int64) else let v7 : Int64 := f_X4_number u p0 p3; v7) := ⟨_, rfl⟩
    have k6 : ∀ (v4 : Int64), v4 = z5 → ∀ (H : Heap) (locs : List Loc), va_P G vwCl (wM yy a u) H → va_D A (wM yy a u) → va_S A s.heap H locs → ∀ ls : Array Slot, lv_has ls 6 [(0, .ref (a 0)), (1, .int p0), (2, .int p1), (3, .int p2), (4, .int p3), (5, .int v1)] → W p l e rm_X4_choose s m args below meth c H locs 0 0 (MQ below (gQi (wM yy a) (f_X4_choose u p0 p1 p2 p3) G A) args s 0 0 A) (F0 m 53 ls [.long v4, .int p1, .ref (a 0)]) := by
      intro v4 jz5 H locs hP hD hS ls hl
      have ev4 : v4 = z5 := jz5
      refine g_i (va_runV (As := [.int p1, .long v4]) (rest := []) ⟨hx, hb, hml, hown, hts⟩ (c_X4_done l yy a u p1 v4 (h0) G H.size) (cwV 2 hts gX4_choose_X4_done rfl rfl rfl (by decide +kernel) ⟨Nat.le_of_ble_eq_true rfl, Nat.le_of_ble_eq_true rfl⟩) (g_preV eTrue_bl hK hE hP hD hS hA 0 rfl rfl) rfl rfl hl.1 rfl (lv_room (Nat.le_of_ble_eq_true rfl)) dX4_choose_53 ⟨Nat.le_of_ble_eq_true rfl, Nat.le_of_ble_eq_true rfl⟩) hD hS hA (fun H locs hP hD hS => ?_)
      refine lv_topi (fun v8 ev8 => ?_)
      obtain ⟨u9, eu9⟩ : ∃ z, z = (f_X4_done u p1 v4).2 := ⟨_, rfl⟩
      have hP : va_P G vwCl (wM yy a u9) H := by rw [eu9]; exact hP
      have hD : va_D A (wM yy a u9) := by rw [eu9]; exact hD
      exact g_iret (by have eu9 := eu9.symm; subst eu9; have ev8 := ev8.symm; subst ev8; have ev4 := ev4.symm; subst ev4; have ez5 := ez5.symm; subst ez5; have ev1 := ev1.symm; subst ev1; exact (if_neg c2).trans (rfl)) hx hb hr hP hD hS hlocks dX4_choose_56
    refine lv_if_eq (tgt := 52) hx hb dX4_choose_39 (by decide) (fun c3 => ?_) (fun c3 => ?_)
    · refine lv_lconst (v := 0) hx hb dX4_choose_52 (by decide) ?_
      exact k6 (0 : Int64) (ez5.trans (by exact (if_pos c3).trans (rfl))).symm _ _ hP hD hS ls (lv_sub hl [1, 2, 3, 4, 5, 0] rfl)
    · refine lv_aload_n hx hb dX4_choose_42 rfl (lv_at hl 1 rfl) ?_
      refine lv_iload_n hx hb dX4_choose_43 rfl (lv_at hl 2 rfl) ?_
      refine lv_iload hx hb dX4_choose_44 (lv_at hl 5 rfl) ?_
      refine g_l (va_runV (As := [.int p0, .int p3]) (rest := [.int p1, .ref (a 0)]) ⟨hx, hb, hml, hown, hts⟩ (c_X4_number l yy a u p0 p3 (h2) G H.size) (cwV 2 hts gX4_choose_X4_number rfl rfl rfl (by decide +kernel) ⟨Nat.le_of_ble_eq_true rfl, Nat.le_of_ble_eq_true rfl⟩) (g_preV eTrue_bl hK hE hP hD hS hA 0 rfl rfl) rfl rfl hl.1 rfl (lv_room (Nat.le_of_ble_eq_true rfl)) dX4_choose_46 ⟨Nat.le_of_ble_eq_true rfl, Nat.le_of_ble_eq_true rfl⟩) hD hS hA (fun H locs hP hD hS => ?_)
      have hP : va_P G vwCl (wM yy a u) H := hP
      have hD : va_D A (wM yy a u) := hD
      refine lv_topl (fun v7 ev7 => ?_)
      refine lv_goto (tgt := 53) hx hb dX4_choose_49 (by decide) ?_
      exact k6 v7 (ez5.trans (by have ev7 := ev7.symm; subst ev7; exact (if_neg c3).trans (rfl))).symm _ _ hP hD hS ls (lv_sub hl [1, 2, 3, 4, 5, 0] rfl)
  · refine lv_iload_n hx hb dX4_choose_22 rfl (lv_at hl 2 rfl) ?_
    refine lv_bipush (v := 112) hx hb dX4_choose_23 (by decide) ?_
    refine lv_icmp_ge (tgt := 35) hx hb dX4_choose_25 (by decide) (fun c10 => ?_) (fun c10 => ?_)
    · refine lv_aload_n hx hb dX4_choose_35 rfl (lv_at hl 1 rfl) ?_
      refine lv_iload_n hx hb dX4_choose_36 rfl (lv_at hl 3 rfl) ?_
      refine lv_iload hx hb dX4_choose_37 (lv_at hl 0 rfl) ?_
      obtain ⟨z13, ez13⟩ : ∃ q : Int64, q = (if v1 = (0 : Int32) then (0 : Int64) else let v15 : Int64 := f_X4_number u p0 p3; v15) := ⟨_, rfl⟩
      have k14 : ∀ (v12 : Int64), v12 = z13 → ∀ (H : Heap) (locs : List Loc), va_P G vwCl (wM yy a u) H → va_D A (wM yy a u) → va_S A s.heap H locs → ∀ ls : Array Slot, lv_has ls 6 [(0, .ref (a 0)), (1, .int p0), (2, .int p1), (3, .int p2), (4, .int p3), (5, .int v1)] → W p l e rm_X4_choose s m args below meth c H locs 0 0 (MQ below (gQi (wM yy a) (f_X4_choose u p0 p1 p2 p3) G A) args s 0 0 A) (F0 m 53 ls [.long v12, .int p1, .ref (a 0)]) := by
        intro v12 jz13 H locs hP hD hS ls hl
        have ev12 : v12 = z13 := jz13
        refine g_i (va_runV (As := [.int p1, .long v12]) (rest := []) ⟨hx, hb, hml, hown, hts⟩ (c_X4_done l yy a u p1 v12 (h0) G H.size) (cwV 2 hts gX4_choose_X4_done rfl rfl rfl (by decide +kernel) ⟨Nat.le_of_ble_eq_true rfl, Nat.le_of_ble_eq_true rfl⟩) (g_preV eTrue_bl hK hE hP hD hS hA 0 rfl rfl) rfl rfl hl.1 rfl (lv_room (Nat.le_of_ble_eq_true rfl)) dX4_choose_53 ⟨Nat.le_of_ble_eq_true rfl, Nat.le_of_ble_eq_true rfl⟩) hD hS hA (fun H locs hP hD hS => ?_)
        refine lv_topi (fun v16 ev16 => ?_)
        obtain ⟨u17, eu17⟩ : ∃ z, z = (f_X4_done u p1 v12).2 := ⟨_, rfl⟩
        have hP : va_P G vwCl (wM yy a u17) H := by rw [eu17]; exact hP
        have hD : va_D A (wM yy a u17) := by rw [eu17]; exact hD
        exact g_iret (by have eu17 := eu17.symm; subst eu17; have ev16 := ev16.symm; subst ev16; have ev12 := ev12.symm; subst ev12; have ez13 := ez13.symm; subst ez13; have ev1 := ev1.symm; subst ev1; exact (if_pos c2).trans ((if_pos c10).trans (rfl))) hx hb hr hP hD hS hlocks dX4_choose_56
      refine lv_if_eq (tgt := 52) hx hb dX4_choose_39 (by decide) (fun c11 => ?_) (fun c11 => ?_)
      · refine lv_lconst (v := 0) hx hb dX4_choose_52 (by decide) ?_
        exact k14 (0 : Int64) (ez13.trans (by exact (if_pos c11).trans (rfl))).symm _ _ hP hD hS ls (lv_sub hl [1, 2, 3, 4, 5, 0] rfl)
      · refine lv_aload_n hx hb dX4_choose_42 rfl (lv_at hl 1 rfl) ?_
        refine lv_iload_n hx hb dX4_choose_43 rfl (lv_at hl 2 rfl) ?_
        refine lv_iload hx hb dX4_choose_44 (lv_at hl 5 rfl) ?_
        refine g_l (va_runV (As := [.int p0, .int p3]) (rest := [.int p1, .ref (a 0)]) ⟨hx, hb, hml, hown, hts⟩ (c_X4_number l yy a u p0 p3 (h2) G H.size) (cwV 2 hts gX4_choose_X4_number rfl rfl rfl (by decide +kernel) ⟨Nat.le_of_ble_eq_true rfl, Nat.le_of_ble_eq_true rfl⟩) (g_preV eTrue_bl hK hE hP hD hS hA 0 rfl rfl) rfl rfl hl.1 rfl (lv_room (Nat.le_of_ble_eq_true rfl)) dX4_choose_46 ⟨Nat.le_of_ble_eq_true rfl, Nat.le_of_ble_eq_true rfl⟩) hD hS hA (fun H locs hP hD hS => ?_)
        have hP : va_P G vwCl (wM yy a u) H := hP
        have hD : va_D A (wM yy a u) := hD
        refine lv_topl (fun v15 ev15 => ?_)
        refine lv_goto (tgt := 53) hx hb dX4_choose_49 (by decide) ?_
        exact k14 v15 (ez13.trans (by have ev15 := ev15.symm; subst ev15; exact (if_neg c11).trans (rfl))).symm _ _ hP hD hS ls (lv_sub hl [1, 2, 3, 4, 5, 0] rfl)
    · refine lv_aload_n hx hb dX4_choose_28 rfl (lv_at hl 1 rfl) ?_
      refine g_i (va_runV (As := []) (rest := []) ⟨hx, hb, hml, hown, hts⟩ (c_X4_on l yy a u   G H.size) (cwV 0 hts gX4_choose_X4_on rfl rfl rfl (by decide +kernel) ⟨Nat.le_of_ble_eq_true rfl, Nat.le_of_ble_eq_true rfl⟩) (g_preV eTrue_bl hK hE hP hD hS hA 0 rfl rfl) rfl rfl hl.1 rfl (lv_room (Nat.le_of_ble_eq_true rfl)) dX4_choose_29 ⟨Nat.le_of_ble_eq_true rfl, Nat.le_of_ble_eq_true rfl⟩) hD hS hA (fun H locs hP hD hS => ?_)
      refine lv_topi (fun v18 ev18 => ?_)
      obtain ⟨u19, eu19⟩ : ∃ z, z = (f_X4_on u ).2 := ⟨_, rfl⟩
      have hP : va_P G vwCl (wM yy a u19) H := by rw [eu19]; exact hP
      have hD : va_D A (wM yy a u19) := by rw [eu19]; exact hD
      refine lv_goto (tgt := 56) hx hb dX4_choose_32 (by decide) ?_
      exact g_iret (by have eu19 := eu19.symm; subst eu19; have ev18 := ev18.symm; subst ev18; have ev1 := ev1.symm; subst ev1; exact (if_pos c2).trans ((if_neg c10).trans (rfl))) hx hb hr hP hD hS hlocks dX4_choose_56
