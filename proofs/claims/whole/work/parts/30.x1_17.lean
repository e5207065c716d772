def f_X3_choose (u : XS) (p0 : Int32) (p1 : Int64) (p2 : Int64) : XS :=
  let z3 : Int32 := (if (f_X3_opOf p0) < (112 : Int32) then (0 : Int32) else (1 : Int32));
  let v2 : Int32 := z3;
  if (f_X3_holds (f_X3_opOf p0) p1) = (0 : Int32) then
    if v2 = (0 : Int32) then
      u
    else
      let u7 : XS := f_X3_writeX u p0 (0 : Int64);
      u7
  else
    let u8 : XS := f_X3_writeX u p0 p2;
    u8
abbrev rm_X3_choose : Room := { frames := 2, cells := 0, slots := 0, locals := 44 }
set_option maxHeartbeats 4000000 in
set_option maxRecDepth 100000 in
theorem c_X3_choose (l : Launch) (yy : Nat → ClassId) (a : Nat → Nat) (u : XS) (p0 : Int32) (p1 : Int64) (p2 : Int64) : gMv l yX3_choose wsX3_choose rm_X3_choose eX (sT yy) (wX yy a) [.ref (a 0), .int p0, .long p1, .long p2] u (f_X3_choose u p0 p1 p2) := by
  refine gm_ofW (Qc := gQv (wX yy a) (f_X3_choose u p0 p1 p2)) (by decide) rfl (Nat.le_of_ble_eq_true rfl) ?_
  intro G A p e s m args below meth c hx hb hr hml hts hown hlocks hK hE hA H locs hP hD hS ls hl
  have hl : lv_has ls 7 [(0, .ref (a 0)), (1, .int p0), (2, .long p1), (4, .long p2)] := hl
  refine lv_iload_n hx hb dX3_choose_0 rfl (lv_at hl 1 rfl) ?_
  refine p_i (W.runS (As := [.int p0]) (rest := []) ⟨hx, hb, hml, hown, hts⟩ (c_X3_opOf l p0 ) (va_cwS 1 hts gX3_choose_X3_opOf rfl rfl rfl (by decide +kernel) ⟨Nat.le_of_ble_eq_true rfl, Nat.le_of_ble_eq_true rfl⟩) p_preT rfl rfl hl.1 rfl (lv_room (Nat.le_of_ble_eq_true rfl)) dX3_choose_1 ⟨Nat.le_of_ble_eq_true rfl, Nat.le_of_ble_eq_true rfl⟩) ?_
  refine lv_bipush (v := 112) hx hb dX3_choose_4 (by decide) ?_
  obtain ⟨z3, ez3⟩ : ∃ q : Int32, q = (if (f_X3_opOf p0) < (112 : Int32) then (0 : Int32) else (1 : Int32)) := ⟨_, rfl⟩
  have k4 : ∀ (v2 : Int32), v2 = z3 → ∀ (H : Heap) (locs : List Loc), va_P G vwCl (wX yy a u) H → va_D A (wX yy a u) → va_S A s.heap H locs → ∀ ls : Array Slot, lv_has ls 7 [(0, .ref (a 0)), (1, .int p0), (2, .long p1), (4, .long p2)] → W p l e rm_X3_choose s m args below meth c H locs 0 0 (MQ below (gQv (wX yy a) (f_X3_choose u p0 p1 p2) G A) args s 0 0 A) (F0 m 14 ls [.int v2]) := by
    intro v2 jz3 H locs hP hD hS ls hl
    have ev2 : v2 = z3 := jz3
    refine lv_istore (lv' := [(6, .int v2), (0, .ref (a 0)), (1, .int p0), (2, .long p1), (4, .long p2)]) hx hb dX3_choose_14 hl (by decide) rfl (fun ls hl => ?_)
    refine lv_iload_n hx hb dX3_choose_16 rfl (lv_at hl 2 rfl) ?_
    refine p_i (W.runS (As := [.int p0]) (rest := []) ⟨hx, hb, hml, hown, hts⟩ (c_X3_opOf l p0 ) (va_cwS 1 hts gX3_choose_X3_opOf rfl rfl rfl (by decide +kernel) ⟨Nat.le_of_ble_eq_true rfl, Nat.le_of_ble_eq_true rfl⟩) p_preT rfl rfl hl.1 rfl (lv_room (Nat.le_of_ble_eq_true rfl)) dX3_choose_17 ⟨Nat.le_of_ble_eq_true rfl, Nat.le_of_ble_eq_true rfl⟩) ?_
    refine lv_lload_n hx hb dX3_choose_20 rfl (lv_at hl 3 rfl) ?_
    refine p_i (W.runS (As := [.int (f_X3_opOf p0), .long p1]) (rest := []) ⟨hx, hb, hml, hown, hts⟩ (c_X3_holds l (f_X3_opOf p0) p1 ) (va_cwS 2 hts gX3_choose_X3_holds rfl rfl rfl (by decide +kernel) ⟨Nat.le_of_ble_eq_true rfl, Nat.le_of_ble_eq_true rfl⟩) p_preT rfl rfl hl.1 rfl (lv_room (Nat.le_of_ble_eq_true rfl)) dX3_choose_21 ⟨Nat.le_of_ble_eq_true rfl, Nat.le_of_ble_eq_true rfl⟩) ?_
    refine lv_if_eq (tgt := 37) hx hb dX3_choose_24 (by decide) (fun c5 => ?_) (fun c5 => ?_)
    · refine lv_iload hx hb dX3_choose_37 (lv_at hl 0 rfl) ?_
      refine lv_if_eq (tgt := 48) hx hb dX3_choose_39 (by decide) (fun c6 => ?_) (fun c6 => ?_)
      · exact g_vret (by have ev2 := ev2.symm; subst ev2; have ez3 := ez3.symm; subst ez3; exact (if_pos c5).trans ((if_pos c6).trans (rfl))) hx hb hr hP hD hS hlocks dX3_choose_48
      · refine lv_aload_n hx hb dX3_choose_42 rfl (lv_at hl 1 rfl) ?_
        refine lv_iload_n hx hb dX3_choose_43 rfl (lv_at hl 2 rfl) ?_
        refine lv_lconst (v := 0) hx hb dX3_choose_44 (by decide) ?_
        refine g_v (va_runV (As := [.int p0, .long (0 : Int64)]) (rest := []) ⟨hx, hb, hml, hown, hts⟩ (c_X3_writeX l yy a u p0 (0 : Int64)  G H.size) (cwV 2 hts gX3_choose_X3_writeX rfl rfl rfl (by decide +kernel) ⟨Nat.le_of_ble_eq_true rfl, Nat.le_of_ble_eq_true rfl⟩) (g_preV eX_bl hK hE hP hD hS hA 0 rfl rfl) rfl rfl hl.1 rfl (lv_room (Nat.le_of_ble_eq_true rfl)) dX3_choose_45 ⟨Nat.le_of_ble_eq_true rfl, Nat.le_of_ble_eq_true rfl⟩) hD hS hA (fun H locs hP hD hS => ?_)
        obtain ⟨u7, eu7⟩ : ∃ z, z = f_X3_writeX u p0 (0 : Int64) := ⟨_, rfl⟩
        have hP : va_P G vwCl (wX yy a u7) H := by rw [eu7]; exact hP
        have hD : va_D A (wX yy a u7) := by rw [eu7]; exact hD
        exact g_vret (by have eu7 := eu7.symm; subst eu7; have ev2 := ev2.symm; subst ev2; have ez3 := ez3.symm; subst ez3; exact (if_pos c5).trans ((if_neg c6).trans (rfl))) hx hb hr hP hD hS hlocks dX3_choose_48
    · refine lv_aload_n hx hb dX3_choose_27 rfl (lv_at hl 1 rfl) ?_
      refine lv_iload_n hx hb dX3_choose_28 rfl (lv_at hl 2 rfl) ?_
      refine lv_lload hx hb dX3_choose_29 (lv_at hl 4 rfl) ?_
      refine g_v (va_runV (As := [.int p0, .long p2]) (rest := []) ⟨hx, hb, hml, hown, hts⟩ (c_X3_writeX l yy a u p0 p2  G H.size) (cwV 2 hts gX3_choose_X3_writeX rfl rfl rfl (by decide +kernel) ⟨Nat.le_of_ble_eq_true rfl, Nat.le_of_ble_eq_true rfl⟩) (g_preV eX_bl hK hE hP hD hS hA 0 rfl rfl) rfl rfl hl.1 rfl (lv_room (Nat.le_of_ble_eq_true rfl)) dX3_choose_31 ⟨Nat.le_of_ble_eq_true rfl, Nat.le_of_ble_eq_true rfl⟩) hD hS hA (fun H locs hP hD hS => ?_)
      obtain ⟨u8, eu8⟩ : ∃ z, z = f_X3_writeX u p0 p2 := ⟨_, rfl⟩
      have hP : va_P G vwCl (wX yy a u8) H := by rw [eu8]; exact hP
      have hD : va_D A (wX yy a u8) := by rw [eu8]; exact hD
      refine lv_goto (tgt := 48) hx hb dX3_choose_34 (by decide) ?_
      exact g_vret (by have eu8 := eu8.symm; subst eu8; have ev2 := ev2.symm; subst ev2; have ez3 := ez3.symm; subst ez3; exact (if_neg c5).trans (rfl)) hx hb hr hP hD hS hlocks dX3_choose_48
  refine lv_icmp_lt (tgt := 13) hx hb dX3_choose_6 (by decide) (fun c1 => ?_) (fun c1 => ?_)
  · refine lv_iconst (v := 0) hx hb dX3_choose_13 (by decide) ?_
    exact k4 (0 : Int32) (ez3.trans (by exact (if_pos c1).trans (rfl))).symm _ _ hP hD hS ls (lv_sub hl [0, 1, 2, 3] rfl)
  · refine lv_iconst (v := 1) hx hb dX3_choose_9 (by decide) ?_
    refine lv_goto (tgt := 14) hx hb dX3_choose_10 (by decide) ?_
    exact k4 (1 : Int32) (ez3.trans (by exact (if_neg c1).trans (rfl))).symm _ _ hP hD hS ls (lv_sub hl [0, 1, 2, 3] rfl)
