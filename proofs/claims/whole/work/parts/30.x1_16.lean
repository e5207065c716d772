def f_X3_branch (u : XS) (p0 : Int32) (p1 : Int64) : XS :=
  let v1 : Int32 := f_X3_opOf p0;
  let v2 : Int32 := f_X3_holds v1 (x_g u (f_X3_byteX p0).toNatClampNeg);
  let z5 : Int32 := (if v1 < (80 : Int32) then (0 : Int32) else (1 : Int32));
  let v4 : Int32 := z5;
  let z9 : XS := (if v2 = v4 then u else let u11 : XS := sx_oo u ((x_oo u) + (2 : Int64)); u11);
  let u8 : XS := z9;
  if v2 = (0 : Int32) then
    u8
  else
    let u13 : XS := sx_pc u8 (f_X3_relative p0 p1);
    u13
abbrev rm_X3_branch : Room := { frames := 2, cells := 0, slots := 0, locals := 43 }
set_option maxRecDepth 20000 in
theorem iw_X3_branch_X3 : ∀ w ∈ wsX30, w ∈ wsX3_branch := by decide +kernel
set_option maxHeartbeats 4000000 in
set_option maxRecDepth 100000 in
theorem c_X3_branch (l : Launch) (yy : Nat → ClassId) (a : Nat → Nat) (u : XS) (p0 : Int32) (p1 : Int64) : gMv l yX3_branch wsX3_branch rm_X3_branch eX (sT yy) (wX yy a) [.ref (a 0), .int p0, .long p1] u (f_X3_branch u p0 p1) := by
  refine gm_ofW (Qc := gQv (wX yy a) (f_X3_branch u p0 p1)) (by decide) rfl (Nat.le_of_ble_eq_true rfl) ?_
  intro G A p e s m args below meth c hx hb hr hml hts hown hlocks hK hE hA H locs hP hD hS ls hl
  have hl : lv_has ls 7 [(0, .ref (a 0)), (1, .int p0), (2, .long p1)] := hl
  refine lv_iload_n hx hb dX3_branch_0 rfl (lv_at hl 1 rfl) ?_
  refine p_i (W.runS (As := [.int p0]) (rest := []) ⟨hx, hb, hml, hown, hts⟩ (c_X3_opOf l p0 ) (va_cwS 1 hts gX3_branch_X3_opOf rfl rfl rfl (by decide +kernel) ⟨Nat.le_of_ble_eq_true rfl, Nat.le_of_ble_eq_true rfl⟩) p_preT rfl rfl hl.1 rfl (lv_room (Nat.le_of_ble_eq_true rfl)) dX3_branch_1 ⟨Nat.le_of_ble_eq_true rfl, Nat.le_of_ble_eq_true rfl⟩) ?_
  refine lv_topi (fun v1 ev1 => ?_)
  refine lv_istore (lv' := [(4, .int v1), (0, .ref (a 0)), (1, .int p0), (2, .long p1)]) hx hb dX3_branch_4 hl (by decide) rfl (fun ls hl => ?_)
  refine lv_iload hx hb dX3_branch_6 (lv_at hl 0 rfl) ?_
  refine lv_aload_n hx hb dX3_branch_8 rfl (lv_at hl 1 rfl) ?_
  refine va_get (D := G) (ci := 1) (v := .ref (a 1)) (C := RX3) (T := TX3) (N := 12) hx hb hts iw_X3_branch_X3 hown hK hP 0 rfl rfl 0 (by decide) (hts (.fieldLink RX3 9 "MixBench" "registers" "[J") (by decide +kernel)) (fun _ h9 => h9) rfl dX3_branch_9 ?_
  refine lv_iload_n hx hb dX3_branch_12 rfl (lv_at hl 2 rfl) ?_
  refine p_i (W.runS (As := [.int p0]) (rest := [.ref (a 1), .int v1]) ⟨hx, hb, hml, hown, hts⟩ (c_X3_byteX l p0 ) (va_cwS 1 hts gX3_branch_X3_byteX rfl rfl rfl (by decide +kernel) ⟨Nat.le_of_ble_eq_true rfl, Nat.le_of_ble_eq_true rfl⟩) p_preT rfl rfl hl.1 rfl (lv_room (Nat.le_of_ble_eq_true rfl)) dX3_branch_13 ⟨Nat.le_of_ble_eq_true rfl, Nat.le_of_ble_eq_true rfl⟩) ?_
  refine va_lald hx hb hK hP 1 0 rfl rfl (in_byteX _) dX3_branch_16 ?_
  refine p_i (W.runS (As := [.int v1, .long (x_g u (f_X3_byteX p0).toNatClampNeg)]) (rest := []) ⟨hx, hb, hml, hown, hts⟩ (c_X3_holds l v1 (x_g u (f_X3_byteX p0).toNatClampNeg) ) (va_cwS 2 hts gX3_branch_X3_holds rfl rfl rfl (by decide +kernel) ⟨Nat.le_of_ble_eq_true rfl, Nat.le_of_ble_eq_true rfl⟩) p_preT rfl rfl hl.1 rfl (lv_room (Nat.le_of_ble_eq_true rfl)) dX3_branch_17 ⟨Nat.le_of_ble_eq_true rfl, Nat.le_of_ble_eq_true rfl⟩) ?_
  refine lv_topi (fun v2 ev2 => ?_)
  refine lv_istore (lv' := [(5, .int v2), (4, .int v1), (0, .ref (a 0)), (1, .int p0), (2, .long p1)]) hx hb dX3_branch_20 hl (by decide) rfl (fun ls hl => ?_)
  refine lv_iload hx hb dX3_branch_22 (lv_at hl 1 rfl) ?_
  refine lv_bipush (v := 80) hx hb dX3_branch_24 (by decide) ?_
  obtain ⟨z5, ez5⟩ : ∃ q : Int32, q = (if v1 < (80 : Int32) then (0 : Int32) else (1 : Int32)) := ⟨_, rfl⟩
  have k6 : ∀ (v4 : Int32), v4 = z5 → ∀ (H : Heap) (locs : List Loc), va_P G vwCl (wX yy a u) H → va_D A (wX yy a u) → va_S A s.heap H locs → ∀ ls : Array Slot, lv_has ls 7 [(0, .ref (a 0)), (1, .int p0), (2, .long p1), (4, .int v1), (5, .int v2)] → W p l e rm_X3_branch s m args below meth c H locs 0 0 (MQ below (gQv (wX yy a) (f_X3_branch u p0 p1) G A) args s 0 0 A) (F0 m 34 ls [.int v4]) := by
    intro v4 jz5 H locs hP hD hS ls hl
    have ev4 : v4 = z5 := jz5
    refine lv_istore (lv' := [(6, .int v4), (0, .ref (a 0)), (1, .int p0), (2, .long p1), (4, .int v1), (5, .int v2)]) hx hb dX3_branch_34 hl (by decide) rfl (fun ls hl => ?_)
    refine lv_iload hx hb dX3_branch_36 (lv_at hl 5 rfl) ?_
    refine lv_iload hx hb dX3_branch_38 (lv_at hl 0 rfl) ?_
    obtain ⟨z9, ez9⟩ : ∃ q : XS, q = (if v2 = v4 then u else let u11 : XS := sx_oo u ((x_oo u) + (2 : Int64)); u11) := ⟨_, rfl⟩
    have k10 : ∀ (u8 : XS), u8 = z9 → ∀ (H : Heap) (locs : List Loc), va_P G vwCl (wX yy a u8) H → va_D A (wX yy a u8) → va_S A s.heap H locs → ∀ ls : Array Slot, lv_has ls 7 [(0, .ref (a 0)), (1, .int p0), (2, .long p1), (4, .int v1), (5, .int v2), (6, .int v4)] → W p l e rm_X3_branch s m args below meth c H locs 0 0 (MQ below (gQv (wX yy a) (f_X3_branch u p0 p1) G A) args s 0 0 A) (F0 m 55 ls []) := by
      intro u8 jz9 H locs hP hD hS ls hl
      have eu8 : u8 = z9 := jz9
      refine lv_iload hx hb dX3_branch_55 (lv_at hl 4 rfl) ?_
      refine lv_if_eq (tgt := 69) hx hb dX3_branch_57 (by decide) (fun c12 => ?_) (fun c12 => ?_)
      · exact g_vret (by have eu8 := eu8.symm; subst eu8; have ez9 := ez9.symm; subst ez9; have ev4 := ev4.symm; subst ev4; have ez5 := ez5.symm; subst ez5; have ev2 := ev2.symm; subst ev2; have ev1 := ev1.symm; subst ev1; exact (if_pos c12).trans (rfl)) hx hb hr hP hD hS hlocks dX3_branch_69
      · refine lv_aload_n hx hb dX3_branch_60 rfl (lv_at hl 0 rfl) ?_
        refine lv_iload_n hx hb dX3_branch_61 rfl (lv_at hl 1 rfl) ?_
        refine lv_lload_n hx hb dX3_branch_62 rfl (lv_at hl 2 rfl) ?_
        refine p_l (W.runS (As := [.int p0, .long p1]) (rest := [.ref (a 0)]) ⟨hx, hb, hml, hown, hts⟩ (c_X3_relative l p0 p1 ) (va_cwS 2 hts gX3_branch_X3_relative rfl rfl rfl (by decide +kernel) ⟨Nat.le_of_ble_eq_true rfl, Nat.le_of_ble_eq_true rfl⟩) p_preT rfl rfl hl.1 rfl (lv_room (Nat.le_of_ble_eq_true rfl)) dX3_branch_63 ⟨Nat.le_of_ble_eq_true rfl, Nat.le_of_ble_eq_true rfl⟩) ?_
        refine va_put (D := G) (ci := 1) (v := .long (f_X3_relative p0 p1)) (ty := .long) (C := RX3) (T := TX3) (N := 12) hx hb hts iw_X3_branch_X3 tyX3 tyX3_ok nmX3 hown hK hP hD hS 0 rfl rfl 7 (by decide) (hts (.fieldLink RX3 73 "MixBench" "pc" "J") (by decide +kernel)) (fun _ h9 => h9) rfl (by decide +kernel) rfl rfl (Nat.le_of_ble_eq_true rfl) dX3_branch_66 (fun H locs hP hD hS => ?_)
        obtain ⟨u13, eu13⟩ : ∃ z, z = sx_pc u8 (f_X3_relative p0 p1) := ⟨_, rfl⟩
        have hP : va_P G vwCl (wX yy a u13) H := by rw [eu13]; exact hP
        have hD : va_D A (wX yy a u13) := by rw [eu13]; exact hD
        exact g_vret (by have eu13 := eu13.symm; subst eu13; have eu8 := eu8.symm; subst eu8; have ez9 := ez9.symm; subst ez9; have ev4 := ev4.symm; subst ev4; have ez5 := ez5.symm; subst ez5; have ev2 := ev2.symm; subst ev2; have ev1 := ev1.symm; subst ev1; exact (if_neg c12).trans (rfl)) hx hb hr hP hD hS hlocks dX3_branch_69
    refine lv_icmp_eq (tgt := 55) hx hb dX3_branch_40 (by decide) (fun c7 => ?_) (fun c7 => ?_)
    · exact k10 u (ez9.trans (by exact (if_pos c7).trans (rfl))).symm _ _ hP hD hS ls (lv_sub hl [1, 2, 3, 4, 5, 0] rfl)
    · refine lv_aload_n hx hb dX3_branch_43 rfl (lv_at hl 1 rfl) ?_
      refine lv_dup hx hb dX3_branch_44 rfl ?_
      refine va_get (D := G) (ci := 1) (v := .long (x_oo u)) (C := RX3) (T := TX3) (N := 12) hx hb hts iw_X3_branch_X3 hown hK hP 0 rfl rfl 8 (by decide) (hts (.fieldLink RX3 87 "MixBench" "oops" "J") (by decide +kernel)) (fun _ h9 => h9) rfl dX3_branch_45 ?_
      refine lv_ldc2 hx hb hown (hts (.constantLong RX3 254 (2)) (by decide +kernel)) dX3_branch_48 ?_
      refine lv_ladd hx hb dX3_branch_51 ?_
      refine va_put (D := G) (ci := 1) (v := .long ((x_oo u) + (2 : Int64))) (ty := .long) (C := RX3) (T := TX3) (N := 12) hx hb hts iw_X3_branch_X3 tyX3 tyX3_ok nmX3 hown hK hP hD hS 0 rfl rfl 8 (by decide) (hts (.fieldLink RX3 87 "MixBench" "oops" "J") (by decide +kernel)) (fun _ h9 => h9) rfl (by decide +kernel) rfl rfl (Nat.le_of_ble_eq_true rfl) dX3_branch_52 (fun H locs hP hD hS => ?_)
      obtain ⟨u11, eu11⟩ : ∃ z, z = sx_oo u ((x_oo u) + (2 : Int64)) := ⟨_, rfl⟩
      have hP : va_P G vwCl (wX yy a u11) H := by rw [eu11]; exact hP
      have hD : va_D A (wX yy a u11) := by rw [eu11]; exact hD
      exact k10 u11 (ez9.trans (by have eu11 := eu11.symm; subst eu11; exact (if_neg c7).trans (rfl))).symm _ _ hP hD hS ls (lv_sub hl [1, 2, 3, 4, 5, 0] rfl)
  refine lv_icmp_lt (tgt := 33) hx hb dX3_branch_26 (by decide) (fun c3 => ?_) (fun c3 => ?_)
  · refine lv_iconst (v := 0) hx hb dX3_branch_33 (by decide) ?_
    exact k6 (0 : Int32) (ez5.trans (by exact (if_pos c3).trans (rfl))).symm _ _ hP hD hS ls (lv_sub hl [2, 3, 4, 1, 0] rfl)
  · refine lv_iconst (v := 1) hx hb dX3_branch_29 (by decide) ?_
    refine lv_goto (tgt := 34) hx hb dX3_branch_30 (by decide) ?_
    exact k6 (1 : Int32) (ez5.trans (by exact (if_neg c3).trans (rfl))).symm _ _ hP hD hS ls (lv_sub hl [2, 3, 4, 1, 0] rfl)
