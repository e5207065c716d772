def f_X3_operandZ (u : XS) (p0 : Int32) : Int64 :=
  let v1 : Int32 := f_X3_opOf p0;
  let z4 : Int32 := (if (v1 &&& (1 : Int32)) = (1 : Int32) then if v1 < (224 : Int32) then (1 : Int32) else if v1 = (247 : Int32) then (1 : Int32) else (0 : Int32) else if v1 = (247 : Int32) then (1 : Int32) else (0 : Int32));
  let v3 : Int32 := z4;
  if v3 = (0 : Int32) then
    x_g u (f_X3_byteZ p0).toNatClampNeg
  else
    (f_X3_byteZ p0).toInt64
abbrev rm_X3_operandZ : Room := { frames := 1, cells := 0, slots := 0, locals := 20 }
set_option maxRecDepth 20000 in
theorem iw_X3_operandZ_X3 : ∀ w ∈ wsX30, w ∈ wsX3_operandZ := by decide +kernel
set_option maxHeartbeats 4000000 in
set_option maxRecDepth 100000 in
theorem c_X3_operandZ (l : Launch) (yy : Nat → ClassId) (a : Nat → Nat) (u : XS) (p0 : Int32) : gMl l yX3_operandZ wsX3_operandZ rm_X3_operandZ eX (sT yy) (wX yy a) [.ref (a 0), .int p0] u ((f_X3_operandZ u p0, u)) := by
  refine gm_ofW (Qc := gQl (wX yy a) ((f_X3_operandZ u p0, u))) (by decide) rfl (Nat.le_of_ble_eq_true rfl) ?_
  intro G A p e s m args below meth c hx hb hr hml hts hown hlocks hK hE hA H locs hP hD hS ls hl
  have hl : lv_has ls 4 [(0, .ref (a 0)), (1, .int p0)] := hl
  refine lv_iload_n hx hb dX3_operandZ_0 rfl (lv_at hl 1 rfl) ?_
  refine p_i (W.runS (As := [.int p0]) (rest := []) ⟨hx, hb, hml, hown, hts⟩ (c_X3_opOf l p0 ) (va_cwS 1 hts gX3_operandZ_X3_opOf rfl rfl rfl (by decide +kernel) ⟨Nat.le_of_ble_eq_true rfl, Nat.le_of_ble_eq_true rfl⟩) p_preT rfl rfl hl.1 rfl (lv_room (Nat.le_of_ble_eq_true rfl)) dX3_operandZ_1 ⟨Nat.le_of_ble_eq_true rfl, Nat.le_of_ble_eq_true rfl⟩) ?_
  refine lv_topi (fun v1 ev1 => ?_)
  refine lv_istore_n (lv' := [(2, .int v1), (0, .ref (a 0)), (1, .int p0)]) hx hb dX3_operandZ_4 rfl hl (by decide) rfl (fun ls hl => ?_)
  refine lv_iload_n hx hb dX3_operandZ_5 rfl (lv_at hl 0 rfl) ?_
  refine lv_iconst (v := 1) hx hb dX3_operandZ_6 (by decide) ?_
  refine lv_iand hx hb dX3_operandZ_7 ?_
  refine lv_iconst (v := 1) hx hb dX3_operandZ_8 (by decide) ?_
  obtain ⟨z4, ez4⟩ : ∃ q : Int32, q = (if (v1 &&& (1 : Int32)) = (1 : Int32) then if v1 < (224 : Int32) then (1 : Int32) else if v1 = (247 : Int32) then (1 : Int32) else (0 : Int32) else if v1 = (247 : Int32) then (1 : Int32) else (0 : Int32)) := ⟨_, rfl⟩
  have k5 : ∀ (v3 : Int32), v3 = z4 → ∀ (H : Heap) (locs : List Loc), va_P G vwCl (wX yy a u) H → va_D A (wX yy a u) → va_S A s.heap H locs → ∀ ls : Array Slot, lv_has ls 4 [(0, .ref (a 0)), (1, .int p0), (2, .int v1)] → W p l e rm_X3_operandZ s m args below meth c H locs 0 0 (MQ below (gQl (wX yy a) ((f_X3_operandZ u p0, u)) G A) args s 0 0 A) (F0 m 31 ls [.int v3]) := by
    intro v3 jz4 H locs hP hD hS ls hl
    have ev3 : v3 = z4 := jz4
    refine lv_istore_n (lv' := [(3, .int v3), (0, .ref (a 0)), (1, .int p0), (2, .int v1)]) hx hb dX3_operandZ_31 rfl hl (by decide) rfl (fun ls hl => ?_)
    refine lv_iload_n hx hb dX3_operandZ_32 rfl (lv_at hl 0 rfl) ?_
    refine lv_if_eq (tgt := 44) hx hb dX3_operandZ_33 (by decide) (fun c9 => ?_) (fun c9 => ?_)
    · refine lv_aload_n hx hb dX3_operandZ_44 rfl (lv_at hl 1 rfl) ?_
      refine va_get (D := G) (ci := 1) (v := .ref (a 1)) (C := RX3) (T := TX3) (N := 12) hx hb hts iw_X3_operandZ_X3 hown hK hP 0 rfl rfl 0 (by decide) (hts (.fieldLink RX3 9 "MixBench" "registers" "[J") (by decide +kernel)) (fun _ h9 => h9) rfl dX3_operandZ_45 ?_
      refine lv_iload_n hx hb dX3_operandZ_48 rfl (lv_at hl 2 rfl) ?_
      refine p_i (W.runS (As := [.int p0]) (rest := [.ref (a 1)]) ⟨hx, hb, hml, hown, hts⟩ (c_X3_byteZ l p0 ) (va_cwS 1 hts gX3_operandZ_X3_byteZ rfl rfl rfl (by decide +kernel) ⟨Nat.le_of_ble_eq_true rfl, Nat.le_of_ble_eq_true rfl⟩) p_preT rfl rfl hl.1 rfl (lv_room (Nat.le_of_ble_eq_true rfl)) dX3_operandZ_49 ⟨Nat.le_of_ble_eq_true rfl, Nat.le_of_ble_eq_true rfl⟩) ?_
      refine va_lald hx hb hK hP 1 0 rfl rfl (in_byteZ _) dX3_operandZ_52 ?_
      exact g_lret (s_ro (by have ev3 := ev3.symm; subst ev3; have ez4 := ez4.symm; subst ez4; have ev1 := ev1.symm; subst ev1; exact (if_pos c9).trans (rfl))) hx hb hr hP hD hS hlocks dX3_operandZ_53
    · refine lv_iload_n hx hb dX3_operandZ_36 rfl (lv_at hl 2 rfl) ?_
      refine p_i (W.runS (As := [.int p0]) (rest := []) ⟨hx, hb, hml, hown, hts⟩ (c_X3_byteZ l p0 ) (va_cwS 1 hts gX3_operandZ_X3_byteZ rfl rfl rfl (by decide +kernel) ⟨Nat.le_of_ble_eq_true rfl, Nat.le_of_ble_eq_true rfl⟩) p_preT rfl rfl hl.1 rfl (lv_room (Nat.le_of_ble_eq_true rfl)) dX3_operandZ_37 ⟨Nat.le_of_ble_eq_true rfl, Nat.le_of_ble_eq_true rfl⟩) ?_
      refine lv_i2l (v := (f_X3_byteZ p0).toInt64) hx hb dX3_operandZ_40 rfl ?_
      refine lv_goto (tgt := 53) hx hb dX3_operandZ_41 (by decide) ?_
      exact g_lret (s_ro (by have ev3 := ev3.symm; subst ev3; have ez4 := ez4.symm; subst ez4; have ev1 := ev1.symm; subst ev1; exact (if_neg c9).trans (rfl))) hx hb hr hP hD hS hlocks dX3_operandZ_53
  refine lv_icmp_ne (tgt := 19) hx hb dX3_operandZ_9 (by decide) (fun c2 => ?_) (fun c2 => ?_)
  · refine lv_iload_n hx hb dX3_operandZ_19 rfl (lv_at hl 0 rfl) ?_
    refine lv_sipush (v := 247) hx hb dX3_operandZ_20 (by decide) ?_
    refine lv_icmp_ne (tgt := 30) hx hb dX3_operandZ_23 (by decide) (fun c6 => ?_) (fun c6 => ?_)
    · refine lv_iconst (v := 0) hx hb dX3_operandZ_30 (by decide) ?_
      exact k5 (0 : Int32) (ez4.trans (by exact (if_neg c2).trans ((if_neg c6).trans (rfl)))).symm _ _ hP hD hS ls (lv_sub hl [1, 2, 0] rfl)
    · refine lv_iconst (v := 1) hx hb dX3_operandZ_26 (by decide) ?_
      refine lv_goto (tgt := 31) hx hb dX3_operandZ_27 (by decide) ?_
      exact k5 (1 : Int32) (ez4.trans (by exact (if_neg c2).trans ((if_pos c6).trans (rfl)))).symm _ _ hP hD hS ls (lv_sub hl [1, 2, 0] rfl)
  · refine lv_iload_n hx hb dX3_operandZ_12 rfl (lv_at hl 0 rfl) ?_
    refine lv_sipush (v := 224) hx hb dX3_operandZ_13 (by decide) ?_
    refine lv_icmp_lt (tgt := 26) hx hb dX3_operandZ_16 (by decide) (fun c7 => ?_) (fun c7 => ?_)
    · refine lv_iconst (v := 1) hx hb dX3_operandZ_26 (by decide) ?_
      refine lv_goto (tgt := 31) hx hb dX3_operandZ_27 (by decide) ?_
      exact k5 (1 : Int32) (ez4.trans (by exact (if_pos c2).trans ((if_pos c7).trans (rfl)))).symm _ _ hP hD hS ls (lv_sub hl [1, 2, 0] rfl)
    · refine lv_iload_n hx hb dX3_operandZ_19 rfl (lv_at hl 0 rfl) ?_
      refine lv_sipush (v := 247) hx hb dX3_operandZ_20 (by decide) ?_
      refine lv_icmp_ne (tgt := 30) hx hb dX3_operandZ_23 (by decide) (fun c8 => ?_) (fun c8 => ?_)
      · refine lv_iconst (v := 0) hx hb dX3_operandZ_30 (by decide) ?_
        exact k5 (0 : Int32) (ez4.trans (by exact (if_pos c2).trans ((if_neg c7).trans ((if_neg c8).trans (rfl))))).symm _ _ hP hD hS ls (lv_sub hl [1, 2, 0] rfl)
      · refine lv_iconst (v := 1) hx hb dX3_operandZ_26 (by decide) ?_
        refine lv_goto (tgt := 31) hx hb dX3_operandZ_27 (by decide) ?_
        exact k5 (1 : Int32) (ez4.trans (by exact (if_pos c2).trans ((if_neg c7).trans ((if_pos c8).trans (rfl))))).symm _ _ hP hD hS ls (lv_sub hl [1, 2, 0] rfl)
