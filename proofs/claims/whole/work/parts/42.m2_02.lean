def f_X4_branch (u : MS) (p0 : Int32) (p1 : Int32) (p2 : Int32) : Int32 × MS :=
  let v1 : Int32 := f_X4_holds ((jshr p0 (1 : Int32)) &&& (7 : Int32)) (m_g u p1.toNatClampNeg);
  let z4 : Int32 := (if (80 : Int32) ≤ p0 then (0 : Int32) else (1 : Int32));
  let v3 : Int32 := z4;
  let z8 : Int32 := (if v1 = v3 then (1 : Int32) else (0 : Int32));
  let v7 : Int32 := z8;
  let u10 : MS := sm_lt u v7;
  let z13 : Int64 := (if v1 = (0 : Int32) then (4 : Int64) else if (p0 &&& (1 : Int32)) = (0 : Int32) then (4 : Int64) * p2.toInt64 else (-4 : Int64) * (((65536 : Int32) - p2).toInt64));
  let v12 : Int64 := z13;
  let u16 : MS := sm_pc u10 ((m_pc u10) + v12);
  ((0 : Int32), u16)
abbrev rm_X4_branch : Room := { frames := 1, cells := 0, slots := 0, locals := 22 }
set_option maxRecDepth 20000 in
theorem iw_X4_branch_X4 : ∀ w ∈ wsX40, w ∈ wsX4_branch := by decide +kernel
set_option maxHeartbeats 4000000 in
set_option maxRecDepth 100000 in
theorem c_X4_branch (l : Launch) (yy : Nat → ClassId) (a : Nat → Nat) (u : MS) (p0 : Int32) (p1 : Int32) (p2 : Int32) (h0 : vp_in p1 256) : gMi l yX4_branch wsX4_branch rm_X4_branch eTrue (sT yy) (wM yy a) [.ref (a 0), .int p0, .int p1, .int p2] u (f_X4_branch u p0 p1 p2) := by
  refine gm_ofW (Qc := gQi (wM yy a) (f_X4_branch u p0 p1 p2)) (by decide) rfl (Nat.le_of_ble_eq_true rfl) ?_
  intro G A p e s m args below meth c hx hb hr hml hts hown hlocks hK hE hA H locs hP hD hS ls hl
  have hl : lv_has ls 5 [(0, .ref (a 0)), (1, .int p0), (2, .int p1), (3, .int p2)] := hl
  refine lv_iload_n hx hb dX4_branch_0 rfl (lv_at hl 1 rfl) ?_
  refine lv_iconst (v := 1) hx hb dX4_branch_1 (by decide) ?_
  refine lv_ishr hx hb dX4_branch_2 ?_
  refine lv_bipush (v := 7) hx hb dX4_branch_3 (by decide) ?_
  refine lv_iand hx hb dX4_branch_5 ?_
  refine lv_aload_n hx hb dX4_branch_6 rfl (lv_at hl 0 rfl) ?_
  refine va_get (D := G) (ci := 2) (v := .ref (a 1)) (C := RX4) (T := TX4) (N := 17) hx hb hts iw_X4_branch_X4 hown hK hP 0 rfl rfl 1 (by decide) (hts (.fieldLink RX4 7 "MixBenchModel" "g" "[J") (by decide +kernel)) (fun _ h9 => h9) rfl dX4_branch_7 ?_
  refine lv_iload_n hx hb dX4_branch_10 rfl (lv_at hl 2 rfl) ?_
  refine va_lald hx hb hK hP 1 0 rfl rfl h0 dX4_branch_11 ?_
  refine p_i (W.runS (As := [.int ((jshr p0 (1 : Int32)) &&& (7 : Int32)), .long (m_g u p1.toNatClampNeg)]) (rest := []) ⟨hx, hb, hml, hown, hts⟩ (c_X4_holds l ((jshr p0 (1 : Int32)) &&& (7 : Int32)) (m_g u p1.toNatClampNeg) ) (va_cwS 2 hts gX4_branch_X4_holds rfl rfl rfl (by decide +kernel) ⟨Nat.le_of_ble_eq_true rfl, Nat.le_of_ble_eq_true rfl⟩) p_preT rfl rfl hl.1 rfl (lv_room (Nat.le_of_ble_eq_true rfl)) dX4_branch_12 ⟨Nat.le_of_ble_eq_true rfl, Nat.le_of_ble_eq_true rfl⟩) ?_
  refine lv_topi (fun v1 ev1 => ?_)
  refine lv_istore (lv' := [(4, .int v1), (0, .ref (a 0)), (1, .int p0), (2, .int p1), (3, .int p2)]) hx hb dX4_branch_15 hl (by decide) rfl (fun ls hl => ?_)
  refine lv_aload_n hx hb dX4_branch_17 rfl (lv_at hl 1 rfl) ?_
  refine lv_iload hx hb dX4_branch_18 (lv_at hl 0 rfl) ?_
  refine lv_iload_n hx hb dX4_branch_20 rfl (lv_at hl 2 rfl) ?_
  refine lv_bipush (v := 80) hx hb dX4_branch_21 (by decide) ?_
  obtain ⟨z4, ez4⟩ : ∃ q : Int32, q = (if (80 : Int32) ≤ p0 then (0 : Int32) else (1 : Int32)) := ⟨_, rfl⟩
  have k5 : ∀ (v3 : Int32), v3 = z4 → ∀ (H : Heap) (locs : List Loc), va_P G vwCl (wM yy a u) H → va_D A (wM yy a u) → va_S A s.heap H locs → ∀ ls : Array Slot, lv_has ls 5 [(0, .ref (a 0)), (1, .int p0), (2, .int p1), (3, .int p2), (4, .int v1)] → W p l e rm_X4_branch s m args below meth c H locs 0 0 (MQ below (gQi (wM yy a) (f_X4_branch u p0 p1 p2) G A) args s 0 0 A) (F0 m 31 ls [.int v3, .int v1, .ref (a 0)]) := by
    intro v3 jz4 H locs hP hD hS ls hl
    have ev3 : v3 = z4 := jz4
    obtain ⟨z8, ez8⟩ : ∃ q : Int32, q = (if v1 = v3 then (1 : Int32) else (0 : Int32)) := ⟨_, rfl⟩
    have k9 : ∀ (v7 : Int32), v7 = z8 → ∀ (H : Heap) (locs : List Loc), va_P G vwCl (wM yy a u) H → va_D A (wM yy a u) → va_S A s.heap H locs → ∀ ls : Array Slot, lv_has ls 5 [(0, .ref (a 0)), (1, .int p0), (2, .int p1), (3, .int p2), (4, .int v1)] → W p l e rm_X4_branch s m args below meth c H locs 0 0 (MQ below (gQi (wM yy a) (f_X4_branch u p0 p1 p2) G A) args s 0 0 A) (F0 m 39 ls [.int v7, .ref (a 0)]) := by
      intro v7 jz8 H locs hP hD hS ls hl
      have ev7 : v7 = z8 := jz8
      refine va_put (D := G) (ci := 2) (v := .int v7) (ty := .boolean) (C := RX4) (T := TX4) (N := 17) hx hb hts iw_X4_branch_X4 tyX4 tyX4_ok nmX4 hown hK hP hD hS 0 rfl rfl 16 (by decide) (hts (.fieldLink RX4 215 "MixBenchModel" "late" "Z") (by decide +kernel)) (fun _ h9 => h9) rfl (by decide +kernel) (nb_of (by have ev7 := ev7.symm; subst ev7; have ez8 := ez8.symm; subst ez8; have ev3 := ev3.symm; subst ev3; have ez4 := ez4.symm; subst ez4; have ev1 := ev1.symm; subst ev1; repeat (first | exact Or.inl rfl | exact Or.inr rfl | refine or_i (P := fun q : Int32 => q = 0 ∨ q = 1) ?_ ?_))) (fb_of (by have ev7 := ev7.symm; subst ev7; have ez8 := ez8.symm; subst ez8; have ev3 := ev3.symm; subst ev3; have ez4 := ez4.symm; subst ez4; have ev1 := ev1.symm; subst ev1; repeat (first | exact Or.inl rfl | exact Or.inr rfl | refine or_i (P := fun q : Int32 => q = 0 ∨ q = 1) ?_ ?_))) (Nat.le_of_ble_eq_true rfl) dX4_branch_39 (fun H locs hP hD hS => ?_)
      obtain ⟨u10, eu10⟩ : ∃ z, z = sm_lt u v7 := ⟨_, rfl⟩
      have hP : va_P G vwCl (wM yy a u10) H := by rw [eu10]; exact hP
      have hD : va_D A (wM yy a u10) := by rw [eu10]; exact hD
      refine lv_aload_n hx hb dX4_branch_42 rfl (lv_at hl 0 rfl) ?_
      refine lv_dup hx hb dX4_branch_43 rfl ?_
      refine va_get (D := G) (ci := 2) (v := .long (m_pc u10)) (C := RX4) (T := TX4) (N := 17) hx hb hts iw_X4_branch_X4 hown hK hP 0 rfl rfl 8 (by decide) (hts (.fieldLink RX4 162 "MixBenchModel" "pc" "J") (by decide +kernel)) (fun _ h9 => h9) rfl dX4_branch_44 ?_
      refine lv_iload hx hb dX4_branch_47 (lv_at hl 4 rfl) ?_
      obtain ⟨z13, ez13⟩ : ∃ q : Int64, q = (if v1 = (0 : Int32) then (4 : Int64) else if (p0 &&& (1 : Int32)) = (0 : Int32) then (4 : Int64) * p2.toInt64 else (-4 : Int64) * (((65536 : Int32) - p2).toInt64)) := ⟨_, rfl⟩
      have k14 : ∀ (v12 : Int64), v12 = z13 → ∀ (H : Heap) (locs : List Loc), va_P G vwCl (wM yy a u10) H → va_D A (wM yy a u10) → va_S A s.heap H locs → ∀ ls : Array Slot, lv_has ls 5 [(0, .ref (a 0)), (1, .int p0), (2, .int p1), (3, .int p2), (4, .int v1)] → W p l e rm_X4_branch s m args below meth c H locs 0 0 (MQ below (gQi (wM yy a) (f_X4_branch u p0 p1 p2) G A) args s 0 0 A) (F0 m 82 ls [.long v12, .long (m_pc u10), .ref (a 0)]) := by
        intro v12 jz13 H locs hP hD hS ls hl
        have ev12 : v12 = z13 := jz13
        refine lv_ladd hx hb dX4_branch_82 ?_
        refine va_put (D := G) (ci := 2) (v := .long ((m_pc u10) + v12)) (ty := .long) (C := RX4) (T := TX4) (N := 17) hx hb hts iw_X4_branch_X4 tyX4 tyX4_ok nmX4 hown hK hP hD hS 0 rfl rfl 8 (by decide) (hts (.fieldLink RX4 162 "MixBenchModel" "pc" "J") (by decide +kernel)) (fun _ h9 => h9) rfl (by decide +kernel) rfl rfl (Nat.le_of_ble_eq_true rfl) dX4_branch_83 (fun H locs hP hD hS => ?_)
        obtain ⟨u16, eu16⟩ : ∃ z, z = sm_pc u10 ((m_pc u10) + v12) := ⟨_, rfl⟩
        have hP : va_P G vwCl (wM yy a u16) H := by rw [eu16]; exact hP
        have hD : va_D A (wM yy a u16) := by rw [eu16]; exact hD
        refine lv_iconst (v := 0) hx hb dX4_branch_86 (by decide) ?_
        exact g_iret (by have eu16 := eu16.symm; subst eu16; have ev12 := ev12.symm; subst ev12; have ez13 := ez13.symm; subst ez13; have eu10 := eu10.symm; subst eu10; have ev7 := ev7.symm; subst ev7; have ez8 := ez8.symm; subst ez8; have ev3 := ev3.symm; subst ev3; have ez4 := ez4.symm; subst ez4; have ev1 := ev1.symm; subst ev1; exact rfl) hx hb hr hP hD hS hlocks dX4_branch_87
      refine lv_if_ne (tgt := 58) hx hb dX4_branch_49 (by decide) (fun c11 => ?_) (fun c11 => ?_)
      · refine lv_iload_n hx hb dX4_branch_58 rfl (lv_at hl 1 rfl) ?_
        refine lv_iconst (v := 1) hx hb dX4_branch_59 (by decide) ?_
        refine lv_iand hx hb dX4_branch_60 ?_
        refine lv_if_ne (tgt := 73) hx hb dX4_branch_61 (by decide) (fun c15 => ?_) (fun c15 => ?_)
        · refine lv_ldc2 hx hb hown (hts (.constantLong RX4 225 (-4)) (by decide +kernel)) dX4_branch_73 ?_
          refine lv_ldc hx hb hown (hts (.constant RX4 227 (65536)) (by decide +kernel)) dX4_branch_76 ?_
          refine lv_iload_n hx hb dX4_branch_78 rfl (lv_at hl 3 rfl) ?_
          refine lv_isub hx hb dX4_branch_79 ?_
          refine lv_i2l (v := ((65536 : Int32) - p2).toInt64) hx hb dX4_branch_80 rfl ?_
          refine lv_lmul hx hb dX4_branch_81 ?_
          exact k14 ((-4 : Int64) * (((65536 : Int32) - p2).toInt64)) (ez13.trans (by exact (if_neg c11).trans ((if_neg c15).trans (rfl)))).symm _ _ hP hD hS ls (lv_sub hl [0, 1, 2, 3, 4] rfl)
        · refine lv_ldc2 hx hb hown (hts (.constantLong RX4 223 (4)) (by decide +kernel)) dX4_branch_64 ?_
          refine lv_iload_n hx hb dX4_branch_67 rfl (lv_at hl 3 rfl) ?_
          refine lv_i2l (v := p2.toInt64) hx hb dX4_branch_68 rfl ?_
          refine lv_lmul hx hb dX4_branch_69 ?_
          refine lv_goto (tgt := 82) hx hb dX4_branch_70 (by decide) ?_
          exact k14 ((4 : Int64) * p2.toInt64) (ez13.trans (by exact (if_neg c11).trans ((if_pos c15).trans (rfl)))).symm _ _ hP hD hS ls (lv_sub hl [0, 1, 2, 3, 4] rfl)
      · refine lv_ldc2 hx hb hown (hts (.constantLong RX4 223 (4)) (by decide +kernel)) dX4_branch_52 ?_
        refine lv_goto (tgt := 82) hx hb dX4_branch_55 (by decide) ?_
        exact k14 (4 : Int64) (ez13.trans (by exact (if_pos c11).trans (rfl))).symm _ _ hP hD hS ls (lv_sub hl [0, 1, 2, 3, 4] rfl)
    refine lv_icmp_ne (tgt := 38) hx hb dX4_branch_31 (by decide) (fun c6 => ?_) (fun c6 => ?_)
    · refine lv_iconst (v := 0) hx hb dX4_branch_38 (by decide) ?_
      exact k9 (0 : Int32) (ez8.trans (by exact (if_neg c6).trans (rfl))).symm _ _ hP hD hS ls (lv_sub hl [0, 1, 2, 3, 4] rfl)
    · refine lv_iconst (v := 1) hx hb dX4_branch_34 (by decide) ?_
      refine lv_goto (tgt := 39) hx hb dX4_branch_35 (by decide) ?_
      exact k9 (1 : Int32) (ez8.trans (by exact (if_pos c6).trans (rfl))).symm _ _ hP hD hS ls (lv_sub hl [0, 1, 2, 3, 4] rfl)
  refine lv_icmp_ge (tgt := 30) hx hb dX4_branch_23 (by decide) (fun c2 => ?_) (fun c2 => ?_)
  · refine lv_iconst (v := 0) hx hb dX4_branch_30 (by decide) ?_
    exact k5 (0 : Int32) (ez4.trans (by exact (if_pos c2).trans (rfl))).symm _ _ hP hD hS ls (lv_sub hl [1, 2, 3, 4, 0] rfl)
  · refine lv_iconst (v := 1) hx hb dX4_branch_26 (by decide) ?_
    refine lv_goto (tgt := 31) hx hb dX4_branch_27 (by decide) ?_
    exact k5 (1 : Int32) (ez4.trans (by exact (if_neg c2).trans (rfl))).symm _ _ hP hD hS ls (lv_sub hl [1, 2, 3, 4, 0] rfl)
