def f_X4_trap (u : MS) (p0 : Int32) (p1 : Int32) (p2 : Int32) : Int32 × MS :=
  let u1 : MS := sm_lt u (0 : Int32);
  if p0 = (0 : Int32) then
    if p1 = (0 : Int32) then
      if p2 = (0 : Int32) then
        ((1 : Int32), u1)
      else
        if p0 = (0 : Int32) then
          if p1 = (1 : Int32) then
            let z27 : MS := (if (500 : Int32) ≤ (m_on u1) then u1 else let u29 : MS := sm_ou u1 (upd (m_ou u1) (m_on u1).toNatClampNeg (vp_nar .byte (((m_g u1 p2.toNatClampNeg).toInt32).toInt8.toInt32))); let u30 : MS := sm_on u29 ((m_on u29) + (1 : Int32)); u30);
            let u26 : MS := z27;
            let u31 : MS := sm_pc u26 ((m_pc u26) + (4 : Int64));
            ((0 : Int32), u31)
          else
            ((2 : Int32), u1)
        else
          ((2 : Int32), u1)
    else
      if p0 = (0 : Int32) then
        if p1 = (1 : Int32) then
          let z17 : MS := (if (500 : Int32) ≤ (m_on u1) then u1 else let u19 : MS := sm_ou u1 (upd (m_ou u1) (m_on u1).toNatClampNeg (vp_nar .byte (((m_g u1 p2.toNatClampNeg).toInt32).toInt8.toInt32))); let u20 : MS := sm_on u19 ((m_on u19) + (1 : Int32)); u20);
          let u16 : MS := z17;
          let u21 : MS := sm_pc u16 ((m_pc u16) + (4 : Int64));
          ((0 : Int32), u21)
        else
          ((2 : Int32), u1)
      else
        ((2 : Int32), u1)
  else
    if p0 = (0 : Int32) then
      if p1 = (1 : Int32) then
        let z7 : MS := (if (500 : Int32) ≤ (m_on u1) then u1 else let u9 : MS := sm_ou u1 (upd (m_ou u1) (m_on u1).toNatClampNeg (vp_nar .byte (((m_g u1 p2.toNatClampNeg).toInt32).toInt8.toInt32))); let u10 : MS := sm_on u9 ((m_on u9) + (1 : Int32)); u10);
        let u6 : MS := z7;
        let u11 : MS := sm_pc u6 ((m_pc u6) + (4 : Int64));
        ((0 : Int32), u11)
      else
        ((2 : Int32), u1)
    else
      ((2 : Int32), u1)
abbrev rm_X4_trap : Room := { frames := 0, cells := 0, slots := 0, locals := 0 }
set_option maxRecDepth 20000 in
theorem iw_X4_trap_X4 : ∀ w ∈ wsX40, w ∈ wsX4_trap := by decide +kernel
set_option maxHeartbeats 4000000 in
set_option maxRecDepth 100000 in
theorem c_X4_trap (l : Launch) (yy : Nat → ClassId) (a : Nat → Nat) (u : MS) (p0 : Int32) (p1 : Int32) (p2 : Int32) (h0 : vp_in p2 256) (h1 : 0 ≤ m_on u) : gMi l yX4_trap wsX4_trap rm_X4_trap eTrue (sT yy) (wM yy a) [.ref (a 0), .int p0, .int p1, .int p2] u (f_X4_trap u p0 p1 p2) := by
  refine gm_ofW (Qc := gQi (wM yy a) (f_X4_trap u p0 p1 p2)) (by decide) rfl (Nat.le_of_ble_eq_true rfl) ?_
  intro G A p e s m args below meth c hx hb hr hml hts hown hlocks hK hE hA H locs hP hD hS ls hl
  have hl : lv_has ls 4 [(0, .ref (a 0)), (1, .int p0), (2, .int p1), (3, .int p2)] := hl
  refine lv_aload_n hx hb dX4_trap_0 rfl (lv_at hl 0 rfl) ?_
  refine lv_iconst (v := 0) hx hb dX4_trap_1 (by decide) ?_
  refine va_put (D := G) (ci := 2) (v := .int (0 : Int32)) (ty := .boolean) (C := RX4) (T := TX4) (N := 17) hx hb hts iw_X4_trap_X4 tyX4 tyX4_ok nmX4 hown hK hP hD hS 0 rfl rfl 16 (by decide) (hts (.fieldLink RX4 215 "MixBenchModel" "late" "Z") (by decide +kernel)) (fun _ h9 => h9) rfl (by decide +kernel) rfl rfl (Nat.le_of_ble_eq_true rfl) dX4_trap_2 (fun H locs hP hD hS => ?_)
  obtain ⟨u1, eu1⟩ : ∃ z, z = sm_lt u (0 : Int32) := ⟨_, rfl⟩
  have hP : va_P G vwCl (wM yy a u1) H := by rw [eu1]; exact hP
  have hD : va_D A (wM yy a u1) := by rw [eu1]; exact hD
  refine lv_iload_n hx hb dX4_trap_5 rfl (lv_at hl 1 rfl) ?_
  refine lv_if_ne (tgt := 19) hx hb dX4_trap_6 (by decide) (fun c2 => ?_) (fun c2 => ?_)
  · refine lv_iload_n hx hb dX4_trap_19 rfl (lv_at hl 1 rfl) ?_
    refine lv_if_ne (tgt := 28) hx hb dX4_trap_20 (by decide) (fun c3 => ?_) (fun c3 => ?_)
    · refine lv_iconst (v := 2) hx hb dX4_trap_28 (by decide) ?_
      exact g_iret (by have eu1 := eu1.symm; subst eu1; exact (if_neg c2).trans ((if_neg c3).trans (rfl))) hx hb hr hP hD hS hlocks dX4_trap_29
    · refine lv_iload_n hx hb dX4_trap_23 rfl (lv_at hl 2 rfl) ?_
      refine lv_iconst (v := 1) hx hb dX4_trap_24 (by decide) ?_
      refine lv_icmp_eq (tgt := 30) hx hb dX4_trap_25 (by decide) (fun c4 => ?_) (fun c4 => ?_)
      · refine lv_aload_n hx hb dX4_trap_30 rfl (lv_at hl 0 rfl) ?_
        refine va_get (D := G) (ci := 2) (v := .int (m_on u1)) (C := RX4) (T := TX4) (N := 17) hx hb hts iw_X4_trap_X4 hown hK hP 0 rfl rfl 6 (by decide) (hts (.fieldLink RX4 277 "MixBenchModel" "outputs" "I") (by decide +kernel)) (fun _ h9 => h9) rfl dX4_trap_31 ?_
        refine lv_sipush (v := 500) hx hb dX4_trap_34 (by decide) ?_
        obtain ⟨z7, ez7⟩ : ∃ q : MS, q = (if (500 : Int32) ≤ (m_on u1) then u1 else let u9 : MS := sm_ou u1 (upd (m_ou u1) (m_on u1).toNatClampNeg (vp_nar .byte (((m_g u1 p2.toNatClampNeg).toInt32).toInt8.toInt32))); let u10 : MS := sm_on u9 ((m_on u9) + (1 : Int32)); u10) := ⟨_, rfl⟩
        have k8 : ∀ (u6 : MS), u6 = z7 → ∀ (H : Heap) (locs : List Loc), va_P G vwCl (wM yy a u6) H → va_D A (wM yy a u6) → va_S A s.heap H locs → ∀ ls : Array Slot, lv_has ls 4 [(0, .ref (a 0)), (1, .int p0), (2, .int p1), (3, .int p2)] → W p l e rm_X4_trap s m args below meth c H locs 0 0 (MQ below (gQi (wM yy a) (f_X4_trap u p0 p1 p2) G A) args s 0 0 A) (F0 m 67 ls []) := by
          intro u6 jz7 H locs hP hD hS ls hl
          have eu6 : u6 = z7 := jz7
          refine lv_aload_n hx hb dX4_trap_67 rfl (lv_at hl 0 rfl) ?_
          refine lv_dup hx hb dX4_trap_68 rfl ?_
          refine va_get (D := G) (ci := 2) (v := .long (m_pc u6)) (C := RX4) (T := TX4) (N := 17) hx hb hts iw_X4_trap_X4 hown hK hP 0 rfl rfl 8 (by decide) (hts (.fieldLink RX4 162 "MixBenchModel" "pc" "J") (by decide +kernel)) (fun _ h9 => h9) rfl dX4_trap_69 ?_
          refine lv_ldc2 hx hb hown (hts (.constantLong RX4 223 (4)) (by decide +kernel)) dX4_trap_72 ?_
          refine lv_ladd hx hb dX4_trap_75 ?_
          refine va_put (D := G) (ci := 2) (v := .long ((m_pc u6) + (4 : Int64))) (ty := .long) (C := RX4) (T := TX4) (N := 17) hx hb hts iw_X4_trap_X4 tyX4 tyX4_ok nmX4 hown hK hP hD hS 0 rfl rfl 8 (by decide) (hts (.fieldLink RX4 162 "MixBenchModel" "pc" "J") (by decide +kernel)) (fun _ h9 => h9) rfl (by decide +kernel) rfl rfl (Nat.le_of_ble_eq_true rfl) dX4_trap_76 (fun H locs hP hD hS => ?_)
          obtain ⟨u11, eu11⟩ : ∃ z, z = sm_pc u6 ((m_pc u6) + (4 : Int64)) := ⟨_, rfl⟩
          have hP : va_P G vwCl (wM yy a u11) H := by rw [eu11]; exact hP
          have hD : va_D A (wM yy a u11) := by rw [eu11]; exact hD
          refine lv_iconst (v := 0) hx hb dX4_trap_79 (by decide) ?_
          exact g_iret (by have eu11 := eu11.symm; subst eu11; have eu6 := eu6.symm; subst eu6; have ez7 := ez7.symm; subst ez7; have eu1 := eu1.symm; subst eu1; exact (if_neg c2).trans ((if_pos c3).trans ((if_pos c4).trans (rfl)))) hx hb hr hP hD hS hlocks dX4_trap_80
        refine lv_icmp_ge (tgt := 67) hx hb dX4_trap_37 (by decide) (fun c5 => ?_) (fun c5 => ?_)
        · exact k8 u1 (ez7.trans (by exact (if_pos c5).trans (rfl))).symm _ _ hP hD hS ls (lv_sub hl [0, 1, 2, 3] rfl)
        · refine lv_aload_n hx hb dX4_trap_40 rfl (lv_at hl 0 rfl) ?_
          refine va_get (D := G) (ci := 2) (v := .ref (a 5)) (C := RX4) (T := TX4) (N := 17) hx hb hts iw_X4_trap_X4 hown hK hP 0 rfl rfl 5 (by decide) (hts (.fieldLink RX4 23 "MixBenchModel" "output" "[B") (by decide +kernel)) (fun _ h9 => h9) rfl dX4_trap_41 ?_
          refine lv_aload_n hx hb dX4_trap_44 rfl (lv_at hl 0 rfl) ?_
          refine va_get (D := G) (ci := 2) (v := .int (m_on u1)) (C := RX4) (T := TX4) (N := 17) hx hb hts iw_X4_trap_X4 hown hK hP 0 rfl rfl 6 (by decide) (hts (.fieldLink RX4 277 "MixBenchModel" "outputs" "I") (by decide +kernel)) (fun _ h9 => h9) rfl dX4_trap_45 ?_
          refine lv_aload_n hx hb dX4_trap_48 rfl (lv_at hl 0 rfl) ?_
          refine va_get (D := G) (ci := 2) (v := .ref (a 1)) (C := RX4) (T := TX4) (N := 17) hx hb hts iw_X4_trap_X4 hown hK hP 0 rfl rfl 1 (by decide) (hts (.fieldLink RX4 7 "MixBenchModel" "g" "[J") (by decide +kernel)) (fun _ h9 => h9) rfl dX4_trap_49 ?_
          refine lv_iload_n hx hb dX4_trap_52 rfl (lv_at hl 3 rfl) ?_
          refine va_lald hx hb hK hP 1 0 rfl rfl h0 dX4_trap_53 ?_
          refine lv_l2i (v := (m_g u1 p2.toNatClampNeg).toInt32) hx hb dX4_trap_54 rfl ?_
          refine lv_i2b (v := ((m_g u1 p2.toNatClampNeg).toInt32).toInt8.toInt32) hx hb dX4_trap_55 rfl ?_
          refine va_bast hx hb hK hP hD hS 5 1 rfl rfl (vp_lt (Int32.not_lt.mpr (by rw [eu1]; exact h1)) (Int32.not_le.mp c5) rfl (by decide)) dX4_trap_56 (fun H locs hP hD hS => ?_)
          obtain ⟨u9, eu9⟩ : ∃ z, z = sm_ou u1 (upd (m_ou u1) (m_on u1).toNatClampNeg (vp_nar .byte (((m_g u1 p2.toNatClampNeg).toInt32).toInt8.toInt32))) := ⟨_, rfl⟩
          have hP : va_P G vwCl (wM yy a u9) H := by rw [eu9]; exact hP
          have hD : va_D A (wM yy a u9) := by rw [eu9]; exact hD
          refine lv_aload_n hx hb dX4_trap_57 rfl (lv_at hl 0 rfl) ?_
          refine lv_dup hx hb dX4_trap_58 rfl ?_
          refine va_get (D := G) (ci := 2) (v := .int (m_on u9)) (C := RX4) (T := TX4) (N := 17) hx hb hts iw_X4_trap_X4 hown hK hP 0 rfl rfl 6 (by decide) (hts (.fieldLink RX4 277 "MixBenchModel" "outputs" "I") (by decide +kernel)) (fun _ h9 => h9) rfl dX4_trap_59 ?_
          refine lv_iconst (v := 1) hx hb dX4_trap_62 (by decide) ?_
          refine lv_iadd hx hb dX4_trap_63 ?_
          refine va_put (D := G) (ci := 2) (v := .int ((m_on u9) + (1 : Int32))) (ty := .int) (C := RX4) (T := TX4) (N := 17) hx hb hts iw_X4_trap_X4 tyX4 tyX4_ok nmX4 hown hK hP hD hS 0 rfl rfl 6 (by decide) (hts (.fieldLink RX4 277 "MixBenchModel" "outputs" "I") (by decide +kernel)) (fun _ h9 => h9) rfl (by decide +kernel) rfl rfl (Nat.le_of_ble_eq_true rfl) dX4_trap_64 (fun H locs hP hD hS => ?_)
          obtain ⟨u10, eu10⟩ : ∃ z, z = sm_on u9 ((m_on u9) + (1 : Int32)) := ⟨_, rfl⟩
          have hP : va_P G vwCl (wM yy a u10) H := by rw [eu10]; exact hP
          have hD : va_D A (wM yy a u10) := by rw [eu10]; exact hD
          exact k8 u10 (ez7.trans (by have eu10 := eu10.symm; subst eu10; have eu9 := eu9.symm; subst eu9; exact (if_neg c5).trans (rfl))).symm _ _ hP hD hS ls (lv_sub hl [0, 1, 2, 3] rfl)
      · refine lv_iconst (v := 2) hx hb dX4_trap_28 (by decide) ?_
        exact g_iret (by have eu1 := eu1.symm; subst eu1; exact (if_neg c2).trans ((if_pos c3).trans ((if_neg c4).trans (rfl)))) hx hb hr hP hD hS hlocks dX4_trap_29
  · refine lv_iload_n hx hb dX4_trap_9 rfl (lv_at hl 2 rfl) ?_
    refine lv_if_ne (tgt := 19) hx hb dX4_trap_10 (by decide) (fun c12 => ?_) (fun c12 => ?_)
    · refine lv_iload_n hx hb dX4_trap_19 rfl (lv_at hl 1 rfl) ?_
      refine lv_if_ne (tgt := 28) hx hb dX4_trap_20 (by decide) (fun c13 => ?_) (fun c13 => ?_)
      · refine lv_iconst (v := 2) hx hb dX4_trap_28 (by decide) ?_
        exact g_iret (by have eu1 := eu1.symm; subst eu1; exact (if_pos c2).trans ((if_neg c12).trans ((if_neg c13).trans (rfl)))) hx hb hr hP hD hS hlocks dX4_trap_29
      · refine lv_iload_n hx hb dX4_trap_23 rfl (lv_at hl 2 rfl) ?_
        refine lv_iconst (v := 1) hx hb dX4_trap_24 (by decide) ?_
        refine lv_icmp_eq (tgt := 30) hx hb dX4_trap_25 (by decide) (fun c14 => ?_) (fun c14 => ?_)
        · refine lv_aload_n hx hb dX4_trap_30 rfl (lv_at hl 0 rfl) ?_
          refine va_get (D := G) (ci := 2) (v := .int (m_on u1)) (C := RX4) (T := TX4) (N := 17) hx hb hts iw_X4_trap_X4 hown hK hP 0 rfl rfl 6 (by decide) (hts (.fieldLink RX4 277 "MixBenchModel" "outputs" "I") (by decide +kernel)) (fun _ h9 => h9) rfl dX4_trap_31 ?_
          refine lv_sipush (v := 500) hx hb dX4_trap_34 (by decide) ?_
          obtain ⟨z17, ez17⟩ : ∃ q : MS, q = (if (500 : Int32) ≤ (m_on u1) then u1 else let u19 : MS := sm_ou u1 (upd (m_ou u1) (m_on u1).toNatClampNeg (vp_nar .byte (((m_g u1 p2.toNatClampNeg).toInt32).toInt8.toInt32))); let u20 : MS := sm_on u19 ((m_on u19) + (1 : Int32)); u20) := ⟨_, rfl⟩
          have k18 : ∀ (u16 : MS), u16 = z17 → ∀ (H : Heap) (locs : List Loc), va_P G vwCl (wM yy a u16) H → va_D A (wM yy a u16) → va_S A s.heap H locs → ∀ ls : Array Slot, lv_has ls 4 [(0, .ref (a 0)), (1, .int p0), (2, .int p1), (3, .int p2)] → W p l e rm_X4_trap s m args below meth c H locs 0 0 (MQ below (gQi (wM yy a) (f_X4_trap u p0 p1 p2) G A) args s 0 0 A) (F0 m 67 ls []) := by
            intro u16 jz17 H locs hP hD hS ls hl
            have eu16 : u16 = z17 := jz17
            refine lv_aload_n hx hb dX4_trap_67 rfl (lv_at hl 0 rfl) ?_
            refine lv_dup hx hb dX4_trap_68 rfl ?_
            refine va_get (D := G) (ci := 2) (v := .long (m_pc u16)) (C := RX4) (T := TX4) (N := 17) hx hb hts iw_X4_trap_X4 hown hK hP 0 rfl rfl 8 (by decide) (hts (.fieldLink RX4 162 "MixBenchModel" "pc" "J") (by decide +kernel)) (fun _ h9 => h9) rfl dX4_trap_69 ?_
            refine lv_ldc2 hx hb hown (hts (.constantLong RX4 223 (4)) (by decide +kernel)) dX4_trap_72 ?_
            refine lv_ladd hx hb dX4_trap_75 ?_
            refine va_put (D := G) (ci := 2) (v := .long ((m_pc u16) + (4 : Int64))) (ty := .long) (C := RX4) (T := TX4) (N := 17) hx hb hts iw_X4_trap_X4 tyX4 tyX4_ok nmX4 hown hK hP hD hS 0 rfl rfl 8 (by decide) (hts (.fieldLink RX4 162 "MixBenchModel" "pc" "J") (by decide +kernel)) (fun _ h9 => h9) rfl (by decide +kernel) rfl rfl (Nat.le_of_ble_eq_true rfl) dX4_trap_76 (fun H locs hP hD hS => ?_)
            obtain ⟨u21, eu21⟩ : ∃ z, z = sm_pc u16 ((m_pc u16) + (4 : Int64)) := ⟨_, rfl⟩
            have hP : va_P G vwCl (wM yy a u21) H := by rw [eu21]; exact hP
            have hD : va_D A (wM yy a u21) := by rw [eu21]; exact hD
            refine lv_iconst (v := 0) hx hb dX4_trap_79 (by decide) ?_
            exact g_iret (by have eu21 := eu21.symm; subst eu21; have eu16 := eu16.symm; subst eu16; have ez17 := ez17.symm; subst ez17; have eu1 := eu1.symm; subst eu1; exact (if_pos c2).trans ((if_neg c12).trans ((if_pos c13).trans ((if_pos c14).trans (rfl))))) hx hb hr hP hD hS hlocks dX4_trap_80
          refine lv_icmp_ge (tgt := 67) hx hb dX4_trap_37 (by decide) (fun c15 => ?_) (fun c15 => ?_)
          · exact k18 u1 (ez17.trans (by exact (if_pos c15).trans (rfl))).symm _ _ hP hD hS ls (lv_sub hl [0, 1, 2, 3] rfl)
          · refine lv_aload_n hx hb dX4_trap_40 rfl (lv_at hl 0 rfl) ?_
            refine va_get (D := G) (ci := 2) (v := .ref (a 5)) (C := RX4) (T := TX4) (N := 17) hx hb hts iw_X4_trap_X4 hown hK hP 0 rfl rfl 5 (by decide) (hts (.fieldLink RX4 23 "MixBenchModel" "output" "[B") (by decide +kernel)) (fun _ h9 => h9) rfl dX4_trap_41 ?_
            refine lv_aload_n hx hb dX4_trap_44 rfl (lv_at hl 0 rfl) ?_
            refine va_get (D := G) (ci := 2) (v := .int (m_on u1)) (C := RX4) (T := TX4) (N := 17) hx hb hts iw_X4_trap_X4 hown hK hP 0 rfl rfl 6 (by decide) (hts (.fieldLink RX4 277 "MixBenchModel" "outputs" "I") (by decide +kernel)) (fun _ h9 => h9) rfl dX4_trap_45 ?_
            refine lv_aload_n hx hb dX4_trap_48 rfl (lv_at hl 0 rfl) ?_
            refine va_get (D := G) (ci := 2) (v := .ref (a 1)) (C := RX4) (T := TX4) (N := 17) hx hb hts iw_X4_trap_X4 hown hK hP 0 rfl rfl 1 (by decide) (hts (.fieldLink RX4 7 "MixBenchModel" "g" "[J") (by decide +kernel)) (fun _ h9 => h9) rfl dX4_trap_49 ?_
            refine lv_iload_n hx hb dX4_trap_52 rfl (lv_at hl 3 rfl) ?_
            refine va_lald hx hb hK hP 1 0 rfl rfl h0 dX4_trap_53 ?_
            refine lv_l2i (v := (m_g u1 p2.toNatClampNeg).toInt32) hx hb dX4_trap_54 rfl ?_
            refine lv_i2b (v := ((m_g u1 p2.toNatClampNeg).toInt32).toInt8.toInt32) hx hb dX4_trap_55 rfl ?_
            refine va_bast hx hb hK hP hD hS 5 1 rfl rfl (vp_lt (Int32.not_lt.mpr (by rw [eu1]; exact h1)) (Int32.not_le.mp c15) rfl (by decide)) dX4_trap_56 (fun H locs hP hD hS => ?_)
            obtain ⟨u19, eu19⟩ : ∃ z, z = sm_ou u1 (upd (m_ou u1) (m_on u1).toNatClampNeg (vp_nar .byte (((m_g u1 p2.toNatClampNeg).toInt32).toInt8.toInt32))) := ⟨_, rfl⟩
            have hP : va_P G vwCl (wM yy a u19) H := by rw [eu19]; exact hP
            have hD : va_D A (wM yy a u19) := by rw [eu19]; exact hD
            refine lv_aload_n hx hb dX4_trap_57 rfl (lv_at hl 0 rfl) ?_
            refine lv_dup hx hb dX4_trap_58 rfl ?_
            refine va_get (D := G) (ci := 2) (v := .int (m_on u19)) (C := RX4) (T := TX4) (N := 17) hx hb hts iw_X4_trap_X4 hown hK hP 0 rfl rfl 6 (by decide) (hts (.fieldLink RX4 277 "MixBenchModel" "outputs" "I") (by decide +kernel)) (fun _ h9 => h9) rfl dX4_trap_59 ?_
            refine lv_iconst (v := 1) hx hb dX4_trap_62 (by decide) ?_
            refine lv_iadd hx hb dX4_trap_63 ?_
            refine va_put (D := G) (ci := 2) (v := .int ((m_on u19) + (1 : Int32))) (ty := .int) (C := RX4) (T := TX4) (N := 17) hx hb hts iw_X4_trap_X4 tyX4 tyX4_ok nmX4 hown hK hP hD hS 0 rfl rfl 6 (by decide) (hts (.fieldLink RX4 277 "MixBenchModel" "outputs" "I") (by decide +kernel)) (fun _ h9 => h9) rfl (by decide +kernel) rfl rfl (Nat.le_of_ble_eq_true rfl) dX4_trap_64 (fun H locs hP hD hS => ?_)
            obtain ⟨u20, eu20⟩ : ∃ z, z = sm_on u19 ((m_on u19) + (1 : Int32)) := ⟨_, rfl⟩
            have hP : va_P G vwCl (wM yy a u20) H := by rw [eu20]; exact hP
            have hD : va_D A (wM yy a u20) := by rw [eu20]; exact hD
            exact k18 u20 (ez17.trans (by have eu20 := eu20.symm; subst eu20; have eu19 := eu19.symm; subst eu19; exact (if_neg c15).trans (rfl))).symm _ _ hP hD hS ls (lv_sub hl [0, 1, 2, 3] rfl)
        · refine lv_iconst (v := 2) hx hb dX4_trap_28 (by decide) ?_
          exact g_iret (by have eu1 := eu1.symm; subst eu1; exact (if_pos c2).trans ((if_neg c12).trans ((if_pos c13).trans ((if_neg c14).trans (rfl))))) hx hb hr hP hD hS hlocks dX4_trap_29
    · refine lv_iload_n hx hb dX4_trap_13 rfl (lv_at hl 3 rfl) ?_
      refine lv_if_ne (tgt := 19) hx hb dX4_trap_14 (by decide) (fun c22 => ?_) (fun c22 => ?_)
      · refine lv_iload_n hx hb dX4_trap_19 rfl (lv_at hl 1 rfl) ?_
        refine lv_if_ne (tgt := 28) hx hb dX4_trap_20 (by decide) (fun c23 => ?_) (fun c23 => ?_)
        · refine lv_iconst (v := 2) hx hb dX4_trap_28 (by decide) ?_
          exact g_iret (by have eu1 := eu1.symm; subst eu1; exact (if_pos c2).trans ((if_pos c12).trans ((if_neg c22).trans ((if_neg c23).trans (rfl))))) hx hb hr hP hD hS hlocks dX4_trap_29
        · refine lv_iload_n hx hb dX4_trap_23 rfl (lv_at hl 2 rfl) ?_
          refine lv_iconst (v := 1) hx hb dX4_trap_24 (by decide) ?_
          refine lv_icmp_eq (tgt := 30) hx hb dX4_trap_25 (by decide) (fun c24 => ?_) (fun c24 => ?_)
          · refine lv_aload_n hx hb dX4_trap_30 rfl (lv_at hl 0 rfl) ?_
            refine va_get (D := G) (ci := 2) (v := .int (m_on u1)) (C := RX4) (T := TX4) (N := 17) hx hb hts iw_X4_trap_X4 hown hK hP 0 rfl rfl 6 (by decide) (hts (.fieldLink RX4 277 "MixBenchModel" "outputs" "I") (by decide +kernel)) (fun _ h9 => h9) rfl dX4_trap_31 ?_
            refine lv_sipush (v := 500) hx hb dX4_trap_34 (by decide) ?_
            obtain ⟨z27, ez27⟩ : ∃ q : MS, q = (if (500 : Int32) ≤ (m_on u1) then u1 else let u29 : MS := sm_ou u1 (upd (m_ou u1) (m_on u1).toNatClampNeg (vp_nar .byte (((m_g u1 p2.toNatClampNeg).toInt32).toInt8.toInt32))); let u30 : MS := sm_on u29 ((m_on u29) + (1 : Int32)); u30) := ⟨_, rfl⟩
            have k28 : ∀ (u26 : MS), u26 = z27 → ∀ (H : Heap) (locs : List Loc), va_P G vwCl (wM yy a u26) H → va_D A (wM yy a u26) → va_S A s.heap H locs → ∀ ls : Array Slot, lv_has ls 4 [(0, .ref (a 0)), (1, .int p0), (2, .int p1), (3, .int p2)] → W p l e rm_X4_trap s m args below meth c H locs 0 0 (MQ below (gQi (wM yy a) (f_X4_trap u p0 p1 p2) G A) args s 0 0 A) (F0 m 67 ls []) := by
              intro u26 jz27 H locs hP hD hS ls hl
              have eu26 : u26 = z27 := jz27
              refine lv_aload_n hx hb dX4_trap_67 rfl (lv_at hl 0 rfl) ?_
              refine lv_dup hx hb dX4_trap_68 rfl ?_
              refine va_get (D := G) (ci := 2) (v := .long (m_pc u26)) (C := RX4) (T := TX4) (N := 17) hx hb hts iw_X4_trap_X4 hown hK hP 0 rfl rfl 8 (by decide) (hts (.fieldLink RX4 162 "MixBenchModel" "pc" "J") (by decide +kernel)) (fun _ h9 => h9) rfl dX4_trap_69 ?_
              refine lv_ldc2 hx hb hown (hts (.constantLong RX4 223 (4)) (by decide +kernel)) dX4_trap_72 ?_
              refine lv_ladd hx hb dX4_trap_75 ?_
              refine va_put (D := G) (ci := 2) (v := .long ((m_pc u26) + (4 : Int64))) (ty := .long) (C := RX4) (T := TX4) (N := 17) hx hb hts iw_X4_trap_X4 tyX4 tyX4_ok nmX4 hown hK hP hD hS 0 rfl rfl 8 (by decide) (hts (.fieldLink RX4 162 "MixBenchModel" "pc" "J") (by decide +kernel)) (fun _ h9 => h9) rfl (by decide +kernel) rfl rfl (Nat.le_of_ble_eq_true rfl) dX4_trap_76 (fun H locs hP hD hS => ?_)
              obtain ⟨u31, eu31⟩ : ∃ z, z = sm_pc u26 ((m_pc u26) + (4 : Int64)) := ⟨_, rfl⟩
              have hP : va_P G vwCl (wM yy a u31) H := by rw [eu31]; exact hP
              have hD : va_D A (wM yy a u31) := by rw [eu31]; exact hD
              refine lv_iconst (v := 0) hx hb dX4_trap_79 (by decide) ?_
              exact g_iret (by have eu31 := eu31.symm; subst eu31; have eu26 := eu26.symm; subst eu26; have ez27 := ez27.symm; subst ez27; have eu1 := eu1.symm; subst eu1; exact (if_pos c2).trans ((if_pos c12).trans ((if_neg c22).trans ((if_pos c23).trans ((if_pos c24).trans (rfl)))))) hx hb hr hP hD hS hlocks dX4_trap_80
            refine lv_icmp_ge (tgt := 67) hx hb dX4_trap_37 (by decide) (fun c25 => ?_) (fun c25 => ?_)
            · exact k28 u1 (ez27.trans (by exact (if_pos c25).trans (rfl))).symm _ _ hP hD hS ls (lv_sub hl [0, 1, 2, 3] rfl)
            · refine lv_aload_n hx hb dX4_trap_40 rfl (lv_at hl 0 rfl) ?_
              refine va_get (D := G) (ci := 2) (v := .ref (a 5)) (C := RX4) (T := TX4) (N := 17) hx hb hts iw_X4_trap_X4 hown hK hP 0 rfl rfl 5 (by decide) (hts (.fieldLink RX4 23 "MixBenchModel" "output" "[B") (by decide +kernel)) (fun _ h9 => h9) rfl dX4_trap_41 ?_
              refine lv_aload_n hx hb dX4_trap_44 rfl (lv_at hl 0 rfl) ?_
              refine va_get (D := G) (ci := 2) (v := .int (m_on u1)) (C := RX4) (T := TX4) (N := 17) hx hb hts iw_X4_trap_X4 hown hK hP 0 rfl rfl 6 (by decide) (hts (.fieldLink RX4 277 "MixBenchModel" "outputs" "I") (by decide +kernel)) (fun _ h9 => h9) rfl dX4_trap_45 ?_
              refine lv_aload_n hx hb dX4_trap_48 rfl (lv_at hl 0 rfl) ?_
              refine va_get (D := G) (ci := 2) (v := .ref (a 1)) (C := RX4) (T := TX4) (N := 17) hx hb hts iw_X4_trap_X4 hown hK hP 0 rfl rfl 1 (by decide) (hts (.fieldLink RX4 7 "MixBenchModel" "g" "[J") (by decide +kernel)) (fun _ h9 => h9) rfl dX4_trap_49 ?_
              refine lv_iload_n hx hb dX4_trap_52 rfl (lv_at hl 3 rfl) ?_
              refine va_lald hx hb hK hP 1 0 rfl rfl h0 dX4_trap_53 ?_
              refine lv_l2i (v := (m_g u1 p2.toNatClampNeg).toInt32) hx hb dX4_trap_54 rfl ?_
              refine lv_i2b (v := ((m_g u1 p2.toNatClampNeg).toInt32).toInt8.toInt32) hx hb dX4_trap_55 rfl ?_
              refine va_bast hx hb hK hP hD hS 5 1 rfl rfl (vp_lt (Int32.not_lt.mpr (by rw [eu1]; exact h1)) (Int32.not_le.mp c25) rfl (by decide)) dX4_trap_56 (fun H locs hP hD hS => ?_)
              obtain ⟨u29, eu29⟩ : ∃ z, z = sm_ou u1 (upd (m_ou u1) (m_on u1).toNatClampNeg (vp_nar .byte (((m_g u1 p2.toNatClampNeg).toInt32).toInt8.toInt32))) := ⟨_, rfl⟩
              have hP : va_P G vwCl (wM yy a u29) H := by rw [eu29]; exact hP
              have hD : va_D A (wM yy a u29) := by rw [eu29]; exact hD
              refine lv_aload_n hx hb dX4_trap_57 rfl (lv_at hl 0 rfl) ?_
              refine lv_dup hx hb dX4_trap_58 rfl ?_
              refine va_get (D := G) (ci := 2) (v := .int (m_on u29)) (C := RX4) (T := TX4) (N := 17) hx hb hts iw_X4_trap_X4 hown hK hP 0 rfl rfl 6 (by decide) (hts (.fieldLink RX4 277 "MixBenchModel" "outputs" "I") (by decide +kernel)) (fun _ h9 => h9) rfl dX4_trap_59 ?_
              refine lv_iconst (v := 1) hx hb dX4_trap_62 (by decide) ?_
              refine lv_iadd hx hb dX4_trap_63 ?_
              refine va_put (D := G) (ci := 2) (v := .int ((m_on u29) + (1 : Int32))) (ty := .int) (C := RX4) (T := TX4) (N := 17) hx hb hts iw_X4_trap_X4 tyX4 tyX4_ok nmX4 hown hK hP hD hS 0 rfl rfl 6 (by decide) (hts (.fieldLink RX4 277 "MixBenchModel" "outputs" "I") (by decide +kernel)) (fun _ h9 => h9) rfl (by decide +kernel) rfl rfl (Nat.le_of_ble_eq_true rfl) dX4_trap_64 (fun H locs hP hD hS => ?_)
              obtain ⟨u30, eu30⟩ : ∃ z, z = sm_on u29 ((m_on u29) + (1 : Int32)) := ⟨_, rfl⟩
              have hP : va_P G vwCl (wM yy a u30) H := by rw [eu30]; exact hP
              have hD : va_D A (wM yy a u30) := by rw [eu30]; exact hD
              exact k28 u30 (ez27.trans (by have eu30 := eu30.symm; subst eu30; have eu29 := eu29.symm; subst eu29; exact (if_neg c25).trans (rfl))).symm _ _ hP hD hS ls (lv_sub hl [0, 1, 2, 3] rfl)
          · refine lv_iconst (v := 2) hx hb dX4_trap_28 (by decide) ?_
            exact g_iret (by have eu1 := eu1.symm; subst eu1; exact (if_pos c2).trans ((if_pos c12).trans ((if_neg c22).trans ((if_pos c23).trans ((if_neg c24).trans (rfl)))))) hx hb hr hP hD hS hlocks dX4_trap_29
      · refine lv_iconst (v := 1) hx hb dX4_trap_17 (by decide) ?_
        exact g_iret (by have eu1 := eu1.symm; subst eu1; exact (if_pos c2).trans ((if_pos c12).trans ((if_pos c22).trans (rfl)))) hx hb hr hP hD hS hlocks dX4_trap_18
