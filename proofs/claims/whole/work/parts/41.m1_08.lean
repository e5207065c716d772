def f_X4_quotient (u : MS) (p0 : Int64) (p1 : Int64) : Int64 × MS :=
  if p1 = (0 : Int64) then
    let u24 : MS := sm_sp u (vp_updL (m_sp u) (6 : Int32).toNatClampNeg p0);
    let u25 : MS := sm_sp u24 (vp_updL (m_sp u24) (7 : Int32).toNatClampNeg ((m_sp u24 (7 : Int32).toNatClampNeg) ||| (128 : Int64)));
    ((0 : Int64), u25)
  else
    let z4 : Int32 := (if p0 = (-9223372036854775808 : Int64) then if p1 = (-1 : Int64) then (1 : Int32) else (0 : Int32) else (0 : Int32));
    let v3 : Int32 := z4;
    let u7 : MS := f_X4_over u v3;
    let v8 : Int64 := p0 / p1;
    let z11 : Int64 := (if (p0 - p0 / p1 * p1) = (0 : Int64) then v8 else let z15 : Int32 := (if (0 : Int64) ≤ (p0 - p0 / p1 * p1) then (0 : Int32) else (1 : Int32)); let v14 : Int32 := z15; let z19 : Int32 := (if (0 : Int64) ≤ p1 then (0 : Int32) else (1 : Int32)); let v18 : Int32 := z19; if v14 = v18 then v8 else let v22 : Int64 := v8 - (1 : Int64); v22);
    let v10 : Int64 := z11;
    let u23 : MS := sm_sp u7 (vp_updL (m_sp u7) (6 : Int32).toNatClampNeg (p0 - (p1 * v10)));
    (v10, u23)
abbrev rm_X4_quotient : Room := { frames := 1, cells := 0, slots := 0, locals := 21 }
set_option maxRecDepth 20000 in
theorem iw_X4_quotient_X4 : ∀ w ∈ wsX40, w ∈ wsX4_quotient := by decide +kernel
set_option maxHeartbeats 4000000 in
set_option maxRecDepth 100000 in
theorem c_X4_quotient (l : Launch) (yy : Nat → ClassId) (a : Nat → Nat) (u : MS) (p0 : Int64) (p1 : Int64) : gMl l yX4_quotient wsX4_quotient rm_X4_quotient eTrue (sT yy) (wM yy a) [.ref (a 0), .long p0, .long p1] u (f_X4_quotient u p0 p1) := by
  refine gm_ofW (Qc := gQl (wM yy a) (f_X4_quotient u p0 p1)) (by decide) rfl (Nat.le_of_ble_eq_true rfl) ?_
  intro G A p e s m args below meth c hx hb hr hml hts hown hlocks hK hE hA H locs hP hD hS ls hl
  have hl : lv_has ls 7 [(0, .ref (a 0)), (1, .long p0), (3, .long p1)] := hl
  refine lv_lload_n hx hb dX4_quotient_0 rfl (lv_at hl 2 rfl) ?_
  refine lv_lconst (v := 0) hx hb dX4_quotient_1 (by decide) ?_
  refine lc_ne (tgt := 29) hx hb dX4_quotient_2 dX4_quotient_3 (by decide) (fun c1 => ?_) (fun c1 => ?_)
  · refine lv_aload_n hx hb dX4_quotient_29 rfl (lv_at hl 0 rfl) ?_
    refine lv_lload_n hx hb dX4_quotient_30 rfl (lv_at hl 1 rfl) ?_
    refine lv_ldc2 hx hb hown (hts (.constantLong RX4 160 (-9223372036854775808)) (by decide +kernel)) dX4_quotient_31 ?_
    obtain ⟨z4, ez4⟩ : ∃ q : Int32, q = (if p0 = (-9223372036854775808 : Int64) then if p1 = (-1 : Int64) then (1 : Int32) else (0 : Int32) else (0 : Int32)) := ⟨_, rfl⟩
    have k5 : ∀ (v3 : Int32), v3 = z4 → ∀ (H : Heap) (locs : List Loc), va_P G vwCl (wM yy a u) H → va_D A (wM yy a u) → va_S A s.heap H locs → ∀ ls : Array Slot, lv_has ls 7 [(0, .ref (a 0)), (1, .long p0), (3, .long p1)] → W p l e rm_X4_quotient s m args below meth c H locs 0 0 (MQ below (gQl (wM yy a) (f_X4_quotient u p0 p1) G A) args s 0 0 A) (F0 m 51 ls [.int v3, .ref (a 0)]) := by
      intro v3 jz4 H locs hP hD hS ls hl
      have ev3 : v3 = z4 := jz4
      refine g_v (va_runV (As := [.int v3]) (rest := []) ⟨hx, hb, hml, hown, hts⟩ (c_X4_over l yy a u v3  G H.size) (cwV 1 hts gX4_quotient_X4_over rfl rfl rfl (by decide +kernel) ⟨Nat.le_of_ble_eq_true rfl, Nat.le_of_ble_eq_true rfl⟩) (g_preV eTrue_bl hK hE hP hD hS hA 0 rfl rfl) rfl rfl hl.1 rfl (lv_room (Nat.le_of_ble_eq_true rfl)) dX4_quotient_51 ⟨Nat.le_of_ble_eq_true rfl, Nat.le_of_ble_eq_true rfl⟩) hD hS hA (fun H locs hP hD hS => ?_)
      obtain ⟨u7, eu7⟩ : ∃ z, z = f_X4_over u v3 := ⟨_, rfl⟩
      have hP : va_P G vwCl (wM yy a u7) H := by rw [eu7]; exact hP
      have hD : va_D A (wM yy a u7) := by rw [eu7]; exact hD
      refine lv_lload_n hx hb dX4_quotient_54 rfl (lv_at hl 1 rfl) ?_
      refine lv_lload_n hx hb dX4_quotient_55 rfl (lv_at hl 2 rfl) ?_
      refine lv_ldiv hx hb dX4_quotient_56 c1 ?_
      refine lv_topl (fun v8 ev8 => ?_)
      refine lv_lstore (lv' := [(5, .long v8), (0, .ref (a 0)), (1, .long p0), (3, .long p1)]) hx hb dX4_quotient_57 hl (by decide) rfl (fun ls hl => ?_)
      refine lv_lload_n hx hb dX4_quotient_59 rfl (lv_at hl 2 rfl) ?_
      refine lv_lload_n hx hb dX4_quotient_60 rfl (lv_at hl 3 rfl) ?_
      refine lv_lrem hx hb dX4_quotient_61 c1 ?_
      refine lv_lconst (v := 0) hx hb dX4_quotient_62 (by decide) ?_
      obtain ⟨z11, ez11⟩ : ∃ q : Int64, q = (if (p0 - p0 / p1 * p1) = (0 : Int64) then v8 else let z15 : Int32 := (if (0 : Int64) ≤ (p0 - p0 / p1 * p1) then (0 : Int32) else (1 : Int32)); let v14 : Int32 := z15; let z19 : Int32 := (if (0 : Int64) ≤ p1 then (0 : Int32) else (1 : Int32)); let v18 : Int32 := z19; if v14 = v18 then v8 else let v22 : Int64 := v8 - (1 : Int64); v22) := ⟨_, rfl⟩
      have k12 : ∀ (v10 : Int64), v10 = z11 → ∀ (H : Heap) (locs : List Loc), va_P G vwCl (wM yy a u7) H → va_D A (wM yy a u7) → va_S A s.heap H locs → ∀ ls : Array Slot, lv_has ls 7 [(0, .ref (a 0)), (1, .long p0), (3, .long p1), (5, .long v10)] → W p l e rm_X4_quotient s m args below meth c H locs 0 0 (MQ below (gQl (wM yy a) (f_X4_quotient u p0 p1) G A) args s 0 0 A) (F0 m 100 ls []) := by
        intro v10 jz11 H locs hP hD hS ls hl
        have ev10 : v10 = z11 := jz11
        refine lv_aload_n hx hb dX4_quotient_100 rfl (lv_at hl 0 rfl) ?_
        refine va_get (D := G) (ci := 2) (v := .ref (a 2)) (C := RX4) (T := TX4) (N := 17) hx hb hts iw_X4_quotient_X4 hown hK hP 0 rfl rfl 2 (by decide) (hts (.fieldLink RX4 13 "MixBenchModel" "special" "[J") (by decide +kernel)) (fun _ h9 => h9) rfl dX4_quotient_101 ?_
        refine lv_bipush (v := 6) hx hb dX4_quotient_104 (by decide) ?_
        refine lv_lload_n hx hb dX4_quotient_106 rfl (lv_at hl 1 rfl) ?_
        refine lv_lload_n hx hb dX4_quotient_107 rfl (lv_at hl 2 rfl) ?_
        refine lv_lload hx hb dX4_quotient_108 (lv_at hl 3 rfl) ?_
        refine lv_lmul hx hb dX4_quotient_110 ?_
        refine lv_lsub hx hb dX4_quotient_111 ?_
        refine va_last hx hb hK hP hD hS 2 0 rfl rfl (by unfold vp_in; decide) dX4_quotient_112 (fun H locs hP hD hS => ?_)
        obtain ⟨u23, eu23⟩ : ∃ z, z = sm_sp u7 (vp_updL (m_sp u7) (6 : Int32).toNatClampNeg (p0 - (p1 * v10))) := ⟨_, rfl⟩
        have hP : va_P G vwCl (wM yy a u23) H := by rw [eu23]; exact hP
        have hD : va_D A (wM yy a u23) := by rw [eu23]; exact hD
        refine lv_lload hx hb dX4_quotient_113 (lv_at hl 3 rfl) ?_
        exact g_lret (by have eu23 := eu23.symm; subst eu23; have ev10 := ev10.symm; subst ev10; have ez11 := ez11.symm; subst ez11; have ev8 := ev8.symm; subst ev8; have eu7 := eu7.symm; subst eu7; have ev3 := ev3.symm; subst ev3; have ez4 := ez4.symm; subst ez4; exact (if_neg c1).trans (rfl)) hx hb hr hP hD hS hlocks dX4_quotient_115
      refine lc_eq (tgt := 100) hx hb dX4_quotient_63 dX4_quotient_64 (by decide) (fun c9 => ?_) (fun c9 => ?_)
      · exact k12 v8 (ez11.trans (by exact (if_pos c9).trans (rfl))).symm _ _ hP hD hS ls (lv_sub hl [1, 2, 3, 0] rfl)
      · refine lv_lload_n hx hb dX4_quotient_67 rfl (lv_at hl 2 rfl) ?_
        refine lv_lload_n hx hb dX4_quotient_68 rfl (lv_at hl 3 rfl) ?_
        refine lv_lrem hx hb dX4_quotient_69 c1 ?_
        refine lv_lconst (v := 0) hx hb dX4_quotient_70 (by decide) ?_
        obtain ⟨z15, ez15⟩ : ∃ q : Int32, q = (if (0 : Int64) ≤ (p0 - p0 / p1 * p1) then (0 : Int32) else (1 : Int32)) := ⟨_, rfl⟩
        have k16 : ∀ (v14 : Int32), v14 = z15 → ∀ (H : Heap) (locs : List Loc), va_P G vwCl (wM yy a u7) H → va_D A (wM yy a u7) → va_S A s.heap H locs → ∀ ls : Array Slot, lv_has ls 7 [(0, .ref (a 0)), (1, .long p0), (3, .long p1), (5, .long v8)] → W p l e rm_X4_quotient s m args below meth c H locs 0 0 (MQ below (gQl (wM yy a) (f_X4_quotient u p0 p1) G A) args s 0 0 A) (F0 m 80 ls [.int v14]) := by
          intro v14 jz15 H locs hP hD hS ls hl
          have ev14 : v14 = z15 := jz15
          refine lv_lload_n hx hb dX4_quotient_80 rfl (lv_at hl 2 rfl) ?_
          refine lv_lconst (v := 0) hx hb dX4_quotient_81 (by decide) ?_
          obtain ⟨z19, ez19⟩ : ∃ q : Int32, q = (if (0 : Int64) ≤ p1 then (0 : Int32) else (1 : Int32)) := ⟨_, rfl⟩
          have k20 : ∀ (v18 : Int32), v18 = z19 → ∀ (H : Heap) (locs : List Loc), va_P G vwCl (wM yy a u7) H → va_D A (wM yy a u7) → va_S A s.heap H locs → ∀ ls : Array Slot, lv_has ls 7 [(0, .ref (a 0)), (1, .long p0), (3, .long p1), (5, .long v8)] → W p l e rm_X4_quotient s m args below meth c H locs 0 0 (MQ below (gQl (wM yy a) (f_X4_quotient u p0 p1) G A) args s 0 0 A) (F0 m 91 ls [.int v18, .int v14]) := by
            intro v18 jz19 H locs hP hD hS ls hl
            have ev18 : v18 = z19 := jz19
            refine lv_icmp_eq (tgt := 100) hx hb dX4_quotient_91 (by decide) (fun c21 => ?_) (fun c21 => ?_)
            · exact k12 v8 (ez11.trans (by have ev18 := ev18.symm; subst ev18; have ez19 := ez19.symm; subst ez19; have ev14 := ev14.symm; subst ev14; have ez15 := ez15.symm; subst ez15; exact (if_neg c9).trans ((if_pos c21).trans (rfl)))).symm _ _ hP hD hS ls (lv_sub hl [0, 1, 2, 3] rfl)
            · refine lv_lload hx hb dX4_quotient_94 (lv_at hl 3 rfl) ?_
              refine lv_lconst (v := 1) hx hb dX4_quotient_96 (by decide) ?_
              refine lv_lsub hx hb dX4_quotient_97 ?_
              refine lv_topl (fun v22 ev22 => ?_)
              refine lv_lstore (lv' := [(5, .long v22), (0, .ref (a 0)), (1, .long p0), (3, .long p1)]) hx hb dX4_quotient_98 hl (by decide) rfl (fun ls hl => ?_)
              exact k12 v22 (ez11.trans (by have ev22 := ev22.symm; subst ev22; have ev18 := ev18.symm; subst ev18; have ez19 := ez19.symm; subst ez19; have ev14 := ev14.symm; subst ev14; have ez15 := ez15.symm; subst ez15; exact (if_neg c9).trans ((if_neg c21).trans (rfl)))).symm _ _ hP hD hS ls (lv_sub hl [1, 2, 3, 0] rfl)
          refine lc_ge (tgt := 90) hx hb dX4_quotient_82 dX4_quotient_83 (by decide) (fun c17 => ?_) (fun c17 => ?_)
          · refine lv_iconst (v := 0) hx hb dX4_quotient_90 (by decide) ?_
            exact k20 (0 : Int32) (ez19.trans (by exact (if_pos c17).trans (rfl))).symm _ _ hP hD hS ls (lv_sub hl [0, 1, 2, 3] rfl)
          · refine lv_iconst (v := 1) hx hb dX4_quotient_86 (by decide) ?_
            refine lv_goto (tgt := 91) hx hb dX4_quotient_87 (by decide) ?_
            exact k20 (1 : Int32) (ez19.trans (by exact (if_neg c17).trans (rfl))).symm _ _ hP hD hS ls (lv_sub hl [0, 1, 2, 3] rfl)
        refine lc_ge (tgt := 79) hx hb dX4_quotient_71 dX4_quotient_72 (by decide) (fun c13 => ?_) (fun c13 => ?_)
        · refine lv_iconst (v := 0) hx hb dX4_quotient_79 (by decide) ?_
          exact k16 (0 : Int32) (ez15.trans (by exact (if_pos c13).trans (rfl))).symm _ _ hP hD hS ls (lv_sub hl [1, 2, 3, 0] rfl)
        · refine lv_iconst (v := 1) hx hb dX4_quotient_75 (by decide) ?_
          refine lv_goto (tgt := 80) hx hb dX4_quotient_76 (by decide) ?_
          exact k16 (1 : Int32) (ez15.trans (by exact (if_neg c13).trans (rfl))).symm _ _ hP hD hS ls (lv_sub hl [1, 2, 3, 0] rfl)
    refine lc_ne (tgt := 50) hx hb dX4_quotient_34 dX4_quotient_35 (by decide) (fun c2 => ?_) (fun c2 => ?_)
    · refine lv_iconst (v := 0) hx hb dX4_quotient_50 (by decide) ?_
      exact k5 (0 : Int32) (ez4.trans (by exact (if_neg c2).trans (rfl))).symm _ _ hP hD hS ls (lv_sub hl [0, 1, 2] rfl)
    · refine lv_lload_n hx hb dX4_quotient_38 rfl (lv_at hl 2 rfl) ?_
      refine lv_ldc2 hx hb hown (hts (.constantLong RX4 261 (-1)) (by decide +kernel)) dX4_quotient_39 ?_
      refine lc_ne (tgt := 50) hx hb dX4_quotient_42 dX4_quotient_43 (by decide) (fun c6 => ?_) (fun c6 => ?_)
      · refine lv_iconst (v := 0) hx hb dX4_quotient_50 (by decide) ?_
        exact k5 (0 : Int32) (ez4.trans (by exact (if_pos c2).trans ((if_neg c6).trans (rfl)))).symm _ _ hP hD hS ls (lv_sub hl [0, 1, 2] rfl)
      · refine lv_iconst (v := 1) hx hb dX4_quotient_46 (by decide) ?_
        refine lv_goto (tgt := 51) hx hb dX4_quotient_47 (by decide) ?_
        exact k5 (1 : Int32) (ez4.trans (by exact (if_pos c2).trans ((if_pos c6).trans (rfl)))).symm _ _ hP hD hS ls (lv_sub hl [0, 1, 2] rfl)
  · refine lv_aload_n hx hb dX4_quotient_6 rfl (lv_at hl 0 rfl) ?_
    refine va_get (D := G) (ci := 2) (v := .ref (a 2)) (C := RX4) (T := TX4) (N := 17) hx hb hts iw_X4_quotient_X4 hown hK hP 0 rfl rfl 2 (by decide) (hts (.fieldLink RX4 13 "MixBenchModel" "special" "[J") (by decide +kernel)) (fun _ h9 => h9) rfl dX4_quotient_7 ?_
    refine lv_bipush (v := 6) hx hb dX4_quotient_10 (by decide) ?_
    refine lv_lload_n hx hb dX4_quotient_12 rfl (lv_at hl 1 rfl) ?_
    refine va_last hx hb hK hP hD hS 2 0 rfl rfl (by unfold vp_in; decide) dX4_quotient_13 (fun H locs hP hD hS => ?_)
    obtain ⟨u24, eu24⟩ : ∃ z, z = sm_sp u (vp_updL (m_sp u) (6 : Int32).toNatClampNeg p0) := ⟨_, rfl⟩
    have hP : va_P G vwCl (wM yy a u24) H := by rw [eu24]; exact hP
    have hD : va_D A (wM yy a u24) := by rw [eu24]; exact hD
    refine lv_aload_n hx hb dX4_quotient_14 rfl (lv_at hl 0 rfl) ?_
    refine va_get (D := G) (ci := 2) (v := .ref (a 2)) (C := RX4) (T := TX4) (N := 17) hx hb hts iw_X4_quotient_X4 hown hK hP 0 rfl rfl 2 (by decide) (hts (.fieldLink RX4 13 "MixBenchModel" "special" "[J") (by decide +kernel)) (fun _ h9 => h9) rfl dX4_quotient_15 ?_
    refine lv_bipush (v := 7) hx hb dX4_quotient_18 (by decide) ?_
    refine lv_dup2_11 hx hb dX4_quotient_20 rfl rfl ?_
    refine va_lald hx hb hK hP 2 0 rfl rfl (by unfold vp_in; decide) dX4_quotient_21 ?_
    refine lv_ldc2 hx hb hown (hts (.constantLong RX4 275 (128)) (by decide +kernel)) dX4_quotient_22 ?_
    refine lv_lor hx hb dX4_quotient_25 ?_
    refine va_last hx hb hK hP hD hS 2 0 rfl rfl (by unfold vp_in; decide) dX4_quotient_26 (fun H locs hP hD hS => ?_)
    obtain ⟨u25, eu25⟩ : ∃ z, z = sm_sp u24 (vp_updL (m_sp u24) (7 : Int32).toNatClampNeg ((m_sp u24 (7 : Int32).toNatClampNeg) ||| (128 : Int64))) := ⟨_, rfl⟩
    have hP : va_P G vwCl (wM yy a u25) H := by rw [eu25]; exact hP
    have hD : va_D A (wM yy a u25) := by rw [eu25]; exact hD
    refine lv_lconst (v := 0) hx hb dX4_quotient_27 (by decide) ?_
    exact g_lret (by have eu25 := eu25.symm; subst eu25; have eu24 := eu24.symm; subst eu24; exact (if_pos c1).trans (rfl)) hx hb hr hP hD hS hlocks dX4_quotient_28
