def lf_X4_go_41 (q1 : Int32) (q2 : Int32) : Nat → Int32 → Int32 → MS → Int32 × Int32 × MS
  | 0, w3, w4, u0 => (w3, w4, u0)
  | n + 1, w3, w4, u0 =>
    if q2 ≤ w4 then
      (w3, w4, u0)
    else
      if w3 = (0 : Int32) then
        let v13 : Int32 := (f_X4_step u0 ).1;
        let u14 : MS := (f_X4_step u0 ).2;
        let v15 : Int32 := w4 + (1 : Int32);
        lf_X4_go_41 q1 q2 n v13 v15 u14
      else
        (w3, w4, u0)
def f_X4_go (u : MS) (p0 : Int32) (p1 : Int32) : Int32 × MS :=
  let u1 : MS := sm_th u (0 : Int32);
  if p1 < (1 : Int32) then
    let v3 : Int32 := (f_X4_fail u1 (1 : Int32)).1;
    let u4 : MS := (f_X4_fail u1 (1 : Int32)).2;
    (v3, u4)
  else
    if p1 ≤ (1000 : Int32) then
      let z8 : MS := (if p0 < (0 : Int32) then u1 else let u10 : MS := sm_pc u1 ((p0 &&& (-4 : Int32)).toInt64); u10);
      let u7 : MS := z8;
      let v16 : Int32 := (lf_X4_go_41 p0 p1 (p1.toNatClampNeg + 1) (0 : Int32) (0 : Int32) u7).1;
      let v17 : Int32 := (lf_X4_go_41 p0 p1 (p1.toNatClampNeg + 1) (0 : Int32) (0 : Int32) u7).2.1;
      let u18 : MS := (lf_X4_go_41 p0 p1 (p1.toNatClampNeg + 1) (0 : Int32) (0 : Int32) u7).2.2;
      (v16, u18)
    else
      let v19 : Int32 := (f_X4_fail u1 (1 : Int32)).1;
      let u20 : MS := (f_X4_fail u1 (1 : Int32)).2;
      (v19, u20)
abbrev rm_X4_go : Room := { frames := 4, cells := 0, slots := 0, locals := 111 }
set_option maxRecDepth 20000 in
theorem iw_X4_go_X4 : ∀ w ∈ wsX40, w ∈ wsX4_go := by decide +kernel
set_option maxHeartbeats 4000000 in
set_option maxRecDepth 100000 in
theorem c_X4_go (l : Launch) (yy : Nat → ClassId) (a : Nat → Nat) (u : MS) (p0 : Int32) (p1 : Int32) (h0 : 0 ≤ m_on u) : gMi l yX4_go wsX4_go rm_X4_go eTrue (sT yy) (wM yy a) [.ref (a 0), .int p0, .int p1] u (f_X4_go u p0 p1) := by
  refine gm_ofW (Qc := gQi (wM yy a) (f_X4_go u p0 p1)) (by decide) rfl (Nat.le_of_ble_eq_true rfl) ?_
  intro G A p e s m args below meth c hx hb hr hml hts hown hlocks hK hE hA H locs hP hD hS ls hl
  have hl : lv_has ls 5 [(0, .ref (a 0)), (1, .int p0), (2, .int p1)] := hl
  refine lv_aload_n hx hb dX4_go_0 rfl (lv_at hl 0 rfl) ?_
  refine lv_iconst (v := 0) hx hb dX4_go_1 (by decide) ?_
  refine va_put (D := G) (ci := 2) (v := .int (0 : Int32)) (ty := .int) (C := RX4) (T := TX4) (N := 17) hx hb hts iw_X4_go_X4 tyX4 tyX4_ok nmX4 hown hK hP hD hS 0 rfl rfl 0 (by decide) (hts (.fieldLink RX4 153 "MixBenchModel" "thrown" "I") (by decide +kernel)) (fun _ h9 => h9) rfl (by decide +kernel) rfl rfl (Nat.le_of_ble_eq_true rfl) dX4_go_2 (fun H locs hP hD hS => ?_)
  obtain ⟨u1, eu1⟩ : ∃ z, z = sm_th u (0 : Int32) := ⟨_, rfl⟩
  have hP : va_P G vwCl (wM yy a u1) H := by rw [eu1]; exact hP
  have hD : va_D A (wM yy a u1) := by rw [eu1]; exact hD
  refine lv_iload_n hx hb dX4_go_5 rfl (lv_at hl 2 rfl) ?_
  refine lv_iconst (v := 1) hx hb dX4_go_6 (by decide) ?_
  refine lv_icmp_lt (tgt := 17) hx hb dX4_go_7 (by decide) (fun c2 => ?_) (fun c2 => ?_)
  · refine lv_aload_n hx hb dX4_go_17 rfl (lv_at hl 0 rfl) ?_
    refine lv_iconst (v := 1) hx hb dX4_go_18 (by decide) ?_
    refine g_i (va_runV (As := [.int (1 : Int32)]) (rest := []) ⟨hx, hb, hml, hown, hts⟩ (c_X4_fail l yy a u1 (1 : Int32)  G H.size) (cwV 1 hts gX4_go_X4_fail rfl rfl rfl (by decide +kernel) ⟨Nat.le_of_ble_eq_true rfl, Nat.le_of_ble_eq_true rfl⟩) (g_preV eTrue_bl hK hE hP hD hS hA 0 rfl rfl) rfl rfl hl.1 rfl (lv_room (Nat.le_of_ble_eq_true rfl)) dX4_go_19 ⟨Nat.le_of_ble_eq_true rfl, Nat.le_of_ble_eq_true rfl⟩) hD hS hA (fun H locs hP hD hS => ?_)
    refine lv_topi (fun v3 ev3 => ?_)
    obtain ⟨u4, eu4⟩ : ∃ z, z = (f_X4_fail u1 (1 : Int32)).2 := ⟨_, rfl⟩
    have hP : va_P G vwCl (wM yy a u4) H := by rw [eu4]; exact hP
    have hD : va_D A (wM yy a u4) := by rw [eu4]; exact hD
    exact g_iret (by have eu4 := eu4.symm; subst eu4; have ev3 := ev3.symm; subst ev3; have eu1 := eu1.symm; subst eu1; exact (if_pos c2).trans (rfl)) hx hb hr hP hD hS hlocks dX4_go_22
  · refine lv_iload_n hx hb dX4_go_10 rfl (lv_at hl 2 rfl) ?_
    refine lv_sipush (v := 1000) hx hb dX4_go_11 (by decide) ?_
    refine lv_icmp_le (tgt := 23) hx hb dX4_go_14 (by decide) (fun c5 => ?_) (fun c5 => ?_)
    · refine lv_iload_n hx hb dX4_go_23 rfl (lv_at hl 1 rfl) ?_
      obtain ⟨z8, ez8⟩ : ∃ q : MS, q = (if p0 < (0 : Int32) then u1 else let u10 : MS := sm_pc u1 ((p0 &&& (-4 : Int32)).toInt64); u10) := ⟨_, rfl⟩
      have k9 : ∀ (u7 : MS), u7 = z8 → ∀ (H : Heap) (locs : List Loc), va_P G vwCl (wM yy a u7) H → va_D A (wM yy a u7) → va_S A s.heap H locs → ∀ ls : Array Slot, lv_has ls 5 [(0, .ref (a 0)), (1, .int p0), (2, .int p1)] → W p l e rm_X4_go s m args below meth c H locs 0 0 (MQ below (gQi (wM yy a) (f_X4_go u p0 p1) G A) args s 0 0 A) (F0 m 36 ls []) := by
        intro u7 jz8 H locs hP hD hS ls hl
        have eu7 : u7 = z8 := jz8
        refine lv_iconst (v := 0) hx hb dX4_go_36 (by decide) ?_
        refine lv_istore_n (lv' := [(3, .int (0 : Int32)), (0, .ref (a 0)), (1, .int p0), (2, .int p1)]) hx hb dX4_go_37 rfl hl (by decide) rfl (fun ls hl => ?_)
        refine lv_iconst (v := 0) hx hb dX4_go_38 (by decide) ?_
        refine lv_istore (lv' := [(4, .int (0 : Int32)), (3, .int (0 : Int32)), (0, .ref (a 0)), (1, .int p0), (2, .int p1)]) hx hb dX4_go_39 hl (by decide) rfl (fun ls hl => ?_)
        have loop41 : ∀ (n : Nat) (w3 : Int32) (w4 : Int32) (u0 : MS), 0 ≤ m_on u0 ∧ w4 = nI (p1.toNatClampNeg + 1 - n) ∧ 0 < n ∧ n ≤ p1.toNatClampNeg + 1 → ∀ (H : Heap) (locs : List Loc), va_P G vwCl (wM yy a u0) H → va_D A (wM yy a u0) → va_S A s.heap H locs → ∀ ls : Array Slot, lv_has ls 5 [(3, .int w3), (4, .int w4), (0, .ref (a 0)), (1, .int p0), (2, .int p1)] → (∀ (H : Heap) (locs : List Loc), va_P G vwCl (wM yy a ((lf_X4_go_41 p0 p1 n w3 w4 u0).2.2)) H → va_D A (wM yy a ((lf_X4_go_41 p0 p1 n w3 w4 u0).2.2)) → va_S A s.heap H locs → ∀ ls : Array Slot, lv_has ls 5 [(3, .int ((lf_X4_go_41 p0 p1 n w3 w4 u0).1)), (4, .int ((lf_X4_go_41 p0 p1 n w3 w4 u0).2.1)), (0, .ref (a 0)), (1, .int p0), (2, .int p1)] → W p l e rm_X4_go s m args below meth c H locs 0 0 (MQ below (gQi (wM yy a) (f_X4_go u p0 p1) G A) args s 0 0 A) (F0 m 62 ls [])) → W p l e rm_X4_go s m args below meth c H locs 0 0 (MQ below (gQi (wM yy a) (f_X4_go u p0 p1) G A) args s 0 0 A) (F0 m 41 ls []) := by
          intro n
          induction n with
          | zero =>
            intro w3 w4 u0 hI
            exact absurd hI (fun h => Nat.lt_irrefl 0 h.2.2.1)
          | succ n ih =>
            intro w3 w4 u0 hI H locs hP hD hS ls hl kx
            refine lv_iload hx hb dX4_go_41 (lv_at hl 1 rfl) ?_
            refine lv_iload_n hx hb dX4_go_43 rfl (lv_at hl 4 rfl) ?_
            refine lv_icmp_ge (tgt := 62) hx hb dX4_go_44 (by decide) (fun c11 => ?_) (fun c11 => ?_)
            · have hn : lf_X4_go_41 p0 p1 (n + 1) w3 w4 u0 = (w3, w4, u0) := (by exact (if_pos c11).trans (rfl))
              rw [hn] at kx
              exact kx _ _ hP hD hS ls (lv_sub hl [0, 1, 2, 3, 4] rfl)
            · refine lv_iload_n hx hb dX4_go_47 rfl (lv_at hl 0 rfl) ?_
              refine lv_if_ne (tgt := 62) hx hb dX4_go_48 (by decide) (fun c12 => ?_) (fun c12 => ?_)
              · have hn : lf_X4_go_41 p0 p1 (n + 1) w3 w4 u0 = (w3, w4, u0) := (by exact (if_neg c11).trans ((if_neg c12).trans (rfl)))
                rw [hn] at kx
                exact kx _ _ hP hD hS ls (lv_sub hl [0, 1, 2, 3, 4] rfl)
              · refine lv_aload_n hx hb dX4_go_51 rfl (lv_at hl 2 rfl) ?_
                refine g_i (va_runV (As := []) (rest := []) ⟨hx, hb, hml, hown, hts⟩ (c_X4_step l yy a u0  (hI.1) G H.size) (cwV 0 hts gX4_go_X4_step rfl rfl rfl (by decide +kernel) ⟨Nat.le_of_ble_eq_true rfl, Nat.le_of_ble_eq_true rfl⟩) (g_preV eTrue_bl hK hE hP hD hS hA 0 rfl rfl) rfl rfl hl.1 rfl (lv_room (Nat.le_of_ble_eq_true rfl)) dX4_go_52 ⟨Nat.le_of_ble_eq_true rfl, Nat.le_of_ble_eq_true rfl⟩) hD hS hA (fun H locs hP hD hS => ?_)
                refine lv_topi (fun v13 ev13 => ?_)
                obtain ⟨u14, eu14⟩ : ∃ z, z = (f_X4_step u0 ).2 := ⟨_, rfl⟩
                have hP : va_P G vwCl (wM yy a u14) H := by rw [eu14]; exact hP
                have hD : va_D A (wM yy a u14) := by rw [eu14]; exact hD
                refine lv_istore_n (lv' := [(3, .int v13), (4, .int w4), (0, .ref (a 0)), (1, .int p0), (2, .int p1)]) hx hb dX4_go_55 rfl hl (by decide) rfl (fun ls hl => ?_)
                obtain ⟨v15, ev15⟩ : ∃ y : Int32, y = w4 + (1 : Int32) := ⟨_, rfl⟩
                refine lv_iinc (v := v15) (lv' := [(4, .int v15), (3, .int v13), (0, .ref (a 0)), (1, .int p0), (2, .int p1)]) hx hb dX4_go_56 hl (k := 1) rfl (by rw [ev15]; rfl) (by decide) rfl (fun ls hl => ?_)
                refine lv_goto (tgt := 41) hx hb dX4_go_59 (by decide) ?_
                have hn : lf_X4_go_41 p0 p1 (n + 1) w3 w4 u0 = lf_X4_go_41 p0 p1 n v13 v15 u14 := (by have ev15 := ev15.symm; subst ev15; have eu14 := eu14.symm; subst eu14; have ev13 := ev13.symm; subst ev13; exact (if_neg c11).trans ((if_pos c12).trans (rfl)))
                rw [hn] at kx
                exact ih v13 v15 u14 (by have ev15 := ev15.symm; subst ev15; have eu14 := eu14.symm; subst eu14; have ev13 := ev13.symm; subst ev13; have eu7 := eu7.symm; subst eu7; have ez8 := ez8.symm; subst ez8; have eu1 := eu1.symm; subst eu1; exact ⟨on_X4_step _ hI.1, go_next c2 c5 hI.2 c11⟩) _ _ hP hD hS ls (lv_sub hl [1, 0, 2, 3, 4] rfl) kx
        refine loop41 (p1.toNatClampNeg + 1) (0 : Int32) (0 : Int32) u7 (⟨by have eu7 := eu7.symm; subst eu7; have ez8 := ez8.symm; subst ez8; have eu1 := eu1.symm; subst eu1; exact on_n h0 h0, by rw [Nat.sub_self]; rfl, Nat.succ_pos _, Nat.le_refl _⟩) _ _ hP hD hS ls (lv_sub hl [1, 0, 2, 3, 4] rfl) ?_
        intro H locs hP hD hS ls hl
        obtain ⟨v16, ev16⟩ : ∃ z, z = (lf_X4_go_41 p0 p1 (p1.toNatClampNeg + 1) (0 : Int32) (0 : Int32) u7).1 := ⟨_, rfl⟩
        obtain ⟨v17, ev17⟩ : ∃ z, z = (lf_X4_go_41 p0 p1 (p1.toNatClampNeg + 1) (0 : Int32) (0 : Int32) u7).2.1 := ⟨_, rfl⟩
        have hl : lv_has ls 5 [(3, .int v16), (4, .int v17), (0, .ref (a 0)), (1, .int p0), (2, .int p1)] := by rw [ev16, ev17]; exact hl
        obtain ⟨u18, eu18⟩ : ∃ z, z = (lf_X4_go_41 p0 p1 (p1.toNatClampNeg + 1) (0 : Int32) (0 : Int32) u7).2.2 := ⟨_, rfl⟩
        have hP : va_P G vwCl (wM yy a u18) H := by rw [eu18]; exact hP
        have hD : va_D A (wM yy a u18) := by rw [eu18]; exact hD
        refine lv_iload_n hx hb dX4_go_62 rfl (lv_at hl 0 rfl) ?_
        exact g_iret (by have eu18 := eu18.symm; subst eu18; have ev17 := ev17.symm; subst ev17; have ev16 := ev16.symm; subst ev16; have eu7 := eu7.symm; subst eu7; have ez8 := ez8.symm; subst ez8; have eu1 := eu1.symm; subst eu1; exact (if_neg c2).trans ((if_pos c5).trans (rfl))) hx hb hr hP hD hS hlocks dX4_go_63
      refine lv_if_lt (tgt := 36) hx hb dX4_go_24 (by decide) (fun c6 => ?_) (fun c6 => ?_)
      · exact k9 u1 (ez8.trans (by exact (if_pos c6).trans (rfl))).symm _ _ hP hD hS ls (lv_sub hl [0, 1, 2] rfl)
      · refine lv_aload_n hx hb dX4_go_27 rfl (lv_at hl 0 rfl) ?_
        refine lv_iload_n hx hb dX4_go_28 rfl (lv_at hl 1 rfl) ?_
        refine lv_bipush (v := (-4)) hx hb dX4_go_29 (by decide) ?_
        refine lv_iand hx hb dX4_go_31 ?_
        refine lv_i2l (v := (p0 &&& (-4 : Int32)).toInt64) hx hb dX4_go_32 rfl ?_
        refine va_put (D := G) (ci := 2) (v := .long ((p0 &&& (-4 : Int32)).toInt64)) (ty := .long) (C := RX4) (T := TX4) (N := 17) hx hb hts iw_X4_go_X4 tyX4 tyX4_ok nmX4 hown hK hP hD hS 0 rfl rfl 8 (by decide) (hts (.fieldLink RX4 162 "MixBenchModel" "pc" "J") (by decide +kernel)) (fun _ h9 => h9) rfl (by decide +kernel) rfl rfl (Nat.le_of_ble_eq_true rfl) dX4_go_33 (fun H locs hP hD hS => ?_)
        obtain ⟨u10, eu10⟩ : ∃ z, z = sm_pc u1 ((p0 &&& (-4 : Int32)).toInt64) := ⟨_, rfl⟩
        have hP : va_P G vwCl (wM yy a u10) H := by rw [eu10]; exact hP
        have hD : va_D A (wM yy a u10) := by rw [eu10]; exact hD
        exact k9 u10 (ez8.trans (by have eu10 := eu10.symm; subst eu10; exact (if_neg c6).trans (rfl))).symm _ _ hP hD hS ls (lv_sub hl [0, 1, 2] rfl)
    · refine lv_aload_n hx hb dX4_go_17 rfl (lv_at hl 0 rfl) ?_
      refine lv_iconst (v := 1) hx hb dX4_go_18 (by decide) ?_
      refine g_i (va_runV (As := [.int (1 : Int32)]) (rest := []) ⟨hx, hb, hml, hown, hts⟩ (c_X4_fail l yy a u1 (1 : Int32)  G H.size) (cwV 1 hts gX4_go_X4_fail rfl rfl rfl (by decide +kernel) ⟨Nat.le_of_ble_eq_true rfl, Nat.le_of_ble_eq_true rfl⟩) (g_preV eTrue_bl hK hE hP hD hS hA 0 rfl rfl) rfl rfl hl.1 rfl (lv_room (Nat.le_of_ble_eq_true rfl)) dX4_go_19 ⟨Nat.le_of_ble_eq_true rfl, Nat.le_of_ble_eq_true rfl⟩) hD hS hA (fun H locs hP hD hS => ?_)
      refine lv_topi (fun v19 ev19 => ?_)
      obtain ⟨u20, eu20⟩ : ∃ z, z = (f_X4_fail u1 (1 : Int32)).2 := ⟨_, rfl⟩
      have hP : va_P G vwCl (wM yy a u20) H := by rw [eu20]; exact hP
      have hD : va_D A (wM yy a u20) := by rw [eu20]; exact hD
      exact g_iret (by have eu20 := eu20.symm; subst eu20; have ev19 := ev19.symm; subst ev19; have eu1 := eu1.symm; subst eu1; exact (if_neg c2).trans ((if_neg c5).trans (rfl))) hx hb hr hP hD hS hlocks dX4_go_22
