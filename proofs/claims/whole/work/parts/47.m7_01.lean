def lf_X4_put_8 (u0 : MS) (q1 : Int32) (q2 : Int32) (q3 : Int32) (q4 : Int32) : Nat → Int32 → Int32
  | 0, w5 => w5
  | n + 1, w5 =>
    if (m_ct u0) ≤ w5 then
      w5
    else
      if (m_nm u0 w5.toNatClampNeg) = q1 then
        w5
      else
        let v4 : Int32 := w5 + (1 : Int32);
        lf_X4_put_8 u0 q1 q2 q3 q4 n v4
theorem ct_c {a w : Int32} (h : a = nI 316) (c : ¬ a ≤ w) : ¬ nI 316 ≤ w := h ▸ c
theorem lf_put_j (u : MS) (h : m_ct u = 316) (q1 q2 q3 q4 : Int32) : ∀ (n : Nat) (w : Int32), w = nI (316 + 1 - n) ∧ 0 < n ∧ n ≤ 316 + 1 → ∃ j : Nat, j ≤ 316 ∧ lf_X4_put_8 u q1 q2 q3 q4 n w = nI j := by
  intro n
  induction n with
  | zero => intro w hI; exact absurd hI.2.1 (Nat.lt_irrefl 0)
  | succ n ih =>
    intro w hI
    have hw : ∃ j : Nat, j ≤ 316 ∧ w = nI j := ⟨316 + 1 - (n + 1), by omega, hI.1⟩
    unfold lf_X4_put_8
    by_cases c1 : m_ct u ≤ w
    · rw [if_pos c1]; exact hw
    · rw [if_neg c1]
      by_cases c2 : (m_nm u w.toNatClampNeg) = q1
      · rw [if_pos c2]; exact hw
      · rw [if_neg c2]
        exact ih _ (up_next (N := 316) (by decide) hI (ct_c h c1))
theorem put_in (u : MS) (h : m_ct u = 316) (q1 q2 q3 q4 : Int32) : vp_in (lf_X4_put_8 u q1 q2 q3 q4 (316 + 1) (0 : Int32)) 400 := by
  obtain ⟨j, hj, e⟩ := lf_put_j u h q1 q2 q3 q4 (316 + 1) 0 ⟨rfl, by decide, by decide⟩
  rw [e]
  exact vp_in_nI (by omega) (by decide)
def f_X4_put (u : MS) (p0 : Int32) (p1 : Int32) (p2 : Int32) (p3 : Int32) : Int32 × MS :=
  let u1 : MS := sm_th u (0 : Int32);
  let v5 : Int32 := lf_X4_put_8 u1 p0 p1 p2 p3 (316 + 1) (0 : Int32);
  if v5 = (m_ct u1) then
    let v15 : Int32 := (f_X4_fail u1 (1 : Int32)).1;
    let u16 : MS := (f_X4_fail u1 (1 : Int32)).2;
    (v15, u16)
  else
    if (m_pl u1) ≤ (16383 : Int32) then
      let u8 : MS := sm_mm u1 (upd (m_mm u1) (m_pl u1).toNatClampNeg (vp_nar .byte ((m_cd u1 v5.toNatClampNeg).toInt8.toInt32)));
      let u9 : MS := sm_mm u8 (upd (m_mm u8) ((m_pl u8) + (1 : Int32)).toNatClampNeg (vp_nar .byte p1.toInt8.toInt32));
      let u10 : MS := sm_mm u9 (upd (m_mm u9) ((m_pl u9) + (2 : Int32)).toNatClampNeg (vp_nar .byte p2.toInt8.toInt32));
      let u11 : MS := sm_mm u10 (upd (m_mm u10) ((m_pl u10) + (3 : Int32)).toNatClampNeg (vp_nar .byte p3.toInt8.toInt32));
      let u12 : MS := sm_pl u11 ((m_pl u11) + (4 : Int32));
      (m_cd u12 v5.toNatClampNeg, u12)
    else
      let v13 : Int32 := (f_X4_fail u1 (2 : Int32)).1;
      let u14 : MS := (f_X4_fail u1 (2 : Int32)).2;
      (v13, u14)
abbrev rm_X4_put : Room := { frames := 1, cells := 0, slots := 0, locals := 21 }
set_option maxRecDepth 20000 in
theorem iw_X4_put_X4 : ∀ w ∈ wsX40, w ∈ wsX4_put := by decide +kernel
set_option maxHeartbeats 4000000 in
set_option maxRecDepth 100000 in
theorem c_X4_put (l : Launch) (yy : Nat → ClassId) (a : Nat → Nat) (u : MS) (p0 : Int32) (p1 : Int32) (p2 : Int32) (p3 : Int32) (h0 : m_ct u = 316 ∧ ∃ j : Nat, j ≤ 4096 ∧ m_pl u = nI (4 * j)) : gMi l yX4_put wsX4_put rm_X4_put eTrue (sT yy) (wM yy a) [.ref (a 0), .int p0, .int p1, .int p2, .int p3] u (f_X4_put u p0 p1 p2 p3) := by
  refine gm_ofW (Qc := gQi (wM yy a) (f_X4_put u p0 p1 p2 p3)) (by decide) rfl (Nat.le_of_ble_eq_true rfl) ?_
  intro G A p e s m args below meth c hx hb hr hml hts hown hlocks hK hE hA H locs hP hD hS ls hl
  have hl : lv_has ls 6 [(0, .ref (a 0)), (1, .int p0), (2, .int p1), (3, .int p2), (4, .int p3)] := hl
  refine lv_aload_n hx hb dX4_put_0 rfl (lv_at hl 0 rfl) ?_
  refine lv_iconst (v := 0) hx hb dX4_put_1 (by decide) ?_
  refine va_put (D := G) (ci := 2) (v := .int (0 : Int32)) (ty := .int) (C := RX4) (T := TX4) (N := 17) hx hb hts iw_X4_put_X4 tyX4 tyX4_ok nmX4 hown hK hP hD hS 0 rfl rfl 0 (by decide) (hts (.fieldLink RX4 153 "MixBenchModel" "thrown" "I") (by decide +kernel)) (fun _ h9 => h9) rfl (by decide +kernel) rfl rfl (Nat.le_of_ble_eq_true rfl) dX4_put_2 (fun H locs hP hD hS => ?_)
  obtain ⟨u1, eu1⟩ : ∃ z, z = sm_th u (0 : Int32) := ⟨_, rfl⟩
  have hP : va_P G vwCl (wM yy a u1) H := by rw [eu1]; exact hP
  have hD : va_D A (wM yy a u1) := by rw [eu1]; exact hD
  refine lv_iconst (v := 0) hx hb dX4_put_5 (by decide) ?_
  refine lv_istore (lv' := [(5, .int (0 : Int32)), (0, .ref (a 0)), (1, .int p0), (2, .int p1), (3, .int p2), (4, .int p3)]) hx hb dX4_put_6 hl (by decide) rfl (fun ls hl => ?_)
  have loop8 : ∀ (n : Nat) (w5 : Int32), w5 = nI (316 + 1 - n) ∧ 0 < n ∧ n ≤ 316 + 1 → ∀ (H : Heap) (locs : List Loc), va_P G vwCl (wM yy a u1) H → va_D A (wM yy a u1) → va_S A s.heap H locs → ∀ ls : Array Slot, lv_has ls 6 [(5, .int w5), (0, .ref (a 0)), (1, .int p0), (2, .int p1), (3, .int p2), (4, .int p3)] → (∀ (H : Heap) (locs : List Loc), va_P G vwCl (wM yy a u1) H → va_D A (wM yy a u1) → va_S A s.heap H locs → ∀ ls : Array Slot, lv_has ls 6 [(5, .int (lf_X4_put_8 u1 p0 p1 p2 p3 n w5)), (0, .ref (a 0)), (1, .int p0), (2, .int p1), (3, .int p2), (4, .int p3)] → W p l e rm_X4_put s m args below meth c H locs 0 0 (MQ below (gQi (wM yy a) (f_X4_put u p0 p1 p2 p3) G A) args s 0 0 A) (F0 m 34 ls [])) → W p l e rm_X4_put s m args below meth c H locs 0 0 (MQ below (gQi (wM yy a) (f_X4_put u p0 p1 p2 p3) G A) args s 0 0 A) (F0 m 8 ls []) := by
    intro n
    induction n with
    | zero =>
      intro w5 hI
      exact absurd hI (fun h => Nat.lt_irrefl 0 h.2.1)
    | succ n ih =>
      intro w5 hI H locs hP hD hS ls hl kx
      refine lv_iload hx hb dX4_put_8 (lv_at hl 0 rfl) ?_
      refine lv_aload_n hx hb dX4_put_10 rfl (lv_at hl 1 rfl) ?_
      refine va_get (D := G) (ci := 2) (v := .int (m_ct u1)) (C := RX4) (T := TX4) (N := 17) hx hb hts iw_X4_put_X4 hown hK hP 0 rfl rfl 15 (by decide) (hts (.fieldLink RX4 149 "MixBenchModel" "count" "I") (by decide +kernel)) (fun _ h9 => h9) rfl dX4_put_11 ?_
      refine lv_icmp_ge (tgt := 34) hx hb dX4_put_14 (by decide) (fun c2 => ?_) (fun c2 => ?_)
      · have hn : lf_X4_put_8 u1 p0 p1 p2 p3 (n + 1) w5 = w5 := (by exact (if_pos c2).trans (rfl))
        rw [hn] at kx
        exact kx _ _ hP hD hS ls (lv_sub hl [0, 1, 2, 3, 4, 5] rfl)
      · refine lv_aload_n hx hb dX4_put_17 rfl (lv_at hl 1 rfl) ?_
        refine va_get (D := G) (ci := 2) (v := .ref (a 6)) (C := RX4) (T := TX4) (N := 17) hx hb hts iw_X4_put_X4 hown hK hP 0 rfl rfl 13 (by decide) (hts (.fieldLink RX4 26 "MixBenchModel" "names" "[I") (by decide +kernel)) (fun _ h9 => h9) rfl dX4_put_18 ?_
        refine lv_iload hx hb dX4_put_21 (lv_at hl 0 rfl) ?_
        refine va_iald hx hb hK hP 6 2 rfl rfl (by have eu1 := eu1.symm; subst eu1; exact up_in (N := 316) (by decide) hI (ct_c h0.1 c2) (by decide) (by decide)) dX4_put_23 ?_
        refine lv_iload_n hx hb dX4_put_24 rfl (lv_at hl 2 rfl) ?_
        refine lv_icmp_eq (tgt := 34) hx hb dX4_put_25 (by decide) (fun c3 => ?_) (fun c3 => ?_)
        · have hn : lf_X4_put_8 u1 p0 p1 p2 p3 (n + 1) w5 = w5 := (by exact (if_neg c2).trans ((if_pos c3).trans (rfl)))
          rw [hn] at kx
          exact kx _ _ hP hD hS ls (lv_sub hl [0, 1, 2, 3, 4, 5] rfl)
        · obtain ⟨v4, ev4⟩ : ∃ y : Int32, y = w5 + (1 : Int32) := ⟨_, rfl⟩
          refine lv_iinc (v := v4) (lv' := [(5, .int v4), (0, .ref (a 0)), (1, .int p0), (2, .int p1), (3, .int p2), (4, .int p3)]) hx hb dX4_put_28 hl (k := 0) rfl (by rw [ev4]; rfl) (by decide) rfl (fun ls hl => ?_)
          refine lv_goto (tgt := 8) hx hb dX4_put_31 (by decide) ?_
          have hn : lf_X4_put_8 u1 p0 p1 p2 p3 (n + 1) w5 = lf_X4_put_8 u1 p0 p1 p2 p3 n v4 := (by have ev4 := ev4.symm; subst ev4; exact (if_neg c2).trans ((if_neg c3).trans (rfl)))
          rw [hn] at kx
          exact ih v4 (by have ev4 := ev4.symm; subst ev4; have eu1 := eu1.symm; subst eu1; exact up_next (N := 316) (by decide) hI (ct_c h0.1 c2)) _ _ hP hD hS ls (lv_sub hl [0, 1, 2, 3, 4, 5] rfl) kx
  refine loop8 (316 + 1) (0 : Int32) (⟨rfl, by decide, by decide⟩) _ _ hP hD hS ls (lv_sub hl [0, 1, 2, 3, 4, 5] rfl) ?_
  intro H locs hP hD hS ls hl
  obtain ⟨v5, ev5⟩ : ∃ z, z = lf_X4_put_8 u1 p0 p1 p2 p3 (316 + 1) (0 : Int32) := ⟨_, rfl⟩
  have hl : lv_has ls 6 [(5, .int v5), (0, .ref (a 0)), (1, .int p0), (2, .int p1), (3, .int p2), (4, .int p3)] := by rw [ev5]; exact hl
  refine lv_iload hx hb dX4_put_34 (lv_at hl 0 rfl) ?_
  refine lv_aload_n hx hb dX4_put_36 rfl (lv_at hl 1 rfl) ?_
  refine va_get (D := G) (ci := 2) (v := .int (m_ct u1)) (C := RX4) (T := TX4) (N := 17) hx hb hts iw_X4_put_X4 hown hK hP 0 rfl rfl 15 (by decide) (hts (.fieldLink RX4 149 "MixBenchModel" "count" "I") (by decide +kernel)) (fun _ h9 => h9) rfl dX4_put_37 ?_
  refine lv_icmp_ne (tgt := 49) hx hb dX4_put_40 (by decide) (fun c6 => ?_) (fun c6 => ?_)
  · refine lv_aload_n hx hb dX4_put_49 rfl (lv_at hl 1 rfl) ?_
    refine va_get (D := G) (ci := 2) (v := .int (m_pl u1)) (C := RX4) (T := TX4) (N := 17) hx hb hts iw_X4_put_X4 hown hK hP 0 rfl rfl 7 (by decide) (hts (.fieldLink RX4 308 "MixBenchModel" "place" "I") (by decide +kernel)) (fun _ h9 => h9) rfl dX4_put_50 ?_
    refine lv_sipush (v := 16383) hx hb dX4_put_53 (by decide) ?_
    refine lv_icmp_le (tgt := 65) hx hb dX4_put_56 (by decide) (fun c7 => ?_) (fun c7 => ?_)
    · refine lv_aload_n hx hb dX4_put_65 rfl (lv_at hl 1 rfl) ?_
      refine va_get (D := G) (ci := 2) (v := .ref (a 4)) (C := RX4) (T := TX4) (N := 17) hx hb hts iw_X4_put_X4 hown hK hP 0 rfl rfl 4 (by decide) (hts (.fieldLink RX4 19 "MixBenchModel" "memory" "[B") (by decide +kernel)) (fun _ h9 => h9) rfl dX4_put_66 ?_
      refine lv_aload_n hx hb dX4_put_69 rfl (lv_at hl 1 rfl) ?_
      refine va_get (D := G) (ci := 2) (v := .int (m_pl u1)) (C := RX4) (T := TX4) (N := 17) hx hb hts iw_X4_put_X4 hown hK hP 0 rfl rfl 7 (by decide) (hts (.fieldLink RX4 308 "MixBenchModel" "place" "I") (by decide +kernel)) (fun _ h9 => h9) rfl dX4_put_70 ?_
      refine lv_aload_n hx hb dX4_put_73 rfl (lv_at hl 1 rfl) ?_
      refine va_get (D := G) (ci := 2) (v := .ref (a 7)) (C := RX4) (T := TX4) (N := 17) hx hb hts iw_X4_put_X4 hown hK hP 0 rfl rfl 14 (by decide) (hts (.fieldLink RX4 30 "MixBenchModel" "codes" "[I") (by decide +kernel)) (fun _ h9 => h9) rfl dX4_put_74 ?_
      refine lv_iload hx hb dX4_put_77 (lv_at hl 0 rfl) ?_
      refine va_iald hx hb hK hP 7 2 rfl rfl (by have ev5 := ev5.symm; subst ev5; have eu1 := eu1.symm; subst eu1; exact put_in (sm_th u (0 : Int32)) h0.1 _ _ _ _) dX4_put_79 ?_
      refine lv_i2b (v := (m_cd u1 v5.toNatClampNeg).toInt8.toInt32) hx hb dX4_put_80 rfl ?_
      refine va_bast hx hb hK hP hD hS 4 1 rfl rfl (by have ev5 := ev5.symm; subst ev5; have eu1 := eu1.symm; subst eu1; exact (pl_in h0.2 c7).1) dX4_put_81 (fun H locs hP hD hS => ?_)
      obtain ⟨u8, eu8⟩ : ∃ z, z = sm_mm u1 (upd (m_mm u1) (m_pl u1).toNatClampNeg (vp_nar .byte ((m_cd u1 v5.toNatClampNeg).toInt8.toInt32))) := ⟨_, rfl⟩
      have hP : va_P G vwCl (wM yy a u8) H := by rw [eu8]; exact hP
      have hD : va_D A (wM yy a u8) := by rw [eu8]; exact hD
      refine lv_aload_n hx hb dX4_put_82 rfl (lv_at hl 1 rfl) ?_
      refine va_get (D := G) (ci := 2) (v := .ref (a 4)) (C := RX4) (T := TX4) (N := 17) hx hb hts iw_X4_put_X4 hown hK hP 0 rfl rfl 4 (by decide) (hts (.fieldLink RX4 19 "MixBenchModel" "memory" "[B") (by decide +kernel)) (fun _ h9 => h9) rfl dX4_put_83 ?_
      refine lv_aload_n hx hb dX4_put_86 rfl (lv_at hl 1 rfl) ?_
      refine va_get (D := G) (ci := 2) (v := .int (m_pl u8)) (C := RX4) (T := TX4) (N := 17) hx hb hts iw_X4_put_X4 hown hK hP 0 rfl rfl 7 (by decide) (hts (.fieldLink RX4 308 "MixBenchModel" "place" "I") (by decide +kernel)) (fun _ h9 => h9) rfl dX4_put_87 ?_
      refine lv_iconst (v := 1) hx hb dX4_put_90 (by decide) ?_
      refine lv_iadd hx hb dX4_put_91 ?_
      refine lv_iload_n hx hb dX4_put_92 rfl (lv_at hl 3 rfl) ?_
      refine lv_i2b (v := p1.toInt8.toInt32) hx hb dX4_put_93 rfl ?_
      refine va_bast hx hb hK hP hD hS 4 1 rfl rfl (by have eu8 := eu8.symm; subst eu8; have ev5 := ev5.symm; subst ev5; have eu1 := eu1.symm; subst eu1; exact (pl_in h0.2 c7).2.1) dX4_put_94 (fun H locs hP hD hS => ?_)
      obtain ⟨u9, eu9⟩ : ∃ z, z = sm_mm u8 (upd (m_mm u8) ((m_pl u8) + (1 : Int32)).toNatClampNeg (vp_nar .byte p1.toInt8.toInt32)) := ⟨_, rfl⟩
      have hP : va_P G vwCl (wM yy a u9) H := by rw [eu9]; exact hP
      have hD : va_D A (wM yy a u9) := by rw [eu9]; exact hD
      refine lv_aload_n hx hb dX4_put_95 rfl (lv_at hl 1 rfl) ?_
      refine va_get (D := G) (ci := 2) (v := .ref (a 4)) (C := RX4) (T := TX4) (N := 17) hx hb hts iw_X4_put_X4 hown hK hP 0 rfl rfl 4 (by decide) (hts (.fieldLink RX4 19 "MixBenchModel" "memory" "[B") (by decide +kernel)) (fun _ h9 => h9) rfl dX4_put_96 ?_
      refine lv_aload_n hx hb dX4_put_99 rfl (lv_at hl 1 rfl) ?_
      refine va_get (D := G) (ci := 2) (v := .int (m_pl u9)) (C := RX4) (T := TX4) (N := 17) hx hb hts iw_X4_put_X4 hown hK hP 0 rfl rfl 7 (by decide) (hts (.fieldLink RX4 308 "MixBenchModel" "place" "I") (by decide +kernel)) (fun _ h9 => h9) rfl dX4_put_100 ?_
      refine lv_iconst (v := 2) hx hb dX4_put_103 (by decide) ?_
      refine lv_iadd hx hb dX4_put_104 ?_
      refine lv_iload_n hx hb dX4_put_105 rfl (lv_at hl 4 rfl) ?_
      refine lv_i2b (v := p2.toInt8.toInt32) hx hb dX4_put_106 rfl ?_
      refine va_bast hx hb hK hP hD hS 4 1 rfl rfl (by have eu9 := eu9.symm; subst eu9; have eu8 := eu8.symm; subst eu8; have ev5 := ev5.symm; subst ev5; have eu1 := eu1.symm; subst eu1; exact (pl_in h0.2 c7).2.2.1) dX4_put_107 (fun H locs hP hD hS => ?_)
      obtain ⟨u10, eu10⟩ : ∃ z, z = sm_mm u9 (upd (m_mm u9) ((m_pl u9) + (2 : Int32)).toNatClampNeg (vp_nar .byte p2.toInt8.toInt32)) := ⟨_, rfl⟩
      have hP : va_P G vwCl (wM yy a u10) H := by rw [eu10]; exact hP
      have hD : va_D A (wM yy a u10) := by rw [eu10]; exact hD
      refine lv_aload_n hx hb dX4_put_108 rfl (lv_at hl 1 rfl) ?_
      refine va_get (D := G) (ci := 2) (v := .ref (a 4)) (C := RX4) (T := TX4) (N := 17) hx hb hts iw_X4_put_X4 hown hK hP 0 rfl rfl 4 (by decide) (hts (.fieldLink RX4 19 "MixBenchModel" "memory" "[B") (by decide +kernel)) (fun _ h9 => h9) rfl dX4_put_109 ?_
      refine lv_aload_n hx hb dX4_put_112 rfl (lv_at hl 1 rfl) ?_
      refine va_get (D := G) (ci := 2) (v := .int (m_pl u10)) (C := RX4) (T := TX4) (N := 17) hx hb hts iw_X4_put_X4 hown hK hP 0 rfl rfl 7 (by decide) (hts (.fieldLink RX4 308 "MixBenchModel" "place" "I") (by decide +kernel)) (fun _ h9 => h9) rfl dX4_put_113 ?_
      refine lv_iconst (v := 3) hx hb dX4_put_116 (by decide) ?_
      refine lv_iadd hx hb dX4_put_117 ?_
      refine lv_iload hx hb dX4_put_118 (lv_at hl 5 rfl) ?_
      refine lv_i2b (v := p3.toInt8.toInt32) hx hb dX4_put_120 rfl ?_
      refine va_bast hx hb hK hP hD hS 4 1 rfl rfl (by have eu10 := eu10.symm; subst eu10; have eu9 := eu9.symm; subst eu9; have eu8 := eu8.symm; subst eu8; have ev5 := ev5.symm; subst ev5; have eu1 := eu1.symm; subst eu1; exact (pl_in h0.2 c7).2.2.2) dX4_put_121 (fun H locs hP hD hS => ?_)
      obtain ⟨u11, eu11⟩ : ∃ z, z = sm_mm u10 (upd (m_mm u10) ((m_pl u10) + (3 : Int32)).toNatClampNeg (vp_nar .byte p3.toInt8.toInt32)) := ⟨_, rfl⟩
      have hP : va_P G vwCl (wM yy a u11) H := by rw [eu11]; exact hP
      have hD : va_D A (wM yy a u11) := by rw [eu11]; exact hD
      refine lv_aload_n hx hb dX4_put_122 rfl (lv_at hl 1 rfl) ?_
      refine lv_dup hx hb dX4_put_123 rfl ?_
      refine va_get (D := G) (ci := 2) (v := .int (m_pl u11)) (C := RX4) (T := TX4) (N := 17) hx hb hts iw_X4_put_X4 hown hK hP 0 rfl rfl 7 (by decide) (hts (.fieldLink RX4 308 "MixBenchModel" "place" "I") (by decide +kernel)) (fun _ h9 => h9) rfl dX4_put_124 ?_
      refine lv_iconst (v := 4) hx hb dX4_put_127 (by decide) ?_
      refine lv_iadd hx hb dX4_put_128 ?_
      refine va_put (D := G) (ci := 2) (v := .int ((m_pl u11) + (4 : Int32))) (ty := .int) (C := RX4) (T := TX4) (N := 17) hx hb hts iw_X4_put_X4 tyX4 tyX4_ok nmX4 hown hK hP hD hS 0 rfl rfl 7 (by decide) (hts (.fieldLink RX4 308 "MixBenchModel" "place" "I") (by decide +kernel)) (fun _ h9 => h9) rfl (by decide +kernel) rfl rfl (Nat.le_of_ble_eq_true rfl) dX4_put_129 (fun H locs hP hD hS => ?_)
      obtain ⟨u12, eu12⟩ : ∃ z, z = sm_pl u11 ((m_pl u11) + (4 : Int32)) := ⟨_, rfl⟩
      have hP : va_P G vwCl (wM yy a u12) H := by rw [eu12]; exact hP
      have hD : va_D A (wM yy a u12) := by rw [eu12]; exact hD
      refine lv_aload_n hx hb dX4_put_132 rfl (lv_at hl 1 rfl) ?_
      refine va_get (D := G) (ci := 2) (v := .ref (a 7)) (C := RX4) (T := TX4) (N := 17) hx hb hts iw_X4_put_X4 hown hK hP 0 rfl rfl 14 (by decide) (hts (.fieldLink RX4 30 "MixBenchModel" "codes" "[I") (by decide +kernel)) (fun _ h9 => h9) rfl dX4_put_133 ?_
      refine lv_iload hx hb dX4_put_136 (lv_at hl 0 rfl) ?_
      refine va_iald hx hb hK hP 7 2 rfl rfl (by have eu12 := eu12.symm; subst eu12; have eu11 := eu11.symm; subst eu11; have eu10 := eu10.symm; subst eu10; have eu9 := eu9.symm; subst eu9; have eu8 := eu8.symm; subst eu8; have ev5 := ev5.symm; subst ev5; have eu1 := eu1.symm; subst eu1; exact put_in (sm_th u (0 : Int32)) h0.1 _ _ _ _) dX4_put_138 ?_
      exact g_iret (by have eu12 := eu12.symm; subst eu12; have eu11 := eu11.symm; subst eu11; have eu10 := eu10.symm; subst eu10; have eu9 := eu9.symm; subst eu9; have eu8 := eu8.symm; subst eu8; have ev5 := ev5.symm; subst ev5; have eu1 := eu1.symm; subst eu1; exact (if_neg c6).trans ((if_pos c7).trans (rfl))) hx hb hr hP hD hS hlocks dX4_put_139
    · refine lv_aload_n hx hb dX4_put_59 rfl (lv_at hl 1 rfl) ?_
      refine lv_iconst (v := 2) hx hb dX4_put_60 (by decide) ?_
      refine g_i (va_runV (As := [.int (2 : Int32)]) (rest := []) ⟨hx, hb, hml, hown, hts⟩ (c_X4_fail l yy a u1 (2 : Int32)  G H.size) (cwV 1 hts gX4_put_X4_fail rfl rfl rfl (by decide +kernel) ⟨Nat.le_of_ble_eq_true rfl, Nat.le_of_ble_eq_true rfl⟩) (g_preV eTrue_bl hK hE hP hD hS hA 0 rfl rfl) rfl rfl hl.1 rfl (lv_room (Nat.le_of_ble_eq_true rfl)) dX4_put_61 ⟨Nat.le_of_ble_eq_true rfl, Nat.le_of_ble_eq_true rfl⟩) hD hS hA (fun H locs hP hD hS => ?_)
      refine lv_topi (fun v13 ev13 => ?_)
      obtain ⟨u14, eu14⟩ : ∃ z, z = (f_X4_fail u1 (2 : Int32)).2 := ⟨_, rfl⟩
      have hP : va_P G vwCl (wM yy a u14) H := by rw [eu14]; exact hP
      have hD : va_D A (wM yy a u14) := by rw [eu14]; exact hD
      exact g_iret (by have eu14 := eu14.symm; subst eu14; have ev13 := ev13.symm; subst ev13; have ev5 := ev5.symm; subst ev5; have eu1 := eu1.symm; subst eu1; exact (if_neg c6).trans ((if_neg c7).trans (rfl))) hx hb hr hP hD hS hlocks dX4_put_64
  · refine lv_aload_n hx hb dX4_put_43 rfl (lv_at hl 1 rfl) ?_
    refine lv_iconst (v := 1) hx hb dX4_put_44 (by decide) ?_
    refine g_i (va_runV (As := [.int (1 : Int32)]) (rest := []) ⟨hx, hb, hml, hown, hts⟩ (c_X4_fail l yy a u1 (1 : Int32)  G H.size) (cwV 1 hts gX4_put_X4_fail rfl rfl rfl (by decide +kernel) ⟨Nat.le_of_ble_eq_true rfl, Nat.le_of_ble_eq_true rfl⟩) (g_preV eTrue_bl hK hE hP hD hS hA 0 rfl rfl) rfl rfl hl.1 rfl (lv_room (Nat.le_of_ble_eq_true rfl)) dX4_put_45 ⟨Nat.le_of_ble_eq_true rfl, Nat.le_of_ble_eq_true rfl⟩) hD hS hA (fun H locs hP hD hS => ?_)
    refine lv_topi (fun v15 ev15 => ?_)
    obtain ⟨u16, eu16⟩ : ∃ z, z = (f_X4_fail u1 (1 : Int32)).2 := ⟨_, rfl⟩
    have hP : va_P G vwCl (wM yy a u16) H := by rw [eu16]; exact hP
    have hD : va_D A (wM yy a u16) := by rw [eu16]; exact hD
    exact g_iret (by have eu16 := eu16.symm; subst eu16; have ev15 := ev15.symm; subst ev15; have ev5 := ev5.symm; subst ev5; have eu1 := eu1.symm; subst eu1; exact (if_pos c6).trans (rfl)) hx hb hr hP hD hS hlocks dX4_put_48
