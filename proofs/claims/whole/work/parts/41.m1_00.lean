def lf_X4_m_13 (u0 : MS) (q1 : Int64) (q3 : Int32) (q4 : Int32) : Nat → Int64 → Int32 → Int64 × Int32
  | 0, w5, w7 => (w5, w7)
  | n + 1, w5, w7 =>
    if q3 ≤ w7 then
      (w5, w7)
    else
      let v3 : Int64 := (jlshl w5 (8 : Int32)) ||| (((m_mm u0 (q4 + w7).toNatClampNeg) &&& (255 : Int32)).toInt64);
      let v4 : Int32 := w7 + (1 : Int32);
      lf_X4_m_13 u0 q1 q3 q4 n v3 v4
def f_X4_m (u : MS) (p0 : Int64) (p1 : Int32) : Int64 :=
  let v1 : Int32 := p0.toInt32 &&& (-p1);
  let v5 : Int64 := (lf_X4_m_13 u p0 p1 v1 (p1.toNatClampNeg + 1) (0 : Int64) (0 : Int32)).1;
  let v6 : Int32 := (lf_X4_m_13 u p0 p1 v1 (p1.toNatClampNeg + 1) (0 : Int64) (0 : Int32)).2;
  v5
abbrev rm_X4_m : Room := { frames := 0, cells := 0, slots := 0, locals := 0 }
set_option maxRecDepth 20000 in
theorem iw_X4_m_X4 : ∀ w ∈ wsX40, w ∈ wsX4_m := by decide +kernel
set_option maxHeartbeats 4000000 in
set_option maxRecDepth 100000 in
theorem c_X4_m (l : Launch) (yy : Nat → ClassId) (a : Nat → Nat) (u : MS) (p0 : Int64) (p1 : Int32) (h0 : (f_X4_beyond p0) = (0 : Int32)) (h1 : p1 = 1 ∨ p1 = 2 ∨ p1 = 4 ∨ p1 = 8) : gMl l yX4_m wsX4_m rm_X4_m eTrue (sT yy) (wM yy a) [.ref (a 0), .long p0, .int p1] u ((f_X4_m u p0 p1, u)) := by
  refine gm_ofW (Qc := gQl (wM yy a) ((f_X4_m u p0 p1, u))) (by decide) rfl (Nat.le_of_ble_eq_true rfl) ?_
  intro G A p e s m args below meth c hx hb hr hml hts hown hlocks hK hE hA H locs hP hD hS ls hl
  have hl : lv_has ls 8 [(0, .ref (a 0)), (1, .long p0), (3, .int p1)] := hl
  refine lv_lload_n hx hb dX4_m_0 rfl (lv_at hl 1 rfl) ?_
  refine lv_l2i (v := p0.toInt32) hx hb dX4_m_1 rfl ?_
  refine lv_iload_n hx hb dX4_m_2 rfl (lv_at hl 2 rfl) ?_
  refine lv_ineg hx hb dX4_m_3 ?_
  refine lv_iand hx hb dX4_m_4 ?_
  refine lv_topi (fun v1 ev1 => ?_)
  refine lv_istore (lv' := [(4, .int v1), (0, .ref (a 0)), (1, .long p0), (3, .int p1)]) hx hb dX4_m_5 hl (by decide) rfl (fun ls hl => ?_)
  refine lv_lconst (v := 0) hx hb dX4_m_7 (by decide) ?_
  refine lv_lstore (lv' := [(5, .long (0 : Int64)), (4, .int v1), (0, .ref (a 0)), (1, .long p0), (3, .int p1)]) hx hb dX4_m_8 hl (by decide) rfl (fun ls hl => ?_)
  refine lv_iconst (v := 0) hx hb dX4_m_10 (by decide) ?_
  refine lv_istore (lv' := [(7, .int (0 : Int32)), (5, .long (0 : Int64)), (4, .int v1), (0, .ref (a 0)), (1, .long p0), (3, .int p1)]) hx hb dX4_m_11 hl (by decide) rfl (fun ls hl => ?_)
  have loop13 : ∀ (n : Nat) (w5 : Int64) (w7 : Int32), w7 = nI (p1.toNatClampNeg + 1 - n) ∧ 0 < n ∧ n ≤ p1.toNatClampNeg + 1 → ∀ (H : Heap) (locs : List Loc), va_P G vwCl (wM yy a u) H → va_D A (wM yy a u) → va_S A s.heap H locs → ∀ ls : Array Slot, lv_has ls 8 [(5, .long w5), (7, .int w7), (0, .ref (a 0)), (1, .long p0), (3, .int p1), (4, .int v1)] → (∀ (H : Heap) (locs : List Loc), va_P G vwCl (wM yy a u) H → va_D A (wM yy a u) → va_S A s.heap H locs → ∀ ls : Array Slot, lv_has ls 8 [(5, .long ((lf_X4_m_13 u p0 p1 v1 n w5 w7).1)), (7, .int ((lf_X4_m_13 u p0 p1 v1 n w5 w7).2)), (0, .ref (a 0)), (1, .long p0), (3, .int p1), (4, .int v1)] → W p l e rm_X4_m s m args below meth c H locs 0 0 (MQ below (gQl (wM yy a) ((f_X4_m u p0 p1, u)) G A) args s 0 0 A) (F0 m 48 ls [])) → W p l e rm_X4_m s m args below meth c H locs 0 0 (MQ below (gQl (wM yy a) ((f_X4_m u p0 p1, u)) G A) args s 0 0 A) (F0 m 13 ls []) := by
    intro n
    induction n with
    | zero =>
      intro w5 w7 hI
      exact absurd hI (fun h => Nat.lt_irrefl 0 h.2.1)
    | succ n ih =>
      intro w5 w7 hI H locs hP hD hS ls hl kx
      refine lv_iload hx hb dX4_m_13 (lv_at hl 1 rfl) ?_
      refine lv_iload_n hx hb dX4_m_15 rfl (lv_at hl 4 rfl) ?_
      refine lv_icmp_ge (tgt := 48) hx hb dX4_m_16 (by decide) (fun c2 => ?_) (fun c2 => ?_)
      · have hn : lf_X4_m_13 u p0 p1 v1 (n + 1) w5 w7 = (w5, w7) := (by exact (if_pos c2).trans (rfl))
        rw [hn] at kx
        exact kx _ _ hP hD hS ls (lv_sub hl [0, 1, 2, 3, 4, 5] rfl)
      · refine lv_lload hx hb dX4_m_19 (lv_at hl 0 rfl) ?_
        refine lv_bipush (v := 8) hx hb dX4_m_21 (by decide) ?_
        refine lv_lshl (v := jlshl w5 (8 : Int32)) hx hb dX4_m_23 rfl ?_
        refine lv_aload_n hx hb dX4_m_24 rfl (lv_at hl 2 rfl) ?_
        refine va_get (D := G) (ci := 2) (v := .ref (a 4)) (C := RX4) (T := TX4) (N := 17) hx hb hts iw_X4_m_X4 hown hK hP 0 rfl rfl 4 (by decide) (hts (.fieldLink RX4 19 "MixBenchModel" "memory" "[B") (by decide +kernel)) (fun _ h9 => h9) rfl dX4_m_25 ?_
        refine lv_iload hx hb dX4_m_28 (lv_at hl 5 rfl) ?_
        refine lv_iload hx hb dX4_m_30 (lv_at hl 1 rfl) ?_
        refine lv_iadd hx hb dX4_m_32 ?_
        refine va_bald hx hb hK hP 4 1 rfl rfl (in_mem h0 h1 ev1 hI c2) dX4_m_33 ?_
        refine lv_sipush (v := 255) hx hb dX4_m_34 (by decide) ?_
        refine lv_iand hx hb dX4_m_37 ?_
        refine lv_i2l (v := ((m_mm u (v1 + w7).toNatClampNeg) &&& (255 : Int32)).toInt64) hx hb dX4_m_38 rfl ?_
        refine lv_lor hx hb dX4_m_39 ?_
        refine lv_topl (fun v3 ev3 => ?_)
        refine lv_lstore (lv' := [(5, .long v3), (7, .int w7), (0, .ref (a 0)), (1, .long p0), (3, .int p1), (4, .int v1)]) hx hb dX4_m_40 hl (by decide) rfl (fun ls hl => ?_)
        obtain ⟨v4, ev4⟩ : ∃ y : Int32, y = w7 + (1 : Int32) := ⟨_, rfl⟩
        refine lv_iinc (v := v4) (lv' := [(7, .int v4), (5, .long v3), (0, .ref (a 0)), (1, .long p0), (3, .int p1), (4, .int v1)]) hx hb dX4_m_42 hl (k := 1) rfl (by rw [ev4]; rfl) (by decide) rfl (fun ls hl => ?_)
        refine lv_goto (tgt := 13) hx hb dX4_m_45 (by decide) ?_
        have hn : lf_X4_m_13 u p0 p1 v1 (n + 1) w5 w7 = lf_X4_m_13 u p0 p1 v1 n v3 v4 := (by have ev4 := ev4.symm; subst ev4; have ev3 := ev3.symm; subst ev3; exact (if_neg c2).trans (rfl))
        rw [hn] at kx
        exact ih v3 v4 (by have ev4 := ev4.symm; subst ev4; have ev3 := ev3.symm; subst ev3; have ev1 := ev1.symm; subst ev1; exact sz_next h1 hI c2) _ _ hP hD hS ls (lv_sub hl [1, 0, 2, 3, 4, 5] rfl) kx
  refine loop13 (p1.toNatClampNeg + 1) (0 : Int64) (0 : Int32) (⟨by rw [Nat.sub_self]; rfl, Nat.succ_pos _, Nat.le_refl _⟩) _ _ hP hD hS ls (lv_sub hl [1, 0, 3, 4, 5, 2] rfl) ?_
  intro H locs hP hD hS ls hl
  obtain ⟨v5, ev5⟩ : ∃ z, z = (lf_X4_m_13 u p0 p1 v1 (p1.toNatClampNeg + 1) (0 : Int64) (0 : Int32)).1 := ⟨_, rfl⟩
  obtain ⟨v6, ev6⟩ : ∃ z, z = (lf_X4_m_13 u p0 p1 v1 (p1.toNatClampNeg + 1) (0 : Int64) (0 : Int32)).2 := ⟨_, rfl⟩
  have hl : lv_has ls 8 [(5, .long v5), (7, .int v6), (0, .ref (a 0)), (1, .long p0), (3, .int p1), (4, .int v1)] := by rw [ev5, ev6]; exact hl
  refine lv_lload hx hb dX4_m_48 (lv_at hl 0 rfl) ?_
  exact g_lret (s_ro (by have ev6 := ev6.symm; subst ev6; have ev5 := ev5.symm; subst ev5; have ev1 := ev1.symm; subst ev1; exact rfl)) hx hb hr hP hD hS hlocks dX4_m_50
