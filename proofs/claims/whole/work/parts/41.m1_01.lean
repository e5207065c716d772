def lf_X4_m__10 (q1 : Int64) (q3 : Int32) (q4 : Int64) (q6 : Int32) : Nat → Int32 → MS → Int32 × MS
  | 0, w7, u0 => (w7, u0)
  | n + 1, w7, u0 =>
    if q3 ≤ w7 then
      (w7, u0)
    else
      let u3 : MS := sm_mm u0 (upd (m_mm u0) (q6 + w7).toNatClampNeg (vp_nar .byte (((jlshr q4 ((8 : Int32) * ((q3 - (1 : Int32)) - w7))).toInt32).toInt8.toInt32)));
      let v4 : Int32 := w7 + (1 : Int32);
      lf_X4_m__10 q1 q3 q4 q6 n v4 u3
def f_X4_m_ (u : MS) (p0 : Int64) (p1 : Int32) (p2 : Int64) : MS :=
  let v1 : Int32 := p0.toInt32 &&& (-p1);
  let v5 : Int32 := (lf_X4_m__10 p0 p1 p2 v1 (p1.toNatClampNeg + 1) (0 : Int32) u).1;
  let u6 : MS := (lf_X4_m__10 p0 p1 p2 v1 (p1.toNatClampNeg + 1) (0 : Int32) u).2;
  u6
abbrev rm_X4_m_ : Room := { frames := 0, cells := 0, slots := 0, locals := 0 }
set_option maxRecDepth 20000 in
theorem iw_X4_m__X4 : ∀ w ∈ wsX40, w ∈ wsX4_m_ := by decide +kernel
set_option maxHeartbeats 4000000 in
set_option maxRecDepth 100000 in
theorem c_X4_m_ (l : Launch) (yy : Nat → ClassId) (a : Nat → Nat) (u : MS) (p0 : Int64) (p1 : Int32) (p2 : Int64) (h0 : (f_X4_beyond p0) = (0 : Int32)) (h1 : p1 = 1 ∨ p1 = 2 ∨ p1 = 4 ∨ p1 = 8) : gMv l yX4_m_ wsX4_m_ rm_X4_m_ eTrue (sT yy) (wM yy a) [.ref (a 0), .long p0, .int p1, .long p2] u (f_X4_m_ u p0 p1 p2) := by
  refine gm_ofW (Qc := gQv (wM yy a) (f_X4_m_ u p0 p1 p2)) (by decide) rfl (Nat.le_of_ble_eq_true rfl) ?_
  intro G A p e s m args below meth c hx hb hr hml hts hown hlocks hK hE hA H locs hP hD hS ls hl
  have hl : lv_has ls 8 [(0, .ref (a 0)), (1, .long p0), (3, .int p1), (4, .long p2)] := hl
  refine lv_lload_n hx hb dX4_m__0 rfl (lv_at hl 1 rfl) ?_
  refine lv_l2i (v := p0.toInt32) hx hb dX4_m__1 rfl ?_
  refine lv_iload_n hx hb dX4_m__2 rfl (lv_at hl 2 rfl) ?_
  refine lv_ineg hx hb dX4_m__3 ?_
  refine lv_iand hx hb dX4_m__4 ?_
  refine lv_topi (fun v1 ev1 => ?_)
  refine lv_istore (lv' := [(6, .int v1), (0, .ref (a 0)), (1, .long p0), (3, .int p1), (4, .long p2)]) hx hb dX4_m__5 hl (by decide) rfl (fun ls hl => ?_)
  refine lv_iconst (v := 0) hx hb dX4_m__7 (by decide) ?_
  refine lv_istore (lv' := [(7, .int (0 : Int32)), (6, .int v1), (0, .ref (a 0)), (1, .long p0), (3, .int p1), (4, .long p2)]) hx hb dX4_m__8 hl (by decide) rfl (fun ls hl => ?_)
  have loop10 : ∀ (n : Nat) (w7 : Int32) (u0 : MS), w7 = nI (p1.toNatClampNeg + 1 - n) ∧ 0 < n ∧ n ≤ p1.toNatClampNeg + 1 → ∀ (H : Heap) (locs : List Loc), va_P G vwCl (wM yy a u0) H → va_D A (wM yy a u0) → va_S A s.heap H locs → ∀ ls : Array Slot, lv_has ls 8 [(7, .int w7), (0, .ref (a 0)), (1, .long p0), (3, .int p1), (4, .long p2), (6, .int v1)] → (∀ (H : Heap) (locs : List Loc), va_P G vwCl (wM yy a ((lf_X4_m__10 p0 p1 p2 v1 n w7 u0).2)) H → va_D A (wM yy a ((lf_X4_m__10 p0 p1 p2 v1 n w7 u0).2)) → va_S A s.heap H locs → ∀ ls : Array Slot, lv_has ls 8 [(7, .int ((lf_X4_m__10 p0 p1 p2 v1 n w7 u0).1)), (0, .ref (a 0)), (1, .long p0), (3, .int p1), (4, .long p2), (6, .int v1)] → W p l e rm_X4_m_ s m args below meth c H locs 0 0 (MQ below (gQv (wM yy a) (f_X4_m_ u p0 p1 p2) G A) args s 0 0 A) (F0 m 46 ls [])) → W p l e rm_X4_m_ s m args below meth c H locs 0 0 (MQ below (gQv (wM yy a) (f_X4_m_ u p0 p1 p2) G A) args s 0 0 A) (F0 m 10 ls []) := by
    intro n
    induction n with
    | zero =>
      intro w7 u0 hI
      exact absurd hI (fun h => Nat.lt_irrefl 0 h.2.1)
    | succ n ih =>
      intro w7 u0 hI H locs hP hD hS ls hl kx
      refine lv_iload hx hb dX4_m__10 (lv_at hl 0 rfl) ?_
      refine lv_iload_n hx hb dX4_m__12 rfl (lv_at hl 3 rfl) ?_
      refine lv_icmp_ge (tgt := 46) hx hb dX4_m__13 (by decide) (fun c2 => ?_) (fun c2 => ?_)
      · have hn : lf_X4_m__10 p0 p1 p2 v1 (n + 1) w7 u0 = (w7, u0) := (by exact (if_pos c2).trans (rfl))
        rw [hn] at kx
        exact kx _ _ hP hD hS ls (lv_sub hl [0, 1, 2, 3, 4, 5] rfl)
      · refine lv_aload_n hx hb dX4_m__16 rfl (lv_at hl 1 rfl) ?_
        refine va_get (D := G) (ci := 2) (v := .ref (a 4)) (C := RX4) (T := TX4) (N := 17) hx hb hts iw_X4_m__X4 hown hK hP 0 rfl rfl 4 (by decide) (hts (.fieldLink RX4 19 "MixBenchModel" "memory" "[B") (by decide +kernel)) (fun _ h9 => h9) rfl dX4_m__17 ?_
        refine lv_iload hx hb dX4_m__20 (lv_at hl 5 rfl) ?_
        refine lv_iload hx hb dX4_m__22 (lv_at hl 0 rfl) ?_
        refine lv_iadd hx hb dX4_m__24 ?_
        refine lv_lload hx hb dX4_m__25 (lv_at hl 4 rfl) ?_
        refine lv_bipush (v := 8) hx hb dX4_m__27 (by decide) ?_
        refine lv_iload_n hx hb dX4_m__29 rfl (lv_at hl 3 rfl) ?_
        refine lv_iconst (v := 1) hx hb dX4_m__30 (by decide) ?_
        refine lv_isub hx hb dX4_m__31 ?_
        refine lv_iload hx hb dX4_m__32 (lv_at hl 0 rfl) ?_
        refine lv_isub hx hb dX4_m__34 ?_
        refine lv_imul hx hb dX4_m__35 ?_
        refine lv_lshr (v := jlshr p2 ((8 : Int32) * ((p1 - (1 : Int32)) - w7))) hx hb dX4_m__36 rfl ?_
        refine lv_l2i (v := (jlshr p2 ((8 : Int32) * ((p1 - (1 : Int32)) - w7))).toInt32) hx hb dX4_m__37 rfl ?_
        refine lv_i2b (v := ((jlshr p2 ((8 : Int32) * ((p1 - (1 : Int32)) - w7))).toInt32).toInt8.toInt32) hx hb dX4_m__38 rfl ?_
        refine va_bast hx hb hK hP hD hS 4 1 rfl rfl (in_mem h0 h1 ev1 hI c2) dX4_m__39 (fun H locs hP hD hS => ?_)
        obtain ⟨u3, eu3⟩ : ∃ z, z = sm_mm u0 (upd (m_mm u0) (v1 + w7).toNatClampNeg (vp_nar .byte (((jlshr p2 ((8 : Int32) * ((p1 - (1 : Int32)) - w7))).toInt32).toInt8.toInt32))) := ⟨_, rfl⟩
        have hP : va_P G vwCl (wM yy a u3) H := by rw [eu3]; exact hP
        have hD : va_D A (wM yy a u3) := by rw [eu3]; exact hD
        obtain ⟨v4, ev4⟩ : ∃ y : Int32, y = w7 + (1 : Int32) := ⟨_, rfl⟩
        refine lv_iinc (v := v4) (lv' := [(7, .int v4), (0, .ref (a 0)), (1, .long p0), (3, .int p1), (4, .long p2), (6, .int v1)]) hx hb dX4_m__40 hl (k := 0) rfl (by rw [ev4]; rfl) (by decide) rfl (fun ls hl => ?_)
        refine lv_goto (tgt := 10) hx hb dX4_m__43 (by decide) ?_
        have hn : lf_X4_m__10 p0 p1 p2 v1 (n + 1) w7 u0 = lf_X4_m__10 p0 p1 p2 v1 n v4 u3 := (by have ev4 := ev4.symm; subst ev4; have eu3 := eu3.symm; subst eu3; exact (if_neg c2).trans (rfl))
        rw [hn] at kx
        exact ih v4 u3 (by have ev4 := ev4.symm; subst ev4; have eu3 := eu3.symm; subst eu3; have ev1 := ev1.symm; subst ev1; exact sz_next h1 hI c2) _ _ hP hD hS ls (lv_sub hl [0, 1, 2, 3, 4, 5] rfl) kx
  refine loop10 (p1.toNatClampNeg + 1) (0 : Int32) u (⟨by rw [Nat.sub_self]; rfl, Nat.succ_pos _, Nat.le_refl _⟩) _ _ hP hD hS ls (lv_sub hl [0, 2, 3, 4, 5, 1] rfl) ?_
  intro H locs hP hD hS ls hl
  obtain ⟨v5, ev5⟩ : ∃ z, z = (lf_X4_m__10 p0 p1 p2 v1 (p1.toNatClampNeg + 1) (0 : Int32) u).1 := ⟨_, rfl⟩
  have hl : lv_has ls 8 [(7, .int v5), (0, .ref (a 0)), (1, .long p0), (3, .int p1), (4, .long p2), (6, .int v1)] := by rw [ev5]; exact hl
  obtain ⟨u6, eu6⟩ : ∃ z, z = (lf_X4_m__10 p0 p1 p2 v1 (p1.toNatClampNeg + 1) (0 : Int32) u).2 := ⟨_, rfl⟩
  have hP : va_P G vwCl (wM yy a u6) H := by rw [eu6]; exact hP
  have hD : va_D A (wM yy a u6) := by rw [eu6]; exact hD
  exact g_vret (by have eu6 := eu6.symm; subst eu6; have ev5 := ev5.symm; subst ev5; have ev1 := ev1.symm; subst ev1; exact rfl) hx hb hr hP hD hS hlocks dX4_m__46
