def lf_X4_mark_9 (u0 : MS)  : Nat → Int64 → Int32 → Int64 × Int32
  | 0, w1, w3 => (w1, w3)
  | n + 1, w1, w3 =>
    if (256 : Int32) ≤ w3 then
      (w1, w3)
    else
      let v3 : Int64 := ((m_g u0 w3.toNatClampNeg) * (((2 : Int64) * w3.toInt64) + (1 : Int64))) * (-7046029254386353131 : Int64);
      let v4 : Int64 := w1 + v3;
      let v5 : Int32 := w3 + (1 : Int32);
      lf_X4_mark_9 u0 n v4 v5
def f_X4_mark (u : MS)  : Int64 × MS :=
  let u1 : MS := sm_th u (0 : Int32);
  let v6 : Int64 := (lf_X4_mark_9 u1 (256 + 1) (0 : Int64) (0 : Int32)).1;
  let v7 : Int32 := (lf_X4_mark_9 u1 (256 + 1) (0 : Int64) (0 : Int32)).2;
  (v6, u1)
abbrev rm_X4_mark : Room := { frames := 0, cells := 0, slots := 0, locals := 0 }
set_option maxRecDepth 20000 in
theorem iw_X4_mark_X4 : ∀ w ∈ wsX40, w ∈ wsX4_mark := by decide +kernel
set_option maxHeartbeats 4000000 in
set_option maxRecDepth 100000 in
theorem c_X4_mark (l : Launch) (yy : Nat → ClassId) (a : Nat → Nat) (u : MS) : gMl l yX4_mark wsX4_mark rm_X4_mark eTrue (sT yy) (wM yy a) [.ref (a 0)] u (f_X4_mark u) := by
  refine gm_ofW (Qc := gQl (wM yy a) (f_X4_mark u)) (by decide) rfl (Nat.le_of_ble_eq_true rfl) ?_
  intro G A p e s m args below meth c hx hb hr hml hts hown hlocks hK hE hA H locs hP hD hS ls hl
  have hl : lv_has ls 4 [(0, .ref (a 0))] := hl
  refine lv_aload_n hx hb dX4_mark_0 rfl (lv_at hl 0 rfl) ?_
  refine lv_iconst (v := 0) hx hb dX4_mark_1 (by decide) ?_
  refine va_put (D := G) (ci := 2) (v := .int (0 : Int32)) (ty := .int) (C := RX4) (T := TX4) (N := 17) hx hb hts iw_X4_mark_X4 tyX4 tyX4_ok nmX4 hown hK hP hD hS 0 rfl rfl 0 (by decide) (hts (.fieldLink RX4 153 "MixBenchModel" "thrown" "I") (by decide +kernel)) (fun _ h9 => h9) rfl (by decide +kernel) rfl rfl (Nat.le_of_ble_eq_true rfl) dX4_mark_2 (fun H locs hP hD hS => ?_)
  obtain ⟨u1, eu1⟩ : ∃ z, z = sm_th u (0 : Int32) := ⟨_, rfl⟩
  have hP : va_P G vwCl (wM yy a u1) H := by rw [eu1]; exact hP
  have hD : va_D A (wM yy a u1) := by rw [eu1]; exact hD
  refine lv_lconst (v := 0) hx hb dX4_mark_5 (by decide) ?_
  refine lv_lstore_n (lv' := [(1, .long (0 : Int64)), (0, .ref (a 0))]) hx hb dX4_mark_6 rfl hl (by decide) rfl (fun ls hl => ?_)
  refine lv_iconst (v := 0) hx hb dX4_mark_7 (by decide) ?_
  refine lv_istore_n (lv' := [(3, .int (0 : Int32)), (1, .long (0 : Int64)), (0, .ref (a 0))]) hx hb dX4_mark_8 rfl hl (by decide) rfl (fun ls hl => ?_)
  have loop9 : ∀ (n : Nat) (w1 : Int64) (w3 : Int32), w3 = nI (256 + 1 - n) ∧ 0 < n ∧ n ≤ 256 + 1 → ∀ (H : Heap) (locs : List Loc), va_P G vwCl (wM yy a u1) H → va_D A (wM yy a u1) → va_S A s.heap H locs → ∀ ls : Array Slot, lv_has ls 4 [(1, .long w1), (3, .int w3), (0, .ref (a 0))] → (∀ (H : Heap) (locs : List Loc), va_P G vwCl (wM yy a u1) H → va_D A (wM yy a u1) → va_S A s.heap H locs → ∀ ls : Array Slot, lv_has ls 4 [(1, .long ((lf_X4_mark_9 u1 n w1 w3).1)), (3, .int ((lf_X4_mark_9 u1 n w1 w3).2)), (0, .ref (a 0))] → W p l e rm_X4_mark s m args below meth c H locs 0 0 (MQ below (gQl (wM yy a) (f_X4_mark u) G A) args s 0 0 A) (F0 m 44 ls [])) → W p l e rm_X4_mark s m args below meth c H locs 0 0 (MQ below (gQl (wM yy a) (f_X4_mark u) G A) args s 0 0 A) (F0 m 9 ls []) := by
    intro n
    induction n with
    | zero =>
      intro w1 w3 hI
      exact absurd hI (fun h => Nat.lt_irrefl 0 h.2.1)
    | succ n ih =>
      intro w1 w3 hI H locs hP hD hS ls hl kx
      refine lv_iload_n hx hb dX4_mark_9 rfl (lv_at hl 1 rfl) ?_
      refine lv_sipush (v := 256) hx hb dX4_mark_10 (by decide) ?_
      refine lv_icmp_ge (tgt := 44) hx hb dX4_mark_13 (by decide) (fun c2 => ?_) (fun c2 => ?_)
      · have hn : lf_X4_mark_9 u1 (n + 1) w1 w3 = (w1, w3) := (by exact (if_pos c2).trans (rfl))
        rw [hn] at kx
        exact kx _ _ hP hD hS ls (lv_sub hl [0, 1, 2] rfl)
      · refine lv_lload_n hx hb dX4_mark_16 rfl (lv_at hl 0 rfl) ?_
        refine lv_aload_n hx hb dX4_mark_17 rfl (lv_at hl 2 rfl) ?_
        refine va_get (D := G) (ci := 2) (v := .ref (a 1)) (C := RX4) (T := TX4) (N := 17) hx hb hts iw_X4_mark_X4 hown hK hP 0 rfl rfl 1 (by decide) (hts (.fieldLink RX4 7 "MixBenchModel" "g" "[J") (by decide +kernel)) (fun _ h9 => h9) rfl dX4_mark_18 ?_
        refine lv_iload_n hx hb dX4_mark_21 rfl (lv_at hl 1 rfl) ?_
        refine va_lald hx hb hK hP 1 0 rfl rfl (by have eu1 := eu1.symm; subst eu1; exact up_in (N := 256) (by decide) hI c2 (by decide) (by decide)) dX4_mark_22 ?_
        refine lv_ldc2 hx hb hown (hts (.constantLong RX4 255 (2)) (by decide +kernel)) dX4_mark_23 ?_
        refine lv_iload_n hx hb dX4_mark_26 rfl (lv_at hl 1 rfl) ?_
        refine lv_i2l (v := w3.toInt64) hx hb dX4_mark_27 rfl ?_
        refine lv_lmul hx hb dX4_mark_28 ?_
        refine lv_lconst (v := 1) hx hb dX4_mark_29 (by decide) ?_
        refine lv_ladd hx hb dX4_mark_30 ?_
        refine lv_lmul hx hb dX4_mark_31 ?_
        refine lv_ldc2 hx hb hown (hts (.constantLong RX4 314 (-7046029254386353131)) (by decide +kernel)) dX4_mark_32 ?_
        refine lv_lmul hx hb dX4_mark_35 ?_
        refine lv_topl (fun v3 ev3 => ?_)
        refine lv_ladd hx hb dX4_mark_36 ?_
        refine lv_topl (fun v4 ev4 => ?_)
        refine lv_lstore_n (lv' := [(1, .long v4), (3, .int w3), (0, .ref (a 0))]) hx hb dX4_mark_37 rfl hl (by decide) rfl (fun ls hl => ?_)
        obtain ⟨v5, ev5⟩ : ∃ y : Int32, y = w3 + (1 : Int32) := ⟨_, rfl⟩
        refine lv_iinc (v := v5) (lv' := [(3, .int v5), (1, .long v4), (0, .ref (a 0))]) hx hb dX4_mark_38 hl (k := 1) rfl (by rw [ev5]; rfl) (by decide) rfl (fun ls hl => ?_)
        refine lv_goto (tgt := 9) hx hb dX4_mark_41 (by decide) ?_
        have hn : lf_X4_mark_9 u1 (n + 1) w1 w3 = lf_X4_mark_9 u1 n v4 v5 := (by have ev5 := ev5.symm; subst ev5; have ev4 := ev4.symm; subst ev4; have ev3 := ev3.symm; subst ev3; exact (if_neg c2).trans (rfl))
        rw [hn] at kx
        exact ih v4 v5 (by have ev5 := ev5.symm; subst ev5; have ev4 := ev4.symm; subst ev4; have ev3 := ev3.symm; subst ev3; have eu1 := eu1.symm; subst eu1; exact up_next (N := 256) (by decide) hI c2) _ _ hP hD hS ls (lv_sub hl [1, 0, 2] rfl) kx
  refine loop9 (256 + 1) (0 : Int64) (0 : Int32) (⟨by rw [Nat.sub_self]; rfl, Nat.succ_pos _, Nat.le_refl _⟩) _ _ hP hD hS ls (lv_sub hl [1, 0, 2] rfl) ?_
  intro H locs hP hD hS ls hl
  obtain ⟨v6, ev6⟩ : ∃ z, z = (lf_X4_mark_9 u1 (256 + 1) (0 : Int64) (0 : Int32)).1 := ⟨_, rfl⟩
  obtain ⟨v7, ev7⟩ : ∃ z, z = (lf_X4_mark_9 u1 (256 + 1) (0 : Int64) (0 : Int32)).2 := ⟨_, rfl⟩
  have hl : lv_has ls 4 [(1, .long v6), (3, .int v7), (0, .ref (a 0))] := by rw [ev6, ev7]; exact hl
  refine lv_lload_n hx hb dX4_mark_44 rfl (lv_at hl 0 rfl) ?_
  exact g_lret (by have ev7 := ev7.symm; subst ev7; have ev6 := ev6.symm; subst ev6; have eu1 := eu1.symm; subst eu1; exact rfl) hx hb hr hP hD hS hlocks dX4_mark_45
