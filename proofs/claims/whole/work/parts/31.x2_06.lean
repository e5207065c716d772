def lf_X3_mark_4 (u0 : XS)  : Nat → Int64 → Int32 → Int64 × Int32
  | 0, w1, w3 => (w1, w3)
  | n + 1, w1, w3 =>
    if (256 : Int32) ≤ w3 then
      (w1, w3)
    else
      let v2 : Int64 := ((x_g u0 w3.toNatClampNeg) * ((((2 : Int32) * w3) + (1 : Int32)).toInt64)) * (-7046029254386353131 : Int64);
      let v3 : Int64 := w1 + v2;
      let v4 : Int32 := w3 + (1 : Int32);
      lf_X3_mark_4 u0 n v3 v4
def f_X3_mark (u : XS)  : Int64 :=
  let v5 : Int64 := (lf_X3_mark_4 u (256 + 1) (0 : Int64) (0 : Int32)).1;
  let v6 : Int32 := (lf_X3_mark_4 u (256 + 1) (0 : Int64) (0 : Int32)).2;
  v5
abbrev rm_X3_mark : Room := { frames := 0, cells := 0, slots := 0, locals := 0 }
set_option maxRecDepth 20000 in
theorem iw_X3_mark_X3 : ∀ w ∈ wsX30, w ∈ wsX3_mark := by decide +kernel
set_option maxHeartbeats 4000000 in
set_option maxRecDepth 100000 in
theorem c_X3_mark (l : Launch) (yy : Nat → ClassId) (a : Nat → Nat) (u : XS) : gMl l yX3_mark wsX3_mark rm_X3_mark eX (sT yy) (wX yy a) [.ref (a 0)] u ((f_X3_mark u, u)) := by
  refine gm_ofW (Qc := gQl (wX yy a) ((f_X3_mark u, u))) (by decide) rfl (Nat.le_of_ble_eq_true rfl) ?_
  intro G A p e s m args below meth c hx hb hr hml hts hown hlocks hK hE hA H locs hP hD hS ls hl
  have hl : lv_has ls 4 [(0, .ref (a 0))] := hl
  refine lv_lconst (v := 0) hx hb dX3_mark_0 (by decide) ?_
  refine lv_lstore_n (lv' := [(1, .long (0 : Int64)), (0, .ref (a 0))]) hx hb dX3_mark_1 rfl hl (by decide) rfl (fun ls hl => ?_)
  refine lv_iconst (v := 0) hx hb dX3_mark_2 (by decide) ?_
  refine lv_istore_n (lv' := [(3, .int (0 : Int32)), (1, .long (0 : Int64)), (0, .ref (a 0))]) hx hb dX3_mark_3 rfl hl (by decide) rfl (fun ls hl => ?_)
  have loop4 : ∀ (n : Nat) (w1 : Int64) (w3 : Int32), w3 = nI (256 + 1 - n) ∧ 0 < n ∧ n ≤ 256 + 1 → ∀ (H : Heap) (locs : List Loc), va_P G vwCl (wX yy a u) H → va_D A (wX yy a u) → va_S A s.heap H locs → ∀ ls : Array Slot, lv_has ls 4 [(1, .long w1), (3, .int w3), (0, .ref (a 0))] → (∀ (H : Heap) (locs : List Loc), va_P G vwCl (wX yy a u) H → va_D A (wX yy a u) → va_S A s.heap H locs → ∀ ls : Array Slot, lv_has ls 4 [(1, .long ((lf_X3_mark_4 u n w1 w3).1)), (3, .int ((lf_X3_mark_4 u n w1 w3).2)), (0, .ref (a 0))] → W p l e rm_X3_mark s m args below meth c H locs 0 0 (MQ below (gQl (wX yy a) ((f_X3_mark u, u)) G A) args s 0 0 A) (F0 m 37 ls [])) → W p l e rm_X3_mark s m args below meth c H locs 0 0 (MQ below (gQl (wX yy a) ((f_X3_mark u, u)) G A) args s 0 0 A) (F0 m 4 ls []) := by
    intro n
    induction n with
    | zero =>
      intro w1 w3 hI
      exact absurd hI (fun h => Nat.lt_irrefl 0 h.2.1)
    | succ n ih =>
      intro w1 w3 hI H locs hP hD hS ls hl kx
      refine lv_iload_n hx hb dX3_mark_4 rfl (lv_at hl 1 rfl) ?_
      refine lv_sipush (v := 256) hx hb dX3_mark_5 (by decide) ?_
      refine lv_icmp_ge (tgt := 37) hx hb dX3_mark_8 (by decide) (fun c1 => ?_) (fun c1 => ?_)
      · have hn : lf_X3_mark_4 u (n + 1) w1 w3 = (w1, w3) := (by exact (if_pos c1).trans (rfl))
        rw [hn] at kx
        exact kx _ _ hP hD hS ls (lv_sub hl [0, 1, 2] rfl)
      · refine lv_lload_n hx hb dX3_mark_11 rfl (lv_at hl 0 rfl) ?_
        refine lv_aload_n hx hb dX3_mark_12 rfl (lv_at hl 2 rfl) ?_
        refine va_get (D := G) (ci := 1) (v := .ref (a 1)) (C := RX3) (T := TX3) (N := 12) hx hb hts iw_X3_mark_X3 hown hK hP 0 rfl rfl 0 (by decide) (hts (.fieldLink RX3 9 "MixBench" "registers" "[J") (by decide +kernel)) (fun _ h9 => h9) rfl dX3_mark_13 ?_
        refine lv_iload_n hx hb dX3_mark_16 rfl (lv_at hl 1 rfl) ?_
        refine va_lald hx hb hK hP 1 0 rfl rfl (by exact up_in (N := 256) (by decide) hI c1 (by decide) (by decide)) dX3_mark_17 ?_
        refine lv_iconst (v := 2) hx hb dX3_mark_18 (by decide) ?_
        refine lv_iload_n hx hb dX3_mark_19 rfl (lv_at hl 1 rfl) ?_
        refine lv_imul hx hb dX3_mark_20 ?_
        refine lv_iconst (v := 1) hx hb dX3_mark_21 (by decide) ?_
        refine lv_iadd hx hb dX3_mark_22 ?_
        refine lv_i2l (v := (((2 : Int32) * w3) + (1 : Int32)).toInt64) hx hb dX3_mark_23 rfl ?_
        refine lv_lmul hx hb dX3_mark_24 ?_
        refine lv_ldc2 hx hb hown (hts (.constantLong RX3 81 (-7046029254386353131)) (by decide +kernel)) dX3_mark_25 ?_
        refine lv_lmul hx hb dX3_mark_28 ?_
        refine lv_topl (fun v2 ev2 => ?_)
        refine lv_ladd hx hb dX3_mark_29 ?_
        refine lv_topl (fun v3 ev3 => ?_)
        refine lv_lstore_n (lv' := [(1, .long v3), (3, .int w3), (0, .ref (a 0))]) hx hb dX3_mark_30 rfl hl (by decide) rfl (fun ls hl => ?_)
        obtain ⟨v4, ev4⟩ : ∃ y : Int32, y = w3 + (1 : Int32) := ⟨_, rfl⟩
        refine lv_iinc (v := v4) (lv' := [(3, .int v4), (1, .long v3), (0, .ref (a 0))]) hx hb dX3_mark_31 hl (k := 1) rfl (by rw [ev4]; rfl) (by decide) rfl (fun ls hl => ?_)
        refine lv_goto (tgt := 4) hx hb dX3_mark_34 (by decide) ?_
        have hn : lf_X3_mark_4 u (n + 1) w1 w3 = lf_X3_mark_4 u n v3 v4 := (by have ev4 := ev4.symm; subst ev4; have ev3 := ev3.symm; subst ev3; have ev2 := ev2.symm; subst ev2; exact (if_neg c1).trans (rfl))
        rw [hn] at kx
        exact ih v3 v4 (by have ev4 := ev4.symm; subst ev4; have ev3 := ev3.symm; subst ev3; have ev2 := ev2.symm; subst ev2; exact up_next (N := 256) (by decide) hI c1) _ _ hP hD hS ls (lv_sub hl [1, 0, 2] rfl) kx
  refine loop4 (256 + 1) (0 : Int64) (0 : Int32) (⟨by rw [Nat.sub_self]; rfl, Nat.succ_pos _, Nat.le_refl _⟩) _ _ hP hD hS ls (lv_sub hl [1, 0, 2] rfl) ?_
  intro H locs hP hD hS ls hl
  obtain ⟨v5, ev5⟩ : ∃ z, z = (lf_X3_mark_4 u (256 + 1) (0 : Int64) (0 : Int32)).1 := ⟨_, rfl⟩
  obtain ⟨v6, ev6⟩ : ∃ z, z = (lf_X3_mark_4 u (256 + 1) (0 : Int64) (0 : Int32)).2 := ⟨_, rfl⟩
  have hl : lv_has ls 4 [(1, .long v5), (3, .int v6), (0, .ref (a 0))] := by rw [ev5, ev6]; exact hl
  refine lv_lload_n hx hb dX3_mark_37 rfl (lv_at hl 0 rfl) ?_
  exact g_lret (s_ro (by have ev6 := ev6.symm; subst ev6; have ev5 := ev5.symm; subst ev5; exact rfl)) hx hb hr hP hD hS hlocks dX3_mark_38
