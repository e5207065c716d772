def lf_X3_longQuotient_29 (u0 : XS) (q1 : Int64) (q3 : Int64) (q5 : Int64) : Nat → Int64 → Int64 → Int32 → Int64 × Int64 × Int32
  | 0, w7, w9, w11 => (w7, w9, w11)
  | n + 1, w7, w9, w11 =>
    if w11 < (0 : Int32) then
      (w7, w9, w11)
    else
      let z5 : Int32 := (if (0 : Int64) ≤ w7 then (0 : Int32) else (1 : Int32));
      let v4 : Int32 := z5;
      let v7 : Int64 := (jlshl w7 (1 : Int32)) ||| ((jlushr q3 w11) &&& (1 : Int64));
      let v8 : Int64 := jlshl w9 (1 : Int32);
      let z12 : Int64 × Int64 := (if v4 = (0 : Int32) then if (f_X2_isAbove q5 v7) = (0 : Int32) then let v17 : Int64 := v7 - q5; let v18 : Int64 := v8 ||| (1 : Int64); (v17, v18) else (v7, v8) else let v14 : Int64 := v7 - q5; let v15 : Int64 := v8 ||| (1 : Int64); (v14, v15));
      let v10 : Int64 := z12.1;
      let v11 : Int64 := z12.2;
      let v19 : Int32 := w11 + (-1 : Int32);
      lf_X3_longQuotient_29 u0 q1 q3 q5 n v10 v11 v19
def f_X3_longQuotient (u : XS) (p0 : Int64) (p1 : Int64) (p2 : Int64) : Int64 × XS :=
  if (f_X2_isAbove p2 p0) = (0 : Int32) then
    let u24 : XS := sx_sp u (vp_updL (x_sp u) (6 : Int32).toNatClampNeg p1);
    (p0, u24)
  else
    let v20 : Int64 := (lf_X3_longQuotient_29 u p0 p1 p2 65 p0 (0 : Int64) (63 : Int32)).1;
    let v21 : Int64 := (lf_X3_longQuotient_29 u p0 p1 p2 65 p0 (0 : Int64) (63 : Int32)).2.1;
    let v22 : Int32 := (lf_X3_longQuotient_29 u p0 p1 p2 65 p0 (0 : Int64) (63 : Int32)).2.2;
    let u23 : XS := sx_sp u (vp_updL (x_sp u) (6 : Int32).toNatClampNeg v20);
    (v21, u23)
abbrev rm_X3_longQuotient : Room := { frames := 1, cells := 0, slots := 0, locals := 23 }
set_option maxRecDepth 20000 in
theorem iw_X3_longQuotient_X3 : ∀ w ∈ wsX30, w ∈ wsX3_longQuotient := by decide +kernel
set_option maxHeartbeats 4000000 in
set_option maxRecDepth 100000 in
theorem c_X3_longQuotient (l : Launch) (yy : Nat → ClassId) (a : Nat → Nat) (u : XS) (p0 : Int64) (p1 : Int64) (p2 : Int64) : gMl l yX3_longQuotient wsX3_longQuotient rm_X3_longQuotient eX (sT yy) (wX yy a) [.ref (a 0), .long p0, .long p1, .long p2] u (f_X3_longQuotient u p0 p1 p2) := by
  refine gm_ofW (Qc := gQl (wX yy a) (f_X3_longQuotient u p0 p1 p2)) (by decide) rfl (Nat.le_of_ble_eq_true rfl) ?_
  intro G A p e s m args below meth c hx hb hr hml hts hown hlocks hK hE hA H locs hP hD hS ls hl
  have hl : lv_has ls 13 [(0, .ref (a 0)), (1, .long p0), (3, .long p1), (5, .long p2)] := hl
  refine lv_lload hx hb dX3_longQuotient_0 (lv_at hl 3 rfl) ?_
  refine lv_lload_n hx hb dX3_longQuotient_2 rfl (lv_at hl 1 rfl) ?_
  refine p_i (g_run (va_runSN (As := [.long p2, .long p0]) (rest := []) ⟨hx, hb, hml, hown, hts⟩ (c_X2_isAbove l p2 p0 ) ⟨va_cnB 2 hts gX3_longQuotient_X2_isAbove_n228 rfl rfl rfl (hE.1 (228, yX2_isAbove) (by decide +kernel)) (hts (.initialized RX2) (by decide +kernel)) (by decide +kernel) ⟨Nat.le_of_ble_eq_true rfl, Nat.le_of_ble_eq_true rfl⟩, (hts (.static yX2_isAbove) (by decide +kernel)), trivial⟩ p_preT rfl rfl hl.1 rfl (lv_room (Nat.le_of_ble_eq_true rfl)) dX3_longQuotient_3 ⟨Nat.le_of_ble_eq_true rfl, Nat.le_of_ble_eq_true rfl⟩)) ?_
  refine lv_if_ne (tgt := 19) hx hb dX3_longQuotient_6 (by decide) (fun c1 => ?_) (fun c1 => ?_)
  · refine lv_lload_n hx hb dX3_longQuotient_19 rfl (lv_at hl 1 rfl) ?_
    refine lv_lstore (lv' := [(7, .long p0), (0, .ref (a 0)), (1, .long p0), (3, .long p1), (5, .long p2)]) hx hb dX3_longQuotient_20 hl (by decide) rfl (fun ls hl => ?_)
    refine lv_lconst (v := 0) hx hb dX3_longQuotient_22 (by decide) ?_
    refine lv_lstore (lv' := [(9, .long (0 : Int64)), (7, .long p0), (0, .ref (a 0)), (1, .long p0), (3, .long p1), (5, .long p2)]) hx hb dX3_longQuotient_23 hl (by decide) rfl (fun ls hl => ?_)
    refine lv_bipush (v := 63) hx hb dX3_longQuotient_25 (by decide) ?_
    refine lv_istore (lv' := [(11, .int (63 : Int32)), (9, .long (0 : Int64)), (7, .long p0), (0, .ref (a 0)), (1, .long p0), (3, .long p1), (5, .long p2)]) hx hb dX3_longQuotient_27 hl (by decide) rfl (fun ls hl => ?_)
    have loop29 : ∀ (n : Nat) (w7 : Int64) (w9 : Int64) (w11 : Int32), w11 + 1 = nI (n - 1) ∧ 0 < n ∧ n ≤ 65 → ∀ (H : Heap) (locs : List Loc), va_P G vwCl (wX yy a u) H → va_D A (wX yy a u) → va_S A s.heap H locs → ∀ ls : Array Slot, lv_has ls 13 [(7, .long w7), (9, .long w9), (11, .int w11), (0, .ref (a 0)), (1, .long p0), (3, .long p1), (5, .long p2)] → (∀ (H : Heap) (locs : List Loc), va_P G vwCl (wX yy a u) H → va_D A (wX yy a u) → va_S A s.heap H locs → ∀ ls : Array Slot, lv_has ls 13 [(7, .long ((lf_X3_longQuotient_29 u p0 p1 p2 n w7 w9 w11).1)), (9, .long ((lf_X3_longQuotient_29 u p0 p1 p2 n w7 w9 w11).2.1)), (11, .int ((lf_X3_longQuotient_29 u p0 p1 p2 n w7 w9 w11).2.2)), (0, .ref (a 0)), (1, .long p0), (3, .long p1), (5, .long p2)] → W p l e rm_X3_longQuotient s m args below meth c H locs 0 0 (MQ below (gQl (wX yy a) (f_X3_longQuotient u p0 p1 p2) G A) args s 0 0 A) (F0 m 101 ls [])) → W p l e rm_X3_longQuotient s m args below meth c H locs 0 0 (MQ below (gQl (wX yy a) (f_X3_longQuotient u p0 p1 p2) G A) args s 0 0 A) (F0 m 29 ls []) := by
      intro n
      induction n with
      | zero =>
        intro w7 w9 w11 hI
        exact absurd hI (fun h => Nat.lt_irrefl 0 h.2.1)
      | succ n ih =>
        intro w7 w9 w11 hI H locs hP hD hS ls hl kx
        refine lv_iload hx hb dX3_longQuotient_29 (lv_at hl 2 rfl) ?_
        refine lv_if_lt (tgt := 101) hx hb dX3_longQuotient_31 (by decide) (fun c2 => ?_) (fun c2 => ?_)
        · have hn : lf_X3_longQuotient_29 u p0 p1 p2 (n + 1) w7 w9 w11 = (w7, w9, w11) := (by exact (if_pos c2).trans (rfl))
          rw [hn] at kx
          exact kx _ _ hP hD hS ls (lv_sub hl [0, 1, 2, 3, 4, 5, 6] rfl)
        · refine lv_lload hx hb dX3_longQuotient_34 (lv_at hl 0 rfl) ?_
          refine lv_lconst (v := 0) hx hb dX3_longQuotient_36 (by decide) ?_
          obtain ⟨z5, ez5⟩ : ∃ q : Int32, q = (if (0 : Int64) ≤ w7 then (0 : Int32) else (1 : Int32)) := ⟨_, rfl⟩
          have k6 : ∀ (v4 : Int32), v4 = z5 → ∀ (H : Heap) (locs : List Loc), va_P G vwCl (wX yy a u) H → va_D A (wX yy a u) → va_S A s.heap H locs → ∀ ls : Array Slot, lv_has ls 13 [(0, .ref (a 0)), (1, .long p0), (3, .long p1), (5, .long p2), (7, .long w7), (9, .long w9), (11, .int w11)] → W p l e rm_X3_longQuotient s m args below meth c H locs 0 0 (MQ below (gQl (wX yy a) (f_X3_longQuotient u p0 p1 p2) G A) args s 0 0 A) (F0 m 46 ls [.int v4]) := by
            intro v4 jz5 H locs hP hD hS ls hl
            have ev4 : v4 = z5 := jz5
            refine lv_istore (lv' := [(12, .int v4), (0, .ref (a 0)), (1, .long p0), (3, .long p1), (5, .long p2), (7, .long w7), (9, .long w9), (11, .int w11)]) hx hb dX3_longQuotient_46 hl (by decide) rfl (fun ls hl => ?_)
            refine lv_lload hx hb dX3_longQuotient_48 (lv_at hl 5 rfl) ?_
            refine lv_iconst (v := 1) hx hb dX3_longQuotient_50 (by decide) ?_
            refine lv_lshl (v := jlshl w7 (1 : Int32)) hx hb dX3_longQuotient_51 rfl ?_
            refine lv_lload_n hx hb dX3_longQuotient_52 rfl (lv_at hl 3 rfl) ?_
            refine lv_iload hx hb dX3_longQuotient_53 (lv_at hl 7 rfl) ?_
            refine lv_lushr (v := jlushr p1 w11) hx hb dX3_longQuotient_55 rfl ?_
            refine lv_lconst (v := 1) hx hb dX3_longQuotient_56 (by decide) ?_
            refine lv_land hx hb dX3_longQuotient_57 ?_
            refine lv_lor hx hb dX3_longQuotient_58 ?_
            refine lv_topl (fun v7 ev7 => ?_)
            refine lv_lstore (lv' := [(7, .long v7), (12, .int v4), (0, .ref (a 0)), (1, .long p0), (3, .long p1), (5, .long p2), (9, .long w9), (11, .int w11)]) hx hb dX3_longQuotient_59 hl (by decide) rfl (fun ls hl => ?_)
            refine lv_lload hx hb dX3_longQuotient_61 (lv_at hl 6 rfl) ?_
            refine lv_iconst (v := 1) hx hb dX3_longQuotient_63 (by decide) ?_
            refine lv_lshl (v := jlshl w9 (1 : Int32)) hx hb dX3_longQuotient_64 rfl ?_
            refine lv_topl (fun v8 ev8 => ?_)
            refine lv_lstore (lv' := [(9, .long v8), (7, .long v7), (12, .int v4), (0, .ref (a 0)), (1, .long p0), (3, .long p1), (5, .long p2), (11, .int w11)]) hx hb dX3_longQuotient_65 hl (by decide) rfl (fun ls hl => ?_)
            refine lv_iload hx hb dX3_longQuotient_67 (lv_at hl 2 rfl) ?_
            obtain ⟨z12, ez12⟩ : ∃ q : Int64 × Int64, q = (if v4 = (0 : Int32) then if (f_X2_isAbove p2 v7) = (0 : Int32) then let v17 : Int64 := v7 - p2; let v18 : Int64 := v8 ||| (1 : Int64); (v17, v18) else (v7, v8) else let v14 : Int64 := v7 - p2; let v15 : Int64 := v8 ||| (1 : Int64); (v14, v15)) := ⟨_, rfl⟩
            have k13 : ∀ (v10 : Int64) (v11 : Int64), (v10, v11) = z12 → ∀ (H : Heap) (locs : List Loc), va_P G vwCl (wX yy a u) H → va_D A (wX yy a u) → va_S A s.heap H locs → ∀ ls : Array Slot, lv_has ls 13 [(0, .ref (a 0)), (1, .long p0), (3, .long p1), (5, .long p2), (7, .long v10), (9, .long v11), (11, .int w11), (12, .int v4)] → W p l e rm_X3_longQuotient s m args below meth c H locs 0 0 (MQ below (gQl (wX yy a) (f_X3_longQuotient u p0 p1 p2) G A) args s 0 0 A) (F0 m 95 ls []) := by
              intro v10 v11 jz12 H locs hP hD hS ls hl
              have ev10 : v10 = z12.1 := congrArg (fun q => q.1) jz12
              have ev11 : v11 = z12.2 := congrArg (fun q => q.2) jz12
              obtain ⟨v19, ev19⟩ : ∃ y : Int32, y = w11 + (-1 : Int32) := ⟨_, rfl⟩
              refine lv_iinc (v := v19) (lv' := [(11, .int v19), (0, .ref (a 0)), (1, .long p0), (3, .long p1), (5, .long p2), (7, .long v10), (9, .long v11), (12, .int v4)]) hx hb dX3_longQuotient_95 hl (k := 6) rfl (by rw [ev19]; rfl) (by decide) rfl (fun ls hl => ?_)
              refine lv_goto (tgt := 29) hx hb dX3_longQuotient_98 (by decide) ?_
              have hn : lf_X3_longQuotient_29 u p0 p1 p2 (n + 1) w7 w9 w11 = lf_X3_longQuotient_29 u p0 p1 p2 n v10 v11 v19 := (by have ev19 := ev19.symm; subst ev19; have ev11 := ev11.symm; subst ev11; have ev10 := ev10.symm; subst ev10; have ez12 := ez12.symm; subst ez12; have ev8 := ev8.symm; subst ev8; have ev7 := ev7.symm; subst ev7; have ev4 := ev4.symm; subst ev4; have ez5 := ez5.symm; subst ez5; exact (if_neg c2).trans (rfl))
              rw [hn] at kx
              exact ih v10 v11 v19 (by have ev19 := ev19.symm; subst ev19; have ev11 := ev11.symm; subst ev11; have ev10 := ev10.symm; subst ev10; have ez12 := ez12.symm; subst ez12; have ev8 := ev8.symm; subst ev8; have ev7 := ev7.symm; subst ev7; have ev4 := ev4.symm; subst ev4; have ez5 := ez5.symm; subst ez5; exact down_next (N := 65) (by decide) hI c2) _ _ hP hD hS ls (lv_sub hl [5, 6, 0, 1, 2, 3, 4] rfl) kx
            refine lv_if_ne (tgt := 82) hx hb dX3_longQuotient_69 (by decide) (fun c9 => ?_) (fun c9 => ?_)
            · refine lv_lload hx hb dX3_longQuotient_82 (lv_at hl 1 rfl) ?_
              refine lv_lload hx hb dX3_longQuotient_84 (lv_at hl 6 rfl) ?_
              refine lv_lsub hx hb dX3_longQuotient_86 ?_
              refine lv_topl (fun v14 ev14 => ?_)
              refine lv_lstore (lv' := [(7, .long v14), (9, .long v8), (12, .int v4), (0, .ref (a 0)), (1, .long p0), (3, .long p1), (5, .long p2), (11, .int w11)]) hx hb dX3_longQuotient_87 hl (by decide) rfl (fun ls hl => ?_)
              refine lv_lload hx hb dX3_longQuotient_89 (lv_at hl 1 rfl) ?_
              refine lv_lconst (v := 1) hx hb dX3_longQuotient_91 (by decide) ?_
              refine lv_lor hx hb dX3_longQuotient_92 ?_
              refine lv_topl (fun v15 ev15 => ?_)
              refine lv_lstore (lv' := [(9, .long v15), (7, .long v14), (12, .int v4), (0, .ref (a 0)), (1, .long p0), (3, .long p1), (5, .long p2), (11, .int w11)]) hx hb dX3_longQuotient_93 hl (by decide) rfl (fun ls hl => ?_)
              exact k13 v14 v15 (ez12.trans (by have ev15 := ev15.symm; subst ev15; have ev14 := ev14.symm; subst ev14; exact (if_neg c9).trans (rfl))).symm _ _ hP hD hS ls (lv_sub hl [3, 4, 5, 6, 1, 0, 7, 2] rfl)
            · refine lv_lload hx hb dX3_longQuotient_72 (lv_at hl 6 rfl) ?_
              refine lv_lload hx hb dX3_longQuotient_74 (lv_at hl 1 rfl) ?_
              refine p_i (g_run (va_runSN (As := [.long p2, .long v7]) (rest := []) ⟨hx, hb, hml, hown, hts⟩ (c_X2_isAbove l p2 v7 ) ⟨va_cnB 2 hts gX3_longQuotient_X2_isAbove_n228 rfl rfl rfl (hE.1 (228, yX2_isAbove) (by decide +kernel)) (hts (.initialized RX2) (by decide +kernel)) (by decide +kernel) ⟨Nat.le_of_ble_eq_true rfl, Nat.le_of_ble_eq_true rfl⟩, (hts (.static yX2_isAbove) (by decide +kernel)), trivial⟩ p_preT rfl rfl hl.1 rfl (lv_room (Nat.le_of_ble_eq_true rfl)) dX3_longQuotient_76 ⟨Nat.le_of_ble_eq_true rfl, Nat.le_of_ble_eq_true rfl⟩)) ?_
              refine lv_if_ne (tgt := 95) hx hb dX3_longQuotient_79 (by decide) (fun c16 => ?_) (fun c16 => ?_)
              · exact k13 v7 v8 (ez12.trans (by exact (if_pos c9).trans ((if_neg c16).trans (rfl)))).symm _ _ hP hD hS ls (lv_sub hl [3, 4, 5, 6, 1, 0, 7, 2] rfl)
              · refine lv_lload hx hb dX3_longQuotient_82 (lv_at hl 1 rfl) ?_
                refine lv_lload hx hb dX3_longQuotient_84 (lv_at hl 6 rfl) ?_
                refine lv_lsub hx hb dX3_longQuotient_86 ?_
                refine lv_topl (fun v17 ev17 => ?_)
                refine lv_lstore (lv' := [(7, .long v17), (9, .long v8), (12, .int v4), (0, .ref (a 0)), (1, .long p0), (3, .long p1), (5, .long p2), (11, .int w11)]) hx hb dX3_longQuotient_87 hl (by decide) rfl (fun ls hl => ?_)
                refine lv_lload hx hb dX3_longQuotient_89 (lv_at hl 1 rfl) ?_
                refine lv_lconst (v := 1) hx hb dX3_longQuotient_91 (by decide) ?_
                refine lv_lor hx hb dX3_longQuotient_92 ?_
                refine lv_topl (fun v18 ev18 => ?_)
                refine lv_lstore (lv' := [(9, .long v18), (7, .long v17), (12, .int v4), (0, .ref (a 0)), (1, .long p0), (3, .long p1), (5, .long p2), (11, .int w11)]) hx hb dX3_longQuotient_93 hl (by decide) rfl (fun ls hl => ?_)
                exact k13 v17 v18 (ez12.trans (by have ev18 := ev18.symm; subst ev18; have ev17 := ev17.symm; subst ev17; exact (if_pos c9).trans ((if_pos c16).trans (rfl)))).symm _ _ hP hD hS ls (lv_sub hl [3, 4, 5, 6, 1, 0, 7, 2] rfl)
          refine lc_ge (tgt := 45) hx hb dX3_longQuotient_37 dX3_longQuotient_38 (by decide) (fun c3 => ?_) (fun c3 => ?_)
          · refine lv_iconst (v := 0) hx hb dX3_longQuotient_45 (by decide) ?_
            exact k6 (0 : Int32) (ez5.trans (by exact (if_pos c3).trans (rfl))).symm _ _ hP hD hS ls (lv_sub hl [3, 4, 5, 6, 0, 1, 2] rfl)
          · refine lv_iconst (v := 1) hx hb dX3_longQuotient_41 (by decide) ?_
            refine lv_goto (tgt := 46) hx hb dX3_longQuotient_42 (by decide) ?_
            exact k6 (1 : Int32) (ez5.trans (by exact (if_neg c3).trans (rfl))).symm _ _ hP hD hS ls (lv_sub hl [3, 4, 5, 6, 0, 1, 2] rfl)
    refine loop29 65 p0 (0 : Int64) (63 : Int32) (⟨by decide, by decide, by decide⟩) _ _ hP hD hS ls (lv_sub hl [2, 1, 0, 3, 4, 5, 6] rfl) ?_
    intro H locs hP hD hS ls hl
    obtain ⟨v20, ev20⟩ : ∃ z, z = (lf_X3_longQuotient_29 u p0 p1 p2 65 p0 (0 : Int64) (63 : Int32)).1 := ⟨_, rfl⟩
    obtain ⟨v21, ev21⟩ : ∃ z, z = (lf_X3_longQuotient_29 u p0 p1 p2 65 p0 (0 : Int64) (63 : Int32)).2.1 := ⟨_, rfl⟩
    obtain ⟨v22, ev22⟩ : ∃ z, z = (lf_X3_longQuotient_29 u p0 p1 p2 65 p0 (0 : Int64) (63 : Int32)).2.2 := ⟨_, rfl⟩
    have hl : lv_has ls 13 [(7, .long v20), (9, .long v21), (11, .int v22), (0, .ref (a 0)), (1, .long p0), (3, .long p1), (5, .long p2)] := by rw [ev20, ev21, ev22]; exact hl
    refine lv_aload_n hx hb dX3_longQuotient_101 rfl (lv_at hl 3 rfl) ?_
    refine va_get (D := G) (ci := 1) (v := .ref (a 2)) (C := RX3) (T := TX3) (N := 12) hx hb hts iw_X3_longQuotient_X3 hown hK hP 0 rfl rfl 1 (by decide) (hts (.fieldLink RX3 13 "MixBench" "specials" "[J") (by decide +kernel)) (fun _ h9 => h9) rfl dX3_longQuotient_102 ?_
    refine lv_bipush (v := 6) hx hb dX3_longQuotient_105 (by decide) ?_
    refine lv_lload hx hb dX3_longQuotient_107 (lv_at hl 0 rfl) ?_
    refine va_last hx hb hK hP hD hS 2 0 rfl rfl (by unfold vp_in; decide) dX3_longQuotient_109 (fun H locs hP hD hS => ?_)
    obtain ⟨u23, eu23⟩ : ∃ z, z = sx_sp u (vp_updL (x_sp u) (6 : Int32).toNatClampNeg v20) := ⟨_, rfl⟩
    have hP : va_P G vwCl (wX yy a u23) H := by rw [eu23]; exact hP
    have hD : va_D A (wX yy a u23) := by rw [eu23]; exact hD
    refine lv_lload hx hb dX3_longQuotient_110 (lv_at hl 1 rfl) ?_
    exact g_lret (by have eu23 := eu23.symm; subst eu23; have ev22 := ev22.symm; subst ev22; have ev21 := ev21.symm; subst ev21; have ev20 := ev20.symm; subst ev20; exact (if_neg c1).trans (rfl)) hx hb hr hP hD hS hlocks dX3_longQuotient_112
  · refine lv_aload_n hx hb dX3_longQuotient_9 rfl (lv_at hl 0 rfl) ?_
    refine va_get (D := G) (ci := 1) (v := .ref (a 2)) (C := RX3) (T := TX3) (N := 12) hx hb hts iw_X3_longQuotient_X3 hown hK hP 0 rfl rfl 1 (by decide) (hts (.fieldLink RX3 13 "MixBench" "specials" "[J") (by decide +kernel)) (fun _ h9 => h9) rfl dX3_longQuotient_10 ?_
    refine lv_bipush (v := 6) hx hb dX3_longQuotient_13 (by decide) ?_
    refine lv_lload_n hx hb dX3_longQuotient_15 rfl (lv_at hl 2 rfl) ?_
    refine va_last hx hb hK hP hD hS 2 0 rfl rfl (by unfold vp_in; decide) dX3_longQuotient_16 (fun H locs hP hD hS => ?_)
    obtain ⟨u24, eu24⟩ : ∃ z, z = sx_sp u (vp_updL (x_sp u) (6 : Int32).toNatClampNeg p1) := ⟨_, rfl⟩
    have hP : va_P G vwCl (wX yy a u24) H := by rw [eu24]; exact hP
    have hD : va_D A (wX yy a u24) := by rw [eu24]; exact hD
    refine lv_lload_n hx hb dX3_longQuotient_17 rfl (lv_at hl 1 rfl) ?_
    exact g_lret (by have eu24 := eu24.symm; subst eu24; exact (if_pos c1).trans (rfl)) hx hb hr hP hD hS hlocks dX3_longQuotient_18
