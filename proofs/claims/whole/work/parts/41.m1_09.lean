def lf_X4_quotientOf_43 (u0 : MS) (q1 : Int64) (q3 : Int64) : Nat → Int64 → Int64 → Int32 → Int64 × Int64 × Int32
  | 0, w5, w7, w9 => (w5, w7, w9)
  | n + 1, w5, w7, w9 =>
    if w9 < (0 : Int32) then
      (w5, w7, w9)
    else
      let z6 : Int32 := (if (0 : Int64) ≤ w5 then (0 : Int32) else (1 : Int32));
      let v5 : Int32 := z6;
      let v8 : Int64 := (jlshl w5 (1 : Int32)) ||| ((jlushr q1 w9) &&& (1 : Int64));
      let v9 : Int64 := jlshl w7 (1 : Int32);
      let z13 : Int64 × Int64 := (if v5 = (0 : Int32) then if (f_X4_above q3 v8) = (0 : Int32) then let v18 : Int64 := v8 - q3; let v19 : Int64 := v9 ||| (1 : Int64); (v18, v19) else (v8, v9) else let v15 : Int64 := v8 - q3; let v16 : Int64 := v9 ||| (1 : Int64); (v15, v16));
      let v11 : Int64 := z13.1;
      let v12 : Int64 := z13.2;
      let v20 : Int32 := w9 + (-1 : Int32);
      lf_X4_quotientOf_43 u0 q1 q3 n v11 v12 v20
def f_X4_quotientOf (u : MS) (p0 : Int64) (p1 : Int64) : Int64 × MS :=
  if (f_X4_above p1 (m_sp u (1 : Int32).toNatClampNeg)) = (0 : Int32) then
    let u25 : MS := sm_sp u (vp_updL (m_sp u) (6 : Int32).toNatClampNeg p0);
    (m_sp u25 (1 : Int32).toNatClampNeg, u25)
  else
    let v2 : Int64 := m_sp u (1 : Int32).toNatClampNeg;
    let v21 : Int64 := (lf_X4_quotientOf_43 u p0 p1 65 v2 (0 : Int64) (63 : Int32)).1;
    let v22 : Int64 := (lf_X4_quotientOf_43 u p0 p1 65 v2 (0 : Int64) (63 : Int32)).2.1;
    let v23 : Int32 := (lf_X4_quotientOf_43 u p0 p1 65 v2 (0 : Int64) (63 : Int32)).2.2;
    let u24 : MS := sm_sp u (vp_updL (m_sp u) (6 : Int32).toNatClampNeg v21);
    (v22, u24)
abbrev rm_X4_quotientOf : Room := { frames := 1, cells := 0, slots := 0, locals := 23 }
set_option maxRecDepth 20000 in
theorem iw_X4_quotientOf_X4 : ∀ w ∈ wsX40, w ∈ wsX4_quotientOf := by decide +kernel
set_option maxHeartbeats 4000000 in
set_option maxRecDepth 100000 in
theorem c_X4_quotientOf (l : Launch) (yy : Nat → ClassId) (a : Nat → Nat) (u : MS) (p0 : Int64) (p1 : Int64) : gMl l yX4_quotientOf wsX4_quotientOf rm_X4_quotientOf eTrue (sT yy) (wM yy a) [.ref (a 0), .long p0, .long p1] u (f_X4_quotientOf u p0 p1) := by
  refine gm_ofW (Qc := gQl (wM yy a) (f_X4_quotientOf u p0 p1)) (by decide) rfl (Nat.le_of_ble_eq_true rfl) ?_
  intro G A p e s m args below meth c hx hb hr hml hts hown hlocks hK hE hA H locs hP hD hS ls hl
  have hl : lv_has ls 11 [(0, .ref (a 0)), (1, .long p0), (3, .long p1)] := hl
  refine lv_lload_n hx hb dX4_quotientOf_0 rfl (lv_at hl 2 rfl) ?_
  refine lv_aload_n hx hb dX4_quotientOf_1 rfl (lv_at hl 0 rfl) ?_
  refine va_get (D := G) (ci := 2) (v := .ref (a 2)) (C := RX4) (T := TX4) (N := 17) hx hb hts iw_X4_quotientOf_X4 hown hK hP 0 rfl rfl 2 (by decide) (hts (.fieldLink RX4 13 "MixBenchModel" "special" "[J") (by decide +kernel)) (fun _ h9 => h9) rfl dX4_quotientOf_2 ?_
  refine lv_iconst (v := 1) hx hb dX4_quotientOf_5 (by decide) ?_
  refine va_lald hx hb hK hP 2 0 rfl rfl (by unfold vp_in; decide) dX4_quotientOf_6 ?_
  refine p_i (W.runS (As := [.long p1, .long (m_sp u (1 : Int32).toNatClampNeg)]) (rest := []) ⟨hx, hb, hml, hown, hts⟩ (c_X4_above l p1 (m_sp u (1 : Int32).toNatClampNeg) ) (va_cwS 2 hts gX4_quotientOf_X4_above rfl rfl rfl (by decide +kernel) ⟨Nat.le_of_ble_eq_true rfl, Nat.le_of_ble_eq_true rfl⟩) p_preT rfl rfl hl.1 rfl (lv_room (Nat.le_of_ble_eq_true rfl)) dX4_quotientOf_7 ⟨Nat.le_of_ble_eq_true rfl, Nat.le_of_ble_eq_true rfl⟩) ?_
  refine lv_if_ne (tgt := 28) hx hb dX4_quotientOf_10 (by decide) (fun c1 => ?_) (fun c1 => ?_)
  · refine lv_aload_n hx hb dX4_quotientOf_28 rfl (lv_at hl 0 rfl) ?_
    refine va_get (D := G) (ci := 2) (v := .ref (a 2)) (C := RX4) (T := TX4) (N := 17) hx hb hts iw_X4_quotientOf_X4 hown hK hP 0 rfl rfl 2 (by decide) (hts (.fieldLink RX4 13 "MixBenchModel" "special" "[J") (by decide +kernel)) (fun _ h9 => h9) rfl dX4_quotientOf_29 ?_
    refine lv_iconst (v := 1) hx hb dX4_quotientOf_32 (by decide) ?_
    refine va_lald hx hb hK hP 2 0 rfl rfl (by unfold vp_in; decide) dX4_quotientOf_33 ?_
    refine lv_topl (fun v2 ev2 => ?_)
    refine lv_lstore (lv' := [(5, .long v2), (0, .ref (a 0)), (1, .long p0), (3, .long p1)]) hx hb dX4_quotientOf_34 hl (by decide) rfl (fun ls hl => ?_)
    refine lv_lconst (v := 0) hx hb dX4_quotientOf_36 (by decide) ?_
    refine lv_lstore (lv' := [(7, .long (0 : Int64)), (5, .long v2), (0, .ref (a 0)), (1, .long p0), (3, .long p1)]) hx hb dX4_quotientOf_37 hl (by decide) rfl (fun ls hl => ?_)
    refine lv_bipush (v := 63) hx hb dX4_quotientOf_39 (by decide) ?_
    refine lv_istore (lv' := [(9, .int (63 : Int32)), (7, .long (0 : Int64)), (5, .long v2), (0, .ref (a 0)), (1, .long p0), (3, .long p1)]) hx hb dX4_quotientOf_41 hl (by decide) rfl (fun ls hl => ?_)
    have loop43 : ∀ (n : Nat) (w5 : Int64) (w7 : Int64) (w9 : Int32), w9 + 1 = nI (n - 1) ∧ 0 < n ∧ n ≤ 65 → ∀ (H : Heap) (locs : List Loc), va_P G vwCl (wM yy a u) H → va_D A (wM yy a u) → va_S A s.heap H locs → ∀ ls : Array Slot, lv_has ls 11 [(5, .long w5), (7, .long w7), (9, .int w9), (0, .ref (a 0)), (1, .long p0), (3, .long p1)] → (∀ (H : Heap) (locs : List Loc), va_P G vwCl (wM yy a u) H → va_D A (wM yy a u) → va_S A s.heap H locs → ∀ ls : Array Slot, lv_has ls 11 [(5, .long ((lf_X4_quotientOf_43 u p0 p1 n w5 w7 w9).1)), (7, .long ((lf_X4_quotientOf_43 u p0 p1 n w5 w7 w9).2.1)), (9, .int ((lf_X4_quotientOf_43 u p0 p1 n w5 w7 w9).2.2)), (0, .ref (a 0)), (1, .long p0), (3, .long p1)] → W p l e rm_X4_quotientOf s m args below meth c H locs 0 0 (MQ below (gQl (wM yy a) (f_X4_quotientOf u p0 p1) G A) args s 0 0 A) (F0 m 116 ls [])) → W p l e rm_X4_quotientOf s m args below meth c H locs 0 0 (MQ below (gQl (wM yy a) (f_X4_quotientOf u p0 p1) G A) args s 0 0 A) (F0 m 43 ls []) := by
      intro n
      induction n with
      | zero =>
        intro w5 w7 w9 hI
        exact absurd hI (fun h => Nat.lt_irrefl 0 h.2.1)
      | succ n ih =>
        intro w5 w7 w9 hI H locs hP hD hS ls hl kx
        refine lv_iload hx hb dX4_quotientOf_43 (lv_at hl 2 rfl) ?_
        refine lv_if_lt (tgt := 116) hx hb dX4_quotientOf_45 (by decide) (fun c3 => ?_) (fun c3 => ?_)
        · have hn : lf_X4_quotientOf_43 u p0 p1 (n + 1) w5 w7 w9 = (w5, w7, w9) := (by exact (if_pos c3).trans (rfl))
          rw [hn] at kx
          exact kx _ _ hP hD hS ls (lv_sub hl [0, 1, 2, 3, 4, 5] rfl)
        · refine lv_lload hx hb dX4_quotientOf_48 (lv_at hl 0 rfl) ?_
          refine lv_lconst (v := 0) hx hb dX4_quotientOf_50 (by decide) ?_
          obtain ⟨z6, ez6⟩ : ∃ q : Int32, q = (if (0 : Int64) ≤ w5 then (0 : Int32) else (1 : Int32)) := ⟨_, rfl⟩
          have k7 : ∀ (v5 : Int32), v5 = z6 → ∀ (H : Heap) (locs : List Loc), va_P G vwCl (wM yy a u) H → va_D A (wM yy a u) → va_S A s.heap H locs → ∀ ls : Array Slot, lv_has ls 11 [(0, .ref (a 0)), (1, .long p0), (3, .long p1), (5, .long w5), (7, .long w7), (9, .int w9)] → W p l e rm_X4_quotientOf s m args below meth c H locs 0 0 (MQ below (gQl (wM yy a) (f_X4_quotientOf u p0 p1) G A) args s 0 0 A) (F0 m 60 ls [.int v5]) := by
            intro v5 jz6 H locs hP hD hS ls hl
            have ev5 : v5 = z6 := jz6
            refine lv_istore (lv' := [(10, .int v5), (0, .ref (a 0)), (1, .long p0), (3, .long p1), (5, .long w5), (7, .long w7), (9, .int w9)]) hx hb dX4_quotientOf_60 hl (by decide) rfl (fun ls hl => ?_)
            refine lv_lload hx hb dX4_quotientOf_62 (lv_at hl 4 rfl) ?_
            refine lv_iconst (v := 1) hx hb dX4_quotientOf_64 (by decide) ?_
            refine lv_lshl (v := jlshl w5 (1 : Int32)) hx hb dX4_quotientOf_65 rfl ?_
            refine lv_lload_n hx hb dX4_quotientOf_66 rfl (lv_at hl 2 rfl) ?_
            refine lv_iload hx hb dX4_quotientOf_67 (lv_at hl 6 rfl) ?_
            refine lv_lushr (v := jlushr p0 w9) hx hb dX4_quotientOf_69 rfl ?_
            refine lv_lconst (v := 1) hx hb dX4_quotientOf_70 (by decide) ?_
            refine lv_land hx hb dX4_quotientOf_71 ?_
            refine lv_lor hx hb dX4_quotientOf_72 ?_
            refine lv_topl (fun v8 ev8 => ?_)
            refine lv_lstore (lv' := [(5, .long v8), (10, .int v5), (0, .ref (a 0)), (1, .long p0), (3, .long p1), (7, .long w7), (9, .int w9)]) hx hb dX4_quotientOf_73 hl (by decide) rfl (fun ls hl => ?_)
            refine lv_lload hx hb dX4_quotientOf_75 (lv_at hl 5 rfl) ?_
            refine lv_iconst (v := 1) hx hb dX4_quotientOf_77 (by decide) ?_
            refine lv_lshl (v := jlshl w7 (1 : Int32)) hx hb dX4_quotientOf_78 rfl ?_
            refine lv_topl (fun v9 ev9 => ?_)
            refine lv_lstore (lv' := [(7, .long v9), (5, .long v8), (10, .int v5), (0, .ref (a 0)), (1, .long p0), (3, .long p1), (9, .int w9)]) hx hb dX4_quotientOf_79 hl (by decide) rfl (fun ls hl => ?_)
            refine lv_iload hx hb dX4_quotientOf_81 (lv_at hl 2 rfl) ?_
            obtain ⟨z13, ez13⟩ : ∃ q : Int64 × Int64, q = (if v5 = (0 : Int32) then if (f_X4_above p1 v8) = (0 : Int32) then let v18 : Int64 := v8 - p1; let v19 : Int64 := v9 ||| (1 : Int64); (v18, v19) else (v8, v9) else let v15 : Int64 := v8 - p1; let v16 : Int64 := v9 ||| (1 : Int64); (v15, v16)) := ⟨_, rfl⟩
            have k14 : ∀ (v11 : Int64) (v12 : Int64), (v11, v12) = z13 → ∀ (H : Heap) (locs : List Loc), va_P G vwCl (wM yy a u) H → va_D A (wM yy a u) → va_S A s.heap H locs → ∀ ls : Array Slot, lv_has ls 11 [(0, .ref (a 0)), (1, .long p0), (3, .long p1), (5, .long v11), (7, .long v12), (9, .int w9), (10, .int v5)] → W p l e rm_X4_quotientOf s m args below meth c H locs 0 0 (MQ below (gQl (wM yy a) (f_X4_quotientOf u p0 p1) G A) args s 0 0 A) (F0 m 110 ls []) := by
              intro v11 v12 jz13 H locs hP hD hS ls hl
              have ev11 : v11 = z13.1 := congrArg (fun q => q.1) jz13
              have ev12 : v12 = z13.2 := congrArg (fun q => q.2) jz13
              obtain ⟨v20, ev20⟩ : ∃ y : Int32, y = w9 + (-1 : Int32) := ⟨_, rfl⟩
              refine lv_iinc (v := v20) (lv' := [(9, .int v20), (0, .ref (a 0)), (1, .long p0), (3, .long p1), (5, .long v11), (7, .long v12), (10, .int v5)]) hx hb dX4_quotientOf_110 hl (k := 5) rfl (by rw [ev20]; rfl) (by decide) rfl (fun ls hl => ?_)
              refine lv_goto (tgt := 43) hx hb dX4_quotientOf_113 (by decide) ?_
              have hn : lf_X4_quotientOf_43 u p0 p1 (n + 1) w5 w7 w9 = lf_X4_quotientOf_43 u p0 p1 n v11 v12 v20 := (by have ev20 := ev20.symm; subst ev20; have ev12 := ev12.symm; subst ev12; have ev11 := ev11.symm; subst ev11; have ez13 := ez13.symm; subst ez13; have ev9 := ev9.symm; subst ev9; have ev8 := ev8.symm; subst ev8; have ev5 := ev5.symm; subst ev5; have ez6 := ez6.symm; subst ez6; exact (if_neg c3).trans (rfl))
              rw [hn] at kx
              exact ih v11 v12 v20 (by have ev20 := ev20.symm; subst ev20; have ev12 := ev12.symm; subst ev12; have ev11 := ev11.symm; subst ev11; have ez13 := ez13.symm; subst ez13; have ev9 := ev9.symm; subst ev9; have ev8 := ev8.symm; subst ev8; have ev5 := ev5.symm; subst ev5; have ez6 := ez6.symm; subst ez6; have ev2 := ev2.symm; subst ev2; exact down_next (N := 65) (by decide) hI c3) _ _ hP hD hS ls (lv_sub hl [4, 5, 0, 1, 2, 3] rfl) kx
            refine lv_if_ne (tgt := 98) hx hb dX4_quotientOf_83 (by decide) (fun c10 => ?_) (fun c10 => ?_)
            · refine lv_lload hx hb dX4_quotientOf_98 (lv_at hl 1 rfl) ?_
              refine lv_lload_n hx hb dX4_quotientOf_100 rfl (lv_at hl 5 rfl) ?_
              refine lv_lsub hx hb dX4_quotientOf_101 ?_
              refine lv_topl (fun v15 ev15 => ?_)
              refine lv_lstore (lv' := [(5, .long v15), (7, .long v9), (10, .int v5), (0, .ref (a 0)), (1, .long p0), (3, .long p1), (9, .int w9)]) hx hb dX4_quotientOf_102 hl (by decide) rfl (fun ls hl => ?_)
              refine lv_lload hx hb dX4_quotientOf_104 (lv_at hl 1 rfl) ?_
              refine lv_lconst (v := 1) hx hb dX4_quotientOf_106 (by decide) ?_
              refine lv_lor hx hb dX4_quotientOf_107 ?_
              refine lv_topl (fun v16 ev16 => ?_)
              refine lv_lstore (lv' := [(7, .long v16), (5, .long v15), (10, .int v5), (0, .ref (a 0)), (1, .long p0), (3, .long p1), (9, .int w9)]) hx hb dX4_quotientOf_108 hl (by decide) rfl (fun ls hl => ?_)
              exact k14 v15 v16 (ez13.trans (by have ev16 := ev16.symm; subst ev16; have ev15 := ev15.symm; subst ev15; exact (if_neg c10).trans (rfl))).symm _ _ hP hD hS ls (lv_sub hl [3, 4, 5, 1, 0, 6, 2] rfl)
            · refine lv_lload_n hx hb dX4_quotientOf_86 rfl (lv_at hl 5 rfl) ?_
              refine lv_lload hx hb dX4_quotientOf_87 (lv_at hl 1 rfl) ?_
              refine p_i (W.runS (As := [.long p1, .long v8]) (rest := []) ⟨hx, hb, hml, hown, hts⟩ (c_X4_above l p1 v8 ) (va_cwS 2 hts gX4_quotientOf_X4_above rfl rfl rfl (by decide +kernel) ⟨Nat.le_of_ble_eq_true rfl, Nat.le_of_ble_eq_true rfl⟩) p_preT rfl rfl hl.1 rfl (lv_room (Nat.le_of_ble_eq_true rfl)) dX4_quotientOf_89 ⟨Nat.le_of_ble_eq_true rfl, Nat.le_of_ble_eq_true rfl⟩) ?_
              refine lv_if_eq (tgt := 98) hx hb dX4_quotientOf_92 (by decide) (fun c17 => ?_) (fun c17 => ?_)
              · refine lv_lload hx hb dX4_quotientOf_98 (lv_at hl 1 rfl) ?_
                refine lv_lload_n hx hb dX4_quotientOf_100 rfl (lv_at hl 5 rfl) ?_
                refine lv_lsub hx hb dX4_quotientOf_101 ?_
                refine lv_topl (fun v18 ev18 => ?_)
                refine lv_lstore (lv' := [(5, .long v18), (7, .long v9), (10, .int v5), (0, .ref (a 0)), (1, .long p0), (3, .long p1), (9, .int w9)]) hx hb dX4_quotientOf_102 hl (by decide) rfl (fun ls hl => ?_)
                refine lv_lload hx hb dX4_quotientOf_104 (lv_at hl 1 rfl) ?_
                refine lv_lconst (v := 1) hx hb dX4_quotientOf_106 (by decide) ?_
                refine lv_lor hx hb dX4_quotientOf_107 ?_
                refine lv_topl (fun v19 ev19 => ?_)
                refine lv_lstore (lv' := [(7, .long v19), (5, .long v18), (10, .int v5), (0, .ref (a 0)), (1, .long p0), (3, .long p1), (9, .int w9)]) hx hb dX4_quotientOf_108 hl (by decide) rfl (fun ls hl => ?_)
                exact k14 v18 v19 (ez13.trans (by have ev19 := ev19.symm; subst ev19; have ev18 := ev18.symm; subst ev18; exact (if_pos c10).trans ((if_pos c17).trans (rfl)))).symm _ _ hP hD hS ls (lv_sub hl [3, 4, 5, 1, 0, 6, 2] rfl)
              · refine lv_goto (tgt := 110) hx hb dX4_quotientOf_95 (by decide) ?_
                exact k14 v8 v9 (ez13.trans (by exact (if_pos c10).trans ((if_neg c17).trans (rfl)))).symm _ _ hP hD hS ls (lv_sub hl [3, 4, 5, 1, 0, 6, 2] rfl)
          refine lc_ge (tgt := 59) hx hb dX4_quotientOf_51 dX4_quotientOf_52 (by decide) (fun c4 => ?_) (fun c4 => ?_)
          · refine lv_iconst (v := 0) hx hb dX4_quotientOf_59 (by decide) ?_
            exact k7 (0 : Int32) (ez6.trans (by exact (if_pos c4).trans (rfl))).symm _ _ hP hD hS ls (lv_sub hl [3, 4, 5, 0, 1, 2] rfl)
          · refine lv_iconst (v := 1) hx hb dX4_quotientOf_55 (by decide) ?_
            refine lv_goto (tgt := 60) hx hb dX4_quotientOf_56 (by decide) ?_
            exact k7 (1 : Int32) (ez6.trans (by exact (if_neg c4).trans (rfl))).symm _ _ hP hD hS ls (lv_sub hl [3, 4, 5, 0, 1, 2] rfl)
    refine loop43 65 v2 (0 : Int64) (63 : Int32) (⟨by decide, by decide, by decide⟩) _ _ hP hD hS ls (lv_sub hl [2, 1, 0, 3, 4, 5] rfl) ?_
    intro H locs hP hD hS ls hl
    obtain ⟨v21, ev21⟩ : ∃ z, z = (lf_X4_quotientOf_43 u p0 p1 65 v2 (0 : Int64) (63 : Int32)).1 := ⟨_, rfl⟩
    obtain ⟨v22, ev22⟩ : ∃ z, z = (lf_X4_quotientOf_43 u p0 p1 65 v2 (0 : Int64) (63 : Int32)).2.1 := ⟨_, rfl⟩
    obtain ⟨v23, ev23⟩ : ∃ z, z = (lf_X4_quotientOf_43 u p0 p1 65 v2 (0 : Int64) (63 : Int32)).2.2 := ⟨_, rfl⟩
    have hl : lv_has ls 11 [(5, .long v21), (7, .long v22), (9, .int v23), (0, .ref (a 0)), (1, .long p0), (3, .long p1)] := by rw [ev21, ev22, ev23]; exact hl
    refine lv_aload_n hx hb dX4_quotientOf_116 rfl (lv_at hl 3 rfl) ?_
    refine va_get (D := G) (ci := 2) (v := .ref (a 2)) (C := RX4) (T := TX4) (N := 17) hx hb hts iw_X4_quotientOf_X4 hown hK hP 0 rfl rfl 2 (by decide) (hts (.fieldLink RX4 13 "MixBenchModel" "special" "[J") (by decide +kernel)) (fun _ h9 => h9) rfl dX4_quotientOf_117 ?_
    refine lv_bipush (v := 6) hx hb dX4_quotientOf_120 (by decide) ?_
    refine lv_lload hx hb dX4_quotientOf_122 (lv_at hl 0 rfl) ?_
    refine va_last hx hb hK hP hD hS 2 0 rfl rfl (by unfold vp_in; decide) dX4_quotientOf_124 (fun H locs hP hD hS => ?_)
    obtain ⟨u24, eu24⟩ : ∃ z, z = sm_sp u (vp_updL (m_sp u) (6 : Int32).toNatClampNeg v21) := ⟨_, rfl⟩
    have hP : va_P G vwCl (wM yy a u24) H := by rw [eu24]; exact hP
    have hD : va_D A (wM yy a u24) := by rw [eu24]; exact hD
    refine lv_lload hx hb dX4_quotientOf_125 (lv_at hl 1 rfl) ?_
    exact g_lret (by have eu24 := eu24.symm; subst eu24; have ev23 := ev23.symm; subst ev23; have ev22 := ev22.symm; subst ev22; have ev21 := ev21.symm; subst ev21; have ev2 := ev2.symm; subst ev2; exact (if_neg c1).trans (rfl)) hx hb hr hP hD hS hlocks dX4_quotientOf_127
  · refine lv_aload_n hx hb dX4_quotientOf_13 rfl (lv_at hl 0 rfl) ?_
    refine va_get (D := G) (ci := 2) (v := .ref (a 2)) (C := RX4) (T := TX4) (N := 17) hx hb hts iw_X4_quotientOf_X4 hown hK hP 0 rfl rfl 2 (by decide) (hts (.fieldLink RX4 13 "MixBenchModel" "special" "[J") (by decide +kernel)) (fun _ h9 => h9) rfl dX4_quotientOf_14 ?_
    refine lv_bipush (v := 6) hx hb dX4_quotientOf_17 (by decide) ?_
    refine lv_lload_n hx hb dX4_quotientOf_19 rfl (lv_at hl 1 rfl) ?_
    refine va_last hx hb hK hP hD hS 2 0 rfl rfl (by unfold vp_in; decide) dX4_quotientOf_20 (fun H locs hP hD hS => ?_)
    obtain ⟨u25, eu25⟩ : ∃ z, z = sm_sp u (vp_updL (m_sp u) (6 : Int32).toNatClampNeg p0) := ⟨_, rfl⟩
    have hP : va_P G vwCl (wM yy a u25) H := by rw [eu25]; exact hP
    have hD : va_D A (wM yy a u25) := by rw [eu25]; exact hD
    refine lv_aload_n hx hb dX4_quotientOf_21 rfl (lv_at hl 0 rfl) ?_
    refine va_get (D := G) (ci := 2) (v := .ref (a 2)) (C := RX4) (T := TX4) (N := 17) hx hb hts iw_X4_quotientOf_X4 hown hK hP 0 rfl rfl 2 (by decide) (hts (.fieldLink RX4 13 "MixBenchModel" "special" "[J") (by decide +kernel)) (fun _ h9 => h9) rfl dX4_quotientOf_22 ?_
    refine lv_iconst (v := 1) hx hb dX4_quotientOf_25 (by decide) ?_
    refine va_lald hx hb hK hP 2 0 rfl rfl (by unfold vp_in; decide) dX4_quotientOf_26 ?_
    exact g_lret (by have eu25 := eu25.symm; subst eu25; exact (if_pos c1).trans (rfl)) hx hb hr hP hD hS hlocks dX4_quotientOf_27
