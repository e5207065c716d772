def lf_X4_matrix_19 (q0 : Int64) (q2 : Int64) (q4 : Int32) (q5 : Int64) (q7 : Int32) : Nat → Int64 → Int32 → Int64 × Int32
  | 0, w8, w10 => (w8, w10)
  | n + 1, w8, w10 =>
    if (8 : Int32) ≤ w10 then
      (w8, w10)
    else
      let z5 : Int64 := (if ((jlushr q2 ((((56 : Int32) - ((8 : Int32) * q7)) + (7 : Int32)) - w10)) &&& (1 : Int64)) = (0 : Int64) then w8 else let v7 : Int64 := (jlushr q0 ((56 : Int32) - ((8 : Int32) * w10))) &&& (255 : Int64); let z10 : Int64 := (if q4 = (0 : Int32) then w8 ||| v7 else w8 ^^^ v7); let v9 : Int64 := z10; v9);
      let v4 : Int64 := z5;
      let v12 : Int32 := w10 + (1 : Int32);
      lf_X4_matrix_19 q0 q2 q4 q5 q7 n v4 v12
def lf_X4_matrix_6 (q0 : Int64) (q2 : Int64) (q4 : Int32) : Nat → Int64 → Int32 → Int64 × Int32
  | 0, w5, w7 => (w5, w7)
  | n + 1, w5, w7 =>
    if (8 : Int32) ≤ w7 then
      (w5, w7)
    else
      let v13 : Int64 := (lf_X4_matrix_19 q0 q2 q4 w5 w7 (8 + 1) (0 : Int64) (0 : Int32)).1;
      let v14 : Int32 := (lf_X4_matrix_19 q0 q2 q4 w5 w7 (8 + 1) (0 : Int64) (0 : Int32)).2;
      let v15 : Int64 := (jlshl w5 (8 : Int32)) ||| v13;
      let v16 : Int32 := w7 + (1 : Int32);
      lf_X4_matrix_6 q0 q2 q4 n v15 v16
def f_X4_matrix (p0 : Int64) (p1 : Int64) (p2 : Int32) : Int64 :=
  let v17 : Int64 := (lf_X4_matrix_6 p0 p1 p2 (8 + 1) (0 : Int64) (0 : Int32)).1;
  let v18 : Int32 := (lf_X4_matrix_6 p0 p1 p2 (8 + 1) (0 : Int64) (0 : Int32)).2;
  v17
abbrev rm_X4_matrix : Room := { frames := 0, cells := 0, slots := 0, locals := 0 }
set_option maxHeartbeats 4000000 in
set_option maxRecDepth 100000 in
theorem c_X4_matrix (l : Launch) (p0 : Int64) (p1 : Int64) (p2 : Int32) : pMl l yX4_matrix wsX4_matrix rm_X4_matrix eTrue [.long p0, .long p1, .int p2] (f_X4_matrix p0 p1 p2) := by
  refine pm_ofW (by decide) rfl (Nat.le_of_ble_eq_true rfl) ?_
  intro p e s m args below meth c hx hb hr hml hts hown hlocks hE ls hl
  have hl : lv_has ls 13 [(0, .long p0), (2, .long p1), (4, .int p2)] := hl
  refine lv_lconst (v := 0) hx hb dX4_matrix_0 (by decide) ?_
  refine lv_lstore (lv' := [(5, .long (0 : Int64)), (0, .long p0), (2, .long p1), (4, .int p2)]) hx hb dX4_matrix_1 hl (by decide) rfl (fun ls hl => ?_)
  refine lv_iconst (v := 0) hx hb dX4_matrix_3 (by decide) ?_
  refine lv_istore (lv' := [(7, .int (0 : Int32)), (5, .long (0 : Int64)), (0, .long p0), (2, .long p1), (4, .int p2)]) hx hb dX4_matrix_4 hl (by decide) rfl (fun ls hl => ?_)
  have loop6 : ∀ (n : Nat) (w5 : Int64) (w7 : Int32), w7 = nI (8 + 1 - n) ∧ 0 < n ∧ n ≤ 8 + 1 → ∀ ls : Array Slot, lv_has ls 13 [(5, .long w5), (7, .int w7), (0, .long p0), (2, .long p1), (4, .int p2)] → (∀ ls : Array Slot, lv_has ls 13 [(5, .long ((lf_X4_matrix_6 p0 p1 p2 n w5 w7).1)), (7, .int ((lf_X4_matrix_6 p0 p1 p2 n w5 w7).2)), (0, .long p0), (2, .long p1), (4, .int p2)] → W p l e rm_X4_matrix s m args below meth c s.heap [] 0 0 (MQ below (vp_Sl (fun r => r = f_X4_matrix p0 p1 p2)) args s 0 0 (fun _ => False)) (F0 m 110 ls [])) → W p l e rm_X4_matrix s m args below meth c s.heap [] 0 0 (MQ below (vp_Sl (fun r => r = f_X4_matrix p0 p1 p2)) args s 0 0 (fun _ => False)) (F0 m 6 ls []) := by
    intro n
    induction n with
    | zero =>
      intro w5 w7 hI
      exact absurd hI (fun h => Nat.lt_irrefl 0 h.2.1)
    | succ n ih =>
      intro w5 w7 hI ls hl kx
      refine lv_iload hx hb dX4_matrix_6 (lv_at hl 1 rfl) ?_
      refine lv_bipush (v := 8) hx hb dX4_matrix_8 (by decide) ?_
      refine lv_icmp_ge (tgt := 110) hx hb dX4_matrix_10 (by decide) (fun c1 => ?_) (fun c1 => ?_)
      · have hn : lf_X4_matrix_6 p0 p1 p2 (n + 1) w5 w7 = (w5, w7) := (by exact (if_pos c1).trans (rfl))
        rw [hn] at kx
        exact kx ls (lv_sub hl [0, 1, 2, 3, 4] rfl)
      · refine lv_lconst (v := 0) hx hb dX4_matrix_13 (by decide) ?_
        refine lv_lstore (lv' := [(8, .long (0 : Int64)), (5, .long w5), (7, .int w7), (0, .long p0), (2, .long p1), (4, .int p2)]) hx hb dX4_matrix_14 hl (by decide) rfl (fun ls hl => ?_)
        refine lv_iconst (v := 0) hx hb dX4_matrix_16 (by decide) ?_
        refine lv_istore (lv' := [(10, .int (0 : Int32)), (8, .long (0 : Int64)), (5, .long w5), (7, .int w7), (0, .long p0), (2, .long p1), (4, .int p2)]) hx hb dX4_matrix_17 hl (by decide) rfl (fun ls hl => ?_)
        have loop19 : ∀ (n : Nat) (w8 : Int64) (w10 : Int32), w10 = nI (8 + 1 - n) ∧ 0 < n ∧ n ≤ 8 + 1 → ∀ ls : Array Slot, lv_has ls 13 [(8, .long w8), (10, .int w10), (0, .long p0), (2, .long p1), (4, .int p2), (5, .long w5), (7, .int w7)] → (∀ ls : Array Slot, lv_has ls 13 [(8, .long ((lf_X4_matrix_19 p0 p1 p2 w5 w7 n w8 w10).1)), (10, .int ((lf_X4_matrix_19 p0 p1 p2 w5 w7 n w8 w10).2)), (0, .long p0), (2, .long p1), (4, .int p2), (5, .long w5), (7, .int w7)] → W p l e rm_X4_matrix s m args below meth c s.heap [] 0 0 (MQ below (vp_Sl (fun r => r = f_X4_matrix p0 p1 p2)) args s 0 0 (fun _ => False)) (F0 m 94 ls [])) → W p l e rm_X4_matrix s m args below meth c s.heap [] 0 0 (MQ below (vp_Sl (fun r => r = f_X4_matrix p0 p1 p2)) args s 0 0 (fun _ => False)) (F0 m 19 ls []) := by
          intro n
          induction n with
          | zero =>
            intro w8 w10 hI
            exact absurd hI (fun h => Nat.lt_irrefl 0 h.2.1)
          | succ n ih =>
            intro w8 w10 hI ls hl kx
            refine lv_iload hx hb dX4_matrix_19 (lv_at hl 1 rfl) ?_
            refine lv_bipush (v := 8) hx hb dX4_matrix_21 (by decide) ?_
            refine lv_icmp_ge (tgt := 94) hx hb dX4_matrix_23 (by decide) (fun c2 => ?_) (fun c2 => ?_)
            · have hn : lf_X4_matrix_19 p0 p1 p2 w5 w7 (n + 1) w8 w10 = (w8, w10) := (by exact (if_pos c2).trans (rfl))
              rw [hn] at kx
              exact kx ls (lv_sub hl [0, 1, 2, 3, 4, 5, 6] rfl)
            · refine lv_lload_n hx hb dX4_matrix_26 rfl (lv_at hl 3 rfl) ?_
              refine lv_bipush (v := 56) hx hb dX4_matrix_27 (by decide) ?_
              refine lv_bipush (v := 8) hx hb dX4_matrix_29 (by decide) ?_
              refine lv_iload hx hb dX4_matrix_31 (lv_at hl 6 rfl) ?_
              refine lv_imul hx hb dX4_matrix_33 ?_
              refine lv_isub hx hb dX4_matrix_34 ?_
              refine lv_bipush (v := 7) hx hb dX4_matrix_35 (by decide) ?_
              refine lv_iadd hx hb dX4_matrix_37 ?_
              refine lv_iload hx hb dX4_matrix_38 (lv_at hl 1 rfl) ?_
              refine lv_isub hx hb dX4_matrix_40 ?_
              refine lv_lushr (v := jlushr p1 ((((56 : Int32) - ((8 : Int32) * w7)) + (7 : Int32)) - w10)) hx hb dX4_matrix_41 rfl ?_
              refine lv_lconst (v := 1) hx hb dX4_matrix_42 (by decide) ?_
              refine lv_land hx hb dX4_matrix_43 ?_
              refine lv_lconst (v := 0) hx hb dX4_matrix_44 (by decide) ?_
              obtain ⟨z5, ez5⟩ : ∃ q : Int64, q = (if ((jlushr p1 ((((56 : Int32) - ((8 : Int32) * w7)) + (7 : Int32)) - w10)) &&& (1 : Int64)) = (0 : Int64) then w8 else let v7 : Int64 := (jlushr p0 ((56 : Int32) - ((8 : Int32) * w10))) &&& (255 : Int64); let z10 : Int64 := (if p2 = (0 : Int32) then w8 ||| v7 else w8 ^^^ v7); let v9 : Int64 := z10; v9) := ⟨_, rfl⟩
              have k6 : ∀ (v4 : Int64), v4 = z5 → ∀ ls : Array Slot, lv_has ls 13 [(0, .long p0), (2, .long p1), (4, .int p2), (5, .long w5), (7, .int w7), (8, .long v4), (10, .int w10)] → W p l e rm_X4_matrix s m args below meth c s.heap [] 0 0 (MQ below (vp_Sl (fun r => r = f_X4_matrix p0 p1 p2)) args s 0 0 (fun _ => False)) (F0 m 88 ls []) := by
                intro v4 jz5 ls hl
                have ev4 : v4 = z5 := jz5
                obtain ⟨v12, ev12⟩ : ∃ y : Int32, y = w10 + (1 : Int32) := ⟨_, rfl⟩
                refine lv_iinc (v := v12) (lv' := [(10, .int v12), (0, .long p0), (2, .long p1), (4, .int p2), (5, .long w5), (7, .int w7), (8, .long v4)]) hx hb dX4_matrix_88 hl (k := 6) rfl (by rw [ev12]; rfl) (by decide) rfl (fun ls hl => ?_)
                refine lv_goto (tgt := 19) hx hb dX4_matrix_91 (by decide) ?_
                have hn : lf_X4_matrix_19 p0 p1 p2 w5 w7 (n + 1) w8 w10 = lf_X4_matrix_19 p0 p1 p2 w5 w7 n v4 v12 := (by have ev12 := ev12.symm; subst ev12; have ev4 := ev4.symm; subst ev4; have ez5 := ez5.symm; subst ez5; exact (if_neg c2).trans (rfl))
                rw [hn] at kx
                exact ih v4 v12 (by have ev12 := ev12.symm; subst ev12; have ev4 := ev4.symm; subst ev4; have ez5 := ez5.symm; subst ez5; exact up_next (N := 8) (by decide) hI c2) ls (lv_sub hl [6, 0, 1, 2, 3, 4, 5] rfl) kx
              refine lc_ne (tgt := 52) hx hb dX4_matrix_45 dX4_matrix_46 (by decide) (fun c3 => ?_) (fun c3 => ?_)
              · refine lv_lload_n hx hb dX4_matrix_52 rfl (lv_at hl 2 rfl) ?_
                refine lv_bipush (v := 56) hx hb dX4_matrix_53 (by decide) ?_
                refine lv_bipush (v := 8) hx hb dX4_matrix_55 (by decide) ?_
                refine lv_iload hx hb dX4_matrix_57 (lv_at hl 1 rfl) ?_
                refine lv_imul hx hb dX4_matrix_59 ?_
                refine lv_isub hx hb dX4_matrix_60 ?_
                refine lv_lushr (v := jlushr p0 ((56 : Int32) - ((8 : Int32) * w10))) hx hb dX4_matrix_61 rfl ?_
                refine lv_ldc2 hx hb hown (hts (.constantLong RX4 297 (255)) (by decide +kernel)) dX4_matrix_62 ?_
                refine lv_land hx hb dX4_matrix_65 ?_
                refine lv_topl (fun v7 ev7 => ?_)
                refine lv_lstore (lv' := [(11, .long v7), (8, .long w8), (10, .int w10), (0, .long p0), (2, .long p1), (4, .int p2), (5, .long w5), (7, .int w7)]) hx hb dX4_matrix_66 hl (by decide) rfl (fun ls hl => ?_)
                refine lv_iload hx hb dX4_matrix_68 (lv_at hl 5 rfl) ?_
                obtain ⟨z10, ez10⟩ : ∃ q : Int64, q = (if p2 = (0 : Int32) then w8 ||| v7 else w8 ^^^ v7) := ⟨_, rfl⟩
                have k11 : ∀ (v9 : Int64), v9 = z10 → ∀ ls : Array Slot, lv_has ls 13 [(0, .long p0), (2, .long p1), (4, .int p2), (5, .long w5), (7, .int w7), (8, .long w8), (10, .int w10), (11, .long v7)] → W p l e rm_X4_matrix s m args below meth c s.heap [] 0 0 (MQ below (vp_Sl (fun r => r = f_X4_matrix p0 p1 p2)) args s 0 0 (fun _ => False)) (F0 m 86 ls [.long v9]) := by
                  intro v9 jz10 ls hl
                  have ev9 : v9 = z10 := jz10
                  refine lv_lstore (lv' := [(8, .long v9), (0, .long p0), (2, .long p1), (4, .int p2), (5, .long w5), (7, .int w7), (10, .int w10), (11, .long v7)]) hx hb dX4_matrix_86 hl (by decide) rfl (fun ls hl => ?_)
                  exact k6 v9 (ez5.trans (by have ev9 := ev9.symm; subst ev9; have ez10 := ez10.symm; subst ez10; have ev7 := ev7.symm; subst ev7; exact (if_neg c3).trans (rfl))).symm ls (lv_sub hl [1, 2, 3, 4, 5, 0, 6] rfl)
                refine lv_if_eq (tgt := 81) hx hb dX4_matrix_70 (by decide) (fun c8 => ?_) (fun c8 => ?_)
                · refine lv_lload hx hb dX4_matrix_81 (lv_at hl 1 rfl) ?_
                  refine lv_lload hx hb dX4_matrix_83 (lv_at hl 0 rfl) ?_
                  refine lv_lor hx hb dX4_matrix_85 ?_
                  exact k11 (w8 ||| v7) (ez10.trans (by exact (if_pos c8).trans (rfl))).symm ls (lv_sub hl [3, 4, 5, 6, 7, 1, 2, 0] rfl)
                · refine lv_lload hx hb dX4_matrix_73 (lv_at hl 1 rfl) ?_
                  refine lv_lload hx hb dX4_matrix_75 (lv_at hl 0 rfl) ?_
                  refine lv_lxor hx hb dX4_matrix_77 ?_
                  refine lv_goto (tgt := 86) hx hb dX4_matrix_78 (by decide) ?_
                  exact k11 (w8 ^^^ v7) (ez10.trans (by exact (if_neg c8).trans (rfl))).symm ls (lv_sub hl [3, 4, 5, 6, 7, 1, 2, 0] rfl)
              · refine lv_goto (tgt := 88) hx hb dX4_matrix_49 (by decide) ?_
                exact k6 w8 (ez5.trans (by exact (if_pos c3).trans (rfl))).symm ls (lv_sub hl [2, 3, 4, 5, 6, 0, 1] rfl)
        refine loop19 (8 + 1) (0 : Int64) (0 : Int32) (⟨by rw [Nat.sub_self]; rfl, Nat.succ_pos _, Nat.le_refl _⟩) ls (lv_sub hl [1, 0, 4, 5, 6, 2, 3] rfl) ?_
        intro ls hl
        obtain ⟨v13, ev13⟩ : ∃ z, z = (lf_X4_matrix_19 p0 p1 p2 w5 w7 (8 + 1) (0 : Int64) (0 : Int32)).1 := ⟨_, rfl⟩
        obtain ⟨v14, ev14⟩ : ∃ z, z = (lf_X4_matrix_19 p0 p1 p2 w5 w7 (8 + 1) (0 : Int64) (0 : Int32)).2 := ⟨_, rfl⟩
        have hl : lv_has ls 13 [(8, .long v13), (10, .int v14), (0, .long p0), (2, .long p1), (4, .int p2), (5, .long w5), (7, .int w7)] := by rw [ev13, ev14]; exact hl
        refine lv_lload hx hb dX4_matrix_94 (lv_at hl 5 rfl) ?_
        refine lv_bipush (v := 8) hx hb dX4_matrix_96 (by decide) ?_
        refine lv_lshl (v := jlshl w5 (8 : Int32)) hx hb dX4_matrix_98 rfl ?_
        refine lv_lload hx hb dX4_matrix_99 (lv_at hl 0 rfl) ?_
        refine lv_lor hx hb dX4_matrix_101 ?_
        refine lv_topl (fun v15 ev15 => ?_)
        refine lv_lstore (lv' := [(5, .long v15), (8, .long v13), (10, .int v14), (0, .long p0), (2, .long p1), (4, .int p2), (7, .int w7)]) hx hb dX4_matrix_102 hl (by decide) rfl (fun ls hl => ?_)
        obtain ⟨v16, ev16⟩ : ∃ y : Int32, y = w7 + (1 : Int32) := ⟨_, rfl⟩
        refine lv_iinc (v := v16) (lv' := [(7, .int v16), (5, .long v15), (8, .long v13), (10, .int v14), (0, .long p0), (2, .long p1), (4, .int p2)]) hx hb dX4_matrix_104 hl (k := 6) rfl (by rw [ev16]; rfl) (by decide) rfl (fun ls hl => ?_)
        refine lv_goto (tgt := 6) hx hb dX4_matrix_107 (by decide) ?_
        have hn : lf_X4_matrix_6 p0 p1 p2 (n + 1) w5 w7 = lf_X4_matrix_6 p0 p1 p2 n v15 v16 := (by have ev16 := ev16.symm; subst ev16; have ev15 := ev15.symm; subst ev15; have ev14 := ev14.symm; subst ev14; have ev13 := ev13.symm; subst ev13; exact (if_neg c1).trans (rfl))
        rw [hn] at kx
        exact ih v15 v16 (by have ev16 := ev16.symm; subst ev16; have ev15 := ev15.symm; subst ev15; have ev14 := ev14.symm; subst ev14; have ev13 := ev13.symm; subst ev13; exact up_next (N := 8) (by decide) hI c1) ls (lv_sub hl [1, 0, 4, 5, 6] rfl) kx
  refine loop6 (8 + 1) (0 : Int64) (0 : Int32) (⟨by rw [Nat.sub_self]; rfl, Nat.succ_pos _, Nat.le_refl _⟩) ls (lv_sub hl [1, 0, 2, 3, 4] rfl) ?_
  intro ls hl
  obtain ⟨v17, ev17⟩ : ∃ z, z = (lf_X4_matrix_6 p0 p1 p2 (8 + 1) (0 : Int64) (0 : Int32)).1 := ⟨_, rfl⟩
  obtain ⟨v18, ev18⟩ : ∃ z, z = (lf_X4_matrix_6 p0 p1 p2 (8 + 1) (0 : Int64) (0 : Int32)).2 := ⟨_, rfl⟩
  have hl : lv_has ls 13 [(5, .long v17), (7, .int v18), (0, .long p0), (2, .long p1), (4, .int p2)] := by rw [ev17, ev18]; exact hl
  refine lv_lload hx hb dX4_matrix_110 (lv_at hl 0 rfl) ?_
  exact p_lret (by have ev18 := ev18.symm; subst ev18; have ev17 := ev17.symm; subst ev17; exact rfl) hx hb hr hlocks dX4_matrix_112
