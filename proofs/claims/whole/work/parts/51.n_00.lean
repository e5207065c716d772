def lf_X1_placeOf_7 (q0 : Int32) (q1 : Nat) : Nat → Int32 → Int32 → Int32 → Int32
  | 0, w2, w3, w4 => 0
  | n + 1, w2, w3, w4 =>
    if (sl q1) ≤ w4 then
      if w3 = q0 then
        w2
      else
        (-1 : Int32)
    else
      let v3 : Int32 := sc q1 w4;
      if v3 = (32 : Int32) then
        if w3 = q0 then
          w2
        else
          let v6 : Int32 := w2 + (1 : Int32);
          let v7 : Int32 := w4 + (1 : Int32);
          lf_X1_placeOf_7 q0 q1 n v6 (0 : Int32) v7
      else
        let v8 : Int32 := (((27 : Int32) * w3) + v3) - (64 : Int32);
        let v9 : Int32 := w4 + (1 : Int32);
        lf_X1_placeOf_7 q0 q1 n w2 v8 v9
def f0_X1_placeOf (p0 : Int32) (p1 : Nat) : Int32 :=
  lf_X1_placeOf_7 p0 p1 ((sLen.getD p1 0) + 1) (0 : Int32) (0 : Int32) (0 : Int32)
noncomputable def f_X1_placeOf (p0 : Int32) (p1 : Nat) : Int32 := Classical.choose (⟨f0_X1_placeOf p0 p1, rfl⟩ : ∃ q, q = f0_X1_placeOf p0 p1)
theorem fe_X1_placeOf (p0 : Int32) (p1 : Nat) : f_X1_placeOf p0 p1 = f0_X1_placeOf p0 p1 := Classical.choose_spec (⟨f0_X1_placeOf p0 p1, rfl⟩ : ∃ q, q = f0_X1_placeOf p0 p1)
abbrev rm_X1_placeOf : Room := { frames := 4, cells := 0, slots := 0, locals := 85 }
set_option maxHeartbeats 4000000 in
set_option maxRecDepth 100000 in
theorem c_X1_placeOf (l : Launch) (adK adV : Nat → Nat) (p0 : Int32) (p1 : Nat) (h0 : p1 < 18) : pMi l yX1_placeOf wsX1_placeOf rm_X1_placeOf (eS adK adV) [.int p0, .ref (adK p1)] (f_X1_placeOf p0 p1) := by
  refine pm_ofW (by decide) rfl (Nat.le_of_ble_eq_true rfl) ?_
  intro p e s m args below meth c hx hb hr hml hts hown hlocks hE ls hl
  have hl : lv_has ls 6 [(0, .int p0), (1, .ref (adK p1))] := hl
  refine lv_iconst (v := 0) hx hb dX1_placeOf_0 (by decide) ?_
  refine lv_istore_n (lv' := [(2, .int (0 : Int32)), (0, .int p0), (1, .ref (adK p1))]) hx hb dX1_placeOf_1 rfl hl (by decide) rfl (fun ls hl => ?_)
  refine lv_iconst (v := 0) hx hb dX1_placeOf_2 (by decide) ?_
  refine lv_istore_n (lv' := [(3, .int (0 : Int32)), (2, .int (0 : Int32)), (0, .int p0), (1, .ref (adK p1))]) hx hb dX1_placeOf_3 rfl hl (by decide) rfl (fun ls hl => ?_)
  refine lv_iconst (v := 0) hx hb dX1_placeOf_4 (by decide) ?_
  refine lv_istore (lv' := [(4, .int (0 : Int32)), (3, .int (0 : Int32)), (2, .int (0 : Int32)), (0, .int p0), (1, .ref (adK p1))]) hx hb dX1_placeOf_5 hl (by decide) rfl (fun ls hl => ?_)
  have loop7 : ∀ (n : Nat) (w2 : Int32) (w3 : Int32) (w4 : Int32), w4 = nI ((sLen.getD p1 0) + 1 - n) ∧ 0 < n ∧ n ≤ (sLen.getD p1 0) + 1 → f_X1_placeOf p0 p1 = lf_X1_placeOf_7 p0 p1 n w2 w3 w4 → ∀ ls : Array Slot, lv_has ls 6 [(2, .int w2), (3, .int w3), (4, .int w4), (0, .int p0), (1, .ref (adK p1))] → W p l e rm_X1_placeOf s m args below meth c s.heap [] 0 0 (MQ below (vp_Si (fun r => r = f_X1_placeOf p0 p1)) args s 0 0 (fun _ => False)) (F0 m 7 ls []) := by
    intro n
    induction n with
    | zero =>
      intro w2 w3 w4 hI
      exact absurd hI (fun h => Nat.lt_irrefl 0 h.2.1)
    | succ n ih =>
      intro w2 w3 w4 hI hf9 ls hl
      refine lv_iload hx hb dX1_placeOf_7 (lv_at hl 2 rfl) ?_
      refine lv_aload_n hx hb dX1_placeOf_9 rfl (lv_at hl 4 rfl) ?_
      refine p_i (g_run (va_runV (As := []) (rest := [.int w4]) ⟨hx, hb, hml, hown, hts⟩ (c_J0_length_8abf5 l adK adV p1 h0) (cwV 0 hts gX1_placeOf_J0_length_8abf5 rfl rfl rfl (by decide +kernel) ⟨Nat.le_of_ble_eq_true rfl, Nat.le_of_ble_eq_true rfl⟩) (s_preV h0 hE) rfl rfl hl.1 rfl (lv_room (Nat.le_of_ble_eq_true rfl)) dX1_placeOf_10 ⟨Nat.le_of_ble_eq_true rfl, Nat.le_of_ble_eq_true rfl⟩)) ?_
      refine lv_icmp_ge (tgt := 63) hx hb dX1_placeOf_13 (by decide) (fun c1 => ?_) (fun c1 => ?_)
      · refine lv_iload_n hx hb dX1_placeOf_63 rfl (lv_at hl 1 rfl) ?_
        refine lv_iload_n hx hb dX1_placeOf_64 rfl (lv_at hl 3 rfl) ?_
        refine lv_icmp_ne (tgt := 72) hx hb dX1_placeOf_65 (by decide) (fun c2 => ?_) (fun c2 => ?_)
        · refine lv_iconst (v := (-1)) hx hb dX1_placeOf_72 (by decide) ?_
          exact p_iret (hf9.trans (by exact (if_pos c1).trans ((if_neg c2).trans (rfl)))) hx hb hr hlocks dX1_placeOf_73
        · refine lv_iload_n hx hb dX1_placeOf_68 rfl (lv_at hl 0 rfl) ?_
          refine lv_goto (tgt := 73) hx hb dX1_placeOf_69 (by decide) ?_
          exact p_iret (hf9.trans (by exact (if_pos c1).trans ((if_pos c2).trans (rfl)))) hx hb hr hlocks dX1_placeOf_73
      · refine lv_aload_n hx hb dX1_placeOf_16 rfl (lv_at hl 4 rfl) ?_
        refine lv_iload hx hb dX1_placeOf_17 (lv_at hl 2 rfl) ?_
        refine p_i (g_run (va_runV (As := [.int w4]) (rest := []) ⟨hx, hb, hml, hown, hts⟩ (c_J0_charAt_5068e l adK adV p1 w4 h0 (by exact up_in (N := (sLen.getD p1 0)) (Nat.lt_trans (Nat.succ_lt_succ (sLen_lt _ h0)) (by decide)) hI c1 (Nat.le_refl _) (Nat.lt_trans (sLen_lt _ h0) (by decide)))) (cwV 1 hts gX1_placeOf_J0_charAt_5068e rfl rfl rfl (by decide +kernel) ⟨Nat.le_of_ble_eq_true rfl, Nat.le_of_ble_eq_true rfl⟩) (s_preV h0 hE) rfl rfl hl.1 rfl (lv_room (Nat.le_of_ble_eq_true rfl)) dX1_placeOf_19 ⟨Nat.le_of_ble_eq_true rfl, Nat.le_of_ble_eq_true rfl⟩)) ?_
        refine lv_topi (fun v3 ev3 => ?_)
        refine lv_istore (lv' := [(5, .int v3), (2, .int w2), (3, .int w3), (4, .int w4), (0, .int p0), (1, .ref (adK p1))]) hx hb dX1_placeOf_22 hl (by decide) rfl (fun ls hl => ?_)
        refine lv_iload hx hb dX1_placeOf_24 (lv_at hl 0 rfl) ?_
        refine lv_bipush (v := 32) hx hb dX1_placeOf_26 (by decide) ?_
        refine lv_icmp_eq (tgt := 45) hx hb dX1_placeOf_28 (by decide) (fun c4 => ?_) (fun c4 => ?_)
        · refine lv_iload_n hx hb dX1_placeOf_45 rfl (lv_at hl 2 rfl) ?_
          refine lv_iload_n hx hb dX1_placeOf_46 rfl (lv_at hl 4 rfl) ?_
          refine lv_icmp_ne (tgt := 52) hx hb dX1_placeOf_47 (by decide) (fun c5 => ?_) (fun c5 => ?_)
          · obtain ⟨v6, ev6⟩ : ∃ y : Int32, y = w2 + (1 : Int32) := ⟨_, rfl⟩
            refine lv_iinc (v := v6) (lv' := [(2, .int v6), (5, .int v3), (3, .int w3), (4, .int w4), (0, .int p0), (1, .ref (adK p1))]) hx hb dX1_placeOf_52 hl (k := 1) rfl (by rw [ev6]; rfl) (by decide) rfl (fun ls hl => ?_)
            refine lv_iconst (v := 0) hx hb dX1_placeOf_55 (by decide) ?_
            refine lv_istore_n (lv' := [(3, .int (0 : Int32)), (2, .int v6), (5, .int v3), (4, .int w4), (0, .int p0), (1, .ref (adK p1))]) hx hb dX1_placeOf_56 rfl hl (by decide) rfl (fun ls hl => ?_)
            obtain ⟨v7, ev7⟩ : ∃ y : Int32, y = w4 + (1 : Int32) := ⟨_, rfl⟩
            refine lv_iinc (v := v7) (lv' := [(4, .int v7), (3, .int (0 : Int32)), (2, .int v6), (5, .int v3), (0, .int p0), (1, .ref (adK p1))]) hx hb dX1_placeOf_57 hl (k := 3) rfl (by rw [ev7]; rfl) (by decide) rfl (fun ls hl => ?_)
            refine lv_goto (tgt := 7) hx hb dX1_placeOf_60 (by decide) ?_
            exact ih v6 (0 : Int32) v7 (by have ev7 := ev7.symm; subst ev7; have ev6 := ev6.symm; subst ev6; have ev3 := ev3.symm; subst ev3; exact up_next (N := (sLen.getD p1 0)) (Nat.lt_trans (Nat.succ_lt_succ (sLen_lt _ h0)) (by decide)) hI c1) (hf9.trans (by have ev7 := ev7.symm; subst ev7; have ev6 := ev6.symm; subst ev6; have ev3 := ev3.symm; subst ev3; exact (if_neg c1).trans ((if_pos c4).trans ((if_neg c5).trans (rfl))))) ls (lv_sub hl [2, 1, 0, 4, 5] rfl)
          · refine lv_iload_n hx hb dX1_placeOf_50 rfl (lv_at hl 1 rfl) ?_
            exact p_iret (hf9.trans (by have ev3 := ev3.symm; subst ev3; exact (if_neg c1).trans ((if_pos c4).trans ((if_pos c5).trans (rfl))))) hx hb hr hlocks dX1_placeOf_51
        · refine lv_bipush (v := 27) hx hb dX1_placeOf_31 (by decide) ?_
          refine lv_iload_n hx hb dX1_placeOf_33 rfl (lv_at hl 2 rfl) ?_
          refine lv_imul hx hb dX1_placeOf_34 ?_
          refine lv_iload hx hb dX1_placeOf_35 (lv_at hl 0 rfl) ?_
          refine lv_iadd hx hb dX1_placeOf_37 ?_
          refine lv_bipush (v := 64) hx hb dX1_placeOf_38 (by decide) ?_
          refine lv_isub hx hb dX1_placeOf_40 ?_
          refine lv_topi (fun v8 ev8 => ?_)
          refine lv_istore_n (lv' := [(3, .int v8), (5, .int v3), (2, .int w2), (4, .int w4), (0, .int p0), (1, .ref (adK p1))]) hx hb dX1_placeOf_41 rfl hl (by decide) rfl (fun ls hl => ?_)
          refine lv_goto (tgt := 57) hx hb dX1_placeOf_42 (by decide) ?_
          obtain ⟨v9, ev9⟩ : ∃ y : Int32, y = w4 + (1 : Int32) := ⟨_, rfl⟩
          refine lv_iinc (v := v9) (lv' := [(4, .int v9), (3, .int v8), (5, .int v3), (2, .int w2), (0, .int p0), (1, .ref (adK p1))]) hx hb dX1_placeOf_57 hl (k := 3) rfl (by rw [ev9]; rfl) (by decide) rfl (fun ls hl => ?_)
          refine lv_goto (tgt := 7) hx hb dX1_placeOf_60 (by decide) ?_
          exact ih w2 v8 v9 (by have ev9 := ev9.symm; subst ev9; have ev8 := ev8.symm; subst ev8; have ev3 := ev3.symm; subst ev3; exact up_next (N := (sLen.getD p1 0)) (Nat.lt_trans (Nat.succ_lt_succ (sLen_lt _ h0)) (by decide)) hI c1) (hf9.trans (by have ev9 := ev9.symm; subst ev9; have ev8 := ev8.symm; subst ev8; have ev3 := ev3.symm; subst ev3; exact (if_neg c1).trans ((if_neg c4).trans (rfl)))) ls (lv_sub hl [3, 1, 0, 4, 5] rfl)
  exact loop7 ((sLen.getD p1 0) + 1) (0 : Int32) (0 : Int32) (0 : Int32) (⟨by rw [Nat.sub_self]; rfl, Nat.succ_pos _, Nat.le_refl _⟩) ((fe_X1_placeOf p0 p1).trans (by exact rfl)) ls (lv_sub hl [2, 1, 0, 3, 4] rfl)
