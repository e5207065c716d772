def lf_X1_nameAt_7 (q0 : Int32) (q1 : Nat) : Nat → Int32 → Int32 → Int32 → Int32 × Int32 × Int32
  | 0, w2, w3, w4 => (w2, w3, w4)
  | n + 1, w2, w3, w4 =>
    if (sl q1) ≤ w4 then
      (w2, w3, w4)
    else
      if q0 < w2 then
        (w2, w3, w4)
      else
        let v3 : Int32 := sc q1 w4;
        let z7 : Int32 × Int32 := (if v3 = (32 : Int32) then let v11 : Int32 := w2 + (1 : Int32); (v11, w3) else if w2 = q0 then let v10 : Int32 := (((27 : Int32) * w3) + v3) - (64 : Int32); (w2, v10) else (w2, w3));
        let v5 : Int32 := z7.1;
        let v6 : Int32 := z7.2;
        let v12 : Int32 := w4 + (1 : Int32);
        lf_X1_nameAt_7 q0 q1 n v5 v6 v12
def f0_X1_nameAt (p0 : Int32) (p1 : Nat) : Int32 :=
  let v13 : Int32 := (lf_X1_nameAt_7 p0 p1 ((sLen.getD p1 0) + 1) (0 : Int32) (0 : Int32) (0 : Int32)).1;
  let v14 : Int32 := (lf_X1_nameAt_7 p0 p1 ((sLen.getD p1 0) + 1) (0 : Int32) (0 : Int32) (0 : Int32)).2.1;
  let v15 : Int32 := (lf_X1_nameAt_7 p0 p1 ((sLen.getD p1 0) + 1) (0 : Int32) (0 : Int32) (0 : Int32)).2.2;
  v14
noncomputable def f_X1_nameAt (p0 : Int32) (p1 : Nat) : Int32 := Classical.choose (⟨f0_X1_nameAt p0 p1, rfl⟩ : ∃ q, q = f0_X1_nameAt p0 p1)
theorem fe_X1_nameAt (p0 : Int32) (p1 : Nat) : f_X1_nameAt p0 p1 = f0_X1_nameAt p0 p1 := Classical.choose_spec (⟨f0_X1_nameAt p0 p1, rfl⟩ : ∃ q, q = f0_X1_nameAt p0 p1)
abbrev rm_X1_nameAt : Room := { frames := 4, cells := 0, slots := 0, locals := 85 }
set_option maxHeartbeats 4000000 in
set_option maxRecDepth 100000 in
theorem c_X1_nameAt (l : Launch) (adK adV : Nat → Nat) (p0 : Int32) (p1 : Nat) (h0 : p1 < 18) : pMi l yX1_nameAt wsX1_nameAt rm_X1_nameAt (eS adK adV) [.int p0, .ref (adK p1)] (f_X1_nameAt p0 p1) := by
  refine pm_ofW (by decide) rfl (Nat.le_of_ble_eq_true rfl) ?_
  intro p e s m args below meth c hx hb hr hml hts hown hlocks hE ls hl
  have hl : lv_has ls 6 [(0, .int p0), (1, .ref (adK p1))] := hl
  refine lv_iconst (v := 0) hx hb dX1_nameAt_0 (by decide) ?_
  refine lv_istore_n (lv' := [(2, .int (0 : Int32)), (0, .int p0), (1, .ref (adK p1))]) hx hb dX1_nameAt_1 rfl hl (by decide) rfl (fun ls hl => ?_)
  refine lv_iconst (v := 0) hx hb dX1_nameAt_2 (by decide) ?_
  refine lv_istore_n (lv' := [(3, .int (0 : Int32)), (2, .int (0 : Int32)), (0, .int p0), (1, .ref (adK p1))]) hx hb dX1_nameAt_3 rfl hl (by decide) rfl (fun ls hl => ?_)
  refine lv_iconst (v := 0) hx hb dX1_nameAt_4 (by decide) ?_
  refine lv_istore (lv' := [(4, .int (0 : Int32)), (3, .int (0 : Int32)), (2, .int (0 : Int32)), (0, .int p0), (1, .ref (adK p1))]) hx hb dX1_nameAt_5 hl (by decide) rfl (fun ls hl => ?_)
  have loop7 : ∀ (n : Nat) (w2 : Int32) (w3 : Int32) (w4 : Int32), w4 = nI ((sLen.getD p1 0) + 1 - n) ∧ 0 < n ∧ n ≤ (sLen.getD p1 0) + 1 → ∀ ls : Array Slot, lv_has ls 6 [(2, .int w2), (3, .int w3), (4, .int w4), (0, .int p0), (1, .ref (adK p1))] → (∀ ls : Array Slot, lv_has ls 6 [(2, .int ((lf_X1_nameAt_7 p0 p1 n w2 w3 w4).1)), (3, .int ((lf_X1_nameAt_7 p0 p1 n w2 w3 w4).2.1)), (4, .int ((lf_X1_nameAt_7 p0 p1 n w2 w3 w4).2.2)), (0, .int p0), (1, .ref (adK p1))] → W p l e rm_X1_nameAt s m args below meth c s.heap [] 0 0 (MQ below (vp_Si (fun r => r = f_X1_nameAt p0 p1)) args s 0 0 (fun _ => False)) (F0 m 64 ls [])) → W p l e rm_X1_nameAt s m args below meth c s.heap [] 0 0 (MQ below (vp_Si (fun r => r = f_X1_nameAt p0 p1)) args s 0 0 (fun _ => False)) (F0 m 7 ls []) := by
    intro n
    induction n with
    | zero =>
      intro w2 w3 w4 hI
      exact absurd hI (fun h => Nat.lt_irrefl 0 h.2.1)
    | succ n ih =>
      intro w2 w3 w4 hI ls hl kx
      refine lv_iload hx hb dX1_nameAt_7 (lv_at hl 2 rfl) ?_
      refine lv_aload_n hx hb dX1_nameAt_9 rfl (lv_at hl 4 rfl) ?_
      refine p_i (g_run (va_runV (As := []) (rest := [.int w4]) ⟨hx, hb, hml, hown, hts⟩ (c_J0_length_8abf5 l adK adV p1 h0) (cwV 0 hts gX1_nameAt_J0_length_8abf5 rfl rfl rfl (by decide +kernel) ⟨Nat.le_of_ble_eq_true rfl, Nat.le_of_ble_eq_true rfl⟩) (s_preV h0 hE) rfl rfl hl.1 rfl (lv_room (Nat.le_of_ble_eq_true rfl)) dX1_nameAt_10 ⟨Nat.le_of_ble_eq_true rfl, Nat.le_of_ble_eq_true rfl⟩)) ?_
      refine lv_icmp_ge (tgt := 64) hx hb dX1_nameAt_13 (by decide) (fun c1 => ?_) (fun c1 => ?_)
      · have hn : lf_X1_nameAt_7 p0 p1 (n + 1) w2 w3 w4 = (w2, w3, w4) := (by exact (if_pos c1).trans (rfl))
        rw [hn] at kx
        exact kx ls (lv_sub hl [0, 1, 2, 3, 4] rfl)
      · refine lv_iload_n hx hb dX1_nameAt_16 rfl (lv_at hl 0 rfl) ?_
        refine lv_iload_n hx hb dX1_nameAt_17 rfl (lv_at hl 3 rfl) ?_
        refine lv_icmp_gt (tgt := 64) hx hb dX1_nameAt_18 (by decide) (fun c2 => ?_) (fun c2 => ?_)
        · have hn : lf_X1_nameAt_7 p0 p1 (n + 1) w2 w3 w4 = (w2, w3, w4) := (by exact (if_neg c1).trans ((if_pos c2).trans (rfl)))
          rw [hn] at kx
          exact kx ls (lv_sub hl [0, 1, 2, 3, 4] rfl)
        · refine lv_aload_n hx hb dX1_nameAt_21 rfl (lv_at hl 4 rfl) ?_
          refine lv_iload hx hb dX1_nameAt_22 (lv_at hl 2 rfl) ?_
          refine p_i (g_run (va_runV (As := [.int w4]) (rest := []) ⟨hx, hb, hml, hown, hts⟩ (c_J0_charAt_5068e l adK adV p1 w4 h0 (by exact up_in (N := (sLen.getD p1 0)) (Nat.lt_trans (Nat.succ_lt_succ (sLen_lt _ h0)) (by decide)) hI c1 (Nat.le_refl _) (Nat.lt_trans (sLen_lt _ h0) (by decide)))) (cwV 1 hts gX1_nameAt_J0_charAt_5068e rfl rfl rfl (by decide +kernel) ⟨Nat.le_of_ble_eq_true rfl, Nat.le_of_ble_eq_true rfl⟩) (s_preV h0 hE) rfl rfl hl.1 rfl (lv_room (Nat.le_of_ble_eq_true rfl)) dX1_nameAt_24 ⟨Nat.le_of_ble_eq_true rfl, Nat.le_of_ble_eq_true rfl⟩)) ?_
          refine lv_topi (fun v3 ev3 => ?_)
          refine lv_istore (lv' := [(5, .int v3), (2, .int w2), (3, .int w3), (4, .int w4), (0, .int p0), (1, .ref (adK p1))]) hx hb dX1_nameAt_27 hl (by decide) rfl (fun ls hl => ?_)
          refine lv_iload hx hb dX1_nameAt_29 (lv_at hl 0 rfl) ?_
          refine lv_bipush (v := 32) hx hb dX1_nameAt_31 (by decide) ?_
          obtain ⟨z7, ez7⟩ : ∃ q : Int32 × Int32, q = (if v3 = (32 : Int32) then let v11 : Int32 := w2 + (1 : Int32); (v11, w3) else if w2 = p0 then let v10 : Int32 := (((27 : Int32) * w3) + v3) - (64 : Int32); (w2, v10) else (w2, w3)) := ⟨_, rfl⟩
          have k8 : ∀ (v5 : Int32) (v6 : Int32), (v5, v6) = z7 → ∀ ls : Array Slot, lv_has ls 6 [(0, .int p0), (1, .ref (adK p1)), (2, .int v5), (3, .int v6), (4, .int w4), (5, .int v3)] → W p l e rm_X1_nameAt s m args below meth c s.heap [] 0 0 (MQ below (vp_Si (fun r => r = f_X1_nameAt p0 p1)) args s 0 0 (fun _ => False)) (F0 m 58 ls []) := by
            intro v5 v6 jz7 ls hl
            have ev5 : v5 = z7.1 := congrArg (fun q => q.1) jz7
            have ev6 : v6 = z7.2 := congrArg (fun q => q.2) jz7
            obtain ⟨v12, ev12⟩ : ∃ y : Int32, y = w4 + (1 : Int32) := ⟨_, rfl⟩
            refine lv_iinc (v := v12) (lv' := [(4, .int v12), (0, .int p0), (1, .ref (adK p1)), (2, .int v5), (3, .int v6), (5, .int v3)]) hx hb dX1_nameAt_58 hl (k := 4) rfl (by rw [ev12]; rfl) (by decide) rfl (fun ls hl => ?_)
            refine lv_goto (tgt := 7) hx hb dX1_nameAt_61 (by decide) ?_
            have hn : lf_X1_nameAt_7 p0 p1 (n + 1) w2 w3 w4 = lf_X1_nameAt_7 p0 p1 n v5 v6 v12 := (by have ev12 := ev12.symm; subst ev12; have ev6 := ev6.symm; subst ev6; have ev5 := ev5.symm; subst ev5; have ez7 := ez7.symm; subst ez7; have ev3 := ev3.symm; subst ev3; exact (if_neg c1).trans ((if_neg c2).trans (rfl)))
            rw [hn] at kx
            exact ih v5 v6 v12 (by have ev12 := ev12.symm; subst ev12; have ev6 := ev6.symm; subst ev6; have ev5 := ev5.symm; subst ev5; have ez7 := ez7.symm; subst ez7; have ev3 := ev3.symm; subst ev3; exact up_next (N := (sLen.getD p1 0)) (Nat.lt_trans (Nat.succ_lt_succ (sLen_lt _ h0)) (by decide)) hI c1) ls (lv_sub hl [3, 4, 0, 1, 2] rfl) kx
          refine lv_icmp_ne (tgt := 42) hx hb dX1_nameAt_33 (by decide) (fun c4 => ?_) (fun c4 => ?_)
          · refine lv_iload_n hx hb dX1_nameAt_42 rfl (lv_at hl 1 rfl) ?_
            refine lv_iload_n hx hb dX1_nameAt_43 rfl (lv_at hl 4 rfl) ?_
            refine lv_icmp_ne (tgt := 58) hx hb dX1_nameAt_44 (by decide) (fun c9 => ?_) (fun c9 => ?_)
            · exact k8 w2 w3 (ez7.trans (by exact (if_neg c4).trans ((if_neg c9).trans (rfl)))).symm ls (lv_sub hl [4, 5, 1, 2, 3, 0] rfl)
            · refine lv_bipush (v := 27) hx hb dX1_nameAt_47 (by decide) ?_
              refine lv_iload_n hx hb dX1_nameAt_49 rfl (lv_at hl 2 rfl) ?_
              refine lv_imul hx hb dX1_nameAt_50 ?_
              refine lv_iload hx hb dX1_nameAt_51 (lv_at hl 0 rfl) ?_
              refine lv_iadd hx hb dX1_nameAt_53 ?_
              refine lv_bipush (v := 64) hx hb dX1_nameAt_54 (by decide) ?_
              refine lv_isub hx hb dX1_nameAt_56 ?_
              refine lv_topi (fun v10 ev10 => ?_)
              refine lv_istore_n (lv' := [(3, .int v10), (5, .int v3), (2, .int w2), (4, .int w4), (0, .int p0), (1, .ref (adK p1))]) hx hb dX1_nameAt_57 rfl hl (by decide) rfl (fun ls hl => ?_)
              exact k8 w2 v10 (ez7.trans (by have ev10 := ev10.symm; subst ev10; exact (if_neg c4).trans ((if_pos c9).trans (rfl)))).symm ls (lv_sub hl [4, 5, 2, 0, 3, 1] rfl)
          · obtain ⟨v11, ev11⟩ : ∃ y : Int32, y = w2 + (1 : Int32) := ⟨_, rfl⟩
            refine lv_iinc (v := v11) (lv' := [(2, .int v11), (5, .int v3), (3, .int w3), (4, .int w4), (0, .int p0), (1, .ref (adK p1))]) hx hb dX1_nameAt_36 hl (k := 1) rfl (by rw [ev11]; rfl) (by decide) rfl (fun ls hl => ?_)
            refine lv_goto (tgt := 58) hx hb dX1_nameAt_39 (by decide) ?_
            exact k8 v11 w3 (ez7.trans (by have ev11 := ev11.symm; subst ev11; exact (if_pos c4).trans (rfl))).symm ls (lv_sub hl [4, 5, 0, 2, 3, 1] rfl)
  refine loop7 ((sLen.getD p1 0) + 1) (0 : Int32) (0 : Int32) (0 : Int32) (⟨by rw [Nat.sub_self]; rfl, Nat.succ_pos _, Nat.le_refl _⟩) ls (lv_sub hl [2, 1, 0, 3, 4] rfl) ?_
  intro ls hl
  obtain ⟨v13, ev13⟩ : ∃ z, z = (lf_X1_nameAt_7 p0 p1 ((sLen.getD p1 0) + 1) (0 : Int32) (0 : Int32) (0 : Int32)).1 := ⟨_, rfl⟩
  obtain ⟨v14, ev14⟩ : ∃ z, z = (lf_X1_nameAt_7 p0 p1 ((sLen.getD p1 0) + 1) (0 : Int32) (0 : Int32) (0 : Int32)).2.1 := ⟨_, rfl⟩
  obtain ⟨v15, ev15⟩ : ∃ z, z = (lf_X1_nameAt_7 p0 p1 ((sLen.getD p1 0) + 1) (0 : Int32) (0 : Int32) (0 : Int32)).2.2 := ⟨_, rfl⟩
  have hl : lv_has ls 6 [(2, .int v13), (3, .int v14), (4, .int v15), (0, .int p0), (1, .ref (adK p1))] := by rw [ev13, ev14, ev15]; exact hl
  refine lv_iload_n hx hb dX1_nameAt_64 rfl (lv_at hl 1 rfl) ?_
  exact p_iret ((fe_X1_nameAt p0 p1).trans (by have ev15 := ev15.symm; subst ev15; have ev14 := ev14.symm; subst ev14; have ev13 := ev13.symm; subst ev13; exact rfl)) hx hb hr hlocks dX1_nameAt_65
