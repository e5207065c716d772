noncomputable def f0_X1_opNamed (p0 : Int32) : Int32 :=
  if (0 : Int32) < p0 then
    let v2 : Int32 := f_X1_singleNamed p0;
    let z5 : Int32 := (if (0 : Int32) ≤ v2 then v2 else let v7 : Int32 := f_X1_evenNamed p0; v7);
    let v4 : Int32 := z5;
    if (0 : Int32) ≤ v4 then
      v4
    else
      f_X1_oddNamed p0
  else
    (-1 : Int32)
noncomputable def f_X1_opNamed (p0 : Int32) : Int32 := Classical.choose (⟨f0_X1_opNamed p0, rfl⟩ : ∃ q, q = f0_X1_opNamed p0)
theorem fe_X1_opNamed (p0 : Int32) : f_X1_opNamed p0 = f0_X1_opNamed p0 := Classical.choose_spec (⟨f0_X1_opNamed p0, rfl⟩ : ∃ q, q = f0_X1_opNamed p0)
abbrev rm_X1_opNamed : Room := { frames := 8, cells := 0, slots := 0, locals := 179 }
set_option maxHeartbeats 4000000 in
set_option maxRecDepth 100000 in
theorem c_X1_opNamed (l : Launch) (adK adV : Nat → Nat) (p0 : Int32) : pMi l yX1_opNamed wsX1_opNamed rm_X1_opNamed (eS adK adV) [.int p0] (f_X1_opNamed p0) := by
  refine pm_ofW (by decide) rfl (Nat.le_of_ble_eq_true rfl) ?_
  intro p e s m args below meth c hx hb hr hml hts hown hlocks hE ls hl
  have hl : lv_has ls 2 [(0, .int p0)] := hl
  refine lv_iload_n hx hb dX1_opNamed_0 rfl (lv_at hl 0 rfl) ?_
  refine lv_if_gt (tgt := 6) hx hb dX1_opNamed_1 (by decide) (fun c1 => ?_) (fun c1 => ?_)
  · refine lv_iload_n hx hb dX1_opNamed_6 rfl (lv_at hl 0 rfl) ?_
    refine p_i (W.runS (As := [.int p0]) (rest := []) ⟨hx, hb, hml, hown, hts⟩ (c_X1_singleNamed l adK adV p0 ) (va_cwS 1 hts gX1_opNamed_X1_singleNamed rfl rfl rfl (by decide +kernel) ⟨Nat.le_of_ble_eq_true rfl, Nat.le_of_ble_eq_true rfl⟩) (p_preS (eS_bl adK adV) hE) rfl rfl hl.1 rfl (lv_room (Nat.le_of_ble_eq_true rfl)) dX1_opNamed_7 ⟨Nat.le_of_ble_eq_true rfl, Nat.le_of_ble_eq_true rfl⟩) ?_
    refine lv_topi (fun v2 ev2 => ?_)
    refine lv_istore_n (lv' := [(1, .int v2), (0, .int p0)]) hx hb dX1_opNamed_10 rfl hl (by decide) rfl (fun ls hl => ?_)
    refine lv_iload_n hx hb dX1_opNamed_11 rfl (lv_at hl 0 rfl) ?_
    obtain ⟨z5, ez5⟩ : ∃ q : Int32, q = (if (0 : Int32) ≤ v2 then v2 else let v7 : Int32 := f_X1_evenNamed p0; v7) := ⟨_, rfl⟩
    have k6 : ∀ (v4 : Int32), v4 = z5 → ∀ ls : Array Slot, lv_has ls 2 [(0, .int p0), (1, .int v4)] → W p l e rm_X1_opNamed s m args below meth c s.heap [] 0 0 (MQ below (vp_Si (fun r => r = f_X1_opNamed p0)) args s 0 0 (fun _ => False)) (F0 m 20 ls []) := by
      intro v4 jz5 ls hl
      have ev4 : v4 = z5 := congrArg (fun q => q) jz5
      refine lv_iload_n hx hb dX1_opNamed_20 rfl (lv_at hl 1 rfl) ?_
      refine lv_if_ge (tgt := 31) hx hb dX1_opNamed_21 (by decide) (fun c8 => ?_) (fun c8 => ?_)
      · refine lv_iload_n hx hb dX1_opNamed_31 rfl (lv_at hl 1 rfl) ?_
        exact p_iret ((fe_X1_opNamed p0).trans (by have ev4 := ev4.symm; subst ev4; have ez5 := ez5.symm; subst ez5; have ev2 := ev2.symm; subst ev2; exact (if_pos c1).trans ((if_pos c8).trans (rfl)))) hx hb hr hlocks dX1_opNamed_32
      · refine lv_iload_n hx hb dX1_opNamed_24 rfl (lv_at hl 0 rfl) ?_
        refine p_i (W.runS (As := [.int p0]) (rest := []) ⟨hx, hb, hml, hown, hts⟩ (c_X1_oddNamed l adK adV p0 ) (va_cwS 1 hts gX1_opNamed_X1_oddNamed rfl rfl rfl (by decide +kernel) ⟨Nat.le_of_ble_eq_true rfl, Nat.le_of_ble_eq_true rfl⟩) (p_preS (eS_bl adK adV) hE) rfl rfl hl.1 rfl (lv_room (Nat.le_of_ble_eq_true rfl)) dX1_opNamed_25 ⟨Nat.le_of_ble_eq_true rfl, Nat.le_of_ble_eq_true rfl⟩) ?_
        refine lv_goto (tgt := 32) hx hb dX1_opNamed_28 (by decide) ?_
        exact p_iret ((fe_X1_opNamed p0).trans (by have ev4 := ev4.symm; subst ev4; have ez5 := ez5.symm; subst ez5; have ev2 := ev2.symm; subst ev2; exact (if_pos c1).trans ((if_neg c8).trans (rfl)))) hx hb hr hlocks dX1_opNamed_32
    refine lv_if_ge (tgt := 20) hx hb dX1_opNamed_12 (by decide) (fun c3 => ?_) (fun c3 => ?_)
    · exact k6 v2 (ez5.trans (by exact (if_pos c3).trans (rfl))).symm ls (lv_sub hl [1, 0] rfl)
    · refine lv_iload_n hx hb dX1_opNamed_15 rfl (lv_at hl 1 rfl) ?_
      refine p_i (W.runS (As := [.int p0]) (rest := []) ⟨hx, hb, hml, hown, hts⟩ (c_X1_evenNamed l adK adV p0 ) (va_cwS 1 hts gX1_opNamed_X1_evenNamed rfl rfl rfl (by decide +kernel) ⟨Nat.le_of_ble_eq_true rfl, Nat.le_of_ble_eq_true rfl⟩) (p_preS (eS_bl adK adV) hE) rfl rfl hl.1 rfl (lv_room (Nat.le_of_ble_eq_true rfl)) dX1_opNamed_16 ⟨Nat.le_of_ble_eq_true rfl, Nat.le_of_ble_eq_true rfl⟩) ?_
      refine lv_topi (fun v7 ev7 => ?_)
      refine lv_istore_n (lv' := [(1, .int v7), (0, .int p0)]) hx hb dX1_opNamed_19 rfl hl (by decide) rfl (fun ls hl => ?_)
      exact k6 v7 (ez5.trans (by have ev7 := ev7.symm; subst ev7; exact (if_neg c3).trans (rfl))).symm ls (lv_sub hl [1, 0] rfl)
  · refine lv_iconst (v := (-1)) hx hb dX1_opNamed_4 (by decide) ?_
    exact p_iret ((fe_X1_opNamed p0).trans (by exact (if_neg c1).trans (rfl))) hx hb hr hlocks dX1_opNamed_5
