noncomputable def f0_X1_oddNamed (p0 : Int32) : Int32 :=
  let v1 : Int32 := f_X1_evenNamed (p0 / (27 : Int32));
  let z4 : Int32 := (if v1 < (64 : Int32) then (0 : Int32) else if (96 : Int32) ≤ v1 then (0 : Int32) else (1 : Int32));
  let v3 : Int32 := z4;
  let z9 : Int32 := (if v3 = (0 : Int32) then (9 : Int32) else (2 : Int32));
  let v8 : Int32 := z9;
  if v1 < (0 : Int32) then
    (-1 : Int32)
  else
    if (p0 - p0 / (27 : Int32) * (27 : Int32)) = v8 then
      v1 + (1 : Int32)
    else
      (-1 : Int32)
noncomputable def f_X1_oddNamed (p0 : Int32) : Int32 := Classical.choose (⟨f0_X1_oddNamed p0, rfl⟩ : ∃ q, q = f0_X1_oddNamed p0)
theorem fe_X1_oddNamed (p0 : Int32) : f_X1_oddNamed p0 = f0_X1_oddNamed p0 := Classical.choose_spec (⟨f0_X1_oddNamed p0, rfl⟩ : ∃ q, q = f0_X1_oddNamed p0)
abbrev rm_X1_oddNamed : Room := { frames := 7, cells := 0, slots := 0, locals := 156 }
set_option maxHeartbeats 4000000 in
set_option maxRecDepth 100000 in
theorem c_X1_oddNamed (l : Launch) (adK adV : Nat → Nat) (p0 : Int32) : pMi l yX1_oddNamed wsX1_oddNamed rm_X1_oddNamed (eS adK adV) [.int p0] (f_X1_oddNamed p0) := by
  refine pm_ofW (by decide) rfl (Nat.le_of_ble_eq_true rfl) ?_
  intro p e s m args below meth c hx hb hr hml hts hown hlocks hE ls hl
  have hl : lv_has ls 4 [(0, .int p0)] := hl
  refine lv_iload_n hx hb dX1_oddNamed_0 rfl (lv_at hl 0 rfl) ?_
  refine lv_bipush (v := 27) hx hb dX1_oddNamed_1 (by decide) ?_
  refine lv_idiv hx hb dX1_oddNamed_3 (by decide) ?_
  refine p_i (W.runS (As := [.int (p0 / (27 : Int32))]) (rest := []) ⟨hx, hb, hml, hown, hts⟩ (c_X1_evenNamed l adK adV (p0 / (27 : Int32)) ) (va_cwS 1 hts gX1_oddNamed_X1_evenNamed rfl rfl rfl (by decide +kernel) ⟨Nat.le_of_ble_eq_true rfl, Nat.le_of_ble_eq_true rfl⟩) (p_preS (eS_bl adK adV) hE) rfl rfl hl.1 rfl (lv_room (Nat.le_of_ble_eq_true rfl)) dX1_oddNamed_4 ⟨Nat.le_of_ble_eq_true rfl, Nat.le_of_ble_eq_true rfl⟩) ?_
  refine lv_topi (fun v1 ev1 => ?_)
  refine lv_istore_n (lv' := [(1, .int v1), (0, .int p0)]) hx hb dX1_oddNamed_7 rfl hl (by decide) rfl (fun ls hl => ?_)
  refine lv_iload_n hx hb dX1_oddNamed_8 rfl (lv_at hl 0 rfl) ?_
  refine lv_bipush (v := 64) hx hb dX1_oddNamed_9 (by decide) ?_
  obtain ⟨z4, ez4⟩ : ∃ q : Int32, q = (if v1 < (64 : Int32) then (0 : Int32) else if (96 : Int32) ≤ v1 then (0 : Int32) else (1 : Int32)) := ⟨_, rfl⟩
  have k5 : ∀ (v3 : Int32), v3 = z4 → ∀ ls : Array Slot, lv_has ls 4 [(0, .int p0), (1, .int v1)] → W p l e rm_X1_oddNamed s m args below meth c s.heap [] 0 0 (MQ below (vp_Si (fun r => r = f_X1_oddNamed p0)) args s 0 0 (fun _ => False)) (F0 m 25 ls [.int v3]) := by
    intro v3 jz4 ls hl
    have ev3 : v3 = z4 := congrArg (fun q => q) jz4
    refine lv_istore_n (lv' := [(2, .int v3), (0, .int p0), (1, .int v1)]) hx hb dX1_oddNamed_25 rfl hl (by decide) rfl (fun ls hl => ?_)
    refine lv_iload_n hx hb dX1_oddNamed_26 rfl (lv_at hl 0 rfl) ?_
    obtain ⟨z9, ez9⟩ : ∃ q : Int32, q = (if v3 = (0 : Int32) then (9 : Int32) else (2 : Int32)) := ⟨_, rfl⟩
    have k10 : ∀ (v8 : Int32), v8 = z9 → ∀ ls : Array Slot, lv_has ls 4 [(0, .int p0), (1, .int v1), (2, .int v3)] → W p l e rm_X1_oddNamed s m args below meth c s.heap [] 0 0 (MQ below (vp_Si (fun r => r = f_X1_oddNamed p0)) args s 0 0 (fun _ => False)) (F0 m 36 ls [.int v8]) := by
      intro v8 jz9 ls hl
      have ev8 : v8 = z9 := congrArg (fun q => q) jz9
      refine lv_istore_n (lv' := [(3, .int v8), (0, .int p0), (1, .int v1), (2, .int v3)]) hx hb dX1_oddNamed_36 rfl hl (by decide) rfl (fun ls hl => ?_)
      refine lv_iload_n hx hb dX1_oddNamed_37 rfl (lv_at hl 2 rfl) ?_
      refine lv_if_lt (tgt := 55) hx hb dX1_oddNamed_38 (by decide) (fun c11 => ?_) (fun c11 => ?_)
      · refine lv_iconst (v := (-1)) hx hb dX1_oddNamed_55 (by decide) ?_
        exact p_iret ((fe_X1_oddNamed p0).trans (by have ev8 := ev8.symm; subst ev8; have ez9 := ez9.symm; subst ez9; have ev3 := ev3.symm; subst ev3; have ez4 := ez4.symm; subst ez4; have ev1 := ev1.symm; subst ev1; exact (if_pos c11).trans (rfl))) hx hb hr hlocks dX1_oddNamed_56
      · refine lv_iload_n hx hb dX1_oddNamed_41 rfl (lv_at hl 1 rfl) ?_
        refine lv_bipush (v := 27) hx hb dX1_oddNamed_42 (by decide) ?_
        refine lv_irem hx hb dX1_oddNamed_44 (by decide) ?_
        refine lv_iload_n hx hb dX1_oddNamed_45 rfl (lv_at hl 0 rfl) ?_
        refine lv_icmp_ne (tgt := 55) hx hb dX1_oddNamed_46 (by decide) (fun c12 => ?_) (fun c12 => ?_)
        · refine lv_iconst (v := (-1)) hx hb dX1_oddNamed_55 (by decide) ?_
          exact p_iret ((fe_X1_oddNamed p0).trans (by have ev8 := ev8.symm; subst ev8; have ez9 := ez9.symm; subst ez9; have ev3 := ev3.symm; subst ev3; have ez4 := ez4.symm; subst ez4; have ev1 := ev1.symm; subst ev1; exact (if_neg c11).trans ((if_neg c12).trans (rfl)))) hx hb hr hlocks dX1_oddNamed_56
        · refine lv_iload_n hx hb dX1_oddNamed_49 rfl (lv_at hl 2 rfl) ?_
          refine lv_iconst (v := 1) hx hb dX1_oddNamed_50 (by decide) ?_
          refine lv_iadd hx hb dX1_oddNamed_51 ?_
          refine lv_goto (tgt := 56) hx hb dX1_oddNamed_52 (by decide) ?_
          exact p_iret ((fe_X1_oddNamed p0).trans (by have ev8 := ev8.symm; subst ev8; have ez9 := ez9.symm; subst ez9; have ev3 := ev3.symm; subst ev3; have ez4 := ez4.symm; subst ez4; have ev1 := ev1.symm; subst ev1; exact (if_neg c11).trans ((if_pos c12).trans (rfl)))) hx hb hr hlocks dX1_oddNamed_56
    refine lv_if_eq (tgt := 34) hx hb dX1_oddNamed_27 (by decide) (fun c7 => ?_) (fun c7 => ?_)
    · refine lv_bipush (v := 9) hx hb dX1_oddNamed_34 (by decide) ?_
      exact k10 (9 : Int32) (ez9.trans (by exact (if_pos c7).trans (rfl))).symm ls (lv_sub hl [1, 2, 0] rfl)
    · refine lv_iconst (v := 2) hx hb dX1_oddNamed_30 (by decide) ?_
      refine lv_goto (tgt := 36) hx hb dX1_oddNamed_31 (by decide) ?_
      exact k10 (2 : Int32) (ez9.trans (by exact (if_neg c7).trans (rfl))).symm ls (lv_sub hl [1, 2, 0] rfl)
  refine lv_icmp_lt (tgt := 24) hx hb dX1_oddNamed_11 (by decide) (fun c2 => ?_) (fun c2 => ?_)
  · refine lv_iconst (v := 0) hx hb dX1_oddNamed_24 (by decide) ?_
    exact k5 (0 : Int32) (ez4.trans (by exact (if_pos c2).trans (rfl))).symm ls (lv_sub hl [1, 0] rfl)
  · refine lv_iload_n hx hb dX1_oddNamed_14 rfl (lv_at hl 0 rfl) ?_
    refine lv_bipush (v := 96) hx hb dX1_oddNamed_15 (by decide) ?_
    refine lv_icmp_ge (tgt := 24) hx hb dX1_oddNamed_17 (by decide) (fun c6 => ?_) (fun c6 => ?_)
    · refine lv_iconst (v := 0) hx hb dX1_oddNamed_24 (by decide) ?_
      exact k5 (0 : Int32) (ez4.trans (by exact (if_neg c2).trans ((if_pos c6).trans (rfl)))).symm ls (lv_sub hl [1, 0] rfl)
    · refine lv_iconst (v := 1) hx hb dX1_oddNamed_20 (by decide) ?_
      refine lv_goto (tgt := 25) hx hb dX1_oddNamed_21 (by decide) ?_
      exact k5 (1 : Int32) (ez4.trans (by exact (if_neg c2).trans ((if_neg c6).trans (rfl)))).symm ls (lv_sub hl [1, 0] rfl)
