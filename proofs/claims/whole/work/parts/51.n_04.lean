noncomputable def f0_X1_singleNamed (p0 : Int32) : Int32 :=
  let v1 : Int32 := f_X1_meantBy p0 0 1;
  let v2 : Int32 := f_X1_opInRow 2 (0 : Int32) (1 : Int32) v1;
  let z5 : Int32 := (pick v2 (f_X1_opInRow 3 (224 : Int32) (1 : Int32) v1));
  let v4 : Int32 := z5;
  if v4 < (0 : Int32) then
    f_X1_opInRow 4 (240 : Int32) (1 : Int32) v1
  else
    v4
noncomputable def f_X1_singleNamed (p0 : Int32) : Int32 := Classical.choose (⟨f0_X1_singleNamed p0, rfl⟩ : ∃ q, q = f0_X1_singleNamed p0)
theorem fe_X1_singleNamed (p0 : Int32) : f_X1_singleNamed p0 = f0_X1_singleNamed p0 := Classical.choose_spec (⟨f0_X1_singleNamed p0, rfl⟩ : ∃ q, q = f0_X1_singleNamed p0)
abbrev rm_X1_singleNamed : Room := { frames := 6, cells := 0, slots := 0, locals := 134 }
set_option maxHeartbeats 4000000 in
set_option maxRecDepth 100000 in
theorem c_X1_singleNamed (l : Launch) (adK adV : Nat → Nat) (p0 : Int32) : pMi l yX1_singleNamed wsX1_singleNamed rm_X1_singleNamed (eS adK adV) [.int p0] (f_X1_singleNamed p0) := by
  refine pm_ofW (by decide) rfl (Nat.le_of_ble_eq_true rfl) ?_
  intro p e s m args below meth c hx hb hr hml hts hown hlocks hE ls hl
  have hl : lv_has ls 3 [(0, .int p0)] := hl
  refine lv_iload_n hx hb dX1_singleNamed_0 rfl (lv_at hl 0 rfl) ?_
  refine va_ldcS hx hb hown (hE.2.2.2 0 (19, "NOP HALT BACK LI LIH LIMH LIML") rfl) dX1_singleNamed_1 ?_
  refine va_ldcS hx hb hown (hE.2.2.2 1 (21, "SWYM TRAP JMPB SETL SETH SETMH SETML") rfl) dX1_singleNamed_3 ?_
  refine p_i (W.runS (As := [.int p0, .ref (adK 0), .ref (adK 1)]) (rest := []) ⟨hx, hb, hml, hown, hts⟩ (c_X1_meantBy l adK adV p0 0 1 (by decide) (by decide)) (va_cwS 3 hts gX1_singleNamed_X1_meantBy rfl rfl rfl (by decide +kernel) ⟨Nat.le_of_ble_eq_true rfl, Nat.le_of_ble_eq_true rfl⟩) (p_preS (eS_bl adK adV) hE) rfl rfl hl.1 rfl (lv_room (Nat.le_of_ble_eq_true rfl)) dX1_singleNamed_5 ⟨Nat.le_of_ble_eq_true rfl, Nat.le_of_ble_eq_true rfl⟩) ?_
  refine lv_topi (fun v1 ev1 => ?_)
  refine lv_istore_n (lv' := [(1, .int v1), (0, .int p0)]) hx hb dX1_singleNamed_8 rfl hl (by decide) rfl (fun ls hl => ?_)
  refine va_ldcS hx hb hown (hE.2.2.2 2 (27, "TRAP") rfl) dX1_singleNamed_9 ?_
  refine lv_iconst (v := 0) hx hb dX1_singleNamed_11 (by decide) ?_
  refine lv_iconst (v := 1) hx hb dX1_singleNamed_12 (by decide) ?_
  refine lv_iload_n hx hb dX1_singleNamed_13 rfl (lv_at hl 0 rfl) ?_
  refine p_i (W.runS (As := [.ref (adK 2), .int (0 : Int32), .int (1 : Int32), .int v1]) (rest := []) ⟨hx, hb, hml, hown, hts⟩ (c_X1_opInRow l adK adV 2 (0 : Int32) (1 : Int32) v1 (by decide)) (va_cwS 4 hts gX1_singleNamed_X1_opInRow rfl rfl rfl (by decide +kernel) ⟨Nat.le_of_ble_eq_true rfl, Nat.le_of_ble_eq_true rfl⟩) (p_preS (eS_bl adK adV) hE) rfl rfl hl.1 rfl (lv_room (Nat.le_of_ble_eq_true rfl)) dX1_singleNamed_14 ⟨Nat.le_of_ble_eq_true rfl, Nat.le_of_ble_eq_true rfl⟩) ?_
  refine lv_topi (fun v2 ev2 => ?_)
  refine lv_istore_n (lv' := [(2, .int v2), (1, .int v1), (0, .int p0)]) hx hb dX1_singleNamed_17 rfl hl (by decide) rfl (fun ls hl => ?_)
  refine lv_iload_n hx hb dX1_singleNamed_18 rfl (lv_at hl 0 rfl) ?_
  obtain ⟨z5, ez5⟩ : ∃ q : Int32, q = (pick v2 (f_X1_opInRow 3 (224 : Int32) (1 : Int32) v1)) := ⟨_, rfl⟩
  have k6 : ∀ (v4 : Int32), v4 = z5 → ∀ ls : Array Slot, lv_has ls 3 [(0, .int p0), (1, .int v1), (2, .int v2)] → W p l e rm_X1_singleNamed s m args below meth c s.heap [] 0 0 (MQ below (vp_Si (fun r => r = f_X1_singleNamed p0)) args s 0 0 (fun _ => False)) (F0 m 36 ls [.int v4]) := by
    intro v4 jz5 ls hl
    have ev4 : v4 = z5 := congrArg (fun q => q) jz5
    refine lv_istore_n (lv' := [(2, .int v4), (0, .int p0), (1, .int v1)]) hx hb dX1_singleNamed_36 rfl hl (by decide) rfl (fun ls hl => ?_)
    refine lv_iload_n hx hb dX1_singleNamed_37 rfl (lv_at hl 0 rfl) ?_
    refine lv_if_lt (tgt := 45) hx hb dX1_singleNamed_38 (by decide) (fun c7 => ?_) (fun c7 => ?_)
    · refine va_ldcS hx hb hown (hE.2.2.2 4 (35, "JMP JMPB - - GETA GETAB PUT PUTI - - - - - SWYM GET") rfl) dX1_singleNamed_45 ?_
      refine lv_sipush (v := 240) hx hb dX1_singleNamed_47 (by decide) ?_
      refine lv_iconst (v := 1) hx hb dX1_singleNamed_50 (by decide) ?_
      refine lv_iload_n hx hb dX1_singleNamed_51 rfl (lv_at hl 2 rfl) ?_
      refine p_i (W.runS (As := [.ref (adK 4), .int (240 : Int32), .int (1 : Int32), .int v1]) (rest := []) ⟨hx, hb, hml, hown, hts⟩ (c_X1_opInRow l adK adV 4 (240 : Int32) (1 : Int32) v1 (by decide)) (va_cwS 4 hts gX1_singleNamed_X1_opInRow rfl rfl rfl (by decide +kernel) ⟨Nat.le_of_ble_eq_true rfl, Nat.le_of_ble_eq_true rfl⟩) (p_preS (eS_bl adK adV) hE) rfl rfl hl.1 rfl (lv_room (Nat.le_of_ble_eq_true rfl)) dX1_singleNamed_52 ⟨Nat.le_of_ble_eq_true rfl, Nat.le_of_ble_eq_true rfl⟩) ?_
      exact p_iret ((fe_X1_singleNamed p0).trans (by have ev4 := ev4.symm; subst ev4; have ez5 := ez5.symm; subst ez5; have ev2 := ev2.symm; subst ev2; have ev1 := ev1.symm; subst ev1; exact (if_pos c7).trans (rfl))) hx hb hr hlocks dX1_singleNamed_55
    · refine lv_iload_n hx hb dX1_singleNamed_41 rfl (lv_at hl 0 rfl) ?_
      refine lv_goto (tgt := 55) hx hb dX1_singleNamed_42 (by decide) ?_
      exact p_iret ((fe_X1_singleNamed p0).trans (by have ev4 := ev4.symm; subst ev4; have ez5 := ez5.symm; subst ez5; have ev2 := ev2.symm; subst ev2; have ev1 := ev1.symm; subst ev1; exact (if_neg c7).trans (rfl))) hx hb hr hlocks dX1_singleNamed_55
  refine lv_if_lt (tgt := 26) hx hb dX1_singleNamed_19 (by decide) (fun c3 => ?_) (fun c3 => ?_)
  · refine va_ldcS hx hb hown (hE.2.2.2 3 (33, "SETH SETMH SETML SETL INCH INCMH INCML INCL ORH ORMH ORML ORL ANDNH ANDNMH ANDNML ANDNL") rfl) dX1_singleNamed_26 ?_
    refine lv_sipush (v := 224) hx hb dX1_singleNamed_28 (by decide) ?_
    refine lv_iconst (v := 1) hx hb dX1_singleNamed_31 (by decide) ?_
    refine lv_iload_n hx hb dX1_singleNamed_32 rfl (lv_at hl 1 rfl) ?_
    refine p_i (W.runS (As := [.ref (adK 3), .int (224 : Int32), .int (1 : Int32), .int v1]) (rest := []) ⟨hx, hb, hml, hown, hts⟩ (c_X1_opInRow l adK adV 3 (224 : Int32) (1 : Int32) v1 (by decide)) (va_cwS 4 hts gX1_singleNamed_X1_opInRow rfl rfl rfl (by decide +kernel) ⟨Nat.le_of_ble_eq_true rfl, Nat.le_of_ble_eq_true rfl⟩) (p_preS (eS_bl adK adV) hE) rfl rfl hl.1 rfl (lv_room (Nat.le_of_ble_eq_true rfl)) dX1_singleNamed_33 ⟨Nat.le_of_ble_eq_true rfl, Nat.le_of_ble_eq_true rfl⟩) ?_
    exact k6 (f_X1_opInRow 3 (224 : Int32) (1 : Int32) v1) (ez5.trans ((pick_eq _ _).trans (by exact (if_pos c3).trans (rfl)))).symm ls (lv_sub hl [2, 1, 0] rfl)
  · refine lv_iload_n hx hb dX1_singleNamed_22 rfl (lv_at hl 0 rfl) ?_
    refine lv_goto (tgt := 36) hx hb dX1_singleNamed_23 (by decide) ?_
    exact k6 v2 (ez5.trans ((pick_eq _ _).trans (by exact (if_neg c3).trans (rfl)))).symm ls (lv_sub hl [2, 1, 0] rfl)
