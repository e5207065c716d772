noncomputable def f0_X1_opInRow (p0 : Nat) (p1 : Int32) (p2 : Int32) (p3 : Int32) : Int32 :=
  let v1 : Int32 := f_X1_placeOf p3 p0;
  if (0 : Int32) ≤ v1 then
    p1 + (p2 * v1)
  else
    (-1 : Int32)
noncomputable def f_X1_opInRow (p0 : Nat) (p1 : Int32) (p2 : Int32) (p3 : Int32) : Int32 := Classical.choose (⟨f0_X1_opInRow p0 p1 p2 p3, rfl⟩ : ∃ q, q = f0_X1_opInRow p0 p1 p2 p3)
theorem fe_X1_opInRow (p0 : Nat) (p1 : Int32) (p2 : Int32) (p3 : Int32) : f_X1_opInRow p0 p1 p2 p3 = f0_X1_opInRow p0 p1 p2 p3 := Classical.choose_spec (⟨f0_X1_opInRow p0 p1 p2 p3, rfl⟩ : ∃ q, q = f0_X1_opInRow p0 p1 p2 p3)
abbrev rm_X1_opInRow : Room := { frames := 5, cells := 0, slots := 0, locals := 110 }
set_option maxHeartbeats 4000000 in
set_option maxRecDepth 100000 in
theorem c_X1_opInRow (l : Launch) (adK adV : Nat → Nat) (p0 : Nat) (p1 : Int32) (p2 : Int32) (p3 : Int32) (h0 : p0 < 18) : pMi l yX1_opInRow wsX1_opInRow rm_X1_opInRow (eS adK adV) [.ref (adK p0), .int p1, .int p2, .int p3] (f_X1_opInRow p0 p1 p2 p3) := by
  refine pm_ofW (by decide) rfl (Nat.le_of_ble_eq_true rfl) ?_
  intro p e s m args below meth c hx hb hr hml hts hown hlocks hE ls hl
  have hl : lv_has ls 5 [(0, .ref (adK p0)), (1, .int p1), (2, .int p2), (3, .int p3)] := hl
  refine lv_iload_n hx hb dX1_opInRow_0 rfl (lv_at hl 3 rfl) ?_
  refine lv_aload_n hx hb dX1_opInRow_1 rfl (lv_at hl 0 rfl) ?_
  refine p_i (W.runS (As := [.int p3, .ref (adK p0)]) (rest := []) ⟨hx, hb, hml, hown, hts⟩ (c_X1_placeOf l adK adV p3 p0 (h0)) (va_cwS 2 hts gX1_opInRow_X1_placeOf rfl rfl rfl (by decide +kernel) ⟨Nat.le_of_ble_eq_true rfl, Nat.le_of_ble_eq_true rfl⟩) (p_preS (eS_bl adK adV) hE) rfl rfl hl.1 rfl (lv_room (Nat.le_of_ble_eq_true rfl)) dX1_opInRow_2 ⟨Nat.le_of_ble_eq_true rfl, Nat.le_of_ble_eq_true rfl⟩) ?_
  refine lv_topi (fun v1 ev1 => ?_)
  refine lv_istore (lv' := [(4, .int v1), (0, .ref (adK p0)), (1, .int p1), (2, .int p2), (3, .int p3)]) hx hb dX1_opInRow_5 hl (by decide) rfl (fun ls hl => ?_)
  refine lv_iload hx hb dX1_opInRow_7 (lv_at hl 0 rfl) ?_
  refine lv_if_ge (tgt := 16) hx hb dX1_opInRow_9 (by decide) (fun c2 => ?_) (fun c2 => ?_)
  · refine lv_iload_n hx hb dX1_opInRow_16 rfl (lv_at hl 2 rfl) ?_
    refine lv_iload_n hx hb dX1_opInRow_17 rfl (lv_at hl 3 rfl) ?_
    refine lv_iload hx hb dX1_opInRow_18 (lv_at hl 0 rfl) ?_
    refine lv_imul hx hb dX1_opInRow_20 ?_
    refine lv_iadd hx hb dX1_opInRow_21 ?_
    exact p_iret ((fe_X1_opInRow p0 p1 p2 p3).trans (by have ev1 := ev1.symm; subst ev1; exact (if_pos c2).trans (rfl))) hx hb hr hlocks dX1_opInRow_22
  · refine lv_iconst (v := (-1)) hx hb dX1_opInRow_12 (by decide) ?_
    refine lv_goto (tgt := 22) hx hb dX1_opInRow_13 (by decide) ?_
    exact p_iret ((fe_X1_opInRow p0 p1 p2 p3).trans (by have ev1 := ev1.symm; subst ev1; exact (if_neg c2).trans (rfl))) hx hb hr hlocks dX1_opInRow_22
