noncomputable def f0_X1_meantBy (p0 : Int32) (p1 : Nat) (p2 : Nat) : Int32 :=
  let v1 : Int32 := f_X1_placeOf p0 p1;
  if (0 : Int32) ≤ v1 then
    f_X1_nameAt v1 p2
  else
    p0
noncomputable def f_X1_meantBy (p0 : Int32) (p1 : Nat) (p2 : Nat) : Int32 := Classical.choose (⟨f0_X1_meantBy p0 p1 p2, rfl⟩ : ∃ q, q = f0_X1_meantBy p0 p1 p2)
theorem fe_X1_meantBy (p0 : Int32) (p1 : Nat) (p2 : Nat) : f_X1_meantBy p0 p1 p2 = f0_X1_meantBy p0 p1 p2 := Classical.choose_spec (⟨f0_X1_meantBy p0 p1 p2, rfl⟩ : ∃ q, q = f0_X1_meantBy p0 p1 p2)
abbrev rm_X1_meantBy : Room := { frames := 5, cells := 0, slots := 0, locals := 110 }
set_option maxHeartbeats 4000000 in
set_option maxRecDepth 100000 in
theorem c_X1_meantBy (l : Launch) (adK adV : Nat → Nat) (p0 : Int32) (p1 : Nat) (p2 : Nat) (h0 : p1 < 18) (h1 : p2 < 18) : pMi l yX1_meantBy wsX1_meantBy rm_X1_meantBy (eS adK adV) [.int p0, .ref (adK p1), .ref (adK p2)] (f_X1_meantBy p0 p1 p2) := by
  refine pm_ofW (by decide) rfl (Nat.le_of_ble_eq_true rfl) ?_
  intro p e s m args below meth c hx hb hr hml hts hown hlocks hE ls hl
  have hl : lv_has ls 4 [(0, .int p0), (1, .ref (adK p1)), (2, .ref (adK p2))] := hl
  refine lv_iload_n hx hb dX1_meantBy_0 rfl (lv_at hl 0 rfl) ?_
  refine lv_aload_n hx hb dX1_meantBy_1 rfl (lv_at hl 1 rfl) ?_
  refine p_i (W.runS (As := [.int p0, .ref (adK p1)]) (rest := []) ⟨hx, hb, hml, hown, hts⟩ (c_X1_placeOf l adK adV p0 p1 (h0)) (va_cwS 2 hts gX1_meantBy_X1_placeOf rfl rfl rfl (by decide +kernel) ⟨Nat.le_of_ble_eq_true rfl, Nat.le_of_ble_eq_true rfl⟩) (p_preS (eS_bl adK adV) hE) rfl rfl hl.1 rfl (lv_room (Nat.le_of_ble_eq_true rfl)) dX1_meantBy_2 ⟨Nat.le_of_ble_eq_true rfl, Nat.le_of_ble_eq_true rfl⟩) ?_
  refine lv_topi (fun v1 ev1 => ?_)
  refine lv_istore_n (lv' := [(3, .int v1), (0, .int p0), (1, .ref (adK p1)), (2, .ref (adK p2))]) hx hb dX1_meantBy_5 rfl hl (by decide) rfl (fun ls hl => ?_)
  refine lv_iload_n hx hb dX1_meantBy_6 rfl (lv_at hl 0 rfl) ?_
  refine lv_if_ge (tgt := 14) hx hb dX1_meantBy_7 (by decide) (fun c2 => ?_) (fun c2 => ?_)
  · refine lv_iload_n hx hb dX1_meantBy_14 rfl (lv_at hl 0 rfl) ?_
    refine lv_aload_n hx hb dX1_meantBy_15 rfl (lv_at hl 3 rfl) ?_
    refine p_i (W.runS (As := [.int v1, .ref (adK p2)]) (rest := []) ⟨hx, hb, hml, hown, hts⟩ (c_X1_nameAt l adK adV v1 p2 (h1)) (va_cwS 2 hts gX1_meantBy_X1_nameAt rfl rfl rfl (by decide +kernel) ⟨Nat.le_of_ble_eq_true rfl, Nat.le_of_ble_eq_true rfl⟩) (p_preS (eS_bl adK adV) hE) rfl rfl hl.1 rfl (lv_room (Nat.le_of_ble_eq_true rfl)) dX1_meantBy_16 ⟨Nat.le_of_ble_eq_true rfl, Nat.le_of_ble_eq_true rfl⟩) ?_
    exact p_iret ((fe_X1_meantBy p0 p1 p2).trans (by have ev1 := ev1.symm; subst ev1; exact (if_pos c2).trans (rfl))) hx hb hr hlocks dX1_meantBy_19
  · refine lv_iload_n hx hb dX1_meantBy_10 rfl (lv_at hl 1 rfl) ?_
    refine lv_goto (tgt := 19) hx hb dX1_meantBy_11 (by decide) ?_
    exact p_iret ((fe_X1_meantBy p0 p1 p2).trans (by have ev1 := ev1.symm; subst ev1; exact (if_neg c2).trans (rfl))) hx hb hr hlocks dX1_meantBy_19
