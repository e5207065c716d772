set_option maxHeartbeats 4000000 in
set_option maxRecDepth 100000 in
theorem law_c11 {p : Program} {l : Launch} {e : Env} {s : State} {m : MethodId} {below : List Frame} {meth : Method} {c : Code} {b L : Nat} {xs : Nat → Int32} {G : va_G} {yy : Nat → ClassId} {a : Nat → Nat} {ao : Nat} {a2 : Nat → Nat} {x4 : Int32} {kc ns : Nat} {Z : State → Prop} (C0 : lwC p l s m meth c b L xs G yy) (hkc : kc + 1 ≤ 155) (hns : ns + 6 ≤ 22393) (h1 : vp_in (x4 + 1) L) (h2 : vp_in (x4 + 2) L) (h3 : vp_in (x4 + 3) L) (h4 : vp_in (x4 + 4) L)
    (kk : lwK p l e s m below meth c b G yy a ao a2 x4 (kc + 1) (ns + 6) Z 830) : lwK p l e s m below meth c b G yy a ao a2 x4 kc ns Z 804 := by
  intro u f v H locs ls hR hP hD hS hl
  obtain ⟨hx, hb, hml, hown, hts, hX, hbl, hK, hE, hfl⟩ := C0
  have hA : ∀ q : Nat, s.heap.size ≤ q → lwA s q := fun _ h => h
  have hbA : ¬ lwA s b := Nat.not_le.mpr hbl
  refine W.widen (k := kc + 1) (n := ns + 6) (by omega) (by omega) ?_
  refine lv_aload_n hx hb d_law_804 rfl (lv_at hl 1 rfl) ?_
  refine lv_aload_n hx hb d_law_805 rfl (lv_at hl 0 rfl) ?_
  refine lv_iload hx hb d_law_806 (lv_at hl 4 rfl) ?_
  refine lv_iconst (v := 1) hx hb d_law_808 (by decide) ?_
  refine lv_iadd hx hb d_law_809 ?_
  refine va_sld hx hb hX hbl hbA hS h1 d_law_810 ?_
  have hPs := hP.sub (ws' := ((ao, .inl (yy 0, 1, .inr (.inl f))) :: wM yy a2 v) ++ wX yy a u) [0, 8, 9, 10, 11, 12, 13, 14, 15, 1, 2, 3, 4, 5, 6, 7] rfl
  have hDs := hD.sub (ws' := ((ao, .inl (yy 0, 1, .inr (.inl f))) :: wM yy a2 v) ++ wX yy a u) [0, 8, 9, 10, 11, 12, 13, 14, 15, 1, 2, 3, 4, 5, 6, 7] (by decide) rfl
  refine lj_lo (w := wX yy a) (u := u) (wr := (ao, .inl (yy 0, 1, .inr (.inl f))) :: wM yy a2 v) (va_runV (As := [.int (xs (x4 + 1).toNatClampNeg)]) (rest := []) ⟨hx, hb, hml, hown, hts⟩ (c_X3_count l yy a u (xs (x4 + 1).toNatClampNeg) G H.size) (cwV 1 hts gL_law_X3_count rfl rfl rfl (by decide +kernel) ⟨Nat.le_of_ble_eq_true rfl, Nat.le_of_ble_eq_true rfl⟩) (g_preV eX_bl hK hE.1 (lj_Pr hPs) (lj_Dr hDs) hS hA 0 rfl rfl) rfl rfl hl.1 rfl (lv_room (Nat.le_of_ble_eq_true rfl)) d_law_811 ⟨hkc, hns⟩) hPs hDs hS hA (fun r1 u1 H locs e1 hP hD hS => ?_)
  refine lv_aload_n hx hb d_law_814 rfl (lv_at hl 2 rfl) ?_
  refine lv_aload_n hx hb d_law_815 rfl (lv_at hl 0 rfl) ?_
  refine lv_iload hx hb d_law_816 (lv_at hl 4 rfl) ?_
  refine lv_iconst (v := 1) hx hb d_law_818 (by decide) ?_
  refine lv_iadd hx hb d_law_819 ?_
  refine va_sld hx hb hX hbl hbA hS h1 d_law_820 ?_
  have hPs := hP.sub (ws' := wXo yy a ao (u1, f) ++ wM yy a2 v) [0, 9, 10, 11, 12, 13, 14, 15, 1, 2, 3, 4, 5, 6, 7, 8] rfl
  have hDs := hD.sub (ws' := wXo yy a ao (u1, f) ++ wM yy a2 v) [0, 9, 10, 11, 12, 13, 14, 15, 1, 2, 3, 4, 5, 6, 7, 8] (by decide) rfl
  refine lj_lo (w := wM yy a2) (u := v) (wr := wXo yy a ao (u1, f)) (va_runV (As := [.int (xs (x4 + 1).toNatClampNeg)]) (rest := [.long r1]) ⟨hx, hb, hml, hown, hts⟩ (c_X4_count l yy a2 v (xs (x4 + 1).toNatClampNeg) G H.size) (cwV 1 hts gL_law_X4_count rfl rfl rfl (by decide +kernel) ⟨Nat.le_of_ble_eq_true rfl, Nat.le_of_ble_eq_true rfl⟩) (g_preV eTrue_bl hK trivial (lj_Pr hPs) (lj_Dr hDs) hS hA 0 rfl rfl) rfl rfl hl.1 rfl (lv_room (Nat.le_of_ble_eq_true rfl)) d_law_821 ⟨hkc, hns⟩) hPs hDs hS hA (fun r2 v1 H locs e2 hP hD hS => ?_)
  have hfin := fin_two (q_count hR (xs (x4 + 1).toNatClampNeg)) e1 e2
  clear e1 e2
  refine lc_eq (tgt := 830) hx hb d_law_824 d_law_825 (by decide) (fun c3 => ?_) (fun c3 => absurd hfin.1 c3)
  exact kk u1 f v1 H locs ls hfin.2 hP hD hS hl
