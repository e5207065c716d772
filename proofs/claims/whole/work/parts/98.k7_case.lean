set_option maxHeartbeats 4000000 in
set_option maxRecDepth 100000 in
theorem law_c6 {p : Program} {l : Launch} {e : Env} {s : State} {m : MethodId} {below : List Frame} {meth : Method} {c : Code} {b L : Nat} {xs : Nat → Int32} {G : va_G} {yy : Nat → ClassId} {a : Nat → Nat} {ao : Nat} {a2 : Nat → Nat} {x4 : Int32} {kc ns : Nat} {Z : State → Prop} (C0 : lwC p l s m meth c b L xs G yy) (hkc : kc + 1 ≤ 155) (hns : ns + 6 ≤ 22393) (h1 : vp_in (x4 + 1) L) (h2 : vp_in (x4 + 2) L) (h3 : vp_in (x4 + 3) L) (h4 : vp_in (x4 + 4) L)
    (kk : lwK p l e s m below meth c b G yy a ao a2 x4 (kc + 1) (ns + 6) Z 830) : lwK p l e s m below meth c b G yy a ao a2 x4 kc ns Z 556 := by
  intro u f v H locs ls hR hP hD hS hl
  obtain ⟨hx, hb, hml, hown, hts, hX, hbl, hK, hE, hfl⟩ := C0
  have hA : ∀ q : Nat, s.heap.size ≤ q → lwA s q := fun _ h => h
  have hbA : ¬ lwA s b := Nat.not_le.mpr hbl
  refine lv_aload_n hx hb d_law_556 rfl (lv_at hl 1 rfl) ?_
  refine lv_aload_n hx hb d_law_557 rfl (lv_at hl 0 rfl) ?_
  refine lv_iload hx hb d_law_558 (lv_at hl 4 rfl) ?_
  refine lv_iconst (v := 1) hx hb d_law_560 (by decide) ?_
  refine lv_iadd hx hb d_law_561 ?_
  refine va_sld hx hb hX hbl hbA hS h1 d_law_562 ?_
  refine lv_aload_n hx hb d_law_563 rfl (lv_at hl 0 rfl) ?_
  refine lv_iload hx hb d_law_564 (lv_at hl 4 rfl) ?_
  refine lv_iconst (v := 2) hx hb d_law_566 (by decide) ?_
  refine lv_iadd hx hb d_law_567 ?_
  refine va_sld hx hb hX hbl hbA hS h2 d_law_568 ?_
  refine lv_aload_n hx hb d_law_569 rfl (lv_at hl 3 rfl) ?_
  have hPs := hP.sub (ws' := wM yy a2 v ++ wXo yy a ao (u, f)) [8, 9, 10, 11, 12, 13, 14, 15, 0, 1, 2, 3, 4, 5, 6, 7] rfl
  have hDs := hD.sub (ws' := wM yy a2 v ++ wXo yy a ao (u, f)) [8, 9, 10, 11, 12, 13, 14, 15, 0, 1, 2, 3, 4, 5, 6, 7] (by decide) rfl
  refine lj_i (w := wXo yy a ao) (u := (u, f)) (wr := wM yy a2 v) (vx_runSW (As := [.ref (a 0), .int (xs (x4 + 1).toNatClampNeg), .int (xs (x4 + 2).toNatClampNeg), .ref ao]) (rest := []) ⟨hx, hb, hml, hown, hts⟩ (c_L_go l yy a ao u f (xs (x4 + 1).toNatClampNeg) (xs (x4 + 2).toNatClampNeg) (f_X3_go u (xs (x4 + 1).toNatClampNeg) (xs (x4 + 2).toNatClampNeg)) (c_X3_go l hfl yy a u (xs (x4 + 1).toNatClampNeg) (xs (x4 + 2).toNatClampNeg) hR.ol0) (k_go u (xs (x4 + 1).toNatClampNeg) (xs (x4 + 2).toNatClampNeg)) G H.size) (vx_cwSW 4 hts gL_law_L_go rfl rfl rfl (by decide +kernel) ⟨Nat.le_of_ble_eq_true rfl, Nat.le_of_ble_eq_true rfl⟩) (g_preS eL_bl hK hE (lj_Pr hPs) (lj_Dr hDs) hS hA) rfl rfl hl.1 rfl (lv_room (Nat.le_of_ble_eq_true rfl)) d_law_570 ⟨hkc, hns⟩) hPs hDs hS hA (fun k1 uo H locs e1 hP hD hS => ?_)
  refine lv_istore (lv' := (5, .int k1) :: lwL b a ao a2 x4) hx hb d_law_573 hl (by decide) rfl (fun ls hl => ?_)
  refine lv_aload_n hx hb d_law_575 rfl (lv_at hl 3 rfl) ?_
  refine lv_aload_n hx hb d_law_576 rfl (lv_at hl 1 rfl) ?_
  refine lv_iload hx hb d_law_577 (lv_at hl 5 rfl) ?_
  refine lv_iconst (v := 1) hx hb d_law_579 (by decide) ?_
  refine lv_iadd hx hb d_law_580 ?_
  refine va_sld hx hb hX hbl hbA hS h1 d_law_581 ?_
  refine lv_aload_n hx hb d_law_582 rfl (lv_at hl 1 rfl) ?_
  refine lv_iload hx hb d_law_583 (lv_at hl 5 rfl) ?_
  refine lv_iconst (v := 2) hx hb d_law_585 (by decide) ?_
  refine lv_iadd hx hb d_law_586 ?_
  refine va_sld hx hb hX hbl hbA hS h2 d_law_587 ?_
  have hPs := hP.sub (ws' := wXo yy a ao uo ++ wM yy a2 v) [8, 9, 10, 11, 12, 13, 14, 15, 0, 1, 2, 3, 4, 5, 6, 7] rfl
  have hDs := hD.sub (ws' := wXo yy a ao uo ++ wM yy a2 v) [8, 9, 10, 11, 12, 13, 14, 15, 0, 1, 2, 3, 4, 5, 6, 7] (by decide) rfl
  refine lj_i (w := wM yy a2) (u := v) (wr := wXo yy a ao uo) (va_runV (As := [.int (xs (x4 + 1).toNatClampNeg), .int (xs (x4 + 2).toNatClampNeg)]) (rest := []) ⟨hx, hb, hml, hown, hts⟩ (c_X4_go l yy a2 v (xs (x4 + 1).toNatClampNeg) (xs (x4 + 2).toNatClampNeg) (by rw [← hR.ol]; exact hR.ol0) G H.size) (cwV 2 hts gL_law_X4_go rfl rfl rfl (by decide +kernel) ⟨Nat.le_of_ble_eq_true rfl, Nat.le_of_ble_eq_true rfl⟩) (g_preV eTrue_bl hK trivial (lj_Pr hPs) (lj_Dr hDs) hS hA 0 rfl rfl) rfl rfl hl.1 rfl (lv_room (Nat.le_of_ble_eq_true rfl)) d_law_588 ⟨hkc, hns⟩) hPs hDs hS hA (fun bb v1 H locs e2 hP hD hS => ?_)
  have hfin := fin_i (q_go hR (xs (x4 + 1).toNatClampNeg) (xs (x4 + 2).toNatClampNeg)) e1 e2
  clear e1 e2
  refine lv_istore (lv' := (6, .int bb) :: (5, .int k1) :: lwL b a ao a2 x4) hx hb d_law_591 hl (by decide) rfl (fun ls hl => ?_)
  refine lv_aload_n hx hb d_law_593 rfl (lv_at hl 4 rfl) ?_
  refine lj_i (w := wM yy a2) (u := v1) (wr := wXo yy a ao uo) (va_runV (As := []) (rest := []) ⟨hx, hb, hml, hown, hts⟩ (c_X4_thrown l yy a2 v1 G H.size) (cwV 0 hts gL_law_X4_thrown rfl rfl rfl (by decide +kernel) ⟨Nat.le_of_ble_eq_true rfl, Nat.le_of_ble_eq_true rfl⟩) (g_preV eTrue_bl hK trivial (lj_Pr hP) (lj_Dr hD) hS hA 0 rfl rfl) rfl rfl hl.1 rfl (lv_room (Nat.le_of_ble_eq_true rfl)) d_law_594 ⟨hkc, hns⟩) hP hD hS hA (fun t1 v2 H9 locs9 e3 hP9 hD9 hS9 => ?_)
  obtain ⟨et, e4⟩ := fin_t e3
  clear e3
  subst e4
  refine lv_iload hx hb d_law_597 (lv_at hl 1 rfl) ?_
  refine lv_icmp_eq (tgt := 604) hx hb d_law_599 (by decide) (fun c1 => ?_) (fun c1 => absurd (et.trans hfin.1) c1)
  refine lv_iload hx hb d_law_604 (lv_at hl 1 rfl) ?_
  refine lv_if_ne (tgt := 621) hx hb d_law_606 (by decide) (fun c2 => ?_) (fun c2 => ?_)
  · refine lv_goto (tgt := 830) hx hb d_law_621 (by decide) ?_
    exact kk uo.1 uo.2 v2 H9 locs9 ls hfin.2.2 hP9 hD9 hS9 (lv_sub hl [2, 3, 4, 5, 6] rfl)
  · refine lv_aload_n hx hb d_law_609 rfl (lv_at hl 5 rfl) ?_
    refine lv_iconst (v := 0) hx hb d_law_610 (by decide) ?_
    refine va_lald hx hb hK hP9 0 0 rfl rfl (show vp_in 0 1 from by unfold vp_in; decide) d_law_611 ?_
    refine lv_iload hx hb d_law_612 (lv_at hl 0 rfl) ?_
    refine lv_i2l hx hb d_law_614 rfl ?_
    refine lc_eq (tgt := 621) hx hb d_law_615 d_law_616 (by decide) (fun c3 => ?_) (fun c3 => absurd (hfin.2.1 c2) c3)
    refine lv_goto (tgt := 830) hx hb d_law_621 (by decide) ?_
    exact kk uo.1 uo.2 v2 H9 locs9 ls hfin.2.2 hP9 hD9 hS9 (lv_sub hl [2, 3, 4, 5, 6] rfl)
