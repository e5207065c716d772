set_option maxHeartbeats 4000000 in
set_option maxRecDepth 100000 in
theorem law_c2 {p : Program} {l : Launch} {e : Env} {s : State} {m : MethodId} {below : List Frame} {meth : Method} {c : Code} {b L : Nat} {xs : Nat → Int32} {G : va_G} {yy : Nat → ClassId} {a : Nat → Nat} {ao : Nat} {a2 : Nat → Nat} {x4 : Int32} {kc ns : Nat} {Z : State → Prop} (C0 : lwC p l s m meth c b L xs G yy) (hkc : kc + 1 ≤ 155) (hns : ns + 6 ≤ 22393) (h1 : vp_in (x4 + 1) L) (h2 : vp_in (x4 + 2) L) (h3 : vp_in (x4 + 3) L) (h4 : vp_in (x4 + 4) L)
    (kk : lwK p l e s m below meth c b G yy a ao a2 x4 (kc + 1) (ns + 6) Z 830) : lwK p l e s m below meth c b G yy a ao a2 x4 kc ns Z 254 := by
  intro u f v H locs ls hR hP hD hS hl
  obtain ⟨hx, hb, hml, hown, hts, hX, hbl, hK, hE, hfl⟩ := C0
  have hA : ∀ q : Nat, s.heap.size ≤ q → lwA s q := fun _ h => h
  have hbA : ¬ lwA s b := Nat.not_le.mpr hbl
  refine lv_aload_n hx hb d_law_254 rfl (lv_at hl 1 rfl) ?_
  refine lv_aload_n hx hb d_law_255 rfl (lv_at hl 0 rfl) ?_
  refine lv_iload hx hb d_law_256 (lv_at hl 4 rfl) ?_
  refine lv_iconst (v := 1) hx hb d_law_258 (by decide) ?_
  refine lv_iadd hx hb d_law_259 ?_
  refine va_sld hx hb hX hbl hbA hS h1 d_law_260 ?_
  refine lv_aload_n hx hb d_law_261 rfl (lv_at hl 0 rfl) ?_
  refine lv_iload hx hb d_law_262 (lv_at hl 4 rfl) ?_
  refine lv_iconst (v := 2) hx hb d_law_264 (by decide) ?_
  refine lv_iadd hx hb d_law_265 ?_
  refine va_sld hx hb hX hbl hbA hS h2 d_law_266 ?_
  refine lv_i2l hx hb d_law_267 rfl ?_
  refine lv_bipush (v := 32) hx hb d_law_268 (by decide) ?_
  refine lv_lshl hx hb d_law_270 rfl ?_
  refine lv_aload_n hx hb d_law_271 rfl (lv_at hl 0 rfl) ?_
  refine lv_iload hx hb d_law_272 (lv_at hl 4 rfl) ?_
  refine lv_iconst (v := 3) hx hb d_law_274 (by decide) ?_
  refine lv_iadd hx hb d_law_275 ?_
  refine va_sld hx hb hX hbl hbA hS h3 d_law_276 ?_
  refine lv_i2l hx hb d_law_277 rfl ?_
  refine lv_ldc2 hx hb hown (hts _ wl_c54) d_law_278 ?_
  refine lv_land hx hb d_law_281 ?_
  refine lv_lor hx hb d_law_282 ?_
  refine lv_topl (fun p1 ep1 => ?_)
  refine lv_aload_n hx hb d_law_283 rfl (lv_at hl 3 rfl) ?_
  have hPs := hP.sub (ws' := wM yy a2 v ++ wXo yy a ao (u, f)) [8, 9, 10, 11, 12, 13, 14, 15, 0, 1, 2, 3, 4, 5, 6, 7] rfl
  have hDs := hD.sub (ws' := wM yy a2 v ++ wXo yy a ao (u, f)) [8, 9, 10, 11, 12, 13, 14, 15, 0, 1, 2, 3, 4, 5, 6, 7] (by decide) rfl
  refine lj_i (w := wXo yy a ao) (u := (u, f)) (wr := wM yy a2 v) (vx_runSW (As := [.ref (a 0), .int (xs (x4 + 1).toNatClampNeg), .long p1, .ref ao]) (rest := []) ⟨hx, hb, hml, hown, hts⟩ (c_L_poke l yy a ao u f (xs (x4 + 1).toNatClampNeg) p1 (f_X3_poke u (xs (x4 + 1).toNatClampNeg) p1) (c_X3_poke l hfl yy a u (xs (x4 + 1).toNatClampNeg) p1) (k_poke u (xs (x4 + 1).toNatClampNeg) p1) G H.size) (vx_cwSW 4 hts gL_law_L_poke rfl rfl rfl (by decide +kernel) ⟨Nat.le_of_ble_eq_true rfl, Nat.le_of_ble_eq_true rfl⟩) (g_preS eL_bl hK hE (lj_Pr hPs) (lj_Dr hDs) hS hA) rfl rfl hl.1 rfl (lv_room (Nat.le_of_ble_eq_true rfl)) d_law_284 ⟨hkc, hns⟩) hPs hDs hS hA (fun k1 uo H locs e1 hP hD hS => ?_)
  refine lv_istore (lv' := (5, .int k1) :: lwL b a ao a2 x4) hx hb d_law_287 hl (by decide) rfl (fun ls hl => ?_)
  refine lv_aload_n hx hb d_law_289 rfl (lv_at hl 3 rfl) ?_
  refine lv_aload_n hx hb d_law_290 rfl (lv_at hl 1 rfl) ?_
  refine lv_iload hx hb d_law_291 (lv_at hl 5 rfl) ?_
  refine lv_iconst (v := 1) hx hb d_law_293 (by decide) ?_
  refine lv_iadd hx hb d_law_294 ?_
  refine va_sld hx hb hX hbl hbA hS h1 d_law_295 ?_
  refine lv_aload_n hx hb d_law_296 rfl (lv_at hl 1 rfl) ?_
  refine lv_iload hx hb d_law_297 (lv_at hl 5 rfl) ?_
  refine lv_iconst (v := 2) hx hb d_law_299 (by decide) ?_
  refine lv_iadd hx hb d_law_300 ?_
  refine va_sld hx hb hX hbl hbA hS h2 d_law_301 ?_
  refine lv_i2l hx hb d_law_302 rfl ?_
  refine lv_bipush (v := 32) hx hb d_law_303 (by decide) ?_
  refine lv_lshl hx hb d_law_305 rfl ?_
  refine lv_aload_n hx hb d_law_306 rfl (lv_at hl 1 rfl) ?_
  refine lv_iload hx hb d_law_307 (lv_at hl 5 rfl) ?_
  refine lv_iconst (v := 3) hx hb d_law_309 (by decide) ?_
  refine lv_iadd hx hb d_law_310 ?_
  refine va_sld hx hb hX hbl hbA hS h3 d_law_311 ?_
  refine lv_i2l hx hb d_law_312 rfl ?_
  refine lv_ldc2 hx hb hown (hts _ wl_c54) d_law_313 ?_
  refine lv_land hx hb d_law_316 ?_
  refine lv_lor hx hb d_law_317 ?_
  refine lv_topl (fun p2 ep2 => ?_)
  obtain rfl : p1 = p2 := ep1.trans ep2.symm
  have hPs := hP.sub (ws' := wXo yy a ao uo ++ wM yy a2 v) [8, 9, 10, 11, 12, 13, 14, 15, 0, 1, 2, 3, 4, 5, 6, 7] rfl
  have hDs := hD.sub (ws' := wXo yy a ao uo ++ wM yy a2 v) [8, 9, 10, 11, 12, 13, 14, 15, 0, 1, 2, 3, 4, 5, 6, 7] (by decide) rfl
  refine lj_lo (w := wM yy a2) (u := v) (wr := wXo yy a ao uo) (va_runV (As := [.int (xs (x4 + 1).toNatClampNeg), .long p1]) (rest := []) ⟨hx, hb, hml, hown, hts⟩ (c_X4_poke l yy a2 v (xs (x4 + 1).toNatClampNeg) p1 G H.size) (cwV 2 hts gL_law_X4_poke rfl rfl rfl (by decide +kernel) ⟨Nat.le_of_ble_eq_true rfl, Nat.le_of_ble_eq_true rfl⟩) (g_preV eTrue_bl hK trivial (lj_Pr hPs) (lj_Dr hDs) hS hA 0 rfl rfl) rfl rfl hl.1 rfl (lv_room (Nat.le_of_ble_eq_true rfl)) d_law_318 ⟨hkc, hns⟩) hPs hDs hS hA (fun bb v1 H locs e2 hP hD hS => ?_)
  have hfin := fin_l (q_poke hR (xs (x4 + 1).toNatClampNeg) p1) e1 e2
  clear e1 e2
  refine lv_lstore (lv' := (6, .long bb) :: (5, .int k1) :: lwL b a ao a2 x4) hx hb d_law_321 hl (by decide) rfl (fun ls hl => ?_)
  refine lv_aload_n hx hb d_law_323 rfl (lv_at hl 4 rfl) ?_
  refine lj_i (w := wM yy a2) (u := v1) (wr := wXo yy a ao uo) (va_runV (As := []) (rest := []) ⟨hx, hb, hml, hown, hts⟩ (c_X4_thrown l yy a2 v1 G H.size) (cwV 0 hts gL_law_X4_thrown rfl rfl rfl (by decide +kernel) ⟨Nat.le_of_ble_eq_true rfl, Nat.le_of_ble_eq_true rfl⟩) (g_preV eTrue_bl hK trivial (lj_Pr hP) (lj_Dr hD) hS hA 0 rfl rfl) rfl rfl hl.1 rfl (lv_room (Nat.le_of_ble_eq_true rfl)) d_law_324 ⟨hkc, hns⟩) hP hD hS hA (fun t1 v2 H9 locs9 e3 hP9 hD9 hS9 => ?_)
  obtain ⟨et, e4⟩ := fin_t e3
  clear e3
  subst e4
  refine lv_iload hx hb d_law_327 (lv_at hl 1 rfl) ?_
  refine lv_icmp_eq (tgt := 334) hx hb d_law_329 (by decide) (fun c1 => ?_) (fun c1 => absurd (et.trans hfin.1) c1)
  refine lv_iload hx hb d_law_334 (lv_at hl 1 rfl) ?_
  refine lv_if_ne (tgt := 350) hx hb d_law_336 (by decide) (fun c2 => ?_) (fun c2 => ?_)
  · refine lv_goto (tgt := 830) hx hb d_law_350 (by decide) ?_
    exact kk uo.1 uo.2 v2 H9 locs9 ls hfin.2.2 hP9 hD9 hS9 (lv_sub hl [2, 3, 4, 5, 6] rfl)
  · refine lv_aload_n hx hb d_law_339 rfl (lv_at hl 5 rfl) ?_
    refine lv_iconst (v := 0) hx hb d_law_340 (by decide) ?_
    refine va_lald hx hb hK hP9 0 0 rfl rfl (show vp_in 0 1 from by unfold vp_in; decide) d_law_341 ?_
    refine lv_lload hx hb d_law_342 (lv_at hl 0 rfl) ?_
    refine lc_eq (tgt := 350) hx hb d_law_344 d_law_345 (by decide) (fun c3 => ?_) (fun c3 => absurd (hfin.2.1 c2) c3)
    refine lv_goto (tgt := 830) hx hb d_law_350 (by decide) ?_
    exact kk uo.1 uo.2 v2 H9 locs9 ls hfin.2.2 hP9 hD9 hS9 (lv_sub hl [2, 3, 4, 5, 6] rfl)
