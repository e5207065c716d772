/-! the law's loop -/
theorem lp_in {L j k : Nat} (hL : L ≤ 320) (h : 5 * j + 5 ≤ L) (hk : k < 5) : vp_in (nI (5 * j) + nI k) L := by
  rw [nI_plus]
  exact vp_in_nI (by omega) (by omega)
theorem lp_15 (w : Int32) : ∃ n : Nat, n < 16 ∧ w &&& 15 = nI n := pk_andE w 4 (by decide)
set_option maxHeartbeats 4000000 in
set_option maxRecDepth 100000 in
theorem law_loop {p : Program} {l : Launch} {e : Env} {s : State} {m : MethodId} {below : List Frame} {meth : Method} {c : Code} {b L : Nat} {xs : Nat → Int32} {G : va_G} {yy : Nat → ClassId} {a : Nat → Nat} {ao : Nat} {a2 : Nat → Nat} (hL : L ≤ 320) (C0 : lwC p l s m meth c b L xs G yy) (hr : meth.sig.returnType = ret) (hlocks : meth.locks = false) :
    ∀ (n j : Nat), 5 * j ≤ L → L + 1 ≤ 5 * j + n → lwK p l e s m below meth c b G yy a ao a2 (nI (5 * j)) (16 + j) (21303 + 6 * j) (lw_Z below #[Value.ref b] s) 23 := by
  intro n
  induction n with
  | zero =>
    intro j h1 h2
    exact absurd h2 (by omega)
  | succ n ih =>
    intro j hj hn u f v H locs ls hR hP hD hS hl
    have C1 := C0
    obtain ⟨hx, hb, hml, hown, hts, hX, hbl, hK, hE, hfl⟩ := C1
    have hA : ∀ q : Nat, s.heap.size ≤ q → lwA s q := fun _ h => h
    have hbA : ¬ lwA s b := Nat.not_le.mpr hbl
    refine lv_iload hx hb d_law_23 (lv_at hl 4 rfl) ?_
    refine lv_aload_n hx hb d_law_25 rfl (lv_at hl 0 rfl) ?_
    refine va_slen hx hb hX hbl hbA hS d_law_26 ?_
    refine lv_iconst (v := 5) hx hb d_law_27 (by decide) ?_
    refine lv_isub hx hb d_law_28 ?_
    have e1 : (nI L - 5).toInt = (L : Int) - 5 := pk_sub_toInt (b := 5) (by omega) (by decide)
    have e2 : (nI (5 * j)).toInt = ((5 * j : Nat) : Int) := nI_toInt (by omega)
    refine lv_icmp_gt (tgt := 836) hx hb d_law_29 (by decide) (fun c1 => ?_) (fun c1 => ?_)
    · refine lv_iconst (v := 1) hx hb d_law_836 (by decide) ?_
      refine va_forget (fun q hq => hS.2.2 q hq) ?_
      refine W.widen (k := 155) (n := 22393) (by omega) (by omega) ?_
      exact lw_ret hx hb hr hlocks d_law_837
    · have h5 : 5 * j + 5 ≤ L := by
        have c1 : ¬ nI L - 5 < nI (5 * j) := c1
        rw [Int32.lt_iff_toInt_lt, e1, e2] at c1
        omega
      refine lv_aload_n hx hb d_law_32 rfl (lv_at hl 0 rfl) ?_
      refine lv_iload hx hb d_law_33 (lv_at hl 4 rfl) ?_
      have h0 : vp_in (nI (5 * j)) L := vp_in_nI (by omega) (by omega)
      refine va_sld hx hb hX hbl hbA hS h0 d_law_35 ?_
      refine lv_bipush (v := 15) hx hb d_law_36 (by decide) ?_
      refine lv_iand hx hb d_law_38 ?_
      have hkc : 16 + j + 1 ≤ 155 := by omega
      have hns : 21303 + 6 * j + 6 ≤ 22393 := by omega
      have i1 : vp_in (nI (5 * j) + 1) L := lp_in (k := 1) hL h5 (by decide)
      have i2 : vp_in (nI (5 * j) + 2) L := lp_in (k := 2) hL h5 (by decide)
      have i3 : vp_in (nI (5 * j) + 3) L := lp_in (k := 3) hL h5 (by decide)
      have i4 : vp_in (nI (5 * j) + 4) L := lp_in (k := 4) hL h5 (by decide)
      have kk : lwK p l e s m below meth c b G yy a ao a2 (nI (5 * j)) (16 + j + 1) (21303 + 6 * j + 6) (lw_Z below #[Value.ref b] s) 830 := by
        intro u f v H locs ls hR hP hD hS hl
        refine lv_iinc (v := nI (5 * (j + 1))) (lv' := (4, .int (nI (5 * (j + 1)))) :: [(0, .ref b), (1, .ref (a 0)), (2, .ref (a2 0)), (3, .ref ao)]) hx hb d_law_830 hl (k := 4) rfl (show nI (5 * j) + nI 5 = nI (5 * (j + 1)) from by rw [nI_plus]; rfl) (by decide) rfl (fun ls hl => ?_)
        refine lv_goto (tgt := 23) hx hb d_law_833 (by decide) ?_
        have ih2 := ih (j + 1) (by omega) (by omega)
        rw [show 16 + (j + 1) = 16 + j + 1 from by omega, show 21303 + 6 * (j + 1) = 21303 + 6 * j + 6 from by omega] at ih2
        exact ih2 u f v H locs ls hR hP hD hS (lv_sub hl [1, 2, 3, 4, 0] rfl)
      obtain ⟨w, hw, ew⟩ := lp_15 (xs (nI (5 * j)).toNatClampNeg)
      rw [ew]
      have hcase : w = 0 ∨ w = 1 ∨ w = 2 ∨ w = 3 ∨ w = 4 ∨ w = 5 ∨ w = 6 ∨ w = 7 ∨ w = 8 ∨ w = 9 ∨ w = 10 ∨ w = 11 ∨ 12 ≤ w := by omega
      rcases hcase with rfl | rfl | rfl | rfl | rfl | rfl | rfl | rfl | rfl | rfl | rfl | rfl | h12
      · refine sw_t hx hb 0 (k := 0) (tgt := 100) d_law_39 rfl (by decide) rfl (by decide) ?_
        exact law_c0 C0 hkc hns i1 i2 i3 i4 kk u f v H locs ls hR hP hD hS hl
      · refine sw_t hx hb 1 (k := 1) (tgt := 199) d_law_39 rfl (by decide) rfl (by decide) ?_
        exact law_c1 C0 hkc hns i1 i2 i3 i4 kk u f v H locs ls hR hP hD hS hl
      · refine sw_t hx hb 2 (k := 2) (tgt := 254) d_law_39 rfl (by decide) rfl (by decide) ?_
        exact law_c2 C0 hkc hns i1 i2 i3 i4 kk u f v H locs ls hR hP hD hS hl
      · refine sw_t hx hb 3 (k := 3) (tgt := 353) d_law_39 rfl (by decide) rfl (by decide) ?_
        exact law_c3 C0 hkc hns i1 i2 i3 i4 kk u f v H locs ls hR hP hD hS hl
      · refine sw_t hx hb 4 (k := 4) (tgt := 408) d_law_39 rfl (by decide) rfl (by decide) ?_
        exact law_c4 C0 hkc hns i1 i2 i3 i4 kk u f v H locs ls hR hP hD hS hl
      · refine sw_t hx hb 5 (k := 5) (tgt := 464) d_law_39 rfl (by decide) rfl (by decide) ?_
        exact law_c5 C0 hkc hns i1 i2 i3 i4 kk u f v H locs ls hR hP hD hS hl
      · refine sw_t hx hb 6 (k := 6) (tgt := 556) d_law_39 rfl (by decide) rfl (by decide) ?_
        exact law_c6 C0 hkc hns i1 i2 i3 i4 kk u f v H locs ls hR hP hD hS hl
      · refine sw_t hx hb 7 (k := 7) (tgt := 624) d_law_39 rfl (by decide) rfl (by decide) ?_
        exact law_c7 C0 hkc hns i1 i2 i3 i4 kk u f v H locs ls hR hP hD hS hl
      · refine sw_t hx hb 8 (k := 8) (tgt := 638) d_law_39 rfl (by decide) rfl (by decide) ?_
        exact law_c8 C0 hkc hns i1 i2 i3 i4 kk u f v H locs ls hR hP hD hS hl
      · refine sw_t hx hb 9 (k := 9) (tgt := 693) d_law_39 rfl (by decide) rfl (by decide) ?_
        exact law_c9 C0 hkc hns i1 i2 i3 i4 kk u f v H locs ls hR hP hD hS hl
      · refine sw_t hx hb 10 (k := 10) (tgt := 748) d_law_39 rfl (by decide) rfl (by decide) ?_
        exact law_c10 C0 hkc hns i1 i2 i3 i4 kk u f v H locs ls hR hP hD hS hl
      · refine sw_t hx hb 11 (k := 11) (tgt := 804) d_law_39 rfl (by decide) rfl (by decide) ?_
        exact law_c11 C0 hkc hns i1 i2 i3 i4 kk u f v H locs ls hR hP hD hS hl
      · refine sw_td hx hb [0, 1, 2, 3, 4, 5, 6, 7, 8, 9, 10, 11] (tgt := 830) d_law_39 ?_ (by decide) (by decide) (by decide) ?_
        · intro k hk
          have hne : ∀ q : Nat, q < 12 → ¬ nI w = nI q := fun q hq h => by
            have := nI_inj (by omega) (by omega) h
            omega
          simp only [List.mem_cons, List.not_mem_nil, or_false] at hk
          rcases hk with rfl | rfl | rfl | rfl | rfl | rfl | rfl | rfl | rfl | rfl | rfl | rfl
          · exact hne 0 (by decide)
          · exact hne 1 (by decide)
          · exact hne 2 (by decide)
          · exact hne 3 (by decide)
          · exact hne 4 (by decide)
          · exact hne 5 (by decide)
          · exact hne 6 (by decide)
          · exact hne 7 (by decide)
          · exact hne 8 (by decide)
          · exact hne 9 (by decide)
          · exact hne 10 (by decide)
          · exact hne 11 (by decide)
        · exact W.widen (k := 16 + j + 1) (n := 21303 + 6 * j + 6) (by omega) (by omega) (kk u f v H locs ls hR hP hD hS hl)
