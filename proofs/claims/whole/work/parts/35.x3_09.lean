def lf_X3_go_37 (q1 : Int32) (q2 : Int32) : Nat → Int32 → XS → Int32 × Int32 × XS
  | 0, w3, u0 => (0, 0, u0)
  | n + 1, w3, u0 =>
    if q2 ≤ w3 then
      (0, (0 : Int32), u0)
    else
      let v9 : Int32 := (f_X3_doNext u0 ).1;
      let u10 : XS := (f_X3_doNext u0 ).2;
      if v9 = (0 : Int32) then
        let v12 : Int32 := w3 + (1 : Int32);
        lf_X3_go_37 q1 q2 n v12 u10
      else
        (0, v9, u10)
def f_X3_go (u : XS) (p0 : Int32) (p1 : Int32) : Int32 × Int32 × XS :=
  if p1 < (1 : Int32) then
    (3, 0, u)
  else
    if p1 ≤ (1000 : Int32) then
      let z5 : XS := (if p0 < (0 : Int32) then u else let u7 : XS := sx_pc u ((p0 &&& (-4 : Int32)).toInt64); u7);
      let u4 : XS := z5;
      lf_X3_go_37 p0 p1 (p1.toNatClampNeg + 1) (0 : Int32) u4
    else
      (3, 0, u)
abbrev rm_X3_go : Room := { frames := 6, cells := 1, slots := 6, locals := 149 }
set_option maxRecDepth 20000 in
theorem iw_X3_go_X3 : ∀ w ∈ wsX30, w ∈ wsX3_go := by decide +kernel
theorem gaX3_go_72 : ∀ w ∈ (vx_atS RX3 72 "java/lang/IllegalArgumentException" ["java/lang/RuntimeException", "java/lang/Exception"]).filter goodWord, w ∈ wsX3_go := fun w h => List.mem_cons_of_mem _ (List.mem_append_right _ h)
set_option maxHeartbeats 4000000 in
set_option maxRecDepth 100000 in
theorem c_X3_go (l : Launch) (hflag : l.stackTraces = false) (yy : Nat → ClassId) (a : Nat → Nat) (u : XS) (p0 : Int32) (p1 : Int32) (h0 : 0 ≤ x_ol u) : gxMi l yX3_go wsX3_go rm_X3_go eX (sT yy) (wX yy a) [.ref (a 0), .int p0, .int p1] u (f_X3_go u p0 p1) := by
  refine gx_ofW (Qc := gxQi (wX yy a) (f_X3_go u p0 p1)) (XC := gxX (wX yy a) (f_X3_go u p0 p1)) (by decide) rfl (Nat.le_of_ble_eq_true rfl) ?_
  intro G A p e s m args below meth c hx hb hr hml hts hown hlocks hout hK hE hA H locs hP hD hS ls hl
  have hl : lv_has ls 5 [(0, .ref (a 0)), (1, .int p0), (2, .int p1)] := hl
  refine lv_iload_n hx hb dX3_go_0 rfl (lv_at hl 2 rfl) ?_
  refine lv_iconst (v := 1) hx hb dX3_go_1 (by decide) ?_
  refine lv_icmp_lt (tgt := 12) hx hb dX3_go_2 (by decide) (fun c1 => ?_) (fun c1 => ?_)
  · exact gx_throw (own := RX3) (cls := "java/lang/IllegalArgumentException") (text := "not 1 to 1000 instructions") (ik := 68) (is := 70) (ic := 72) (by exact (if_pos c1).trans (rfl)) (by decide) rfl hx hb hflag hown rfl (hts (.classLink RX3 68 "java/lang/IllegalArgumentException") (by decide +kernel)) (hts (.initialized "java/lang/IllegalArgumentException") (by decide +kernel)) (hE.2.1 (70, "not 1 to 1000 instructions") (by decide)) (vx_hat (fun w h => hts w (gaX3_go_72 w h)) (by decide +kernel) (vx_c (va_Nw.use rfl (hE.2.2.1.1 "java/lang/IllegalArgumentException" (by decide))) (vx_c (va_Nw.use rfl (hE.2.2.1.2 "java/lang/RuntimeException" (by decide))) (vx_c (va_Nw.use rfl (hE.2.2.1.2 "java/lang/Exception" (by decide))) (vx_c (va_Nw.use rfl (hE.2.2.1.2 "java/lang/Throwable" (by decide))) vx_n))))) (by decide +kernel) hE.2.2.2.1 hE.2.2.2.2.1 hP hD hS (hl.1.trans hml.symm) dX3_go_12 dX3_go_15 dX3_go_16 dX3_go_18 dX3_go_21 hout (Nat.le_of_ble_eq_true rfl) (Nat.le_of_ble_eq_true rfl) (Nat.le_of_ble_eq_true rfl) (Nat.le_of_ble_eq_true rfl) hlocks
  · refine lv_iload_n hx hb dX3_go_5 rfl (lv_at hl 2 rfl) ?_
    refine lv_sipush (v := 1000) hx hb dX3_go_6 (by decide) ?_
    refine lv_icmp_le (tgt := 22) hx hb dX3_go_9 (by decide) (fun c2 => ?_) (fun c2 => ?_)
    · refine lv_iload_n hx hb dX3_go_22 rfl (lv_at hl 1 rfl) ?_
      obtain ⟨z5, ez5⟩ : ∃ q : XS, q = (if p0 < (0 : Int32) then u else let u7 : XS := sx_pc u ((p0 &&& (-4 : Int32)).toInt64); u7) := ⟨_, rfl⟩
      have k6 : ∀ (u4 : XS), u4 = z5 → ∀ (H : Heap) (locs : List Loc), va_P G vwCl (wX yy a u4) H → va_D A (wX yy a u4) → va_S A s.heap H locs → ∀ ls : Array Slot, lv_has ls 5 [(0, .ref (a 0)), (1, .int p0), (2, .int p1)] → W p l e rm_X3_go s m args below meth c H locs 0 0 (vx_MQ below (gxQi (wX yy a) (f_X3_go u p0 p1) G A) (gxX (wX yy a) (f_X3_go u p0 p1) G A) args s 1 6 A) (F0 m 35 ls []) := by
        intro u4 jz5 H locs hP hD hS ls hl
        have eu4 : u4 = z5 := jz5
        refine lv_iconst (v := 0) hx hb dX3_go_35 (by decide) ?_
        refine lv_istore_n (lv' := [(3, .int (0 : Int32)), (0, .ref (a 0)), (1, .int p0), (2, .int p1)]) hx hb dX3_go_36 rfl hl (by decide) rfl (fun ls hl => ?_)
        have loop37 : ∀ (n : Nat) (w3 : Int32) (u0 : XS), 0 ≤ x_ol u0 ∧ w3 = nI (p1.toNatClampNeg + 1 - n) ∧ 0 < n ∧ n ≤ p1.toNatClampNeg + 1 → f_X3_go u p0 p1 = lf_X3_go_37 p0 p1 n w3 u0 → ∀ (H : Heap) (locs : List Loc), va_P G vwCl (wX yy a u0) H → va_D A (wX yy a u0) → va_S A s.heap H locs → ∀ ls : Array Slot, lv_has ls 5 [(3, .int w3), (0, .ref (a 0)), (1, .int p0), (2, .int p1)] → W p l e rm_X3_go s m args below meth c H locs 0 0 (vx_MQ below (gxQi (wX yy a) (f_X3_go u p0 p1) G A) (gxX (wX yy a) (f_X3_go u p0 p1) G A) args s 1 6 A) (F0 m 37 ls []) := by
          intro n
          induction n with
          | zero =>
            intro w3 u0 hI
            exact absurd hI (fun h => Nat.lt_irrefl 0 h.2.2.1)
          | succ n ih =>
            intro w3 u0 hI hf9 H locs hP hD hS ls hl
            refine lv_iload_n hx hb dX3_go_37 rfl (lv_at hl 0 rfl) ?_
            refine lv_iload_n hx hb dX3_go_38 rfl (lv_at hl 3 rfl) ?_
            refine lv_icmp_ge (tgt := 62) hx hb dX3_go_39 (by decide) (fun c8 => ?_) (fun c8 => ?_)
            · refine lv_iconst (v := 0) hx hb dX3_go_62 (by decide) ?_
              exact gx_iret (hf9.trans (by exact (if_pos c8).trans (rfl))) hx hb hr hP hD hS hlocks dX3_go_63
            · refine lv_aload_n hx hb dX3_go_42 rfl (lv_at hl 1 rfl) ?_
              refine g_i (va_runV (As := []) (rest := []) ⟨hx, hb, hml, hown, hts⟩ (c_X3_doNext l yy a u0  (hI.1) G H.size) (cwV 0 hts gX3_go_X3_doNext rfl rfl rfl (by decide +kernel) ⟨Nat.le_of_ble_eq_true rfl, Nat.le_of_ble_eq_true rfl⟩) (g_preV eX_bl hK hE hP hD hS hA 0 rfl rfl) rfl rfl hl.1 rfl (lv_room (Nat.le_of_ble_eq_true rfl)) dX3_go_43 ⟨Nat.le_of_ble_eq_true rfl, Nat.le_of_ble_eq_true rfl⟩) hD hS hA (fun H locs hP hD hS => ?_)
              refine lv_topi (fun v9 ev9 => ?_)
              obtain ⟨u10, eu10⟩ : ∃ z, z = (f_X3_doNext u0 ).2 := ⟨_, rfl⟩
              have hP : va_P G vwCl (wX yy a u10) H := by rw [eu10]; exact hP
              have hD : va_D A (wX yy a u10) := by rw [eu10]; exact hD
              refine lv_istore (lv' := [(4, .int v9), (3, .int w3), (0, .ref (a 0)), (1, .int p0), (2, .int p1)]) hx hb dX3_go_46 hl (by decide) rfl (fun ls hl => ?_)
              refine lv_iload hx hb dX3_go_48 (lv_at hl 0 rfl) ?_
              refine lv_if_eq (tgt := 56) hx hb dX3_go_50 (by decide) (fun c11 => ?_) (fun c11 => ?_)
              · obtain ⟨v12, ev12⟩ : ∃ y : Int32, y = w3 + (1 : Int32) := ⟨_, rfl⟩
                refine lv_iinc (v := v12) (lv' := [(3, .int v12), (4, .int v9), (0, .ref (a 0)), (1, .int p0), (2, .int p1)]) hx hb dX3_go_56 hl (k := 1) rfl (by rw [ev12]; rfl) (by decide) rfl (fun ls hl => ?_)
                refine lv_goto (tgt := 37) hx hb dX3_go_59 (by decide) ?_
                exact ih v12 u10 (by have ev12 := ev12.symm; subst ev12; have eu10 := eu10.symm; subst eu10; have ev9 := ev9.symm; subst ev9; have eu4 := eu4.symm; subst eu4; have ez5 := ez5.symm; subst ez5; exact ⟨ol_doNext _ hI.1, go_next c1 c2 hI.2 c8⟩) (hf9.trans (by have ev12 := ev12.symm; subst ev12; have eu10 := eu10.symm; subst eu10; have ev9 := ev9.symm; subst ev9; exact (if_neg c8).trans ((if_pos c11).trans (rfl)))) _ _ hP hD hS ls (lv_sub hl [0, 2, 3, 4] rfl)
              · refine lv_iload hx hb dX3_go_53 (lv_at hl 0 rfl) ?_
                exact gx_iret (hf9.trans (by have eu10 := eu10.symm; subst eu10; have ev9 := ev9.symm; subst ev9; exact (if_neg c8).trans ((if_neg c11).trans (rfl)))) hx hb hr hP hD hS hlocks dX3_go_55
        exact loop37 (p1.toNatClampNeg + 1) (0 : Int32) u4 (⟨by have eu4 := eu4.symm; subst eu4; have ez5 := ez5.symm; subst ez5; exact ol_n h0 h0, by rw [Nat.sub_self]; rfl, Nat.succ_pos _, Nat.le_refl _⟩) (by have eu4 := eu4.symm; subst eu4; have ez5 := ez5.symm; subst ez5; exact (if_neg c1).trans ((if_pos c2).trans (rfl))) _ _ hP hD hS ls (lv_sub hl [0, 1, 2, 3] rfl)
      refine lv_if_lt (tgt := 35) hx hb dX3_go_23 (by decide) (fun c3 => ?_) (fun c3 => ?_)
      · exact k6 u (ez5.trans (by exact (if_pos c3).trans (rfl))).symm _ _ hP hD hS ls (lv_sub hl [0, 1, 2] rfl)
      · refine lv_aload_n hx hb dX3_go_26 rfl (lv_at hl 0 rfl) ?_
        refine lv_iload_n hx hb dX3_go_27 rfl (lv_at hl 1 rfl) ?_
        refine lv_bipush (v := (-4)) hx hb dX3_go_28 (by decide) ?_
        refine lv_iand hx hb dX3_go_30 ?_
        refine lv_i2l (v := (p0 &&& (-4 : Int32)).toInt64) hx hb dX3_go_31 rfl ?_
        refine va_put (D := G) (ci := 1) (v := .long ((p0 &&& (-4 : Int32)).toInt64)) (ty := .long) (C := RX3) (T := TX3) (N := 12) hx hb hts iw_X3_go_X3 tyX3 tyX3_ok nmX3 hown hK hP hD hS 0 rfl rfl 7 (by decide) (hts (.fieldLink RX3 73 "MixBench" "pc" "J") (by decide +kernel)) (fun _ h9 => h9) rfl (by decide +kernel) rfl rfl (Nat.le_of_ble_eq_true rfl) dX3_go_32 (fun H locs hP hD hS => ?_)
        obtain ⟨u7, eu7⟩ : ∃ z, z = sx_pc u ((p0 &&& (-4 : Int32)).toInt64) := ⟨_, rfl⟩
        have hP : va_P G vwCl (wX yy a u7) H := by rw [eu7]; exact hP
        have hD : va_D A (wX yy a u7) := by rw [eu7]; exact hD
        exact k6 u7 (ez5.trans (by have eu7 := eu7.symm; subst eu7; exact (if_neg c3).trans (rfl))).symm _ _ hP hD hS ls (lv_sub hl [0, 1, 2] rfl)
    · exact gx_throw (own := RX3) (cls := "java/lang/IllegalArgumentException") (text := "not 1 to 1000 instructions") (ik := 68) (is := 70) (ic := 72) (by exact (if_neg c1).trans ((if_neg c2).trans (rfl))) (by decide) rfl hx hb hflag hown rfl (hts (.classLink RX3 68 "java/lang/IllegalArgumentException") (by decide +kernel)) (hts (.initialized "java/lang/IllegalArgumentException") (by decide +kernel)) (hE.2.1 (70, "not 1 to 1000 instructions") (by decide)) (vx_hat (fun w h => hts w (gaX3_go_72 w h)) (by decide +kernel) (vx_c (va_Nw.use rfl (hE.2.2.1.1 "java/lang/IllegalArgumentException" (by decide))) (vx_c (va_Nw.use rfl (hE.2.2.1.2 "java/lang/RuntimeException" (by decide))) (vx_c (va_Nw.use rfl (hE.2.2.1.2 "java/lang/Exception" (by decide))) (vx_c (va_Nw.use rfl (hE.2.2.1.2 "java/lang/Throwable" (by decide))) vx_n))))) (by decide +kernel) hE.2.2.2.1 hE.2.2.2.2.1 hP hD hS (hl.1.trans hml.symm) dX3_go_12 dX3_go_15 dX3_go_16 dX3_go_18 dX3_go_21 hout (Nat.le_of_ble_eq_true rfl) (Nat.le_of_ble_eq_true rfl) (Nat.le_of_ble_eq_true rfl) (Nat.le_of_ble_eq_true rfl) hlocks
