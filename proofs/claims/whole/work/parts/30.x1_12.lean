def f_X3_checkedDifference (u : XS) (p0 : Int64) (p1 : Int64) : Int64 × XS :=
  let v1 : Int64 := p0 - p1;
  let z4 : Int32 := (if (0 : Int64) ≤ ((p0 ^^^ p1) &&& (p0 ^^^ v1)) then (0 : Int32) else (1 : Int32));
  let v3 : Int32 := z4;
  let u6 : XS := f_X3_raise u (64 : Int64) v3;
  (v1, u6)
abbrev rm_X3_checkedDifference : Room := { frames := 1, cells := 0, slots := 0, locals := 23 }
set_option maxHeartbeats 4000000 in
set_option maxRecDepth 100000 in
theorem c_X3_checkedDifference (l : Launch) (yy : Nat → ClassId) (a : Nat → Nat) (u : XS) (p0 : Int64) (p1 : Int64) : gMl l yX3_checkedDifference wsX3_checkedDifference rm_X3_checkedDifference eX (sT yy) (wX yy a) [.ref (a 0), .long p0, .long p1] u (f_X3_checkedDifference u p0 p1) := by
  refine gm_ofW (Qc := gQl (wX yy a) (f_X3_checkedDifference u p0 p1)) (by decide) rfl (Nat.le_of_ble_eq_true rfl) ?_
  intro G A p e s m args below meth c hx hb hr hml hts hown hlocks hK hE hA H locs hP hD hS ls hl
  have hl : lv_has ls 7 [(0, .ref (a 0)), (1, .long p0), (3, .long p1)] := hl
  refine lv_lload_n hx hb dX3_checkedDifference_0 rfl (lv_at hl 1 rfl) ?_
  refine lv_lload_n hx hb dX3_checkedDifference_1 rfl (lv_at hl 2 rfl) ?_
  refine lv_lsub hx hb dX3_checkedDifference_2 ?_
  refine lv_topl (fun v1 ev1 => ?_)
  refine lv_lstore (lv' := [(5, .long v1), (0, .ref (a 0)), (1, .long p0), (3, .long p1)]) hx hb dX3_checkedDifference_3 hl (by decide) rfl (fun ls hl => ?_)
  refine lv_aload_n hx hb dX3_checkedDifference_5 rfl (lv_at hl 1 rfl) ?_
  refine lv_ldc2 hx hb hown (hts (.constantLong RX3 199 (64)) (by decide +kernel)) dX3_checkedDifference_6 ?_
  refine lv_lload_n hx hb dX3_checkedDifference_9 rfl (lv_at hl 2 rfl) ?_
  refine lv_lload_n hx hb dX3_checkedDifference_10 rfl (lv_at hl 3 rfl) ?_
  refine lv_lxor hx hb dX3_checkedDifference_11 ?_
  refine lv_lload_n hx hb dX3_checkedDifference_12 rfl (lv_at hl 2 rfl) ?_
  refine lv_lload hx hb dX3_checkedDifference_13 (lv_at hl 0 rfl) ?_
  refine lv_lxor hx hb dX3_checkedDifference_15 ?_
  refine lv_land hx hb dX3_checkedDifference_16 ?_
  refine lv_lconst (v := 0) hx hb dX3_checkedDifference_17 (by decide) ?_
  obtain ⟨z4, ez4⟩ : ∃ q : Int32, q = (if (0 : Int64) ≤ ((p0 ^^^ p1) &&& (p0 ^^^ v1)) then (0 : Int32) else (1 : Int32)) := ⟨_, rfl⟩
  have k5 : ∀ (v3 : Int32), v3 = z4 → ∀ (H : Heap) (locs : List Loc), va_P G vwCl (wX yy a u) H → va_D A (wX yy a u) → va_S A s.heap H locs → ∀ ls : Array Slot, lv_has ls 7 [(0, .ref (a 0)), (1, .long p0), (3, .long p1), (5, .long v1)] → W p l e rm_X3_checkedDifference s m args below meth c H locs 0 0 (MQ below (gQl (wX yy a) (f_X3_checkedDifference u p0 p1) G A) args s 0 0 A) (F0 m 27 ls [.int v3, .long (64 : Int64), .ref (a 0)]) := by
    intro v3 jz4 H locs hP hD hS ls hl
    have ev3 : v3 = z4 := jz4
    refine g_v (va_runV (As := [.long (64 : Int64), .int v3]) (rest := []) ⟨hx, hb, hml, hown, hts⟩ (c_X3_raise l yy a u (64 : Int64) v3  G H.size) (cwV 2 hts gX3_checkedDifference_X3_raise rfl rfl rfl (by decide +kernel) ⟨Nat.le_of_ble_eq_true rfl, Nat.le_of_ble_eq_true rfl⟩) (g_preV eX_bl hK hE hP hD hS hA 0 rfl rfl) rfl rfl hl.1 rfl (lv_room (Nat.le_of_ble_eq_true rfl)) dX3_checkedDifference_27 ⟨Nat.le_of_ble_eq_true rfl, Nat.le_of_ble_eq_true rfl⟩) hD hS hA (fun H locs hP hD hS => ?_)
    obtain ⟨u6, eu6⟩ : ∃ z, z = f_X3_raise u (64 : Int64) v3 := ⟨_, rfl⟩
    have hP : va_P G vwCl (wX yy a u6) H := by rw [eu6]; exact hP
    have hD : va_D A (wX yy a u6) := by rw [eu6]; exact hD
    refine lv_lload hx hb dX3_checkedDifference_30 (lv_at hl 3 rfl) ?_
    exact g_lret (by have eu6 := eu6.symm; subst eu6; have ev3 := ev3.symm; subst ev3; have ez4 := ez4.symm; subst ez4; have ev1 := ev1.symm; subst ev1; exact rfl) hx hb hr hP hD hS hlocks dX3_checkedDifference_32
  refine lc_ge (tgt := 26) hx hb dX3_checkedDifference_18 dX3_checkedDifference_19 (by decide) (fun c2 => ?_) (fun c2 => ?_)
  · refine lv_iconst (v := 0) hx hb dX3_checkedDifference_26 (by decide) ?_
    exact k5 (0 : Int32) (ez4.trans (by exact (if_pos c2).trans (rfl))).symm _ _ hP hD hS ls (lv_sub hl [1, 2, 3, 0] rfl)
  · refine lv_iconst (v := 1) hx hb dX3_checkedDifference_22 (by decide) ?_
    refine lv_goto (tgt := 27) hx hb dX3_checkedDifference_23 (by decide) ?_
    exact k5 (1 : Int32) (ez4.trans (by exact (if_neg c2).trans (rfl))).symm _ _ hP hD hS ls (lv_sub hl [1, 2, 3, 0] rfl)
