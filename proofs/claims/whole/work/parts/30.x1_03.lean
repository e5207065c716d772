def f_X3_raise (u : XS) (p0 : Int64) (p1 : Int32) : XS :=
  if p1 = (0 : Int32) then
    u
  else
    let u2 : XS := sx_sp u (vp_updL (x_sp u) (7 : Int32).toNatClampNeg ((x_sp u (7 : Int32).toNatClampNeg) ||| p0));
    u2
abbrev rm_X3_raise : Room := { frames := 0, cells := 0, slots := 0, locals := 0 }
set_option maxRecDepth 20000 in
theorem iw_X3_raise_X3 : ∀ w ∈ wsX30, w ∈ wsX3_raise := by decide +kernel
set_option maxHeartbeats 4000000 in
set_option maxRecDepth 100000 in
theorem c_X3_raise (l : Launch) (yy : Nat → ClassId) (a : Nat → Nat) (u : XS) (p0 : Int64) (p1 : Int32) : gMv l yX3_raise wsX3_raise rm_X3_raise eX (sT yy) (wX yy a) [.ref (a 0), .long p0, .int p1] u (f_X3_raise u p0 p1) := by
  refine gm_ofW (Qc := gQv (wX yy a) (f_X3_raise u p0 p1)) (by decide) rfl (Nat.le_of_ble_eq_true rfl) ?_
  intro G A p e s m args below meth c hx hb hr hml hts hown hlocks hK hE hA H locs hP hD hS ls hl
  have hl : lv_has ls 4 [(0, .ref (a 0)), (1, .long p0), (3, .int p1)] := hl
  refine lv_iload_n hx hb dX3_raise_0 rfl (lv_at hl 2 rfl) ?_
  refine lv_if_eq (tgt := 15) hx hb dX3_raise_1 (by decide) (fun c1 => ?_) (fun c1 => ?_)
  · exact g_vret (by exact (if_pos c1).trans (rfl)) hx hb hr hP hD hS hlocks dX3_raise_15
  · refine lv_aload_n hx hb dX3_raise_4 rfl (lv_at hl 0 rfl) ?_
    refine va_get (D := G) (ci := 1) (v := .ref (a 2)) (C := RX3) (T := TX3) (N := 12) hx hb hts iw_X3_raise_X3 hown hK hP 0 rfl rfl 1 (by decide) (hts (.fieldLink RX3 13 "MixBench" "specials" "[J") (by decide +kernel)) (fun _ h9 => h9) rfl dX3_raise_5 ?_
    refine lv_bipush (v := 7) hx hb dX3_raise_8 (by decide) ?_
    refine lv_dup2_11 hx hb dX3_raise_10 rfl rfl ?_
    refine va_lald hx hb hK hP 2 0 rfl rfl (by unfold vp_in; decide) dX3_raise_11 ?_
    refine lv_lload_n hx hb dX3_raise_12 rfl (lv_at hl 1 rfl) ?_
    refine lv_lor hx hb dX3_raise_13 ?_
    refine va_last hx hb hK hP hD hS 2 0 rfl rfl (by unfold vp_in; decide) dX3_raise_14 (fun H locs hP hD hS => ?_)
    obtain ⟨u2, eu2⟩ : ∃ z, z = sx_sp u (vp_updL (x_sp u) (7 : Int32).toNatClampNeg ((x_sp u (7 : Int32).toNatClampNeg) ||| p0)) := ⟨_, rfl⟩
    have hP : va_P G vwCl (wX yy a u2) H := by rw [eu2]; exact hP
    have hD : va_D A (wX yy a u2) := by rw [eu2]; exact hD
    exact g_vret (by have eu2 := eu2.symm; subst eu2; exact (if_neg c1).trans (rfl)) hx hb hr hP hD hS hlocks dX3_raise_15
