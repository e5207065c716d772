def f_X4_over (u : MS) (p0 : Int32) : MS :=
  if p0 = (0 : Int32) then
    u
  else
    let u2 : MS := sm_sp u (vp_updL (m_sp u) (7 : Int32).toNatClampNeg ((m_sp u (7 : Int32).toNatClampNeg) ||| (64 : Int64)));
    u2
abbrev rm_X4_over : Room := { frames := 0, cells := 0, slots := 0, locals := 0 }
set_option maxRecDepth 20000 in
theorem iw_X4_over_X4 : ∀ w ∈ wsX40, w ∈ wsX4_over := by decide +kernel
set_option maxHeartbeats 4000000 in
set_option maxRecDepth 100000 in
theorem c_X4_over (l : Launch) (yy : Nat → ClassId) (a : Nat → Nat) (u : MS) (p0 : Int32) : gMv l yX4_over wsX4_over rm_X4_over eTrue (sT yy) (wM yy a) [.ref (a 0), .int p0] u (f_X4_over u p0) := by
  refine gm_ofW (Qc := gQv (wM yy a) (f_X4_over u p0)) (by decide) rfl (Nat.le_of_ble_eq_true rfl) ?_
  intro G A p e s m args below meth c hx hb hr hml hts hown hlocks hK hE hA H locs hP hD hS ls hl
  have hl : lv_has ls 2 [(0, .ref (a 0)), (1, .int p0)] := hl
  refine lv_iload_n hx hb dX4_over_0 rfl (lv_at hl 1 rfl) ?_
  refine lv_if_eq (tgt := 17) hx hb dX4_over_1 (by decide) (fun c1 => ?_) (fun c1 => ?_)
  · exact g_vret (by exact (if_pos c1).trans (rfl)) hx hb hr hP hD hS hlocks dX4_over_17
  · refine lv_aload_n hx hb dX4_over_4 rfl (lv_at hl 0 rfl) ?_
    refine va_get (D := G) (ci := 2) (v := .ref (a 2)) (C := RX4) (T := TX4) (N := 17) hx hb hts iw_X4_over_X4 hown hK hP 0 rfl rfl 2 (by decide) (hts (.fieldLink RX4 13 "MixBenchModel" "special" "[J") (by decide +kernel)) (fun _ h9 => h9) rfl dX4_over_5 ?_
    refine lv_bipush (v := 7) hx hb dX4_over_8 (by decide) ?_
    refine lv_dup2_11 hx hb dX4_over_10 rfl rfl ?_
    refine va_lald hx hb hK hP 2 0 rfl rfl (by unfold vp_in; decide) dX4_over_11 ?_
    refine lv_ldc2 hx hb hown (hts (.constantLong RX4 158 (64)) (by decide +kernel)) dX4_over_12 ?_
    refine lv_lor hx hb dX4_over_15 ?_
    refine va_last hx hb hK hP hD hS 2 0 rfl rfl (by unfold vp_in; decide) dX4_over_16 (fun H locs hP hD hS => ?_)
    obtain ⟨u2, eu2⟩ : ∃ z, z = sm_sp u (vp_updL (m_sp u) (7 : Int32).toNatClampNeg ((m_sp u (7 : Int32).toNatClampNeg) ||| (64 : Int64))) := ⟨_, rfl⟩
    have hP : va_P G vwCl (wM yy a u2) H := by rw [eu2]; exact hP
    have hD : va_D A (wM yy a u2) := by rw [eu2]; exact hD
    exact g_vret (by have eu2 := eu2.symm; subst eu2; exact (if_neg c1).trans (rfl)) hx hb hr hP hD hS hlocks dX4_over_17
