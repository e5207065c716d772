def f_X4_add (u : MS) (p0 : Int32) (p1 : Int32) : MS :=
  let u1 : MS := sm_nm u (upd (m_nm u) (m_ct u).toNatClampNeg p0);
  let u2 : MS := sm_cd u1 (upd (m_cd u1) (m_ct u1).toNatClampNeg p1);
  let u3 : MS := sm_ct u2 ((m_ct u2) + (1 : Int32));
  u3
abbrev rm_X4_add : Room := { frames := 0, cells := 0, slots := 0, locals := 0 }
set_option maxRecDepth 20000 in
theorem iw_X4_add_X4 : ∀ w ∈ wsX40, w ∈ wsX4_add := by decide +kernel
set_option maxHeartbeats 4000000 in
set_option maxRecDepth 100000 in
theorem c_X4_add (l : Launch) (yy : Nat → ClassId) (a : Nat → Nat) (u : MS) (p0 : Int32) (p1 : Int32) (h0 : vp_in (m_ct u) 400) : gMv l yX4_add wsX4_add rm_X4_add eTrue (sT yy) (wM yy a) [.ref (a 0), .int p0, .int p1] u (f_X4_add u p0 p1) := by
  refine gm_ofW (Qc := gQv (wM yy a) (f_X4_add u p0 p1)) (by decide) rfl (Nat.le_of_ble_eq_true rfl) ?_
  intro G A p e s m args below meth c hx hb hr hml hts hown hlocks hK hE hA H locs hP hD hS ls hl
  have hl : lv_has ls 3 [(0, .ref (a 0)), (1, .int p0), (2, .int p1)] := hl
  refine lv_aload_n hx hb dX4_add_0 rfl (lv_at hl 0 rfl) ?_
  refine va_get (D := G) (ci := 2) (v := .ref (a 6)) (C := RX4) (T := TX4) (N := 17) hx hb hts iw_X4_add_X4 hown hK hP 0 rfl rfl 13 (by decide) (hts (.fieldLink RX4 26 "MixBenchModel" "names" "[I") (by decide +kernel)) (fun _ h9 => h9) rfl dX4_add_1 ?_
  refine lv_aload_n hx hb dX4_add_4 rfl (lv_at hl 0 rfl) ?_
  refine va_get (D := G) (ci := 2) (v := .int (m_ct u)) (C := RX4) (T := TX4) (N := 17) hx hb hts iw_X4_add_X4 hown hK hP 0 rfl rfl 15 (by decide) (hts (.fieldLink RX4 149 "MixBenchModel" "count" "I") (by decide +kernel)) (fun _ h9 => h9) rfl dX4_add_5 ?_
  refine lv_iload_n hx hb dX4_add_8 rfl (lv_at hl 1 rfl) ?_
  refine va_iast hx hb hK hP hD hS 6 2 rfl rfl (by exact h0) dX4_add_9 (fun H locs hP hD hS => ?_)
  obtain ⟨u1, eu1⟩ : ∃ z, z = sm_nm u (upd (m_nm u) (m_ct u).toNatClampNeg p0) := ⟨_, rfl⟩
  have hP : va_P G vwCl (wM yy a u1) H := by rw [eu1]; exact hP
  have hD : va_D A (wM yy a u1) := by rw [eu1]; exact hD
  refine lv_aload_n hx hb dX4_add_10 rfl (lv_at hl 0 rfl) ?_
  refine va_get (D := G) (ci := 2) (v := .ref (a 7)) (C := RX4) (T := TX4) (N := 17) hx hb hts iw_X4_add_X4 hown hK hP 0 rfl rfl 14 (by decide) (hts (.fieldLink RX4 30 "MixBenchModel" "codes" "[I") (by decide +kernel)) (fun _ h9 => h9) rfl dX4_add_11 ?_
  refine lv_aload_n hx hb dX4_add_14 rfl (lv_at hl 0 rfl) ?_
  refine va_get (D := G) (ci := 2) (v := .int (m_ct u1)) (C := RX4) (T := TX4) (N := 17) hx hb hts iw_X4_add_X4 hown hK hP 0 rfl rfl 15 (by decide) (hts (.fieldLink RX4 149 "MixBenchModel" "count" "I") (by decide +kernel)) (fun _ h9 => h9) rfl dX4_add_15 ?_
  refine lv_iload_n hx hb dX4_add_18 rfl (lv_at hl 2 rfl) ?_
  refine va_iast hx hb hK hP hD hS 7 2 rfl rfl (by have eu1 := eu1.symm; subst eu1; exact h0) dX4_add_19 (fun H locs hP hD hS => ?_)
  obtain ⟨u2, eu2⟩ : ∃ z, z = sm_cd u1 (upd (m_cd u1) (m_ct u1).toNatClampNeg p1) := ⟨_, rfl⟩
  have hP : va_P G vwCl (wM yy a u2) H := by rw [eu2]; exact hP
  have hD : va_D A (wM yy a u2) := by rw [eu2]; exact hD
  refine lv_aload_n hx hb dX4_add_20 rfl (lv_at hl 0 rfl) ?_
  refine lv_dup hx hb dX4_add_21 rfl ?_
  refine va_get (D := G) (ci := 2) (v := .int (m_ct u2)) (C := RX4) (T := TX4) (N := 17) hx hb hts iw_X4_add_X4 hown hK hP 0 rfl rfl 15 (by decide) (hts (.fieldLink RX4 149 "MixBenchModel" "count" "I") (by decide +kernel)) (fun _ h9 => h9) rfl dX4_add_22 ?_
  refine lv_iconst (v := 1) hx hb dX4_add_25 (by decide) ?_
  refine lv_iadd hx hb dX4_add_26 ?_
  refine va_put (D := G) (ci := 2) (v := .int ((m_ct u2) + (1 : Int32))) (ty := .int) (C := RX4) (T := TX4) (N := 17) hx hb hts iw_X4_add_X4 tyX4 tyX4_ok nmX4 hown hK hP hD hS 0 rfl rfl 15 (by decide) (hts (.fieldLink RX4 149 "MixBenchModel" "count" "I") (by decide +kernel)) (fun _ h9 => h9) rfl (by decide +kernel) rfl rfl (Nat.le_of_ble_eq_true rfl) dX4_add_27 (fun H locs hP hD hS => ?_)
  obtain ⟨u3, eu3⟩ : ∃ z, z = sm_ct u2 ((m_ct u2) + (1 : Int32)) := ⟨_, rfl⟩
  have hP : va_P G vwCl (wM yy a u3) H := by rw [eu3]; exact hP
  have hD : va_D A (wM yy a u3) := by rw [eu3]; exact hD
  exact g_vret (by have eu3 := eu3.symm; subst eu3; have eu2 := eu2.symm; subst eu2; have eu1 := eu1.symm; subst eu1; exact rfl) hx hb hr hP hD hS hlocks dX4_add_30
