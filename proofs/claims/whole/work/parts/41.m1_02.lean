def f_X4_thrown (u : MS)  : Int32 :=
  m_th u
abbrev rm_X4_thrown : Room := { frames := 0, cells := 0, slots := 0, locals := 0 }
set_option maxRecDepth 20000 in
theorem iw_X4_thrown_X4 : ∀ w ∈ wsX40, w ∈ wsX4_thrown := by decide +kernel
set_option maxHeartbeats 4000000 in
set_option maxRecDepth 100000 in
theorem c_X4_thrown (l : Launch) (yy : Nat → ClassId) (a : Nat → Nat) (u : MS) : gMi l yX4_thrown wsX4_thrown rm_X4_thrown eTrue (sT yy) (wM yy a) [.ref (a 0)] u ((f_X4_thrown u, u)) := by
  refine gm_ofW (Qc := gQi (wM yy a) ((f_X4_thrown u, u))) (by decide) rfl (Nat.le_of_ble_eq_true rfl) ?_
  intro G A p e s m args below meth c hx hb hr hml hts hown hlocks hK hE hA H locs hP hD hS ls hl
  have hl : lv_has ls 1 [(0, .ref (a 0))] := hl
  refine lv_aload_n hx hb dX4_thrown_0 rfl (lv_at hl 0 rfl) ?_
  refine va_get (D := G) (ci := 2) (v := .int (m_th u)) (C := RX4) (T := TX4) (N := 17) hx hb hts iw_X4_thrown_X4 hown hK hP 0 rfl rfl 0 (by decide) (hts (.fieldLink RX4 153 "MixBenchModel" "thrown" "I") (by decide +kernel)) (fun _ h9 => h9) rfl dX4_thrown_1 ?_
  exact g_iret (s_ro (by exact rfl)) hx hb hr hP hD hS hlocks dX4_thrown_4
