def f_X4_number (u : MS) (p0 : Int32) (p1 : Int32) : Int64 :=
  if (p0 &&& (1 : Int32)) = (1 : Int32) then
    p1.toInt64
  else
    m_g u p1.toNatClampNeg
abbrev rm_X4_number : Room := { frames := 0, cells := 0, slots := 0, locals := 0 }
set_option maxRecDepth 20000 in
theorem iw_X4_number_X4 : ∀ w ∈ wsX40, w ∈ wsX4_number := by decide +kernel
set_option maxHeartbeats 4000000 in
set_option maxRecDepth 100000 in
theorem c_X4_number (l : Launch) (yy : Nat → ClassId) (a : Nat → Nat) (u : MS) (p0 : Int32) (p1 : Int32) (h0 : vp_in p1 256) : gMl l yX4_number wsX4_number rm_X4_number eTrue (sT yy) (wM yy a) [.ref (a 0), .int p0, .int p1] u ((f_X4_number u p0 p1, u)) := by
  refine gm_ofW (Qc := gQl (wM yy a) ((f_X4_number u p0 p1, u))) (by decide) rfl (Nat.le_of_ble_eq_true rfl) ?_
  intro G A p e s m args below meth c hx hb hr hml hts hown hlocks hK hE hA H locs hP hD hS ls hl
  have hl : lv_has ls 3 [(0, .ref (a 0)), (1, .int p0), (2, .int p1)] := hl
  refine lv_iload_n hx hb dX4_number_0 rfl (lv_at hl 1 rfl) ?_
  refine lv_iconst (v := 1) hx hb dX4_number_1 (by decide) ?_
  refine lv_iand hx hb dX4_number_2 ?_
  refine lv_iconst (v := 1) hx hb dX4_number_3 (by decide) ?_
  refine lv_icmp_ne (tgt := 12) hx hb dX4_number_4 (by decide) (fun c1 => ?_) (fun c1 => ?_)
  · refine lv_aload_n hx hb dX4_number_12 rfl (lv_at hl 0 rfl) ?_
    refine va_get (D := G) (ci := 2) (v := .ref (a 1)) (C := RX4) (T := TX4) (N := 17) hx hb hts iw_X4_number_X4 hown hK hP 0 rfl rfl 1 (by decide) (hts (.fieldLink RX4 7 "MixBenchModel" "g" "[J") (by decide +kernel)) (fun _ h9 => h9) rfl dX4_number_13 ?_
    refine lv_iload_n hx hb dX4_number_16 rfl (lv_at hl 2 rfl) ?_
    refine va_lald hx hb hK hP 1 0 rfl rfl h0 dX4_number_17 ?_
    exact g_lret (s_ro (by exact (if_neg c1).trans (rfl))) hx hb hr hP hD hS hlocks dX4_number_18
  · refine lv_iload_n hx hb dX4_number_7 rfl (lv_at hl 2 rfl) ?_
    refine lv_i2l (v := p1.toInt64) hx hb dX4_number_8 rfl ?_
    refine lv_goto (tgt := 18) hx hb dX4_number_9 (by decide) ?_
    exact g_lret (s_ro (by exact (if_pos c1).trans (rfl))) hx hb hr hP hD hS hlocks dX4_number_18
