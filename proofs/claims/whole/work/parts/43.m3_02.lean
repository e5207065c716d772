def lf_X4_bits_295 (u0 : MS) (q1 : Int32) (q2 : Int32) (q3 : Int32) (q4 : Int32) (q5 : Int64) (q7 : Int64) : Nat → Int64 → Int32 → Int64 × Int32
  | 0, w9, w11 => (w9, w11)
  | n + 1, w9, w11 =>
    if (64 : Int32) ≤ w11 then
      (w9, w11)
    else
      let v26 : Int64 := w9 + ((jlushr (q5 &&& (q7 ^^^ (-1 : Int64))) w11) &&& (1 : Int64));
      let v27 : Int32 := w11 + (1 : Int32);
      lf_X4_bits_295 u0 q1 q2 q3 q4 q5 q7 n v26 v27
def f_X4_bits (u : MS) (p0 : Int32) (p1 : Int32) (p2 : Int32) (p3 : Int32) : Int32 × MS :=
  let v1 : Int64 := m_g u p2.toNatClampNeg;
  let v2 : Int64 := f_X4_number u p0 p3;
  let z4 : Int64 := (if (p0 &&& (254 : Int32)) = (192 : Int32) then let v7 : Int64 := v1 ||| v2; v7 else if (p0 &&& (254 : Int32)) = (194 : Int32) then let v9 : Int64 := v1 ||| (v2 ^^^ (-1 : Int64)); v9 else if (p0 &&& (254 : Int32)) = (196 : Int32) then let v11 : Int64 := (v1 ||| v2) ^^^ (-1 : Int64); v11 else if (p0 &&& (254 : Int32)) = (198 : Int32) then let v13 : Int64 := v1 ^^^ v2; v13 else if (p0 &&& (254 : Int32)) = (200 : Int32) then let v15 : Int64 := v1 &&& v2; v15 else if (p0 &&& (254 : Int32)) = (202 : Int32) then let v17 : Int64 := v1 &&& (v2 ^^^ (-1 : Int64)); v17 else if (p0 &&& (254 : Int32)) = (204 : Int32) then let v19 : Int64 := (v1 &&& v2) ^^^ (-1 : Int64); v19 else if (p0 &&& (254 : Int32)) = (206 : Int32) then let v21 : Int64 := (v1 ^^^ v2) ^^^ (-1 : Int64); v21 else if (p0 &&& (254 : Int32)) = (216 : Int32) then let v23 : Int64 := (v1 &&& (m_sp u (5 : Int32).toNatClampNeg)) ||| (v2 &&& ((m_sp u (5 : Int32).toNatClampNeg) ^^^ (-1 : Int64))); v23 else if (p0 &&& (254 : Int32)) = (218 : Int32) then let v28 : Int64 := (lf_X4_bits_295 u p0 p1 p2 p3 v1 v2 (64 + 1) (0 : Int64) (0 : Int32)).1; let v29 : Int32 := (lf_X4_bits_295 u p0 p1 p2 p3 v1 v2 (64 + 1) (0 : Int64) (0 : Int32)).2; v28 else if (p0 &&& (254 : Int32)) = (220 : Int32) then let z33 : Int32 := (if (p0 &&& (254 : Int32)) = (222 : Int32) then (1 : Int32) else (0 : Int32)); let v32 : Int32 := z33; let v35 : Int64 := f_X4_matrix v1 v2 v32; v35 else if (p0 &&& (254 : Int32)) = (222 : Int32) then let z39 : Int32 := (if (p0 &&& (254 : Int32)) = (222 : Int32) then (1 : Int32) else (0 : Int32)); let v38 : Int32 := z39; let v41 : Int64 := f_X4_matrix v1 v2 v38; v41 else let v42 : Int64 := f_X4_differences v1 v2 (jshl (1 : Int32) ((jshr p0 (1 : Int32)) &&& (3 : Int32))); v42);
  let v3 : Int64 := z4;
  let v43 : Int32 := (f_X4_done u p1 v3).1;
  let u44 : MS := (f_X4_done u p1 v3).2;
  (v43, u44)
abbrev rm_X4_bits : Room := { frames := 2, cells := 0, slots := 0, locals := 54 }
set_option maxRecDepth 20000 in
theorem iw_X4_bits_X4 : ∀ w ∈ wsX40, w ∈ wsX4_bits := by decide +kernel
set_option maxHeartbeats 4000000 in
set_option maxRecDepth 100000 in
theorem c_X4_bits (l : Launch) (yy : Nat → ClassId) (a : Nat → Nat) (u : MS) (p0 : Int32) (p1 : Int32) (p2 : Int32) (p3 : Int32) (h0 : vp_in p1 256) (h1 : vp_in p2 256) (h2 : vp_in p3 256) : gMi l yX4_bits wsX4_bits rm_X4_bits eTrue (sT yy) (wM yy a) [.ref (a 0), .int p0, .int p1, .int p2, .int p3] u (f_X4_bits u p0 p1 p2 p3) := by
  refine gm_ofW (Qc := gQi (wM yy a) (f_X4_bits u p0 p1 p2 p3)) (by decide) rfl (Nat.le_of_ble_eq_true rfl) ?_
  intro G A p e s m args below meth c hx hb hr hml hts hown hlocks hK hE hA H locs hP hD hS ls hl
  have hl : lv_has ls 12 [(0, .ref (a 0)), (1, .int p0), (2, .int p1), (3, .int p2), (4, .int p3)] := hl
  refine lv_aload_n hx hb dX4_bits_0 rfl (lv_at hl 0 rfl) ?_
  refine va_get (D := G) (ci := 2) (v := .ref (a 1)) (C := RX4) (T := TX4) (N := 17) hx hb hts iw_X4_bits_X4 hown hK hP 0 rfl rfl 1 (by decide) (hts (.fieldLink RX4 7 "MixBenchModel" "g" "[J") (by decide +kernel)) (fun _ h9 => h9) rfl dX4_bits_1 ?_
  refine lv_iload_n hx hb dX4_bits_4 rfl (lv_at hl 3 rfl) ?_
  refine va_lald hx hb hK hP 1 0 rfl rfl h1 dX4_bits_5 ?_
  refine lv_topl (fun v1 ev1 => ?_)
  refine lv_lstore (lv' := [(5, .long v1), (0, .ref (a 0)), (1, .int p0), (2, .int p1), (3, .int p2), (4, .int p3)]) hx hb dX4_bits_6 hl (by decide) rfl (fun ls hl => ?_)
  refine lv_aload_n hx hb dX4_bits_8 rfl (lv_at hl 1 rfl) ?_
  refine lv_iload_n hx hb dX4_bits_9 rfl (lv_at hl 2 rfl) ?_
  refine lv_iload hx hb dX4_bits_10 (lv_at hl 5 rfl) ?_
  refine g_l (va_runV (As := [.int p0, .int p3]) (rest := []) ⟨hx, hb, hml, hown, hts⟩ (c_X4_number l yy a u p0 p3 (h2) G H.size) (cwV 2 hts gX4_bits_X4_number rfl rfl rfl (by decide +kernel) ⟨Nat.le_of_ble_eq_true rfl, Nat.le_of_ble_eq_true rfl⟩) (g_preV eTrue_bl hK hE hP hD hS hA 0 rfl rfl) rfl rfl hl.1 rfl (lv_room (Nat.le_of_ble_eq_true rfl)) dX4_bits_12 ⟨Nat.le_of_ble_eq_true rfl, Nat.le_of_ble_eq_true rfl⟩) hD hS hA (fun H locs hP hD hS => ?_)
  have hP : va_P G vwCl (wM yy a u) H := hP
  have hD : va_D A (wM yy a u) := hD
  refine lv_topl (fun v2 ev2 => ?_)
  refine lv_lstore (lv' := [(7, .long v2), (5, .long v1), (0, .ref (a 0)), (1, .int p0), (2, .int p1), (3, .int p2), (4, .int p3)]) hx hb dX4_bits_15 hl (by decide) rfl (fun ls hl => ?_)
  refine lv_lconst (v := 0) hx hb dX4_bits_17 (by decide) ?_
  refine lv_lstore (lv' := [(9, .long (0 : Int64)), (7, .long v2), (5, .long v1), (0, .ref (a 0)), (1, .int p0), (2, .int p1), (3, .int p2), (4, .int p3)]) hx hb dX4_bits_18 hl (by decide) rfl (fun ls hl => ?_)
  refine lv_iload_n hx hb dX4_bits_20 rfl (lv_at hl 4 rfl) ?_
  refine lv_sipush (v := 254) hx hb dX4_bits_21 (by decide) ?_
  refine lv_iand hx hb dX4_bits_24 ?_
  obtain ⟨z4, ez4⟩ : ∃ q : Int64, q = (if (p0 &&& (254 : Int32)) = (192 : Int32) then let v7 : Int64 := v1 ||| v2; v7 else if (p0 &&& (254 : Int32)) = (194 : Int32) then let v9 : Int64 := v1 ||| (v2 ^^^ (-1 : Int64)); v9 else if (p0 &&& (254 : Int32)) = (196 : Int32) then let v11 : Int64 := (v1 ||| v2) ^^^ (-1 : Int64); v11 else if (p0 &&& (254 : Int32)) = (198 : Int32) then let v13 : Int64 := v1 ^^^ v2; v13 else if (p0 &&& (254 : Int32)) = (200 : Int32) then let v15 : Int64 := v1 &&& v2; v15 else if (p0 &&& (254 : Int32)) = (202 : Int32) then let v17 : Int64 := v1 &&& (v2 ^^^ (-1 : Int64)); v17 else if (p0 &&& (254 : Int32)) = (204 : Int32) then let v19 : Int64 := (v1 &&& v2) ^^^ (-1 : Int64); v19 else if (p0 &&& (254 : Int32)) = (206 : Int32) then let v21 : Int64 := (v1 ^^^ v2) ^^^ (-1 : Int64); v21 else if (p0 &&& (254 : Int32)) = (216 : Int32) then let v23 : Int64 := (v1 &&& (m_sp u (5 : Int32).toNatClampNeg)) ||| (v2 &&& ((m_sp u (5 : Int32).toNatClampNeg) ^^^ (-1 : Int64))); v23 else if (p0 &&& (254 : Int32)) = (218 : Int32) then let v28 : Int64 := (lf_X4_bits_295 u p0 p1 p2 p3 v1 v2 (64 + 1) (0 : Int64) (0 : Int32)).1; let v29 : Int32 := (lf_X4_bits_295 u p0 p1 p2 p3 v1 v2 (64 + 1) (0 : Int64) (0 : Int32)).2; v28 else if (p0 &&& (254 : Int32)) = (220 : Int32) then let z33 : Int32 := (if (p0 &&& (254 : Int32)) = (222 : Int32) then (1 : Int32) else (0 : Int32)); let v32 : Int32 := z33; let v35 : Int64 := f_X4_matrix v1 v2 v32; v35 else if (p0 &&& (254 : Int32)) = (222 : Int32) then let z39 : Int32 := (if (p0 &&& (254 : Int32)) = (222 : Int32) then (1 : Int32) else (0 : Int32)); let v38 : Int32 := z39; let v41 : Int64 := f_X4_matrix v1 v2 v38; v41 else let v42 : Int64 := f_X4_differences v1 v2 (jshl (1 : Int32) ((jshr p0 (1 : Int32)) &&& (3 : Int32))); v42) := ⟨_, rfl⟩
  have k5 : ∀ (v3 : Int64), v3 = z4 → ∀ (H : Heap) (locs : List Loc), va_P G vwCl (wM yy a u) H → va_D A (wM yy a u) → va_S A s.heap H locs → ∀ ls : Array Slot, lv_has ls 12 [(0, .ref (a 0)), (1, .int p0), (2, .int p1), (3, .int p2), (4, .int p3), (5, .long v1), (7, .long v2), (9, .long v3)] → W p l e rm_X4_bits s m args below meth c H locs 0 0 (MQ below (gQi (wM yy a) (f_X4_bits u p0 p1 p2 p3) G A) args s 0 0 A) (F0 m 374 ls []) := by
    intro v3 jz4 H locs hP hD hS ls hl
    have ev3 : v3 = z4 := jz4
    refine lv_aload_n hx hb dX4_bits_374 rfl (lv_at hl 0 rfl) ?_
    refine lv_iload_n hx hb dX4_bits_375 rfl (lv_at hl 2 rfl) ?_
    refine lv_lload hx hb dX4_bits_376 (lv_at hl 7 rfl) ?_
    refine g_i (va_runV (As := [.int p1, .long v3]) (rest := []) ⟨hx, hb, hml, hown, hts⟩ (c_X4_done l yy a u p1 v3 (h0) G H.size) (cwV 2 hts gX4_bits_X4_done rfl rfl rfl (by decide +kernel) ⟨Nat.le_of_ble_eq_true rfl, Nat.le_of_ble_eq_true rfl⟩) (g_preV eTrue_bl hK hE hP hD hS hA 0 rfl rfl) rfl rfl hl.1 rfl (lv_room (Nat.le_of_ble_eq_true rfl)) dX4_bits_378 ⟨Nat.le_of_ble_eq_true rfl, Nat.le_of_ble_eq_true rfl⟩) hD hS hA (fun H locs hP hD hS => ?_)
    refine lv_topi (fun v43 ev43 => ?_)
    obtain ⟨u44, eu44⟩ : ∃ z, z = (f_X4_done u p1 v3).2 := ⟨_, rfl⟩
    have hP : va_P G vwCl (wM yy a u44) H := by rw [eu44]; exact hP
    have hD : va_D A (wM yy a u44) := by rw [eu44]; exact hD
    exact g_iret (by have eu44 := eu44.symm; subst eu44; have ev43 := ev43.symm; subst ev43; have ev3 := ev3.symm; subst ev3; have ez4 := ez4.symm; subst ez4; have ev2 := ev2.symm; subst ev2; have ev1 := ev1.symm; subst ev1; exact rfl) hx hb hr hP hD hS hlocks dX4_bits_381
  by_cases c6 : (p0 &&& (254 : Int32)) = 192
  · refine sw_t hx hb 0 (k := 192) (tgt := 164) dX4_bits_25 c6 (by decide) rfl (by decide) ?_
    refine lv_lload hx hb dX4_bits_164 (lv_at hl 2 rfl) ?_
    refine lv_lload hx hb dX4_bits_166 (lv_at hl 1 rfl) ?_
    refine lv_lor hx hb dX4_bits_168 ?_
    refine lv_topl (fun v7 ev7 => ?_)
    refine lv_lstore (lv' := [(9, .long v7), (7, .long v2), (5, .long v1), (0, .ref (a 0)), (1, .int p0), (2, .int p1), (3, .int p2), (4, .int p3)]) hx hb dX4_bits_169 hl (by decide) rfl (fun ls hl => ?_)
    refine lv_goto (tgt := 374) hx hb dX4_bits_171 (by decide) ?_
    exact k5 v7 (ez4.trans (by have ev7 := ev7.symm; subst ev7; exact (if_pos c6).trans (rfl))).symm _ _ hP hD hS ls (lv_sub hl [3, 4, 5, 6, 7, 2, 1, 0] rfl)
  by_cases c8 : (p0 &&& (254 : Int32)) = 194
  · refine sw_t hx hb 2 (k := 194) (tgt := 174) dX4_bits_25 c8 (by decide) rfl (by decide) ?_
    refine lv_lload hx hb dX4_bits_174 (lv_at hl 2 rfl) ?_
    refine lv_lload hx hb dX4_bits_176 (lv_at hl 1 rfl) ?_
    refine lv_ldc2 hx hb hown (hts (.constantLong RX4 261 (-1)) (by decide +kernel)) dX4_bits_178 ?_
    refine lv_lxor hx hb dX4_bits_181 ?_
    refine lv_lor hx hb dX4_bits_182 ?_
    refine lv_topl (fun v9 ev9 => ?_)
    refine lv_lstore (lv' := [(9, .long v9), (7, .long v2), (5, .long v1), (0, .ref (a 0)), (1, .int p0), (2, .int p1), (3, .int p2), (4, .int p3)]) hx hb dX4_bits_183 hl (by decide) rfl (fun ls hl => ?_)
    refine lv_goto (tgt := 374) hx hb dX4_bits_185 (by decide) ?_
    exact k5 v9 (ez4.trans (by have ev9 := ev9.symm; subst ev9; exact (if_neg c6).trans ((if_pos c8).trans (rfl)))).symm _ _ hP hD hS ls (lv_sub hl [3, 4, 5, 6, 7, 2, 1, 0] rfl)
  by_cases c10 : (p0 &&& (254 : Int32)) = 196
  · refine sw_t hx hb 4 (k := 196) (tgt := 188) dX4_bits_25 c10 (by decide) rfl (by decide) ?_
    refine lv_lload hx hb dX4_bits_188 (lv_at hl 2 rfl) ?_
    refine lv_lload hx hb dX4_bits_190 (lv_at hl 1 rfl) ?_
    refine lv_lor hx hb dX4_bits_192 ?_
    refine lv_ldc2 hx hb hown (hts (.constantLong RX4 261 (-1)) (by decide +kernel)) dX4_bits_193 ?_
    refine lv_lxor hx hb dX4_bits_196 ?_
    refine lv_topl (fun v11 ev11 => ?_)
    refine lv_lstore (lv' := [(9, .long v11), (7, .long v2), (5, .long v1), (0, .ref (a 0)), (1, .int p0), (2, .int p1), (3, .int p2), (4, .int p3)]) hx hb dX4_bits_197 hl (by decide) rfl (fun ls hl => ?_)
    refine lv_goto (tgt := 374) hx hb dX4_bits_199 (by decide) ?_
    exact k5 v11 (ez4.trans (by have ev11 := ev11.symm; subst ev11; exact (if_neg c6).trans ((if_neg c8).trans ((if_pos c10).trans (rfl))))).symm _ _ hP hD hS ls (lv_sub hl [3, 4, 5, 6, 7, 2, 1, 0] rfl)
  by_cases c12 : (p0 &&& (254 : Int32)) = 198
  · refine sw_t hx hb 6 (k := 198) (tgt := 202) dX4_bits_25 c12 (by decide) rfl (by decide) ?_
    refine lv_lload hx hb dX4_bits_202 (lv_at hl 2 rfl) ?_
    refine lv_lload hx hb dX4_bits_204 (lv_at hl 1 rfl) ?_
    refine lv_lxor hx hb dX4_bits_206 ?_
    refine lv_topl (fun v13 ev13 => ?_)
    refine lv_lstore (lv' := [(9, .long v13), (7, .long v2), (5, .long v1), (0, .ref (a 0)), (1, .int p0), (2, .int p1), (3, .int p2), (4, .int p3)]) hx hb dX4_bits_207 hl (by decide) rfl (fun ls hl => ?_)
    refine lv_goto (tgt := 374) hx hb dX4_bits_209 (by decide) ?_
    exact k5 v13 (ez4.trans (by have ev13 := ev13.symm; subst ev13; exact (if_neg c6).trans ((if_neg c8).trans ((if_neg c10).trans ((if_pos c12).trans (rfl)))))).symm _ _ hP hD hS ls (lv_sub hl [3, 4, 5, 6, 7, 2, 1, 0] rfl)
  by_cases c14 : (p0 &&& (254 : Int32)) = 200
  · refine sw_t hx hb 8 (k := 200) (tgt := 212) dX4_bits_25 c14 (by decide) rfl (by decide) ?_
    refine lv_lload hx hb dX4_bits_212 (lv_at hl 2 rfl) ?_
    refine lv_lload hx hb dX4_bits_214 (lv_at hl 1 rfl) ?_
    refine lv_land hx hb dX4_bits_216 ?_
    refine lv_topl (fun v15 ev15 => ?_)
    refine lv_lstore (lv' := [(9, .long v15), (7, .long v2), (5, .long v1), (0, .ref (a 0)), (1, .int p0), (2, .int p1), (3, .int p2), (4, .int p3)]) hx hb dX4_bits_217 hl (by decide) rfl (fun ls hl => ?_)
    refine lv_goto (tgt := 374) hx hb dX4_bits_219 (by decide) ?_
    exact k5 v15 (ez4.trans (by have ev15 := ev15.symm; subst ev15; exact (if_neg c6).trans ((if_neg c8).trans ((if_neg c10).trans ((if_neg c12).trans ((if_pos c14).trans (rfl))))))).symm _ _ hP hD hS ls (lv_sub hl [3, 4, 5, 6, 7, 2, 1, 0] rfl)
  by_cases c16 : (p0 &&& (254 : Int32)) = 202
  · refine sw_t hx hb 10 (k := 202) (tgt := 222) dX4_bits_25 c16 (by decide) rfl (by decide) ?_
    refine lv_lload hx hb dX4_bits_222 (lv_at hl 2 rfl) ?_
    refine lv_lload hx hb dX4_bits_224 (lv_at hl 1 rfl) ?_
    refine lv_ldc2 hx hb hown (hts (.constantLong RX4 261 (-1)) (by decide +kernel)) dX4_bits_226 ?_
    refine lv_lxor hx hb dX4_bits_229 ?_
    refine lv_land hx hb dX4_bits_230 ?_
    refine lv_topl (fun v17 ev17 => ?_)
    refine lv_lstore (lv' := [(9, .long v17), (7, .long v2), (5, .long v1), (0, .ref (a 0)), (1, .int p0), (2, .int p1), (3, .int p2), (4, .int p3)]) hx hb dX4_bits_231 hl (by decide) rfl (fun ls hl => ?_)
    refine lv_goto (tgt := 374) hx hb dX4_bits_233 (by decide) ?_
    exact k5 v17 (ez4.trans (by have ev17 := ev17.symm; subst ev17; exact (if_neg c6).trans ((if_neg c8).trans ((if_neg c10).trans ((if_neg c12).trans ((if_neg c14).trans ((if_pos c16).trans (rfl)))))))).symm _ _ hP hD hS ls (lv_sub hl [3, 4, 5, 6, 7, 2, 1, 0] rfl)
  by_cases c18 : (p0 &&& (254 : Int32)) = 204
  · refine sw_t hx hb 12 (k := 204) (tgt := 236) dX4_bits_25 c18 (by decide) rfl (by decide) ?_
    refine lv_lload hx hb dX4_bits_236 (lv_at hl 2 rfl) ?_
    refine lv_lload hx hb dX4_bits_238 (lv_at hl 1 rfl) ?_
    refine lv_land hx hb dX4_bits_240 ?_
    refine lv_ldc2 hx hb hown (hts (.constantLong RX4 261 (-1)) (by decide +kernel)) dX4_bits_241 ?_
    refine lv_lxor hx hb dX4_bits_244 ?_
    refine lv_topl (fun v19 ev19 => ?_)
    refine lv_lstore (lv' := [(9, .long v19), (7, .long v2), (5, .long v1), (0, .ref (a 0)), (1, .int p0), (2, .int p1), (3, .int p2), (4, .int p3)]) hx hb dX4_bits_245 hl (by decide) rfl (fun ls hl => ?_)
    refine lv_goto (tgt := 374) hx hb dX4_bits_247 (by decide) ?_
    exact k5 v19 (ez4.trans (by have ev19 := ev19.symm; subst ev19; exact (if_neg c6).trans ((if_neg c8).trans ((if_neg c10).trans ((if_neg c12).trans ((if_neg c14).trans ((if_neg c16).trans ((if_pos c18).trans (rfl))))))))).symm _ _ hP hD hS ls (lv_sub hl [3, 4, 5, 6, 7, 2, 1, 0] rfl)
  by_cases c20 : (p0 &&& (254 : Int32)) = 206
  · refine sw_t hx hb 14 (k := 206) (tgt := 250) dX4_bits_25 c20 (by decide) rfl (by decide) ?_
    refine lv_lload hx hb dX4_bits_250 (lv_at hl 2 rfl) ?_
    refine lv_lload hx hb dX4_bits_252 (lv_at hl 1 rfl) ?_
    refine lv_lxor hx hb dX4_bits_254 ?_
    refine lv_ldc2 hx hb hown (hts (.constantLong RX4 261 (-1)) (by decide +kernel)) dX4_bits_255 ?_
    refine lv_lxor hx hb dX4_bits_258 ?_
    refine lv_topl (fun v21 ev21 => ?_)
    refine lv_lstore (lv' := [(9, .long v21), (7, .long v2), (5, .long v1), (0, .ref (a 0)), (1, .int p0), (2, .int p1), (3, .int p2), (4, .int p3)]) hx hb dX4_bits_259 hl (by decide) rfl (fun ls hl => ?_)
    refine lv_goto (tgt := 374) hx hb dX4_bits_261 (by decide) ?_
    exact k5 v21 (ez4.trans (by have ev21 := ev21.symm; subst ev21; exact (if_neg c6).trans ((if_neg c8).trans ((if_neg c10).trans ((if_neg c12).trans ((if_neg c14).trans ((if_neg c16).trans ((if_neg c18).trans ((if_pos c20).trans (rfl)))))))))).symm _ _ hP hD hS ls (lv_sub hl [3, 4, 5, 6, 7, 2, 1, 0] rfl)
  by_cases c22 : (p0 &&& (254 : Int32)) = 216
  · refine sw_t hx hb 24 (k := 216) (tgt := 264) dX4_bits_25 c22 (by decide) rfl (by decide) ?_
    refine lv_lload hx hb dX4_bits_264 (lv_at hl 2 rfl) ?_
    refine lv_aload_n hx hb dX4_bits_266 rfl (lv_at hl 3 rfl) ?_
    refine va_get (D := G) (ci := 2) (v := .ref (a 2)) (C := RX4) (T := TX4) (N := 17) hx hb hts iw_X4_bits_X4 hown hK hP 0 rfl rfl 2 (by decide) (hts (.fieldLink RX4 13 "MixBenchModel" "special" "[J") (by decide +kernel)) (fun _ h9 => h9) rfl dX4_bits_267 ?_
    refine lv_iconst (v := 5) hx hb dX4_bits_270 (by decide) ?_
    refine va_lald hx hb hK hP 2 0 rfl rfl (by unfold vp_in; decide) dX4_bits_271 ?_
    refine lv_land hx hb dX4_bits_272 ?_
    refine lv_lload hx hb dX4_bits_273 (lv_at hl 1 rfl) ?_
    refine lv_aload_n hx hb dX4_bits_275 rfl (lv_at hl 3 rfl) ?_
    refine va_get (D := G) (ci := 2) (v := .ref (a 2)) (C := RX4) (T := TX4) (N := 17) hx hb hts iw_X4_bits_X4 hown hK hP 0 rfl rfl 2 (by decide) (hts (.fieldLink RX4 13 "MixBenchModel" "special" "[J") (by decide +kernel)) (fun _ h9 => h9) rfl dX4_bits_276 ?_
    refine lv_iconst (v := 5) hx hb dX4_bits_279 (by decide) ?_
    refine va_lald hx hb hK hP 2 0 rfl rfl (by unfold vp_in; decide) dX4_bits_280 ?_
    refine lv_ldc2 hx hb hown (hts (.constantLong RX4 261 (-1)) (by decide +kernel)) dX4_bits_281 ?_
    refine lv_lxor hx hb dX4_bits_284 ?_
    refine lv_land hx hb dX4_bits_285 ?_
    refine lv_lor hx hb dX4_bits_286 ?_
    refine lv_topl (fun v23 ev23 => ?_)
    refine lv_lstore (lv' := [(9, .long v23), (7, .long v2), (5, .long v1), (0, .ref (a 0)), (1, .int p0), (2, .int p1), (3, .int p2), (4, .int p3)]) hx hb dX4_bits_287 hl (by decide) rfl (fun ls hl => ?_)
    refine lv_goto (tgt := 374) hx hb dX4_bits_289 (by decide) ?_
    exact k5 v23 (ez4.trans (by have ev23 := ev23.symm; subst ev23; exact (if_neg c6).trans ((if_neg c8).trans ((if_neg c10).trans ((if_neg c12).trans ((if_neg c14).trans ((if_neg c16).trans ((if_neg c18).trans ((if_neg c20).trans ((if_pos c22).trans (rfl))))))))))).symm _ _ hP hD hS ls (lv_sub hl [3, 4, 5, 6, 7, 2, 1, 0] rfl)
  by_cases c24 : (p0 &&& (254 : Int32)) = 218
  · refine sw_t hx hb 26 (k := 218) (tgt := 292) dX4_bits_25 c24 (by decide) rfl (by decide) ?_
    refine lv_iconst (v := 0) hx hb dX4_bits_292 (by decide) ?_
    refine lv_istore (lv' := [(11, .int (0 : Int32)), (9, .long (0 : Int64)), (7, .long v2), (5, .long v1), (0, .ref (a 0)), (1, .int p0), (2, .int p1), (3, .int p2), (4, .int p3)]) hx hb dX4_bits_293 hl (by decide) rfl (fun ls hl => ?_)
    have loop295 : ∀ (n : Nat) (w9 : Int64) (w11 : Int32), w11 = nI (64 + 1 - n) ∧ 0 < n ∧ n ≤ 64 + 1 → ∀ (H : Heap) (locs : List Loc), va_P G vwCl (wM yy a u) H → va_D A (wM yy a u) → va_S A s.heap H locs → ∀ ls : Array Slot, lv_has ls 12 [(9, .long w9), (11, .int w11), (0, .ref (a 0)), (1, .int p0), (2, .int p1), (3, .int p2), (4, .int p3), (5, .long v1), (7, .long v2)] → (∀ (H : Heap) (locs : List Loc), va_P G vwCl (wM yy a u) H → va_D A (wM yy a u) → va_S A s.heap H locs → ∀ ls : Array Slot, lv_has ls 12 [(9, .long ((lf_X4_bits_295 u p0 p1 p2 p3 v1 v2 n w9 w11).1)), (11, .int ((lf_X4_bits_295 u p0 p1 p2 p3 v1 v2 n w9 w11).2)), (0, .ref (a 0)), (1, .int p0), (2, .int p1), (3, .int p2), (4, .int p3), (5, .long v1), (7, .long v2)] → W p l e rm_X4_bits s m args below meth c H locs 0 0 (MQ below (gQi (wM yy a) (f_X4_bits u p0 p1 p2 p3) G A) args s 0 0 A) (F0 m 327 ls [])) → W p l e rm_X4_bits s m args below meth c H locs 0 0 (MQ below (gQi (wM yy a) (f_X4_bits u p0 p1 p2 p3) G A) args s 0 0 A) (F0 m 295 ls []) := by
      intro n
      induction n with
      | zero =>
        intro w9 w11 hI
        exact absurd hI (fun h => Nat.lt_irrefl 0 h.2.1)
      | succ n ih =>
        intro w9 w11 hI H locs hP hD hS ls hl kx
        refine lv_iload hx hb dX4_bits_295 (lv_at hl 1 rfl) ?_
        refine lv_bipush (v := 64) hx hb dX4_bits_297 (by decide) ?_
        refine lv_icmp_ge (tgt := 327) hx hb dX4_bits_299 (by decide) (fun c25 => ?_) (fun c25 => ?_)
        · have hn : lf_X4_bits_295 u p0 p1 p2 p3 v1 v2 (n + 1) w9 w11 = (w9, w11) := (by exact (if_pos c25).trans (rfl))
          rw [hn] at kx
          exact kx _ _ hP hD hS ls (lv_sub hl [0, 1, 2, 3, 4, 5, 6, 7, 8] rfl)
        · refine lv_lload hx hb dX4_bits_302 (lv_at hl 0 rfl) ?_
          refine lv_lload hx hb dX4_bits_304 (lv_at hl 7 rfl) ?_
          refine lv_lload hx hb dX4_bits_306 (lv_at hl 8 rfl) ?_
          refine lv_ldc2 hx hb hown (hts (.constantLong RX4 261 (-1)) (by decide +kernel)) dX4_bits_308 ?_
          refine lv_lxor hx hb dX4_bits_311 ?_
          refine lv_land hx hb dX4_bits_312 ?_
          refine lv_iload hx hb dX4_bits_313 (lv_at hl 1 rfl) ?_
          refine lv_lushr (v := jlushr (v1 &&& (v2 ^^^ (-1 : Int64))) w11) hx hb dX4_bits_315 rfl ?_
          refine lv_lconst (v := 1) hx hb dX4_bits_316 (by decide) ?_
          refine lv_land hx hb dX4_bits_317 ?_
          refine lv_ladd hx hb dX4_bits_318 ?_
          refine lv_topl (fun v26 ev26 => ?_)
          refine lv_lstore (lv' := [(9, .long v26), (11, .int w11), (0, .ref (a 0)), (1, .int p0), (2, .int p1), (3, .int p2), (4, .int p3), (5, .long v1), (7, .long v2)]) hx hb dX4_bits_319 hl (by decide) rfl (fun ls hl => ?_)
          obtain ⟨v27, ev27⟩ : ∃ y : Int32, y = w11 + (1 : Int32) := ⟨_, rfl⟩
          refine lv_iinc (v := v27) (lv' := [(11, .int v27), (9, .long v26), (0, .ref (a 0)), (1, .int p0), (2, .int p1), (3, .int p2), (4, .int p3), (5, .long v1), (7, .long v2)]) hx hb dX4_bits_321 hl (k := 1) rfl (by rw [ev27]; rfl) (by decide) rfl (fun ls hl => ?_)
          refine lv_goto (tgt := 295) hx hb dX4_bits_324 (by decide) ?_
          have hn : lf_X4_bits_295 u p0 p1 p2 p3 v1 v2 (n + 1) w9 w11 = lf_X4_bits_295 u p0 p1 p2 p3 v1 v2 n v26 v27 := (by have ev27 := ev27.symm; subst ev27; have ev26 := ev26.symm; subst ev26; exact (if_neg c25).trans (rfl))
          rw [hn] at kx
          exact ih v26 v27 (by have ev27 := ev27.symm; subst ev27; have ev26 := ev26.symm; subst ev26; have ev2 := ev2.symm; subst ev2; have ev1 := ev1.symm; subst ev1; exact up_next (N := 64) (by decide) hI c25) _ _ hP hD hS ls (lv_sub hl [1, 0, 2, 3, 4, 5, 6, 7, 8] rfl) kx
    refine loop295 (64 + 1) (0 : Int64) (0 : Int32) (⟨by rw [Nat.sub_self]; rfl, Nat.succ_pos _, Nat.le_refl _⟩) _ _ hP hD hS ls (lv_sub hl [1, 0, 4, 5, 6, 7, 8, 3, 2] rfl) ?_
    intro H locs hP hD hS ls hl
    obtain ⟨v28, ev28⟩ : ∃ z, z = (lf_X4_bits_295 u p0 p1 p2 p3 v1 v2 (64 + 1) (0 : Int64) (0 : Int32)).1 := ⟨_, rfl⟩
    obtain ⟨v29, ev29⟩ : ∃ z, z = (lf_X4_bits_295 u p0 p1 p2 p3 v1 v2 (64 + 1) (0 : Int64) (0 : Int32)).2 := ⟨_, rfl⟩
    have hl : lv_has ls 12 [(9, .long v28), (11, .int v29), (0, .ref (a 0)), (1, .int p0), (2, .int p1), (3, .int p2), (4, .int p3), (5, .long v1), (7, .long v2)] := by rw [ev28, ev29]; exact hl
    refine lv_goto (tgt := 374) hx hb dX4_bits_327 (by decide) ?_
    exact k5 v28 (ez4.trans (by have ev29 := ev29.symm; subst ev29; have ev28 := ev28.symm; subst ev28; exact (if_neg c6).trans ((if_neg c8).trans ((if_neg c10).trans ((if_neg c12).trans ((if_neg c14).trans ((if_neg c16).trans ((if_neg c18).trans ((if_neg c20).trans ((if_neg c22).trans ((if_pos c24).trans (rfl)))))))))))).symm _ _ hP hD hS ls (lv_sub hl [2, 3, 4, 5, 6, 7, 8, 0] rfl)
  by_cases c30 : (p0 &&& (254 : Int32)) = 220
  · refine sw_t hx hb 28 (k := 220) (tgt := 330) dX4_bits_25 c30 (by decide) rfl (by decide) ?_
    refine lv_lload hx hb dX4_bits_330 (lv_at hl 2 rfl) ?_
    refine lv_lload hx hb dX4_bits_332 (lv_at hl 1 rfl) ?_
    refine lv_iload_n hx hb dX4_bits_334 rfl (lv_at hl 4 rfl) ?_
    refine lv_sipush (v := 254) hx hb dX4_bits_335 (by decide) ?_
    refine lv_iand hx hb dX4_bits_338 ?_
    refine lv_sipush (v := 222) hx hb dX4_bits_339 (by decide) ?_
    obtain ⟨z33, ez33⟩ : ∃ q : Int32, q = (if (p0 &&& (254 : Int32)) = (222 : Int32) then (1 : Int32) else (0 : Int32)) := ⟨_, rfl⟩
    have k34 : ∀ (v32 : Int32), v32 = z33 → ∀ (H : Heap) (locs : List Loc), va_P G vwCl (wM yy a u) H → va_D A (wM yy a u) → va_S A s.heap H locs → ∀ ls : Array Slot, lv_has ls 12 [(0, .ref (a 0)), (1, .int p0), (2, .int p1), (3, .int p2), (4, .int p3), (5, .long v1), (7, .long v2), (9, .long (0 : Int64))] → W p l e rm_X4_bits s m args below meth c H locs 0 0 (MQ below (gQi (wM yy a) (f_X4_bits u p0 p1 p2 p3) G A) args s 0 0 A) (F0 m 350 ls [.int v32, .long v2, .long v1]) := by
      intro v32 jz33 H locs hP hD hS ls hl
      have ev32 : v32 = z33 := jz33
      refine p_l (W.runS (As := [.long v1, .long v2, .int v32]) (rest := []) ⟨hx, hb, hml, hown, hts⟩ (c_X4_matrix l v1 v2 v32 ) (va_cwS 3 hts gX4_bits_X4_matrix rfl rfl rfl (by decide +kernel) ⟨Nat.le_of_ble_eq_true rfl, Nat.le_of_ble_eq_true rfl⟩) p_preT rfl rfl hl.1 rfl (lv_room (Nat.le_of_ble_eq_true rfl)) dX4_bits_350 ⟨Nat.le_of_ble_eq_true rfl, Nat.le_of_ble_eq_true rfl⟩) ?_
      refine lv_topl (fun v35 ev35 => ?_)
      refine lv_lstore (lv' := [(9, .long v35), (0, .ref (a 0)), (1, .int p0), (2, .int p1), (3, .int p2), (4, .int p3), (5, .long v1), (7, .long v2)]) hx hb dX4_bits_353 hl (by decide) rfl (fun ls hl => ?_)
      refine lv_goto (tgt := 374) hx hb dX4_bits_355 (by decide) ?_
      exact k5 v35 (ez4.trans (by have ev35 := ev35.symm; subst ev35; have ev32 := ev32.symm; subst ev32; have ez33 := ez33.symm; subst ez33; exact (if_neg c6).trans ((if_neg c8).trans ((if_neg c10).trans ((if_neg c12).trans ((if_neg c14).trans ((if_neg c16).trans ((if_neg c18).trans ((if_neg c20).trans ((if_neg c22).trans ((if_neg c24).trans ((if_pos c30).trans (rfl))))))))))))).symm _ _ hP hD hS ls (lv_sub hl [1, 2, 3, 4, 5, 6, 7, 0] rfl)
    refine lv_icmp_ne (tgt := 349) hx hb dX4_bits_342 (by decide) (fun c31 => ?_) (fun c31 => ?_)
    · refine lv_iconst (v := 0) hx hb dX4_bits_349 (by decide) ?_
      exact k34 (0 : Int32) (ez33.trans (by exact (if_neg c31).trans (rfl))).symm _ _ hP hD hS ls (lv_sub hl [3, 4, 5, 6, 7, 2, 1, 0] rfl)
    · refine lv_iconst (v := 1) hx hb dX4_bits_345 (by decide) ?_
      refine lv_goto (tgt := 350) hx hb dX4_bits_346 (by decide) ?_
      exact k34 (1 : Int32) (ez33.trans (by exact (if_pos c31).trans (rfl))).symm _ _ hP hD hS ls (lv_sub hl [3, 4, 5, 6, 7, 2, 1, 0] rfl)
  by_cases c36 : (p0 &&& (254 : Int32)) = 222
  · refine sw_t hx hb 30 (k := 222) (tgt := 330) dX4_bits_25 c36 (by decide) rfl (by decide) ?_
    refine lv_lload hx hb dX4_bits_330 (lv_at hl 2 rfl) ?_
    refine lv_lload hx hb dX4_bits_332 (lv_at hl 1 rfl) ?_
    refine lv_iload_n hx hb dX4_bits_334 rfl (lv_at hl 4 rfl) ?_
    refine lv_sipush (v := 254) hx hb dX4_bits_335 (by decide) ?_
    refine lv_iand hx hb dX4_bits_338 ?_
    refine lv_sipush (v := 222) hx hb dX4_bits_339 (by decide) ?_
    obtain ⟨z39, ez39⟩ : ∃ q : Int32, q = (if (p0 &&& (254 : Int32)) = (222 : Int32) then (1 : Int32) else (0 : Int32)) := ⟨_, rfl⟩
    have k40 : ∀ (v38 : Int32), v38 = z39 → ∀ (H : Heap) (locs : List Loc), va_P G vwCl (wM yy a u) H → va_D A (wM yy a u) → va_S A s.heap H locs → ∀ ls : Array Slot, lv_has ls 12 [(0, .ref (a 0)), (1, .int p0), (2, .int p1), (3, .int p2), (4, .int p3), (5, .long v1), (7, .long v2), (9, .long (0 : Int64))] → W p l e rm_X4_bits s m args below meth c H locs 0 0 (MQ below (gQi (wM yy a) (f_X4_bits u p0 p1 p2 p3) G A) args s 0 0 A) (F0 m 350 ls [.int v38, .long v2, .long v1]) := by
      intro v38 jz39 H locs hP hD hS ls hl
      have ev38 : v38 = z39 := jz39
      refine p_l (W.runS (As := [.long v1, .long v2, .int v38]) (rest := []) ⟨hx, hb, hml, hown, hts⟩ (c_X4_matrix l v1 v2 v38 ) (va_cwS 3 hts gX4_bits_X4_matrix rfl rfl rfl (by decide +kernel) ⟨Nat.le_of_ble_eq_true rfl, Nat.le_of_ble_eq_true rfl⟩) p_preT rfl rfl hl.1 rfl (lv_room (Nat.le_of_ble_eq_true rfl)) dX4_bits_350 ⟨Nat.le_of_ble_eq_true rfl, Nat.le_of_ble_eq_true rfl⟩) ?_
      refine lv_topl (fun v41 ev41 => ?_)
      refine lv_lstore (lv' := [(9, .long v41), (0, .ref (a 0)), (1, .int p0), (2, .int p1), (3, .int p2), (4, .int p3), (5, .long v1), (7, .long v2)]) hx hb dX4_bits_353 hl (by decide) rfl (fun ls hl => ?_)
      refine lv_goto (tgt := 374) hx hb dX4_bits_355 (by decide) ?_
      exact k5 v41 (ez4.trans (by have ev41 := ev41.symm; subst ev41; have ev38 := ev38.symm; subst ev38; have ez39 := ez39.symm; subst ez39; exact (if_neg c6).trans ((if_neg c8).trans ((if_neg c10).trans ((if_neg c12).trans ((if_neg c14).trans ((if_neg c16).trans ((if_neg c18).trans ((if_neg c20).trans ((if_neg c22).trans ((if_neg c24).trans ((if_neg c30).trans ((if_pos c36).trans (rfl)))))))))))))).symm _ _ hP hD hS ls (lv_sub hl [1, 2, 3, 4, 5, 6, 7, 0] rfl)
    refine lv_icmp_ne (tgt := 349) hx hb dX4_bits_342 (by decide) (fun c37 => ?_) (fun c37 => ?_)
    · refine lv_iconst (v := 0) hx hb dX4_bits_349 (by decide) ?_
      exact k40 (0 : Int32) (ez39.trans (by exact (if_neg c37).trans (rfl))).symm _ _ hP hD hS ls (lv_sub hl [3, 4, 5, 6, 7, 2, 1, 0] rfl)
    · refine lv_iconst (v := 1) hx hb dX4_bits_345 (by decide) ?_
      refine lv_goto (tgt := 350) hx hb dX4_bits_346 (by decide) ?_
      exact k40 (1 : Int32) (ez39.trans (by exact (if_pos c37).trans (rfl))).symm _ _ hP hD hS ls (lv_sub hl [3, 4, 5, 6, 7, 2, 1, 0] rfl)
  refine sw_td hx hb [192, 194, 196, 198, 200, 202, 204, 206, 216, 218, 220, 222] (tgt := 358) dX4_bits_25 (List.forall_mem_cons.mpr ⟨c6, (List.forall_mem_cons.mpr ⟨c8, (List.forall_mem_cons.mpr ⟨c10, (List.forall_mem_cons.mpr ⟨c12, (List.forall_mem_cons.mpr ⟨c14, (List.forall_mem_cons.mpr ⟨c16, (List.forall_mem_cons.mpr ⟨c18, (List.forall_mem_cons.mpr ⟨c20, (List.forall_mem_cons.mpr ⟨c22, (List.forall_mem_cons.mpr ⟨c24, (List.forall_mem_cons.mpr ⟨c30, (List.forall_mem_cons.mpr ⟨c36, (fun _ h => absurd h List.not_mem_nil)⟩)⟩)⟩)⟩)⟩)⟩)⟩)⟩)⟩)⟩)⟩)⟩) (by decide) (by decide) (by decide) ?_
  refine lv_lload hx hb dX4_bits_358 (lv_at hl 2 rfl) ?_
  refine lv_lload hx hb dX4_bits_360 (lv_at hl 1 rfl) ?_
  refine lv_iconst (v := 1) hx hb dX4_bits_362 (by decide) ?_
  refine lv_iload_n hx hb dX4_bits_363 rfl (lv_at hl 4 rfl) ?_
  refine lv_iconst (v := 1) hx hb dX4_bits_364 (by decide) ?_
  refine lv_ishr hx hb dX4_bits_365 ?_
  refine lv_iconst (v := 3) hx hb dX4_bits_366 (by decide) ?_
  refine lv_iand hx hb dX4_bits_367 ?_
  refine lv_ishl hx hb dX4_bits_368 ?_
  refine p_l (W.runS (As := [.long v1, .long v2, .int (jshl (1 : Int32) ((jshr p0 (1 : Int32)) &&& (3 : Int32)))]) (rest := []) ⟨hx, hb, hml, hown, hts⟩ (c_X4_differences l v1 v2 (jshl (1 : Int32) ((jshr p0 (1 : Int32)) &&& (3 : Int32))) (sz_d _)) (va_cwS 3 hts gX4_bits_X4_differences rfl rfl rfl (by decide +kernel) ⟨Nat.le_of_ble_eq_true rfl, Nat.le_of_ble_eq_true rfl⟩) p_preT rfl rfl hl.1 rfl (lv_room (Nat.le_of_ble_eq_true rfl)) dX4_bits_369 ⟨Nat.le_of_ble_eq_true rfl, Nat.le_of_ble_eq_true rfl⟩) ?_
  refine lv_topl (fun v42 ev42 => ?_)
  refine lv_lstore (lv' := [(9, .long v42), (7, .long v2), (5, .long v1), (0, .ref (a 0)), (1, .int p0), (2, .int p1), (3, .int p2), (4, .int p3)]) hx hb dX4_bits_372 hl (by decide) rfl (fun ls hl => ?_)
  exact k5 v42 (ez4.trans (by have ev42 := ev42.symm; subst ev42; exact (if_neg c6).trans ((if_neg c8).trans ((if_neg c10).trans ((if_neg c12).trans ((if_neg c14).trans ((if_neg c16).trans ((if_neg c18).trans ((if_neg c20).trans ((if_neg c22).trans ((if_neg c24).trans ((if_neg c30).trans ((if_neg c36).trans (rfl)))))))))))))).symm _ _ hP hD hS ls (lv_sub hl [3, 4, 5, 6, 7, 2, 1, 0] rfl)
