/-- the new reference, its table of names filled -/
def uM1 : MS := f_X4_others (f_X4_bitNames (f_X4_accesses (f_X4_conditions (f_X4_numbers uM0))))
abbrev rm_X4_init : Room := { frames := 4, cells := 7, slots := 18204, locals := 80 }
set_option maxHeartbeats 4000000 in
set_option maxRecDepth 100000 in
theorem c_X4_init (l : Launch) (yy : Nat → ClassId) (h0 : Nat) : ∀ (G : va_G) (sz : Nat), Met l yX4_init wsX4_init rm_X4_init (va_Pc [.ref h0] (gSt G (sT yy) (fun _ : Unit => [(h0, .inr (2, [.int 0, .null, .null, .null, .null, .null, .int 0, .int 0, .long 0, .long 0, .long 0, .long 0, .long 0, .null, .null, .int 0, .int 0]))]) sz () eTrue)) (gQn (fun a => wM yy a uM1) h0 G (va_A [(h0, .inr (2, [.int 0, .null, .null, .null, .null, .null, .int 0, .int 0, .long 0, .long 0, .long 0, .long 0, .long 0, .null, .null, .int 0, .int 0]))] sz)) 7 18204 (va_A [(h0, .inr (2, [.int 0, .null, .null, .null, .null, .null, .int 0, .int 0, .long 0, .long 0, .long 0, .long 0, .long 0, .null, .null, .int 0, .int 0]))] sz) := by
  refine gi_ofW (Qc := fun G A => gQn (fun a => wM yy a uM1) h0 G A) (by decide) rfl (Nat.le_of_ble_eq_true rfl) ?_
  intro G A p e s m args below meth c hx hb hr hml hts hown hlocks hin hK hA H locs hP hD hS ls hl
  have hl : lv_has ls 1 [(0, .ref h0)] := hl
  have inw : ∀ w ∈ wsX40, w ∈ wsX4_init := by decide +kernel
  refine lv_aload_n hx hb dX4_init_0 rfl (lv_at hl 0 rfl) ?_
  refine W.objInit hx hb hown (hts (.methodLink RX4 1 objectInit) (by decide +kernel)) (hts (.instanceMethod objectInit) (by decide +kernel)) (hts (.code objectInit ⟨#[0xb1]⟩ 1 none) (List.mem_cons_of_mem _ (List.mem_append_left _ (List.mem_append_left _ (List.mem_of_getElem? (i := 2) rfl))))) rfl (by rw [hml]; exact hl.1) rfl dX4_init_1 (Nat.le_of_ble_eq_true rfl) (Nat.le_of_ble_eq_true rfl) ?_
  refine W.eq (g2 := F0 m 4 ls []) rfl ?_
  refine lv_aload_n hx hb dX4_init_4 rfl (lv_at hl 0 rfl) ?_
  refine lv_sipush (v := 256) hx hb dX4_init_5 (by decide) ?_
  refine va_newa (atype := .long) (ty := .long) (N' := 256) (a0 := (256, .inr (.inl (fun _ => 0)))) hx hb (hts (.arrayClass .long) (by decide +kernel)) rfl hK hP hD hS hA (fun _ => rfl) (by decide) (by decide) (Nat.le_of_ble_eq_true rfl) (Nat.le_of_ble_eq_true rfl) (Nat.le_of_ble_eq_true rfl) dX4_init_8 (fun q1 cA H hK1 hP hD hS => ?_)
  have hcA : cA = yy 0 := va_uq hK1 (i := 3) (j := 0) rfl rfl (Or.inl rfl)
  rw [hcA] at hP hD
  refine W.widen (k := 1) (n := 256) (Nat.le_of_ble_eq_true rfl) (Nat.le_of_ble_eq_true rfl) ?_
  have hP : va_P G vwCl [(h0, .inr (2, [.int 0, .null, .null, .null, .null, .null, .int 0, .int 0, .long 0, .long 0, .long 0, .long 0, .long 0, .null, .null, .int 0, .int 0])), (q1, .inl (yy 0, 256, .inr (.inl (fun _ => 0))))] H := hP
  have hD : va_D A [(h0, .inr (2, [.int 0, .null, .null, .null, .null, .null, .int 0, .int 0, .long 0, .long 0, .long 0, .long 0, .long 0, .null, .null, .int 0, .int 0])), (q1, .inl (yy 0, 256, .inr (.inl (fun _ => 0))))] := hD
  refine va_putF (D := G) (ci := 2) (v := .ref q1) (ty := .array .long) (C := RX4) (T := TX4) (N := 17) hx hb hts inw tyX4 tyX4_ok nmX4 hown hK hP hD hS 0 rfl rfl 1 (by decide) (hts (.fieldLink RX4 7 "MixBenchModel" "g" "[J") (by decide +kernel)) (fun _ h9 => h9) rfl hin rfl (by decide +kernel) rfl rfl (Nat.le_of_ble_eq_true rfl) dX4_init_10 (fun H locs hP hD hS => ?_)
  have hP : va_P G vwCl [(h0, .inr (2, [.int 0, .ref q1, .null, .null, .null, .null, .int 0, .int 0, .long 0, .long 0, .long 0, .long 0, .long 0, .null, .null, .int 0, .int 0])), (q1, .inl (yy 0, 256, .inr (.inl (fun _ => 0))))] H := hP
  have hD : va_D A [(h0, .inr (2, [.int 0, .ref q1, .null, .null, .null, .null, .int 0, .int 0, .long 0, .long 0, .long 0, .long 0, .long 0, .null, .null, .int 0, .int 0])), (q1, .inl (yy 0, 256, .inr (.inl (fun _ => 0))))] := hD
  refine lv_aload_n hx hb dX4_init_13 rfl (lv_at hl 0 rfl) ?_
  refine lv_bipush (v := 8) hx hb dX4_init_14 (by decide) ?_
  refine va_newa (atype := .long) (ty := .long) (N' := 8) (a0 := (8, .inr (.inl (fun _ => 0)))) hx hb (hts (.arrayClass .long) (by decide +kernel)) rfl hK hP hD hS hA (fun _ => rfl) (by decide) (by decide) (Nat.le_of_ble_eq_true rfl) (Nat.le_of_ble_eq_true rfl) (Nat.le_of_ble_eq_true rfl) dX4_init_16 (fun q2 cA H hK1 hP hD hS => ?_)
  have hcA : cA = yy 0 := va_uq hK1 (i := 3) (j := 0) rfl rfl (Or.inl rfl)
  rw [hcA] at hP hD
  refine W.widen (k := 2) (n := 264) (Nat.le_of_ble_eq_true rfl) (Nat.le_of_ble_eq_true rfl) ?_
  have hP : va_P G vwCl [(h0, .inr (2, [.int 0, .ref q1, .null, .null, .null, .null, .int 0, .int 0, .long 0, .long 0, .long 0, .long 0, .long 0, .null, .null, .int 0, .int 0])), (q1, .inl (yy 0, 256, .inr (.inl (fun _ => 0)))), (q2, .inl (yy 0, 8, .inr (.inl (fun _ => 0))))] H := hP
  have hD : va_D A [(h0, .inr (2, [.int 0, .ref q1, .null, .null, .null, .null, .int 0, .int 0, .long 0, .long 0, .long 0, .long 0, .long 0, .null, .null, .int 0, .int 0])), (q1, .inl (yy 0, 256, .inr (.inl (fun _ => 0)))), (q2, .inl (yy 0, 8, .inr (.inl (fun _ => 0))))] := hD
  refine va_putF (D := G) (ci := 2) (v := .ref q2) (ty := .array .long) (C := RX4) (T := TX4) (N := 17) hx hb hts inw tyX4 tyX4_ok nmX4 hown hK hP hD hS 0 rfl rfl 2 (by decide) (hts (.fieldLink RX4 13 "MixBenchModel" "special" "[J") (by decide +kernel)) (fun _ h9 => h9) rfl hin rfl (by decide +kernel) rfl rfl (Nat.le_of_ble_eq_true rfl) dX4_init_18 (fun H locs hP hD hS => ?_)
  have hP : va_P G vwCl [(h0, .inr (2, [.int 0, .ref q1, .ref q2, .null, .null, .null, .int 0, .int 0, .long 0, .long 0, .long 0, .long 0, .long 0, .null, .null, .int 0, .int 0])), (q1, .inl (yy 0, 256, .inr (.inl (fun _ => 0)))), (q2, .inl (yy 0, 8, .inr (.inl (fun _ => 0))))] H := hP
  have hD : va_D A [(h0, .inr (2, [.int 0, .ref q1, .ref q2, .null, .null, .null, .int 0, .int 0, .long 0, .long 0, .long 0, .long 0, .long 0, .null, .null, .int 0, .int 0])), (q1, .inl (yy 0, 256, .inr (.inl (fun _ => 0)))), (q2, .inl (yy 0, 8, .inr (.inl (fun _ => 0))))] := hD
  refine lv_aload_n hx hb dX4_init_21 rfl (lv_at hl 0 rfl) ?_
  refine lv_sipush (v := 256) hx hb dX4_init_22 (by decide) ?_
  refine va_newa (atype := .long) (ty := .long) (N' := 256) (a0 := (256, .inr (.inl (fun _ => 0)))) hx hb (hts (.arrayClass .long) (by decide +kernel)) rfl hK hP hD hS hA (fun _ => rfl) (by decide) (by decide) (Nat.le_of_ble_eq_true rfl) (Nat.le_of_ble_eq_true rfl) (Nat.le_of_ble_eq_true rfl) dX4_init_25 (fun q3 cA H hK1 hP hD hS => ?_)
  have hcA : cA = yy 0 := va_uq hK1 (i := 3) (j := 0) rfl rfl (Or.inl rfl)
  rw [hcA] at hP hD
  refine W.widen (k := 3) (n := 520) (Nat.le_of_ble_eq_true rfl) (Nat.le_of_ble_eq_true rfl) ?_
  have hP : va_P G vwCl [(h0, .inr (2, [.int 0, .ref q1, .ref q2, .null, .null, .null, .int 0, .int 0, .long 0, .long 0, .long 0, .long 0, .long 0, .null, .null, .int 0, .int 0])), (q1, .inl (yy 0, 256, .inr (.inl (fun _ => 0)))), (q2, .inl (yy 0, 8, .inr (.inl (fun _ => 0)))), (q3, .inl (yy 0, 256, .inr (.inl (fun _ => 0))))] H := hP
  have hD : va_D A [(h0, .inr (2, [.int 0, .ref q1, .ref q2, .null, .null, .null, .int 0, .int 0, .long 0, .long 0, .long 0, .long 0, .long 0, .null, .null, .int 0, .int 0])), (q1, .inl (yy 0, 256, .inr (.inl (fun _ => 0)))), (q2, .inl (yy 0, 8, .inr (.inl (fun _ => 0)))), (q3, .inl (yy 0, 256, .inr (.inl (fun _ => 0))))] := hD
  refine va_putF (D := G) (ci := 2) (v := .ref q3) (ty := .array .long) (C := RX4) (T := TX4) (N := 17) hx hb hts inw tyX4 tyX4_ok nmX4 hown hK hP hD hS 0 rfl rfl 3 (by decide) (hts (.fieldLink RX4 16 "MixBenchModel" "tallies" "[J") (by decide +kernel)) (fun _ h9 => h9) rfl hin rfl (by decide +kernel) rfl rfl (Nat.le_of_ble_eq_true rfl) dX4_init_27 (fun H locs hP hD hS => ?_)
  have hP : va_P G vwCl [(h0, .inr (2, [.int 0, .ref q1, .ref q2, .ref q3, .null, .null, .int 0, .int 0, .long 0, .long 0, .long 0, .long 0, .long 0, .null, .null, .int 0, .int 0])), (q1, .inl (yy 0, 256, .inr (.inl (fun _ => 0)))), (q2, .inl (yy 0, 8, .inr (.inl (fun _ => 0)))), (q3, .inl (yy 0, 256, .inr (.inl (fun _ => 0))))] H := hP
  have hD : va_D A [(h0, .inr (2, [.int 0, .ref q1, .ref q2, .ref q3, .null, .null, .int 0, .int 0, .long 0, .long 0, .long 0, .long 0, .long 0, .null, .null, .int 0, .int 0])), (q1, .inl (yy 0, 256, .inr (.inl (fun _ => 0)))), (q2, .inl (yy 0, 8, .inr (.inl (fun _ => 0)))), (q3, .inl (yy 0, 256, .inr (.inl (fun _ => 0))))] := hD
  refine lv_aload_n hx hb dX4_init_30 rfl (lv_at hl 0 rfl) ?_
  refine lv_sipush (v := 16384) hx hb dX4_init_31 (by decide) ?_
  refine va_newa (atype := .byte) (ty := .byte) (N' := 16384) (a0 := (16384, .inl (fun _ => 0))) hx hb (hts (.arrayClass .byte) (by decide +kernel)) rfl hK hP hD hS hA (fun _ => rfl) (by decide) (by decide) (Nat.le_of_ble_eq_true rfl) (Nat.le_of_ble_eq_true rfl) (Nat.le_of_ble_eq_true rfl) dX4_init_34 (fun q4 cA H hK1 hP hD hS => ?_)
  have hcA : cA = yy 1 := va_uq hK1 (i := 3) (j := 1) rfl rfl (Or.inr (Or.inl rfl))
  rw [hcA] at hP hD
  refine W.widen (k := 4) (n := 16904) (Nat.le_of_ble_eq_true rfl) (Nat.le_of_ble_eq_true rfl) ?_
  have hP : va_P G vwCl [(h0, .inr (2, [.int 0, .ref q1, .ref q2, .ref q3, .null, .null, .int 0, .int 0, .long 0, .long 0, .long 0, .long 0, .long 0, .null, .null, .int 0, .int 0])), (q1, .inl (yy 0, 256, .inr (.inl (fun _ => 0)))), (q2, .inl (yy 0, 8, .inr (.inl (fun _ => 0)))), (q3, .inl (yy 0, 256, .inr (.inl (fun _ => 0)))), (q4, .inl (yy 1, 16384, .inl (fun _ => 0)))] H := hP
  have hD : va_D A [(h0, .inr (2, [.int 0, .ref q1, .ref q2, .ref q3, .null, .null, .int 0, .int 0, .long 0, .long 0, .long 0, .long 0, .long 0, .null, .null, .int 0, .int 0])), (q1, .inl (yy 0, 256, .inr (.inl (fun _ => 0)))), (q2, .inl (yy 0, 8, .inr (.inl (fun _ => 0)))), (q3, .inl (yy 0, 256, .inr (.inl (fun _ => 0)))), (q4, .inl (yy 1, 16384, .inl (fun _ => 0)))] := hD
  refine va_putF (D := G) (ci := 2) (v := .ref q4) (ty := .array .byte) (C := RX4) (T := TX4) (N := 17) hx hb hts inw tyX4 tyX4_ok nmX4 hown hK hP hD hS 0 rfl rfl 4 (by decide) (hts (.fieldLink RX4 19 "MixBenchModel" "memory" "[B") (by decide +kernel)) (fun _ h9 => h9) rfl hin rfl (by decide +kernel) rfl rfl (Nat.le_of_ble_eq_true rfl) dX4_init_36 (fun H locs hP hD hS => ?_)
  have hP : va_P G vwCl [(h0, .inr (2, [.int 0, .ref q1, .ref q2, .ref q3, .ref q4, .null, .int 0, .int 0, .long 0, .long 0, .long 0, .long 0, .long 0, .null, .null, .int 0, .int 0])), (q1, .inl (yy 0, 256, .inr (.inl (fun _ => 0)))), (q2, .inl (yy 0, 8, .inr (.inl (fun _ => 0)))), (q3, .inl (yy 0, 256, .inr (.inl (fun _ => 0)))), (q4, .inl (yy 1, 16384, .inl (fun _ => 0)))] H := hP
  have hD : va_D A [(h0, .inr (2, [.int 0, .ref q1, .ref q2, .ref q3, .ref q4, .null, .int 0, .int 0, .long 0, .long 0, .long 0, .long 0, .long 0, .null, .null, .int 0, .int 0])), (q1, .inl (yy 0, 256, .inr (.inl (fun _ => 0)))), (q2, .inl (yy 0, 8, .inr (.inl (fun _ => 0)))), (q3, .inl (yy 0, 256, .inr (.inl (fun _ => 0)))), (q4, .inl (yy 1, 16384, .inl (fun _ => 0)))] := hD
  refine lv_aload_n hx hb dX4_init_39 rfl (lv_at hl 0 rfl) ?_
  refine lv_sipush (v := 500) hx hb dX4_init_40 (by decide) ?_
  refine va_newa (atype := .byte) (ty := .byte) (N' := 500) (a0 := (500, .inl (fun _ => 0))) hx hb (hts (.arrayClass .byte) (by decide +kernel)) rfl hK hP hD hS hA (fun _ => rfl) (by decide) (by decide) (Nat.le_of_ble_eq_true rfl) (Nat.le_of_ble_eq_true rfl) (Nat.le_of_ble_eq_true rfl) dX4_init_43 (fun q5 cA H hK1 hP hD hS => ?_)
  have hcA : cA = yy 1 := va_uq hK1 (i := 3) (j := 1) rfl rfl (Or.inr (Or.inl rfl))
  rw [hcA] at hP hD
  refine W.widen (k := 5) (n := 17404) (Nat.le_of_ble_eq_true rfl) (Nat.le_of_ble_eq_true rfl) ?_
  have hP : va_P G vwCl [(h0, .inr (2, [.int 0, .ref q1, .ref q2, .ref q3, .ref q4, .null, .int 0, .int 0, .long 0, .long 0, .long 0, .long 0, .long 0, .null, .null, .int 0, .int 0])), (q1, .inl (yy 0, 256, .inr (.inl (fun _ => 0)))), (q2, .inl (yy 0, 8, .inr (.inl (fun _ => 0)))), (q3, .inl (yy 0, 256, .inr (.inl (fun _ => 0)))), (q4, .inl (yy 1, 16384, .inl (fun _ => 0))), (q5, .inl (yy 1, 500, .inl (fun _ => 0)))] H := hP
  have hD : va_D A [(h0, .inr (2, [.int 0, .ref q1, .ref q2, .ref q3, .ref q4, .null, .int 0, .int 0, .long 0, .long 0, .long 0, .long 0, .long 0, .null, .null, .int 0, .int 0])), (q1, .inl (yy 0, 256, .inr (.inl (fun _ => 0)))), (q2, .inl (yy 0, 8, .inr (.inl (fun _ => 0)))), (q3, .inl (yy 0, 256, .inr (.inl (fun _ => 0)))), (q4, .inl (yy 1, 16384, .inl (fun _ => 0))), (q5, .inl (yy 1, 500, .inl (fun _ => 0)))] := hD
  refine va_putF (D := G) (ci := 2) (v := .ref q5) (ty := .array .byte) (C := RX4) (T := TX4) (N := 17) hx hb hts inw tyX4 tyX4_ok nmX4 hown hK hP hD hS 0 rfl rfl 5 (by decide) (hts (.fieldLink RX4 23 "MixBenchModel" "output" "[B") (by decide +kernel)) (fun _ h9 => h9) rfl hin rfl (by decide +kernel) rfl rfl (Nat.le_of_ble_eq_true rfl) dX4_init_45 (fun H locs hP hD hS => ?_)
  have hP : va_P G vwCl [(h0, .inr (2, [.int 0, .ref q1, .ref q2, .ref q3, .ref q4, .ref q5, .int 0, .int 0, .long 0, .long 0, .long 0, .long 0, .long 0, .null, .null, .int 0, .int 0])), (q1, .inl (yy 0, 256, .inr (.inl (fun _ => 0)))), (q2, .inl (yy 0, 8, .inr (.inl (fun _ => 0)))), (q3, .inl (yy 0, 256, .inr (.inl (fun _ => 0)))), (q4, .inl (yy 1, 16384, .inl (fun _ => 0))), (q5, .inl (yy 1, 500, .inl (fun _ => 0)))] H := hP
  have hD : va_D A [(h0, .inr (2, [.int 0, .ref q1, .ref q2, .ref q3, .ref q4, .ref q5, .int 0, .int 0, .long 0, .long 0, .long 0, .long 0, .long 0, .null, .null, .int 0, .int 0])), (q1, .inl (yy 0, 256, .inr (.inl (fun _ => 0)))), (q2, .inl (yy 0, 8, .inr (.inl (fun _ => 0)))), (q3, .inl (yy 0, 256, .inr (.inl (fun _ => 0)))), (q4, .inl (yy 1, 16384, .inl (fun _ => 0))), (q5, .inl (yy 1, 500, .inl (fun _ => 0)))] := hD
  refine lv_aload_n hx hb dX4_init_48 rfl (lv_at hl 0 rfl) ?_
  refine lv_sipush (v := 400) hx hb dX4_init_49 (by decide) ?_
  refine va_newa (atype := .int) (ty := .int) (N' := 400) (a0 := (400, .inl (fun _ => 0))) hx hb (hts (.arrayClass .int) (by decide +kernel)) rfl hK hP hD hS hA (fun _ => rfl) (by decide) (by decide) (Nat.le_of_ble_eq_true rfl) (Nat.le_of_ble_eq_true rfl) (Nat.le_of_ble_eq_true rfl) dX4_init_52 (fun q6 cA H hK1 hP hD hS => ?_)
  have hcA : cA = yy 2 := va_uq hK1 (i := 3) (j := 2) rfl rfl (Or.inr (Or.inr rfl))
  rw [hcA] at hP hD
  refine W.widen (k := 6) (n := 17804) (Nat.le_of_ble_eq_true rfl) (Nat.le_of_ble_eq_true rfl) ?_
  have hP : va_P G vwCl [(h0, .inr (2, [.int 0, .ref q1, .ref q2, .ref q3, .ref q4, .ref q5, .int 0, .int 0, .long 0, .long 0, .long 0, .long 0, .long 0, .null, .null, .int 0, .int 0])), (q1, .inl (yy 0, 256, .inr (.inl (fun _ => 0)))), (q2, .inl (yy 0, 8, .inr (.inl (fun _ => 0)))), (q3, .inl (yy 0, 256, .inr (.inl (fun _ => 0)))), (q4, .inl (yy 1, 16384, .inl (fun _ => 0))), (q5, .inl (yy 1, 500, .inl (fun _ => 0))), (q6, .inl (yy 2, 400, .inl (fun _ => 0)))] H := hP
  have hD : va_D A [(h0, .inr (2, [.int 0, .ref q1, .ref q2, .ref q3, .ref q4, .ref q5, .int 0, .int 0, .long 0, .long 0, .long 0, .long 0, .long 0, .null, .null, .int 0, .int 0])), (q1, .inl (yy 0, 256, .inr (.inl (fun _ => 0)))), (q2, .inl (yy 0, 8, .inr (.inl (fun _ => 0)))), (q3, .inl (yy 0, 256, .inr (.inl (fun _ => 0)))), (q4, .inl (yy 1, 16384, .inl (fun _ => 0))), (q5, .inl (yy 1, 500, .inl (fun _ => 0))), (q6, .inl (yy 2, 400, .inl (fun _ => 0)))] := hD
  refine va_putF (D := G) (ci := 2) (v := .ref q6) (ty := .array .int) (C := RX4) (T := TX4) (N := 17) hx hb hts inw tyX4 tyX4_ok nmX4 hown hK hP hD hS 0 rfl rfl 13 (by decide) (hts (.fieldLink RX4 26 "MixBenchModel" "names" "[I") (by decide +kernel)) (fun _ h9 => h9) rfl hin rfl (by decide +kernel) rfl rfl (Nat.le_of_ble_eq_true rfl) dX4_init_54 (fun H locs hP hD hS => ?_)
  have hP : va_P G vwCl [(h0, .inr (2, [.int 0, .ref q1, .ref q2, .ref q3, .ref q4, .ref q5, .int 0, .int 0, .long 0, .long 0, .long 0, .long 0, .long 0, .ref q6, .null, .int 0, .int 0])), (q1, .inl (yy 0, 256, .inr (.inl (fun _ => 0)))), (q2, .inl (yy 0, 8, .inr (.inl (fun _ => 0)))), (q3, .inl (yy 0, 256, .inr (.inl (fun _ => 0)))), (q4, .inl (yy 1, 16384, .inl (fun _ => 0))), (q5, .inl (yy 1, 500, .inl (fun _ => 0))), (q6, .inl (yy 2, 400, .inl (fun _ => 0)))] H := hP
  have hD : va_D A [(h0, .inr (2, [.int 0, .ref q1, .ref q2, .ref q3, .ref q4, .ref q5, .int 0, .int 0, .long 0, .long 0, .long 0, .long 0, .long 0, .ref q6, .null, .int 0, .int 0])), (q1, .inl (yy 0, 256, .inr (.inl (fun _ => 0)))), (q2, .inl (yy 0, 8, .inr (.inl (fun _ => 0)))), (q3, .inl (yy 0, 256, .inr (.inl (fun _ => 0)))), (q4, .inl (yy 1, 16384, .inl (fun _ => 0))), (q5, .inl (yy 1, 500, .inl (fun _ => 0))), (q6, .inl (yy 2, 400, .inl (fun _ => 0)))] := hD
  refine lv_aload_n hx hb dX4_init_57 rfl (lv_at hl 0 rfl) ?_
  refine lv_sipush (v := 400) hx hb dX4_init_58 (by decide) ?_
  refine va_newa (atype := .int) (ty := .int) (N' := 400) (a0 := (400, .inl (fun _ => 0))) hx hb (hts (.arrayClass .int) (by decide +kernel)) rfl hK hP hD hS hA (fun _ => rfl) (by decide) (by decide) (Nat.le_of_ble_eq_true rfl) (Nat.le_of_ble_eq_true rfl) (Nat.le_of_ble_eq_true rfl) dX4_init_61 (fun q7 cA H hK1 hP hD hS => ?_)
  have hcA : cA = yy 2 := va_uq hK1 (i := 3) (j := 2) rfl rfl (Or.inr (Or.inr rfl))
  rw [hcA] at hP hD
  refine W.widen (k := 7) (n := 18204) (Nat.le_of_ble_eq_true rfl) (Nat.le_of_ble_eq_true rfl) ?_
  have hP : va_P G vwCl [(h0, .inr (2, [.int 0, .ref q1, .ref q2, .ref q3, .ref q4, .ref q5, .int 0, .int 0, .long 0, .long 0, .long 0, .long 0, .long 0, .ref q6, .null, .int 0, .int 0])), (q1, .inl (yy 0, 256, .inr (.inl (fun _ => 0)))), (q2, .inl (yy 0, 8, .inr (.inl (fun _ => 0)))), (q3, .inl (yy 0, 256, .inr (.inl (fun _ => 0)))), (q4, .inl (yy 1, 16384, .inl (fun _ => 0))), (q5, .inl (yy 1, 500, .inl (fun _ => 0))), (q6, .inl (yy 2, 400, .inl (fun _ => 0))), (q7, .inl (yy 2, 400, .inl (fun _ => 0)))] H := hP
  have hD : va_D A [(h0, .inr (2, [.int 0, .ref q1, .ref q2, .ref q3, .ref q4, .ref q5, .int 0, .int 0, .long 0, .long 0, .long 0, .long 0, .long 0, .ref q6, .null, .int 0, .int 0])), (q1, .inl (yy 0, 256, .inr (.inl (fun _ => 0)))), (q2, .inl (yy 0, 8, .inr (.inl (fun _ => 0)))), (q3, .inl (yy 0, 256, .inr (.inl (fun _ => 0)))), (q4, .inl (yy 1, 16384, .inl (fun _ => 0))), (q5, .inl (yy 1, 500, .inl (fun _ => 0))), (q6, .inl (yy 2, 400, .inl (fun _ => 0))), (q7, .inl (yy 2, 400, .inl (fun _ => 0)))] := hD
  refine va_putF (D := G) (ci := 2) (v := .ref q7) (ty := .array .int) (C := RX4) (T := TX4) (N := 17) hx hb hts inw tyX4 tyX4_ok nmX4 hown hK hP hD hS 0 rfl rfl 14 (by decide) (hts (.fieldLink RX4 30 "MixBenchModel" "codes" "[I") (by decide +kernel)) (fun _ h9 => h9) rfl hin rfl (by decide +kernel) rfl rfl (Nat.le_of_ble_eq_true rfl) dX4_init_63 (fun H locs hP hD hS => ?_)
  have hP : va_P G vwCl [(h0, .inr (2, [.int 0, .ref q1, .ref q2, .ref q3, .ref q4, .ref q5, .int 0, .int 0, .long 0, .long 0, .long 0, .long 0, .long 0, .ref q6, .ref q7, .int 0, .int 0])), (q1, .inl (yy 0, 256, .inr (.inl (fun _ => 0)))), (q2, .inl (yy 0, 8, .inr (.inl (fun _ => 0)))), (q3, .inl (yy 0, 256, .inr (.inl (fun _ => 0)))), (q4, .inl (yy 1, 16384, .inl (fun _ => 0))), (q5, .inl (yy 1, 500, .inl (fun _ => 0))), (q6, .inl (yy 2, 400, .inl (fun _ => 0))), (q7, .inl (yy 2, 400, .inl (fun _ => 0)))] H := hP
  have hD : va_D A [(h0, .inr (2, [.int 0, .ref q1, .ref q2, .ref q3, .ref q4, .ref q5, .int 0, .int 0, .long 0, .long 0, .long 0, .long 0, .long 0, .ref q6, .ref q7, .int 0, .int 0])), (q1, .inl (yy 0, 256, .inr (.inl (fun _ => 0)))), (q2, .inl (yy 0, 8, .inr (.inl (fun _ => 0)))), (q3, .inl (yy 0, 256, .inr (.inl (fun _ => 0)))), (q4, .inl (yy 1, 16384, .inl (fun _ => 0))), (q5, .inl (yy 1, 500, .inl (fun _ => 0))), (q6, .inl (yy 2, 400, .inl (fun _ => 0))), (q7, .inl (yy 2, 400, .inl (fun _ => 0)))] := hD
  obtain ⟨a, ha⟩ : ∃ a : Nat → Nat, a = fun j => if j = 0 then h0 else if j = 1 then q1 else if j = 2 then q2 else if j = 3 then q3 else if j = 4 then q4 else if j = 5 then q5 else if j = 6 then q6 else q7 := ⟨_, rfl⟩
  have ha0 : a 0 = h0 := by rw [ha]; rfl
  have hP : va_P G vwCl (wM yy a uM0) H := by rw [ha]; exact hP
  have hD : va_D A (wM yy a uM0) := by rw [ha]; exact hD
  have hl : lv_has ls 1 [(0, .ref (a 0))] := by rw [ha0]; exact hl
  have hE : eTrue A s := trivial
  have hc0 : m_ct uM0 = nI 0 := rfl
  refine lv_aload_n hx hb dX4_init_66 rfl (lv_at hl 0 rfl) ?_
  refine g_v (va_runV (As := []) (rest := []) ⟨hx, hb, hml, hown, hts⟩ (c_X4_numbers l yy a uM0 hc0 G H.size) (cwV 0 hts gX4_init_X4_numbers rfl rfl rfl (by decide +kernel) ⟨(Nat.le_of_ble_eq_true rfl), (Nat.le_of_ble_eq_true rfl)⟩) (g_preV eTrue_bl hK hE hP hD hS hA 0 rfl rfl) rfl rfl hl.1 rfl (lv_room (Nat.le_of_ble_eq_true rfl)) dX4_init_67 ⟨(Nat.le_of_ble_eq_true rfl), (Nat.le_of_ble_eq_true rfl)⟩) hD hS hA (fun H locs hP hD hS => ?_)
  obtain ⟨u1, eu1⟩ : ∃ z, z = f_X4_numbers uM0 := ⟨_, rfl⟩
  have hP : va_P G vwCl (wM yy a u1) H := by rw [eu1]; exact hP
  have hD : va_D A (wM yy a u1) := by rw [eu1]; exact hD
  have hc1 := ct_numbers hc0
  rw [← eu1] at hc1
  refine lv_aload_n hx hb dX4_init_70 rfl (lv_at hl 0 rfl) ?_
  refine g_v (va_runV (As := []) (rest := []) ⟨hx, hb, hml, hown, hts⟩ (c_X4_conditions l yy a u1 hc1 G H.size) (cwV 0 hts gX4_init_X4_conditions rfl rfl rfl (by decide +kernel) ⟨(Nat.le_of_ble_eq_true rfl), (Nat.le_of_ble_eq_true rfl)⟩) (g_preV eTrue_bl hK hE hP hD hS hA 0 rfl rfl) rfl rfl hl.1 rfl (lv_room (Nat.le_of_ble_eq_true rfl)) dX4_init_71 ⟨(Nat.le_of_ble_eq_true rfl), (Nat.le_of_ble_eq_true rfl)⟩) hD hS hA (fun H locs hP hD hS => ?_)
  obtain ⟨u2, eu2⟩ : ∃ z, z = f_X4_conditions u1 := ⟨_, rfl⟩
  have hP : va_P G vwCl (wM yy a u2) H := by rw [eu2]; exact hP
  have hD : va_D A (wM yy a u2) := by rw [eu2]; exact hD
  have hc2 := ct_conditions hc1
  rw [← eu2] at hc2
  refine lv_aload_n hx hb dX4_init_74 rfl (lv_at hl 0 rfl) ?_
  refine g_v (va_runV (As := []) (rest := []) ⟨hx, hb, hml, hown, hts⟩ (c_X4_accesses l yy a u2 hc2 G H.size) (cwV 0 hts gX4_init_X4_accesses rfl rfl rfl (by decide +kernel) ⟨(Nat.le_of_ble_eq_true rfl), (Nat.le_of_ble_eq_true rfl)⟩) (g_preV eTrue_bl hK hE hP hD hS hA 0 rfl rfl) rfl rfl hl.1 rfl (lv_room (Nat.le_of_ble_eq_true rfl)) dX4_init_75 ⟨(Nat.le_of_ble_eq_true rfl), (Nat.le_of_ble_eq_true rfl)⟩) hD hS hA (fun H locs hP hD hS => ?_)
  obtain ⟨u3, eu3⟩ : ∃ z, z = f_X4_accesses u2 := ⟨_, rfl⟩
  have hP : va_P G vwCl (wM yy a u3) H := by rw [eu3]; exact hP
  have hD : va_D A (wM yy a u3) := by rw [eu3]; exact hD
  have hc3 := ct_accesses hc2
  rw [← eu3] at hc3
  refine lv_aload_n hx hb dX4_init_78 rfl (lv_at hl 0 rfl) ?_
  refine g_v (va_runV (As := []) (rest := []) ⟨hx, hb, hml, hown, hts⟩ (c_X4_bitNames l yy a u3 hc3 G H.size) (cwV 0 hts gX4_init_X4_bitNames rfl rfl rfl (by decide +kernel) ⟨(Nat.le_of_ble_eq_true rfl), (Nat.le_of_ble_eq_true rfl)⟩) (g_preV eTrue_bl hK hE hP hD hS hA 0 rfl rfl) rfl rfl hl.1 rfl (lv_room (Nat.le_of_ble_eq_true rfl)) dX4_init_79 ⟨(Nat.le_of_ble_eq_true rfl), (Nat.le_of_ble_eq_true rfl)⟩) hD hS hA (fun H locs hP hD hS => ?_)
  obtain ⟨u4, eu4⟩ : ∃ z, z = f_X4_bitNames u3 := ⟨_, rfl⟩
  have hP : va_P G vwCl (wM yy a u4) H := by rw [eu4]; exact hP
  have hD : va_D A (wM yy a u4) := by rw [eu4]; exact hD
  have hc4 := ct_bitNames hc3
  rw [← eu4] at hc4
  refine lv_aload_n hx hb dX4_init_82 rfl (lv_at hl 0 rfl) ?_
  refine g_v (va_runV (As := []) (rest := []) ⟨hx, hb, hml, hown, hts⟩ (c_X4_others l yy a u4 hc4 G H.size) (cwV 0 hts gX4_init_X4_others rfl rfl rfl (by decide +kernel) ⟨(Nat.le_of_ble_eq_true rfl), (Nat.le_of_ble_eq_true rfl)⟩) (g_preV eTrue_bl hK hE hP hD hS hA 0 rfl rfl) rfl rfl hl.1 rfl (lv_room (Nat.le_of_ble_eq_true rfl)) dX4_init_83 ⟨(Nat.le_of_ble_eq_true rfl), (Nat.le_of_ble_eq_true rfl)⟩) hD hS hA (fun H locs hP hD hS => ?_)
  obtain ⟨u5, eu5⟩ : ∃ z, z = f_X4_others u4 := ⟨_, rfl⟩
  have hP : va_P G vwCl (wM yy a u5) H := by rw [eu5]; exact hP
  have hD : va_D A (wM yy a u5) := by rw [eu5]; exact hD
  have hc5 := ct_others hc4
  rw [← eu5] at hc5
  have eu : u5 = uM1 := by rw [eu5, eu4, eu3, eu2, eu1]; rfl
  rw [eu] at hP hD
  exact W.vret hx hb hr (fun t ht hW => ⟨⟨a, rfl, ha0, by rw [ht]; exact hP, hD⟩, hS.F ht⟩) hS.2.2 dX4_init_86 hlocks
