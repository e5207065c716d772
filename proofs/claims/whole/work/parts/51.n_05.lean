noncomputable def f0_X1_evenNamed (p0 : Int32) : Int32 :=
  let v1 : Int32 := f_X1_meantBy p0 5 6;
  let v2 : Int32 := f_X1_opInRow 7 (24 : Int32) (2 : Int32) v1;
  let z5 : Int32 := (pick v2 (f_X1_opInRow 8 (48 : Int32) (2 : Int32) v1));
  let v4 : Int32 := z5;
  let z9 : Int32 := (pick v4 (f_X1_opInRow 9 (64 : Int32) (2 : Int32) v1));
  let v8 : Int32 := z9;
  let z13 : Int32 := (pick v8 (f_X1_opInRow 10 (64 : Int32) (2 : Int32) v1));
  let v12 : Int32 := z13;
  let z17 : Int32 := (pick v12 (f_X1_opInRow 11 (96 : Int32) (2 : Int32) v1));
  let v16 : Int32 := z17;
  let z21 : Int32 := (pick v16 (f_X1_opInRow 12 (96 : Int32) (2 : Int32) v1));
  let v20 : Int32 := z21;
  let z25 : Int32 := (pick v20 (f_X1_opInRow 13 (128 : Int32) (2 : Int32) v1));
  let v24 : Int32 := z25;
  let z29 : Int32 := (pick v24 (f_X1_opInRow 14 (128 : Int32) (2 : Int32) v1));
  let v28 : Int32 := z29;
  let z33 : Int32 := (pick v28 (f_X1_opInRow 15 (160 : Int32) (2 : Int32) v1));
  let v32 : Int32 := z33;
  let z37 : Int32 := (pick v32 (f_X1_opInRow 16 (160 : Int32) (2 : Int32) v1));
  let v36 : Int32 := z37;
  if v36 < (0 : Int32) then
    f_X1_opInRow 17 (192 : Int32) (2 : Int32) v1
  else
    v36
noncomputable def f_X1_evenNamed (p0 : Int32) : Int32 := Classical.choose (⟨f0_X1_evenNamed p0, rfl⟩ : ∃ q, q = f0_X1_evenNamed p0)
theorem fe_X1_evenNamed (p0 : Int32) : f_X1_evenNamed p0 = f0_X1_evenNamed p0 := Classical.choose_spec (⟨f0_X1_evenNamed p0, rfl⟩ : ∃ q, q = f0_X1_evenNamed p0)
abbrev rm_X1_evenNamed : Room := { frames := 6, cells := 0, slots := 0, locals := 134 }
set_option maxHeartbeats 4000000 in
set_option maxRecDepth 100000 in
theorem c_X1_evenNamed (l : Launch) (adK adV : Nat → Nat) (p0 : Int32) : pMi l yX1_evenNamed wsX1_evenNamed rm_X1_evenNamed (eS adK adV) [.int p0] (f_X1_evenNamed p0) := by
  refine pm_ofW (by decide) rfl (Nat.le_of_ble_eq_true rfl) ?_
  intro p e s m args below meth c hx hb hr hml hts hown hlocks hE ls hl
  have hl : lv_has ls 3 [(0, .int p0)] := hl
  refine lv_iload_n hx hb dX1_evenNamed_0 rfl (lv_at hl 0 rfl) ?_
  refine va_ldcS hx hb hown (hE.2.2.2 5 (37, "LDA INC PLUS MINUS DEC TIMES QUOT COMP SHL SHLU SHR SHRU MOVE EOR BIC BITS PICK JUMP") rfl) dX1_evenNamed_1 ?_
  refine va_ldcS hx hb hown (hE.2.2.2 6 (39, "ADDU ADDU ADD SUB SUBU MUL DIV CMP SL SLU SR SRU OR XOR ANDN SADD MUX GO") rfl) dX1_evenNamed_3 ?_
  refine p_i (W.runS (As := [.int p0, .ref (adK 5), .ref (adK 6)]) (rest := []) ⟨hx, hb, hml, hown, hts⟩ (c_X1_meantBy l adK adV p0 5 6 (by decide) (by decide)) (va_cwS 3 hts gX1_evenNamed_X1_meantBy rfl rfl rfl (by decide +kernel) ⟨Nat.le_of_ble_eq_true rfl, Nat.le_of_ble_eq_true rfl⟩) (p_preS (eS_bl adK adV) hE) rfl rfl hl.1 rfl (lv_room (Nat.le_of_ble_eq_true rfl)) dX1_evenNamed_5 ⟨Nat.le_of_ble_eq_true rfl, Nat.le_of_ble_eq_true rfl⟩) ?_
  refine lv_topi (fun v1 ev1 => ?_)
  refine lv_istore_n (lv' := [(1, .int v1), (0, .int p0)]) hx hb dX1_evenNamed_8 rfl hl (by decide) rfl (fun ls hl => ?_)
  refine va_ldcS hx hb hown (hE.2.2.2 7 (41, "MUL MULU DIV DIVU ADD ADDU SUB SUBU DADDU QADDU OADDU HADDU") rfl) dX1_evenNamed_9 ?_
  refine lv_bipush (v := 24) hx hb dX1_evenNamed_11 (by decide) ?_
  refine lv_iconst (v := 2) hx hb dX1_evenNamed_13 (by decide) ?_
  refine lv_iload_n hx hb dX1_evenNamed_14 rfl (lv_at hl 0 rfl) ?_
  refine p_i (W.runS (As := [.ref (adK 7), .int (24 : Int32), .int (2 : Int32), .int v1]) (rest := []) ⟨hx, hb, hml, hown, hts⟩ (c_X1_opInRow l adK adV 7 (24 : Int32) (2 : Int32) v1 (by decide)) (va_cwS 4 hts gX1_evenNamed_X1_opInRow rfl rfl rfl (by decide +kernel) ⟨Nat.le_of_ble_eq_true rfl, Nat.le_of_ble_eq_true rfl⟩) (p_preS (eS_bl adK adV) hE) rfl rfl hl.1 rfl (lv_room (Nat.le_of_ble_eq_true rfl)) dX1_evenNamed_15 ⟨Nat.le_of_ble_eq_true rfl, Nat.le_of_ble_eq_true rfl⟩) ?_
  refine lv_topi (fun v2 ev2 => ?_)
  refine lv_istore_n (lv' := [(2, .int v2), (1, .int v1), (0, .int p0)]) hx hb dX1_evenNamed_18 rfl hl (by decide) rfl (fun ls hl => ?_)
  refine lv_iload_n hx hb dX1_evenNamed_19 rfl (lv_at hl 0 rfl) ?_
  obtain ⟨z5, ez5⟩ : ∃ q : Int32, q = (pick v2 (f_X1_opInRow 8 (48 : Int32) (2 : Int32) v1)) := ⟨_, rfl⟩
  have k6 : ∀ (v4 : Int32), v4 = z5 → ∀ ls : Array Slot, lv_has ls 3 [(0, .int p0), (1, .int v1), (2, .int v2)] → W p l e rm_X1_evenNamed s m args below meth c s.heap [] 0 0 (MQ below (vp_Si (fun r => r = f_X1_evenNamed p0)) args s 0 0 (fun _ => False)) (F0 m 36 ls [.int v4]) := by
    intro v4 jz5 ls hl
    have ev4 : v4 = z5 := congrArg (fun q => q) jz5
    refine lv_istore_n (lv' := [(2, .int v4), (0, .int p0), (1, .int v1)]) hx hb dX1_evenNamed_36 rfl hl (by decide) rfl (fun ls hl => ?_)
    refine lv_iload_n hx hb dX1_evenNamed_37 rfl (lv_at hl 0 rfl) ?_
    obtain ⟨z9, ez9⟩ : ∃ q : Int32, q = (pick v4 (f_X1_opInRow 9 (64 : Int32) (2 : Int32) v1)) := ⟨_, rfl⟩
    have k10 : ∀ (v8 : Int32), v8 = z9 → ∀ ls : Array Slot, lv_has ls 3 [(0, .int p0), (1, .int v1), (2, .int v4)] → W p l e rm_X1_evenNamed s m args below meth c s.heap [] 0 0 (MQ below (vp_Si (fun r => r = f_X1_evenNamed p0)) args s 0 0 (fun _ => False)) (F0 m 54 ls [.int v8]) := by
      intro v8 jz9 ls hl
      have ev8 : v8 = z9 := congrArg (fun q => q) jz9
      refine lv_istore_n (lv' := [(2, .int v8), (0, .int p0), (1, .int v1)]) hx hb dX1_evenNamed_54 rfl hl (by decide) rfl (fun ls hl => ?_)
      refine lv_iload_n hx hb dX1_evenNamed_55 rfl (lv_at hl 0 rfl) ?_
      obtain ⟨z13, ez13⟩ : ∃ q : Int32, q = (pick v8 (f_X1_opInRow 10 (64 : Int32) (2 : Int32) v1)) := ⟨_, rfl⟩
      have k14 : ∀ (v12 : Int32), v12 = z13 → ∀ ls : Array Slot, lv_has ls 3 [(0, .int p0), (1, .int v1), (2, .int v8)] → W p l e rm_X1_evenNamed s m args below meth c s.heap [] 0 0 (MQ below (vp_Si (fun r => r = f_X1_evenNamed p0)) args s 0 0 (fun _ => False)) (F0 m 72 ls [.int v12]) := by
        intro v12 jz13 ls hl
        have ev12 : v12 = z13 := congrArg (fun q => q) jz13
        refine lv_istore_n (lv' := [(2, .int v12), (0, .int p0), (1, .int v1)]) hx hb dX1_evenNamed_72 rfl hl (by decide) rfl (fun ls hl => ?_)
        refine lv_iload_n hx hb dX1_evenNamed_73 rfl (lv_at hl 0 rfl) ?_
        obtain ⟨z17, ez17⟩ : ∃ q : Int32, q = (pick v12 (f_X1_opInRow 11 (96 : Int32) (2 : Int32) v1)) := ⟨_, rfl⟩
        have k18 : ∀ (v16 : Int32), v16 = z17 → ∀ ls : Array Slot, lv_has ls 3 [(0, .int p0), (1, .int v1), (2, .int v12)] → W p l e rm_X1_evenNamed s m args below meth c s.heap [] 0 0 (MQ below (vp_Si (fun r => r = f_X1_evenNamed p0)) args s 0 0 (fun _ => False)) (F0 m 90 ls [.int v16]) := by
          intro v16 jz17 ls hl
          have ev16 : v16 = z17 := congrArg (fun q => q) jz17
          refine lv_istore_n (lv' := [(2, .int v16), (0, .int p0), (1, .int v1)]) hx hb dX1_evenNamed_90 rfl hl (by decide) rfl (fun ls hl => ?_)
          refine lv_iload_n hx hb dX1_evenNamed_91 rfl (lv_at hl 0 rfl) ?_
          obtain ⟨z21, ez21⟩ : ∃ q : Int32, q = (pick v16 (f_X1_opInRow 12 (96 : Int32) (2 : Int32) v1)) := ⟨_, rfl⟩
          have k22 : ∀ (v20 : Int32), v20 = z21 → ∀ ls : Array Slot, lv_has ls 3 [(0, .int p0), (1, .int v1), (2, .int v16)] → W p l e rm_X1_evenNamed s m args below meth c s.heap [] 0 0 (MQ below (vp_Si (fun r => r = f_X1_evenNamed p0)) args s 0 0 (fun _ => False)) (F0 m 108 ls [.int v20]) := by
            intro v20 jz21 ls hl
            have ev20 : v20 = z21 := congrArg (fun q => q) jz21
            refine lv_istore_n (lv' := [(2, .int v20), (0, .int p0), (1, .int v1)]) hx hb dX1_evenNamed_108 rfl hl (by decide) rfl (fun ls hl => ?_)
            refine lv_iload_n hx hb dX1_evenNamed_109 rfl (lv_at hl 0 rfl) ?_
            obtain ⟨z25, ez25⟩ : ∃ q : Int32, q = (pick v20 (f_X1_opInRow 13 (128 : Int32) (2 : Int32) v1)) := ⟨_, rfl⟩
            have k26 : ∀ (v24 : Int32), v24 = z25 → ∀ ls : Array Slot, lv_has ls 3 [(0, .int p0), (1, .int v1), (2, .int v20)] → W p l e rm_X1_evenNamed s m args below meth c s.heap [] 0 0 (MQ below (vp_Si (fun r => r = f_X1_evenNamed p0)) args s 0 0 (fun _ => False)) (F0 m 127 ls [.int v24]) := by
              intro v24 jz25 ls hl
              have ev24 : v24 = z25 := congrArg (fun q => q) jz25
              refine lv_istore_n (lv' := [(2, .int v24), (0, .int p0), (1, .int v1)]) hx hb dX1_evenNamed_127 rfl hl (by decide) rfl (fun ls hl => ?_)
              refine lv_iload_n hx hb dX1_evenNamed_128 rfl (lv_at hl 0 rfl) ?_
              obtain ⟨z29, ez29⟩ : ∃ q : Int32, q = (pick v24 (f_X1_opInRow 14 (128 : Int32) (2 : Int32) v1)) := ⟨_, rfl⟩
              have k30 : ∀ (v28 : Int32), v28 = z29 → ∀ ls : Array Slot, lv_has ls 3 [(0, .int p0), (1, .int v1), (2, .int v24)] → W p l e rm_X1_evenNamed s m args below meth c s.heap [] 0 0 (MQ below (vp_Si (fun r => r = f_X1_evenNamed p0)) args s 0 0 (fun _ => False)) (F0 m 146 ls [.int v28]) := by
                intro v28 jz29 ls hl
                have ev28 : v28 = z29 := congrArg (fun q => q) jz29
                refine lv_istore_n (lv' := [(2, .int v28), (0, .int p0), (1, .int v1)]) hx hb dX1_evenNamed_146 rfl hl (by decide) rfl (fun ls hl => ?_)
                refine lv_iload_n hx hb dX1_evenNamed_147 rfl (lv_at hl 0 rfl) ?_
                obtain ⟨z33, ez33⟩ : ∃ q : Int32, q = (pick v28 (f_X1_opInRow 15 (160 : Int32) (2 : Int32) v1)) := ⟨_, rfl⟩
                have k34 : ∀ (v32 : Int32), v32 = z33 → ∀ ls : Array Slot, lv_has ls 3 [(0, .int p0), (1, .int v1), (2, .int v28)] → W p l e rm_X1_evenNamed s m args below meth c s.heap [] 0 0 (MQ below (vp_Si (fun r => r = f_X1_evenNamed p0)) args s 0 0 (fun _ => False)) (F0 m 165 ls [.int v32]) := by
                  intro v32 jz33 ls hl
                  have ev32 : v32 = z33 := congrArg (fun q => q) jz33
                  refine lv_istore_n (lv' := [(2, .int v32), (0, .int p0), (1, .int v1)]) hx hb dX1_evenNamed_165 rfl hl (by decide) rfl (fun ls hl => ?_)
                  refine lv_iload_n hx hb dX1_evenNamed_166 rfl (lv_at hl 0 rfl) ?_
                  obtain ⟨z37, ez37⟩ : ∃ q : Int32, q = (pick v32 (f_X1_opInRow 16 (160 : Int32) (2 : Int32) v1)) := ⟨_, rfl⟩
                  have k38 : ∀ (v36 : Int32), v36 = z37 → ∀ ls : Array Slot, lv_has ls 3 [(0, .int p0), (1, .int v1), (2, .int v32)] → W p l e rm_X1_evenNamed s m args below meth c s.heap [] 0 0 (MQ below (vp_Si (fun r => r = f_X1_evenNamed p0)) args s 0 0 (fun _ => False)) (F0 m 184 ls [.int v36]) := by
                    intro v36 jz37 ls hl
                    have ev36 : v36 = z37 := congrArg (fun q => q) jz37
                    refine lv_istore_n (lv' := [(2, .int v36), (0, .int p0), (1, .int v1)]) hx hb dX1_evenNamed_184 rfl hl (by decide) rfl (fun ls hl => ?_)
                    refine lv_iload_n hx hb dX1_evenNamed_185 rfl (lv_at hl 0 rfl) ?_
                    refine lv_if_lt (tgt := 193) hx hb dX1_evenNamed_186 (by decide) (fun c39 => ?_) (fun c39 => ?_)
                    · refine va_ldcS hx hb hown (hE.2.2.2 17 (61, "OR ORN NOR XOR AND ANDN NAND NXOR BDIF WDIF TDIF ODIF MUX SADD MOR MXOR") rfl) dX1_evenNamed_193 ?_
                      refine lv_sipush (v := 192) hx hb dX1_evenNamed_195 (by decide) ?_
                      refine lv_iconst (v := 2) hx hb dX1_evenNamed_198 (by decide) ?_
                      refine lv_iload_n hx hb dX1_evenNamed_199 rfl (lv_at hl 2 rfl) ?_
                      refine p_i (W.runS (As := [.ref (adK 17), .int (192 : Int32), .int (2 : Int32), .int v1]) (rest := []) ⟨hx, hb, hml, hown, hts⟩ (c_X1_opInRow l adK adV 17 (192 : Int32) (2 : Int32) v1 (by decide)) (va_cwS 4 hts gX1_evenNamed_X1_opInRow rfl rfl rfl (by decide +kernel) ⟨Nat.le_of_ble_eq_true rfl, Nat.le_of_ble_eq_true rfl⟩) (p_preS (eS_bl adK adV) hE) rfl rfl hl.1 rfl (lv_room (Nat.le_of_ble_eq_true rfl)) dX1_evenNamed_200 ⟨Nat.le_of_ble_eq_true rfl, Nat.le_of_ble_eq_true rfl⟩) ?_
                      exact p_iret ((fe_X1_evenNamed p0).trans (by have ev36 := ev36.symm; subst ev36; have ez37 := ez37.symm; subst ez37; have ev32 := ev32.symm; subst ev32; have ez33 := ez33.symm; subst ez33; have ev28 := ev28.symm; subst ev28; have ez29 := ez29.symm; subst ez29; have ev24 := ev24.symm; subst ev24; have ez25 := ez25.symm; subst ez25; have ev20 := ev20.symm; subst ev20; have ez21 := ez21.symm; subst ez21; have ev16 := ev16.symm; subst ev16; have ez17 := ez17.symm; subst ez17; have ev12 := ev12.symm; subst ev12; have ez13 := ez13.symm; subst ez13; have ev8 := ev8.symm; subst ev8; have ez9 := ez9.symm; subst ez9; have ev4 := ev4.symm; subst ev4; have ez5 := ez5.symm; subst ez5; have ev2 := ev2.symm; subst ev2; have ev1 := ev1.symm; subst ev1; exact (if_pos c39).trans (rfl))) hx hb hr hlocks dX1_evenNamed_203
                    · refine lv_iload_n hx hb dX1_evenNamed_189 rfl (lv_at hl 0 rfl) ?_
                      refine lv_goto (tgt := 203) hx hb dX1_evenNamed_190 (by decide) ?_
                      exact p_iret ((fe_X1_evenNamed p0).trans (by have ev36 := ev36.symm; subst ev36; have ez37 := ez37.symm; subst ez37; have ev32 := ev32.symm; subst ev32; have ez33 := ez33.symm; subst ez33; have ev28 := ev28.symm; subst ev28; have ez29 := ez29.symm; subst ez29; have ev24 := ev24.symm; subst ev24; have ez25 := ez25.symm; subst ez25; have ev20 := ev20.symm; subst ev20; have ez21 := ez21.symm; subst ez21; have ev16 := ev16.symm; subst ev16; have ez17 := ez17.symm; subst ez17; have ev12 := ev12.symm; subst ev12; have ez13 := ez13.symm; subst ez13; have ev8 := ev8.symm; subst ev8; have ez9 := ez9.symm; subst ez9; have ev4 := ev4.symm; subst ev4; have ez5 := ez5.symm; subst ez5; have ev2 := ev2.symm; subst ev2; have ev1 := ev1.symm; subst ev1; exact (if_neg c39).trans (rfl))) hx hb hr hlocks dX1_evenNamed_203
                  refine lv_if_lt (tgt := 174) hx hb dX1_evenNamed_167 (by decide) (fun c35 => ?_) (fun c35 => ?_)
                  · refine va_ldcS hx hb hown (hE.2.2.2 16 (59, "SB - SW - ST - SO") rfl) dX1_evenNamed_174 ?_
                    refine lv_sipush (v := 160) hx hb dX1_evenNamed_176 (by decide) ?_
                    refine lv_iconst (v := 2) hx hb dX1_evenNamed_179 (by decide) ?_
                    refine lv_iload_n hx hb dX1_evenNamed_180 rfl (lv_at hl 2 rfl) ?_
                    refine p_i (W.runS (As := [.ref (adK 16), .int (160 : Int32), .int (2 : Int32), .int v1]) (rest := []) ⟨hx, hb, hml, hown, hts⟩ (c_X1_opInRow l adK adV 16 (160 : Int32) (2 : Int32) v1 (by decide)) (va_cwS 4 hts gX1_evenNamed_X1_opInRow rfl rfl rfl (by decide +kernel) ⟨Nat.le_of_ble_eq_true rfl, Nat.le_of_ble_eq_true rfl⟩) (p_preS (eS_bl adK adV) hE) rfl rfl hl.1 rfl (lv_room (Nat.le_of_ble_eq_true rfl)) dX1_evenNamed_181 ⟨Nat.le_of_ble_eq_true rfl, Nat.le_of_ble_eq_true rfl⟩) ?_
                    exact k38 (f_X1_opInRow 16 (160 : Int32) (2 : Int32) v1) (ez37.trans ((pick_eq _ _).trans (by exact (if_pos c35).trans (rfl)))).symm ls (lv_sub hl [1, 2, 0] rfl)
                  · refine lv_iload_n hx hb dX1_evenNamed_170 rfl (lv_at hl 0 rfl) ?_
                    refine lv_goto (tgt := 184) hx hb dX1_evenNamed_171 (by decide) ?_
                    exact k38 v32 (ez37.trans ((pick_eq _ _).trans (by exact (if_neg c35).trans (rfl)))).symm ls (lv_sub hl [1, 2, 0] rfl)
                refine lv_if_lt (tgt := 155) hx hb dX1_evenNamed_148 (by decide) (fun c31 => ?_) (fun c31 => ?_)
                · refine va_ldcS hx hb hown (hE.2.2.2 15 (57, "STB STBU STW STWU STT STTU STO STOU - STHT STCO") rfl) dX1_evenNamed_155 ?_
                  refine lv_sipush (v := 160) hx hb dX1_evenNamed_157 (by decide) ?_
                  refine lv_iconst (v := 2) hx hb dX1_evenNamed_160 (by decide) ?_
                  refine lv_iload_n hx hb dX1_evenNamed_161 rfl (lv_at hl 2 rfl) ?_
                  refine p_i (W.runS (As := [.ref (adK 15), .int (160 : Int32), .int (2 : Int32), .int v1]) (rest := []) ⟨hx, hb, hml, hown, hts⟩ (c_X1_opInRow l adK adV 15 (160 : Int32) (2 : Int32) v1 (by decide)) (va_cwS 4 hts gX1_evenNamed_X1_opInRow rfl rfl rfl (by decide +kernel) ⟨Nat.le_of_ble_eq_true rfl, Nat.le_of_ble_eq_true rfl⟩) (p_preS (eS_bl adK adV) hE) rfl rfl hl.1 rfl (lv_room (Nat.le_of_ble_eq_true rfl)) dX1_evenNamed_162 ⟨Nat.le_of_ble_eq_true rfl, Nat.le_of_ble_eq_true rfl⟩) ?_
                  exact k34 (f_X1_opInRow 15 (160 : Int32) (2 : Int32) v1) (ez33.trans ((pick_eq _ _).trans (by exact (if_pos c31).trans (rfl)))).symm ls (lv_sub hl [1, 2, 0] rfl)
                · refine lv_iload_n hx hb dX1_evenNamed_151 rfl (lv_at hl 0 rfl) ?_
                  refine lv_goto (tgt := 165) hx hb dX1_evenNamed_152 (by decide) ?_
                  exact k34 v28 (ez33.trans ((pick_eq _ _).trans (by exact (if_neg c31).trans (rfl)))).symm ls (lv_sub hl [1, 2, 0] rfl)
              refine lv_if_lt (tgt := 136) hx hb dX1_evenNamed_129 (by decide) (fun c27 => ?_) (fun c27 => ?_)
              · refine va_ldcS hx hb hown (hE.2.2.2 14 (55, "LB LBU LW LWU LT LTU LO LOU") rfl) dX1_evenNamed_136 ?_
                refine lv_sipush (v := 128) hx hb dX1_evenNamed_138 (by decide) ?_
                refine lv_iconst (v := 2) hx hb dX1_evenNamed_141 (by decide) ?_
                refine lv_iload_n hx hb dX1_evenNamed_142 rfl (lv_at hl 2 rfl) ?_
                refine p_i (W.runS (As := [.ref (adK 14), .int (128 : Int32), .int (2 : Int32), .int v1]) (rest := []) ⟨hx, hb, hml, hown, hts⟩ (c_X1_opInRow l adK adV 14 (128 : Int32) (2 : Int32) v1 (by decide)) (va_cwS 4 hts gX1_evenNamed_X1_opInRow rfl rfl rfl (by decide +kernel) ⟨Nat.le_of_ble_eq_true rfl, Nat.le_of_ble_eq_true rfl⟩) (p_preS (eS_bl adK adV) hE) rfl rfl hl.1 rfl (lv_room (Nat.le_of_ble_eq_true rfl)) dX1_evenNamed_143 ⟨Nat.le_of_ble_eq_true rfl, Nat.le_of_ble_eq_true rfl⟩) ?_
                exact k30 (f_X1_opInRow 14 (128 : Int32) (2 : Int32) v1) (ez29.trans ((pick_eq _ _).trans (by exact (if_pos c27).trans (rfl)))).symm ls (lv_sub hl [1, 2, 0] rfl)
              · refine lv_iload_n hx hb dX1_evenNamed_132 rfl (lv_at hl 0 rfl) ?_
                refine lv_goto (tgt := 146) hx hb dX1_evenNamed_133 (by decide) ?_
                exact k30 v24 (ez29.trans ((pick_eq _ _).trans (by exact (if_neg c27).trans (rfl)))).symm ls (lv_sub hl [1, 2, 0] rfl)
            refine lv_if_lt (tgt := 117) hx hb dX1_evenNamed_110 (by decide) (fun c23 => ?_) (fun c23 => ?_)
            · refine va_ldcS hx hb hown (hE.2.2.2 13 (53, "LDB LDBU LDW LDWU LDT LDTU LDO LDOU - LDHT - - - - - GO") rfl) dX1_evenNamed_117 ?_
              refine lv_sipush (v := 128) hx hb dX1_evenNamed_119 (by decide) ?_
              refine lv_iconst (v := 2) hx hb dX1_evenNamed_122 (by decide) ?_
              refine lv_iload_n hx hb dX1_evenNamed_123 rfl (lv_at hl 2 rfl) ?_
              refine p_i (W.runS (As := [.ref (adK 13), .int (128 : Int32), .int (2 : Int32), .int v1]) (rest := []) ⟨hx, hb, hml, hown, hts⟩ (c_X1_opInRow l adK adV 13 (128 : Int32) (2 : Int32) v1 (by decide)) (va_cwS 4 hts gX1_evenNamed_X1_opInRow rfl rfl rfl (by decide +kernel) ⟨Nat.le_of_ble_eq_true rfl, Nat.le_of_ble_eq_true rfl⟩) (p_preS (eS_bl adK adV) hE) rfl rfl hl.1 rfl (lv_room (Nat.le_of_ble_eq_true rfl)) dX1_evenNamed_124 ⟨Nat.le_of_ble_eq_true rfl, Nat.le_of_ble_eq_true rfl⟩) ?_
              exact k26 (f_X1_opInRow 13 (128 : Int32) (2 : Int32) v1) (ez25.trans ((pick_eq _ _).trans (by exact (if_pos c23).trans (rfl)))).symm ls (lv_sub hl [1, 2, 0] rfl)
            · refine lv_iload_n hx hb dX1_evenNamed_113 rfl (lv_at hl 0 rfl) ?_
              refine lv_goto (tgt := 127) hx hb dX1_evenNamed_114 (by decide) ?_
              exact k26 v20 (ez25.trans ((pick_eq _ _).trans (by exact (if_neg c23).trans (rfl)))).symm ls (lv_sub hl [1, 2, 0] rfl)
          refine lv_if_lt (tgt := 99) hx hb dX1_evenNamed_92 (by decide) (fun c19 => ?_) (fun c19 => ?_)
          · refine va_ldcS hx hb hown (hE.2.2.2 12 (51, "CSLT CSEQ CSGT - CSGE CSNE CSLE - ZSLT ZSEQ ZSGT - ZSGE ZSNE ZSLE -") rfl) dX1_evenNamed_99 ?_
            refine lv_bipush (v := 96) hx hb dX1_evenNamed_101 (by decide) ?_
            refine lv_iconst (v := 2) hx hb dX1_evenNamed_103 (by decide) ?_
            refine lv_iload_n hx hb dX1_evenNamed_104 rfl (lv_at hl 2 rfl) ?_
            refine p_i (W.runS (As := [.ref (adK 12), .int (96 : Int32), .int (2 : Int32), .int v1]) (rest := []) ⟨hx, hb, hml, hown, hts⟩ (c_X1_opInRow l adK adV 12 (96 : Int32) (2 : Int32) v1 (by decide)) (va_cwS 4 hts gX1_evenNamed_X1_opInRow rfl rfl rfl (by decide +kernel) ⟨Nat.le_of_ble_eq_true rfl, Nat.le_of_ble_eq_true rfl⟩) (p_preS (eS_bl adK adV) hE) rfl rfl hl.1 rfl (lv_room (Nat.le_of_ble_eq_true rfl)) dX1_evenNamed_105 ⟨Nat.le_of_ble_eq_true rfl, Nat.le_of_ble_eq_true rfl⟩) ?_
            exact k22 (f_X1_opInRow 12 (96 : Int32) (2 : Int32) v1) (ez21.trans ((pick_eq _ _).trans (by exact (if_pos c19).trans (rfl)))).symm ls (lv_sub hl [1, 2, 0] rfl)
          · refine lv_iload_n hx hb dX1_evenNamed_95 rfl (lv_at hl 0 rfl) ?_
            refine lv_goto (tgt := 108) hx hb dX1_evenNamed_96 (by decide) ?_
            exact k22 v16 (ez21.trans ((pick_eq _ _).trans (by exact (if_neg c19).trans (rfl)))).symm ls (lv_sub hl [1, 2, 0] rfl)
        refine lv_if_lt (tgt := 81) hx hb dX1_evenNamed_74 (by decide) (fun c15 => ?_) (fun c15 => ?_)
        · refine va_ldcS hx hb hown (hE.2.2.2 11 (49, "CSN CSZ CSP CSOD CSNN CSNZ CSNP CSEV ZSN ZSZ ZSP ZSOD ZSNN ZSNZ ZSNP ZSEV") rfl) dX1_evenNamed_81 ?_
          refine lv_bipush (v := 96) hx hb dX1_evenNamed_83 (by decide) ?_
          refine lv_iconst (v := 2) hx hb dX1_evenNamed_85 (by decide) ?_
          refine lv_iload_n hx hb dX1_evenNamed_86 rfl (lv_at hl 2 rfl) ?_
          refine p_i (W.runS (As := [.ref (adK 11), .int (96 : Int32), .int (2 : Int32), .int v1]) (rest := []) ⟨hx, hb, hml, hown, hts⟩ (c_X1_opInRow l adK adV 11 (96 : Int32) (2 : Int32) v1 (by decide)) (va_cwS 4 hts gX1_evenNamed_X1_opInRow rfl rfl rfl (by decide +kernel) ⟨Nat.le_of_ble_eq_true rfl, Nat.le_of_ble_eq_true rfl⟩) (p_preS (eS_bl adK adV) hE) rfl rfl hl.1 rfl (lv_room (Nat.le_of_ble_eq_true rfl)) dX1_evenNamed_87 ⟨Nat.le_of_ble_eq_true rfl, Nat.le_of_ble_eq_true rfl⟩) ?_
          exact k18 (f_X1_opInRow 11 (96 : Int32) (2 : Int32) v1) (ez17.trans ((pick_eq _ _).trans (by exact (if_pos c15).trans (rfl)))).symm ls (lv_sub hl [1, 2, 0] rfl)
        · refine lv_iload_n hx hb dX1_evenNamed_77 rfl (lv_at hl 0 rfl) ?_
          refine lv_goto (tgt := 90) hx hb dX1_evenNamed_78 (by decide) ?_
          exact k18 v12 (ez17.trans ((pick_eq _ _).trans (by exact (if_neg c15).trans (rfl)))).symm ls (lv_sub hl [1, 2, 0] rfl)
      refine lv_if_lt (tgt := 63) hx hb dX1_evenNamed_56 (by decide) (fun c11 => ?_) (fun c11 => ?_)
      · refine va_ldcS hx hb hown (hE.2.2.2 10 (47, "BLT BEQ BGT - BGE BNE BLE - PBLT PBEQ PBGT - PBGE PBNE PBLE -") rfl) dX1_evenNamed_63 ?_
        refine lv_bipush (v := 64) hx hb dX1_evenNamed_65 (by decide) ?_
        refine lv_iconst (v := 2) hx hb dX1_evenNamed_67 (by decide) ?_
        refine lv_iload_n hx hb dX1_evenNamed_68 rfl (lv_at hl 2 rfl) ?_
        refine p_i (W.runS (As := [.ref (adK 10), .int (64 : Int32), .int (2 : Int32), .int v1]) (rest := []) ⟨hx, hb, hml, hown, hts⟩ (c_X1_opInRow l adK adV 10 (64 : Int32) (2 : Int32) v1 (by decide)) (va_cwS 4 hts gX1_evenNamed_X1_opInRow rfl rfl rfl (by decide +kernel) ⟨Nat.le_of_ble_eq_true rfl, Nat.le_of_ble_eq_true rfl⟩) (p_preS (eS_bl adK adV) hE) rfl rfl hl.1 rfl (lv_room (Nat.le_of_ble_eq_true rfl)) dX1_evenNamed_69 ⟨Nat.le_of_ble_eq_true rfl, Nat.le_of_ble_eq_true rfl⟩) ?_
        exact k14 (f_X1_opInRow 10 (64 : Int32) (2 : Int32) v1) (ez13.trans ((pick_eq _ _).trans (by exact (if_pos c11).trans (rfl)))).symm ls (lv_sub hl [1, 2, 0] rfl)
      · refine lv_iload_n hx hb dX1_evenNamed_59 rfl (lv_at hl 0 rfl) ?_
        refine lv_goto (tgt := 72) hx hb dX1_evenNamed_60 (by decide) ?_
        exact k14 v8 (ez13.trans ((pick_eq _ _).trans (by exact (if_neg c11).trans (rfl)))).symm ls (lv_sub hl [1, 2, 0] rfl)
    refine lv_if_lt (tgt := 45) hx hb dX1_evenNamed_38 (by decide) (fun c7 => ?_) (fun c7 => ?_)
    · refine va_ldcS hx hb hown (hE.2.2.2 9 (45, "BN BZ BP BOD BNN BNZ BNP BEV PBN PBZ PBP PBOD PBNN PBNZ PBNP PBEV") rfl) dX1_evenNamed_45 ?_
      refine lv_bipush (v := 64) hx hb dX1_evenNamed_47 (by decide) ?_
      refine lv_iconst (v := 2) hx hb dX1_evenNamed_49 (by decide) ?_
      refine lv_iload_n hx hb dX1_evenNamed_50 rfl (lv_at hl 2 rfl) ?_
      refine p_i (W.runS (As := [.ref (adK 9), .int (64 : Int32), .int (2 : Int32), .int v1]) (rest := []) ⟨hx, hb, hml, hown, hts⟩ (c_X1_opInRow l adK adV 9 (64 : Int32) (2 : Int32) v1 (by decide)) (va_cwS 4 hts gX1_evenNamed_X1_opInRow rfl rfl rfl (by decide +kernel) ⟨Nat.le_of_ble_eq_true rfl, Nat.le_of_ble_eq_true rfl⟩) (p_preS (eS_bl adK adV) hE) rfl rfl hl.1 rfl (lv_room (Nat.le_of_ble_eq_true rfl)) dX1_evenNamed_51 ⟨Nat.le_of_ble_eq_true rfl, Nat.le_of_ble_eq_true rfl⟩) ?_
      exact k10 (f_X1_opInRow 9 (64 : Int32) (2 : Int32) v1) (ez9.trans ((pick_eq _ _).trans (by exact (if_pos c7).trans (rfl)))).symm ls (lv_sub hl [1, 2, 0] rfl)
    · refine lv_iload_n hx hb dX1_evenNamed_41 rfl (lv_at hl 0 rfl) ?_
      refine lv_goto (tgt := 54) hx hb dX1_evenNamed_42 (by decide) ?_
      exact k10 v4 (ez9.trans ((pick_eq _ _).trans (by exact (if_neg c7).trans (rfl)))).symm ls (lv_sub hl [1, 2, 0] rfl)
  refine lv_if_lt (tgt := 27) hx hb dX1_evenNamed_20 (by decide) (fun c3 => ?_) (fun c3 => ?_)
  · refine va_ldcS hx hb hown (hE.2.2.2 8 (43, "CMP CMPU NEG NEGU SL SLU SR SRU") rfl) dX1_evenNamed_27 ?_
    refine lv_bipush (v := 48) hx hb dX1_evenNamed_29 (by decide) ?_
    refine lv_iconst (v := 2) hx hb dX1_evenNamed_31 (by decide) ?_
    refine lv_iload_n hx hb dX1_evenNamed_32 rfl (lv_at hl 1 rfl) ?_
    refine p_i (W.runS (As := [.ref (adK 8), .int (48 : Int32), .int (2 : Int32), .int v1]) (rest := []) ⟨hx, hb, hml, hown, hts⟩ (c_X1_opInRow l adK adV 8 (48 : Int32) (2 : Int32) v1 (by decide)) (va_cwS 4 hts gX1_evenNamed_X1_opInRow rfl rfl rfl (by decide +kernel) ⟨Nat.le_of_ble_eq_true rfl, Nat.le_of_ble_eq_true rfl⟩) (p_preS (eS_bl adK adV) hE) rfl rfl hl.1 rfl (lv_room (Nat.le_of_ble_eq_true rfl)) dX1_evenNamed_33 ⟨Nat.le_of_ble_eq_true rfl, Nat.le_of_ble_eq_true rfl⟩) ?_
    exact k6 (f_X1_opInRow 8 (48 : Int32) (2 : Int32) v1) (ez5.trans ((pick_eq _ _).trans (by exact (if_pos c3).trans (rfl)))).symm ls (lv_sub hl [2, 1, 0] rfl)
  · refine lv_iload_n hx hb dX1_evenNamed_23 rfl (lv_at hl 0 rfl) ?_
    refine lv_goto (tgt := 36) hx hb dX1_evenNamed_24 (by decide) ?_
    exact k6 v2 (ez5.trans ((pick_eq _ _).trans (by exact (if_neg c3).trans (rfl)))).symm ls (lv_sub hl [2, 1, 0] rfl)
