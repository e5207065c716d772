/-! constructors -/
theorem va_uq {D : va_G} {cl : List vw_C} {tys : List (ClassId × FieldType)} {U : State} (hK : va_K D cl tys U) {i j : Nat} {c1 c2 : ClassId} {ty : FieldType} (h1 : tys[i]? = some (c1, ty)) (h2 : tys[j]? = some (c2, ty)) (hp : ty = .long ∨ ty = .byte ∨ ty = .int) : c1 = c2 := by
  have e1 := (hK.2 i _ h1).2
  have e2 := (hK.2 j _ h2).2
  rcases hp with rfl | rfl | rfl
  · exact Option.some.inj (Eq.trans (Eq.symm e1) e2)
  · exact Option.some.inj (Eq.trans (Eq.symm e1) e2)
  · exact Option.some.inj (Eq.trans (Eq.symm e1) e2)
theorem gi_ofW {l : Launch} {y : MethodName} {ws ws' : List Cond} {rm : Room} {w0 : va_W} {ty : List (ClassId × FieldType)} {av : List Value} {cc : ByteArray} {maxL mc ms : Nat} {ret : Option FieldType} {Qc : va_G → (Nat → Prop) → Array Value → State → Outcome → State → Prop} (hy : plainName y.cls = true) (hw : ws = Cond.code y cc maxL ret :: ws') (hn : (lg_sl av).length ≤ maxL)
    (body : ∀ (G : va_G) (A : Nat → Prop) (p : Program) (e : Env) (s : State) (m : MethodId) (args : Array Value) (below : List Frame) (meth : Method) (c : Code), p.tables.exec = Jvm.exec → c.code = cc → meth.sig.returnType = ret → c.maxLocals = maxL → (∀ x ∈ ws, x.before args s = true) → s.vm.findClass y.cls = some m.cls → meth.locks = false → meth.name = y.name → va_K G vwCl ty s → (∀ q : Nat, s.heap.size ≤ q → A q) → ∀ (H : Heap) (locs : List Loc), va_P G vwCl w0 H → va_D A w0 → va_S A s.heap H locs → ∀ ls : Array Slot, lv_has ls maxL (lv_args 0 av) → W p l e rm s m args below meth c H locs 0 0 (MQ below (Qc G A) args s mc ms A) (F0 m 0 ls [])) :
    ∀ (G : va_G) (sz : Nat), Met l y ws rm (va_Pc av (gSt G ty (fun _ : Unit => w0) sz () eTrue)) (Qc G (va_A w0 sz)) mc ms (va_A w0 sz) := by
  intro G sz
  refine Met.ofW (cc := cc) (maxL := maxL) (ret := ret) hy hw ?_
  intro p e s m args below meth c s₁ B hml hv
  obtain ⟨rfl, hsz, hP, hK, hD0, hE⟩ := hv
  subst hsz
  have hl := lv_entry av (n := maxL) hn
  rw [lg_entry_eq]
  exact body G (va_A w0 s.heap.size) p e s m _ below meth c B.exec B.bytes B.returns hml (atoms_spec (ws := ws) B.pre) (findClass_of_methodNamed B.named) B.notSynchronized (name_of_methodNamed B.named B.method).1 hK (fun q h => Or.inr h) _ _ hP (hD0.self (sz := s.heap.size)) va_S.rf _ hl
abbrev gQn (w : (Nat → Nat) → va_W) (h0 : Nat) (G : va_G) (A : Nat → Prop) : Array Value → State → Outcome → State → Prop := va_Qv (fun a : Nat → Nat => a 0 = h0) (fun a t => va_P G vwCl (w a) t.heap ∧ va_D A (w a)) A
/-- all that is new is 0 -/
def uX0 : XS := (fun _ => 0, fun _ => 0, fun _ => 0, fun _ => 0, fun _ => 0, 0, 0, 0, 0, 0, 0, 0)
def uM0 : MS := (0, fun _ => 0, fun _ => 0, fun _ => 0, fun _ => 0, fun _ => 0, 0, 0, 0, 0, 0, 0, 0, fun _ => 0, fun _ => 0, 0, 0)
/-- the cells of a Memory -/
abbrev wO (y : Nat → ClassId) (a : Nat → Nat) : va_W := [(a 0, .inr (0, [.ref (a 1)])), (a 1, .inl (y 0, 2048, .inr (.inl (fun _ => 0))))]
abbrev rm_X0_init : Room := { frames := 1, cells := 1, slots := 2048, locals := 12 }
set_option maxHeartbeats 4000000 in
set_option maxRecDepth 100000 in
theorem c_X0_init (l : Launch) (yy : Nat → ClassId) (h0 : Nat) : ∀ (G : va_G) (sz : Nat), Met l yX0_init wsX0_init rm_X0_init (va_Pc [.ref h0] (gSt G (sT yy) (fun _ : Unit => [(h0, .inr (0, [.null]))]) sz () eTrue)) (gQn (wO yy) h0 G (va_A [(h0, .inr (0, [.null]))] sz)) 1 2048 (va_A [(h0, .inr (0, [.null]))] sz) := by
  refine gi_ofW (Qc := fun G A => gQn (wO yy) h0 G A) (by decide) rfl (Nat.le_of_ble_eq_true rfl) ?_
  intro G A p e s m args below meth c hx hb hr hml hts hown hlocks hin hK hA H locs hP hD hS ls hl
  have hl : lv_has ls 1 [(0, .ref h0)] := hl
  refine lv_aload_n hx hb dX0_init_0 rfl (lv_at hl 0 rfl) ?_
  refine W.objInit hx hb hown (hts (.methodLink RX0 3 objectInit) (by decide +kernel)) (hts (.instanceMethod objectInit) (by decide +kernel)) (hts (.code objectInit ⟨#[0xb1]⟩ 1 none) (List.mem_cons_of_mem _ (List.mem_append_left _ (List.mem_of_getElem? (i := 2) rfl)))) rfl (by rw [hml]; exact hl.1) rfl dX0_init_1 (Nat.le_of_ble_eq_true rfl) (Nat.le_of_ble_eq_true rfl) ?_
  refine W.eq (g2 := F0 m 4 ls []) rfl ?_
  refine lv_aload_n hx hb dX0_init_4 rfl (lv_at hl 0 rfl) ?_
  refine lv_sipush (v := 2048) hx hb dX0_init_5 (by decide) ?_
  refine va_newa (atype := .long) (ty := .long) (N' := 2048) (a0 := (2048, .inr (.inl (fun _ => 0)))) hx hb (hts (.arrayClass .long) (by decide +kernel)) rfl hK hP hD hS hA (fun _ => rfl) (by decide) (by decide) (Nat.le_of_ble_eq_true rfl) (Nat.le_of_ble_eq_true rfl) (Nat.le_of_ble_eq_true rfl) dX0_init_8 (fun q1 cA H hK1 hP hD hS => ?_)
  have hcA : cA = yy 0 := va_uq hK1 (i := 3) (j := 0) rfl rfl (Or.inl rfl)
  rw [hcA] at hP hD
  refine W.widen (k := 1) (n := 2048) (Nat.le_of_ble_eq_true rfl) (Nat.le_of_ble_eq_true rfl) ?_
  have hP : va_P G vwCl [(h0, .inr (0, [.null])), (q1, .inl (yy 0, 2048, .inr (.inl (fun _ => 0))))] H := hP
  have hD : va_D A [(h0, .inr (0, [.null])), (q1, .inl (yy 0, 2048, .inr (.inl (fun _ => 0))))] := hD
  refine va_putF (D := G) (ci := 0) (v := .ref q1) (ty := .array .long) (C := RX0) (T := TX0) (N := 1) hx hb hts (by decide +kernel) tyX0 tyX0_ok nmX0 hown hK hP hD hS 0 rfl rfl 0 (by decide) (hts (.fieldLink RX0 9 "MixBench$Memory" "octas" "[J") (by decide +kernel)) (fun _ h9 => h9) rfl hin rfl (by decide +kernel) rfl rfl (Nat.le_of_ble_eq_true rfl) dX0_init_10 (fun H locs hP hD hS => ?_)
  exact W.vret hx hb hr (fun t ht hW => ⟨⟨fun j => if j = 0 then h0 else q1, rfl, rfl, by rw [ht]; exact hP, hD⟩, hS.F ht⟩) hS.2.2 dX0_init_13 hlocks
theorem gi_pre {s : State} {H : Heap} {G : va_G} {ty : List (ClassId × FieldType)} {w0 : va_W} {A : Nat → Prop} {As : List Value} (hK : va_K G vwCl ty s) (hP : va_P G vwCl w0 H) (hD : va_D A w0) : PreS s H (va_Pc As (gSt G ty (fun _ : Unit => w0) H.size () eTrue)) As := ⟨gSt_blind eTrue_bl, fun U hU hW => ⟨rfl, by rw [hU], by rw [hU]; exact hP, va_K.moved hW.alike hK, hD.weaken (fun _ _ _ _ => trivial), trivial⟩⟩
/-- the nest links alone -/
def eN1 (s : State) : Prop := va_Nw (.methodLinkNest RX3 25 yX0_init RX3) s
abbrev rm_X3_init : Room := { frames := 2, cells := 6, slots := 3069, locals := 32 }
theorem c_X3_init_E : eBl (fun _ s => eN1 s) := ⟨fun A a U g mk h => va_Nw.same rfl rfl h, fun A B s U hW _ _ h => va_Nw.warmM hW h⟩
set_option maxHeartbeats 4000000 in
set_option maxRecDepth 100000 in
theorem c_X3_init (l : Launch) (yy : Nat → ClassId) (h0 : Nat) : ∀ (G : va_G) (sz : Nat), Met l yX3_init wsX3_init rm_X3_init (va_Pc [.ref h0] (fun U => gSt G (sT yy) (fun _ : Unit => [(h0, .inr (1, [.null, .null, .null, .null, .null, .int 0, .int 0, .long 0, .long 0, .long 0, .long 0, .long 0]))]) sz () eTrue U ∧ eX (va_A [(h0, .inr (1, [.null, .null, .null, .null, .null, .int 0, .int 0, .long 0, .long 0, .long 0, .long 0, .long 0]))] sz) U)) (gQn (fun a => wX yy a uX0) h0 G (va_A [(h0, .inr (1, [.null, .null, .null, .null, .null, .int 0, .int 0, .long 0, .long 0, .long 0, .long 0, .long 0]))] sz)) 6 3069 (va_A [(h0, .inr (1, [.null, .null, .null, .null, .null, .int 0, .int 0, .long 0, .long 0, .long 0, .long 0, .long 0]))] sz) := by
  intro G sz
  refine Met.ofW (cc := cX3_init) (maxL := 1) (ret := none) (by decide) rfl ?_
  intro p e s m args below meth c s₁ B hml hv
  obtain ⟨rfl, ⟨hsz, hP, hK, hD0, -⟩, hE⟩ := hv
  subst hsz
  have hl := lv_entry [.ref h0] (n := 1) (Nat.le_of_ble_eq_true rfl)
  rw [lg_entry_eq]
  generalize (lg_sl [.ref h0] ++ List.replicate (1 - (lg_sl [.ref h0]).length) Slot.unset).toArray = ls at hl ⊢
  have hx := B.exec
  have hb := B.bytes
  have hr := B.returns
  have hts := atoms_spec (ws := wsX3_init) B.pre
  have hown : s.vm.findClass RX3 = some m.cls := findClass_of_methodNamed B.named
  have hlocks := B.notSynchronized
  have hin : meth.name = "<init>" := (name_of_methodNamed B.named B.method).1
  have hD := hD0.self (sz := s.heap.size)
  generalize hAe : va_A [(h0, .inr (1, [.null, .null, .null, .null, .null, .int 0, .int 0, .long 0, .long 0, .long 0, .long 0, .long 0]))] s.heap.size = A at hD hE ⊢
  have hA : ∀ q : Nat, s.heap.size ≤ q → A q := fun q h => by rw [← hAe]; exact Or.inr h
  have hS : va_S A s.heap s.heap [] := va_S.rf
  have hP : va_P G vwCl [(h0, .inr (1, [.null, .null, .null, .null, .null, .int 0, .int 0, .long 0, .long 0, .long 0, .long 0, .long 0]))] s.heap := hP
  have hl : lv_has ls 1 [(0, .ref h0)] := hl
  have inw : ∀ w ∈ wsX30, w ∈ wsX3_init := by decide +kernel
  refine lv_aload_n hx hb dX3_init_0 rfl (lv_at hl 0 rfl) ?_
  refine W.objInit hx hb hown (hts (.methodLink RX3 1 objectInit) (by decide +kernel)) (hts (.instanceMethod objectInit) (by decide +kernel)) (hts (.code objectInit ⟨#[0xb1]⟩ 1 none) (List.mem_cons_of_mem _ (List.mem_append_left _ (List.mem_append_left _ (List.mem_of_getElem? (i := 2) rfl))))) rfl (by rw [hml]; exact hl.1) rfl dX3_init_1 (Nat.le_of_ble_eq_true rfl) (Nat.le_of_ble_eq_true rfl) ?_
  refine W.eq (g2 := F0 m 4 ls []) rfl ?_
  refine lv_aload_n hx hb dX3_init_4 rfl (lv_at hl 0 rfl) ?_
  refine lv_sipush (v := 256) hx hb dX3_init_5 (by decide) ?_
  refine va_newa (atype := .long) (ty := .long) (N' := 256) (a0 := (256, .inr (.inl (fun _ => 0)))) hx hb (hts (.arrayClass .long) (by decide +kernel)) rfl hK hP hD hS hA (fun _ => rfl) (by decide) (by decide) (Nat.le_of_ble_eq_true rfl) (Nat.le_of_ble_eq_true rfl) (Nat.le_of_ble_eq_true rfl) dX3_init_8 (fun q1 cA H hK1 hP hD hS => ?_)
  have hcA : cA = yy 0 := va_uq hK1 (i := 3) (j := 0) rfl rfl (Or.inl rfl)
  rw [hcA] at hP hD
  refine W.widen (k := 1) (n := 256) (Nat.le_of_ble_eq_true rfl) (Nat.le_of_ble_eq_true rfl) ?_
  have hP : va_P G vwCl [(h0, .inr (1, [.null, .null, .null, .null, .null, .int 0, .int 0, .long 0, .long 0, .long 0, .long 0, .long 0])), (q1, .inl (yy 0, 256, .inr (.inl (fun _ => 0))))] H := hP
  have hD : va_D A [(h0, .inr (1, [.null, .null, .null, .null, .null, .int 0, .int 0, .long 0, .long 0, .long 0, .long 0, .long 0])), (q1, .inl (yy 0, 256, .inr (.inl (fun _ => 0))))] := hD
  refine va_putF (D := G) (ci := 1) (v := .ref q1) (ty := .array .long) (C := RX3) (T := TX3) (N := 12) hx hb hts inw tyX3 tyX3_ok nmX3 hown hK hP hD hS 0 rfl rfl 0 (by decide) (hts (.fieldLink RX3 9 "MixBench" "registers" "[J") (by decide +kernel)) (fun _ h9 => h9) rfl hin rfl (by decide +kernel) rfl rfl (Nat.le_of_ble_eq_true rfl) dX3_init_10 (fun H locs hP hD hS => ?_)
  have hP : va_P G vwCl [(h0, .inr (1, [.ref q1, .null, .null, .null, .null, .int 0, .int 0, .long 0, .long 0, .long 0, .long 0, .long 0])), (q1, .inl (yy 0, 256, .inr (.inl (fun _ => 0))))] H := hP
  have hD : va_D A [(h0, .inr (1, [.ref q1, .null, .null, .null, .null, .int 0, .int 0, .long 0, .long 0, .long 0, .long 0, .long 0])), (q1, .inl (yy 0, 256, .inr (.inl (fun _ => 0))))] := hD
  refine lv_aload_n hx hb dX3_init_13 rfl (lv_at hl 0 rfl) ?_
  refine lv_bipush (v := 8) hx hb dX3_init_14 (by decide) ?_
  refine va_newa (atype := .long) (ty := .long) (N' := 8) (a0 := (8, .inr (.inl (fun _ => 0)))) hx hb (hts (.arrayClass .long) (by decide +kernel)) rfl hK hP hD hS hA (fun _ => rfl) (by decide) (by decide) (Nat.le_of_ble_eq_true rfl) (Nat.le_of_ble_eq_true rfl) (Nat.le_of_ble_eq_true rfl) dX3_init_16 (fun q2 cA H hK1 hP hD hS => ?_)
  have hcA : cA = yy 0 := va_uq hK1 (i := 3) (j := 0) rfl rfl (Or.inl rfl)
  rw [hcA] at hP hD
  refine W.widen (k := 2) (n := 264) (Nat.le_of_ble_eq_true rfl) (Nat.le_of_ble_eq_true rfl) ?_
  have hP : va_P G vwCl [(h0, .inr (1, [.ref q1, .null, .null, .null, .null, .int 0, .int 0, .long 0, .long 0, .long 0, .long 0, .long 0])), (q1, .inl (yy 0, 256, .inr (.inl (fun _ => 0)))), (q2, .inl (yy 0, 8, .inr (.inl (fun _ => 0))))] H := hP
  have hD : va_D A [(h0, .inr (1, [.ref q1, .null, .null, .null, .null, .int 0, .int 0, .long 0, .long 0, .long 0, .long 0, .long 0])), (q1, .inl (yy 0, 256, .inr (.inl (fun _ => 0)))), (q2, .inl (yy 0, 8, .inr (.inl (fun _ => 0))))] := hD
  refine va_putF (D := G) (ci := 1) (v := .ref q2) (ty := .array .long) (C := RX3) (T := TX3) (N := 12) hx hb hts inw tyX3 tyX3_ok nmX3 hown hK hP hD hS 0 rfl rfl 1 (by decide) (hts (.fieldLink RX3 13 "MixBench" "specials" "[J") (by decide +kernel)) (fun _ h9 => h9) rfl hin rfl (by decide +kernel) rfl rfl (Nat.le_of_ble_eq_true rfl) dX3_init_18 (fun H locs hP hD hS => ?_)
  have hP : va_P G vwCl [(h0, .inr (1, [.ref q1, .ref q2, .null, .null, .null, .int 0, .int 0, .long 0, .long 0, .long 0, .long 0, .long 0])), (q1, .inl (yy 0, 256, .inr (.inl (fun _ => 0)))), (q2, .inl (yy 0, 8, .inr (.inl (fun _ => 0))))] H := hP
  have hD : va_D A [(h0, .inr (1, [.ref q1, .ref q2, .null, .null, .null, .int 0, .int 0, .long 0, .long 0, .long 0, .long 0, .long 0])), (q1, .inl (yy 0, 256, .inr (.inl (fun _ => 0)))), (q2, .inl (yy 0, 8, .inr (.inl (fun _ => 0))))] := hD
  refine lv_aload_n hx hb dX3_init_21 rfl (lv_at hl 0 rfl) ?_
  refine lv_sipush (v := 256) hx hb dX3_init_22 (by decide) ?_
  refine va_newa (atype := .long) (ty := .long) (N' := 256) (a0 := (256, .inr (.inl (fun _ => 0)))) hx hb (hts (.arrayClass .long) (by decide +kernel)) rfl hK hP hD hS hA (fun _ => rfl) (by decide) (by decide) (Nat.le_of_ble_eq_true rfl) (Nat.le_of_ble_eq_true rfl) (Nat.le_of_ble_eq_true rfl) dX3_init_25 (fun q3 cA H hK1 hP hD hS => ?_)
  have hcA : cA = yy 0 := va_uq hK1 (i := 3) (j := 0) rfl rfl (Or.inl rfl)
  rw [hcA] at hP hD
  refine W.widen (k := 3) (n := 520) (Nat.le_of_ble_eq_true rfl) (Nat.le_of_ble_eq_true rfl) ?_
  have hP : va_P G vwCl [(h0, .inr (1, [.ref q1, .ref q2, .null, .null, .null, .int 0, .int 0, .long 0, .long 0, .long 0, .long 0, .long 0])), (q1, .inl (yy 0, 256, .inr (.inl (fun _ => 0)))), (q2, .inl (yy 0, 8, .inr (.inl (fun _ => 0)))), (q3, .inl (yy 0, 256, .inr (.inl (fun _ => 0))))] H := hP
  have hD : va_D A [(h0, .inr (1, [.ref q1, .ref q2, .null, .null, .null, .int 0, .int 0, .long 0, .long 0, .long 0, .long 0, .long 0])), (q1, .inl (yy 0, 256, .inr (.inl (fun _ => 0)))), (q2, .inl (yy 0, 8, .inr (.inl (fun _ => 0)))), (q3, .inl (yy 0, 256, .inr (.inl (fun _ => 0))))] := hD
  refine va_putF (D := G) (ci := 1) (v := .ref q3) (ty := .array .long) (C := RX3) (T := TX3) (N := 12) hx hb hts inw tyX3 tyX3_ok nmX3 hown hK hP hD hS 0 rfl rfl 2 (by decide) (hts (.fieldLink RX3 16 "MixBench" "tallies" "[J") (by decide +kernel)) (fun _ h9 => h9) rfl hin rfl (by decide +kernel) rfl rfl (Nat.le_of_ble_eq_true rfl) dX3_init_27 (fun H locs hP hD hS => ?_)
  have hP : va_P G vwCl [(h0, .inr (1, [.ref q1, .ref q2, .ref q3, .null, .null, .int 0, .int 0, .long 0, .long 0, .long 0, .long 0, .long 0])), (q1, .inl (yy 0, 256, .inr (.inl (fun _ => 0)))), (q2, .inl (yy 0, 8, .inr (.inl (fun _ => 0)))), (q3, .inl (yy 0, 256, .inr (.inl (fun _ => 0))))] H := hP
  have hD : va_D A [(h0, .inr (1, [.ref q1, .ref q2, .ref q3, .null, .null, .int 0, .int 0, .long 0, .long 0, .long 0, .long 0, .long 0])), (q1, .inl (yy 0, 256, .inr (.inl (fun _ => 0)))), (q2, .inl (yy 0, 8, .inr (.inl (fun _ => 0)))), (q3, .inl (yy 0, 256, .inr (.inl (fun _ => 0))))] := hD
  refine lv_aload_n hx hb dX3_init_30 rfl (lv_at hl 0 rfl) ?_
  refine lv_sipush (v := 500) hx hb dX3_init_31 (by decide) ?_
  refine va_newa (atype := .byte) (ty := .byte) (N' := 500) (a0 := (500, .inl (fun _ => 0))) hx hb (hts (.arrayClass .byte) (by decide +kernel)) rfl hK hP hD hS hA (fun _ => rfl) (by decide) (by decide) (Nat.le_of_ble_eq_true rfl) (Nat.le_of_ble_eq_true rfl) (Nat.le_of_ble_eq_true rfl) dX3_init_34 (fun q4 cA H hK1 hP hD hS => ?_)
  have hcA : cA = yy 1 := va_uq hK1 (i := 3) (j := 1) rfl rfl (Or.inr (Or.inl rfl))
  rw [hcA] at hP hD
  refine W.widen (k := 4) (n := 1020) (Nat.le_of_ble_eq_true rfl) (Nat.le_of_ble_eq_true rfl) ?_
  have hP : va_P G vwCl [(h0, .inr (1, [.ref q1, .ref q2, .ref q3, .null, .null, .int 0, .int 0, .long 0, .long 0, .long 0, .long 0, .long 0])), (q1, .inl (yy 0, 256, .inr (.inl (fun _ => 0)))), (q2, .inl (yy 0, 8, .inr (.inl (fun _ => 0)))), (q3, .inl (yy 0, 256, .inr (.inl (fun _ => 0)))), (q4, .inl (yy 1, 500, .inl (fun _ => 0)))] H := hP
  have hD : va_D A [(h0, .inr (1, [.ref q1, .ref q2, .ref q3, .null, .null, .int 0, .int 0, .long 0, .long 0, .long 0, .long 0, .long 0])), (q1, .inl (yy 0, 256, .inr (.inl (fun _ => 0)))), (q2, .inl (yy 0, 8, .inr (.inl (fun _ => 0)))), (q3, .inl (yy 0, 256, .inr (.inl (fun _ => 0)))), (q4, .inl (yy 1, 500, .inl (fun _ => 0)))] := hD
  refine va_putF (D := G) (ci := 1) (v := .ref q4) (ty := .array .byte) (C := RX3) (T := TX3) (N := 12) hx hb hts inw tyX3 tyX3_ok nmX3 hown hK hP hD hS 0 rfl rfl 3 (by decide) (hts (.fieldLink RX3 19 "MixBench" "outputBytes" "[B") (by decide +kernel)) (fun _ h9 => h9) rfl hin rfl (by decide +kernel) rfl rfl (Nat.le_of_ble_eq_true rfl) dX3_init_36 (fun H locs hP hD hS => ?_)
  have hP : va_P G vwCl [(h0, .inr (1, [.ref q1, .ref q2, .ref q3, .ref q4, .null, .int 0, .int 0, .long 0, .long 0, .long 0, .long 0, .long 0])), (q1, .inl (yy 0, 256, .inr (.inl (fun _ => 0)))), (q2, .inl (yy 0, 8, .inr (.inl (fun _ => 0)))), (q3, .inl (yy 0, 256, .inr (.inl (fun _ => 0)))), (q4, .inl (yy 1, 500, .inl (fun _ => 0)))] H := hP
  have hD : va_D A [(h0, .inr (1, [.ref q1, .ref q2, .ref q3, .ref q4, .null, .int 0, .int 0, .long 0, .long 0, .long 0, .long 0, .long 0])), (q1, .inl (yy 0, 256, .inr (.inl (fun _ => 0)))), (q2, .inl (yy 0, 8, .inr (.inl (fun _ => 0)))), (q3, .inl (yy 0, 256, .inr (.inl (fun _ => 0)))), (q4, .inl (yy 1, 500, .inl (fun _ => 0)))] := hD
  refine lv_aload_n hx hb dX3_init_39 rfl (lv_at hl 0 rfl) ?_
  refine va_new (ci := 0) (fs := [.null]) (C := RX0) (T := TX0) (N := 1) hx hb hts (by decide +kernel) tyX0 tyX0_ok hown (hts (.classLink RX3 23 RX0) (by decide +kernel)) (hts (.instantiable RX0 1) (by decide +kernel)) (hts (.initialized RX0) (by decide +kernel)) hK hP hD hS hA rfl (fun j hj => by rcases (show j = 0 by omega) with rfl; rfl) (Nat.le_of_ble_eq_true rfl) (Nat.le_of_ble_eq_true rfl) dX3_init_40 (fun q5 H hP hD hS => ?_)
  refine W.widen (k := 5) (n := 1021) (Nat.le_of_ble_eq_true rfl) (Nat.le_of_ble_eq_true rfl) ?_
  have hP : va_P G vwCl [(h0, .inr (1, [.ref q1, .ref q2, .ref q3, .ref q4, .null, .int 0, .int 0, .long 0, .long 0, .long 0, .long 0, .long 0])), (q1, .inl (yy 0, 256, .inr (.inl (fun _ => 0)))), (q2, .inl (yy 0, 8, .inr (.inl (fun _ => 0)))), (q3, .inl (yy 0, 256, .inr (.inl (fun _ => 0)))), (q4, .inl (yy 1, 500, .inl (fun _ => 0))), (q5, .inr (0, [.null]))] H := hP
  have hD : va_D A [(h0, .inr (1, [.ref q1, .ref q2, .ref q3, .ref q4, .null, .int 0, .int 0, .long 0, .long 0, .long 0, .long 0, .long 0])), (q1, .inl (yy 0, 256, .inr (.inl (fun _ => 0)))), (q2, .inl (yy 0, 8, .inr (.inl (fun _ => 0)))), (q3, .inl (yy 0, 256, .inr (.inl (fun _ => 0)))), (q4, .inl (yy 1, 500, .inl (fun _ => 0))), (q5, .inr (0, [.null]))] := hD
  refine lv_dup hx hb dX3_init_43 rfl ?_
  have hPc := hP.sub (ws' := [(q5, .inr (0, [.null]))]) [5] rfl
  have hDc := hD.sub (ws' := [(q5, .inr (0, [.null]))]) [5] (by decide) rfl
  have hFc := va_free (wc := [(q5, .inr (0, [.null]))]) hD hS hA [5] rfl
  refine va_callv (va_runIN (As := []) (rest := [.ref q5, .ref h0]) ⟨hx, hb, hml, hown, hts⟩ (c_X0_init l yy q5 G H.size) ⟨va_cnB 0 hts gX3_init_X0_init_n25 rfl rfl rfl (hE.1 (25, yX0_init) (by decide +kernel)) (hts (.initialized RX0) (by decide +kernel)) (by decide +kernel) ⟨(Nat.le_of_ble_eq_true rfl), (Nat.le_of_ble_eq_true rfl)⟩, rfl, hts (.instanceMethod yX0_init) (by decide +kernel)⟩ (gi_pre hK hPc hDc) rfl rfl hl.1 rfl (lv_room (Nat.le_of_ble_eq_true rfl)) dX3_init_44 ⟨(Nat.le_of_ble_eq_true rfl), (Nat.le_of_ble_eq_true rfl)⟩) hS (fun q _ h => hFc q h) hFc (fun a1 t H1 locs ht hvm hw hB hz1 hk1 hS => ?_)
  obtain ⟨hP1, hD1⟩ := hB
  rw [ht] at hP1
  obtain ⟨hP, hD⟩ := va_join (wr := [(h0, .inr (1, [.ref q1, .ref q2, .ref q3, .ref q4, .null, .int 0, .int 0, .long 0, .long 0, .long 0, .long 0, .long 0])), (q1, .inl (yy 0, 256, .inr (.inl (fun _ => 0)))), (q2, .inl (yy 0, 8, .inr (.inl (fun _ => 0)))), (q3, .inl (yy 0, 256, .inr (.inl (fun _ => 0)))), (q4, .inl (yy 1, 500, .inl (fun _ => 0)))]) (w1 := wO yy a1) hP hD [5] [0, 1, 2, 3, 4] rfl rfl (by decide) (by decide) hk1 hFc hP1 hD1
  have hw : a1 0 = q5 := hw
  obtain ⟨q6, hq6⟩ : ∃ q, q = a1 1 := ⟨_, rfl⟩
  have hP : va_P G vwCl [(h0, .inr (1, [.ref q1, .ref q2, .ref q3, .ref q4, .null, .int 0, .int 0, .long 0, .long 0, .long 0, .long 0, .long 0])), (q1, .inl (yy 0, 256, .inr (.inl (fun _ => 0)))), (q2, .inl (yy 0, 8, .inr (.inl (fun _ => 0)))), (q3, .inl (yy 0, 256, .inr (.inl (fun _ => 0)))), (q4, .inl (yy 1, 500, .inl (fun _ => 0))), (q5, .inr (0, [.ref q6])), (q6, .inl (yy 0, 2048, .inr (.inl (fun _ => 0))))] H1 := by rw [hq6, ← hw]; exact hP
  have hD : va_D A [(h0, .inr (1, [.ref q1, .ref q2, .ref q3, .ref q4, .null, .int 0, .int 0, .long 0, .long 0, .long 0, .long 0, .long 0])), (q1, .inl (yy 0, 256, .inr (.inl (fun _ => 0)))), (q2, .inl (yy 0, 8, .inr (.inl (fun _ => 0)))), (q3, .inl (yy 0, 256, .inr (.inl (fun _ => 0)))), (q4, .inl (yy 1, 500, .inl (fun _ => 0))), (q5, .inr (0, [.ref q6])), (q6, .inl (yy 0, 2048, .inr (.inl (fun _ => 0))))] := by rw [hq6, ← hw]; exact hD
  refine W.widen (k := 6) (n := 3069) (Nat.le_of_ble_eq_true rfl) (Nat.le_of_ble_eq_true rfl) ?_
  refine va_putF (D := G) (ci := 1) (v := .ref q5) (ty := .object "MixBench$Memory") (C := RX3) (T := TX3) (N := 12) hx hb hts inw tyX3 tyX3_ok nmX3 hown hK hP hD hS 0 rfl rfl 4 (by decide) (hts (.fieldLink RX3 26 "MixBench" "memory" "LMixBench$Memory;") (by decide +kernel)) (fun _ h9 => h9) rfl hin rfl (by decide +kernel) rfl rfl (Nat.le_of_ble_eq_true rfl) dX3_init_47 (fun H locs hP hD hS => ?_)
  have hP : va_P G vwCl [(h0, .inr (1, [.ref q1, .ref q2, .ref q3, .ref q4, .ref q5, .int 0, .int 0, .long 0, .long 0, .long 0, .long 0, .long 0])), (q1, .inl (yy 0, 256, .inr (.inl (fun _ => 0)))), (q2, .inl (yy 0, 8, .inr (.inl (fun _ => 0)))), (q3, .inl (yy 0, 256, .inr (.inl (fun _ => 0)))), (q4, .inl (yy 1, 500, .inl (fun _ => 0))), (q5, .inr (0, [.ref q6])), (q6, .inl (yy 0, 2048, .inr (.inl (fun _ => 0))))] H := hP
  have hD : va_D A [(h0, .inr (1, [.ref q1, .ref q2, .ref q3, .ref q4, .ref q5, .int 0, .int 0, .long 0, .long 0, .long 0, .long 0, .long 0])), (q1, .inl (yy 0, 256, .inr (.inl (fun _ => 0)))), (q2, .inl (yy 0, 8, .inr (.inl (fun _ => 0)))), (q3, .inl (yy 0, 256, .inr (.inl (fun _ => 0)))), (q4, .inl (yy 1, 500, .inl (fun _ => 0))), (q5, .inr (0, [.ref q6])), (q6, .inl (yy 0, 2048, .inr (.inl (fun _ => 0))))] := hD
  exact W.vret hx hb hr (fun t ht hW => ⟨⟨fun j => if j = 0 then h0 else if j = 1 then q1 else if j = 2 then q2 else if j = 3 then q3 else if j = 4 then q4 else if j = 5 then q5 else q6, rfl, rfl, by rw [ht]; exact hP, hD⟩, hS.F ht⟩) hS.2.2 dX3_init_50 hlocks
