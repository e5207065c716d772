/-! the law's helper methods -/
/-- the cells of a MixBench and, ahead of them, the law's long[1] -/
abbrev wXo (y : Nat → ClassId) (a : Nat → Nat) (ao : Nat) (F : XS × (Nat → Int64)) : va_W := (ao, .inl (y 0, 1, .inr (.inl F.2))) :: wX y a F.1
/-- what the law needs of the state -/
def eL (A : Nat → Prop) (s : State) : Prop := eX A s ∧ va_Nc "java/lang/IndexOutOfBoundsException" "java/util/NoSuchElementException" s
theorem eL_bl : eBl eL := ⟨fun A a U g mk h => ⟨eX_bl.1 _ _ _ _ _ h.1, va_Nc.moved (Vm.Alike.refl U.vm) h.2⟩, fun A B s U hW hk hAB h => ⟨eX_bl.2 _ _ _ _ hW hk hAB h.1, va_Nc.moved hW.alike h.2⟩⟩
/-- what a helper answers: 0 with the answer in out, or the number of the handler -/
def rL1 (F : Int32 × Int64 × XS) (f : Nat → Int64) : Int32 × (XS × (Nat → Int64)) := (if F.1 = 0 then 0 else 1, (F.2.2, if F.1 = 0 then vp_updL f 0 F.2.1 else f))
def rLi (F : Int32 × Int32 × XS) : Int32 × Int64 × XS := (F.1, F.2.1.toInt64, F.2.2)
def rL2 (F : Int32 × Int64 × XS) (f : Nat → Int64) : Int32 × (XS × (Nat → Int64)) := (F.1, (F.2.2, if F.1 = 0 then vp_updL f 0 F.2.1 else f))
theorem rL1_0 {F : Int32 × Int64 × XS} {f : Nat → Int64} (h : F.1 = 0) : rL1 F f = (0, (F.2.2, vp_updL f 0 F.2.1)) := by unfold rL1; rw [if_pos h, if_pos h]
theorem rL1_1 {F : Int32 × Int64 × XS} {f : Nat → Int64} (h : ¬ F.1 = 0) : rL1 F f = (1, (F.2.2, f)) := by unfold rL1; rw [if_neg h, if_neg h]
theorem rL2_0 {F : Int32 × Int64 × XS} {f : Nat → Int64} (h : F.1 = 0) : rL2 F f = (0, (F.2.2, vp_updL f 0 F.2.1)) := by unfold rL2; rw [if_pos h, h]
theorem rL2_k {F : Int32 × Int64 × XS} {f : Nat → Int64} {k : Int32} (h : F.1 = k) (hk : ¬ k = 0) : rL2 F f = (k, (F.2.2, f)) := by unfold rL2; rw [if_neg (by rw [h]; exact hk), h]
abbrev gLMi (l : Launch) (y : MethodName) (ws : List Cond) (rm : Room) (yy : Nat → ClassId) (a : Nat → Nat) (ao : Nat) (av : List Value) (uo : XS × (Nat → Int64)) (g : Int32 × (XS × (Nat → Int64))) : Prop := ∀ (G : va_G) (sz : Nat), Met l y ws rm (va_Pc av (gSt G (sT yy) (wXo yy a ao) sz uo eL)) (gQi (wXo yy a ao) g G (va_A (wXo yy a ao uo) sz)) 1 6 (va_A (wXo yy a ao uo) sz)
theorem va_P.tl {G : va_G} {cl : List vw_C} {q : Nat × va_E} {w : va_W} {H : Heap} (h : va_P G cl (q :: w) H) : va_P G cl w H := fun k e he => h (k + 1) e he
theorem va_D.tl {A : Nat → Prop} {q : Nat × va_E} {w : va_W} (h : va_D A (q :: w)) : va_D A w := ⟨fun i j p r hi hj hpr => Nat.succ.inj (h.1 (i + 1) (j + 1) p r hi hj hpr), fun k e he => h.2 (k + 1) e he⟩
theorem gL_ofW {S : Type} {l : Launch} {y : MethodName} {ws ws' : List Cond} {rm : Room} {E : (Nat → Prop) → State → Prop} {ty : List (ClassId × FieldType)} {w : S → va_W} {av : List Value} {u : S} {cc : ByteArray} {maxL : Nat} {ret : Option FieldType} {hh : List (Nat × Nat × Nat × Nat)} {mc ms : Nat} {Qc : va_G → (Nat → Prop) → Array Value → State → Outcome → State → Prop} (hy : plainName y.cls = true) (hw : ws = Cond.codeWith y cc maxL ret hh :: ws') (hn : (lg_sl av).length ≤ maxL)
    (body : ∀ (G : va_G) (A : Nat → Prop) (p : Program) (e : Env) (s : State) (m : MethodId) (args : Array Value) (below : List Frame) (meth : Method) (c : Code), p.tables.exec = Jvm.exec → c.code = cc → meth.sig.returnType = ret → c.maxLocals = maxL → (∀ x ∈ ws, x.before args s = true) → s.vm.findClass y.cls = some m.cls → meth.locks = false → c.exceptionTable.toList = tableOf hh → va_K G vwCl ty s → E A s → (∀ q : Nat, s.heap.size ≤ q → A q) → ∀ (H : Heap) (locs : List Loc), va_P G vwCl (w u) H → va_D A (w u) → va_S A s.heap H locs → ∀ ls : Array Slot, lv_has ls maxL (lv_args 0 av) → W p l e rm s m args below meth c H locs 0 0 (MQ below (Qc G A) args s mc ms A) (F0 m 0 ls [])) :
    ∀ (G : va_G) (sz : Nat), Met l y ws rm (va_Pc av (gSt G ty w sz u E)) (Qc G (va_A (w u) sz)) mc ms (va_A (w u) sz) := by
  intro G sz
  refine va_MetW (cc := cc) (maxL := maxL) (ret := ret) (hh := hh) hy hw ?_
  intro p e s m args below meth c s₁ B hml hv
  obtain ⟨rfl, hsz, hP, hK, hD0, hE⟩ := hv
  subst hsz
  have hl := lv_entry av (n := maxL) hn
  rw [lg_entry_eq]
  have hts := atoms_spec (ws := ws) B.pre
  exact body G (va_A (w u) s.heap.size) p e s m _ below meth c B.exec B.bytes B.returns hml hts (findClass_of_methodNamed B.named) B.notSynchronized (vx_table (x := y) B (hts _ (by rw [hw]; exact List.mem_cons_self))) hK hE (fun q h => Or.inr h) _ _ hP (hD0.self (sz := s.heap.size)) va_S.rf _ hl
abbrev rm_L_set : Room := { frames := 7, cells := 1, slots := 6, locals := 115 }
set_option maxHeartbeats 4000000 in
set_option maxRecDepth 100000 in
theorem c_L_set (l : Launch) (yy : Nat → ClassId) (a : Nat → Nat) (ao : Nat) (u : XS) (f : Nat → Int64) (p0 : Int32) (p1 : Int64) (F : Int32 × Int64 × XS) (hF : gxMl l yX3_set wsX3_set rm_X3_set eX (sT yy) (wX yy a) [.ref (a 0), .int p0, .long p1] u F) (hk : F.1 = 0 ∨ F.1 = 1) : gLMi l yL_set wsL_set rm_L_set yy a ao [.ref (a 0), .int p0, .long p1, .ref ao] (u, f) (rL1 F f) := by
  refine gL_ofW (mc := 1) (ms := 6) (Qc := gQi (wXo yy a ao) (rL1 F f)) (by decide) rfl (Nat.le_of_ble_eq_true rfl) ?_
  intro G A p e s m args below meth c hx hb hr hml hts hown hlocks hxt hK hE hA H locs hP hD hS ls hl
  have hl : lv_has ls 6 [(0, .ref (a 0)), (1, .int p0), (2, .long p1), (4, .ref ao)] := hl
  refine lv_aload hx hb dL_set_0 (lv_at hl 3 rfl) ?_
  refine lv_iconst (v := 0) hx hb dL_set_2 (by decide) ?_
  refine lv_aload_n hx hb dL_set_3 rfl (lv_at hl 0 rfl) ?_
  refine lv_iload_n hx hb dL_set_4 rfl (lv_at hl 1 rfl) ?_
  refine lv_lload_n hx hb dL_set_5 rfl (lv_at hl 2 rfl) ?_
  have hP9 : va_P G vwCl (wX yy a u) H := va_P.tl hP
  have hD9 : va_D A (wX yy a u) := hD.tl
  refine vx_calll (vx_runV (As := [.int p0, .long p1]) (rest := [.int 0, .ref ao]) ⟨hx, hb, hml, hown, hts⟩ (hF G H.size) (cwV 2 hts gL_set_X3_set rfl rfl rfl (by decide +kernel) ⟨Nat.le_of_ble_eq_true rfl, Nat.le_of_ble_eq_true rfl⟩) (g_preV eX_bl hK hE.1 hP9 hD9 hS hA 0 rfl rfl) rfl rfl hl.1 rfl (lv_room (Nat.le_of_ble_eq_true rfl)) dL_set_6 ⟨Nat.le_of_ble_eq_true rfl, Nat.le_of_ble_eq_true rfl⟩) hS (fun q _ h => g_free hD9 hS hA q h) (g_free hD9 hS hA) (fun q _ h => g_free hD9 hS hA q h) ?_ ?_
  · intro E ce q9 u9 t H1 locs1 ht hal hpx hbx hsz hk1 hS1 hce hcv hcl
    obtain ⟨hn0, e9⟩ := hpx
    obtain ⟨eE, hP1, hD1⟩ := hbx
    rw [ht] at hP1
    obtain ⟨hP2, hD2⟩ := va_join (wr := [(ao, .inl (yy 0, 1, .inr (.inl f)))]) (wc := wX yy a u) hP hD [1, 2, 3, 4, 5, 6, 7] [0] rfl rfl rfl (by decide) hk1 (g_free hD9 hS hA) hP1 hD1
    have hP2 : va_P G vwCl (wXo yy a ao (u9, f)) H1 := hP2
    have hD2 : va_D A (wXo yy a ao (u9, f)) := hD2
    have eE : E = "java/util/NoSuchElementException" := by rw [eE, hk.resolve_left hn0]; rfl
    refine vx_catch (own := RL) (name := "java/util/NoSuchElementException") hown (tableOf []) _ (tableOf []) hxt (fun z hz => by cases hz) rfl (by decide) (hts (.classLink RL 13 "java/util/NoSuchElementException") (by decide +kernel)) (by rw [eE]; exact va_Nw.use rfl (hE.1.2.2.1.1 "java/util/NoSuchElementException" (by decide))) hce hcv hcl ?_
    refine lv_astore (lv' := [(5, .ref q9), (0, .ref (a 0)), (1, .int p0), (2, .long p1), (4, .ref ao)]) hx hb dL_set_13 hl (by decide) rfl (fun ls hl => ?_)
    refine lv_iconst (v := 1) hx hb dL_set_15 (by decide) ?_
    exact W.iret hx hb hr (fun t1 ht1 hW1 => ⟨⟨_, (u9, f), rfl, ⟨by rw [rL1_1 (F := F) (f := f) hn0], by rw [rL1_1 (F := F) (f := f) hn0, e9]⟩, by rw [gEn, ht1]; exact ⟨hP2, hD2⟩⟩, hS1.F ht1⟩) hS1.2.2 dL_set_16 hlocks
  · intro r u9 t H1 locs1 ht hal hpost hbx hsz hk1 hS1
    obtain ⟨h0, er, e9⟩ := hpost
    obtain ⟨hP1, hD1⟩ := hbx
    rw [ht] at hP1
    obtain ⟨hP2, hD2⟩ := va_join (wr := [(ao, .inl (yy 0, 1, .inr (.inl f)))]) (wc := wX yy a u) hP hD [1, 2, 3, 4, 5, 6, 7] [0] rfl rfl rfl (by decide) hk1 (g_free hD9 hS hA) hP1 hD1
    have hP2 : va_P G vwCl (wXo yy a ao (u9, f)) H1 := hP2
    have hD2 : va_D A (wXo yy a ao (u9, f)) := hD2
    refine va_last hx hb hK hP2 hD2 hS1 0 0 rfl rfl (by unfold vp_in; decide) dL_set_9 (fun H2 locs2 hP3 hD3 hS2 => ?_)
    refine lv_goto (tgt := 17) hx hb dL_set_10 (by decide) ?_
    refine lv_iconst (v := 0) hx hb dL_set_17 (by decide) ?_
    have hP3 : va_P G vwCl (wXo yy a ao (u9, vp_updL f 0 (r))) H2 := hP3
    have hD3 : va_D A (wXo yy a ao (u9, vp_updL f 0 (r))) := hD3
    exact W.iret hx hb hr (fun t1 ht1 hW1 => ⟨⟨_, (u9, vp_updL f 0 (r)), rfl, ⟨by rw [rL1_0 (F := F) (f := f) h0], by rw [rL1_0 (F := F) (f := f) h0, e9, er]⟩, by rw [gEn, ht1]; exact ⟨hP3, hD3⟩⟩, hS2.F ht1⟩) hS2.2.2 dL_set_18 hlocks
abbrev rm_L_get : Room := { frames := 7, cells := 1, slots := 6, locals := 111 }
set_option maxHeartbeats 4000000 in
set_option maxRecDepth 100000 in
theorem c_L_get (l : Launch) (yy : Nat → ClassId) (a : Nat → Nat) (ao : Nat) (u : XS) (f : Nat → Int64) (p0 : Int32) (F : Int32 × Int64 × XS) (hF : gxMl l yX3_get wsX3_get rm_X3_get eX (sT yy) (wX yy a) [.ref (a 0), .int p0] u F) (hk : F.1 = 0 ∨ F.1 = 1) : gLMi l yL_get wsL_get rm_L_get yy a ao [.ref (a 0), .int p0, .ref ao] (u, f) (rL1 F f) := by
  refine gL_ofW (mc := 1) (ms := 6) (Qc := gQi (wXo yy a ao) (rL1 F f)) (by decide) rfl (Nat.le_of_ble_eq_true rfl) ?_
  intro G A p e s m args below meth c hx hb hr hml hts hown hlocks hxt hK hE hA H locs hP hD hS ls hl
  have hl : lv_has ls 4 [(0, .ref (a 0)), (1, .int p0), (2, .ref ao)] := hl
  refine lv_aload_n hx hb dL_get_0 rfl (lv_at hl 2 rfl) ?_
  refine lv_iconst (v := 0) hx hb dL_get_1 (by decide) ?_
  refine lv_aload_n hx hb dL_get_2 rfl (lv_at hl 0 rfl) ?_
  refine lv_iload_n hx hb dL_get_3 rfl (lv_at hl 1 rfl) ?_
  have hP9 : va_P G vwCl (wX yy a u) H := va_P.tl hP
  have hD9 : va_D A (wX yy a u) := hD.tl
  refine vx_calll (vx_runV (As := [.int p0]) (rest := [.int 0, .ref ao]) ⟨hx, hb, hml, hown, hts⟩ (hF G H.size) (cwV 1 hts gL_get_X3_get rfl rfl rfl (by decide +kernel) ⟨Nat.le_of_ble_eq_true rfl, Nat.le_of_ble_eq_true rfl⟩) (g_preV eX_bl hK hE.1 hP9 hD9 hS hA 0 rfl rfl) rfl rfl hl.1 rfl (lv_room (Nat.le_of_ble_eq_true rfl)) dL_get_4 ⟨Nat.le_of_ble_eq_true rfl, Nat.le_of_ble_eq_true rfl⟩) hS (fun q _ h => g_free hD9 hS hA q h) (g_free hD9 hS hA) (fun q _ h => g_free hD9 hS hA q h) ?_ ?_
  · intro E ce q9 u9 t H1 locs1 ht hal hpx hbx hsz hk1 hS1 hce hcv hcl
    obtain ⟨hn0, e9⟩ := hpx
    obtain ⟨eE, hP1, hD1⟩ := hbx
    rw [ht] at hP1
    obtain ⟨hP2, hD2⟩ := va_join (wr := [(ao, .inl (yy 0, 1, .inr (.inl f)))]) (wc := wX yy a u) hP hD [1, 2, 3, 4, 5, 6, 7] [0] rfl rfl rfl (by decide) hk1 (g_free hD9 hS hA) hP1 hD1
    have hP2 : va_P G vwCl (wXo yy a ao (u9, f)) H1 := hP2
    have hD2 : va_D A (wXo yy a ao (u9, f)) := hD2
    have eE : E = "java/util/NoSuchElementException" := by rw [eE, hk.resolve_left hn0]; rfl
    refine vx_catch (own := RL) (name := "java/util/NoSuchElementException") hown (tableOf []) _ (tableOf []) hxt (fun z hz => by cases hz) rfl (by decide) (hts (.classLink RL 13 "java/util/NoSuchElementException") (by decide +kernel)) (by rw [eE]; exact va_Nw.use rfl (hE.1.2.2.1.1 "java/util/NoSuchElementException" (by decide))) hce hcv hcl ?_
    refine lv_astore_n (lv' := [(3, .ref q9), (0, .ref (a 0)), (1, .int p0), (2, .ref ao)]) hx hb dL_get_11 rfl hl (by decide) rfl (fun ls hl => ?_)
    refine lv_iconst (v := 1) hx hb dL_get_12 (by decide) ?_
    exact W.iret hx hb hr (fun t1 ht1 hW1 => ⟨⟨_, (u9, f), rfl, ⟨by rw [rL1_1 (F := F) (f := f) hn0], by rw [rL1_1 (F := F) (f := f) hn0, e9]⟩, by rw [gEn, ht1]; exact ⟨hP2, hD2⟩⟩, hS1.F ht1⟩) hS1.2.2 dL_get_13 hlocks
  · intro r u9 t H1 locs1 ht hal hpost hbx hsz hk1 hS1
    obtain ⟨h0, er, e9⟩ := hpost
    obtain ⟨hP1, hD1⟩ := hbx
    rw [ht] at hP1
    obtain ⟨hP2, hD2⟩ := va_join (wr := [(ao, .inl (yy 0, 1, .inr (.inl f)))]) (wc := wX yy a u) hP hD [1, 2, 3, 4, 5, 6, 7] [0] rfl rfl rfl (by decide) hk1 (g_free hD9 hS hA) hP1 hD1
    have hP2 : va_P G vwCl (wXo yy a ao (u9, f)) H1 := hP2
    have hD2 : va_D A (wXo yy a ao (u9, f)) := hD2
    refine va_last hx hb hK hP2 hD2 hS1 0 0 rfl rfl (by unfold vp_in; decide) dL_get_7 (fun H2 locs2 hP3 hD3 hS2 => ?_)
    refine lv_goto (tgt := 14) hx hb dL_get_8 (by decide) ?_
    refine lv_iconst (v := 0) hx hb dL_get_14 (by decide) ?_
    have hP3 : va_P G vwCl (wXo yy a ao (u9, vp_updL f 0 (r))) H2 := hP3
    have hD3 : va_D A (wXo yy a ao (u9, vp_updL f 0 (r))) := hD3
    exact W.iret hx hb hr (fun t1 ht1 hW1 => ⟨⟨_, (u9, vp_updL f 0 (r)), rfl, ⟨by rw [rL1_0 (F := F) (f := f) h0], by rw [rL1_0 (F := F) (f := f) h0, e9, er]⟩, by rw [gEn, ht1]; exact ⟨hP3, hD3⟩⟩, hS2.F ht1⟩) hS2.2.2 dL_get_15 hlocks
abbrev rm_L_poke : Room := { frames := 7, cells := 1, slots := 6, locals := 115 }
set_option maxHeartbeats 4000000 in
set_option maxRecDepth 100000 in
theorem c_L_poke (l : Launch) (yy : Nat → ClassId) (a : Nat → Nat) (ao : Nat) (u : XS) (f : Nat → Int64) (p0 : Int32) (p1 : Int64) (F : Int32 × Int64 × XS) (hF : gxMl l yX3_poke wsX3_poke rm_X3_poke eX (sT yy) (wX yy a) [.ref (a 0), .int p0, .long p1] u F) (hk : F.1 = 0 ∨ F.1 = 2) : gLMi l yL_poke wsL_poke rm_L_poke yy a ao [.ref (a 0), .int p0, .long p1, .ref ao] (u, f) (rL1 F f) := by
  refine gL_ofW (mc := 1) (ms := 6) (Qc := gQi (wXo yy a ao) (rL1 F f)) (by decide) rfl (Nat.le_of_ble_eq_true rfl) ?_
  intro G A p e s m args below meth c hx hb hr hml hts hown hlocks hxt hK hE hA H locs hP hD hS ls hl
  have hl : lv_has ls 6 [(0, .ref (a 0)), (1, .int p0), (2, .long p1), (4, .ref ao)] := hl
  refine lv_aload hx hb dL_poke_0 (lv_at hl 3 rfl) ?_
  refine lv_iconst (v := 0) hx hb dL_poke_2 (by decide) ?_
  refine lv_aload_n hx hb dL_poke_3 rfl (lv_at hl 0 rfl) ?_
  refine lv_iload_n hx hb dL_poke_4 rfl (lv_at hl 1 rfl) ?_
  refine lv_lload_n hx hb dL_poke_5 rfl (lv_at hl 2 rfl) ?_
  have hP9 : va_P G vwCl (wX yy a u) H := va_P.tl hP
  have hD9 : va_D A (wX yy a u) := hD.tl
  refine vx_calll (vx_runV (As := [.int p0, .long p1]) (rest := [.int 0, .ref ao]) ⟨hx, hb, hml, hown, hts⟩ (hF G H.size) (cwV 2 hts gL_poke_X3_poke rfl rfl rfl (by decide +kernel) ⟨Nat.le_of_ble_eq_true rfl, Nat.le_of_ble_eq_true rfl⟩) (g_preV eX_bl hK hE.1 hP9 hD9 hS hA 0 rfl rfl) rfl rfl hl.1 rfl (lv_room (Nat.le_of_ble_eq_true rfl)) dL_poke_6 ⟨Nat.le_of_ble_eq_true rfl, Nat.le_of_ble_eq_true rfl⟩) hS (fun q _ h => g_free hD9 hS hA q h) (g_free hD9 hS hA) (fun q _ h => g_free hD9 hS hA q h) ?_ ?_
  · intro E ce q9 u9 t H1 locs1 ht hal hpx hbx hsz hk1 hS1 hce hcv hcl
    obtain ⟨hn0, e9⟩ := hpx
    obtain ⟨eE, hP1, hD1⟩ := hbx
    rw [ht] at hP1
    obtain ⟨hP2, hD2⟩ := va_join (wr := [(ao, .inl (yy 0, 1, .inr (.inl f)))]) (wc := wX yy a u) hP hD [1, 2, 3, 4, 5, 6, 7] [0] rfl rfl rfl (by decide) hk1 (g_free hD9 hS hA) hP1 hD1
    have hP2 : va_P G vwCl (wXo yy a ao (u9, f)) H1 := hP2
    have hD2 : va_D A (wXo yy a ao (u9, f)) := hD2
    have eE : E = "java/lang/IndexOutOfBoundsException" := by rw [eE, hk.resolve_left hn0]; rfl
    refine vx_catch (own := RL) (name := "java/lang/IndexOutOfBoundsException") hown (tableOf []) _ (tableOf []) hxt (fun z hz => by cases hz) rfl (by decide) (hts (.classLink RL 22 "java/lang/IndexOutOfBoundsException") (by decide +kernel)) (by rw [eE]; exact va_Nw.use rfl (hE.1.2.2.1.1 "java/lang/IndexOutOfBoundsException" (by decide))) hce hcv hcl ?_
    refine lv_astore (lv' := [(5, .ref q9), (0, .ref (a 0)), (1, .int p0), (2, .long p1), (4, .ref ao)]) hx hb dL_poke_13 hl (by decide) rfl (fun ls hl => ?_)
    refine lv_iconst (v := 1) hx hb dL_poke_15 (by decide) ?_
    exact W.iret hx hb hr (fun t1 ht1 hW1 => ⟨⟨_, (u9, f), rfl, ⟨by rw [rL1_1 (F := F) (f := f) hn0], by rw [rL1_1 (F := F) (f := f) hn0, e9]⟩, by rw [gEn, ht1]; exact ⟨hP2, hD2⟩⟩, hS1.F ht1⟩) hS1.2.2 dL_poke_16 hlocks
  · intro r u9 t H1 locs1 ht hal hpost hbx hsz hk1 hS1
    obtain ⟨h0, er, e9⟩ := hpost
    obtain ⟨hP1, hD1⟩ := hbx
    rw [ht] at hP1
    obtain ⟨hP2, hD2⟩ := va_join (wr := [(ao, .inl (yy 0, 1, .inr (.inl f)))]) (wc := wX yy a u) hP hD [1, 2, 3, 4, 5, 6, 7] [0] rfl rfl rfl (by decide) hk1 (g_free hD9 hS hA) hP1 hD1
    have hP2 : va_P G vwCl (wXo yy a ao (u9, f)) H1 := hP2
    have hD2 : va_D A (wXo yy a ao (u9, f)) := hD2
    refine va_last hx hb hK hP2 hD2 hS1 0 0 rfl rfl (by unfold vp_in; decide) dL_poke_9 (fun H2 locs2 hP3 hD3 hS2 => ?_)
    refine lv_goto (tgt := 17) hx hb dL_poke_10 (by decide) ?_
    refine lv_iconst (v := 0) hx hb dL_poke_17 (by decide) ?_
    have hP3 : va_P G vwCl (wXo yy a ao (u9, vp_updL f 0 (r))) H2 := hP3
    have hD3 : va_D A (wXo yy a ao (u9, vp_updL f 0 (r))) := hD3
    exact W.iret hx hb hr (fun t1 ht1 hW1 => ⟨⟨_, (u9, vp_updL f 0 (r)), rfl, ⟨by rw [rL1_0 (F := F) (f := f) h0], by rw [rL1_0 (F := F) (f := f) h0, e9, er]⟩, by rw [gEn, ht1]; exact ⟨hP3, hD3⟩⟩, hS2.F ht1⟩) hS2.2.2 dL_poke_18 hlocks
abbrev rm_L_peek : Room := { frames := 7, cells := 1, slots := 6, locals := 111 }
set_option maxHeartbeats 4000000 in
set_option maxRecDepth 100000 in
theorem c_L_peek (l : Launch) (yy : Nat → ClassId) (a : Nat → Nat) (ao : Nat) (u : XS) (f : Nat → Int64) (p0 : Int32) (F : Int32 × Int64 × XS) (hF : gxMl l yX3_peek wsX3_peek rm_X3_peek eX (sT yy) (wX yy a) [.ref (a 0), .int p0] u F) (hk : F.1 = 0 ∨ F.1 = 2) : gLMi l yL_peek wsL_peek rm_L_peek yy a ao [.ref (a 0), .int p0, .ref ao] (u, f) (rL1 F f) := by
  refine gL_ofW (mc := 1) (ms := 6) (Qc := gQi (wXo yy a ao) (rL1 F f)) (by decide) rfl (Nat.le_of_ble_eq_true rfl) ?_
  intro G A p e s m args below meth c hx hb hr hml hts hown hlocks hxt hK hE hA H locs hP hD hS ls hl
  have hl : lv_has ls 4 [(0, .ref (a 0)), (1, .int p0), (2, .ref ao)] := hl
  refine lv_aload_n hx hb dL_peek_0 rfl (lv_at hl 2 rfl) ?_
  refine lv_iconst (v := 0) hx hb dL_peek_1 (by decide) ?_
  refine lv_aload_n hx hb dL_peek_2 rfl (lv_at hl 0 rfl) ?_
  refine lv_iload_n hx hb dL_peek_3 rfl (lv_at hl 1 rfl) ?_
  have hP9 : va_P G vwCl (wX yy a u) H := va_P.tl hP
  have hD9 : va_D A (wX yy a u) := hD.tl
  refine vx_calll (vx_runV (As := [.int p0]) (rest := [.int 0, .ref ao]) ⟨hx, hb, hml, hown, hts⟩ (hF G H.size) (cwV 1 hts gL_peek_X3_peek rfl rfl rfl (by decide +kernel) ⟨Nat.le_of_ble_eq_true rfl, Nat.le_of_ble_eq_true rfl⟩) (g_preV eX_bl hK hE.1 hP9 hD9 hS hA 0 rfl rfl) rfl rfl hl.1 rfl (lv_room (Nat.le_of_ble_eq_true rfl)) dL_peek_4 ⟨Nat.le_of_ble_eq_true rfl, Nat.le_of_ble_eq_true rfl⟩) hS (fun q _ h => g_free hD9 hS hA q h) (g_free hD9 hS hA) (fun q _ h => g_free hD9 hS hA q h) ?_ ?_
  · intro E ce q9 u9 t H1 locs1 ht hal hpx hbx hsz hk1 hS1 hce hcv hcl
    obtain ⟨hn0, e9⟩ := hpx
    obtain ⟨eE, hP1, hD1⟩ := hbx
    rw [ht] at hP1
    obtain ⟨hP2, hD2⟩ := va_join (wr := [(ao, .inl (yy 0, 1, .inr (.inl f)))]) (wc := wX yy a u) hP hD [1, 2, 3, 4, 5, 6, 7] [0] rfl rfl rfl (by decide) hk1 (g_free hD9 hS hA) hP1 hD1
    have hP2 : va_P G vwCl (wXo yy a ao (u9, f)) H1 := hP2
    have hD2 : va_D A (wXo yy a ao (u9, f)) := hD2
    have eE : E = "java/lang/IndexOutOfBoundsException" := by rw [eE, hk.resolve_left hn0]; rfl
    refine vx_catch (own := RL) (name := "java/lang/IndexOutOfBoundsException") hown (tableOf []) _ (tableOf []) hxt (fun z hz => by cases hz) rfl (by decide) (hts (.classLink RL 22 "java/lang/IndexOutOfBoundsException") (by decide +kernel)) (by rw [eE]; exact va_Nw.use rfl (hE.1.2.2.1.1 "java/lang/IndexOutOfBoundsException" (by decide))) hce hcv hcl ?_
    refine lv_astore_n (lv' := [(3, .ref q9), (0, .ref (a 0)), (1, .int p0), (2, .ref ao)]) hx hb dL_peek_11 rfl hl (by decide) rfl (fun ls hl => ?_)
    refine lv_iconst (v := 1) hx hb dL_peek_12 (by decide) ?_
    exact W.iret hx hb hr (fun t1 ht1 hW1 => ⟨⟨_, (u9, f), rfl, ⟨by rw [rL1_1 (F := F) (f := f) hn0], by rw [rL1_1 (F := F) (f := f) hn0, e9]⟩, by rw [gEn, ht1]; exact ⟨hP2, hD2⟩⟩, hS1.F ht1⟩) hS1.2.2 dL_peek_13 hlocks
  · intro r u9 t H1 locs1 ht hal hpost hbx hsz hk1 hS1
    obtain ⟨h0, er, e9⟩ := hpost
    obtain ⟨hP1, hD1⟩ := hbx
    rw [ht] at hP1
    obtain ⟨hP2, hD2⟩ := va_join (wr := [(ao, .inl (yy 0, 1, .inr (.inl f)))]) (wc := wX yy a u) hP hD [1, 2, 3, 4, 5, 6, 7] [0] rfl rfl rfl (by decide) hk1 (g_free hD9 hS hA) hP1 hD1
    have hP2 : va_P G vwCl (wXo yy a ao (u9, f)) H1 := hP2
    have hD2 : va_D A (wXo yy a ao (u9, f)) := hD2
    refine va_last hx hb hK hP2 hD2 hS1 0 0 rfl rfl (by unfold vp_in; decide) dL_peek_7 (fun H2 locs2 hP3 hD3 hS2 => ?_)
    refine lv_goto (tgt := 14) hx hb dL_peek_8 (by decide) ?_
    refine lv_iconst (v := 0) hx hb dL_peek_14 (by decide) ?_
    have hP3 : va_P G vwCl (wXo yy a ao (u9, vp_updL f 0 (r))) H2 := hP3
    have hD3 : va_D A (wXo yy a ao (u9, vp_updL f 0 (r))) := hD3
    exact W.iret hx hb hr (fun t1 ht1 hW1 => ⟨⟨_, (u9, vp_updL f 0 (r)), rfl, ⟨by rw [rL1_0 (F := F) (f := f) h0], by rw [rL1_0 (F := F) (f := f) h0, e9, er]⟩, by rw [gEn, ht1]; exact ⟨hP3, hD3⟩⟩, hS2.F ht1⟩) hS2.2.2 dL_peek_15 hlocks
abbrev rm_L_at : Room := { frames := 7, cells := 1, slots := 6, locals := 111 }
set_option maxHeartbeats 4000000 in
set_option maxRecDepth 100000 in
theorem c_L_at (l : Launch) (yy : Nat → ClassId) (a : Nat → Nat) (ao : Nat) (u : XS) (f : Nat → Int64) (p0 : Int32) (F : Int32 × Int32 × XS) (hF : gxMi l yX3_at wsX3_at rm_X3_at eX (sT yy) (wX yy a) [.ref (a 0), .int p0] u F) (hk : F.1 = 0 ∨ F.1 = 2) : gLMi l yL_at wsL_at rm_L_at yy a ao [.ref (a 0), .int p0, .ref ao] (u, f) (rL1 (rLi F) f) := by
  refine gL_ofW (mc := 1) (ms := 6) (Qc := gQi (wXo yy a ao) (rL1 (rLi F) f)) (by decide) rfl (Nat.le_of_ble_eq_true rfl) ?_
  intro G A p e s m args below meth c hx hb hr hml hts hown hlocks hxt hK hE hA H locs hP hD hS ls hl
  have hl : lv_has ls 4 [(0, .ref (a 0)), (1, .int p0), (2, .ref ao)] := hl
  refine lv_aload_n hx hb dL_at_0 rfl (lv_at hl 2 rfl) ?_
  refine lv_iconst (v := 0) hx hb dL_at_1 (by decide) ?_
  refine lv_aload_n hx hb dL_at_2 rfl (lv_at hl 0 rfl) ?_
  refine lv_iload_n hx hb dL_at_3 rfl (lv_at hl 1 rfl) ?_
  have hP9 : va_P G vwCl (wX yy a u) H := va_P.tl hP
  have hD9 : va_D A (wX yy a u) := hD.tl
  refine vx_calli (vx_runV (As := [.int p0]) (rest := [.int 0, .ref ao]) ⟨hx, hb, hml, hown, hts⟩ (hF G H.size) (cwV 1 hts gL_at_X3_at rfl rfl rfl (by decide +kernel) ⟨Nat.le_of_ble_eq_true rfl, Nat.le_of_ble_eq_true rfl⟩) (g_preV eX_bl hK hE.1 hP9 hD9 hS hA 0 rfl rfl) rfl rfl hl.1 rfl (lv_room (Nat.le_of_ble_eq_true rfl)) dL_at_4 ⟨Nat.le_of_ble_eq_true rfl, Nat.le_of_ble_eq_true rfl⟩) hS (fun q _ h => g_free hD9 hS hA q h) (g_free hD9 hS hA) (fun q _ h => g_free hD9 hS hA q h) ?_ ?_
  · intro E ce q9 u9 t H1 locs1 ht hal hpx hbx hsz hk1 hS1 hce hcv hcl
    obtain ⟨hn0, e9⟩ := hpx
    obtain ⟨eE, hP1, hD1⟩ := hbx
    rw [ht] at hP1
    obtain ⟨hP2, hD2⟩ := va_join (wr := [(ao, .inl (yy 0, 1, .inr (.inl f)))]) (wc := wX yy a u) hP hD [1, 2, 3, 4, 5, 6, 7] [0] rfl rfl rfl (by decide) hk1 (g_free hD9 hS hA) hP1 hD1
    have hP2 : va_P G vwCl (wXo yy a ao (u9, f)) H1 := hP2
    have hD2 : va_D A (wXo yy a ao (u9, f)) := hD2
    have eE : E = "java/lang/IndexOutOfBoundsException" := by rw [eE, hk.resolve_left hn0]; rfl
    refine vx_catch (own := RL) (name := "java/lang/IndexOutOfBoundsException") hown (tableOf []) _ (tableOf []) hxt (fun z hz => by cases hz) rfl (by decide) (hts (.classLink RL 22 "java/lang/IndexOutOfBoundsException") (by decide +kernel)) (by rw [eE]; exact va_Nw.use rfl (hE.1.2.2.1.1 "java/lang/IndexOutOfBoundsException" (by decide))) hce hcv hcl ?_
    refine lv_astore_n (lv' := [(3, .ref q9), (0, .ref (a 0)), (1, .int p0), (2, .ref ao)]) hx hb dL_at_12 rfl hl (by decide) rfl (fun ls hl => ?_)
    refine lv_iconst (v := 1) hx hb dL_at_13 (by decide) ?_
    exact W.iret hx hb hr (fun t1 ht1 hW1 => ⟨⟨_, (u9, f), rfl, ⟨by rw [rL1_1 (F := rLi F) (f := f) hn0], by rw [rL1_1 (F := rLi F) (f := f) hn0, e9]; rfl⟩, by rw [gEn, ht1]; exact ⟨hP2, hD2⟩⟩, hS1.F ht1⟩) hS1.2.2 dL_at_14 hlocks
  · intro r u9 t H1 locs1 ht hal hpost hbx hsz hk1 hS1
    obtain ⟨h0, er, e9⟩ := hpost
    obtain ⟨hP1, hD1⟩ := hbx
    rw [ht] at hP1
    obtain ⟨hP2, hD2⟩ := va_join (wr := [(ao, .inl (yy 0, 1, .inr (.inl f)))]) (wc := wX yy a u) hP hD [1, 2, 3, 4, 5, 6, 7] [0] rfl rfl rfl (by decide) hk1 (g_free hD9 hS hA) hP1 hD1
    have hP2 : va_P G vwCl (wXo yy a ao (u9, f)) H1 := hP2
    have hD2 : va_D A (wXo yy a ao (u9, f)) := hD2
    refine lv_i2l (v := r.toInt64) hx hb dL_at_7 rfl ?_
    refine va_last hx hb hK hP2 hD2 hS1 0 0 rfl rfl (by unfold vp_in; decide) dL_at_8 (fun H2 locs2 hP3 hD3 hS2 => ?_)
    refine lv_goto (tgt := 15) hx hb dL_at_9 (by decide) ?_
    refine lv_iconst (v := 0) hx hb dL_at_15 (by decide) ?_
    have hP3 : va_P G vwCl (wXo yy a ao (u9, vp_updL f 0 (r.toInt64))) H2 := hP3
    have hD3 : va_D A (wXo yy a ao (u9, vp_updL f 0 (r.toInt64))) := hD3
    exact W.iret hx hb hr (fun t1 ht1 hW1 => ⟨⟨_, (u9, vp_updL f 0 (r.toInt64)), rfl, ⟨by rw [rL1_0 (F := rLi F) (f := f) h0], by rw [rL1_0 (F := rLi F) (f := f) h0, e9, er]; rfl⟩, by rw [gEn, ht1]; exact ⟨hP3, hD3⟩⟩, hS2.F ht1⟩) hS2.2.2 dL_at_16 hlocks
def wsL_putB : List Cond := .codeWith yL_put cL_put 7 (some .int) [(0, 14, 17, 13), (0, 14, 21, 22)] :: .classLink RL 22 "java/lang/IndexOutOfBoundsException" :: wsL_put
theorem gL_putB_X3_put : GoodIn wsL_putB (wsV RL 31 RX3 yX3_put wsX3_put) := fun w h => ⟨List.mem_cons_of_mem _ (List.mem_cons_of_mem _ (gL_put_X3_put w h).1), (gL_put_X3_put w h).2⟩
theorem ggL_law_L_putB : GoodIn wsL_law wsL_putB := fun w h => by
  rcases List.mem_cons.mp h with rfl | h
  · exact ggL_law_L_put _ List.mem_cons_self
  · rcases List.mem_cons.mp h with rfl | h
    · exact ggL_law_L_poke _ (List.mem_cons_of_mem _ (List.mem_append_left _ (List.mem_append_left _ (List.mem_append_left _ (List.mem_append_left _ List.mem_cons_self)))))
    · exact ggL_law_L_put w h
theorem gL_law_L_putB : GoodIn wsL_law (va_wsS RL 79 yL_put wsL_putB) := goodIn_app (goodIn_of _ (by decide +kernel)) ggL_law_L_putB
abbrev rm_L_put : Room := { frames := 10, cells := 1, slots := 6, locals := 226 }
set_option maxHeartbeats 4000000 in
set_option maxRecDepth 100000 in
theorem c_L_put (l : Launch) (yy : Nat → ClassId) (a : Nat → Nat) (ao : Nat) (u : XS) (f : Nat → Int64) (p0 : Int32) (p1 : Int32) (p2 : Int32) (p3 : Int32) (F : Int32 × Int32 × XS) (hF : gxMi l yX3_put wsX3_put rm_X3_put eX (sT yy) (wX yy a) [.ref (a 0), .int p0, .int p1, .int p2, .int p3] u F) (hk : F.1 = 0 ∨ F.1 = 1 ∨ F.1 = 2) : gLMi l yL_put wsL_putB rm_L_put yy a ao [.ref (a 0), .int p0, .int p1, .int p2, .int p3, .ref ao] (u, f) (rL2 (rLi F) f) := by
  refine gL_ofW (mc := 1) (ms := 6) (Qc := gQi (wXo yy a ao) (rL2 (rLi F) f)) (by decide) rfl (Nat.le_of_ble_eq_true rfl) ?_
  intro G A p e s m args below meth c hx hb hr hml hts hown hlocks hxt hK hE hA H locs hP hD hS ls hl
  have hl : lv_has ls 7 [(0, .ref (a 0)), (1, .int p0), (2, .int p1), (3, .int p2), (4, .int p3), (5, .ref ao)] := hl
  refine lv_aload hx hb dL_put_0 (lv_at hl 5 rfl) ?_
  refine lv_iconst (v := 0) hx hb dL_put_2 (by decide) ?_
  refine lv_aload_n hx hb dL_put_3 rfl (lv_at hl 0 rfl) ?_
  refine lv_iload_n hx hb dL_put_4 rfl (lv_at hl 1 rfl) ?_
  refine lv_iload_n hx hb dL_put_5 rfl (lv_at hl 2 rfl) ?_
  refine lv_iload_n hx hb dL_put_6 rfl (lv_at hl 3 rfl) ?_
  refine lv_iload hx hb dL_put_7 (lv_at hl 4 rfl) ?_
  have hP9 : va_P G vwCl (wX yy a u) H := va_P.tl hP
  have hD9 : va_D A (wX yy a u) := hD.tl
  refine vx_calli (vx_runV (As := [.int p0, .int p1, .int p2, .int p3]) (rest := [.int 0, .ref ao]) ⟨hx, hb, hml, hown, hts⟩ (hF G H.size) (cwV 4 hts gL_putB_X3_put rfl rfl rfl (by decide +kernel) ⟨Nat.le_of_ble_eq_true rfl, Nat.le_of_ble_eq_true rfl⟩) (g_preV eX_bl hK hE.1 hP9 hD9 hS hA 0 rfl rfl) rfl rfl hl.1 rfl (lv_room (Nat.le_of_ble_eq_true rfl)) dL_put_9 ⟨Nat.le_of_ble_eq_true rfl, Nat.le_of_ble_eq_true rfl⟩) hS (fun q _ h => g_free hD9 hS hA q h) (g_free hD9 hS hA) (fun q _ h => g_free hD9 hS hA q h) ?_ ?_
  · intro E ce q9 u9 t H1 locs1 ht hal hpx hbx hsz hk1 hS1 hce hcv hcl
    obtain ⟨hn0, e9⟩ := hpx
    obtain ⟨eE, hP1, hD1⟩ := hbx
    rw [ht] at hP1
    obtain ⟨hP2, hD2⟩ := va_join (wr := [(ao, .inl (yy 0, 1, .inr (.inl f)))]) (wc := wX yy a u) hP hD [1, 2, 3, 4, 5, 6, 7] [0] rfl rfl rfl (by decide) hk1 (g_free hD9 hS hA) hP1 hD1
    have hP2 : va_P G vwCl (wXo yy a ao (u9, f)) H1 := hP2
    have hD2 : va_D A (wXo yy a ao (u9, f)) := hD2
    rcases hk with h0 | h1 | h2
    · exact absurd h0 hn0
    · have eE : E = "java/util/NoSuchElementException" := by rw [eE, h1]; rfl
      refine vx_catch (own := RL) (name := "java/util/NoSuchElementException") hown (tableOf []) _ (tableOf [(0, 14, 21, 22)]) hxt (fun z hz => by cases hz) rfl (by decide) (hts (.classLink RL 13 "java/util/NoSuchElementException") (by decide +kernel)) (by rw [eE]; exact va_Nw.use rfl (hE.1.2.2.1.1 "java/util/NoSuchElementException" (by decide))) hce hcv hcl ?_
      refine lv_astore (lv' := [(6, .ref q9), (0, .ref (a 0)), (1, .int p0), (2, .int p1), (3, .int p2), (4, .int p3), (5, .ref ao)]) hx hb dL_put_17 hl (by decide) rfl (fun ls hl => ?_)
      refine lv_iconst (v := 1) hx hb dL_put_19 (by decide) ?_
      exact W.iret hx hb hr (fun t1 ht1 hW1 => ⟨⟨_, (u9, f), rfl, ⟨by rw [rL2_k (F := rLi F) (f := f) h1 (by decide)], by rw [rL2_k (F := rLi F) (f := f) h1 (by decide), e9]; rfl⟩, by rw [gEn, ht1]; exact ⟨hP2, hD2⟩⟩, hS1.F ht1⟩) hS1.2.2 dL_put_20 hlocks
    · have eE : E = "java/lang/IndexOutOfBoundsException" := by rw [eE, h2]; rfl
      refine vx_catch (own := RL) (name := "java/lang/IndexOutOfBoundsException") hown (tableOf [(0, 14, 17, 13)]) _ (tableOf []) hxt (fun z hz => by have hz := List.mem_singleton.mp hz; subst hz; exact Or.inr ⟨by decide, _, hts (.classLink RL 13 "java/util/NoSuchElementException") (by decide +kernel), by rw [eE]; exact hE.2⟩) rfl (by decide) (hts (.classLink RL 22 "java/lang/IndexOutOfBoundsException") (by decide +kernel)) (by rw [eE]; exact va_Nw.use rfl (hE.1.2.2.1.1 "java/lang/IndexOutOfBoundsException" (by decide))) hce hcv hcl ?_
      refine lv_astore (lv' := [(6, .ref q9), (0, .ref (a 0)), (1, .int p0), (2, .int p1), (3, .int p2), (4, .int p3), (5, .ref ao)]) hx hb dL_put_21 hl (by decide) rfl (fun ls hl => ?_)
      refine lv_iconst (v := 2) hx hb dL_put_23 (by decide) ?_
      exact W.iret hx hb hr (fun t1 ht1 hW1 => ⟨⟨_, (u9, f), rfl, ⟨by rw [rL2_k (F := rLi F) (f := f) h2 (by decide)], by rw [rL2_k (F := rLi F) (f := f) h2 (by decide), e9]; rfl⟩, by rw [gEn, ht1]; exact ⟨hP2, hD2⟩⟩, hS1.F ht1⟩) hS1.2.2 dL_put_24 hlocks
  · intro r u9 t H1 locs1 ht hal hpost hbx hsz hk1 hS1
    obtain ⟨h0, er, e9⟩ := hpost
    obtain ⟨hP1, hD1⟩ := hbx
    rw [ht] at hP1
    obtain ⟨hP2, hD2⟩ := va_join (wr := [(ao, .inl (yy 0, 1, .inr (.inl f)))]) (wc := wX yy a u) hP hD [1, 2, 3, 4, 5, 6, 7] [0] rfl rfl rfl (by decide) hk1 (g_free hD9 hS hA) hP1 hD1
    have hP2 : va_P G vwCl (wXo yy a ao (u9, f)) H1 := hP2
    have hD2 : va_D A (wXo yy a ao (u9, f)) := hD2
    refine lv_i2l (v := r.toInt64) hx hb dL_put_12 rfl ?_
    refine va_last hx hb hK hP2 hD2 hS1 0 0 rfl rfl (by unfold vp_in; decide) dL_put_13 (fun H2 locs2 hP3 hD3 hS2 => ?_)
    refine lv_goto (tgt := 25) hx hb dL_put_14 (by decide) ?_
    refine lv_iconst (v := 0) hx hb dL_put_25 (by decide) ?_
    have hP3 : va_P G vwCl (wXo yy a ao (u9, vp_updL f 0 (r.toInt64))) H2 := hP3
    have hD3 : va_D A (wXo yy a ao (u9, vp_updL f 0 (r.toInt64))) := hD3
    exact W.iret hx hb hr (fun t1 ht1 hW1 => ⟨⟨_, (u9, vp_updL f 0 (r.toInt64)), rfl, ⟨by rw [rL2_0 (F := rLi F) (f := f) h0], by rw [rL2_0 (F := rLi F) (f := f) h0, e9, er]; rfl⟩, by rw [gEn, ht1]; exact ⟨hP3, hD3⟩⟩, hS2.F ht1⟩) hS2.2.2 dL_put_26 hlocks
abbrev rm_L_go : Room := { frames := 7, cells := 1, slots := 6, locals := 173 }
set_option maxHeartbeats 4000000 in
set_option maxRecDepth 100000 in
theorem c_L_go (l : Launch) (yy : Nat → ClassId) (a : Nat → Nat) (ao : Nat) (u : XS) (f : Nat → Int64) (p0 : Int32) (p1 : Int32) (F : Int32 × Int32 × XS) (hF : gxMi l yX3_go wsX3_go rm_X3_go eX (sT yy) (wX yy a) [.ref (a 0), .int p0, .int p1] u F) (hk : F.1 = 0 ∨ F.1 = 3) : gLMi l yL_go wsL_go rm_L_go yy a ao [.ref (a 0), .int p0, .int p1, .ref ao] (u, f) (rL1 (rLi F) f) := by
  refine gL_ofW (mc := 1) (ms := 6) (Qc := gQi (wXo yy a ao) (rL1 (rLi F) f)) (by decide) rfl (Nat.le_of_ble_eq_true rfl) ?_
  intro G A p e s m args below meth c hx hb hr hml hts hown hlocks hxt hK hE hA H locs hP hD hS ls hl
  have hl : lv_has ls 5 [(0, .ref (a 0)), (1, .int p0), (2, .int p1), (3, .ref ao)] := hl
  refine lv_aload_n hx hb dL_go_0 rfl (lv_at hl 3 rfl) ?_
  refine lv_iconst (v := 0) hx hb dL_go_1 (by decide) ?_
  refine lv_aload_n hx hb dL_go_2 rfl (lv_at hl 0 rfl) ?_
  refine lv_iload_n hx hb dL_go_3 rfl (lv_at hl 1 rfl) ?_
  refine lv_iload_n hx hb dL_go_4 rfl (lv_at hl 2 rfl) ?_
  have hP9 : va_P G vwCl (wX yy a u) H := va_P.tl hP
  have hD9 : va_D A (wX yy a u) := hD.tl
  refine vx_calli (vx_runV (As := [.int p0, .int p1]) (rest := [.int 0, .ref ao]) ⟨hx, hb, hml, hown, hts⟩ (hF G H.size) (cwV 2 hts gL_go_X3_go rfl rfl rfl (by decide +kernel) ⟨Nat.le_of_ble_eq_true rfl, Nat.le_of_ble_eq_true rfl⟩) (g_preV eX_bl hK hE.1 hP9 hD9 hS hA 0 rfl rfl) rfl rfl hl.1 rfl (lv_room (Nat.le_of_ble_eq_true rfl)) dL_go_5 ⟨Nat.le_of_ble_eq_true rfl, Nat.le_of_ble_eq_true rfl⟩) hS (fun q _ h => g_free hD9 hS hA q h) (g_free hD9 hS hA) (fun q _ h => g_free hD9 hS hA q h) ?_ ?_
  · intro E ce q9 u9 t H1 locs1 ht hal hpx hbx hsz hk1 hS1 hce hcv hcl
    obtain ⟨hn0, e9⟩ := hpx
    obtain ⟨eE, hP1, hD1⟩ := hbx
    rw [ht] at hP1
    obtain ⟨hP2, hD2⟩ := va_join (wr := [(ao, .inl (yy 0, 1, .inr (.inl f)))]) (wc := wX yy a u) hP hD [1, 2, 3, 4, 5, 6, 7] [0] rfl rfl rfl (by decide) hk1 (g_free hD9 hS hA) hP1 hD1
    have hP2 : va_P G vwCl (wXo yy a ao (u9, f)) H1 := hP2
    have hD2 : va_D A (wXo yy a ao (u9, f)) := hD2
    have eE : E = "java/lang/IllegalArgumentException" := by rw [eE, hk.resolve_left hn0]; rfl
    refine vx_catch (own := RL) (name := "java/lang/IllegalArgumentException") hown (tableOf []) _ (tableOf []) hxt (fun z hz => by cases hz) rfl (by decide) (hts (.classLink RL 39 "java/lang/IllegalArgumentException") (by decide +kernel)) (by rw [eE]; exact va_Nw.use rfl (hE.1.2.2.1.1 "java/lang/IllegalArgumentException" (by decide))) hce hcv hcl ?_
    refine lv_astore (lv' := [(4, .ref q9), (0, .ref (a 0)), (1, .int p0), (2, .int p1), (3, .ref ao)]) hx hb dL_go_13 hl (by decide) rfl (fun ls hl => ?_)
    refine lv_iconst (v := 1) hx hb dL_go_15 (by decide) ?_
    exact W.iret hx hb hr (fun t1 ht1 hW1 => ⟨⟨_, (u9, f), rfl, ⟨by rw [rL1_1 (F := rLi F) (f := f) hn0], by rw [rL1_1 (F := rLi F) (f := f) hn0, e9]; rfl⟩, by rw [gEn, ht1]; exact ⟨hP2, hD2⟩⟩, hS1.F ht1⟩) hS1.2.2 dL_go_16 hlocks
  · intro r u9 t H1 locs1 ht hal hpost hbx hsz hk1 hS1
    obtain ⟨h0, er, e9⟩ := hpost
    obtain ⟨hP1, hD1⟩ := hbx
    rw [ht] at hP1
    obtain ⟨hP2, hD2⟩ := va_join (wr := [(ao, .inl (yy 0, 1, .inr (.inl f)))]) (wc := wX yy a u) hP hD [1, 2, 3, 4, 5, 6, 7] [0] rfl rfl rfl (by decide) hk1 (g_free hD9 hS hA) hP1 hD1
    have hP2 : va_P G vwCl (wXo yy a ao (u9, f)) H1 := hP2
    have hD2 : va_D A (wXo yy a ao (u9, f)) := hD2
    refine lv_i2l (v := r.toInt64) hx hb dL_go_8 rfl ?_
    refine va_last hx hb hK hP2 hD2 hS1 0 0 rfl rfl (by unfold vp_in; decide) dL_go_9 (fun H2 locs2 hP3 hD3 hS2 => ?_)
    refine lv_goto (tgt := 17) hx hb dL_go_10 (by decide) ?_
    refine lv_iconst (v := 0) hx hb dL_go_17 (by decide) ?_
    have hP3 : va_P G vwCl (wXo yy a ao (u9, vp_updL f 0 (r.toInt64))) H2 := hP3
    have hD3 : va_D A (wXo yy a ao (u9, vp_updL f 0 (r.toInt64))) := hD3
    exact W.iret hx hb hr (fun t1 ht1 hW1 => ⟨⟨_, (u9, vp_updL f 0 (r.toInt64)), rfl, ⟨by rw [rL1_0 (F := rLi F) (f := f) h0], by rw [rL1_0 (F := rLi F) (f := f) h0, e9, er]; rfl⟩, by rw [gEn, ht1]; exact ⟨hP3, hD3⟩⟩, hS2.F ht1⟩) hS2.2.2 dL_go_18 hlocks
abbrev rm_L_tally : Room := { frames := 7, cells := 1, slots := 6, locals := 111 }
set_option maxHeartbeats 4000000 in
set_option maxRecDepth 100000 in
theorem c_L_tally (l : Launch) (yy : Nat → ClassId) (a : Nat → Nat) (ao : Nat) (u : XS) (f : Nat → Int64) (p0 : Int32) (F : Int32 × Int64 × XS) (hF : gxMl l yX3_tally wsX3_tally rm_X3_tally eX (sT yy) (wX yy a) [.ref (a 0), .int p0] u F) (hk : F.1 = 0 ∨ F.1 = 1) : gLMi l yL_tally wsL_tally rm_L_tally yy a ao [.ref (a 0), .int p0, .ref ao] (u, f) (rL1 F f) := by
  refine gL_ofW (mc := 1) (ms := 6) (Qc := gQi (wXo yy a ao) (rL1 F f)) (by decide) rfl (Nat.le_of_ble_eq_true rfl) ?_
  intro G A p e s m args below meth c hx hb hr hml hts hown hlocks hxt hK hE hA H locs hP hD hS ls hl
  have hl : lv_has ls 4 [(0, .ref (a 0)), (1, .int p0), (2, .ref ao)] := hl
  refine lv_aload_n hx hb dL_tally_0 rfl (lv_at hl 2 rfl) ?_
  refine lv_iconst (v := 0) hx hb dL_tally_1 (by decide) ?_
  refine lv_aload_n hx hb dL_tally_2 rfl (lv_at hl 0 rfl) ?_
  refine lv_iload_n hx hb dL_tally_3 rfl (lv_at hl 1 rfl) ?_
  have hP9 : va_P G vwCl (wX yy a u) H := va_P.tl hP
  have hD9 : va_D A (wX yy a u) := hD.tl
  refine vx_calll (vx_runV (As := [.int p0]) (rest := [.int 0, .ref ao]) ⟨hx, hb, hml, hown, hts⟩ (hF G H.size) (cwV 1 hts gL_tally_X3_tally rfl rfl rfl (by decide +kernel) ⟨Nat.le_of_ble_eq_true rfl, Nat.le_of_ble_eq_true rfl⟩) (g_preV eX_bl hK hE.1 hP9 hD9 hS hA 0 rfl rfl) rfl rfl hl.1 rfl (lv_room (Nat.le_of_ble_eq_true rfl)) dL_tally_4 ⟨Nat.le_of_ble_eq_true rfl, Nat.le_of_ble_eq_true rfl⟩) hS (fun q _ h => g_free hD9 hS hA q h) (g_free hD9 hS hA) (fun q _ h => g_free hD9 hS hA q h) ?_ ?_
  · intro E ce q9 u9 t H1 locs1 ht hal hpx hbx hsz hk1 hS1 hce hcv hcl
    obtain ⟨hn0, e9⟩ := hpx
    obtain ⟨eE, hP1, hD1⟩ := hbx
    rw [ht] at hP1
    obtain ⟨hP2, hD2⟩ := va_join (wr := [(ao, .inl (yy 0, 1, .inr (.inl f)))]) (wc := wX yy a u) hP hD [1, 2, 3, 4, 5, 6, 7] [0] rfl rfl rfl (by decide) hk1 (g_free hD9 hS hA) hP1 hD1
    have hP2 : va_P G vwCl (wXo yy a ao (u9, f)) H1 := hP2
    have hD2 : va_D A (wXo yy a ao (u9, f)) := hD2
    have eE : E = "java/util/NoSuchElementException" := by rw [eE, hk.resolve_left hn0]; rfl
    refine vx_catch (own := RL) (name := "java/util/NoSuchElementException") hown (tableOf []) _ (tableOf []) hxt (fun z hz => by cases hz) rfl (by decide) (hts (.classLink RL 13 "java/util/NoSuchElementException") (by decide +kernel)) (by rw [eE]; exact va_Nw.use rfl (hE.1.2.2.1.1 "java/util/NoSuchElementException" (by decide))) hce hcv hcl ?_
    refine lv_astore_n (lv' := [(3, .ref q9), (0, .ref (a 0)), (1, .int p0), (2, .ref ao)]) hx hb dL_tally_11 rfl hl (by decide) rfl (fun ls hl => ?_)
    refine lv_iconst (v := 1) hx hb dL_tally_12 (by decide) ?_
    exact W.iret hx hb hr (fun t1 ht1 hW1 => ⟨⟨_, (u9, f), rfl, ⟨by rw [rL1_1 (F := F) (f := f) hn0], by rw [rL1_1 (F := F) (f := f) hn0, e9]⟩, by rw [gEn, ht1]; exact ⟨hP2, hD2⟩⟩, hS1.F ht1⟩) hS1.2.2 dL_tally_13 hlocks
  · intro r u9 t H1 locs1 ht hal hpost hbx hsz hk1 hS1
    obtain ⟨h0, er, e9⟩ := hpost
    obtain ⟨hP1, hD1⟩ := hbx
    rw [ht] at hP1
    obtain ⟨hP2, hD2⟩ := va_join (wr := [(ao, .inl (yy 0, 1, .inr (.inl f)))]) (wc := wX yy a u) hP hD [1, 2, 3, 4, 5, 6, 7] [0] rfl rfl rfl (by decide) hk1 (g_free hD9 hS hA) hP1 hD1
    have hP2 : va_P G vwCl (wXo yy a ao (u9, f)) H1 := hP2
    have hD2 : va_D A (wXo yy a ao (u9, f)) := hD2
    refine va_last hx hb hK hP2 hD2 hS1 0 0 rfl rfl (by unfold vp_in; decide) dL_tally_7 (fun H2 locs2 hP3 hD3 hS2 => ?_)
    refine lv_goto (tgt := 14) hx hb dL_tally_8 (by decide) ?_
    refine lv_iconst (v := 0) hx hb dL_tally_14 (by decide) ?_
    have hP3 : va_P G vwCl (wXo yy a ao (u9, vp_updL f 0 (r))) H2 := hP3
    have hD3 : va_D A (wXo yy a ao (u9, vp_updL f 0 (r))) := hD3
    exact W.iret hx hb hr (fun t1 ht1 hW1 => ⟨⟨_, (u9, vp_updL f 0 (r)), rfl, ⟨by rw [rL1_0 (F := F) (f := f) h0], by rw [rL1_0 (F := F) (f := f) h0, e9, er]⟩, by rw [gEn, ht1]; exact ⟨hP3, hD3⟩⟩, hS2.F ht1⟩) hS2.2.2 dL_tally_15 hlocks
abbrev rm_L_spend : Room := { frames := 7, cells := 1, slots := 6, locals := 111 }
set_option maxHeartbeats 4000000 in
set_option maxRecDepth 100000 in
theorem c_L_spend (l : Launch) (yy : Nat → ClassId) (a : Nat → Nat) (ao : Nat) (u : XS) (f : Nat → Int64) (p0 : Int32) (F : Int32 × Int64 × XS) (hF : gxMl l yX3_spend wsX3_spend rm_X3_spend eX (sT yy) (wX yy a) [.ref (a 0), .int p0] u F) (hk : F.1 = 0 ∨ F.1 = 3) : gLMi l yL_spend wsL_spend rm_L_spend yy a ao [.ref (a 0), .int p0, .ref ao] (u, f) (rL1 F f) := by
  refine gL_ofW (mc := 1) (ms := 6) (Qc := gQi (wXo yy a ao) (rL1 F f)) (by decide) rfl (Nat.le_of_ble_eq_true rfl) ?_
  intro G A p e s m args below meth c hx hb hr hml hts hown hlocks hxt hK hE hA H locs hP hD hS ls hl
  have hl : lv_has ls 4 [(0, .ref (a 0)), (1, .int p0), (2, .ref ao)] := hl
  refine lv_aload_n hx hb dL_spend_0 rfl (lv_at hl 2 rfl) ?_
  refine lv_iconst (v := 0) hx hb dL_spend_1 (by decide) ?_
  refine lv_aload_n hx hb dL_spend_2 rfl (lv_at hl 0 rfl) ?_
  refine lv_iload_n hx hb dL_spend_3 rfl (lv_at hl 1 rfl) ?_
  have hP9 : va_P G vwCl (wX yy a u) H := va_P.tl hP
  have hD9 : va_D A (wX yy a u) := hD.tl
  refine vx_calll (vx_runV (As := [.int p0]) (rest := [.int 0, .ref ao]) ⟨hx, hb, hml, hown, hts⟩ (hF G H.size) (cwV 1 hts gL_spend_X3_spend rfl rfl rfl (by decide +kernel) ⟨Nat.le_of_ble_eq_true rfl, Nat.le_of_ble_eq_true rfl⟩) (g_preV eX_bl hK hE.1 hP9 hD9 hS hA 0 rfl rfl) rfl rfl hl.1 rfl (lv_room (Nat.le_of_ble_eq_true rfl)) dL_spend_4 ⟨Nat.le_of_ble_eq_true rfl, Nat.le_of_ble_eq_true rfl⟩) hS (fun q _ h => g_free hD9 hS hA q h) (g_free hD9 hS hA) (fun q _ h => g_free hD9 hS hA q h) ?_ ?_
  · intro E ce q9 u9 t H1 locs1 ht hal hpx hbx hsz hk1 hS1 hce hcv hcl
    obtain ⟨hn0, e9⟩ := hpx
    obtain ⟨eE, hP1, hD1⟩ := hbx
    rw [ht] at hP1
    obtain ⟨hP2, hD2⟩ := va_join (wr := [(ao, .inl (yy 0, 1, .inr (.inl f)))]) (wc := wX yy a u) hP hD [1, 2, 3, 4, 5, 6, 7] [0] rfl rfl rfl (by decide) hk1 (g_free hD9 hS hA) hP1 hD1
    have hP2 : va_P G vwCl (wXo yy a ao (u9, f)) H1 := hP2
    have hD2 : va_D A (wXo yy a ao (u9, f)) := hD2
    have eE : E = "java/lang/IllegalArgumentException" := by rw [eE, hk.resolve_left hn0]; rfl
    refine vx_catch (own := RL) (name := "java/lang/IllegalArgumentException") hown (tableOf []) _ (tableOf []) hxt (fun z hz => by cases hz) rfl (by decide) (hts (.classLink RL 39 "java/lang/IllegalArgumentException") (by decide +kernel)) (by rw [eE]; exact va_Nw.use rfl (hE.1.2.2.1.1 "java/lang/IllegalArgumentException" (by decide))) hce hcv hcl ?_
    refine lv_astore_n (lv' := [(3, .ref q9), (0, .ref (a 0)), (1, .int p0), (2, .ref ao)]) hx hb dL_spend_11 rfl hl (by decide) rfl (fun ls hl => ?_)
    refine lv_iconst (v := 1) hx hb dL_spend_12 (by decide) ?_
    exact W.iret hx hb hr (fun t1 ht1 hW1 => ⟨⟨_, (u9, f), rfl, ⟨by rw [rL1_1 (F := F) (f := f) hn0], by rw [rL1_1 (F := F) (f := f) hn0, e9]⟩, by rw [gEn, ht1]; exact ⟨hP2, hD2⟩⟩, hS1.F ht1⟩) hS1.2.2 dL_spend_13 hlocks
  · intro r u9 t H1 locs1 ht hal hpost hbx hsz hk1 hS1
    obtain ⟨h0, er, e9⟩ := hpost
    obtain ⟨hP1, hD1⟩ := hbx
    rw [ht] at hP1
    obtain ⟨hP2, hD2⟩ := va_join (wr := [(ao, .inl (yy 0, 1, .inr (.inl f)))]) (wc := wX yy a u) hP hD [1, 2, 3, 4, 5, 6, 7] [0] rfl rfl rfl (by decide) hk1 (g_free hD9 hS hA) hP1 hD1
    have hP2 : va_P G vwCl (wXo yy a ao (u9, f)) H1 := hP2
    have hD2 : va_D A (wXo yy a ao (u9, f)) := hD2
    refine va_last hx hb hK hP2 hD2 hS1 0 0 rfl rfl (by unfold vp_in; decide) dL_spend_7 (fun H2 locs2 hP3 hD3 hS2 => ?_)
    refine lv_goto (tgt := 14) hx hb dL_spend_8 (by decide) ?_
    refine lv_iconst (v := 0) hx hb dL_spend_14 (by decide) ?_
    have hP3 : va_P G vwCl (wXo yy a ao (u9, vp_updL f 0 (r))) H2 := hP3
    have hD3 : va_D A (wXo yy a ao (u9, vp_updL f 0 (r))) := hD3
    exact W.iret hx hb hr (fun t1 ht1 hW1 => ⟨⟨_, (u9, vp_updL f 0 (r)), rfl, ⟨by rw [rL1_0 (F := F) (f := f) h0], by rw [rL1_0 (F := F) (f := f) h0, e9, er]⟩, by rw [gEn, ht1]; exact ⟨hP3, hD3⟩⟩, hS2.F ht1⟩) hS2.2.2 dL_spend_15 hlocks
abbrev rm_L_output : Room := { frames := 7, cells := 1, slots := 6, locals := 111 }
set_option maxHeartbeats 4000000 in
set_option maxRecDepth 100000 in
theorem c_L_output (l : Launch) (yy : Nat → ClassId) (a : Nat → Nat) (ao : Nat) (u : XS) (f : Nat → Int64) (p0 : Int32) (F : Int32 × Int32 × XS) (hF : gxMi l yX3_output wsX3_output rm_X3_output eX (sT yy) (wX yy a) [.ref (a 0), .int p0] u F) (hk : F.1 = 0 ∨ F.1 = 2) : gLMi l yL_output wsL_output rm_L_output yy a ao [.ref (a 0), .int p0, .ref ao] (u, f) (rL1 (rLi F) f) := by
  refine gL_ofW (mc := 1) (ms := 6) (Qc := gQi (wXo yy a ao) (rL1 (rLi F) f)) (by decide) rfl (Nat.le_of_ble_eq_true rfl) ?_
  intro G A p e s m args below meth c hx hb hr hml hts hown hlocks hxt hK hE hA H locs hP hD hS ls hl
  have hl : lv_has ls 4 [(0, .ref (a 0)), (1, .int p0), (2, .ref ao)] := hl
  refine lv_aload_n hx hb dL_output_0 rfl (lv_at hl 2 rfl) ?_
  refine lv_iconst (v := 0) hx hb dL_output_1 (by decide) ?_
  refine lv_aload_n hx hb dL_output_2 rfl (lv_at hl 0 rfl) ?_
  refine lv_iload_n hx hb dL_output_3 rfl (lv_at hl 1 rfl) ?_
  have hP9 : va_P G vwCl (wX yy a u) H := va_P.tl hP
  have hD9 : va_D A (wX yy a u) := hD.tl
  refine vx_calli (vx_runV (As := [.int p0]) (rest := [.int 0, .ref ao]) ⟨hx, hb, hml, hown, hts⟩ (hF G H.size) (cwV 1 hts gL_output_X3_output rfl rfl rfl (by decide +kernel) ⟨Nat.le_of_ble_eq_true rfl, Nat.le_of_ble_eq_true rfl⟩) (g_preV eX_bl hK hE.1 hP9 hD9 hS hA 0 rfl rfl) rfl rfl hl.1 rfl (lv_room (Nat.le_of_ble_eq_true rfl)) dL_output_4 ⟨Nat.le_of_ble_eq_true rfl, Nat.le_of_ble_eq_true rfl⟩) hS (fun q _ h => g_free hD9 hS hA q h) (g_free hD9 hS hA) (fun q _ h => g_free hD9 hS hA q h) ?_ ?_
  · intro E ce q9 u9 t H1 locs1 ht hal hpx hbx hsz hk1 hS1 hce hcv hcl
    obtain ⟨hn0, e9⟩ := hpx
    obtain ⟨eE, hP1, hD1⟩ := hbx
    rw [ht] at hP1
    obtain ⟨hP2, hD2⟩ := va_join (wr := [(ao, .inl (yy 0, 1, .inr (.inl f)))]) (wc := wX yy a u) hP hD [1, 2, 3, 4, 5, 6, 7] [0] rfl rfl rfl (by decide) hk1 (g_free hD9 hS hA) hP1 hD1
    have hP2 : va_P G vwCl (wXo yy a ao (u9, f)) H1 := hP2
    have hD2 : va_D A (wXo yy a ao (u9, f)) := hD2
    have eE : E = "java/lang/IndexOutOfBoundsException" := by rw [eE, hk.resolve_left hn0]; rfl
    refine vx_catch (own := RL) (name := "java/lang/IndexOutOfBoundsException") hown (tableOf []) _ (tableOf []) hxt (fun z hz => by cases hz) rfl (by decide) (hts (.classLink RL 22 "java/lang/IndexOutOfBoundsException") (by decide +kernel)) (by rw [eE]; exact va_Nw.use rfl (hE.1.2.2.1.1 "java/lang/IndexOutOfBoundsException" (by decide))) hce hcv hcl ?_
    refine lv_astore_n (lv' := [(3, .ref q9), (0, .ref (a 0)), (1, .int p0), (2, .ref ao)]) hx hb dL_output_12 rfl hl (by decide) rfl (fun ls hl => ?_)
    refine lv_iconst (v := 1) hx hb dL_output_13 (by decide) ?_
    exact W.iret hx hb hr (fun t1 ht1 hW1 => ⟨⟨_, (u9, f), rfl, ⟨by rw [rL1_1 (F := rLi F) (f := f) hn0], by rw [rL1_1 (F := rLi F) (f := f) hn0, e9]; rfl⟩, by rw [gEn, ht1]; exact ⟨hP2, hD2⟩⟩, hS1.F ht1⟩) hS1.2.2 dL_output_14 hlocks
  · intro r u9 t H1 locs1 ht hal hpost hbx hsz hk1 hS1
    obtain ⟨h0, er, e9⟩ := hpost
    obtain ⟨hP1, hD1⟩ := hbx
    rw [ht] at hP1
    obtain ⟨hP2, hD2⟩ := va_join (wr := [(ao, .inl (yy 0, 1, .inr (.inl f)))]) (wc := wX yy a u) hP hD [1, 2, 3, 4, 5, 6, 7] [0] rfl rfl rfl (by decide) hk1 (g_free hD9 hS hA) hP1 hD1
    have hP2 : va_P G vwCl (wXo yy a ao (u9, f)) H1 := hP2
    have hD2 : va_D A (wXo yy a ao (u9, f)) := hD2
    refine lv_i2l (v := r.toInt64) hx hb dL_output_7 rfl ?_
    refine va_last hx hb hK hP2 hD2 hS1 0 0 rfl rfl (by unfold vp_in; decide) dL_output_8 (fun H2 locs2 hP3 hD3 hS2 => ?_)
    refine lv_goto (tgt := 15) hx hb dL_output_9 (by decide) ?_
    refine lv_iconst (v := 0) hx hb dL_output_15 (by decide) ?_
    have hP3 : va_P G vwCl (wXo yy a ao (u9, vp_updL f 0 (r.toInt64))) H2 := hP3
    have hD3 : va_D A (wXo yy a ao (u9, vp_updL f 0 (r.toInt64))) := hD3
    exact W.iret hx hb hr (fun t1 ht1 hW1 => ⟨⟨_, (u9, vp_updL f 0 (r.toInt64)), rfl, ⟨by rw [rL1_0 (F := rLi F) (f := f) h0], by rw [rL1_0 (F := rLi F) (f := f) h0, e9, er]; rfl⟩, by rw [gEn, ht1]; exact ⟨hP3, hD3⟩⟩, hS2.F ht1⟩) hS2.2.2 dL_output_16 hlocks
