/-! NoSuchElementException: its constructor links the one above it at another place than the kit's chain has -/
abbrev vyX : String := "java/util/NoSuchElementException"
def vy13 : ByteArray := ⟨#[0x2a, 0x2b, 0xb7, 0x00, 0x0d, 0xb1]⟩
theorem vy13_0 : decode vy13 0 = .ok (.aload_n 0, 1) := by decide +kernel
theorem vy13_1 : decode vy13 1 = .ok (.aload_n 1, 1) := by decide +kernel
theorem vy13_2 : decode vy13 2 = .ok (.invokespecial 13, 3) := by decide +kernel
theorem vy13_5 : decode vy13 5 = .ok (.return_, 1) := by decide +kernel
def vy_tail (own : String) (ic : Nat) : List Cond := [.methodLink own ic (Bundle.initS vyX), .instantiable vyX 6, .castable vyX vyX, .selects vyX Bundle.tFill0 Bundle.tFill0, .selects vyX Bundle.tFill Bundle.tFill, .lays vyX Bundle.tN "cause" "Ljava/lang/Throwable;", .lays vyX Bundle.tN "stackTrace" Bundle.steD, .lays vyX Bundle.tN "suppressedExceptions" Bundle.listD, .lays vyX Bundle.tN "detailMessage" "Ljava/lang/String;", .isRef (.static Bundle.tN "UNASSIGNED_STACK" Bundle.steD), .isRef (.static Bundle.tN "SUPPRESSED_SENTINEL" Bundle.listD), .fieldLink Bundle.tN 198 Bundle.tN "backtrace" "Ljava/lang/Object;", .lays Bundle.tN Bundle.tN "backtrace" "Ljava/lang/Object;", .lays vyX Bundle.tN "backtrace" "Ljava/lang/Object;"]
def vy_own (own : String) (ic : Nat) : List Cond := Bundle.throwableAtoms ++ (Bundle.throwableSAtoms ++ (Bundle.passSAtoms vyX "java/lang/RuntimeException" 13 vy13 ++ (Bundle.chainSAtoms "java/lang/RuntimeException" ["java/lang/Exception"] ++ vy_tail own ic)))
def vy_at (own : String) (ic : Nat) : List Cond := (vy_own own ic).filter vx_no
section VYC
variable {p : Program} {l : Launch} {e : Env} {R : Room} {s : State} {args : Array Value} {below : List Frame} {meth : Method} {c : Code} {cells slots : Nat}
set_option maxHeartbeats 4000000 in
/-- the constructor, and the throw behind it: what the caller needs of the thrown object -/
theorem vy_ctor {m₀ : MethodId} {U0 : State} (X : Stand p l e R s m₀ args below meth c U0 [] cells slots) (hexec : p.tables.exec = Jvm.exec) (htr : e.platform.stackTraces = false) {own : String} {ic : Nat} (hown : s.vm.findClass own = some m₀.cls) (hw : ∀ w ∈ vy_own own ic, w.before args s = true)
    {a : Addr} {cX : ClassId} {kX : Class} (hfX : s.vm.findClass vyX = some cX) (hkX : s.vm.classes[cX]? = some kX) (hcell : U0.heap[a]? = some (freshCell cX kX)) (hnew : s.heap.size ≤ a) {msg : Value} (hmsg : msg.isRef = true)
    {g : JFrame} (hg : g.method = m₀) (hsize : g.locals.size = c.maxLocals) (hlocked : g.locked = none) (hent : g.entered = []) {rest : List Value} (hst : g.stack = msg :: .ref a :: .ref a :: rest)
    (hd6 : decode c.code g.pc = .ok (.invokespecial ic, 3)) (hd9 : decode c.code (g.pc + 3) = .ok (.athrow, 1)) (hout : ∀ x ∈ c.exceptionTable.toList, covers x (g.pc + 3) = false)
    (hRf : 5 < R.frames) (hRl : 2 * g.monitorRoom + ((Value.ref a :: rest).map fun v => v.category).sum + 81 ≤ R.locals) (hlocks : meth.locks = false) :
    ∃ U : State, Steps p.tables e below (U0.setTop g) U ∧ U.status = .running ∧ Ended U below (.threw a) ∧ s.WarmedH U.vm ∧ s.sameButNew ({ U with vm := s.vm } : State) [] cells slots ∧ ∃ ce : Cell, U.heap[a]? = some ce ∧ ce.vm = .none ∧ s.vm.findClass vyX = some ce.cls := by
  have pOwn : e.platform.frameOwnsMonitors = true := by rw [X.admits.platform]
  have pFin : e.platform.finalization = false := by rw [X.admits.platform]
  have pMag : e.platform.magicAccessors = ({} : Platform).magicAccessors := by rw [X.admits.platform]
  have w1 : ∀ w ∈ Bundle.throwableAtoms, w.before args s = true := fun w h => hw w (List.mem_append_left _ h)
  have w2 : ∀ w ∈ Bundle.throwableSAtoms, w.before args s = true := fun w h => hw w (List.mem_append_right _ (List.mem_append_left _ h))
  have w3 : ∀ w ∈ Bundle.passSAtoms vyX "java/lang/RuntimeException" 13 vy13, w.before args s = true := fun w h => hw w (List.mem_append_right _ (List.mem_append_right _ (List.mem_append_left _ h)))
  have w4 : ∀ w ∈ Bundle.chainSAtoms "java/lang/RuntimeException" ["java/lang/Exception"], w.before args s = true := fun w h => hw w (List.mem_append_right _ (List.mem_append_right _ (List.mem_append_right _ (List.mem_append_left _ h))))
  have w5 : ∀ w ∈ vy_tail own ic, w.holds args s none s [] = true := fun w h => hw w (List.mem_append_right _ (List.mem_append_right _ (List.mem_append_right _ (List.mem_append_right _ h))))
  -- the classes above: Throwable's own methods and fields, and who calls whom
  obtain ⟨T, Z0, LT, -, tie⟩ := ThrowableC.of_atoms (args := args) pOwn pFin pMag w1
  obtain ⟨Z, M, LZ, LM, nZ⟩ := Init0T.ofS_atoms (args := args) pMag LT tie w2
  obtain ⟨P1, L1, n1, s1⟩ := PassC.ofS_atoms (args := args) (s := s) pMag (X := vyX) (Y := "java/lang/RuntimeException") (by decide +kernel) (by decide +kernel) vy13_0 vy13_1 vy13_2 vy13_5 w3
  obtain ⟨P2, Ps, len2, L2, Ls, n2, link2, link3⟩ := Bundle.chainS (args := args) pMag nZ ["java/lang/Exception"] "java/lang/RuntimeException" (by decide +kernel) (by decide +kernel) w4
  have link1 : P1.sup = P2.m := Option.some.inj (s1.symm.trans n2)
  have fnd : s.vm.findClass vyX = some P1.m.cls := findClass_of_methodNamed n1
  cases Option.some.inj (hfX.symm.trans fnd)
  obtain ⟨c1, k1, hc1, hk1, ord, -, -, -⟩ := Cond.instantiable_spec (w5 (.instantiable vyX 6) (by simp [vy_tail]))
  cases Option.some.inj (hc1.symm.trans fnd)
  cases Option.some.inj (hkX.symm.trans hk1)
  -- the two fillInStackTrace that are chosen
  have selZ : selectMethod e.platform s.vm P1.m.cls T.fill0 = .method T.fill0 := by
    obtain ⟨x1, x2, x3, y1, y2, y3, y4, -⟩ := Cond.selects_spec (w5 (.selects vyX Bundle.tFill0 Bundle.tFill0) (by simp [vy_tail]))
    cases Option.some.inj (y1.symm.trans fnd)
    cases Option.some.inj (y2.symm.trans (State.methodFound?_of_named tie.fill0 (by decide)))
    cases Option.some.inj (y3.symm.trans tie.fill0)
    rw [Launch.admits_selectMethod X.admits]; exact y4
  have selF : selectMethod e.platform s.vm P1.m.cls T.fill = .method T.fill := by
    obtain ⟨x1, x2, x3, y1, y2, y3, y4, -⟩ := Cond.selects_spec (w5 (.selects vyX Bundle.tFill Bundle.tFill) (by simp [vy_tail]))
    cases Option.some.inj (y1.symm.trans fnd)
    cases Option.some.inj (y2.symm.trans (State.methodFound?_of_named tie.fill (by decide)))
    cases Option.some.inj (y3.symm.trans tie.fill)
    rw [Launch.admits_selectMethod X.admits]; exact y4
  -- Throwable's statics
  obtain ⟨cs0, hcs0, iss⟩ := tie.statics
  obtain ⟨u0, hu0⟩ := Cond.staticRefV tie.unassigned LT.unassignedStatic LT.statics hcs0 iss (w5 (.isRef (.static Bundle.tN "UNASSIGNED_STACK" Bundle.steD)) (by simp [vy_tail]))
  obtain ⟨sen, hsen⟩ := Cond.staticRefV tie.sentinel LT.sentinelStatic LT.statics hcs0 iss (w5 (.isRef (.static Bundle.tN "SUPPRESSED_SENTINEL" Bundle.listD)) (by simp [vy_tail]))
  obtain ⟨ci, ix, fB, b1, b2, b3, b4, -, b5, b6, b7⟩ := Cond.ownField (t := .object "java/lang/Object") tie.found LT.cls (by decide +kernel) (w5 (.fieldLink Bundle.tN 198 Bundle.tN "backtrace" "Ljava/lang/Object;") (by simp [vy_tail])) (w5 (.lays Bundle.tN Bundle.tN "backtrace" "Ljava/lang/Object;") (by simp [vy_tail])) e.platform pMag
  obtain ⟨cs, hcs, heq, -, keep⟩ := X.same.2.2.2.2.2 T.aS cs0 hcs0
  have hcs' : U0.heap[T.aS]? = some cs := hcs
  have known : cs.vm ≠ .unknown := by
    rw [heq]; intro hu
    rw [show cs0.vm = .unknown from hu] at iss
    cases iss
  have apart : T.aS ≠ a := Nat.ne_of_lt (Nat.lt_of_lt_of_le (Array.getElem?_eq_some_iff.mp hcs0).1 hnew)
  -- where the fields lie
  obtain ⟨iM, ffM⟩ := tie.msg
  obtain ⟨tyC, dC, hdC, dnC⟩ := Cond.laysAt fnd hk1 tie.cause (w5 (.lays vyX Bundle.tN "cause" "Ljava/lang/Throwable;") (by simp [vy_tail]))
  obtain ⟨tyS, dS, hdS, dnS⟩ := Cond.laysAt fnd hk1 tie.stack (w5 (.lays vyX Bundle.tN "stackTrace" Bundle.steD) (by simp [vy_tail]))
  obtain ⟨tyP, dP, hdP, dnP⟩ := Cond.laysAt fnd hk1 tie.supp (w5 (.lays vyX Bundle.tN "suppressedExceptions" Bundle.listD) (by simp [vy_tail]))
  obtain ⟨tyM, dM, hdM, dnM⟩ := Cond.laysAt fnd hk1 ffM (w5 (.lays vyX Bundle.tN "detailMessage" "Ljava/lang/String;") (by simp [vy_tail]))
  obtain ⟨tyB, dB, hdB, dnB⟩ := Cond.laysAt fnd hk1 b7 (w5 (.lays vyX Bundle.tN "backtrace" "Ljava/lang/Object;") (by simp [vy_tail]))
  have qC := Cond.laysApart hdB hdC dnB dnC (by rw [b5, tie.causeName]; decide)
  have qS := Cond.laysApart hdB hdS dnB dnS (by rw [b5, tie.stackName]; decide)
  have qP := Cond.laysApart hdB hdP dnB dnP (by rw [b5, tie.suppName]; decide)
  have skip : SkipFacts T e.platform s (fun u => u) u0 ((preparedCellV T.toThrowableT (freshCell P1.m.cls kX) a u0 sen).withEntry U0.cur) :=
    ⟨{ ci198 := ci, i198 := ix, fBack := fB }, ⟨b1, b2, b3, b4⟩, by
      have z := fresh_default (c := P1.m.cls) tyB
      rw [b6] at z
      simpa [preparedCellV, Cell.setSlot, Cell.withEntry, Array.getElem?_setIfInBounds, qC, qS, qP, qC.symm, qS.symm, qP.symm, defaultValue] using z, fun _ _ => rfl⟩
  -- into the constructor, through the chain, out by the throw
  obtain ⟨tm, mC, cC, kC, vm1, nC, -, -, -, -, -, -, -, hW1, go1⟩ := Steps.initColdS (tb := p.tables) (e := e) (below := below) (s := s) (U := U0) X.here hexec X.warmed pMag hown (t := Bundle.initS vyX) rfl rfl (by decide +kernel)
    (w5 (.methodLink own ic (Bundle.initS vyX)) (by simp [vy_tail])) (w3 (.instanceMethod (Bundle.initS vyX)) (by simp [Bundle.passSAtoms])) (bytes := vy13) (maxL := 2) (w3 (.code (Bundle.initS vyX) vy13 2 none) (by simp [Bundle.passSAtoms]))
    (f := g) hg (a := a) (msg := msg) (rest := .ref a :: rest) hst hd6
  cases Option.some.inj (nC.symm.trans n1)
  have X1 := X.noted hW1
  obtain ⟨vm2, X2, go2⟩ := X1.ctorMessageOffV hexec (g := { g with stack := .ref a :: rest }) hg hsize T LT Z LZ M LM (P1 :: P2 :: Ps)
    (fun Q hQ => by
      rcases List.mem_cons.mp hQ with rfl | hQ
      · exact L1
      · rcases List.mem_cons.mp hQ with rfl | hQ
        · exact L2
        · exact Ls Q hQ) ⟨link1, link2, link3⟩ (u0 := u0) (sen := sen) (self := a) hmsg (cell := freshCell P1.m.cls kX) (cellS := cs)
    hcell (fun _ => by simp) (by simp) rfl rfl selZ selF hcs' apart known (by rw [keep _ (by simp)]; exact hu0) (by rw [keep _ (by simp)]; exact hsen)
    (Takes.of_laid hk1 ord tyC (by rw [tie.causeType]; rfl)) (Takes.of_laid hk1 ord tyS (by rw [tie.stackType]; exact fits_refV_array _ u0)) (Takes.of_laid hk1 ord tyP (by rw [tie.suppType]; exact fits_refV_object _ sen))
    (Takes.of_laid hk1 ord tyM (by rw [tie.msgType]; exact fits_refV_object _ ⟨msg, hmsg⟩)) tie.objLocals skip htr [] hd6
    (by simp only [List.length_cons, len2, List.length_nil]; omega) (by simp only [List.length_cons, len2, List.length_nil]; exact hRl)
  obtain ⟨walk, run, ended, hWU, same⟩ := X2.athrowLeaves hexec (g := { g with stack := .ref a :: rest, pc := g.pc + 3 }) hg hlocked hent hout (a := a) (rest := rest) rfl hd9
  have lt : a < ((U0.setVm vm1).setVm vm2).heap.size := (Array.getElem?_eq_some_iff.mp hcell).1
  have hU := heapAt_setCell_self (s := (U0.setVm vm1).setVm vm2) (plainBareV T.toThrowableT (freshCell P1.m.cls kX) a u0 sen msg) lt
  refine ⟨_, go1 _ (fun acts => ?_), run, ended, hWU, same.weaken (fun y hy hl => ?_) (Nat.le_refl _) (Nat.le_refl _), _, hU, rfl, fnd⟩
  · rw [doInvoke_state]
    exact go2 _ walk
  · exfalso
    have hb : y.base = a := by
      simp only [List.nil_append, List.mem_cons, List.not_mem_nil, or_false] at hy
      rcases hy with rfl | rfl | rfl | rfl | rfl <;> rfl
    rw [hb] at hl
    exact Nat.not_lt.mpr hnew hl
end VYC
section VYE
variable {p : Program} {l : Launch} {e : Env} {R : Room} {s : State} {m : MethodId} {args : Array Value} {below : List Frame} {meth : Method} {c : Code} {H : Heap} {locs : List Loc} {cells slots : Nat} {Q : State → Prop}
variable {mc ms : Nat} {free : Addr → Prop} {A0 A1 : Nat → Prop} {H0 : Heap} {a : Array Value} {ls : Array Slot} {st0 rest : List Value} {pc : Nat}
variable {Qc : Array Value → State → Outcome → State → Prop} {XC : String → State → State → Prop}
/-- 'throw new NoSuchElementException("text")' -/
theorem vy_throwS {cc : ByteArray} {pc : Nat} (hexec : p.tables.exec = Jvm.exec) (hb : c.code = cc) (hl : l.stackTraces = false) {own text : String} {ik is ic mc ms sa : Nat} {A : Nat → Prop}
    (hown : s.vm.findClass own = some m.cls) 
    (hk : (Cond.classLink own ik vyX).before args s = true) (hini : (Cond.initialized vyX).before args s = true) (hstr : vk_R own is text sa s) (hat : ∀ w ∈ vy_at own ic, w.before args s = true)
    (hgood : ∀ w ∈ Cond.classLink own ik vyX :: Cond.initialized vyX :: vy_at own ic, vx_ot w = true)
    (hU : vx_Zq Bundle.tN "UNASSIGNED_STACK" Bundle.steD A s s.heap) (hN : vx_Zq Bundle.tN "SUPPRESSED_SENTINEL" Bundle.listD A s s.heap) (hS : va_S A s.heap H locs) (hsize : ls.size = c.maxLocals)
    (d0 : decode cc pc = .ok (.new ik, 3)) (d3 : decode cc (pc + 3) = .ok (.dup, 1)) (d4 : decode cc (pc + 4) = .ok (.ldc is, 2)) (d6 : decode cc (pc + 6) = .ok (.invokespecial ic, 3)) (d9 : decode cc (pc + 9) = .ok (.athrow, 1))
    (hout : ∀ x ∈ c.exceptionTable.toList, covers x (pc + 9) = false)
    (hRframes : 5 < R.frames) (hRlocals : (rest.map fun v => v.category).sum + 82 ≤ R.locals) (hRcells : cells + 1 ≤ R.cells) (hRslots : slots + 6 ≤ R.slots) (hlocks : meth.locks = false)
    (hx : ∀ t : State, s.vm.Alike t.vm → H.size ≤ t.heap.size → (∀ q : Nat, q < H.size → t.heap[q]? = H[q]?) → XC vyX s t)
    (hf : ∀ z ∈ locs, free z.base) (hc : cells + 1 ≤ mc) (hs : slots + 6 ≤ ms) :
    W p l e R s m args below meth c H locs cells slots (vx_MQ below Qc XC args s mc ms free) (F0 m pc ls rest) := by
  intro T hT X
  have htr : e.platform.stackTraces = false := (show e.platform.stackTraces = l.stackTraces by rw [X.admits.platform]).trans hl
  have Y := vx_rebase X (R' := { frames := R.frames, locals := R.locals, cells := 1, slots := 6 }) (Nat.le_refl _) (Nat.le_refl _) hRcells hRslots
  obtain ⟨s', hA⟩ : ∃ z, z = (T.setVm s.vm).setFrames (.invoking m args :: below) := ⟨_, rfl⟩
  rw [← hA] at Y
  have hvm : s'.vm = s.vm := by rw [hA]; rfl
  have hhp : s'.heap = H := by rw [hA]; exact hT
  have hW0 : s.WarmedH s'.vm := by rw [hvm]; exact State.WarmedH.refl s
  have hat' : ∀ w ∈ vy_at own ic, w.before args s' = true := fun w hw => vx_ot_at hW0 hvm.symm (hgood w (List.mem_cons_of_mem _ (List.mem_cons_of_mem _ hw))) (hat w hw)
  have hk' : (Cond.classLink own ik vyX).before args s' = true := vx_ot_at hW0 hvm.symm (hgood _ List.mem_cons_self) hk
  have hini' : (Cond.initialized vyX).before args s' = true := vx_ot_at hW0 hvm.symm (hgood _ (List.mem_cons_of_mem _ List.mem_cons_self)) hini
  have hU' : vx_Zq Bundle.tN "UNASSIGNED_STACK" Bundle.steD A s' s'.heap := by rw [hhp]; exact vx_Zq.moved hW0.alike (hU.kept hS.2.1)
  have hN' : vx_Zq Bundle.tN "SUPPRESSED_SENTINEL" Bundle.listD A s' s'.heap := by rw [hhp]; exact vx_Zq.moved hW0.alike (hN.kept hS.2.1)
  have h : ∀ w ∈ vy_own own ic, w.before args s' = true := vx_own hat' (vx_isRefq hU'.1) (vx_isRefq hN'.1) hU'.2.word hN'.2.word
  have hown' : s'.vm.findClass own = some m.cls := by rw [hvm]; exact hown
  have hins : (Cond.instantiable vyX 6).before args s' = true := h _ (by simp [vy_own, vy_tail])
  obtain ⟨vm₁, cX, kX, hfX, hkX, -, -, X₁, st1⟩ := Y.newCold hexec (own := own) (C := vyX) (index := ik) (n := 6) hown' hk' hins hini'
    (g := F0 m pc ls rest) rfl (by rw [hb]; exact d0) (Nat.le_refl _) (Nat.le_refl _)
  generalize hT1 : (T.setVm vm₁).pushCell { cls := cX, slots := kX.instanceTypes.map defaultValue, vm := .none } = T1 at X₁ st1
  have hcat : (Value.ref T.heap.size).category = 1 := rfl
  have hcellA : T1.heap[T.heap.size]? = some (freshCell cX kX) := by rw [← hT1]; exact State.heap_pushCell_size _ _
  have d3' : decode c.code (pc + 3) = .ok (.dup, 1) := by rw [hb]; exact d3
  have d4' : decode c.code (pc + 4) = .ok (.ldc is, 2) := by rw [hb]; exact d4
  have hstr' : vk_R own is text sa s' := vk_R.warm hW0 hstr
  obtain ⟨U, hsteps, hrun, hend, hW, hsame, ce, hce, hv, hO⟩ := vy_ctor X₁ hexec htr (own := own) (ic := ic) hown' h hfX hkX hcellA (by rw [hhp, hT]; exact Nat.le_refl _) (msg := .ref sa) rfl
    (g := { method := m, pc := pc + 6, locals := ls, stack := .ref sa :: .ref T.heap.size :: .ref T.heap.size :: rest, locked := none }) rfl hsize rfl rfl (rest := rest) rfl
    (by rw [hb]; exact d6) (by rw [hb]; exact d9) hout hRframes (by simp only [List.map_cons, List.sum_cons, hcat]; omega) hlocks
  obtain ⟨f1, f2⟩ := vx_frame hsame
  rw [hhp] at f1 f2
  have hWs : s.WarmedH U.vm := State.WarmedH.trans hW0 hW
  have hcl : s.vm.findClass vyX = some ce.cls := by
    rw [hvm] at hO
    exact hO
  have hall : s.sameButNew ({ U with vm := s.vm } : State) locs mc ms := by
    subst hA
    obtain ⟨e1, e2⟩ := hsame
    rw [State.setFrames_setFrames] at e1
    have h2 : (T.setVm s.vm).sameButNew ({ U with vm := s.vm } : State) [] (0 + 1) (0 + 6) := ⟨e1, e2⟩
    have h3 := X.same.trans h2
    rw [List.append_nil] at h3
    exact h3.mono hc hs
  refine ⟨U, ?_, .threw T.heap.size, hrun, hend, Or.inr ⟨T.heap.size, rfl, vyX, ce, locs, hx U hWs.alike f1 (fun q hq => f2 q hq (fun z hz => nomatch hz)), hce, hv, hcl, hWs, hall, hf⟩⟩
  refine st1 _ ?_
  show Steps p.tables e below (T1.setTop { method := m, pc := pc + 3, locals := ls, stack := .ref T.heap.size :: rest, locked := none }) _
  jvm_step X₁.here [X₁.here.top, hexec, d3', Value.category]
  exact X₁.ldcString hexec (own := own) (text := text) (index := is) (a := sa) hown' hstr'.1 hstr'.2
    (g := { method := m, pc := pc + 4, locals := ls, stack := .ref T.heap.size :: .ref T.heap.size :: rest, locked := none }) rfl d4' _ hsteps
end VYE
