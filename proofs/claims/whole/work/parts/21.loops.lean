/-! counters of loops: what goes round -/
theorem up_next {N n : Nat} {w : Int32} (hN : N + 1 < 2 ^ 31) (hI : w = nI (N + 1 - (n + 1)) ∧ 0 < n + 1 ∧ n + 1 ≤ N + 1) (c : ¬ nI N ≤ w) : w + 1 = nI (N + 1 - n) ∧ 0 < n ∧ n ≤ N + 1 := by
  obtain ⟨rfl, h1, h2⟩ := hI
  have h3 : 0 < n := by
    rcases Nat.eq_zero_or_pos n with h | h
    · subst h; exact absurd (nI_le (by omega) (by omega)) c
    · exact h
  refine ⟨?_, h3, by omega⟩
  rw [nI_1]
  congr 1
  omega
theorem up_in {N n M : Nat} {w : Int32} (hN : N + 1 < 2 ^ 31) (hI : w = nI (N + 1 - (n + 1)) ∧ 0 < n + 1 ∧ n + 1 ≤ N + 1) (c : ¬ nI N ≤ w) (hM : N ≤ M) (hM2 : M < 2 ^ 31) : vp_in w M := by
  have h := up_next hN hI c
  obtain ⟨rfl, h1, h2⟩ := hI
  exact vp_in_nI (by omega) hM2
theorem down_next {N n : Nat} {w : Int32} (hN : N < 2 ^ 31) (hI : w + 1 = nI ((n + 1) - 1) ∧ 0 < n + 1 ∧ n + 1 ≤ N) (c : ¬ w < 0) : (w + (-1)) + 1 = nI (n - 1) ∧ 0 < n ∧ n ≤ N := by
  obtain ⟨h1, h2, h3⟩ := hI
  have hw : w = nI n - 1 := by
    rw [show nI n = w + 1 from h1.symm]
    exact (Int32.add_sub_cancel w 1).symm
  have h4 : (w + (-1)) + 1 = w := by
    rw [Int32.add_assoc, show (-1 : Int32) + 1 = 0 from by decide]
    simp
  cases n with
  | zero =>
    exfalso
    apply c
    rw [hw]
    decide
  | succ k =>
    refine ⟨?_, by omega, by omega⟩
    rw [h4, hw, nI_pred]
    rfl
theorem i32_add {a b : Int32} (h1 : -2147483648 ≤ a.toInt + b.toInt) (h2 : a.toInt + b.toInt < 2147483648) : (a + b).toInt = a.toInt + b.toInt := by
  rw [Int32.toInt_add]
  exact Int.bmod_eq_of_le (by omega) (by omega)
theorem wd_next {n : Nat} {w d : Int32} (hd : d = 8 ∨ d = 16 ∨ d = 32 ∨ d = 64) (hI : 0 < n + 1 ∧ 0 ≤ w.toInt ∧ 64 ≤ w.toInt + 8 * (((n + 1 : Nat) : Int) - 1)) (c : ¬ (64 : Int32) ≤ w) : 0 < n ∧ 0 ≤ (w + d).toInt ∧ 64 ≤ (w + d).toInt + 8 * ((n : Int) - 1) := by
  obtain ⟨h1, h2, h3⟩ := hI
  have h4 : w.toInt < 64 := by
    have := Int32.not_le.mp c
    have := Int32.lt_iff_toInt_lt.mp this
    exact this
  have h5 : 8 ≤ d.toInt ∧ d.toInt ≤ 64 := by rcases hd with rfl | rfl | rfl | rfl <;> decide
  have h6 := i32_add (a := w) (b := d) (by omega) (by omega)
  rw [h6]
  omega
theorem wd_of {p : Int32} (h : p = 1 ∨ p = 2 ∨ p = 4 ∨ p = 8) : 8 * p = 8 ∨ 8 * p = 16 ∨ 8 * p = 32 ∨ 8 * p = 64 := by
  rcases h with rfl | rfl | rfl | rfl <;> decide
/-! a method of java/lang/Math, run by its bytecode: the natives have no row for it -/
theorem fdPlain : plainFor yJ9_floorDiv_f86c9 = true := by
  unfold plainFor
  rw [Bool.or_eq_true]
  right
  decide +kernel
theorem pm_ofWF {l : Launch} {y : MethodName} {ws ws' : List Cond} {rm : Room} {E : (Nat → Prop) → State → Prop} {av : List Value} {cc : ByteArray} {maxL : Nat} {ret : Option FieldType} {Qc : Array Value → State → Outcome → State → Prop} (hy : plainFor y = true) (hw : ws = Cond.code y cc maxL ret :: ws') (hn : (lg_sl av).length ≤ maxL)
    (body : ∀ (p : Program) (e : Env) (s : State) (m : MethodId) (args : Array Value) (below : List Frame) (meth : Method) (c : Code), p.tables.exec = Jvm.exec → c.code = cc → meth.sig.returnType = ret → c.maxLocals = maxL → (∀ x ∈ ws, x.before args s = true) → s.vm.findClass y.cls = some m.cls → meth.locks = false → E (fun _ => False) s → ∀ ls : Array Slot, lv_has ls maxL (lv_args 0 av) → W p l e rm s m args below meth c s.heap [] 0 0 (MQ below Qc args s 0 0 (fun _ => False)) (F0 m 0 ls [])) :
    Met l y ws rm (va_Pc av (E (fun _ => False))) Qc 0 0 (fun _ => False) := by
  refine MetFree.of_bodySF (code := cc) (maxLocals := maxL) (ret := ret) hy ?_ ?_
  · intro args s m h hn
    obtain ⟨meth, c, h1, h2, h3, h4, h5, h6, -, -⟩ := Cond.code_spec hn (atoms_spec (ws := ws) h _ (by rw [hw]; exact List.mem_cons_self))
    exact ⟨meth, c, h1, h2, h3, h4, h5, h6⟩
  · intro p e s m args below meth c s₁ B hml hP _
    have hh0 : s₁.heap = s.heap := by rw [B.state]; rfl
    obtain ⟨rfl, hE⟩ := hP
    have hl := lv_entry av (n := maxL) hn
    have K : W p l e rm s m av.toArray below meth c s.heap [] 0 0 (MQ below Qc av.toArray s 0 0 (fun _ => False)) (entryFrame m av.toArray maxL) := by
      rw [lg_entry_eq]
      exact body p e s m _ below meth c B.exec B.bytes B.returns hml (atoms_spec (ws := ws) B.pre) (findClass_of_methodNamed B.named) B.notSynchronized hE _ hl
    obtain ⟨t, a1, o, b1, b2, b3⟩ := K s₁ hh0 (Stand.of_body B)
    exact ⟨t, o, a1, b1, b2, ⟨b3.1, b3.2⟩⟩
