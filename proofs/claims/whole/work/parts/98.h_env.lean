/-! what the law's start holds -/
theorem t_nest : ∀ q ∈ nestL, Cond.methodLinkNest RX3 q.1 q.2 RX3 ∈ lw_tbl := by decide +kernel
theorem t_str : ∀ q ∈ strX3L, Cond.stringRef RX3 q.1 q.2 ∈ lw_tbl := by decide +kernel
theorem t_strN : ∀ q ∈ strN, Cond.stringRef RX1 q.1 q.2 ∈ lw_tbl := by decide +kernel
theorem t_cast : ∀ X ∈ excL, Cond.castable X X ∈ lw_tbl := by decide +kernel
theorem t_decl : ∀ Y ∈ decL, Cond.declares (Bundle.initS Y) ∈ lw_tbl := by decide +kernel
theorem t_lay1 : Cond.laysStatic Bundle.tN "UNASSIGNED_STACK" Bundle.steD ∈ lw_tbl ∧ Cond.laysStatic Bundle.tN "SUPPRESSED_SENTINEL" Bundle.listD ∈ lw_tbl := by decide +kernel
theorem t_lay2 : Cond.laysStatic "java/lang/String" "COMPACT_STRINGS" "Z" ∈ lw_tbl ∧ Cond.laysStatic "jdk/internal/util/Preconditions" "SIOOBE_FORMATTER" "Ljava/util/function/BiFunction;" ∈ lw_tbl := by decide +kernel
theorem t_ini : Cond.initialized Bundle.tN ∈ lw_tbl ∧ Cond.initialized "java/lang/String" ∈ lw_tbl ∧ Cond.initialized "jdk/internal/util/Preconditions" ∈ lw_tbl := by decide +kernel
theorem t_arr : Cond.arrayClass .long ∈ lw_tbl ∧ Cond.arrayClass .byte ∈ lw_tbl ∧ Cond.arrayClass .int ∈ lw_tbl := by decide +kernel
theorem t_ins : Cond.instantiable RX0 1 ∈ lw_tbl ∧ Cond.instantiable RX3 12 ∈ lw_tbl ∧ Cond.instantiable RX4 17 ∈ lw_tbl := by decide +kernel
def n_lst : List Cond := flatC (Jvm.Cond.and given_1 narrow_1)
theorem t_n1 : Cond.isRef (.static Bundle.tN "UNASSIGNED_STACK" Bundle.steD) ∈ n_lst ∧ Cond.isRef (.static Bundle.tN "SUPPRESSED_SENTINEL" Bundle.listD) ∈ n_lst := by decide +kernel
theorem t_n2 : Cond.eq (.static "java/lang/String" "COMPACT_STRINGS" "Z") (.int 1) ∈ n_lst ∧ Cond.isRef (.static "jdk/internal/util/Preconditions" "SIOOBE_FORMATTER" "Ljava/util/function/BiFunction;") ∈ n_lst := by decide +kernel
theorem t_n3 : Cond.not (.castable "java/lang/IndexOutOfBoundsException" "java/util/NoSuchElementException") ∈ n_lst := by decide +kernel
theorem t_n4 : ∀ q ∈ strX3L, Cond.exactly (.string RX3 q.1) "java/lang/String" ∈ n_lst := by decide +kernel
/-- the texts of the names' rows -/
def tmN (i : Nat) : Term := .string RX1 (strN.getD i (0, "")).1
abbrev tvN (i : Nat) : Term := .field (tmN i) "java/lang/String" "value" "[B"
def blkN (i : Nat) : List Cond := [.exactly (tmN i) "java/lang/String", .eq (.field (tmN i) "java/lang/String" "coder" "B") (.int 0), .arrayOf (tvN i) .byte, .eq (.length (tvN i)) (.int (Int32.ofNat (sLen.getD i 0)))] ++ (List.range (sLen.getD i 0)).map (fun j => .eq (.elem (tvN i) (.int (Int32.ofNat j))) (.int ((sByt.getD i []).getD j 0)))
set_option maxRecDepth 100000 in
theorem t_blk : ((List.range 18).flatMap blkN).isSublist n_lst = true := by decide +kernel
theorem blk_in {i : Nat} (hi : i < 18) {w : Cond} (h : w ∈ blkN i) : w ∈ n_lst := (List.isSublist_iff_sublist.mp t_blk).subset (List.mem_flatMap.mpr ⟨i, List.mem_range.mpr hi, h⟩)
theorem len_ap : ∀ i : Nat, i < 18 → ∀ j : Nat, j < 18 → i ≠ j → Int32.ofNat (sLen.getD i 0) ≠ Int32.ofNat (sLen.getD j 0) := by decide +kernel
theorem len_31 : ∀ i : Nat, i < 18 → sLen.getD i 0 < 2 ^ 31 := by decide +kernel
theorem ln_ev {args : Array Value} {s : State} {t u : Term} (h : t.eval args s none [] s = u.eval args s none [] s) : (Term.length t).eval args s none [] s = (Term.length u).eval args s none [] s := by
  simp only [Term.eval, h]
theorem txt_ne {args : Array Value} {s : State} (hs : ∀ w ∈ n_lst, w.before args s = true) (i j : Nat) (hi : i < 18) (hj : j < 18) (hij : i ≠ j) : (Cond.not (Cond.eq (tmN i) (tmN j))).before args s = true := by
  obtain ⟨a1, c1, cA1, kA1, q1, -⟩ := Cond.exactly_spec (args := args) (first := s) (o := none) (s := s) (idx := []) (t := tmN i) (cls := "java/lang/String") (hs _ (blk_in hi (by simp [blkN])))
  obtain ⟨a2, c2, cA2, kA2, q2, -⟩ := Cond.exactly_spec (args := args) (first := s) (o := none) (s := s) (idx := []) (t := tmN j) (cls := "java/lang/String") (hs _ (blk_in hj (by simp [blkN])))
  have l1 := va_eqt (hs _ (blk_in hi (w := .eq (.length (tvN i)) (.int (Int32.ofNat (sLen.getD i 0)))) (by simp [blkN])))
  have l2 := va_eqt (hs _ (blk_in hj (w := .eq (.length (tvN j)) (.int (Int32.ofNat (sLen.getD j 0)))) (by simp [blkN])))
  by_cases h : a1 = a2
  · subst h
    have e := ln_ev (args := args) (s := s) (t := tvN i) (u := tvN j) (by rw [va_fe q1, va_fe q2])
    rw [l1, l2] at e
    exact absurd (Value.int.inj (Option.some.inj e)) (len_ap i hi j hj hij)
  · simp [Cond.before, Cond.holds, Cond.value, q1, q2, h]
theorem law_env {s : State} {b : Nat} (hts : ∀ w ∈ lw_tbl, w.before #[Value.ref b] s = true) (hgv : (Jvm.Cond.and given_1 narrow_1).before #[Value.ref b] s = true) : eL (fun q : Nat => s.heap.size ≤ q) s := by
  have hs : ∀ w ∈ n_lst, w.before #[Value.ref b] s = true := flat_of_before _ hgv
  have hA : ∀ a : Nat, a < s.heap.size → ¬ (fun q : Nat => s.heap.size ≤ q) a := fun a h => Nat.not_le.mpr h
  obtain ⟨adK, adV, hV, hev⟩ := vk_Sof (args := #[Value.ref b]) (s := s) (N := 18) (tm := tmN) (len := sLen) (byt := sByt) (A := fun q : Nat => s.heap.size ≤ q) len_31
    (fun i hi => hs _ (blk_in hi (by simp [blkN]))) (fun i hi => hs _ (blk_in hi (by simp [blkN]))) (fun i hi => hs _ (blk_in hi (by simp [blkN]))) (fun i hi => hs _ (blk_in hi (by simp [blkN])))
    (fun i hi j hj => hs _ (blk_in hi (List.mem_append_right _ (List.mem_map.mpr ⟨j, List.mem_range.mpr hj, rfl⟩))))
    (fun i j hi hj hij => Or.inl (txt_ne hs i j hi hj hij)) hA
  refine ⟨⟨fun q hq => va_Nw.of rfl (hts _ (t_nest q hq)), fun q hq => ?_, ⟨fun X hX => va_Nw.of rfl (hts _ (t_cast X hX)), fun Y hY => va_Nw.of rfl (hts _ (t_decl Y hY))⟩, vx_Zqof (hts _ t_lay1.1) (hts _ t_ini.1) (hs _ t_n1.1) hA, vx_Zqof (hts _ t_lay1.2) (hts _ t_ini.1) (hs _ t_n1.2) hA, adK, adV, va_Zof (hts _ t_lay2.1) (hts _ t_ini.2.1) (va_eqi (hs _ t_n2.1)) hA, va_Zqof (hts _ t_lay2.2) (hts _ t_ini.2.2) (hs _ t_n2.2) hA, hV, fun i q hq => ?_⟩, va_Nc.of (hs _ t_n3)⟩
  · obtain ⟨a, c, cA, kA, q1, -⟩ := Cond.exactly_spec (args := #[Value.ref b]) (first := s) (o := none) (s := s) (idx := []) (t := .string RX3 q.1) (cls := "java/lang/String") (hs _ (t_n4 q hq))
    exact ⟨a, vk_R.of (A := #[Value.ref b]) (hts _ (t_str q hq)) q1⟩
  · have hi : i < 18 := (List.getElem?_eq_some_iff.mp hq).1
    have h1 := hev i hi
    unfold tmN at h1
    rw [List.getD_eq_getElem?_getD, hq] at h1
    exact vk_R.of (A := #[Value.ref b]) (hts _ (t_strN q (List.mem_of_getElem? hq))) h1
theorem law_known {s : State} {b : Nat} (hts : ∀ w ∈ lw_tbl, w.before #[Value.ref b] s = true) : ∃ (G : va_G) (yy : Nat → ClassId), va_K G vwCl (sT yy) s := by
  obtain ⟨c0, i0, k0⟩ := u_known (C := RX0) (T := TX0) (N := 1) (n := 1) hts inX0 (hts _ t_ins.1)
  obtain ⟨c1, i1, k1⟩ := u_known (C := RX3) (T := TX3) (N := 12) (n := 12) hts inX3 (hts _ t_ins.2.1)
  obtain ⟨c2, i2, k2⟩ := u_known (C := RX4) (T := TX4) (N := 17) (n := 17) hts inX4 (hts _ t_ins.2.2)
  obtain ⟨aL, kL, pL, fL, gL, hL⟩ := Cond.arrayClass_spec (hts _ t_arr.1)
  obtain ⟨aB, kB, pB, fB, gB, hB⟩ := Cond.arrayClass_spec (hts _ t_arr.2.1)
  obtain ⟨aI, kI, pI, fI, gI, hI⟩ := Cond.arrayClass_spec (hts _ t_arr.2.2)
  refine ⟨(fun k => if k = 0 then c0 else if k = 1 then c1 else c2, fun k => if k = 0 then i0 else if k = 1 then i1 else i2), fun k => if k = 0 then aL else if k = 1 then aB else aI, ?_, ?_⟩
  · intro k q hq
    match k, hq with
    | 0, hq => cases hq; exact k0
    | 1, hq => cases hq; exact k1
    | 2, hq => cases hq; exact k2
    | k + 3, hq => simp at hq
  · intro k q hq
    match k, hq with
    | 0, hq => cases hq; exact ⟨fun n z => ⟨fun k h => (by cases h), kL, gL, pL, hL⟩, fL⟩
    | 1, hq => cases hq; exact ⟨fun n z => ⟨fun k h => (by cases h), kB, gB, pB, hB⟩, fB⟩
    | 2, hq => cases hq; exact ⟨fun n z => ⟨fun k h => (by cases h), kI, gI, pI, hI⟩, fI⟩
    | k + 3, hq => simp at hq
