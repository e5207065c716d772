/-! the law's start, on -/
/-- the class's constructor: what it needs of its start -/
theorem st_pre {s : State} {H : Heap} {locs : List Loc} {G : va_G} {yy : Nat → ClassId} {w0 : va_W} {As : List Value} (hK : va_K G vwCl (sT yy) s) (hX : eX (lwA s) s) (hP : va_P G vwCl w0 H) (hD : va_D (lwA s) w0) (hS : va_S (lwA s) s.heap H locs) : PreS s H (va_Pc As (fun U => gSt G (sT yy) (fun _ : Unit => w0) H.size () eTrue U ∧ eX (va_A w0 H.size) U)) As :=
  ⟨fun a U g mk q => by
    obtain ⟨q0, ⟨g0, gP, gK, gD, gE⟩, gX⟩ := q
    exact ⟨q0, ⟨g0, gP, va_K.moved (u := U) (U := U.calling g mk a) (Vm.Alike.refl U.vm) gK, gD, trivial⟩, eX_bl.1 _ _ _ _ _ gX⟩,
  fun U hU hW => ⟨rfl, ⟨by rw [hU], by rw [hU]; exact hP, va_K.moved hW.alike hK, hD.weaken (fun _ _ _ _ => trivial), trivial⟩, eX_bl.2 (lwA s) _ _ _ hW (fun q h1 h2 => by rw [hU]; exact hS.2.1 q h1 h2) (fun q hq => by
    rcases hq with ⟨k, e, hk⟩ | hq
    · exact hD.2 k (q, e) hk
    · exact Nat.le_trans hS.1 hq) hX⟩⟩
theorem wl_0 : Cond.classLink RL 8 RX3 ∈ wsL_law ∧ Cond.instantiable RX3 12 ∈ wsL_law ∧ Cond.initialized RX3 ∈ wsL_law := by decide +kernel
theorem wl_8 : Cond.classLink RL 51 RX4 ∈ wsL_law ∧ Cond.instantiable RX4 17 ∈ wsL_law ∧ Cond.initialized RX4 ∈ wsL_law := by decide +kernel
theorem wl_4 : Cond.methodLink RL 50 yX3_init ∈ wsL_law ∧ Cond.instanceMethod yX3_init ∈ wsL_law := by decide +kernel
theorem wl_12 : Cond.methodLink RL 53 yX4_init ∈ wsL_law ∧ Cond.instanceMethod yX4_init ∈ wsL_law := by decide +kernel
theorem wl_17 : Cond.arrayClass .long ∈ wsL_law := by decide +kernel
set_option maxHeartbeats 4000000 in
set_option maxRecDepth 100000 in
/-- from the entry, for every script of at most 320 ints, the law comes to its end with true -/
theorem whole_start {p : Program} {e : Env} {s : State} {m : MethodId} {below : List Frame} {meth : Method} {c : Code} (l : Launch) (hflags : l.flags = flags0) {b L : Nat} {xs : Nat → Int32} (hL : L ≤ 320) (C0 : lw_At p s m meth c b L xs) : W p l e room_1 s m #[Value.ref b] below meth c s.heap [] 0 0 (lw_Z below #[Value.ref b] s) (entryFrame m ([Value.ref b] : List Value).toArray 8) := by
  obtain ⟨hx, hb, hr, hml, hown, htsT, hX, hbl, hlocks, hgv⟩ := C0
  have hown : s.vm.findClass RL = some m.cls := hown
  have hts : ∀ w ∈ wsL_law, w.before #[Value.ref b] s = true := fun w h => htsT w (wsL_law_in w h)
  have hfl : l.stackTraces = false := by
    unfold Launch.stackTraces
    rw [hflags]
    decide +kernel
  have hE : eL (lwA s) s := law_env htsT hgv
  obtain ⟨G, yy, hK⟩ := law_known htsT
  have hA : ∀ q : Nat, s.heap.size ≤ q → lwA s q := fun _ h => h
  have C1 : lwC p l s m meth c b L xs G yy := ⟨hx, hb, hml, hown, hts, hX, hbl, hK, hE, hfl⟩
  have hS : va_S (lwA s) s.heap s.heap [] := va_S.rf
  have hP : va_P G vwCl [] s.heap := fun k q h => by simp at h
  have hD : va_D (lwA s) [] := ⟨fun i j p q h => by simp at h, fun k q h => by simp at h⟩
  have hl := lv_entry ([.ref b]) (n := 8) (Nat.le_of_ble_eq_true rfl)
  rw [lg_entry_eq]
  generalize (lg_sl ([.ref b]) ++ List.replicate (8 - (lg_sl ([.ref b])).length) Slot.unset).toArray = ls at hl ⊢
  have hl : lv_has ls 8 [(0, .ref b)] := hl
  refine va_new (ci := 1) (fs := [.null, .null, .null, .null, .null, .int 0, .int 0, .long 0, .long 0, .long 0, .long 0, .long 0]) (C := RX3) (T := TX3) (N := 12) hx hb hts inlX3 tyX3 tyX3_ok hown (hts _ wl_0.1) (hts _ wl_0.2.1) (hts _ wl_0.2.2) hK hP hD hS hA rfl fs12 (Nat.le_of_ble_eq_true rfl) (Nat.le_of_ble_eq_true rfl) d_law_0 (fun q1 H hP hD hS => ?_)
  refine lv_dup hx hb d_law_3 rfl ?_
  have hP : va_P G vwCl ([] ++ [(q1, .inr (1, [.null, .null, .null, .null, .null, .int 0, .int 0, .long 0, .long 0, .long 0, .long 0, .long 0]))]) H := hP
  have hD : va_D (lwA s) ([] ++ [(q1, .inr (1, [.null, .null, .null, .null, .null, .int 0, .int 0, .long 0, .long 0, .long 0, .long 0, .long 0]))]) := hD
  refine lj_n (w := fun a => wX yy a uX0) (h0 := q1) (wc := [(q1, .inr (1, [.null, .null, .null, .null, .null, .int 0, .int 0, .long 0, .long 0, .long 0, .long 0, .long 0]))]) (wr := []) (va_runI (As := []) (rest := [.ref q1]) ⟨hx, hb, hml, hown, hts⟩ (c_X3_init l yy q1 G H.size) (cwI 0 hts gL_law_X3_init rfl rfl rfl (hts _ wl_0.2.2) (hts _ wl_4.1) (hts _ wl_4.2) rfl (by decide +kernel) ⟨Nat.le_of_ble_eq_true rfl, Nat.le_of_ble_eq_true rfl⟩) (st_pre hK hE.1 (lj_Pr hP) (lj_Dr hD) hS) rfl rfl hl.1 rfl (lv_room (Nat.le_of_ble_eq_true rfl)) d_law_4 ⟨Nat.le_of_ble_eq_true rfl, Nat.le_of_ble_eq_true rfl⟩) hP hD hS hA (fun a H locs ha hP9 hD9 hS9 => ?_)
  subst ha
  have hP := hP9
  have hD := hD9
  have hS := hS9
  clear hP9 hD9 hS9
  refine lv_astore_n (lv' := [(1, .ref (a 0)), (0, .ref b)]) hx hb d_law_7 rfl hl (by decide) rfl (fun ls hl => ?_)
  refine va_new (ci := 2) (fs := [.int 0, .null, .null, .null, .null, .null, .int 0, .int 0, .long 0, .long 0, .long 0, .long 0, .long 0, .null, .null, .int 0, .int 0]) (C := RX4) (T := TX4) (N := 17) hx hb hts inlX4 tyX4 tyX4_ok hown (hts _ wl_8.1) (hts _ wl_8.2.1) (hts _ wl_8.2.2) hK hP hD hS hA rfl fs17 (Nat.le_of_ble_eq_true rfl) (Nat.le_of_ble_eq_true rfl) d_law_8 (fun q2 H hP hD hS => ?_)
  refine lv_dup hx hb d_law_11 rfl ?_
  have hP : va_P G vwCl (wX yy a uX0 ++ [(q2, .inr (2, [.int 0, .null, .null, .null, .null, .null, .int 0, .int 0, .long 0, .long 0, .long 0, .long 0, .long 0, .null, .null, .int 0, .int 0]))]) H := hP
  have hD : va_D (lwA s) (wX yy a uX0 ++ [(q2, .inr (2, [.int 0, .null, .null, .null, .null, .null, .int 0, .int 0, .long 0, .long 0, .long 0, .long 0, .long 0, .null, .null, .int 0, .int 0]))]) := hD
  refine lj_n (w := fun a => wM yy a uM1) (h0 := q2) (wc := [(q2, .inr (2, [.int 0, .null, .null, .null, .null, .null, .int 0, .int 0, .long 0, .long 0, .long 0, .long 0, .long 0, .null, .null, .int 0, .int 0]))]) (wr := wX yy a uX0) (va_runI (As := []) (rest := [.ref q2]) ⟨hx, hb, hml, hown, hts⟩ (c_X4_init l yy q2 G H.size) (cwI 0 hts gL_law_X4_init rfl rfl rfl (hts _ wl_8.2.2) (hts _ wl_12.1) (hts _ wl_12.2) rfl (by decide +kernel) ⟨Nat.le_of_ble_eq_true rfl, Nat.le_of_ble_eq_true rfl⟩) (gi_pre hK (lj_Pr hP) (lj_Dr hD)) rfl rfl hl.1 rfl (lv_room (Nat.le_of_ble_eq_true rfl)) d_law_12 ⟨Nat.le_of_ble_eq_true rfl, Nat.le_of_ble_eq_true rfl⟩) hP hD hS hA (fun a2 H locs ha hP9 hD9 hS9 => ?_)
  subst ha
  have hP := hP9
  have hD := hD9
  have hS := hS9
  clear hP9 hD9 hS9
  refine lv_astore_n (lv' := [(2, .ref (a2 0)), (1, .ref (a 0)), (0, .ref b)]) hx hb d_law_15 rfl hl (by decide) rfl (fun ls hl => ?_)
  refine lv_iconst (v := 1) hx hb d_law_16 (by decide) ?_
  refine va_newa (atype := .long) (ty := .long) (N' := 1) (a0 := (1, .inr (.inl (fun _ => 0)))) hx hb (hts _ wl_17) rfl hK hP hD hS hA (fun _ => rfl) (by decide) (by decide) (Nat.le_of_ble_eq_true rfl) (Nat.le_of_ble_eq_true rfl) (Nat.le_of_ble_eq_true rfl) d_law_17 (fun ao cA H hK1 hP hD hS => ?_)
  have hc : cA = yy 0 := va_uq hK1 (i := 3) (j := 0) rfl rfl (Or.inl rfl)
  subst hc
  have hPs := hP.sub (ws' := lwW yy a ao a2 uX0 (fun _ => 0) uM1) [15, 0, 1, 2, 3, 4, 5, 6, 7, 8, 9, 10, 11, 12, 13, 14] rfl
  have hDs := hD.sub (ws' := lwW yy a ao a2 uX0 (fun _ => 0) uM1) [15, 0, 1, 2, 3, 4, 5, 6, 7, 8, 9, 10, 11, 12, 13, 14] (by decide) rfl
  refine lv_astore_n (lv' := [(3, .ref ao), (2, .ref (a2 0)), (1, .ref (a 0)), (0, .ref b)]) hx hb d_law_19 rfl hl (by decide) rfl (fun ls hl => ?_)
  refine lv_iconst (v := 0) hx hb d_law_20 (by decide) ?_
  refine lv_istore (lv' := [(4, .int 0), (3, .ref ao), (2, .ref (a2 0)), (1, .ref (a 0)), (0, .ref b)]) hx hb d_law_21 hl (by decide) rfl (fun ls hl => ?_)
  exact law_loop hL C1 hr hlocks (L + 1) 0 (Nat.zero_le _) (by omega) uX0 (fun _ => 0) uM1 H _ ls rel_0 hPs hDs hS (lv_sub hl [4, 3, 2, 1, 0] rfl)
