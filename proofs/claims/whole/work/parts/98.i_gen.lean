/-! calls over a part of the world -/
theorem lj_l {wr wc : va_W} {k : Nat} {q : Nat × va_E} (h : wr[k]? = some q) : (wr ++ wc)[k]? = some q := by
  rw [List.getElem?_append_left (List.getElem?_eq_some_iff.mp h).1]; exact h
theorem lj_r {wr wc : va_W} {k : Nat} {q : Nat × va_E} (h : wc[k]? = some q) : (wr ++ wc)[wr.length + k]? = some q := by
  rw [List.getElem?_append_right (by omega), show wr.length + k - wr.length = k from by omega]; exact h
theorem lj_Pr {G : va_G} {cl : List vw_C} {wr wc : va_W} {H : Heap} (h : va_P G cl (wr ++ wc) H) : va_P G cl wc H := fun k q hq => h _ q (lj_r hq)
theorem lj_Dr {A : Nat → Prop} {wr wc : va_W} (h : va_D A (wr ++ wc)) : va_D A wc := ⟨fun i j p q hi hj hpq => by
    have := h.1 _ _ p q (lj_r hi) (lj_r hj) hpq
    omega, fun k q hq => h.2 _ q (lj_r hq)⟩
theorem lj_F {A : Nat → Prop} {wr wc : va_W} {n : Nat} (h : va_D A (wr ++ wc)) (hA : ∀ q : Nat, n ≤ q → A q) : ∀ q, va_A wc n q → A q := fun q hq => by
  rcases hq with ⟨k, e, hk⟩ | hq
  · exact h.2 _ (q, e) (lj_r hk)
  · exact hA q hq
theorem lj_join {A : Nat → Prop} {G : va_G} {cl : List vw_C} {wr wc w1 : va_W} {H H1 : Heap} (hP : va_P G cl (wr ++ wc) H) (hD : va_D A (wr ++ wc)) (hk : ∀ q : Nat, q < H.size → ¬ va_A wc H.size q → H1[q]? = H[q]?) (hF : ∀ q, va_A wc H.size q → A q) (hP1 : va_P G cl w1 H1) (hD1 : va_D (va_A wc H.size) w1) : va_P G cl (wr ++ w1) H1 ∧ va_D A (wr ++ w1) := by
  have hnot : ∀ (k : Nat) (q : Nat × va_E), wr[k]? = some q → ¬ va_A wc H.size q.1 := by
    intro k q h hA
    rcases hA with ⟨k2, e2, h2⟩ | h2
    · have e := hD.1 k (wr.length + k2) q (q.1, e2) (lj_l h) (lj_r h2) rfl
      have := (List.getElem?_eq_some_iff.mp h).1
      omega
    · exact absurd (hP k q (lj_l h)).lt (Nat.not_lt.mpr h2)
  refine ⟨?_, ?_, ?_⟩
  · intro k q h
    by_cases c : k < wr.length
    · rw [List.getElem?_append_left c] at h
      exact (hP k q (lj_l h)).kept (hk q.1 (hP k q (lj_l h)).lt (hnot k q h))
    · rw [List.getElem?_append_right (Nat.le_of_not_lt c)] at h
      exact hP1 _ q h
  · intro i j x y hi hj hxy
    by_cases ci : i < wr.length
    · rw [List.getElem?_append_left ci] at hi
      by_cases cj : j < wr.length
      · rw [List.getElem?_append_left cj] at hj
        exact hD.1 i j x y (lj_l hi) (lj_l hj) hxy
      · rw [List.getElem?_append_right (Nat.le_of_not_lt cj)] at hj
        have hy := hD1.2 _ y hj
        rw [← hxy] at hy
        exact absurd hy (hnot i x hi)
    · rw [List.getElem?_append_right (Nat.le_of_not_lt ci)] at hi
      by_cases cj : j < wr.length
      · rw [List.getElem?_append_left cj] at hj
        have hx := hD1.2 _ x hi
        rw [hxy] at hx
        exact absurd hx (hnot j y hj)
      · rw [List.getElem?_append_right (Nat.le_of_not_lt cj)] at hj
        have := hD1.1 _ _ x y hi hj hxy
        omega
  · intro k q h
    by_cases c : k < wr.length
    · rw [List.getElem?_append_left c] at h
      exact hD.2 k q (lj_l h)
    · rw [List.getElem?_append_right (Nat.le_of_not_lt c)] at h
      exact hF _ (hD1.2 _ q h)
section LJ
variable {p : Program} {l : Launch} {e : Env} {R : Room} {s : State} {m : MethodId} {args : Array Value} {below : List Frame} {meth : Method} {c : Code} {H : Heap} {locs : List Loc} {cells slots : Nat} {Q : State → Prop}
variable {pc : Nat} {ls : Array Slot} {rest st0 : List Value} {av : Array Value} {A : Nat → Prop}
theorem lj_size (hS : va_S A s.heap H locs) (hA : ∀ q : Nat, s.heap.size ≤ q → A q) : ∀ q : Nat, H.size ≤ q → A q := fun q h => hA q (Nat.le_trans hS.1 h)
theorem lj_i {S : Type} {G : va_G} {w : S → va_W} {u : S} {f : Int32 × S} {wr : va_W} {mc ms : Nat} (hr : va_Run p l e R s m args below meth c H locs cells slots mc ms (F0 m pc ls st0) rest (gQi w f G (va_A (w u) H.size) av) (va_A (w u) H.size)) (hP : va_P G vwCl (wr ++ w u) H) (hD : va_D A (wr ++ w u)) (hS : va_S A s.heap H locs) (hA : ∀ q : Nat, s.heap.size ≤ q → A q)
    (kk : ∀ (r : Int32) (u' : S) (H1 : Heap) (locs1 : List Loc), (r, u') = f → va_P G vwCl (wr ++ w u') H1 → va_D A (wr ++ w u') → va_S A s.heap H1 locs1 → W p l e R s m args below meth c H1 locs1 (cells + mc) (slots + ms) Q (F0 m (pc + 3) ls (.int r :: rest))) : W p l e R s m args below meth c H locs cells slots Q (F0 m pc ls st0) := by
  have hF := lj_F hD (lj_size hS hA)
  refine va_calli hr hS (fun q _ h => hF q h) hF (fun r u' t H1 locs1 ht hvm hw hB hz hk hS1 => ?_)
  obtain ⟨hP1, hD1⟩ := hB
  rw [ht] at hP1
  obtain ⟨hP2, hD2⟩ := lj_join hP hD hk hF hP1 hD1
  exact kk r u' H1 locs1 (Prod.ext hw.1 hw.2) hP2 hD2 hS1
theorem lj_lo {S : Type} {G : va_G} {w : S → va_W} {u : S} {f : Int64 × S} {wr : va_W} {mc ms : Nat} (hr : va_Run p l e R s m args below meth c H locs cells slots mc ms (F0 m pc ls st0) rest (gQl w f G (va_A (w u) H.size) av) (va_A (w u) H.size)) (hP : va_P G vwCl (wr ++ w u) H) (hD : va_D A (wr ++ w u)) (hS : va_S A s.heap H locs) (hA : ∀ q : Nat, s.heap.size ≤ q → A q)
    (kk : ∀ (r : Int64) (u' : S) (H1 : Heap) (locs1 : List Loc), (r, u') = f → va_P G vwCl (wr ++ w u') H1 → va_D A (wr ++ w u') → va_S A s.heap H1 locs1 → W p l e R s m args below meth c H1 locs1 (cells + mc) (slots + ms) Q (F0 m (pc + 3) ls (.long r :: rest))) : W p l e R s m args below meth c H locs cells slots Q (F0 m pc ls st0) := by
  have hF := lj_F hD (lj_size hS hA)
  refine va_calll hr hS (fun q _ h => hF q h) hF (fun r u' t H1 locs1 ht hvm hw hB hz hk hS1 => ?_)
  obtain ⟨hP1, hD1⟩ := hB
  rw [ht] at hP1
  obtain ⟨hP2, hD2⟩ := lj_join hP hD hk hF hP1 hD1
  exact kk r u' H1 locs1 (Prod.ext hw.1 hw.2) hP2 hD2 hS1
/-- a constructor -/
theorem lj_n {G : va_G} {w : (Nat → Nat) → va_W} {h0 : Nat} {wc wr : va_W} {mc ms : Nat} (hr : va_Run p l e R s m args below meth c H locs cells slots mc ms (F0 m pc ls st0) rest (gQn w h0 G (va_A wc H.size) av) (va_A wc H.size)) (hP : va_P G vwCl (wr ++ wc) H) (hD : va_D A (wr ++ wc)) (hS : va_S A s.heap H locs) (hA : ∀ q : Nat, s.heap.size ≤ q → A q)
    (kk : ∀ (a1 : Nat → Nat) (H1 : Heap) (locs1 : List Loc), a1 0 = h0 → va_P G vwCl (wr ++ w a1) H1 → va_D A (wr ++ w a1) → va_S A s.heap H1 locs1 → W p l e R s m args below meth c H1 locs1 (cells + mc) (slots + ms) Q (F0 m (pc + 3) ls rest)) : W p l e R s m args below meth c H locs cells slots Q (F0 m pc ls st0) := by
  have hF := lj_F hD (lj_size hS hA)
  refine va_callv hr hS (fun q _ h => hF q h) hF (fun a1 t H1 locs1 ht hvm hw hB hz hk hS1 => ?_)
  obtain ⟨hP1, hD1⟩ := hB
  rw [ht] at hP1
  obtain ⟨hP2, hD2⟩ := lj_join hP hD hk hF hP1 hD1
  exact kk a1 H1 locs1 hw hP2 hD2 hS1
end LJ
/-! what a call of both says -/
theorem fin_l {F : Int32 × Int64 × XS} {M : Int64 × MS} {f : Nat → Int64} {k : Int32} {uo : XS × (Nat → Int64)} {b : Int64} {w : MS} (h : Ag F M) (e1 : (k, uo) = rL1 F f) (e2 : (b, w) = M) : m_th w = k ∧ (k = 0 → uo.2 0 = b) ∧ Rel uo.1 w := by
  obtain ⟨h1, h2, h3⟩ := h
  subst e2
  unfold rL1 at e1
  by_cases c : F.1 = 0
  · rw [if_pos c, if_pos c] at e1
    obtain ⟨rfl, rfl⟩ := Prod.mk.inj e1
    rw [if_pos c] at h1
    refine ⟨h1, fun _ => ?_, h3⟩
    show vp_updL f 0 F.2.1 0 = b
    rw [pk_uLs]
    exact h2 c
  · rw [if_neg c, if_neg c] at e1
    obtain ⟨rfl, rfl⟩ := Prod.mk.inj e1
    rw [if_neg c] at h1
    exact ⟨h1, fun h => absurd h (by decide), h3⟩
theorem fin_i {F : Int32 × Int64 × XS} {M : Int32 × MS} {f : Nat → Int64} {k : Int32} {uo : XS × (Nat → Int64)} {b : Int32} {w : MS} (h : Ag F (mLi M)) (e1 : (k, uo) = rL1 F f) (e2 : (b, w) = M) : m_th w = k ∧ (k = 0 → uo.2 0 = b.toInt64) ∧ Rel uo.1 w := fin_l h e1 (by rw [← e2]; rfl)
theorem fin_p {F : Int32 × Int64 × XS} {M : Int32 × MS} {f : Nat → Int64} {k : Int32} {uo : XS × (Nat → Int64)} {b : Int32} {w : MS} (h : AgP F (mLi M)) (e1 : (k, uo) = rL2 F f) (e2 : (b, w) = M) : m_th w = k ∧ (k = 0 → uo.2 0 = b.toInt64) ∧ Rel uo.1 w := by
  obtain ⟨h1, h2, h3⟩ := h
  subst e2
  unfold rL2 at e1
  obtain ⟨rfl, rfl⟩ := Prod.mk.inj e1
  refine ⟨h1, fun c => ?_, h3⟩
  show (if F.1 = 0 then vp_updL f 0 F.2.1 else f) 0 = b.toInt64
  rw [if_pos c, pk_uLs]
  exact h2 c
theorem fin_t {w w1 : MS} {k : Int32} (e : (k, w1) = (f_X4_thrown w, w)) : k = m_th w ∧ w1 = w := by
  obtain ⟨rfl, rfl⟩ := Prod.mk.inj e
  exact ⟨rfl, rfl⟩
/-! the law's walk: what stays -/
def lwA (s : State) : Nat → Prop := fun q : Nat => s.heap.size ≤ q
abbrev lwW (yy : Nat → ClassId) (a : Nat → Nat) (ao : Nat) (a2 : Nat → Nat) (u : XS) (f : Nat → Int64) (v : MS) : va_W := wXo yy a ao (u, f) ++ wM yy a2 v
def lwC (p : Program) (l : Launch) (s : State) (m : MethodId) (meth : Method) (c : Code) (b L : Nat) (xs : Nat → Int32) (G : va_G) (yy : Nat → ClassId) : Prop := p.tables.exec = Jvm.exec ∧ c.code = code ∧ c.maxLocals = 8 ∧ s.vm.findClass RL = some m.cls ∧ (∀ w ∈ wsL_law, w.before #[Value.ref b] s = true) ∧ va_X b L xs s s.heap ∧ b < s.heap.size ∧ va_K G vwCl (sT yy) s ∧ eL (lwA s) s ∧ l.stackTraces = false
abbrev lwL (b : Nat) (a : Nat → Nat) (ao : Nat) (a2 : Nat → Nat) (x4 : Int32) : List (Nat × Value) := [(0, .ref b), (1, .ref (a 0)), (2, .ref (a2 0)), (3, .ref ao), (4, .int x4)]
/-- at the loop's foot -/
def lwK (p : Program) (l : Launch) (e : Env) (s : State) (m : MethodId) (below : List Frame) (meth : Method) (c : Code) (b : Nat) (G : va_G) (yy : Nat → ClassId) (a : Nat → Nat) (ao : Nat) (a2 : Nat → Nat) (x4 : Int32) (kc ns : Nat) (Z : State → Prop) (pc : Nat) : Prop := ∀ (u : XS) (f : Nat → Int64) (v : MS) (H : Heap) (locs : List Loc) (ls : Array Slot), Rel u v → va_P G vwCl (lwW yy a ao a2 u f v) H → va_D (lwA s) (lwW yy a ao a2 u f v) → va_S (lwA s) s.heap H locs → lv_has ls 8 (lwL b a ao a2 x4) → W p l e room_1 s m #[Value.ref b] below meth c H locs kc ns Z (F0 m pc ls [])
