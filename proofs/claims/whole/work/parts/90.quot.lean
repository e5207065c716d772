/-- the class has gone on by 4 already -/
abbrev Core4 (u : XS) (v : MS) : Prop := x_g u = m_g v ∧ x_sp u = m_sp v ∧ x_ob u = m_ou v ∧ x_ol u = m_on v ∧ x_pl u = m_pl v ∧ x_pc u = m_pc v + 4 ∧ x_tr u = m_tr v ∧ relMem (x_oc u) (m_mm v) ∧ 0 ≤ x_ol u ∧ x_ol u ≤ 500 ∧ (∃ j : Nat, j ≤ 4096 ∧ x_pl u = nI (4 * j)) ∧ m_ct v = m_ct uM1 ∧ m_nm v = m_nm uM1 ∧ m_cd v = m_cd uM1
theorem c4_of {u : XS} {v : MS} (h : Core u v) : Core4 (pc4 u) v := by
  obtain ⟨hg, hsp, hob, hol, hpl, hpc, htr, hmm, h0, h5, hj, hct, hnm, hcd⟩ := h
  refine ⟨hg, hsp, hob, hol, hpl, ?_, htr, hmm, h0, h5, hj, hct, hnm, hcd⟩
  show x_pc u + 4 = m_pc v + 4
  rw [hpc]
theorem w_done4 {u : XS} {v : MS} (h : Core4 u v) (w : Int32) {a b : Int64} (hab : a = b) : Grp (f_X3_writeX u w a) v (f_X4_done v (f_X3_byteX w) b) := by
  subst hab
  obtain ⟨hg, hsp, hob, hol, hpl, hpc, htr, hmm, h0, h5, hj, hct, hnm, hcd⟩ := h
  refine ⟨rfl, ⟨?_, hsp, hob, hol, hpl, hpc, ?_, hmm, h0, h5, hj, hct, hnm, hcd⟩, rfl, rfl, rfl, rfl, rfl⟩
  · show vp_updL (x_g u) _ a = vp_updL (m_g v) _ a
    rw [hg]
  · show (37 : Int64) * x_tr u + x_g u _ = 37 * m_tr v + m_g v _
    rw [htr, hg]
theorem w_sp4 {u : XS} {v : MS} (h : Core4 u v) {s t : Nat → Int64} (hst : s = t) : Core4 (sx_sp u s) (sm_sp v t) := by
  subst hst
  obtain ⟨hg, hsp, hob, hol, hpl, hpc, htr, hmm, h0, h5, hj, hct, hnm, hcd⟩ := h
  exact ⟨hg, rfl, hob, hol, hpl, hpc, htr, hmm, h0, h5, hj, hct, hnm, hcd⟩
theorem w_raise {u : XS} {v : MS} (h : Core4 u v) (k : Int32) : Core4 (f_X3_raise u 64 k) (f_X4_over v k) ∧ KeepM v (f_X4_over v k) := by
  unfold f_X3_raise f_X4_over
  by_cases c : k = 0
  · rw [if_pos c, if_pos c]
    exact ⟨h, rfl, rfl, rfl, rfl⟩
  · rw [if_neg c, if_neg c]
    exact ⟨w_sp4 h (by rw [h.2.1]), rfl, rfl, rfl, rfl⟩
theorem KeepM.tr {a b c : MS} (h : KeepM a b) (k : KeepM b c) : KeepM a c := ⟨k.1.trans h.1, k.2.1.trans h.2.1, k.2.2.1.trans h.2.2.1, k.2.2.2.trans h.2.2.2⟩
theorem upd_67 (f : Nat → Int64) (a b : Int64) : vp_updL (vp_updL f 7 (f 7 ||| b)) 6 a = vp_updL (vp_updL f 6 a) 7 ((vp_updL f 6 a) 7 ||| b) := by
  funext j
  unfold vp_updL
  by_cases c6 : j = 6
  · subst c6
    simp
  · by_cases c7 : j = 7
    · subst c7
      simp
    · simp [c6, c7]
theorem w_quot {u : XS} {v : MS} (h : Core4 u v) (a b : Int64) : (f_X3_quotient u a b).1 = (f_X4_quotient v a b).1 ∧ Core4 (f_X3_quotient u a b).2 (f_X4_quotient v a b).2 ∧ KeepM v (f_X4_quotient v a b).2 := by
  unfold f_X3_quotient f_X4_quotient
  by_cases c : b = 0
  · rw [if_pos c, if_pos c]
    refine ⟨rfl, ?_, rfl, rfl, rfl, rfl⟩
    dsimp only
    have e : f_X3_raise u 128 1 = sx_sp u (vp_updL (x_sp u) 7 (x_sp u 7 ||| 128)) := by
      unfold f_X3_raise
      rw [if_neg (by decide)]
      rfl
    rw [e]
    refine w_sp4 (v := sm_sp v _) (w_sp4 (t := vp_updL (x_sp u) 7 (x_sp u 7 ||| 128)) h rfl) ?_
    show vp_updL (vp_updL (x_sp u) 7 (x_sp u 7 ||| 128)) 6 a = vp_updL (vp_updL (m_sp v) 6 a) 7 ((vp_updL (m_sp v) 6 a) 7 ||| 128)
    rw [upd_67, h.2.1]
  · rw [if_neg c, if_neg c]
    dsimp only
    rw [fd_eq]
    obtain ⟨h1, h2⟩ := w_raise h (if a = -9223372036854775808 then if b = -1 then (1 : Int32) else 0 else 0)
    refine ⟨rfl, w_sp4 h1 ?_, h2⟩
    rw [h1.2.1]
theorem w_lq {u : XS} {v : MS} (h : Core4 u v) (a b : Int64) : (f_X3_longQuotient u (x_sp u (1 : Int32).toNatClampNeg) a b).1 = (f_X4_quotientOf v a b).1 ∧ Core4 (f_X3_longQuotient u (x_sp u (1 : Int32).toNatClampNeg) a b).2 (f_X4_quotientOf v a b).2 ∧ KeepM v (f_X4_quotientOf v a b).2 := by
  unfold f_X3_longQuotient f_X4_quotientOf
  rw [h.2.1, ab_eq]
  by_cases c : f_X4_above b (m_sp v (1 : Int32).toNatClampNeg) = 0
  · rw [if_pos c, if_pos c]
    refine ⟨?_, w_sp4 h rfl, rfl, rfl, rfl, rfl⟩
    show m_sp v 1 = vp_updL (m_sp v) 6 a 1
    unfold vp_updL
    rw [if_neg (by decide)]
  · rw [if_neg c, if_neg c]
    dsimp only
    rw [lq_loop u v]
    exact ⟨rfl, w_sp4 h rfl, rfl, rfl, rfl, rfl⟩
