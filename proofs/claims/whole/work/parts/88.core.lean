/-! one instruction at both: all but the bill -/
abbrev Core (u : XS) (v : MS) : Prop := x_g u = m_g v ∧ x_sp u = m_sp v ∧ x_ob u = m_ou v ∧ x_ol u = m_on v ∧ x_pl u = m_pl v ∧ x_pc u = m_pc v ∧ x_tr u = m_tr v ∧ relMem (x_oc u) (m_mm v) ∧ 0 ≤ x_ol u ∧ x_ol u ≤ 500 ∧ (∃ j : Nat, j ≤ 4096 ∧ x_pl u = nI (4 * j)) ∧ m_ct v = m_ct uM1 ∧ m_nm v = m_nm uM1 ∧ m_cd v = m_cd uM1
/-- what the reference's ways leave alone -/
abbrev KeepM (v w : MS) : Prop := m_ta w = m_ta v ∧ m_la w = m_la v ∧ m_oo w = m_oo v ∧ m_me w = m_me v
/-- the class at u', the reference at M after v: on to the next, no late branch -/
abbrev Grp (u : XS) (v : MS) (M : Int32 × MS) : Prop := M.1 = 0 ∧ Core u M.2 ∧ m_lt M.2 = 0 ∧ KeepM v M.2
theorem c_of {u : XS} {v : MS} (h : Rel u v) : Core u v := ⟨h.g, h.sp, h.ob, h.ol, h.pl, h.pc, h.tr, h.mm, h.ol0, h.ol5, h.plj, h.ct, h.nm, h.cd⟩
abbrev pc4 (u : XS) : XS := sx_pc u (x_pc u + (4 : Int64))
theorem w_done {u : XS} {v : MS} (h : Core u v) (w : Int32) {a b : Int64} (hab : a = b) : Grp (f_X3_writeX (pc4 u) w a) v (f_X4_done v (f_X3_byteX w) b) := by
  subst hab
  obtain ⟨hg, hsp, hob, hol, hpl, hpc, htr, hmm, h0, h5, hj, hct, hnm, hcd⟩ := h
  refine ⟨rfl, ⟨?_, hsp, hob, hol, hpl, ?_, ?_, hmm, h0, h5, hj, hct, hnm, hcd⟩, rfl, rfl, rfl, rfl, rfl⟩
  · show vp_updL (x_g u) _ a = vp_updL (m_g v) _ a
    rw [hg]
  · show x_pc u + 4 = m_pc v + 4
    rw [hpc]
  · show (37 : Int64) * x_tr u + x_g u _ = 37 * m_tr v + m_g v _
    rw [htr, hg]
theorem w_on {u : XS} {v : MS} (h : Core u v) : Grp (pc4 u) v (f_X4_on v) := by
  obtain ⟨hg, hsp, hob, hol, hpl, hpc, htr, hmm, h0, h5, hj, hct, hnm, hcd⟩ := h
  refine ⟨rfl, ⟨hg, hsp, hob, hol, hpl, ?_, htr, hmm, h0, h5, hj, hct, hnm, hcd⟩, rfl, rfl, rfl, rfl, rfl⟩
  show x_pc u + 4 = m_pc v + 4
  rw [hpc]
theorem w_num {u : XS} {v : MS} (h : Core u v) (w : Int32) (hop : f_X3_opOf w < 224) : f_X3_operandZ u w = f_X4_number v (f_X3_opOf w) (f_X3_byteZ w) := by
  unfold f_X3_operandZ f_X4_number
  dsimp only
  have hn : ¬ f_X3_opOf w = 247 := fun e => by rw [e] at hop; exact absurd hop (by decide)
  by_cases c : f_X3_opOf w &&& 1 = 1
  · rw [if_pos c, if_pos c, if_pos hop, if_neg (by decide)]
  · rw [if_neg c, if_neg c, if_neg hn, if_pos rfl, h.1]
theorem w_choose {u : XS} {v : MS} (h : Core u v) (w y' z' : Int32) {y z : Int64} (hy : y = m_g v y'.toNatClampNeg) (hz : z = f_X4_number v (f_X3_opOf w) z') : Grp (f_X3_choose (pc4 u) w y z) v (f_X4_choose v (f_X3_opOf w) (f_X3_byteX w) y' z') := by
  unfold f_X3_choose f_X4_choose
  dsimp only
  rw [ho_eq, ← hy]
  by_cases c : f_X4_holds ((jshr (f_X3_opOf w) 1) &&& 7) y = 0
  · rw [if_pos c, if_pos c]
    by_cases c2 : f_X3_opOf w < 112
    · rw [if_pos c2, if_pos rfl, if_neg (Int32.not_le.mpr c2)]
      exact w_on h
    · rw [if_neg c2, if_neg (by decide), if_pos (Int32.not_lt.mp c2)]
      exact w_done h w (if_pos c).symm
  · rw [if_neg c, if_neg c]
    exact w_done h w (hz.trans (if_neg c).symm)
