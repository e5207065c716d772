/-! one instruction at both -/
def stepZ (v : MS) (w : Int32) : Int32 × MS := (if (f_X3_opOf w) < (64 : Int32) then if (64 : Int32) ≤ (f_X3_opOf w) then if (128 : Int32) ≤ (f_X3_opOf w) then if (192 : Int32) ≤ (f_X3_opOf w) then if (224 : Int32) ≤ (f_X3_opOf w) then let v20 : Int32 := (f_X4_high v (f_X3_opOf w) (f_X3_byteX w) (f_X3_byteY w) (f_X3_byteZ w) w).1; let u21 : MS := (f_X4_high v (f_X3_opOf w) (f_X3_byteX w) (f_X3_byteY w) (f_X3_byteZ w) w).2; (v20, u21) else let v22 : Int32 := (f_X4_bits v (f_X3_opOf w) (f_X3_byteX w) (f_X3_byteY w) (f_X3_byteZ w)).1; let u23 : MS := (f_X4_bits v (f_X3_opOf w) (f_X3_byteX w) (f_X3_byteY w) (f_X3_byteZ w)).2; (v22, u23) else let v24 : Int32 := (f_X4_access v (f_X3_opOf w) (f_X3_byteX w) (f_X3_byteY w) (f_X3_byteZ w)).1; let u25 : MS := (f_X4_access v (f_X3_opOf w) (f_X3_byteX w) (f_X3_byteY w) (f_X3_byteZ w)).2; (v24, u25) else let v26 : Int32 := (f_X4_choose v (f_X3_opOf w) (f_X3_byteX w) (f_X3_byteY w) (f_X3_byteZ w)).1; let u27 : MS := (f_X4_choose v (f_X3_opOf w) (f_X3_byteX w) (f_X3_byteY w) (f_X3_byteZ w)).2; (v26, u27) else let v28 : Int32 := (f_X4_low v (f_X3_opOf w) (f_X3_byteX w) (f_X3_byteY w) (f_X3_byteZ w)).1; let u29 : MS := (f_X4_low v (f_X3_opOf w) (f_X3_byteX w) (f_X3_byteY w) (f_X3_byteZ w)).2; (v28, u29) else if (96 : Int32) ≤ (f_X3_opOf w) then if (64 : Int32) ≤ (f_X3_opOf w) then if (128 : Int32) ≤ (f_X3_opOf w) then if (192 : Int32) ≤ (f_X3_opOf w) then if (224 : Int32) ≤ (f_X3_opOf w) then let v35 : Int32 := (f_X4_high v (f_X3_opOf w) (f_X3_byteX w) (f_X3_byteY w) (f_X3_byteZ w) w).1; let u36 : MS := (f_X4_high v (f_X3_opOf w) (f_X3_byteX w) (f_X3_byteY w) (f_X3_byteZ w) w).2; (v35, u36) else let v37 : Int32 := (f_X4_bits v (f_X3_opOf w) (f_X3_byteX w) (f_X3_byteY w) (f_X3_byteZ w)).1; let u38 : MS := (f_X4_bits v (f_X3_opOf w) (f_X3_byteX w) (f_X3_byteY w) (f_X3_byteZ w)).2; (v37, u38) else let v39 : Int32 := (f_X4_access v (f_X3_opOf w) (f_X3_byteX w) (f_X3_byteY w) (f_X3_byteZ w)).1; let u40 : MS := (f_X4_access v (f_X3_opOf w) (f_X3_byteX w) (f_X3_byteY w) (f_X3_byteZ w)).2; (v39, u40) else let v41 : Int32 := (f_X4_choose v (f_X3_opOf w) (f_X3_byteX w) (f_X3_byteY w) (f_X3_byteZ w)).1; let u42 : MS := (f_X4_choose v (f_X3_opOf w) (f_X3_byteX w) (f_X3_byteY w) (f_X3_byteZ w)).2; (v41, u42) else let v43 : Int32 := (f_X4_low v (f_X3_opOf w) (f_X3_byteX w) (f_X3_byteY w) (f_X3_byteZ w)).1; let u44 : MS := (f_X4_low v (f_X3_opOf w) (f_X3_byteX w) (f_X3_byteY w) (f_X3_byteZ w)).2; (v43, u44) else let v45 : Int32 := (f_X4_branch v (f_X3_opOf w) (f_X3_byteX w) (w &&& (65535 : Int32))).1; let u46 : MS := (f_X4_branch v (f_X3_opOf w) (f_X3_byteX w) (w &&& (65535 : Int32))).2; (v45, u46))
theorem pr_eta {α β : Type} (M : α × β) : (M.1, M.2) = M := rfl
theorem op_lt {w : Int32} {n k : Nat} (e : f_X3_opOf w = nI n) (hn : n < 256) (hk : k < 257) : f_X3_opOf w < nI k ↔ n < k := by
  rw [e, nI_ltI (by omega) (by omega)]
theorem op_le {w : Int32} {n k : Nat} (e : f_X3_opOf w = nI n) (hn : n < 256) (hk : k < 257) : nI k ≤ f_X3_opOf w ↔ k ≤ n := by
  rw [e, nI_leI (by omega) (by omega)]
theorem stepZ_way {v : MS} {w : Int32} {y z : Int64} (hy : y = m_g v (f_X3_byteY w).toNatClampNeg) (hz : f_X3_opOf w < 224 ∨ f_X3_opOf w = 246 ∨ f_X3_opOf w = 247 → z = f_X4_number v (f_X3_opOf w) (f_X3_byteZ w)) (u0 : XS) (hu0 : Core u0 v) : Way v w y z (stepZ v w) := by
  obtain ⟨n, hn, e⟩ := op_nI w
  have i64 : f_X3_opOf w < 64 ↔ n < 64 := op_lt e hn (by decide)
  have j64 : 64 ≤ f_X3_opOf w ↔ 64 ≤ n := op_le e hn (by decide)
  have j96 : 96 ≤ f_X3_opOf w ↔ 96 ≤ n := op_le e hn (by decide)
  have j128 : 128 ≤ f_X3_opOf w ↔ 128 ≤ n := op_le e hn (by decide)
  have j192 : 192 ≤ f_X3_opOf w ↔ 192 ≤ n := op_le e hn (by decide)
  have j224 : 224 ≤ f_X3_opOf w ↔ 224 ≤ n := op_le e hn (by decide)
  have i224 : f_X3_opOf w < 224 ↔ n < 224 := op_lt e hn (by decide)
  unfold stepZ
  dsimp only
  by_cases c0 : n < 64
  · rw [if_pos (i64.mpr c0), if_neg (fun h => by have := j64.mp h; omega), pr_eta, hy, hz (Or.inl (i224.mpr (by omega)))]
    exact way_low e c0 u0 hu0
  · rw [if_neg (fun h => c0 (i64.mp h))]
    by_cases c1 : n < 96
    · rw [if_neg (fun h => by have := j96.mp h; omega), pr_eta]
      exact way_branch e (by omega) c1 y z u0 hu0
    · rw [if_pos (j96.mpr (by omega)), if_pos (j64.mpr (by omega))]
      by_cases c2 : n < 128
      · rw [if_neg (fun h => by have := j128.mp h; omega), pr_eta, hy, hz (Or.inl (i224.mpr (by omega)))]
        exact way_choose e (by omega) c2 u0 hu0
      · rw [if_pos (j128.mpr (by omega))]
        by_cases c3 : n < 192
        · rw [if_neg (fun h => by have := j192.mp h; omega), pr_eta, hy, hz (Or.inl (i224.mpr (by omega)))]
          exact way_access e (by omega) c3 u0 hu0
        · rw [if_pos (j192.mpr (by omega))]
          by_cases c4 : n < 224
          · rw [if_neg (fun h => by have := j224.mp h; omega), pr_eta, hy, hz (Or.inl (i224.mpr (by omega)))]
            exact way_bits e (by omega) c4 u0 hu0
          · rw [if_pos (j224.mpr (by omega)), pr_eta]
            refine way_high e (by omega) hn y z (fun h => hz (Or.inr ?_)) _ u0 hu0
            rcases h with rfl | rfl
            · exact Or.inl e
            · exact Or.inr e
abbrev taM (op : Int32) (v : MS) : MS := sm_ta v (vp_updL (m_ta v) op.toNatClampNeg ((m_ta v op.toNatClampNeg) + (1 : Int64)))
abbrev laM (op : Int32) (v : MS) : MS := sm_la (taM op v) (m_ta (taM op v) op.toNatClampNeg)
def bilM (op : Int32) (v : MS) : MS := sm_oo (laM op v) ((m_oo (laM op v)) + billB op (if (m_lt (laM op v)) = (0 : Int32) then (1 : Int64) else (3 : Int64)))
def stepF (op : Int32) (M : Int32 × MS) : Int32 × MS := if M.1 = (2 : Int32) then (M.1, M.2) else if M.1 = (3 : Int32) then (M.1, M.2) else (M.1, bilM op M.2)
def fetM (v : MS) (w : Int32) : MS :=
  let u8 : MS := sm_tr v (((31 : Int64) * (m_tr v)) + (m_g v (f_X3_byteY w).toNatClampNeg));
  let u9 : MS := sm_tr u8 (((31 : Int64) * (m_tr u8)) + (m_g u8 (f_X3_byteZ w).toNatClampNeg));
  sm_tr u9 (((31 : Int64) * (m_tr u9)) + (m_g u9 (f_X3_byteX w).toNatClampNeg))
theorem step_eq (v : MS) : f_X4_step v = if (f_X4_beyond (m_pc v)) = (0 : Int32) then stepF (f_X3_opOf (f_X4_m v (m_pc v) (4 : Int32)).toInt32) (stepZ (fetM v (f_X4_m v (m_pc v) (4 : Int32)).toInt32) (f_X4_m v (m_pc v) (4 : Int32)).toInt32) else ((3 : Int32), v) := by
  unfold f_X4_step
  rfl
def doF (u4 : XS) (w : Int32) (y z : Int64) : Int32 × XS :=
  if (f_X3_isLegal w) = (0 : Int32) then ((2 : Int32), u4)
  else if lsW w = (0 : Int32) then if w = (0 : Int32) then ((1 : Int32), f_X3_perform (f_X3_bill u4 (f_X3_opOf w) (lsW w)) w y z) else ((0 : Int32), f_X3_perform (f_X3_bill u4 (f_X3_opOf w) (lsW w)) w y z)
  else if (f_X3_isBeyond (y + z)) = (0 : Int32) then if w = (0 : Int32) then ((1 : Int32), f_X3_perform (f_X3_bill u4 (f_X3_opOf w) (lsW w)) w y z) else ((0 : Int32), f_X3_perform (f_X3_bill u4 (f_X3_opOf w) (lsW w)) w y z)
  else ((3 : Int32), u4)
theorem doNext_eq (u : XS) : f_X3_doNext u = if (f_X3_isBeyond (x_pc u)) = (0 : Int32) then doF (f_X3_followFetch u (f_X0_load u (x_pc u) (4 : Int32)).toInt32) (f_X0_load u (x_pc u) (4 : Int32)).toInt32 (x_g (f_X3_followFetch u (f_X0_load u (x_pc u) (4 : Int32)).toInt32) (f_X3_byteY (f_X0_load u (x_pc u) (4 : Int32)).toInt32).toNatClampNeg) (f_X3_operandZ (f_X3_followFetch u (f_X0_load u (x_pc u) (4 : Int32)).toInt32) (f_X0_load u (x_pc u) (4 : Int32)).toInt32) else ((3 : Int32), u) := by
  unfold f_X3_doNext
  rfl
theorem doF_d {u4 : XS} {w : Int32} {y z : Int64} (hl : ¬ f_X3_isLegal w = 0) (hs : lsW w = 0 ∨ f_X3_isBeyond (y + z) = 0) : doF u4 w y z = (if w = 0 then 1 else 0, f_X3_perform (f_X3_bill u4 (f_X3_opOf w) (lsW w)) w y z) := by
  unfold doF
  rw [if_neg hl]
  by_cases c1 : lsW w = 0
  · rw [if_pos c1]
    by_cases c2 : w = 0
    · rw [if_pos c2, if_pos c2]
    · rw [if_neg c2, if_neg c2]
  · rw [if_neg c1, if_pos (hs.resolve_left c1)]
    by_cases c2 : w = 0
    · rw [if_pos c2, if_pos c2]
    · rw [if_neg c2, if_neg c2]
theorem c_fet {u : XS} {v : MS} (h : Rel u v) (w : Int32) : Rel (f_X3_followFetch u w) (fetM v w) := by
  refine ⟨h.g, h.sp, h.ta, h.ob, h.ol, h.pl, h.pc, h.oo, h.me, ?_, h.la, h.mm, h.ol0, h.ol5, h.plj, h.ct, h.nm, h.cd⟩
  show (31 : Int64) * ((31 : Int64) * ((31 : Int64) * x_tr u + x_g u _) + x_g u _) + x_g u _ = (31 : Int64) * ((31 : Int64) * ((31 : Int64) * m_tr v + m_g v _) + m_g v _) + m_g v _
  rw [h.tr, h.g]
theorem c_bill {u : XS} {v : MS} (h : Core u v) (op k : Int32) : Core (f_X3_bill u op k) v := by
  unfold f_X3_bill
  dsimp only
  by_cases c : k = 0
  · rw [if_pos c]; exact h
  · rw [if_neg c]; exact h
theorem bill_ta (u : XS) (op k : Int32) : x_ta (f_X3_bill u op k) = vp_updL (x_ta u) op.toNatClampNeg ((x_ta u op.toNatClampNeg) + (1 : Int64)) := by
  unfold f_X3_bill
  dsimp only
  by_cases c : k = 0
  · rw [if_pos c]; rfl
  · rw [if_neg c]; rfl
theorem bill_la (u : XS) (op k : Int32) : x_la (f_X3_bill u op k) = vp_updL (x_ta u) op.toNatClampNeg ((x_ta u op.toNatClampNeg) + (1 : Int64)) op.toNatClampNeg := by
  unfold f_X3_bill
  dsimp only
  by_cases c : k = 0
  · rw [if_pos c]; rfl
  · rw [if_neg c]; rfl
theorem bill_oo (u : XS) (op k : Int32) : x_oo (f_X3_bill u op k) = x_oo u + (f_X3_leastOops op).toInt64 := by
  unfold f_X3_bill
  dsimp only
  by_cases c : k = 0
  · rw [if_pos c]; rfl
  · rw [if_neg c]; rfl
theorem bill_me (u : XS) (op k : Int32) : x_me (f_X3_bill u op k) = if k = 0 then x_me u else x_me u + 1 := by
  unfold f_X3_bill
  dsimp only
  by_cases c : k = 0
  · rw [if_pos c, if_pos c]; rfl
  · rw [if_neg c, if_neg c]; rfl
/-- the world behind an instruction that was done -/
theorem rel_bil {u : XS} {v : MS} (op : Int32) (h : Core u v) (hta : x_ta u = m_ta (bilM op v)) (hla : x_la u = m_la (bilM op v)) (hoo : x_oo u = m_oo (bilM op v)) (hme : x_me u = m_me v) : Rel u (bilM op v) := by
  obtain ⟨hg, hsp, hob, hol, hpl, hpc, htr, hmm, h0, h5, hj, hct, hnm, hcd⟩ := h
  exact ⟨hg, hsp, hta, hob, hol, hpl, hpc, hoo, hme, htr, hla, hmm, h0, h5, hj, hct, hnm, hcd⟩
theorem bil_ta (op : Int32) (v : MS) : m_ta (bilM op v) = vp_updL (m_ta v) op.toNatClampNeg ((m_ta v op.toNatClampNeg) + (1 : Int64)) := rfl
theorem bil_la (op : Int32) (v : MS) : m_la (bilM op v) = vp_updL (m_ta v) op.toNatClampNeg ((m_ta v op.toNatClampNeg) + (1 : Int64)) op.toNatClampNeg := rfl
theorem bil_oo (op : Int32) (v : MS) : m_oo (bilM op v) = m_oo v + billB op (if m_lt v = (0 : Int32) then (1 : Int64) else (3 : Int64)) := rfl
theorem rel_lt {u : XS} {v : MS} (h : Rel u v) : Rel u (sm_lt v 0) := ⟨h.g, h.sp, h.ta, h.ob, h.ol, h.pl, h.pc, h.oo, h.me, h.tr, h.la, h.mm, h.ol0, h.ol5, h.plj, h.ct, h.nm, h.cd⟩
theorem fin_way {u : XS} {v : MS} (h : Rel u v) {w : Int32} {y z : Int64} {M : Int32 × MS} (hw : Way v w y z M) : (doF u w y z).1 = (stepF (f_X3_opOf w) M).1 ∧ Rel (doF u w y z).2 (stepF (f_X3_opOf w) M).2 := by
  rcases hw with ⟨h1, h2, h3⟩ | ⟨h1, h2, h3, h4⟩ | ⟨h1, h2, h3, h4, h5, h6, h7, h8, h9⟩
  · unfold doF stepF
    rw [if_pos h1, if_pos h2]
    refine ⟨h2.symm, ?_⟩
    rcases h3 with h3 | h3
    · show Rel u M.2
      rw [h3]; exact h
    · show Rel u M.2
      rw [h3]; exact rel_lt h
  · subst h4
    unfold doF stepF
    rw [if_neg h1, if_neg h2, if_neg h3, if_neg (show ¬ ((3 : Int32), v).1 = 2 from by show ¬ (3 : Int32) = 2; decide), if_pos rfl]
    exact ⟨rfl, h⟩
  · have n2 : ¬ M.1 = 2 := by
      rw [h3]
      split <;> decide
    have n3 : ¬ M.1 = 3 := by
      rw [h3]
      split <;> decide
    rw [doF_d h1 h2]
    unfold stepF
    rw [if_neg n2, if_neg n3]
    refine ⟨h3.symm, ?_⟩
    obtain ⟨k1, k2⟩ := h4 _ (c_bill (c_of h) (f_X3_opOf w) (lsW w))
    refine rel_bil _ k1 ?_ ?_ ?_ ?_
    · rw [pta_perform, bill_ta, bil_ta, h6, h.ta]
    · rw [pla_perform, bill_la, bil_la, h6, h.ta]
    · obtain ⟨n, hn, e⟩ := op_nI w
      have hb : m_lt M.2 = 0 ∨ (64 ≤ n ∧ n < 96) := by
        rcases h5 with h5 | ⟨n', e', a1, a2⟩
        · exact Or.inl h5
        · have : n = n' := nI_inj (by omega) (by omega) (e.symm.trans e')
          subst this
          exact Or.inr ⟨a1, a2⟩
      rw [k2, bill_oo, bil_oo, h8, h.oo, e, bill_eq hn _ hb, Int64.add_assoc]
    · rw [pme_perform, bill_me, h9, h.me]
theorem z_num {u : XS} {v : MS} (h : Core u v) (w : Int32) (hop : f_X3_opOf w < 224 ∨ f_X3_opOf w = 246 ∨ f_X3_opOf w = 247) : f_X3_operandZ u w = f_X4_number v (f_X3_opOf w) (f_X3_byteZ w) := by
  rcases hop with c | c | c
  · exact w_num h w c
  · unfold f_X3_operandZ f_X4_number
    dsimp only
    rw [c, if_neg (show ¬ (246 : Int32) &&& 1 = 1 from by decide), if_neg (show ¬ (246 : Int32) &&& 1 = 1 from by decide), if_neg (show ¬ (246 : Int32) = 247 from by decide), if_pos rfl, h.1]
  · unfold f_X3_operandZ f_X4_number
    dsimp only
    rw [c, if_pos (show (247 : Int32) &&& 1 = 1 from by decide), if_pos (show (247 : Int32) &&& 1 = 1 from by decide), if_neg (show ¬ (247 : Int32) < 224 from by decide), if_pos (show (247 : Int32) = 247 from rfl), if_neg (show ¬ (1 : Int32) = 0 from by decide)]
theorem q_step {u : XS} {v : MS} (h : Rel u v) : (f_X3_doNext u).1 = (f_X4_step v).1 ∧ Rel (f_X3_doNext u).2 (f_X4_step v).2 := by
  rw [doNext_eq, step_eq, ← by_eq, ← h.pc]
  by_cases c : f_X3_isBeyond (x_pc u) = 0
  · rw [if_pos c, if_pos c]
    have e : f_X0_load u (x_pc u) (4 : Int32) = f_X4_m v (x_pc u) (4 : Int32) := load_eq (n := 4) h.mm c (Or.inr (Or.inr (Or.inl rfl)))
    rw [e]
    generalize (f_X4_m v (x_pc u) (4 : Int32)).toInt32 = w
    have hf := c_fet h w
    generalize f_X3_followFetch u w = u4 at *
    generalize fetM v w = v4 at *
    exact fin_way hf (stepZ_way (congrFun hf.g _) (fun hop => z_num (c_of hf) w hop) u4 (c_of hf))
  · rw [if_neg c, if_neg c]
    exact ⟨rfl, h⟩
