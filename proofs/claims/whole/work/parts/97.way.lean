/-! one instruction: what the reference's way answers, the class beside it -/
abbrev lsW (w : Int32) : Int32 := f_X3_isLoadOrStore (f_X3_opOf w)
/-- legal and within the memory: both do it -/
abbrev WayD (v : MS) (w : Int32) (y z : Int64) (M : Int32 × MS) : Prop := ¬ f_X3_isLegal w = 0 ∧ (lsW w = 0 ∨ f_X3_isBeyond (y + z) = 0) ∧ M.1 = (if w = 0 then 1 else 0) ∧ (∀ u : XS, Core u v → Core (f_X3_perform u w y z) M.2 ∧ x_oo (f_X3_perform u w y z) = x_oo u + (if m_lt M.2 = 0 then 0 else 2)) ∧ (m_lt M.2 = 0 ∨ ∃ n : Nat, f_X3_opOf w = nI n ∧ 64 ≤ n ∧ n < 96) ∧ m_ta M.2 = m_ta v ∧ m_la M.2 = m_la v ∧ m_oo M.2 = m_oo v ∧ m_me M.2 = (if lsW w = 0 then m_me v else m_me v + 1)
abbrev Way (v : MS) (w : Int32) (y z : Int64) (M : Int32 × MS) : Prop := (f_X3_isLegal w = 0 ∧ M.1 = 2 ∧ (M.2 = v ∨ M.2 = sm_lt v 0)) ∨ (¬ f_X3_isLegal w = 0 ∧ ¬ lsW w = 0 ∧ ¬ f_X3_isBeyond (y + z) = 0 ∧ M = (3, v)) ∨ WayD v w y z M
theorem op_ne {w : Int32} {n : Nat} (e : f_X3_opOf w = nI n) (hn : n < 256) (h0 : ¬ n = 0) : ¬ w = 0 := by
  intro h
  subst h
  have e2 : nI n = nI 0 := e.symm
  exact h0 (nI_inj (by omega) (by decide) e2)
theorem ls_0 {w : Int32} {n : Nat} (hn : n < 256) (e : f_X3_opOf w = nI n) (h : n < 128 ∨ 192 ≤ n ∨ n = 158 ∨ n = 159) : lsW w = 0 := by
  show f_X3_isLoadOrStore (f_X3_opOf w) = 0
  rw [e, ls_eq n hn, if_neg (by omega)]
theorem ls_1 {w : Int32} {n : Nat} (e : f_X3_opOf w = nI n) (h1 : 128 ≤ n) (h2 : n < 192) (h3 : ¬ n = 158) (h4 : ¬ n = 159) : lsW w = 1 := by
  show f_X3_isLoadOrStore (f_X3_opOf w) = 1
  rw [e, ls_eq n (by omega), if_pos ⟨h1, h2, h3, h4⟩]
theorem lg_1 {w : Int32} {n : Nat} (hn : n < 256) (e : f_X3_opOf w = nI n) (h0 : ¬ n = 0) (h1 : ¬ n = 246) (h2 : ¬ n = 247) (h3 : ¬ n = 254) (h : lgT n) : ¬ f_X3_isLegal w = 0 := by
  rw [lg_eq w hn e, if_neg h0, if_neg (by omega), if_neg h3, if_pos h]
  decide
theorem lg_0 {w : Int32} {n : Nat} (hn : n < 256) (e : f_X3_opOf w = nI n) (h0 : ¬ n = 0) (h1 : ¬ n = 246) (h2 : ¬ n = 247) (h3 : ¬ n = 254) (h : ¬ lgT n) : f_X3_isLegal w = 0 := by
  rw [lg_eq w hn e, if_neg h0, if_neg (by omega), if_neg h3, if_neg h]
/-- on to the next, without memory -/
theorem Way.grp {v : MS} {w : Int32} {y z : Int64} {M : Int32 × MS} {n : Nat} (hn : n < 256) (e : f_X3_opOf w = nI n) (h0 : ¬ n = 0) (hb : n < 64 ∨ 96 ≤ n) (hl : ¬ f_X3_isLegal w = 0) (hs : lsW w = 0) (h : ∀ u : XS, Core u v → Grp (f_X3_perform u w y z) v M) (u0 : XS) (hu0 : Core u0 v) : Way v w y z M := by
  obtain ⟨g1, -, g3, g4, g5, g6, g7⟩ := h u0 hu0
  refine Or.inr (Or.inr ⟨hl, Or.inl hs, ?_, ?_, Or.inl g3, g4, g5, g6, ?_⟩)
  · rw [if_neg (op_ne e hn h0)]; exact g1
  · intro u hu
    refine ⟨(h u hu).2.1, ?_⟩
    rw [if_pos g3, oo_pf u hn e hb, Int64.add_zero]
  · rw [if_pos hs]; exact g7
/-- on to the next, with memory -/
theorem Way.grpm {v : MS} {w : Int32} {y z : Int64} {M : Int32 × MS} {n : Nat} (hn : n < 256) (e : f_X3_opOf w = nI n) (h0 : ¬ n = 0) (hb : n < 64 ∨ 96 ≤ n) (hl : ¬ f_X3_isLegal w = 0) (hs : lsW w = 1) (hy : f_X3_isBeyond (y + z) = 0) (h : ∀ u : XS, Core u v → Grp (f_X3_perform u w y z) (sm_me v (m_me v + 1)) M) (u0 : XS) (hu0 : Core u0 v) : Way v w y z M := by
  obtain ⟨g1, -, g3, g4, g5, g6, g7⟩ := h u0 hu0
  refine Or.inr (Or.inr ⟨hl, Or.inr hy, ?_, ?_, Or.inl g3, g4, g5, g6, ?_⟩)
  · rw [if_neg (op_ne e hn h0)]; exact g1
  · intro u hu
    refine ⟨(h u hu).2.1, ?_⟩
    rw [if_pos g3, oo_pf u hn e hb, Int64.add_zero]
  · rw [if_neg (by rw [hs]; decide)]; exact g7
theorem op0_N {w : Int32} (c : f_X3_opOf w = 0) : ∃ N : Nat, N < 16777216 ∧ w = nI N := by
  refine ⟨w.toBitVec.toNat, ?_, ?_⟩
  · have h := pk_ushr w 24 24 (by decide)
    have h2 : (f_X3_opOf w).toBitVec.toNat = w.toBitVec.toNat / 2 ^ 24 := h
    rw [c, show (0 : Int32).toBitVec.toNat = 0 from by decide] at h2
    omega
  · apply Int32.toBitVec_inj.mp
    apply BitVec.eq_of_toNat_eq
    rw [pk_tn w.toBitVec.isLt]
theorem bX_N {N : Nat} (h : N < 16777216) : f_X3_byteX (nI N) = nI (N / 65536 % 256) := by
  have e : jshr (nI N) 16 = nI (N / 2 ^ 16) := pk_shrN (by omega) _ 16 (by decide)
  unfold f_X3_byteX
  rw [e, pk_andN (by omega) 8 (by decide)]
theorem s8_N {N : Nat} (h : N < 16777216) : jshr (nI N) 8 = nI (N / 256) := pk_shrN (by omega) _ 8 (by decide)
theorem bY_N {N : Nat} (h : N < 16777216) : f_X3_byteY (nI N) = nI (N / 256 % 256) := by
  unfold f_X3_byteY
  rw [s8_N h, pk_andN (by omega) 8 (by decide)]
theorem bZ_N {N : Nat} (h : N < 16777216) : f_X3_byteZ (nI N) = nI (N % 256) := by
  unfold f_X3_byteZ
  rw [pk_andN (by omega) 8 (by decide)]
theorem nI_iff {a b : Nat} (ha : a < 2 ^ 31) (hb : b < 2 ^ 31) : nI a = nI b ↔ a = b := ⟨nI_inj ha hb, fun h => by rw [h]⟩
/-- the reference's output -/
theorem w_out {u : XS} {v : MS} (h : Core u v) {w : Int32} (hw : ¬ w = 0) (here : Int64) : Core (f_X3_trap (pc4 u) w here) (sm_pc (if (500 : Int32) ≤ (m_on (sm_lt v 0)) then sm_lt v 0 else sm_on (sm_ou (sm_lt v 0) (upd (m_ou (sm_lt v 0)) (m_on (sm_lt v 0)).toNatClampNeg (vp_nar .byte (((m_g (sm_lt v 0) (f_X3_byteZ w).toNatClampNeg).toInt32).toInt8.toInt32)))) ((m_on (sm_ou (sm_lt v 0) (upd (m_ou (sm_lt v 0)) (m_on (sm_lt v 0)).toNatClampNeg (vp_nar .byte (((m_g (sm_lt v 0) (f_X3_byteZ w).toNatClampNeg).toInt32).toInt8.toInt32))))) + (1 : Int32))) (m_pc v + 4)) := by
  obtain ⟨hg, hsp, hob, hol, hpl, hpc, htr, hmm, h0, h5, hj, hct, hnm, hcd⟩ := h
  unfold f_X3_trap
  rw [if_neg hw]
  have e1 : x_ol (pc4 u) = m_on (sm_lt v 0) := hol
  have hp : x_pc (pc4 u) = m_pc v + 4 := by show x_pc u + 4 = _; rw [hpc]
  rw [e1]
  by_cases c : (500 : Int32) ≤ m_on (sm_lt v 0)
  · rw [if_pos c, if_pos c]
    exact ⟨hg, hsp, hob, hol, hpl, hp, htr, hmm, h0, h5, hj, hct, hnm, hcd⟩
  · rw [if_neg c, if_neg c]
    have c' : ¬ (500 : Int32) ≤ x_ol u := by rw [hol]; exact c
    rw [Int32.le_iff_toInt_le] at c'
    have e5 : (500 : Int32).toInt = 500 := by decide
    have e0 : (0 : Int32).toInt = 0 := by decide
    have h0' : 0 ≤ (x_ol u).toInt := by have := Int32.le_iff_toInt_le.mp h0; omega
    have ei : (x_ol u + 1).toInt = (x_ol u).toInt + 1 := by
      rw [i32_add (by rw [show (1 : Int32).toInt = 1 from by decide]; omega) (by rw [show (1 : Int32).toInt = 1 from by decide]; omega), show (1 : Int32).toInt = 1 from by decide]
    refine ⟨hg, hsp, ?_, ?_, hpl, hp, htr, hmm, ?_, ?_, hj, hct, hnm, hcd⟩
    · show upd (x_ob u) (m_on v).toNatClampNeg (vp_nar .byte (((x_g u (f_X3_byteZ w).toNatClampNeg).toInt32).toInt8.toInt32)) = upd (m_ou v) (m_on v).toNatClampNeg (vp_nar .byte (((m_g v (f_X3_byteZ w).toNatClampNeg).toInt32).toInt8.toInt32))
      rw [hob, hg]
    · show x_ol u + 1 = m_on v + 1
      rw [hol]
    · show 0 ≤ x_ol u + 1
      rw [Int32.le_iff_toInt_le]
      omega
    · show x_ol u + 1 ≤ 500
      rw [Int32.le_iff_toInt_le]
      omega
theorem keep_out (v : MS) (k : Int32) (b : Nat → Int32) (q : Int64) : KeepM v (sm_pc (if (500 : Int32) ≤ (m_on (sm_lt v 0)) then sm_lt v 0 else sm_on (sm_ou (sm_lt v 0) b) k) q) ∧ m_lt (sm_pc (if (500 : Int32) ≤ (m_on (sm_lt v 0)) then sm_lt v 0 else sm_on (sm_ou (sm_lt v 0) b) k) q) = 0 := by
  by_cases c : (500 : Int32) ≤ m_on (sm_lt v 0)
  · rw [if_pos c]; exact ⟨⟨rfl, rfl, rfl, rfl⟩, rfl⟩
  · rw [if_neg c]; exact ⟨⟨rfl, rfl, rfl, rfl⟩, rfl⟩
theorem pc_out (v : MS) (k : Int32) (b : Nat → Int32) : m_pc (if (500 : Int32) ≤ (m_on (sm_lt v 0)) then sm_lt v 0 else sm_on (sm_ou (sm_lt v 0) b) k) = m_pc v := by
  by_cases c : (500 : Int32) ≤ m_on (sm_lt v 0)
  · rw [if_pos c]; rfl
  · rw [if_neg c]; rfl
theorem way_trap {v : MS} {w : Int32} (c : f_X3_opOf w = 0) (y z : Int64) : Way v w y z (f_X4_low v (f_X3_opOf w) (f_X3_byteX w) (f_X3_byteY w) (f_X3_byteZ w)) := by
  have e0 : f_X3_opOf w = nI 0 := c
  have hls : lsW w = 0 := ls_0 (by decide) e0 (Or.inl (by decide))
  have hlg := lg_eq w (by decide) e0
  rw [if_pos rfl] at hlg
  have cj : jshr (f_X3_opOf w) 4 = 0 := by rw [c]; decide
  obtain ⟨N, hN, rfl⟩ := op0_N c
  rw [s8_N hN] at hlg
  rw [c, low_tr, bX_N hN, bY_N hN]
  unfold f_X4_trap
  dsimp only
  have x0 : nI (N / 65536 % 256) = 0 ↔ N / 65536 = 0 := by
    rw [show (0 : Int32) = nI 0 from rfl, nI_iff (by omega) (by decide)]; omega
  have y0 : nI (N / 256 % 256) = 0 ↔ N / 256 % 256 = 0 := by
    rw [show (0 : Int32) = nI 0 from rfl, nI_iff (by omega) (by decide)]
  have y1 : nI (N / 256 % 256) = 1 ↔ N / 256 % 256 = 1 := by
    rw [show (1 : Int32) = nI 1 from rfl, nI_iff (by omega) (by decide)]
  have z0 : f_X3_byteZ (nI N) = 0 ↔ N % 256 = 0 := by
    rw [bZ_N hN, show (0 : Int32) = nI 0 from rfl, nI_iff (by omega) (by decide)]
  have w0 : nI N = 0 ↔ N = 0 := by
    rw [show (0 : Int32) = nI 0 from rfl, nI_iff (by omega) (by decide)]
  have s1 : nI (N / 256) = 1 ↔ N / 256 = 1 := by
    rw [show (1 : Int32) = nI 1 from rfl, nI_iff (by omega) (by decide)]
  by_cases hw : N = 0
  · rw [if_pos (w0.mpr hw)] at hlg
    rw [if_pos (x0.mpr (by omega)), if_pos (y0.mpr (by omega)), if_pos (z0.mpr (by omega))]
    refine Or.inr (Or.inr ⟨by rw [hlg]; decide, Or.inl hls, by rw [if_pos (w0.mpr hw)], fun u hu => ⟨?_, ?_⟩, Or.inl rfl, rfl, rfl, rfl, by rw [if_pos hls]; rfl⟩)
    · rw [pf_0 cj]
      unfold f_X3_trap
      rw [if_pos (w0.mpr hw)]
      obtain ⟨hg, hsp, hob, hol, hpl, hpc, htr, hmm, h0, h5, hj, hct, hnm, hcd⟩ := hu
      exact ⟨hg, hsp, hob, hol, hpl, hpc, htr, hmm, h0, h5, hj, hct, hnm, hcd⟩
    · rw [oo_pf_0 u cj]
      show x_oo u = x_oo u + 0
      rw [Int64.add_zero]
  · rw [if_neg (fun h => hw (w0.mp h))] at hlg
    by_cases h1 : N / 256 = 1
    · rw [if_pos (s1.mpr h1)] at hlg
      rw [if_pos (x0.mpr (by omega)), if_neg (fun h => by have := y0.mp h; omega), if_pos (x0.mpr (by omega)), if_pos (y1.mpr (by omega))]
      obtain ⟨⟨k1, k2, k3, k4⟩, k5⟩ := keep_out v (m_on (sm_ou (sm_lt v 0) (upd (m_ou (sm_lt v 0)) (m_on (sm_lt v 0)).toNatClampNeg (vp_nar .byte (((m_g (sm_lt v 0) (f_X3_byteZ (nI N)).toNatClampNeg).toInt32).toInt8.toInt32)))) + 1) (upd (m_ou (sm_lt v 0)) (m_on (sm_lt v 0)).toNatClampNeg (vp_nar .byte (((m_g (sm_lt v 0) (f_X3_byteZ (nI N)).toNatClampNeg).toInt32).toInt8.toInt32))) (m_pc v + 4)
      rw [pc_out]
      refine Or.inr (Or.inr ⟨by rw [hlg]; decide, Or.inl hls, by rw [if_neg (fun h => hw (w0.mp h))], fun u hu => ⟨?_, ?_⟩, Or.inl k5, k1, k2, k3, by rw [if_pos hls]; exact k4⟩)
      · rw [pf_0 cj]
        exact w_out hu (fun h => hw (w0.mp h)) _
      · rw [oo_pf_0 u cj, if_pos k5, Int64.add_zero]
    · rw [if_neg (fun h => h1 (s1.mp h))] at hlg
      refine Or.inl ⟨hlg, ?_⟩
      by_cases hx : N / 65536 = 0
      · rw [if_pos (x0.mpr hx)]
        by_cases hy : N / 256 % 256 = 0
        · rw [if_pos (y0.mpr hy), if_neg (fun h => by have := z0.mp h; omega), if_pos (x0.mpr hx), if_neg (fun h => by have := y1.mp h; omega)]
          exact ⟨rfl, Or.inr rfl⟩
        · rw [if_neg (fun h => hy (y0.mp h)), if_pos (x0.mpr hx), if_neg (fun h => by have := y1.mp h; omega)]
          exact ⟨rfl, Or.inr rfl⟩
      · rw [if_neg (fun h => hx (x0.mp h)), if_neg (fun h => hx (x0.mp h))]
        exact ⟨rfl, Or.inr rfl⟩
theorem tab_ill : ∀ n : Nat, n < 24 → ¬ n = 0 → ¬ nI n = 0 ∧ ¬ (24 : Int32) ≤ nI n := by decide +kernel
theorem way_low {v : MS} {w : Int32} {n : Nat} (e : f_X3_opOf w = nI n) (h64 : n < 64) (u0 : XS) (hu0 : Core u0 v) : Way v w (m_g v (f_X3_byteY w).toNatClampNeg) (f_X4_number v (f_X3_opOf w) (f_X3_byteZ w)) (f_X4_low v (f_X3_opOf w) (f_X3_byteX w) (f_X3_byteY w) (f_X3_byteZ w)) := by
  by_cases h0 : n = 0
  · subst h0
    exact way_trap e _ _
  · by_cases h1 : n < 24
    · obtain ⟨t1, t2⟩ := tab_ill n h1 h0
      rw [← e] at t1 t2
      rw [low_ill t1 t2]
      exact Or.inl ⟨lg_0 (by omega) e h0 (by omega) (by omega) (by omega) (by unfold lgT; omega), rfl, Or.inl rfl⟩
    · exact Way.grp (by omega) e h0 (Or.inl h64) (lg_1 (by omega) e h0 (by omega) (by omega) (by omega) (by unfold lgT; omega)) (ls_0 (by omega) e (by omega)) (fun u hu => w_low hu e (by omega) h64) u0 hu0
theorem tab_br : ∀ n : Nat, n < 96 → 64 ≤ n → jshr (nI n) 4 = 4 ∨ jshr (nI n) 4 = 5 := by decide +kernel
theorem way_branch {v : MS} {w : Int32} {n : Nat} (e : f_X3_opOf w = nI n) (h1 : 64 ≤ n) (h2 : n < 96) (y z : Int64) (u0 : XS) (hu0 : Core u0 v) : Way v w y z (f_X4_branch v (f_X3_opOf w) (f_X3_byteX w) (w &&& 65535)) := by
  have hls : lsW w = 0 := ls_0 (by omega) e (by omega)
  have hp : ∀ u : XS, f_X3_perform u w y z = f_X3_branch (pc4 u) w (x_pc u) := by
    intro u
    have t := tab_br n h2 h1
    rw [← e] at t
    rcases t with c | c
    · exact pf_4 c
    · exact pf_5 c
  obtain ⟨g1, -, -, g4, g5, g6, g7⟩ := w_branch hu0 w
  refine Or.inr (Or.inr ⟨lg_1 (by omega) e (by omega) (by omega) (by omega) (by omega) (by unfold lgT; omega), Or.inl hls, ?_, ?_, Or.inr ⟨n, e, h1, h2⟩, g4, g5, g6, ?_⟩)
  · rw [if_neg (op_ne e (by omega) (by omega))]; exact g1
  · intro u hu
    rw [hp u]
    obtain ⟨-, b2, b3, -⟩ := w_branch hu w
    exact ⟨b2, b3⟩
  · rw [if_pos hls]; exact g7
theorem tab_ch : ∀ n : Nat, n < 128 → 96 ≤ n → jshr (nI n) 4 = 6 ∨ jshr (nI n) 4 = 7 := by decide +kernel
theorem way_choose {v : MS} {w : Int32} {n : Nat} (e : f_X3_opOf w = nI n) (h1 : 96 ≤ n) (h2 : n < 128) (u0 : XS) (hu0 : Core u0 v) : Way v w (m_g v (f_X3_byteY w).toNatClampNeg) (f_X4_number v (f_X3_opOf w) (f_X3_byteZ w)) (f_X4_choose v (f_X3_opOf w) (f_X3_byteX w) (f_X3_byteY w) (f_X3_byteZ w)) := by
  refine Way.grp (by omega) e (by omega) (Or.inr h1) (lg_1 (by omega) e (by omega) (by omega) (by omega) (by omega) (by unfold lgT; omega)) (ls_0 (by omega) e (by omega)) (fun u hu => ?_) u0 hu0
  have t := tab_ch n h2 h1
  rw [← e] at t
  rcases t with c | c
  · rw [pf_6 c]
    exact w_choose hu w _ _ rfl rfl
  · rw [pf_7 c]
    exact w_choose hu w _ _ rfl rfl
