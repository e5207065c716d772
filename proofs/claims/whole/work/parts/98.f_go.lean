/-! go at both -/
theorem go_eqX (q1 q2 : Int32) (n : Nat) (k : Int32) (u : XS) (F : Int32 × XS) (e : f_X3_doNext u = F) : lf_X3_go_37 q1 q2 (n + 1) k u = if q2 ≤ k then (0, 0, u) else if F.1 = 0 then lf_X3_go_37 q1 q2 n (k + 1) F.2 else (0, F.1, F.2) := by
  subst e
  conv => lhs; unfold lf_X3_go_37
theorem go_eqM (q1 q2 : Int32) (n : Nat) (k : Int32) (v : MS) (M : Int32 × MS) (e : f_X4_step v = M) : lf_X4_go_41 q1 q2 (n + 1) 0 k v = if q2 ≤ k then (0, k, v) else lf_X4_go_41 q1 q2 n M.1 (k + 1) M.2 := by
  subst e
  conv => lhs; unfold lf_X4_go_41
  by_cases c : q2 ≤ k
  · rw [if_pos c, if_pos c]
  · rw [if_neg c, if_neg c, if_pos rfl]
theorem go_endM (q1 q2 : Int32) (n : Nat) (k r : Int32) (v : MS) (c : ¬ r = 0) : lf_X4_go_41 q1 q2 n r k v = (r, k, v) := by
  cases n with
  | zero => unfold lf_X4_go_41; rfl
  | succ n =>
    unfold lf_X4_go_41
    by_cases c3 : q2 ≤ k
    · rw [if_pos c3]
    · rw [if_neg c3, if_neg c]
theorem go_0X (q1 q2 k : Int32) (u : XS) : lf_X3_go_37 q1 q2 0 k u = (0, 0, u) := by unfold lf_X3_go_37; rfl
theorem go_0M (q1 q2 r k : Int32) (v : MS) : lf_X4_go_41 q1 q2 0 r k v = (r, k, v) := by unfold lf_X4_go_41; rfl
theorem go_loop (q1 q2 : Int32) (n : Nat) : ∀ (k : Int32) (u : XS) (v : MS), Rel u v → (lf_X3_go_37 q1 q2 n k u).2.1 = (lf_X4_go_41 q1 q2 n 0 k v).1 ∧ Rel (lf_X3_go_37 q1 q2 n k u).2.2 (lf_X4_go_41 q1 q2 n 0 k v).2.2 ∧ m_th (lf_X4_go_41 q1 q2 n 0 k v).2.2 = m_th v := by
  induction n with
  | zero =>
    intro k u v h
    rw [go_0X, go_0M]
    exact ⟨rfl, h, rfl⟩
  | succ n ih =>
    intro k u v h
    obtain ⟨F, eF⟩ : ∃ F, f_X3_doNext u = F := ⟨_, rfl⟩
    obtain ⟨M, eM⟩ : ∃ M, f_X4_step v = M := ⟨_, rfl⟩
    have s := q_step h
    have s3 := th_X4_step v
    rw [eF, eM] at s
    rw [eM] at s3
    rw [go_eqX q1 q2 n k u F eF, go_eqM q1 q2 n k v M eM]
    clear eF eM
    by_cases c : q2 ≤ k
    · rw [if_pos c, if_pos c]
      exact ⟨rfl, h, rfl⟩
    · rw [if_neg c, if_neg c]
      obtain ⟨s1, s2⟩ := s
      by_cases c2 : M.1 = 0
      · rw [if_pos (s1.trans c2), c2]
        obtain ⟨g1, g2, g3⟩ := ih (k + 1) F.2 M.2 s2
        exact ⟨g1, g2, g3.trans s3⟩
      · rw [if_neg (fun h => c2 (s1.symm.trans h)), go_endM q1 q2 n (k + 1) M.1 M.2 c2]
        exact ⟨s1, s2, s3⟩
theorem rel_pc {u : XS} {v : MS} (h : Rel u v) (q : Int64) : Rel (sx_pc u q) (sm_pc v q) := ⟨h.g, h.sp, h.ta, h.ob, h.ol, h.pl, rfl, h.oo, h.me, h.tr, h.la, h.mm, h.ol0, h.ol5, h.plj, h.ct, h.nm, h.cd⟩
theorem ag_loop {F : Int32 × Int32 × XS} {M : Int32 × Int32 × MS} (h1 : F.2.1 = M.1) (h2 : Rel F.2.2 M.2.2) (h3 : m_th M.2.2 = 0) (h0 : F.1 = 0) : Ag (rLi F) (mLi (M.1, M.2.2)) := by
  refine ⟨?_, fun _ => ?_, h2⟩
  · show m_th M.2.2 = if F.1 = 0 then 0 else 1
    rw [if_pos h0]; exact h3
  · show F.2.1.toInt64 = M.1.toInt64
    rw [h1]
theorem q_go {u : XS} {v : MS} (h : Rel u v) (p0 p1 : Int32) : Ag (rLi (f_X3_go u p0 p1)) (mLi (f_X4_go v p0 p1)) := by
  unfold f_X3_go f_X4_go f_X4_fail
  by_cases c1 : p1 < 1
  · rw [if_pos c1, if_pos c1]; exact Ag.no (k := 3) (by decide) rfl (h.th _)
  · rw [if_neg c1, if_neg c1]
    by_cases c2 : p1 ≤ 1000
    · rw [if_pos c2, if_pos c2]
      dsimp only
      have hr : Rel (if p0 < 0 then u else sx_pc u (p0 &&& (-4 : Int32)).toInt64) (if p0 < 0 then sm_th v 0 else sm_pc (sm_th v 0) (p0 &&& (-4 : Int32)).toInt64) ∧ m_th (if p0 < 0 then sm_th v 0 else sm_pc (sm_th v 0) (p0 &&& (-4 : Int32)).toInt64) = 0 := by
        by_cases c3 : p0 < 0
        · rw [if_pos c3, if_pos c3]; exact ⟨h.th _, rfl⟩
        · rw [if_neg c3, if_neg c3]; exact ⟨rel_pc (h.th _) _, rfl⟩
      generalize (if p0 < 0 then u else sx_pc u (p0 &&& (-4 : Int32)).toInt64) = u1 at *
      generalize (if p0 < 0 then sm_th v 0 else sm_pc (sm_th v 0) (p0 &&& (-4 : Int32)).toInt64) = v1 at *
      obtain ⟨g1, g2, g3⟩ := go_loop p0 p1 (p1.toNatClampNeg + 1) 0 u1 v1 hr.1
      exact ag_loop g1 g2 (g3.trans hr.2) (k_loop _ _ _ _ _)
    · rw [if_neg c2, if_neg c2]; exact Ag.no (k := 3) (by decide) rfl (h.th _)
