/-! the law's cases -/
theorem wl_c54 : Cond.constantLong RL 54 (4294967295) ∈ wsL_law := by decide +kernel
theorem put_pre {u : XS} {v : MS} (h : Rel u v) : m_ct v = 316 ∧ ∃ j : Nat, j ≤ 4096 ∧ m_pl v = nI (4 * j) := by
  refine ⟨by rw [h.ct]; decide +kernel, ?_⟩
  rw [← h.pl]
  exact h.plj
theorem fin_two {A : Int64} {u u1 : XS} {v1 : MS} {M : Int64 × MS} {r1 r2 : Int64} (h : A = M.1 ∧ Rel u M.2) (e1 : (r1, u1) = (A, u)) (e2 : (r2, v1) = M) : r1 = r2 ∧ Rel u1 v1 := by
  subst e2
  obtain ⟨rfl, rfl⟩ := Prod.mk.inj e1
  exact h
