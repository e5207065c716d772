theorem mgo_next {n : Nat} {p w : Int32} (h1 : ¬ p < 1) (h2 : p ≤ 1000) (hI : w = nI (p.toNatClampNeg + 1 - (n + 1)) ∧ 0 < n + 1 ∧ n + 1 ≤ p.toNatClampNeg + 1) (c : ¬ p ≤ w) : w + 1 = nI (p.toNatClampNeg + 1 - n) ∧ 0 < n ∧ n ≤ p.toNatClampNeg + 1 := go_next h1 h2 hI c
theorem pl_in {u : MS} (h : ∃ j : Nat, j ≤ 4096 ∧ m_pl u = nI (4 * j)) (c : m_pl u ≤ 16383) : vp_in (m_pl u) 16384 ∧ vp_in (m_pl u + 1) 16384 ∧ vp_in (m_pl u + 2) 16384 ∧ vp_in (m_pl u + 3) 16384 := by
  obtain ⟨j, hj, e⟩ := h
  rw [e] at c ⊢
  have h2 : 4 * j ≤ 16383 := (nI_leI (by omega) (by decide)).mp c
  have k : ∀ i : Nat, i < 4 → vp_in (nI (4 * j) + nI i) 16384 := fun i hi => by
    rw [nI_add]
    exact vp_in_nI (by omega) (by decide)
  exact ⟨vp_in_nI (by omega) (by decide), k 1 (by decide), k 2 (by decide), k 3 (by decide)⟩
