theorem ct_add {u : MS} {j : Nat} (a b : Int32) (h : m_ct u = nI j) : m_ct (f_X4_add u a b) = nI (j + 1) := by
  show m_ct u + 1 = nI (j + 1)
  rw [h, nI_1]
def ctB (u : MS) : Prop := ∃ j : Nat, j + 2 ≤ 400 ∧ m_ct u = nI j
theorem ct_in {u : MS} {j : Nat} (h : m_ct u = nI j) (hj : j < 400) : vp_in (m_ct u) 400 := by rw [h]; exact vp_in_nI hj (by decide)
theorem ctB1 {u : MS} (h : ctB u) : vp_in (m_ct u) 400 := by
  obtain ⟨j, hj, e⟩ := h
  exact ct_in e (by omega)
theorem ctB2 {u : MS} (a b : Int32) (h : ctB u) : vp_in (m_ct (f_X4_add u a b)) 400 := by
  obtain ⟨j, hj, e⟩ := h
  exact ct_in (ct_add a b e) (by omega)
