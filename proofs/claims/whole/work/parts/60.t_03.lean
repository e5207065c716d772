theorem ct_pair {u : MS} {j : Nat} (a b c : Int32) (h : m_ct u = nI j) : m_ct (f_X4_pair u a b c) = nI (j + 2) := ct_add _ _ (ct_add _ _ h)
