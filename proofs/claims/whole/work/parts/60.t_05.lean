theorem ct_numbers {u : MS} (h : m_ct u = nI 0) : m_ct (f_X4_numbers u) = nI 40 := by
  unfold f_X4_numbers
  exact (ct_pair _ _ _ (ct_pair _ _ _ (ct_pair _ _ _ (ct_pair _ _ _ (ct_pair _ _ _ (ct_pair _ _ _ (ct_pair _ _ _ (ct_pair _ _ _ (ct_pair _ _ _ (ct_pair _ _ _ (ct_pair _ _ _ (ct_pair _ _ _ (ct_pair _ _ _ (ct_pair _ _ _ (ct_pair _ _ _ (ct_pair _ _ _ (ct_pair _ _ _ (ct_pair _ _ _ (ct_pair _ _ _ (ct_pair _ _ _ h))))))))))))))))))))
