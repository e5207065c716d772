theorem ct_bitNames {u : MS} (h : m_ct u = nI 218) : m_ct (f_X4_bitNames u) = nI 250 := by
  unfold f_X4_bitNames
  exact (ct_pair _ _ _ (ct_pair _ _ _ (ct_pair _ _ _ (ct_pair _ _ _ (ct_pair _ _ _ (ct_pair _ _ _ (ct_pair _ _ _ (ct_pair _ _ _ (ct_pair _ _ _ (ct_pair _ _ _ (ct_pair _ _ _ (ct_pair _ _ _ (ct_pair _ _ _ (ct_pair _ _ _ (ct_pair _ _ _ (ct_pair _ _ _ h))))))))))))))))
