/-- a number and a state, side by side -/
abbrev PR (F : Int64 × XS) (v : MS) (M : Int64 × MS) : Prop := F.1 = M.1 ∧ Core4 F.2 M.2 ∧ KeepM v M.2
theorem PR.pure {u : XS} {v : MS} (h : Core4 u v) {a b : Int64} (hab : a = b) : PR (a, u) v (b, v) := ⟨hab, h, rfl, rfl, rfl, rfl⟩
theorem PR.over {u : XS} {v : MS} (h : Core4 u v) {a b : Int64} (hab : a = b) {j k : Int32} (hjk : j = k) : PR (a, f_X3_raise u 64 j) v (b, f_X4_over v k) := by
  subst hab hjk
  exact ⟨rfl, w_raise h j⟩
theorem g_l24 {u : XS} {v : MS} (h : Core4 u v) {op : Int32} (c : op &&& 254 = 24) (y z : Int64) : PR (f_X3_productOrQuotient u op y z) v (y * z, f_X4_over v (if f_X4_upper y z = jlshr (y * z) 63 then 0 else 1)) := by
  unfold f_X3_productOrQuotient
  rw [if_pos c]
  exact PR.over h rfl (by rw [hs_eq])
theorem g_l26 {u : XS} {v : MS} (h : Core4 u v) {op : Int32} (c : op &&& 254 = 26) (y z : Int64) : PR (f_X3_productOrQuotient u op y z) v (y * z, sm_sp v (vp_updL (m_sp v) (3 : Int32).toNatClampNeg ((f_X4_upper y z + ((jlshr y 63) &&& z)) + ((jlshr z 63) &&& y)))) := by
  unfold f_X3_productOrQuotient
  rw [if_neg (by rw [c]; decide), if_pos c]
  exact ⟨rfl, w_sp4 h (by rw [h.2.1, hi_eq]), rfl, rfl, rfl, rfl⟩
theorem g_l28 {u : XS} {v : MS} (h : Core4 u v) {op : Int32} (c : op &&& 254 = 28) (y z : Int64) : PR (f_X3_productOrQuotient u op y z) v ((f_X4_quotient v y z).1, (f_X4_quotient v y z).2) := by
  unfold f_X3_productOrQuotient
  rw [if_neg (by rw [c]; decide), if_neg (by rw [c]; decide), if_pos c]
  exact w_quot h y z
theorem poq_30 {u : XS} {op : Int32} (c : op &&& 254 = 30) (y z : Int64) (F : Int64 × XS) (eF : f_X3_longQuotient u (x_sp u (1 : Int32).toNatClampNeg) y z = F) : f_X3_productOrQuotient u op y z = F := by
  unfold f_X3_productOrQuotient
  rw [if_neg (by rw [c]; decide), if_neg (by rw [c]; decide), if_neg (by rw [c]; decide), eF]
theorem g_l30 {u : XS} {v : MS} (h : Core4 u v) {op : Int32} (c : op &&& 254 = 30) (y z : Int64) : PR (f_X3_productOrQuotient u op y z) v ((f_X4_quotientOf v y z).1, (f_X4_quotientOf v y z).2) := by
  have hq := w_lq h y z
  obtain ⟨F, eF⟩ : ∃ F, f_X3_longQuotient u (x_sp u (1 : Int32).toNatClampNeg) y z = F := ⟨_, rfl⟩
  obtain ⟨M, eM⟩ : ∃ M, f_X4_quotientOf v y z = M := ⟨_, rfl⟩
  rw [poq_30 c y z F eF, eM]
  rw [eF, eM] at hq
  exact hq
theorem xor_c (a b : Int64) : a ^^^ b = b ^^^ a := Int64.xor_comm a b
theorem g_lsum {u : XS} {v : MS} (h : Core4 u v) (y z : Int64) : PR (f_X3_checkedSum u y z) v (y + z, f_X4_over v (if (0 : Int64) ≤ ((y ^^^ (y + z)) &&& (z ^^^ (y + z))) then 0 else 1)) := by
  unfold f_X3_checkedSum
  exact PR.over h rfl (by rw [xor_c (y + z) y, xor_c (y + z) z])
theorem g_ldif {u : XS} {v : MS} (h : Core4 u v) (y z : Int64) : PR (f_X3_checkedDifference u y z) v (y - z, f_X4_over v (if (0 : Int64) ≤ ((y ^^^ z) &&& (y ^^^ (y - z))) then 0 else 1)) := by
  unfold f_X3_checkedDifference
  exact PR.over h rfl rfl
