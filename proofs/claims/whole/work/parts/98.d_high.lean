/-! the reference's high -/
theorem grp_lt {u : XS} {v : MS} {M : Int32 × MS} (h : Grp u (sm_lt v 0) M) : Grp u v M := ⟨h.1, h.2.1, h.2.2.1, h.2.2.2.1, h.2.2.2.2.1, h.2.2.2.2.2.1, h.2.2.2.2.2.2⟩
theorem c_lt {u : XS} {v : MS} (h : Core u v) : Core u (sm_lt v 0) := h
theorem w_doneh {u : XS} {v : MS} (h : Core u v) (w : Int32) {a b : Int64} (hab : a = b) : Grp (f_X3_writeX (pc4 u) w a) v ((f_X4_done (sm_lt v 0) (f_X3_byteX w) b).1, (f_X4_done (sm_lt v 0) (f_X3_byteX w) b).2) := grp_lt (w_done (c_lt h) w hab)
theorem grp_jump {u : XS} {v : MS} (h : Core u v) {a b : Int64} (hab : a = b) : Grp (sx_pc (pc4 u) a) v (0, sm_pc (sm_lt v 0) b) := by
  subst hab
  obtain ⟨hg, hsp, hob, hol, hpl, hpc, htr, hmm, h0, h5, hj, hct, hnm, hcd⟩ := h
  exact ⟨rfl, ⟨hg, hsp, hob, hol, hpl, rfl, htr, hmm, h0, h5, hj, hct, hnm, hcd⟩, rfl, rfl, rfl, rfl, rfl⟩
theorem grp_swym {u : XS} {v : MS} (h : Core u v) : Grp (pc4 u) v (0, sm_pc (sm_lt v 0) (m_pc (sm_lt v 0) + 4)) := by
  obtain ⟨hg, hsp, hob, hol, hpl, hpc, htr, hmm, h0, h5, hj, hct, hnm, hcd⟩ := h
  exact ⟨rfl, ⟨hg, hsp, hob, hol, hpl, by show x_pc u + 4 = m_pc v + 4; rw [hpc], htr, hmm, h0, h5, hj, hct, hnm, hcd⟩, rfl, rfl, rfl, rfl, rfl⟩
theorem grp_put {u : XS} {v : MS} (h : Core u v) {s t : Nat → Int64} (hst : s = t) : Grp (sx_sp (pc4 u) s) v (0, sm_pc (sm_sp (sm_lt v 0) t) (m_pc (sm_sp (sm_lt v 0) t) + 4)) := by
  subst hst
  obtain ⟨hg, hsp, hob, hol, hpl, hpc, htr, hmm, h0, h5, hj, hct, hnm, hcd⟩ := h
  exact ⟨rfl, ⟨hg, rfl, hob, hol, hpl, by show x_pc u + 4 = m_pc v + 4; rw [hpc], htr, hmm, h0, h5, hj, hct, hnm, hcd⟩, rfl, rfl, rfl, rfl, rfl⟩
theorem tab_w1 : ∀ n : Nat, n < 240 → 224 ≤ n → jshr (nI n) 4 = 14 := by decide +kernel
theorem tab_w2 : ∀ n : Nat, n < 240 → 224 ≤ n → (jshr (nI n) 2) &&& 7 = nI (n / 4 % 4) := by decide +kernel
theorem tab_w3 : ∀ n : Nat, n < 240 → 224 ≤ n → (jshr (nI n) 2) &&& 3 = nI (n / 4 % 4) := by decide +kernel
abbrev wyd (w : Int32) : Int64 := jlshl ((w &&& (65535 : Int32)).toInt64) ((48 : Int32) - ((16 : Int32) * (f_X3_opOf w &&& (3 : Int32))))
theorem way_wyde {v : MS} {w : Int32} {n : Nat} (e : f_X3_opOf w = nI n) (h1 : 224 ≤ n) (h2 : n < 240) (y z : Int64) (Y Z : Int32) (u0 : XS) (hu0 : Core u0 v) : Way v w y z (f_X4_high v (f_X3_opOf w) (f_X3_byteX w) Y Z w) := by
  refine Way.grp (by omega) e (by omega) (Or.inr (by omega)) (lg_1 (by omega) e (by omega) (by omega) (by omega) (by omega) (by unfold lgT; omega)) (ls_0 (by omega) e (by omega)) (fun u hu => ?_) u0 hu0
  have t1 := tab_w1 n h2 h1
  have t2 := tab_w2 n h2 h1
  have t3 := tab_w3 n h2 h1
  rw [← e] at t1 t2 t3
  rw [pf_14 t1]
  have hx : x_g (pc4 u) (f_X3_byteX w).toNatClampNeg = m_g (sm_lt v 0) (f_X3_byteX w).toNatClampNeg := congrFun hu.1 _
  have hq : n / 4 % 4 = 0 ∨ n / 4 % 4 = 1 ∨ n / 4 % 4 = 2 ∨ n / 4 % 4 = 3 := by omega
  rcases hq with q | q | q | q
  · rw [q] at t2 t3
    have t2 : (jshr (f_X3_opOf w) 2) &&& 7 = 0 := t2
    have t3 : (jshr (f_X3_opOf w) 2) &&& 3 = 0 := t3
    have e1 : f_X3_withWyde (pc4 u) w = wyd w := by
      unfold f_X3_withWyde
      dsimp only
      rw [if_pos t3]
      rfl
    have e2 : f_X4_high v (f_X3_opOf w) (f_X3_byteX w) Y Z w = ((f_X4_done (sm_lt v 0) (f_X3_byteX w) (wyd w)).1, (f_X4_done (sm_lt v 0) (f_X3_byteX w) (wyd w)).2) := by
      unfold f_X4_high
      dsimp only
      rw [if_pos t2]
    rw [e1, e2]
    exact w_doneh hu w rfl
  · rw [q] at t2 t3
    have t2 : (jshr (f_X3_opOf w) 2) &&& 7 = 1 := t2
    have t3 : (jshr (f_X3_opOf w) 2) &&& 3 = 1 := t3
    have e1 : f_X3_withWyde (pc4 u) w = x_g (pc4 u) (f_X3_byteX w).toNatClampNeg + wyd w := by
      unfold f_X3_withWyde
      dsimp only
      rw [if_neg (by rw [t3]; decide), if_pos t3]
      rfl
    have e2 : f_X4_high v (f_X3_opOf w) (f_X3_byteX w) Y Z w = ((f_X4_done (sm_lt v 0) (f_X3_byteX w) (m_g (sm_lt v 0) (f_X3_byteX w).toNatClampNeg + wyd w)).1, (f_X4_done (sm_lt v 0) (f_X3_byteX w) (m_g (sm_lt v 0) (f_X3_byteX w).toNatClampNeg + wyd w)).2) := by
      unfold f_X4_high
      dsimp only
      rw [if_neg (by rw [t2]; decide), if_pos t2]
    rw [e1, e2, hx]
    exact w_doneh hu w rfl
  · rw [q] at t2 t3
    have t2 : (jshr (f_X3_opOf w) 2) &&& 7 = 2 := t2
    have t3 : (jshr (f_X3_opOf w) 2) &&& 3 = 2 := t3
    have e1 : f_X3_withWyde (pc4 u) w = x_g (pc4 u) (f_X3_byteX w).toNatClampNeg ||| wyd w := by
      unfold f_X3_withWyde
      dsimp only
      rw [if_neg (by rw [t3]; decide), if_neg (by rw [t3]; decide), if_pos t3]
      rfl
    have e2 : f_X4_high v (f_X3_opOf w) (f_X3_byteX w) Y Z w = ((f_X4_done (sm_lt v 0) (f_X3_byteX w) (m_g (sm_lt v 0) (f_X3_byteX w).toNatClampNeg ||| wyd w)).1, (f_X4_done (sm_lt v 0) (f_X3_byteX w) (m_g (sm_lt v 0) (f_X3_byteX w).toNatClampNeg ||| wyd w)).2) := by
      unfold f_X4_high
      dsimp only
      rw [if_neg (by rw [t2]; decide), if_neg (by rw [t2]; decide), if_pos t2]
    rw [e1, e2, hx]
    exact w_doneh hu w rfl
  · rw [q] at t2 t3
    have t2 : (jshr (f_X3_opOf w) 2) &&& 7 = 3 := t2
    have t3 : (jshr (f_X3_opOf w) 2) &&& 3 = 3 := t3
    have e1 : f_X3_withWyde (pc4 u) w = x_g (pc4 u) (f_X3_byteX w).toNatClampNeg &&& (wyd w ^^^ (-1 : Int64)) := by
      unfold f_X3_withWyde
      dsimp only
      rw [if_neg (by rw [t3]; decide), if_neg (by rw [t3]; decide), if_neg (by rw [t3]; decide)]
      rfl
    have e2 : f_X4_high v (f_X3_opOf w) (f_X3_byteX w) Y Z w = ((f_X4_done (sm_lt v 0) (f_X3_byteX w) (m_g (sm_lt v 0) (f_X3_byteX w).toNatClampNeg &&& (wyd w ^^^ (-1 : Int64)))).1, (f_X4_done (sm_lt v 0) (f_X3_byteX w) (m_g (sm_lt v 0) (f_X3_byteX w).toNatClampNeg &&& (wyd w ^^^ (-1 : Int64)))).2) := by
      unfold f_X4_high
      dsimp only
      rw [if_neg (by rw [t2]; decide), if_neg (by rw [t2]; decide), if_neg (by rw [t2]; decide), if_pos t2]
    rw [e1, e2, hx]
    exact w_doneh hu w rfl
theorem xyz_nat (x : Int32) : ∃ n : Nat, n < 16777216 ∧ x &&& 16777215 = nI n := by
  refine ⟨x.toBitVec.toNat % 16777216, by omega, ?_⟩
  exact pk_and x 24 (by decide)
theorem i_long {n : Nat} (h : n < 2 ^ 31) : (nI n).toInt64 = Int64.ofInt n := by
  apply Int64.toInt_inj.mp
  rw [Int32.toInt_toInt64, nI_toInt h, oi_ti (by omega) (by omega)]
theorem i_diff {n c : Nat} (h : n < 2 ^ 30) (hc : c < 2 ^ 30) : (nI n - nI c).toInt64 = Int64.ofInt ((n : Int) - c) := by
  apply Int64.toInt_inj.mp
  rw [Int32.toInt_toInt64, pk_sub_toInt h hc, oi_ti (by omega) (by omega)]
theorem back24 {n : Nat} (h : n < 16777216) (a : Int64) : a + ((4 : Int64) * (nI n - (16777216 : Int32)).toInt64) = a - ((4 : Int64) * ((16777216 : Int64) - (nI n).toInt64)) := by
  rw [show (16777216 : Int32) = nI 16777216 from rfl, i_diff (by omega) (by omega), i_long (by omega), Int64.sub_eq_add_neg, show (16777216 : Int64) = Int64.ofInt 16777216 from rfl, show (4 : Int64) = Int64.ofInt 4 from rfl, ← Int64.ofInt_sub, ← Int64.ofInt_mul, ← Int64.ofInt_mul, ← Int64.ofInt_neg]
  congr 2
  omega
theorem back16 {n : Nat} (h : n < 65536) (a : Int64) : a + ((-4 : Int64) * ((65536 : Int32) - nI n).toInt64) = a - ((4 : Int64) * ((65536 : Int64) - (nI n).toInt64)) := by
  rw [show (65536 : Int32) = nI 65536 from rfl, i_diff (by omega) (by omega), i_long (by omega), Int64.sub_eq_add_neg, show (65536 : Int64) = Int64.ofInt 65536 from rfl, show (-4 : Int64) = Int64.ofInt (-4) from rfl, show (4 : Int64) = Int64.ofInt 4 from rfl, ← Int64.ofInt_sub, ← Int64.ofInt_mul, ← Int64.ofInt_mul, ← Int64.ofInt_neg]
  congr 2
  omega
theorem tab_r1 : ∀ n : Nat, n < 256 → 240 ≤ n → jshr (nI n) 4 = 15 := by decide +kernel
theorem tab_r2 : ∀ n : Nat, n < 256 → 240 ≤ n → ¬ (jshr (nI n) 2) &&& 7 = 0 ∧ ¬ (jshr (nI n) 2) &&& 7 = 1 := by decide +kernel
theorem tab_r3 : ∀ n : Nat, n < 256 → 240 ≤ n → ¬ (jshr (nI n) 2) &&& 7 = 2 ∧ ¬ (jshr (nI n) 2) &&& 7 = 3 := by decide +kernel
theorem le7 {x : Int32} (h : ¬ (8 : Int32) ≤ x) : x ≤ 7 := by
  rw [Int32.le_iff_toInt_le] at h ⊢
  have e8 : (8 : Int32).toInt = 8 := by decide
  have e7 : (7 : Int32).toInt = 7 := by decide
  omega
theorem le7n {x : Int32} (h : (8 : Int32) ≤ x) : ¬ x ≤ 7 := by
  rw [Int32.le_iff_toInt_le] at h ⊢
  have e8 : (8 : Int32).toInt = 8 := by decide
  have e7 : (7 : Int32).toInt = 7 := by decide
  omega
theorem and7 {x : Int32} (hx : vp_in x 256) (h : ¬ (8 : Int32) ≤ x) : x &&& 7 = x := by
  have h0 := vp_in_iff.mp hx
  have h2 : ¬ x < 0 := by
    rw [Int32.lt_iff_toInt_lt, show (0 : Int32).toInt = 0 from by decide]
    omega
  obtain ⟨j, hj, rfl⟩ := nI_of h2
  have h3 : j < 8 := by
    rcases Nat.lt_or_ge j 8 with h4 | h4
    · exact h4
    · exact absurd (nI_le (a := 8) h4 hj) h
  rw [pk_andN (by omega) 3 (by decide)]
  congr 1
  omega
