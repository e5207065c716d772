theorem way_h240 {v : MS} {w : Int32} (c : f_X3_opOf w = 240) (y z : Int64) (Y : Int32) (Z : Int32) (u0 : XS) (hu0 : Core u0 v) : Way v w y z (f_X4_high v (f_X3_opOf w) (f_X3_byteX w) Y Z w) := by
  have e : f_X3_opOf w = nI 240 := c
  have t1 := tab_r1 240 (by decide) (by decide)
  have t2 := tab_r2 240 (by decide) (by decide)
  have t3 := tab_r3 240 (by decide) (by decide)
  rw [← e] at t1 t2 t3
  refine Way.grp (n := 240) (by decide) e (by decide) (Or.inr (by decide)) (lg_1 (by decide) e (by decide) (by decide) (by decide) (by decide) (by unfold lgT; omega)) (ls_0 (by decide) e (by omega)) (fun u hu => ?_) u0 hu0
  rw [pf_15 t1]
  have e1 : f_X3_performRest (pc4 u) w z (x_pc u) = sx_pc (pc4 u) (x_pc u + ((4 : Int64) * (w &&& (16777215 : Int32)).toInt64)) := by
    unfold f_X3_performRest
    dsimp only
    rw [if_pos c]
  have e2 : f_X4_high v (f_X3_opOf w) (f_X3_byteX w) Y Z w = (0, sm_pc (sm_lt v 0) (m_pc (sm_lt v 0) + ((4 : Int64) * (w &&& (16777215 : Int32)).toInt64))) := by
    unfold f_X4_high
    dsimp only
    rw [if_neg t2.1, if_neg t2.2, if_neg t3.1, if_neg t3.2, if_pos c]
  rw [e1, e2]
  exact grp_jump hu (by show _ = m_pc v + _; rw [hu.2.2.2.2.2.1])
theorem way_h241 {v : MS} {w : Int32} (c : f_X3_opOf w = 241) (y z : Int64) (Y : Int32) (Z : Int32) (u0 : XS) (hu0 : Core u0 v) : Way v w y z (f_X4_high v (f_X3_opOf w) (f_X3_byteX w) Y Z w) := by
  have e : f_X3_opOf w = nI 241 := c
  have t1 := tab_r1 241 (by decide) (by decide)
  have t2 := tab_r2 241 (by decide) (by decide)
  have t3 := tab_r3 241 (by decide) (by decide)
  rw [← e] at t1 t2 t3
  refine Way.grp (n := 241) (by decide) e (by decide) (Or.inr (by decide)) (lg_1 (by decide) e (by decide) (by decide) (by decide) (by decide) (by unfold lgT; omega)) (ls_0 (by decide) e (by omega)) (fun u hu => ?_) u0 hu0
  rw [pf_15 t1]
  have e1 : f_X3_performRest (pc4 u) w z (x_pc u) = sx_pc (pc4 u) (x_pc u + ((4 : Int64) * ((w &&& (16777215 : Int32)) - (16777216 : Int32)).toInt64)) := by
    unfold f_X3_performRest
    dsimp only
    rw [if_neg (by rw [c]; decide), if_pos c]
  have e2 : f_X4_high v (f_X3_opOf w) (f_X3_byteX w) Y Z w = (0, sm_pc (sm_lt v 0) (m_pc (sm_lt v 0) - ((4 : Int64) * ((16777216 : Int64) - (w &&& (16777215 : Int32)).toInt64)))) := by
    unfold f_X4_high
    dsimp only
    rw [if_neg t2.1, if_neg t2.2, if_neg t3.1, if_neg t3.2, if_neg (by rw [c]; decide), if_pos c]
  rw [e1, e2]
  refine grp_jump hu ?_
  obtain ⟨n, hn, en⟩ := xyz_nat w
  rw [en, back24 hn, hu.2.2.2.2.2.1]
  rfl
theorem way_h244 {v : MS} {w : Int32} (c : f_X3_opOf w = 244) (y z : Int64) (Y : Int32) (Z : Int32) (u0 : XS) (hu0 : Core u0 v) : Way v w y z (f_X4_high v (f_X3_opOf w) (f_X3_byteX w) Y Z w) := by
  have e : f_X3_opOf w = nI 244 := c
  have t1 := tab_r1 244 (by decide) (by decide)
  have t2 := tab_r2 244 (by decide) (by decide)
  have t3 := tab_r3 244 (by decide) (by decide)
  rw [← e] at t1 t2 t3
  refine Way.grp (n := 244) (by decide) e (by decide) (Or.inr (by decide)) (lg_1 (by decide) e (by decide) (by decide) (by decide) (by decide) (by unfold lgT; omega)) (ls_0 (by decide) e (by omega)) (fun u hu => ?_) u0 hu0
  rw [pf_15 t1]
  have e1 : f_X3_performRest (pc4 u) w z (x_pc u) = f_X3_writeX (pc4 u) w (f_X3_relative w (x_pc u)) := by
    unfold f_X3_performRest
    dsimp only
    rw [if_neg (by rw [c]; decide), if_neg (by rw [c]; decide), if_pos c]
  have e2 : f_X4_high v (f_X3_opOf w) (f_X3_byteX w) Y Z w = ((f_X4_done (sm_lt v 0) (f_X3_byteX w) (m_pc (sm_lt v 0) + ((4 : Int64) * (w &&& (65535 : Int32)).toInt64))).1, (f_X4_done (sm_lt v 0) (f_X3_byteX w) (m_pc (sm_lt v 0) + ((4 : Int64) * (w &&& (65535 : Int32)).toInt64))).2) := by
    unfold f_X4_high
    dsimp only
    rw [if_neg t2.1, if_neg t2.2, if_neg t3.1, if_neg t3.2, if_neg (by rw [c]; decide), if_neg (by rw [c]; decide), if_pos c]
  rw [e1, e2]
  refine w_doneh hu w ?_
  rw [rel_eq, c, if_pos (by decide), hu.2.2.2.2.2.1]
  rfl
theorem way_h245 {v : MS} {w : Int32} (c : f_X3_opOf w = 245) (y z : Int64) (Y : Int32) (Z : Int32) (u0 : XS) (hu0 : Core u0 v) : Way v w y z (f_X4_high v (f_X3_opOf w) (f_X3_byteX w) Y Z w) := by
  have e : f_X3_opOf w = nI 245 := c
  have t1 := tab_r1 245 (by decide) (by decide)
  have t2 := tab_r2 245 (by decide) (by decide)
  have t3 := tab_r3 245 (by decide) (by decide)
  rw [← e] at t1 t2 t3
  refine Way.grp (n := 245) (by decide) e (by decide) (Or.inr (by decide)) (lg_1 (by decide) e (by decide) (by decide) (by decide) (by decide) (by unfold lgT; omega)) (ls_0 (by decide) e (by omega)) (fun u hu => ?_) u0 hu0
  rw [pf_15 t1]
  have e1 : f_X3_performRest (pc4 u) w z (x_pc u) = f_X3_writeX (pc4 u) w (f_X3_relative w (x_pc u)) := by
    unfold f_X3_performRest
    dsimp only
    rw [if_neg (by rw [c]; decide), if_neg (by rw [c]; decide), if_neg (by rw [c]; decide), if_pos c]
  have e2 : f_X4_high v (f_X3_opOf w) (f_X3_byteX w) Y Z w = ((f_X4_done (sm_lt v 0) (f_X3_byteX w) (m_pc (sm_lt v 0) - ((4 : Int64) * ((65536 : Int64) - (w &&& (65535 : Int32)).toInt64)))).1, (f_X4_done (sm_lt v 0) (f_X3_byteX w) (m_pc (sm_lt v 0) - ((4 : Int64) * ((65536 : Int64) - (w &&& (65535 : Int32)).toInt64)))).2) := by
    unfold f_X4_high
    dsimp only
    rw [if_neg t2.1, if_neg t2.2, if_neg t3.1, if_neg t3.2, if_neg (by rw [c]; decide), if_neg (by rw [c]; decide), if_neg (by rw [c]; decide), if_pos c]
  rw [e1, e2]
  refine w_doneh hu w ?_
  obtain ⟨n, hn, en⟩ := yz_nat w
  rw [rel_eq, c, if_neg (by decide), en, back16 hn, hu.2.2.2.2.2.1]
  rfl
theorem way_h253 {v : MS} {w : Int32} (c : f_X3_opOf w = 253) (y z : Int64) (Y : Int32) (Z : Int32) (u0 : XS) (hu0 : Core u0 v) : Way v w y z (f_X4_high v (f_X3_opOf w) (f_X3_byteX w) Y Z w) := by
  have e : f_X3_opOf w = nI 253 := c
  have t1 := tab_r1 253 (by decide) (by decide)
  have t2 := tab_r2 253 (by decide) (by decide)
  have t3 := tab_r3 253 (by decide) (by decide)
  rw [← e] at t1 t2 t3
  refine Way.grp (n := 253) (by decide) e (by decide) (Or.inr (by decide)) (lg_1 (by decide) e (by decide) (by decide) (by decide) (by decide) (by unfold lgT; omega)) (ls_0 (by decide) e (by omega)) (fun u hu => ?_) u0 hu0
  rw [pf_15 t1]
  have e1 : f_X3_performRest (pc4 u) w z (x_pc u) = pc4 u := by
    unfold f_X3_performRest
    dsimp only
    rw [if_neg (by rw [c]; decide), if_neg (by rw [c]; decide), if_neg (by rw [c]; decide), if_neg (by rw [c]; decide), if_neg (by rw [c]; decide), if_neg (by rw [c]; decide), if_neg (by rw [c]; decide)]
  have e2 : f_X4_high v (f_X3_opOf w) (f_X3_byteX w) Y Z w = (0, sm_pc (sm_lt v 0) (m_pc (sm_lt v 0) + 4)) := by
    unfold f_X4_high
    dsimp only
    rw [if_neg t2.1, if_neg t2.2, if_neg t3.1, if_neg t3.2, if_neg (by rw [c]; decide), if_neg (by rw [c]; decide), if_neg (by rw [c]; decide), if_neg (by rw [c]; decide), if_neg (by rw [c]; decide), if_neg (by rw [c]; decide), if_pos c]
  rw [e1, e2]
  exact grp_swym hu
theorem way_h246 {v : MS} {w : Int32} (c : f_X3_opOf w = 246) (y z : Int64) (Y : Int32) (Z : Int32) (hz : z = f_X4_number v (f_X3_opOf w) Z) (u0 : XS) (hu0 : Core u0 v) : Way v w y z (f_X4_high v (f_X3_opOf w) (f_X3_byteX w) Y Z w) := by
  have e : f_X3_opOf w = nI 246 := c
  have t1 := tab_r1 246 (by decide) (by decide)
  have t2 := tab_r2 246 (by decide) (by decide)
  have t3 := tab_r3 246 (by decide) (by decide)
  rw [← e] at t1 t2 t3
  have hlg := lg_eq w (by decide) e
  rw [if_neg (by decide), if_pos (by decide)] at hlg
  by_cases c8 : (8 : Int32) ≤ f_X3_byteX w
  · rw [if_pos c8] at hlg
    refine Or.inl ⟨hlg, ?_⟩
    have e2 : f_X4_high v (f_X3_opOf w) (f_X3_byteX w) Y Z w = (2, sm_lt v 0) := by
      unfold f_X4_high
      dsimp only
      rw [if_neg t2.1, if_neg t2.2, if_neg t3.1, if_neg t3.2, if_neg (by rw [c]; decide), if_neg (by rw [c]; decide), if_neg (by rw [c]; decide), if_neg (by rw [c]; decide), if_pos c, if_neg (le7n c8)]
    rw [e2]
    exact ⟨rfl, Or.inr rfl⟩
  · rw [if_neg c8] at hlg
    refine Way.grp (n := 246) (by decide) e (by decide) (Or.inr (by decide)) (by rw [hlg]; decide) (ls_0 (by decide) e (by omega)) (fun u hu => ?_) u0 hu0
    rw [pf_15 t1]
    have e1 : f_X3_performRest (pc4 u) w z (x_pc u) = sx_sp (pc4 u) (vp_updL (x_sp (pc4 u)) ((f_X3_byteX w) &&& (7 : Int32)).toNatClampNeg z) := by
      unfold f_X3_performRest
      dsimp only
      rw [if_neg (by rw [c]; decide), if_neg (by rw [c]; decide), if_neg (by rw [c]; decide), if_neg (by rw [c]; decide), if_pos c]
    have e2 : f_X4_high v (f_X3_opOf w) (f_X3_byteX w) Y Z w = (0, sm_pc (sm_sp (sm_lt v 0) (vp_updL (m_sp (sm_lt v 0)) (f_X3_byteX w).toNatClampNeg (f_X4_number (sm_lt v 0) (f_X3_opOf w) Z))) (m_pc (sm_sp (sm_lt v 0) (vp_updL (m_sp (sm_lt v 0)) (f_X3_byteX w).toNatClampNeg (f_X4_number (sm_lt v 0) (f_X3_opOf w) Z))) + 4)) := by
      unfold f_X4_high
      dsimp only
      rw [if_neg t2.1, if_neg t2.2, if_neg t3.1, if_neg t3.2, if_neg (by rw [c]; decide), if_neg (by rw [c]; decide), if_neg (by rw [c]; decide), if_neg (by rw [c]; decide), if_pos c, if_pos (le7 c8)]
    rw [e1, e2, and7 (in_byteX w) c8]
    refine grp_put hu ?_
    have ez : f_X4_number (sm_lt v 0) (f_X3_opOf w) Z = z := hz.symm
    have es : m_sp (sm_lt v 0) = x_sp (pc4 u) := hu.2.1.symm
    rw [ez, es]
theorem way_h247 {v : MS} {w : Int32} (c : f_X3_opOf w = 247) (y z : Int64) (Y : Int32) (Z : Int32) (hz : z = f_X4_number v (f_X3_opOf w) Z) (u0 : XS) (hu0 : Core u0 v) : Way v w y z (f_X4_high v (f_X3_opOf w) (f_X3_byteX w) Y Z w) := by
  have e : f_X3_opOf w = nI 247 := c
  have t1 := tab_r1 247 (by decide) (by decide)
  have t2 := tab_r2 247 (by decide) (by decide)
  have t3 := tab_r3 247 (by decide) (by decide)
  rw [← e] at t1 t2 t3
  have hlg := lg_eq w (by decide) e
  rw [if_neg (by decide), if_pos (by decide)] at hlg
  by_cases c8 : (8 : Int32) ≤ f_X3_byteX w
  · rw [if_pos c8] at hlg
    refine Or.inl ⟨hlg, ?_⟩
    have e2 : f_X4_high v (f_X3_opOf w) (f_X3_byteX w) Y Z w = (2, sm_lt v 0) := by
      unfold f_X4_high
      dsimp only
      rw [if_neg t2.1, if_neg t2.2, if_neg t3.1, if_neg t3.2, if_neg (by rw [c]; decide), if_neg (by rw [c]; decide), if_neg (by rw [c]; decide), if_neg (by rw [c]; decide), if_neg (by rw [c]; decide), if_pos c, if_neg (le7n c8)]
    rw [e2]
    exact ⟨rfl, Or.inr rfl⟩
  · rw [if_neg c8] at hlg
    refine Way.grp (n := 247) (by decide) e (by decide) (Or.inr (by decide)) (by rw [hlg]; decide) (ls_0 (by decide) e (by omega)) (fun u hu => ?_) u0 hu0
    rw [pf_15 t1]
    have e1 : f_X3_performRest (pc4 u) w z (x_pc u) = sx_sp (pc4 u) (vp_updL (x_sp (pc4 u)) ((f_X3_byteX w) &&& (7 : Int32)).toNatClampNeg z) := by
      unfold f_X3_performRest
      dsimp only
      rw [if_neg (by rw [c]; decide), if_neg (by rw [c]; decide), if_neg (by rw [c]; decide), if_neg (by rw [c]; decide), if_neg (by rw [c]; decide), if_pos c]
    have e2 : f_X4_high v (f_X3_opOf w) (f_X3_byteX w) Y Z w = (0, sm_pc (sm_sp (sm_lt v 0) (vp_updL (m_sp (sm_lt v 0)) (f_X3_byteX w).toNatClampNeg (f_X4_number (sm_lt v 0) (f_X3_opOf w) Z))) (m_pc (sm_sp (sm_lt v 0) (vp_updL (m_sp (sm_lt v 0)) (f_X3_byteX w).toNatClampNeg (f_X4_number (sm_lt v 0) (f_X3_opOf w) Z))) + 4)) := by
      unfold f_X4_high
      dsimp only
      rw [if_neg t2.1, if_neg t2.2, if_neg t3.1, if_neg t3.2, if_neg (by rw [c]; decide), if_neg (by rw [c]; decide), if_neg (by rw [c]; decide), if_neg (by rw [c]; decide), if_neg (by rw [c]; decide), if_pos c, if_pos (le7 c8)]
    rw [e1, e2, and7 (in_byteX w) c8]
    refine grp_put hu ?_
    have ez : f_X4_number (sm_lt v 0) (f_X3_opOf w) Z = z := hz.symm
    have es : m_sp (sm_lt v 0) = x_sp (pc4 u) := hu.2.1.symm
    rw [ez, es]
theorem way_h254 {v : MS} {w : Int32} (c : f_X3_opOf w = 254) (y z : Int64) (Y : Int32) (u0 : XS) (hu0 : Core u0 v) : Way v w y z (f_X4_high v (f_X3_opOf w) (f_X3_byteX w) Y (f_X3_byteZ w) w) := by
  have e : f_X3_opOf w = nI 254 := c
  have t1 := tab_r1 254 (by decide) (by decide)
  have t2 := tab_r2 254 (by decide) (by decide)
  have t3 := tab_r3 254 (by decide) (by decide)
  rw [← e] at t1 t2 t3
  have hlg := lg_eq w (by decide) e
  rw [if_neg (by decide), if_neg (by decide), if_pos rfl] at hlg
  by_cases c8 : (8 : Int32) ≤ f_X3_byteZ w
  · rw [if_pos c8] at hlg
    refine Or.inl ⟨hlg, ?_⟩
    have e2 : f_X4_high v (f_X3_opOf w) (f_X3_byteX w) Y (f_X3_byteZ w) w = (2, sm_lt v 0) := by
      unfold f_X4_high
      dsimp only
      rw [if_neg t2.1, if_neg t2.2, if_neg t3.1, if_neg t3.2, if_neg (by rw [c]; decide), if_neg (by rw [c]; decide), if_neg (by rw [c]; decide), if_neg (by rw [c]; decide), if_neg (by rw [c]; decide), if_neg (by rw [c]; decide), if_neg (by rw [c]; decide), if_pos c, if_neg (le7n c8)]
    rw [e2]
    exact ⟨rfl, Or.inr rfl⟩
  · rw [if_neg c8] at hlg
    refine Way.grp (n := 254) (by decide) e (by decide) (Or.inr (by decide)) (by rw [hlg]; decide) (ls_0 (by decide) e (by omega)) (fun u hu => ?_) u0 hu0
    rw [pf_15 t1]
    have e1 : f_X3_performRest (pc4 u) w z (x_pc u) = f_X3_writeX (pc4 u) w (x_sp (pc4 u) ((f_X3_byteZ w) &&& (7 : Int32)).toNatClampNeg) := by
      unfold f_X3_performRest
      dsimp only
      rw [if_neg (by rw [c]; decide), if_neg (by rw [c]; decide), if_neg (by rw [c]; decide), if_neg (by rw [c]; decide), if_neg (by rw [c]; decide), if_neg (by rw [c]; decide), if_pos c]
    have e2 : f_X4_high v (f_X3_opOf w) (f_X3_byteX w) Y (f_X3_byteZ w) w = ((f_X4_done (sm_lt v 0) (f_X3_byteX w) (m_sp (sm_lt v 0) (f_X3_byteZ w).toNatClampNeg)).1, (f_X4_done (sm_lt v 0) (f_X3_byteX w) (m_sp (sm_lt v 0) (f_X3_byteZ w).toNatClampNeg)).2) := by
      unfold f_X4_high
      dsimp only
      rw [if_neg t2.1, if_neg t2.2, if_neg t3.1, if_neg t3.2, if_neg (by rw [c]; decide), if_neg (by rw [c]; decide), if_neg (by rw [c]; decide), if_neg (by rw [c]; decide), if_neg (by rw [c]; decide), if_neg (by rw [c]; decide), if_neg (by rw [c]; decide), if_pos c, if_pos (le7 c8)]
    rw [e1, e2, and7 (in_byteZ w) c8]
    refine w_doneh hu w ?_
    exact congrFun hu.2.1 _
theorem way_high {v : MS} {w : Int32} {n : Nat} (e : f_X3_opOf w = nI n) (h1 : 224 ≤ n) (h2 : n < 256) (y z : Int64) (hz : n = 246 ∨ n = 247 → z = f_X4_number v (f_X3_opOf w) (f_X3_byteZ w)) (Y : Int32) (u0 : XS) (hu0 : Core u0 v) : Way v w y z (f_X4_high v (f_X3_opOf w) (f_X3_byteX w) Y (f_X3_byteZ w) w) := by
  by_cases k0 : n < 240
  · exact way_wyde e h1 k0 y z Y _ u0 hu0
  by_cases k1 : n = 240
  · subst k1; exact way_h240 e y z Y _ u0 hu0
  by_cases k2 : n = 241
  · subst k2; exact way_h241 e y z Y _ u0 hu0
  by_cases k3 : n = 244
  · subst k3; exact way_h244 e y z Y _ u0 hu0
  by_cases k4 : n = 245
  · subst k4; exact way_h245 e y z Y _ u0 hu0
  by_cases k5 : n = 246
  · subst k5; exact way_h246 e y z Y _ (hz (Or.inl rfl)) u0 hu0
  by_cases k6 : n = 247
  · subst k6; exact way_h247 e y z Y _ (hz (Or.inr rfl)) u0 hu0
  by_cases k7 : n = 253
  · subst k7; exact way_h253 e y z Y _ u0 hu0
  by_cases k8 : n = 254
  · subst k8; exact way_h254 e y z Y u0 hu0
  have t2 := tab_r2 n h2 (by omega)
  have t3 := tab_r3 n h2 (by omega)
  rw [← e] at t2 t3
  have ne : ∀ k : Nat, k < 256 → ¬ n = k → ¬ f_X3_opOf w = nI k := fun k hk hne h => hne (nI_inj (by omega) (by omega) (e.symm.trans h))
  have e2 : f_X4_high v (f_X3_opOf w) (f_X3_byteX w) Y (f_X3_byteZ w) w = (2, sm_lt v 0) := by
    unfold f_X4_high
    dsimp only
    rw [if_neg t2.1, if_neg t2.2, if_neg t3.1, if_neg t3.2, if_neg (show ¬ f_X3_opOf w = 240 from ne 240 (by decide) k1), if_neg (show ¬ f_X3_opOf w = 241 from ne 241 (by decide) k2), if_neg (show ¬ f_X3_opOf w = 244 from ne 244 (by decide) k3), if_neg (show ¬ f_X3_opOf w = 245 from ne 245 (by decide) k4), if_neg (show ¬ f_X3_opOf w = 246 from ne 246 (by decide) k5), if_neg (show ¬ f_X3_opOf w = 247 from ne 247 (by decide) k6), if_neg (show ¬ f_X3_opOf w = 253 from ne 253 (by decide) k7), if_neg (show ¬ f_X3_opOf w = 254 from ne 254 (by decide) k8)]
  rw [e2]
  exact Or.inl ⟨lg_0 h2 e (by omega) k5 k6 k8 (by unfold lgT; omega), rfl, Or.inr rfl⟩
