/-! the law's start -/
theorem fs12 : ∀ j : Nat, j < 12 → defaultValue (tyX3 j) = vp_V [.null, .null, .null, .null, .null, .int 0, .int 0, .long 0, .long 0, .long 0, .long 0, .long 0] j := fun j hj => by
  rcases (show j = 0 ∨ j = 1 ∨ j = 2 ∨ j = 3 ∨ j = 4 ∨ j = 5 ∨ j = 6 ∨ j = 7 ∨ j = 8 ∨ j = 9 ∨ j = 10 ∨ j = 11 by omega) with rfl | rfl | rfl | rfl | rfl | rfl | rfl | rfl | rfl | rfl | rfl | rfl <;> rfl
theorem fs17 : ∀ j : Nat, j < 17 → defaultValue (tyX4 j) = vp_V [.int 0, .null, .null, .null, .null, .null, .int 0, .int 0, .long 0, .long 0, .long 0, .long 0, .long 0, .null, .null, .int 0, .int 0] j := fun j hj => by
  rcases (show j = 0 ∨ j = 1 ∨ j = 2 ∨ j = 3 ∨ j = 4 ∨ j = 5 ∨ j = 6 ∨ j = 7 ∨ j = 8 ∨ j = 9 ∨ j = 10 ∨ j = 11 ∨ j = 12 ∨ j = 13 ∨ j = 14 ∨ j = 15 ∨ j = 16 by omega) with rfl | rfl | rfl | rfl | rfl | rfl | rfl | rfl | rfl | rfl | rfl | rfl | rfl | rfl | rfl | rfl | rfl <;> rfl
/-! the start of both -/
def K0 (u : MS) : (Nat → Int64) × (Nat → Int64) × (Nat → Int64) × (Nat → Int32) × Int32 × Int32 × Int64 × Int64 × Int64 × Int64 × Int64 × (Nat → Int32) := (m_g u, m_sp u, m_ta u, m_ou u, m_on u, m_pl u, m_pc u, m_oo u, m_me u, m_tr u, m_la u, m_mm u)
theorem k0_add0 (u : MS) (p0 p1 : Int32) : K0 (f_X4_add u p0 p1) = K0 u := rfl
theorem k0_add (u : MS) (p0 p1 : Int32) : K0 (f_X4_add u p0 p1) = K0 u := Eq.trans (k0_add0 u p0 p1) (Eq.refl (K0 u))
theorem k0_pair (u : MS) (p0 p1 p2 : Int32) : K0 (f_X4_pair u p0 p1 p2) = K0 u := by
  unfold f_X4_pair
  simp only [k0_add]
set_option maxHeartbeats 4000000 in
set_option maxRecDepth 100000 in
theorem k0_num (u : MS) : K0 (f_X4_numbers u) = K0 u := by
  unfold f_X4_numbers
  simp only [k0_pair, k0_add]
set_option maxHeartbeats 4000000 in
set_option maxRecDepth 100000 in
theorem k0_con (u : MS) : K0 (f_X4_conditions u) = K0 u := by
  unfold f_X4_conditions
  simp only [k0_pair, k0_add]
set_option maxHeartbeats 4000000 in
set_option maxRecDepth 100000 in
theorem k0_acc (u : MS) : K0 (f_X4_accesses u) = K0 u := by
  unfold f_X4_accesses
  simp only [k0_pair, k0_add]
set_option maxHeartbeats 4000000 in
set_option maxRecDepth 100000 in
theorem k0_bit (u : MS) : K0 (f_X4_bitNames u) = K0 u := by
  unfold f_X4_bitNames
  simp only [k0_pair, k0_add]
set_option maxHeartbeats 4000000 in
set_option maxRecDepth 100000 in
theorem k0_oth (u : MS) : K0 (f_X4_others u) = K0 u := by
  unfold f_X4_others
  simp only [k0_pair, k0_add]
theorem k0_M1 : K0 uM1 = K0 uM0 := by
  unfold uM1
  rw [k0_oth, k0_bit, k0_acc, k0_con, k0_num]
theorem bX_0 : ∀ j : Nat, j < 8 → (0 : Int32) = bX 0 j := by decide +kernel
theorem rel_K {v : MS} (h : K0 v = K0 uM0) (h1 : m_ct v = m_ct uM1) (h2 : m_nm v = m_nm uM1) (h3 : m_cd v = m_cd uM1) : Rel uX0 v := by
  have e : (m_g v, m_sp v, m_ta v, m_ou v, m_on v, m_pl v, m_pc v, m_oo v, m_me v, m_tr v, m_la v, m_mm v) = ((fun _ => 0, fun _ => 0, fun _ => 0, fun _ => 0, 0, 0, 0, 0, 0, 0, 0, fun _ => 0) : (Nat → Int64) × (Nat → Int64) × (Nat → Int64) × (Nat → Int32) × Int32 × Int32 × Int64 × Int64 × Int64 × Int64 × Int64 × (Nat → Int32)) := h
  simp only [Prod.mk.injEq] at e
  obtain ⟨g1, g2, g3, g4, g5, g6, g7, g8, g9, g10, g11, g12⟩ := e
  refine ⟨g1.symm, g2.symm, g3.symm, g4.symm, g5.symm, g6.symm, g7.symm, g8.symm, g9.symm, g10.symm, g11.symm, ?_, by decide, by decide, ⟨0, by decide, rfl⟩, h1, h2, h3⟩
  intro k j hk hj
  rw [g12]
  exact bX_0 j hj
theorem rel_0 : Rel uX0 uM1 := rel_K k0_M1 rfl rfl rfl
