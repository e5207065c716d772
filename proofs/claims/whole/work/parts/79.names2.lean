theorem nm_U : ∀ t ∈ nmL, 0 < t ∧ (t ∈ U1 ∨ t ∈ U2) := by decide +kernel
theorem cEve_0 : cEve 0 = -1 := by decide +kernel
theorem div27 {p : Int32} (h : 0 < p) : ¬ p / 27 < 0 := by
  rw [Int32.lt_iff_toInt_lt] at h ⊢
  have e1 : (0 : Int32).toInt = 0 := by decide
  have e2 : (27 : Int32).toInt = 27 := by decide
  have e3 := Int32.toInt_lt p
  rw [e1] at h ⊢
  rw [Int32.toInt_div, e2]
  have e4 : 0 ≤ p.toInt.tdiv 27 := Int.tdiv_nonneg (by omega) (by decide)
  have e5 : p.toInt.tdiv 27 ≤ p.toInt := by
    rw [Int.tdiv_eq_ediv_of_nonneg (by omega)]
    omega
  rw [Int.bmod_eq_of_le (by omega) (by omega)]
  omega
theorem cOdd_no {p : Int32} (h0 : 0 < p) (h2 : p ∉ U2) : cOdd p = -1 := by
  unfold cOdd
  by_cases c1 : cEve (p / 27) < 0
  · rw [if_pos c1]
  · rw [if_neg c1]
    have h1 : p / 27 ∈ U1 := by
      by_cases hm : p / 27 ∈ U1
      · exact hm
      · refine absurd ?_ c1
        by_cases hz : 0 < p / 27
        · rw [cEve_no hz hm]; decide
        · have hz0 : p / 27 = 0 := Int32.le_antisymm (Int32.not_lt.mp hz) (Int32.not_lt.mp (div27 h0))
          rw [hz0, cEve_0]; decide
    refine if_neg (fun e => h2 ?_)
    unfold U2
    have e9 : p = 27 * (p / 27) + (p - p / 27 * 27) := by
      rw [Int32.mul_comm 27]
      rw [Int32.add_comm, Int32.sub_add_cancel]
    have hcase : p - p / 27 * 27 = 9 ∨ p - p / 27 * 27 = 2 := by
      have gen : ∀ (P : Prop) [Decidable P], (if P then (9 : Int32) else 2) = 9 ∨ (if P then (9 : Int32) else 2) = 2 := by
        intro P _
        by_cases hP : P
        · exact Or.inl (if_pos hP)
        · exact Or.inr (if_neg hP)
      rw [e]
      exact gen _
    rcases hcase with h9 | h9
    · refine List.mem_append_left _ (List.mem_map.mpr ⟨p / 27, h1, ?_⟩)
      rw [h9] at e9
      exact e9.symm
    · refine List.mem_append_right _ (List.mem_map.mpr ⟨p / 27, h1, ?_⟩)
      rw [h9] at e9
      exact e9.symm
theorem names_eq (p : Int32) : chkP p = true := by
  by_cases h0 : 0 < p
  · by_cases h1 : p ∈ U1
    · exact List.all_eq_true.mp chk_U1 p h1
    · by_cases h2 : p ∈ U2
      · exact List.all_eq_true.mp chk_U2 p h2
      · unfold chkP
        rw [tsr_no p nmL cdL (fun m => (nm_U p m).2.elim h1 h2)]
        refine decide_eq_true ?_
        unfold cOp
        rw [if_pos h0, cSin_no h0 h1, cEve_no h0 h1, cOdd_no h0 h2]
        decide
  · unfold chkP
    rw [tsr_no p nmL cdL (fun m => h0 (nm_U p m).1)]
    refine decide_eq_true ?_
    unfold cOp
    rw [if_neg h0]
    decide
theorem nm_at (j : Nat) (hj : j < 316) : nmL[j]? = some (m_nm uM1 j) := by
  rw [← nm_ok]
  simp [hj]
theorem cd_at (j : Nat) (hj : j < 316) : cdL[j]? = some (m_cd uM1 j) := by
  rw [← cd_ok]
  simp [hj]
theorem drop_c {l : List Int32} {j : Nat} {x : Int32} (h : l[j]? = some x) : l.drop j = x :: l.drop (j + 1) := by
  obtain ⟨hj, e⟩ := List.getElem?_eq_some_iff.mp h
  rw [List.drop_eq_getElem_cons hj, e]
theorem put_loop {v : MS} (hct : m_ct v = m_ct uM1) (hnm : m_nm v = m_nm uM1) (hcd : m_cd v = m_cd uM1) (q q2 q3 q4 : Int32) : ∀ (n j : Nat), j ≤ 316 → j + n = 317 → ∃ k : Nat, lf_X4_put_8 v q q2 q3 q4 n (nI j) = nI k ∧ ((k = 316 ∧ tsr q (nmL.drop j) (cdL.drop j) = none) ∨ (k < 316 ∧ tsr q (nmL.drop j) (cdL.drop j) = some (m_cd v k)))
  | 0, j, h1, h2 => by omega
  | n + 1, j, h1, h2 => by
    unfold lf_X4_put_8
    rw [hct, ct_uM1]
    by_cases c : j = 316
    · subst c
      rw [if_pos (nI_le (Nat.le_refl _) (by omega))]
      refine ⟨316, rfl, Or.inl ⟨rfl, ?_⟩⟩
      exact tsr_no _ _ _ (by rw [show List.drop 316 nmL = [] from by decide +kernel]; exact List.not_mem_nil)
    · rw [if_neg (nI_ge (by omega) (by omega)), nI_clamp (by omega), hnm]
      rw [drop_c (nm_at j (by omega)), drop_c (cd_at j (by omega))]
      unfold tsr
      by_cases c2 : m_nm uM1 j = q
      · rw [if_pos c2, if_pos c2]
        exact ⟨j, rfl, Or.inr ⟨by omega, by rw [hcd]⟩⟩
      · rw [if_neg c2, if_neg c2]
        dsimp only
        rw [show (1 : Int32) = nI 1 from rfl, nI_plus]
        exact put_loop hct hnm hcd q q2 q3 q4 n (j + 1) (by omega) (by omega)
