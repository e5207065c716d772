/-! the count of output bytes stays from 0 on -/
theorem ol_i {c : Prop} [Decidable c] {a b : XS} {k : Int32} (ha : x_ol a = k) (hb : x_ol b = k) : x_ol (if c then a else b) = k := by
  by_cases h : c
  · rw [if_pos h]; exact ha
  · rw [if_neg h]; exact hb
theorem ol_j {c : Prop} [Decidable c] {α : Type} {a b : α × XS} {k : Int32} (ha : x_ol a.2 = k) (hb : x_ol b.2 = k) : x_ol (if c then a else b).2 = k := by
  by_cases h : c
  · rw [if_pos h]; exact ha
  · rw [if_neg h]; exact hb
theorem ol_n {c : Prop} [Decidable c] {a b : XS} (ha : 0 ≤ x_ol a) (hb : 0 ≤ x_ol b) : 0 ≤ x_ol (if c then a else b) := by
  by_cases h : c
  · rw [if_pos h]; exact ha
  · rw [if_neg h]; exact hb
theorem ol_m {c : Prop} [Decidable c] {α : Type} {a b : α × XS} (ha : 0 ≤ x_ol a.2) (hb : 0 ≤ x_ol b.2) : 0 ≤ x_ol (if c then a else b).2 := by
  by_cases h : c
  · rw [if_pos h]; exact ha
  · rw [if_neg h]; exact hb
theorem ol_p {α : Type} {r : α × XS} {k : Int32} (h : x_ol r.2 = k) : x_ol ((r.1, r.2) : α × XS).2 = k := h
theorem ol_e {u v : XS} (h : x_ol v = x_ol u) (h0 : 0 ≤ x_ol u) : 0 ≤ x_ol v := by rw [h]; exact h0

theorem ol_writeX (u : XS) (p0 : Int32) (p1 : Int64) : x_ol (f_X3_writeX u p0 p1) = x_ol u := ((x_ol_sg _ _).trans ((x_ol_str _ _).trans rfl))
theorem ol_raise (u : XS) (p0 : Int64) (p1 : Int32) : x_ol (f_X3_raise u p0 p1) = x_ol u := (ol_i rfl ((x_ol_ssp _ _).trans rfl))
theorem ol_followFetch (u : XS) (p0 : Int32) : x_ol (f_X3_followFetch u p0) = x_ol u := ((x_ol_str _ _).trans ((x_ol_str _ _).trans ((x_ol_str _ _).trans rfl)))
theorem ol_bill (u : XS) (p0 : Int32) (p1 : Int32) : x_ol (f_X3_bill u p0 p1) = x_ol u := (ol_i ((x_ol_soo _ _).trans ((x_ol_sla _ _).trans ((x_ol_sta _ _).trans rfl))) ((x_ol_sme _ _).trans ((x_ol_soo _ _).trans ((x_ol_sla _ _).trans ((x_ol_sta _ _).trans rfl)))))
theorem ol_store (u : XS) (p0 : Int64) (p1 : Int32) (p2 : Int64) : x_ol (f_X0_store u p0 p1 p2) = x_ol u := ((x_ol_soc _ _).trans rfl)
theorem ol_quotient (u : XS) (p0 : Int64) (p1 : Int64) : x_ol (f_X3_quotient u p0 p1).2 = x_ol u := (ol_j ((x_ol_ssp _ _).trans ((ol_raise u (128 : Int64) (1 : Int32)).trans rfl)) ((x_ol_ssp _ _).trans ((ol_raise u _ _).trans rfl)))
theorem ol_longQuotient (u : XS) (p0 : Int64) (p1 : Int64) (p2 : Int64) : x_ol (f_X3_longQuotient u p0 p1 p2).2 = x_ol u := (ol_j ((x_ol_ssp _ _).trans rfl) ((x_ol_ssp _ _).trans rfl))
theorem ol_productOrQuotient (u : XS) (p0 : Int32) (p1 : Int64) (p2 : Int64) : x_ol (f_X3_productOrQuotient u p0 p1 p2).2 = x_ol u := (ol_j ((ol_raise u _ _).trans rfl) (ol_j ((x_ol_ssp _ _).trans rfl) (ol_j (ol_p ((ol_quotient u p1 p2).trans rfl)) (ol_p ((ol_longQuotient u (x_sp u (1 : Int32).toNatClampNeg) p1 p2).trans rfl)))))
theorem ol_checkedSum (u : XS) (p0 : Int64) (p1 : Int64) : x_ol (f_X3_checkedSum u p0 p1).2 = x_ol u := ((ol_raise u _ _).trans rfl)
theorem ol_checkedDifference (u : XS) (p0 : Int64) (p1 : Int64) : x_ol (f_X3_checkedDifference u p0 p1).2 = x_ol u := ((ol_raise u _ _).trans rfl)
theorem ol_checkedShift (u : XS) (p0 : Int64) (p1 : Int64) : x_ol (f_X3_checkedShift u p0 p1).2 = x_ol u := ((ol_raise u _ _).trans rfl)
theorem ol_sumOrDifference (u : XS) (p0 : Int32) (p1 : Int64) (p2 : Int64) : x_ol (f_X3_sumOrDifference u p0 p1 p2).2 = x_ol u := (ol_j (ol_p ((ol_checkedSum u p1 p2).trans rfl)) (ol_j rfl (ol_j (ol_p ((ol_checkedDifference u p1 p2).trans rfl)) (ol_j rfl (ol_j rfl (ol_j rfl (ol_j rfl rfl)))))))
theorem ol_comparedOrShifted (u : XS) (p0 : Int32) (p1 : Int64) (p2 : Int64) : x_ol (f_X3_comparedOrShifted u p0 p1 p2).2 = x_ol u := (ol_j (ol_j (ol_j rfl rfl) rfl) (ol_j (ol_j (ol_j rfl rfl) rfl) (ol_j (ol_p ((ol_checkedDifference u ((f_X3_byteY p0).toInt64) p2).trans rfl)) (ol_j rfl (ol_j (ol_p ((ol_checkedShift u p1 p2).trans rfl)) (ol_j rfl (ol_j rfl rfl)))))))
theorem ol_branch (u : XS) (p0 : Int32) (p1 : Int64) : x_ol (f_X3_branch u p0 p1) = x_ol u := (ol_i (ol_i rfl ((x_ol_soo _ _).trans rfl)) ((x_ol_spc _ _).trans (ol_i rfl ((x_ol_soo _ _).trans rfl))))
theorem ol_choose (u : XS) (p0 : Int32) (p1 : Int64) (p2 : Int64) : x_ol (f_X3_choose u p0 p1 p2) = x_ol u := (ol_i (ol_i rfl ((ol_writeX u p0 (0 : Int64)).trans rfl)) ((ol_writeX u p0 p2).trans rfl))
theorem ol_loadOrGo (u : XS) (p0 : Int32) (p1 : Int64) (p2 : Int64) : x_ol (f_X3_loadOrGo u p0 p1 p2) = x_ol u := (ol_i (ol_i ((ol_writeX u _ _).trans rfl) ((ol_writeX u _ _).trans rfl)) ((x_ol_spc _ _).trans ((ol_writeX u p0 (p2 + (4 : Int64))).trans rfl)))
theorem ol_storeX (u : XS) (p0 : Int32) (p1 : Int64) : x_ol (f_X3_storeX u p0 p1) = x_ol u := (ol_i (ol_i ((ol_store _ _ _ _).trans ((ol_raise u _ _).trans rfl)) ((ol_store u _ _ _).trans rfl)) ((ol_store u p1 (8 : Int32) ((f_X3_byteX p0).toInt64)).trans rfl))
theorem ol_performRest (u : XS) (p0 : Int32) (p1 : Int64) (p2 : Int64) : x_ol (f_X3_performRest u p0 p1 p2) = x_ol u := (ol_i ((x_ol_spc _ _).trans rfl) (ol_i ((x_ol_spc _ _).trans rfl) (ol_i ((ol_writeX u p0 (f_X3_relative p0 p2)).trans rfl) (ol_i ((ol_writeX u p0 (f_X3_relative p0 p2)).trans rfl) (ol_i ((x_ol_ssp _ _).trans rfl) (ol_i ((x_ol_ssp _ _).trans rfl) (ol_i ((ol_writeX u p0 (x_sp u ((f_X3_byteZ p0) &&& (7 : Int32)).toNatClampNeg)).trans rfl) rfl)))))))
theorem ol_trap (u : XS) (p0 : Int32) (p1 : Int64) (h : 0 ≤ x_ol u) : 0 ≤ x_ol (f_X3_trap u p0 p1) := by
  unfold f_X3_trap
  split
  · exact h
  · split
    · exact h
    · rename_i h1 h2
      simp only [x_ol_sol, x_ol_sob]
      have h3 : (x_ol u).toInt < 500 := Int32.lt_iff_toInt_lt.mp (Int32.not_le.mp h2)
      have h4 : 0 ≤ (x_ol u).toInt := Int32.le_iff_toInt_le.mp h
      have h5 : (x_ol u + 1).toInt = (x_ol u).toInt + 1 := i32_add (a := x_ol u) (b := 1) (by show -2147483648 ≤ (x_ol u).toInt + 1; omega) (by show (x_ol u).toInt + 1 < _; omega)
      exact Int32.le_iff_toInt_le.mpr (by rw [h5]; show (0 : Int) ≤ _; omega)
theorem ol_perform (u : XS) (p0 : Int32) (p1 p2 : Int64) (h : 0 ≤ x_ol u) : 0 ≤ x_ol (f_X3_perform u p0 p1 p2) := (ol_n (ol_trap _ _ _ h) (ol_n (ol_e ((ol_writeX _ _ _).trans ((ol_productOrQuotient _ _ _ _).trans ((x_ol_spc _ _).trans rfl))) h) (ol_n (ol_e ((ol_writeX _ _ _).trans ((ol_sumOrDifference _ _ _ _).trans ((x_ol_spc _ _).trans rfl))) h) (ol_n (ol_e ((ol_writeX _ _ _).trans ((ol_comparedOrShifted _ _ _ _).trans ((x_ol_spc _ _).trans rfl))) h) (ol_n (ol_e ((ol_branch _ _ _).trans ((x_ol_spc _ _).trans rfl)) h) (ol_n (ol_e ((ol_branch _ _ _).trans ((x_ol_spc _ _).trans rfl)) h) (ol_n (ol_e ((ol_choose _ _ _ _).trans ((x_ol_spc _ _).trans rfl)) h) (ol_n (ol_e ((ol_choose _ _ _ _).trans ((x_ol_spc _ _).trans rfl)) h) (ol_n (ol_e ((ol_loadOrGo _ _ _ _).trans ((x_ol_spc _ _).trans rfl)) h) (ol_n (ol_e ((ol_loadOrGo _ _ _ _).trans ((x_ol_spc _ _).trans rfl)) h) (ol_n (ol_e ((ol_storeX _ _ _).trans ((x_ol_spc _ _).trans rfl)) h) (ol_n (ol_e ((ol_storeX _ _ _).trans ((x_ol_spc _ _).trans rfl)) h) (ol_n (ol_e ((ol_writeX _ _ _).trans ((x_ol_spc _ _).trans rfl)) h) (ol_n (ol_e ((ol_writeX _ _ _).trans ((x_ol_spc _ _).trans rfl)) h) (ol_n (ol_e ((ol_writeX _ _ _).trans ((x_ol_spc _ _).trans rfl)) h) (ol_e ((ol_performRest _ _ _ _).trans ((x_ol_spc _ _).trans rfl)) h))))))))))))))))
