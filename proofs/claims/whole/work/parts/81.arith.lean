/-! what both reckon: the same numbers -/
theorem ab_eq (a b : Int64) : f_X2_isAbove a b = f_X4_above a b := rfl
theorem ho_eq (op : Int32) (x : Int64) : f_X3_holds op x = f_X4_holds ((jshr op (1 : Int32)) &&& (7 : Int32)) x := rfl
theorem lq_loop (u : XS) (v : MS) (hi lo d : Int64) : ∀ (n : Nat) (a b : Int64) (w : Int32), lf_X3_longQuotient_29 u hi lo d n a b w = lf_X4_quotientOf_43 v lo d n a b w
  | 0, _, _, _ => rfl
  | n + 1, a, b, w => by
    unfold lf_X3_longQuotient_29 lf_X4_quotientOf_43
    by_cases c : w < 0
    · rw [if_pos c, if_pos c]
    · rw [if_neg c, if_neg c]
      dsimp only
      rw [lq_loop u v hi lo d n]
      rfl
theorem sg_eq (x : Int64) {n : Nat} (hn : isSz n) : f_X2_signed x (nI n) = f_X4_signed x (nI n) := by
  unfold f_X2_signed f_X4_signed
  rcases hn with rfl | rfl | rfl | rfl
  · rfl
  · rfl
  · rfl
  · rw [if_pos (by decide)]
    apply Int64.toBitVec_inj.mp
    show (x.toBitVec <<< 0).sshiftRight 0 = x.toBitVec
    simp
theorem ws_eq (b : Int64) : f_X2_isWholeShift b = f_X4_above b 63 := by
  unfold f_X2_isWholeShift f_X4_above
  have hb1 := Int64.toInt_lt b
  have hb0 := Int64.le_toInt b
  have e0 : (0 : Int64).toInt = 0 := by decide
  have e1 : (64 : Int64).toInt = 64 := by decide
  have e2 : ((63 : Int64) + (-9223372036854775808 : Int64)).toInt = 63 - 9223372036854775808 := by decide
  have e3 : (-9223372036854775808 : Int64).toInt = -9223372036854775808 := by decide
  have e4 : (b + (-9223372036854775808 : Int64)).toInt = if b.toInt < 0 then b.toInt + 9223372036854775808 else b.toInt - 9223372036854775808 := by
    rw [Int64.toInt_add, e3]
    split
    · rw [Int.bmod_def]
      omega
    · rw [Int.bmod_eq_of_le (by omega) (by omega)]
      omega
  simp only [Int64.lt_iff_toInt_lt, Int64.le_iff_toInt_le, e0, e1, e2, e4]
  by_cases c1 : b.toInt < 0
  · rw [if_pos c1, if_pos c1, if_neg (by omega)]
  · rw [if_neg c1, if_neg c1]
    by_cases c2 : b.toInt < 64
    · rw [if_pos c2, if_pos (by omega)]
    · rw [if_neg c2, if_neg (by omega)]
theorem rem_int (a b : Int64) : (a - a / b * b).toInt = a.toInt.tmod b.toInt := by
  rw [Int64.toInt_sub, Int64.toInt_mul, Int64.toInt_div, Int.bmod_mul_bmod, Int.sub_bmod_bmod]
  have h : a.toInt - a.toInt.tdiv b.toInt * b.toInt = a.toInt.tmod b.toInt := by
    rw [Int.tmod_def, Int.mul_comm]
  rw [h]
  have hb1 := Int64.toInt_lt a
  have hb0 := Int64.le_toInt a
  have h1 : a.toInt.tmod b.toInt ≤ a.toInt.natAbs := by
    have := Int.natAbs_tmod a.toInt b.toInt
    have h2 : a.toInt.natAbs % b.toInt.natAbs ≤ a.toInt.natAbs := Nat.mod_le _ _
    omega
  have h2 : -(a.toInt.natAbs : Int) ≤ a.toInt.tmod b.toInt := by
    have := Int.natAbs_tmod a.toInt b.toInt
    have h2 : a.toInt.natAbs % b.toInt.natAbs ≤ a.toInt.natAbs := Nat.mod_le _ _
    omega
  by_cases c : 0 ≤ a.toInt
  · exact Int.bmod_eq_of_le (by omega) (by omega)
  · have h3 : a.toInt.tmod b.toInt ≤ 0 := by
      have := Int.neg_tmod (-a.toInt) b.toInt
      rw [Int.neg_neg] at this
      have h4 := Int.tmod_nonneg b.toInt (show 0 ≤ -a.toInt by omega)
      omega
    exact Int.bmod_eq_of_le (by omega) (by omega)
