theorem mk_rng (x m : Int64) (h0 : 0 ≤ m.toInt) (h1 : m.toInt < 4294967296) : 0 ≤ (x &&& m).toInt ∧ (x &&& m).toInt < 4294967296 := by
  have hm : m.toBitVec.toNat = m.toInt := by
    have := BitVec.toInt_eq_toNat_cond m.toBitVec
    have h2 : m.toInt = m.toBitVec.toInt := rfl
    have h3 := m.toBitVec.isLt
    split at this <;> omega
  have h2 : (x &&& m).toBitVec.toNat ≤ m.toBitVec.toNat := by
    rw [Int64.toBitVec_and, BitVec.toNat_and]
    exact Nat.and_le_right
  have h3 : (x &&& m).toInt = (x &&& m).toBitVec.toNat := by
    have := BitVec.toInt_eq_toNat_cond (x &&& m).toBitVec
    have h4 : (x &&& m).toInt = (x &&& m).toBitVec.toInt := rfl
    split at this <;> omega
  omega
theorem df_cmp (x y : Int64) (hx : 0 ≤ x.toInt ∧ x.toInt < 4294967296) (hy : 0 ≤ y.toInt ∧ y.toInt < 4294967296) : f_X2_isAbove x y = 0 ↔ x - y ≤ 0 := by
  unfold f_X2_isAbove
  have e3 : (-9223372036854775808 : Int64).toInt = -9223372036854775808 := by decide
  have e0 : (0 : Int64).toInt = 0 := by decide
  have h1 : (x + (-9223372036854775808 : Int64) ≤ y + (-9223372036854775808 : Int64)) ↔ x - y ≤ 0 := by
    rw [Int64.le_iff_toInt_le, Int64.le_iff_toInt_le, Int64.toInt_add, Int64.toInt_add, Int64.toInt_sub, e3, e0, Int.bmod_eq_of_le (by omega) (by omega), Int.bmod_eq_of_le (by omega) (by omega), Int.bmod_eq_of_le (by omega) (by omega)]
    omega
  by_cases c : x - y ≤ 0
  · rw [if_pos (h1.mpr c)]
    exact ⟨fun _ => c, fun _ => rfl⟩
  · rw [if_neg (fun h => c (h1.mp h))]
    exact ⟨fun h => absurd h (by decide), fun h => absurd h c⟩
theorem df_loop (a b m : Int64) (p : Int32) (h0 : 0 ≤ m.toInt) (h1 : m.toInt < 4294967296) : ∀ (n : Nat) (v : Int64) (w : Int32), lf_X2_differences_17 a b ((8 : Int32) * p) m n v w = lf_X4_differences_40 a b p m n v w
  | 0, _, _ => rfl
  | n + 1, v, w => by
    unfold lf_X2_differences_17 lf_X4_differences_40
    by_cases c : (64 : Int32) ≤ w
    · rw [if_pos c, if_pos c]
    · rw [if_neg c, if_neg c]
      dsimp only
      rw [df_loop a b m p h0 h1 n]
      have hc := df_cmp _ _ (mk_rng (jlushr a w) m h0 h1) (mk_rng (jlushr b w) m h0 h1)
      by_cases c2 : f_X2_isAbove (jlushr a w &&& m) (jlushr b w &&& m) = 0
      · rw [if_pos c2, if_pos (hc.mp c2)]
      · rw [if_neg c2, if_neg (fun h => c2 (hc.mpr h))]
theorem df_1 (a b : Int64) : f_X2_differences a b 8 = f_X4_differences a b 1 := by
  unfold f_X2_differences f_X4_differences
  rw [if_neg (by decide)]
  dsimp only
  rw [show jlushr (-1 : Int64) ((64 : Int32) - 8) = 255 from by decide, show jlshl (1 : Int64) ((8 : Int32) * 1) - 1 = 255 from by decide, show (8 : Int32) = 8 * 1 from by decide, df_loop a b 255 1 (by decide) (by decide)]
theorem df_2 (a b : Int64) : f_X2_differences a b 16 = f_X4_differences a b 2 := by
  unfold f_X2_differences f_X4_differences
  rw [if_neg (by decide)]
  dsimp only
  rw [show jlushr (-1 : Int64) ((64 : Int32) - 16) = 65535 from by decide, show jlshl (1 : Int64) ((8 : Int32) * 2) - 1 = 65535 from by decide, show (16 : Int32) = 8 * 2 from by decide, df_loop a b 65535 2 (by decide) (by decide)]
theorem df_4 (a b : Int64) : f_X2_differences a b 32 = f_X4_differences a b 4 := by
  unfold f_X2_differences f_X4_differences
  rw [if_neg (by decide)]
  dsimp only
  rw [show jlushr (-1 : Int64) ((64 : Int32) - 32) = 4294967295 from by decide, show jlshl (1 : Int64) ((8 : Int32) * 4) - 1 = 4294967295 from by decide, show (32 : Int32) = 8 * 4 from by decide, df_loop a b 4294967295 4 (by decide) (by decide)]
theorem sh_0 (x : Int64) : jlushr x 0 = x := by
  apply Int64.toBitVec_inj.mp
  show x.toBitVec >>> 0 = x.toBitVec
  simp
theorem sl_0 (x : Int64) : jlshl x 0 = x := by
  apply Int64.toBitVec_inj.mp
  show x.toBitVec <<< 0 = x.toBitVec
  simp
theorem and_m1 (x : Int64) : x &&& (-1 : Int64) = x := by
  apply Int64.toBitVec_inj.mp
  show x.toBitVec &&& BitVec.allOnes 64 = x.toBitVec
  exact BitVec.and_allOnes
theorem zero_or (x : Int64) : (0 : Int64) ||| x = x := by
  apply Int64.toBitVec_inj.mp
  show 0#64 ||| x.toBitVec = x.toBitVec
  simp
theorem df_8 (a b : Int64) : f_X2_differences a b 64 = f_X4_differences a b 8 := by
  unfold f_X2_differences f_X4_differences
  rw [if_pos rfl]
  dsimp only
  rw [show jlushr (-1 : Int64) ((64 : Int32) - 64) = -1 from by decide]
  unfold lf_X2_differences_17
  rw [if_neg (by decide)]
  dsimp only
  rw [sh_0, sh_0, and_m1, and_m1, sl_0, zero_or]
  unfold lf_X2_differences_17
  rw [if_pos (by decide), ← ab_eq]
