/-! products: as whole numbers -/
theorem oi_un (X : Int) : (Int64.ofInt X).toBitVec.toNat = X % 18446744073709551616 := by
  show ((BitVec.ofInt 64 X).toNat : Int) = _
  rw [BitVec.toNat_ofInt]
  omega
theorem oi_ti {X : Int} (h0 : -9223372036854775808 ≤ X) (h1 : X < 9223372036854775808) : (Int64.ofInt X).toInt = X := by
  rw [Int64.toInt_ofInt, show Int64.size = 18446744073709551616 from rfl]
  exact Int.bmod_eq_of_le (by omega) (by omega)
theorem oi_eq {x : Int64} {X : Int} (h : (x.toBitVec.toNat : Int) = X % 18446744073709551616) : x = Int64.ofInt X := by
  apply Int64.toBitVec_inj.mp
  apply BitVec.eq_of_toNat_eq
  have := oi_un X
  omega
theorem oi_and (X : Int) : (Int64.ofInt X) &&& (4294967295 : Int64) = Int64.ofInt (X % 4294967296) := by
  apply oi_eq
  rw [Int64.toBitVec_and, BitVec.toNat_and]
  rw [show (4294967295 : Int64).toBitVec.toNat = 2 ^ 32 - 1 from by decide, Nat.and_two_pow_sub_one_eq_mod]
  have := oi_un X
  omega
theorem oi_ushr {X : Int} (h0 : 0 ≤ X) (h1 : X < 18446744073709551616) : jlushr (Int64.ofInt X) 32 = Int64.ofInt (X / 4294967296) := by
  apply oi_eq
  show (((Int64.ofInt X).toBitVec >>> 32).toNat : Int) = _
  rw [BitVec.toNat_ushiftRight, Nat.shiftRight_eq_div_pow]
  have := oi_un X
  omega
theorem oi_shr {X : Int} (h0 : -9223372036854775808 ≤ X) (h1 : X < 9223372036854775808) : jlshr (Int64.ofInt X) 32 = Int64.ofInt (X / 4294967296) := by
  apply Int64.toInt_inj.mp
  rw [oi_ti (X := X / 4294967296) (by omega) (by omega)]
  show ((Int64.ofInt X).toBitVec.sshiftRight 32).toInt = _
  rw [BitVec.toInt_sshiftRight, Int.shiftRight_eq_div_pow]
  show (Int64.ofInt X).toInt / _ = _
  rw [oi_ti h0 h1]
  rfl
theorem oi_wrap (X k : Int) : Int64.ofInt (X + 18446744073709551616 * k) = Int64.ofInt X := by
  apply oi_eq
  have := oi_un (X + 18446744073709551616 * k)
  omega
theorem mul_rng {x y m k n : Int} (h0 : 0 ≤ y) (h1 : y ≤ n) (h2 : -m ≤ x) (h3 : x ≤ k) (hm : 0 ≤ m) (hk : 0 ≤ k) : -(m * n) ≤ x * y ∧ x * y ≤ k * n := by
  have e1 : x * y ≤ k * y := Int.mul_le_mul_of_nonneg_right h3 h0
  have e2 : -m * y ≤ x * y := Int.mul_le_mul_of_nonneg_right h2 h0
  have e3 : k * y ≤ k * n := Int.mul_le_mul_of_nonneg_left h1 hk
  have e4 : m * y ≤ m * n := Int.mul_le_mul_of_nonneg_left h1 hm
  rw [Int.neg_mul] at e2
  omega
/-- the upper half, with sign: of numbers by their halves -/
theorem up_int {a0 a1 b0 b1 : Int} (h0 : 0 ≤ a0 ∧ a0 < 4294967296) (h1 : -2147483648 ≤ a1 ∧ a1 < 2147483648) (h2 : 0 ≤ b0 ∧ b0 < 4294967296) (h3 : -2147483648 ≤ b1 ∧ b1 < 2147483648) : f_X4_upper (Int64.ofInt (4294967296 * a1 + a0)) (Int64.ofInt (4294967296 * b1 + b0)) = Int64.ofInt (a1 * b1 + (a1 * b0 + a0 * b0 / 4294967296) / 4294967296 + ((a1 * b0 + a0 * b0 / 4294967296) % 4294967296 + a0 * b1) / 4294967296) := by
  unfold f_X4_upper
  dsimp only
  have e0 : (4294967296 * a1 + a0) % 4294967296 = a0 := by omega
  have e1 : (4294967296 * a1 + a0) / 4294967296 = a1 := by omega
  have e2 : (4294967296 * b1 + b0) % 4294967296 = b0 := by omega
  have e3 : (4294967296 * b1 + b0) / 4294967296 = b1 := by omega
  have r1 := mul_rng (x := a0) (y := b0) (m := 4294967295) (k := 4294967295) (n := 4294967295) (by omega) (by omega) (by omega) (by omega) (by omega) (by omega)
  have r1' : 0 ≤ a0 * b0 := Int.mul_nonneg h0.1 h2.1
  have r2 := mul_rng (x := a1) (y := b0) (m := 2147483648) (k := 2147483647) (n := 4294967295) (by omega) (by omega) (by omega) (by omega) (by omega) (by omega)
  have r3 := mul_rng (x := b1) (y := a0) (m := 2147483648) (k := 2147483647) (n := 4294967295) (by omega) (by omega) (by omega) (by omega) (by omega) (by omega)
  rw [Int.mul_comm b1 a0] at r3
  rw [oi_and, oi_and, oi_shr (by omega) (by omega), oi_shr (by omega) (by omega), e0, e1, e2, e3, ← Int64.ofInt_mul, ← Int64.ofInt_mul, ← Int64.ofInt_mul, ← Int64.ofInt_mul, oi_ushr (by omega) (by omega), ← Int64.ofInt_add, oi_and, ← Int64.ofInt_add, oi_shr (by omega) (by omega), oi_shr (by omega) (by omega), ← Int64.ofInt_add, ← Int64.ofInt_add]
/-- without sign -/
theorem hp_int {a0 a1 b0 b1 : Int} (h0 : 0 ≤ a0 ∧ a0 < 4294967296) (h1 : 0 ≤ a1 ∧ a1 < 4294967296) (h2 : 0 ≤ b0 ∧ b0 < 4294967296) (h3 : 0 ≤ b1 ∧ b1 < 4294967296) : f_X2_highOfProduct (Int64.ofInt (4294967296 * a1 + a0)) (Int64.ofInt (4294967296 * b1 + b0)) = Int64.ofInt (a1 * b1 + (a1 * b0 + a0 * b0 / 4294967296) / 4294967296 + (a0 * b1 + (a1 * b0 + a0 * b0 / 4294967296) % 4294967296) / 4294967296) := by
  unfold f_X2_highOfProduct
  dsimp only
  have e0 : (4294967296 * a1 + a0) % 4294967296 = a0 := by omega
  have e1 : (4294967296 * a1 + a0) / 4294967296 = a1 := by omega
  have e2 : (4294967296 * b1 + b0) % 4294967296 = b0 := by omega
  have e3 : (4294967296 * b1 + b0) / 4294967296 = b1 := by omega
  have r1 := mul_rng (x := a0) (y := b0) (m := 4294967295) (k := 4294967295) (n := 4294967295) (by omega) (by omega) (by omega) (by omega) (by omega) (by omega)
  have r1' : 0 ≤ a0 * b0 := Int.mul_nonneg h0.1 h2.1
  have r2 := mul_rng (x := a1) (y := b0) (m := 4294967295) (k := 4294967295) (n := 4294967295) (by omega) (by omega) (by omega) (by omega) (by omega) (by omega)
  have r2' : 0 ≤ a1 * b0 := Int.mul_nonneg h1.1 h2.1
  have r3 := mul_rng (x := a0) (y := b1) (m := 4294967295) (k := 4294967295) (n := 4294967295) (by omega) (by omega) (by omega) (by omega) (by omega) (by omega)
  have r3' : 0 ≤ a0 * b1 := Int.mul_nonneg h0.1 h3.1
  rw [oi_and, oi_and, oi_ushr (by omega) (by omega), oi_ushr (by omega) (by omega), e0, e1, e2, e3, ← Int64.ofInt_mul, ← Int64.ofInt_mul, ← Int64.ofInt_mul, ← Int64.ofInt_mul, oi_ushr (by omega) (by omega), ← Int64.ofInt_add, oi_and, ← Int64.ofInt_add, oi_ushr (by omega) (by omega), oi_ushr (by omega) (by omega), ← Int64.ofInt_add, ← Int64.ofInt_add]
theorem i64_split (a : Int64) : a = Int64.ofInt (4294967296 * (a.toInt / 4294967296) + a.toInt % 4294967296) := by
  rw [show 4294967296 * (a.toInt / 4294967296) + a.toInt % 4294967296 = a.toInt from by omega, Int64.ofInt_toInt]
theorem i64_rng (a : Int64) : -9223372036854775808 ≤ a.toInt ∧ a.toInt < 9223372036854775808 := by
  have h1 := Int64.toInt_lt a
  have h0 := Int64.le_toInt a
  omega
theorem i64_nn (a : Int64) : 0 ≤ a ↔ 0 ≤ a.toInt := by
  rw [Int64.le_iff_toInt_le, show (0 : Int64).toInt = 0 from by decide]
theorem hp_up (a b : Int64) : f_X2_highOfProduct a b = f_X4_upper a b + (if 0 ≤ a then 0 else b) + (if 0 ≤ b then 0 else a) := by
  obtain ⟨ra0, ra1⟩ := i64_rng a
  obtain ⟨rb0, rb1⟩ := i64_rng b
  have na := i64_nn a
  have nb := i64_nn b
  have sa := i64_split a
  have sb := i64_split b
  have hu := up_int (a0 := a.toInt % 4294967296) (a1 := a.toInt / 4294967296) (b0 := b.toInt % 4294967296) (b1 := b.toInt / 4294967296) (by omega) (by omega) (by omega) (by omega)
  rw [← sa, ← sb] at hu
  rw [hu]
  by_cases ca : 0 ≤ a
  · have ca' := na.mp ca
    rw [if_pos ca]
    by_cases cb : 0 ≤ b
    · have cb' := nb.mp cb
      rw [if_pos cb, Int64.add_zero, Int64.add_zero]
      have hp := hp_int (a0 := a.toInt % 4294967296) (a1 := a.toInt / 4294967296) (b0 := b.toInt % 4294967296) (b1 := b.toInt / 4294967296) (by omega) (by omega) (by omega) (by omega)
      rw [← sa, ← sb] at hp
      rw [hp]
      congr 1
      omega
    · have cb' : b.toInt < 0 := Int.not_le.mp (fun h => cb (nb.mpr h))
      rw [if_neg cb, Int64.add_zero]
      have hp := hp_int (a0 := a.toInt % 4294967296) (a1 := a.toInt / 4294967296) (b0 := b.toInt % 4294967296) (b1 := b.toInt / 4294967296 + 4294967296) (by omega) (by omega) (by omega) (by omega)
      rw [← sa, show 4294967296 * (b.toInt / 4294967296 + 4294967296) + b.toInt % 4294967296 = (4294967296 * (b.toInt / 4294967296) + b.toInt % 4294967296) + 18446744073709551616 * 1 from by omega, oi_wrap, ← sb] at hp
      rw [hp]
      conv => rhs; rhs; rw [sa]
      rw [← Int64.ofInt_add, Int.mul_add, Int.mul_add]
      congr 1
      generalize a.toInt % 4294967296 = a0 at *
      generalize a.toInt / 4294967296 = a1 at *
      generalize b.toInt % 4294967296 = b0 at *
      generalize b.toInt / 4294967296 = b1 at *
      generalize a0 * b0 = c1
      generalize a1 * b0 = c2
      generalize a0 * b1 = c3
      generalize a1 * b1 = c4
      omega
  · have ca' : a.toInt < 0 := Int.not_le.mp (fun h => ca (na.mpr h))
    rw [if_neg ca]
    by_cases cb : 0 ≤ b
    · have cb' := nb.mp cb
      rw [if_pos cb, Int64.add_zero]
      have hp := hp_int (a0 := a.toInt % 4294967296) (a1 := a.toInt / 4294967296 + 4294967296) (b0 := b.toInt % 4294967296) (b1 := b.toInt / 4294967296) (by omega) (by omega) (by omega) (by omega)
      rw [← sb, show 4294967296 * (a.toInt / 4294967296 + 4294967296) + a.toInt % 4294967296 = (4294967296 * (a.toInt / 4294967296) + a.toInt % 4294967296) + 18446744073709551616 * 1 from by omega, oi_wrap, ← sa] at hp
      rw [hp]
      conv => rhs; rhs; rw [sb]
      rw [← Int64.ofInt_add, Int.add_mul, Int.add_mul]
      congr 1
      generalize a.toInt % 4294967296 = a0 at *
      generalize a.toInt / 4294967296 = a1 at *
      generalize b.toInt % 4294967296 = b0 at *
      generalize b.toInt / 4294967296 = b1 at *
      generalize a0 * b0 = c1
      generalize a1 * b0 = c2
      generalize a0 * b1 = c3
      generalize a1 * b1 = c4
      omega
    · have cb' : b.toInt < 0 := Int.not_le.mp (fun h => cb (nb.mpr h))
      rw [if_neg cb]
      have hp := hp_int (a0 := a.toInt % 4294967296) (a1 := a.toInt / 4294967296 + 4294967296) (b0 := b.toInt % 4294967296) (b1 := b.toInt / 4294967296 + 4294967296) (by omega) (by omega) (by omega) (by omega)
      rw [show 4294967296 * (a.toInt / 4294967296 + 4294967296) + a.toInt % 4294967296 = (4294967296 * (a.toInt / 4294967296) + a.toInt % 4294967296) + 18446744073709551616 * 1 from by omega, oi_wrap, ← sa, show 4294967296 * (b.toInt / 4294967296 + 4294967296) + b.toInt % 4294967296 = (4294967296 * (b.toInt / 4294967296) + b.toInt % 4294967296) + 18446744073709551616 * 1 from by omega, oi_wrap, ← sb] at hp
      rw [hp]
      conv => rhs; rhs; rw [sa]
      conv => rhs; lhs; rhs; rw [sb]
      rw [← Int64.ofInt_add, ← Int64.ofInt_add]
      have key : ∀ P Q : Int, P = Q + 18446744073709551616 * 1 → Int64.ofInt P = Int64.ofInt Q := fun P Q h => by rw [h, oi_wrap]
      refine key _ _ ?_
      generalize a.toInt % 4294967296 = a0 at *
      generalize a.toInt / 4294967296 = a1 at *
      generalize b.toInt % 4294967296 = b0 at *
      generalize b.toInt / 4294967296 = b1 at *
      rw [show (a1 + 4294967296) * (b1 + 4294967296) = a1 * b1 + a1 * 4294967296 + (4294967296 * b1 + 18446744073709551616) from by rw [Int.add_mul, Int.mul_add, Int.mul_add]; rfl, Int.add_mul, Int.mul_add]
      generalize a0 * b0 = c1
      generalize a1 * b0 = c2
      generalize a0 * b1 = c3
      generalize a1 * b1 = c4
      omega
theorem add_sub2 (x y z : Int64) : x + y + z - y - z = x := by
  rw [Int64.add_assoc, Int64.add_comm y z, ← Int64.add_assoc, Int64.add_sub_cancel, Int64.add_sub_cancel]
/-- the upper half with sign: both reckonings -/
theorem hs_eq (a b : Int64) : f_X2_highOfSignedProduct a b = f_X4_upper a b := by
  unfold f_X2_highOfSignedProduct
  dsimp only
  rw [hp_up, add_sub2]
theorem sar63 (a b : Int64) : (jlshr a (63 : Int32)) &&& b = if 0 ≤ a then 0 else b := by
  apply Int64.toBitVec_inj.mp
  rw [Int64.toBitVec_and]
  show (a.toBitVec.sshiftRight 63) &&& b.toBitVec = _
  have hb : a.toBitVec.sshiftRight 63 = if a.toBitVec.msb then BitVec.allOnes 64 else 0#64 := by
    apply BitVec.eq_of_getLsbD_eq
    intro i hi
    rw [BitVec.getLsbD_sshiftRight]
    have h1 : ¬ 64 ≤ i := by omega
    have e : (if 63 + i < 64 then a.toBitVec.getLsbD (63 + i) else a.toBitVec.msb) = a.toBitVec.msb := by
      split
      · next c =>
        have h2 : i = 0 := by omega
        subst h2
        rfl
      · rfl
    rw [e]
    cases a.toBitVec.msb
    · rw [Bool.and_false, if_neg (by decide)]
      exact (BitVec.getLsbD_zero).symm
    · rw [if_pos rfl, Bool.and_true, BitVec.getLsbD_allOnes]
      simp [h1, hi]
  rw [hb]
  by_cases c : 0 ≤ a
  · rw [if_pos c, (nn_iff a).mp c, if_neg (by decide)]
    exact BitVec.zero_and
  · rw [if_neg c]
    have : a.toBitVec.msb = true := by
      cases h : a.toBitVec.msb
      · exact absurd ((nn_iff a).mpr h) c
      · rfl
    rw [this, if_pos rfl]
    exact BitVec.allOnes_and
theorem hi_eq (a b : Int64) : f_X2_highOfProduct a b = (f_X4_upper a b + ((jlshr a (63 : Int32)) &&& b)) + ((jlshr b (63 : Int32)) &&& a) := by
  rw [hp_up, sar63, sar63]
