/-! products: as whole numbers -/
theorem oi_un (X : Int) : (Int64.ofInt X).toBitVec.toNat = X % 18446744073709551616 := by
  show ((BitVec.ofInt 64 X).toNat : Int) = _
  rw [BitVec.toNat_ofInt]
  omega
theorem oi_ti {X : Int} (h0 : -9223372036854775808 ≤ X) (h1 : X < 9223372036854775808) : (Int64.ofInt X).toInt = X := by
  rw [Int64.toInt_ofInt, show Int64.size = 18446744073709551616 from rfl]
  exact Int.bmod_eq_of_le (by omega) (by omega)
theorem oi_eq {x : Int64} {X : Int} (h : (x.toBitVec.toNat : Int) = X % 18446744073709551616) : x = Int64.ofInt X := by
  apply Int64.toBitVec_inj.mp
  apply BitVec.eq_of_toNat_eq
  have := oi_un X
  omega
theorem oi_and (X : Int) : (Int64.ofInt X) &&& (4294967295 : Int64) = Int64.ofInt (X % 4294967296) := by
  apply oi_eq
  rw [Int64.toBitVec_and, BitVec.toNat_and]
  rw [show (4294967295 : Int64).toBitVec.toNat = 2 ^ 32 - 1 from by decide, Nat.and_two_pow_sub_one_eq_mod]
  have := oi_un X
  omega
theorem oi_ushr {X : Int} (h0 : 0 ≤ X) (h1 : X < 18446744073709551616) : jlushr (Int64.ofInt X) 32 = Int64.ofInt (X / 4294967296) := by
  apply oi_eq
  show (((Int64.ofInt X).toBitVec >>> 32).toNat : Int) = _
  rw [BitVec.toNat_ushiftRight, Nat.shiftRight_eq_div_pow]
  have := oi_un X
  omega
theorem oi_shr {X : Int} (h0 : -9223372036854775808 ≤ X) (h1 : X < 9223372036854775808) : jlshr (Int64.ofInt X) 32 = Int64.ofInt (X / 4294967296) := by
  apply Int64.toInt_inj.mp
  rw [oi_ti (X := X / 4294967296) (by omega) (by omega)]
  show ((Int64.ofInt X).toBitVec.sshiftRight 32).toInt = _
  rw [BitVec.toInt_sshiftRight, Int.shiftRight_eq_div_pow]
  show (Int64.ofInt X).toInt / _ = _
  rw [oi_ti h0 h1]
  rfl
theorem oi_wrap (X k : Int) : Int64.ofInt (X + 18446744073709551616 * k) = Int64.ofInt X := by
  apply oi_eq
  have := oi_un (X + 18446744073709551616 * k)
  omega
theorem mul_rng {x y m k n : Int} (h0 : 0 ≤ y) (h1 : y ≤ n) (h2 : -m ≤ x) (h3 : x ≤ k) (hm : 0 ≤ m) (hk : 0 ≤ k) : -(m * n) ≤ x * y ∧ x * y ≤ k * n := by
  have e1 : x * y ≤ k * y := Int.mul_le_mul_of_nonneg_right h3 h0
  have e2 : -m * y ≤ x * y := Int.mul_le_mul_of_nonneg_right h2 h0
  have e3 : k * y ≤ k * n := Int.mul_le_mul_of_nonneg_left h1 hk
  have e4 : m * y ≤ m * n := Int.mul_le_mul_of_nonneg_left h1 hm
  rw [Int.neg_mul] at e2
  omega
/-- the upper half, with sign: of numbers by their halves -/
theorem up_int {a0 a1 b0 b1 : Int} (h0 : 0 ≤ a0 ∧ a0 < 4294967296) (h1 : -2147483648 ≤ a1 ∧ a1 < 2147483648) (h2 : 0 ≤ b0 ∧ b0 < 4294967296) (h3 : -2147483648 ≤ b1 ∧ b1 < 2147483648) : f_X4_upper (Int64.ofInt (4294967296 * a1 + a0)) (Int64.ofInt (4294967296 * b1 + b0)) = Int64.ofInt (a1 * b1 + (a1 * b0 + a0 * b0 / 4294967296) / 4294967296 + ((a1 * b0 + a0 * b0 / 4294967296) % 4294967296 + a0 * b1) / 4294967296) := by
  unfold f_X4_upper
  dsimp only
  have e0 : (4294967296 * a1 + a0) % 4294967296 = a0 := by omega
  have e1 : (4294967296 * a1 + a0) / 4294967296 = a1 := by omega
  have e2 : (4294967296 * b1 + b0) % 4294967296 = b0 := by omega
  have e3 : (4294967296 * b1 + b0) / 4294967296 = b1 := by omega
  have r1 := mul_rng (x := a0) (y := b0) (m := 4294967295) (k := 4294967295) (n := 4294967295) (by omega) (by omega) (by omega) (by omega) (by omega) (by omega)
  have r1' : 0 ≤ a0 * b0 := Int.mul_nonneg h0.1 h2.1
  have r2 := mul_rng (x := a1) (y := b0) (m := 2147483648) (k := 2147483647) (n := 4294967295) (by omega) (by omega) (by omega) (by omega) (by omega) (by omega)
  have r3 := mul_rng (x := b1) (y := a0) (m := 2147483648) (k := 2147483647) (n := 4294967295) (by omega) (by omega) (by omega) (by omega) (by omega) (by omega)
  rw [Int.mul_comm b1 a0] at r3
  rw [oi_and, oi_and, oi_shr (by omega) (by omega), oi_shr (by omega) (by omega), e0, e1, e2, e3, ← Int64.ofInt_mul, ← Int64.ofInt_mul, ← Int64.ofInt_mul, ← Int64.ofInt_mul, oi_ushr (by omega) (by omega), ← Int64.ofInt_add, oi_and, ← Int64.ofInt_add, oi_shr (by omega) (by omega), oi_shr (by omega) (by omega), ← Int64.ofInt_add, ← Int64.ofInt_add]
/-- without sign -/
theorem hp_int {a0 a1 b0 b1 : Int} (h0 : 0 ≤ a0 ∧ a0 < 4294967296) (h1 : 0 ≤ a1 ∧ a1 < 4294967296) (h2 : 0 ≤ b0 ∧ b0 < 4294967296) (h3 : 0 ≤ b1 ∧ b1 < 4294967296) : f_X2_highOfProduct (Int64.ofInt (4294967296 * a1 + a0)) (Int64.ofInt (4294967296 * b1 + b0)) = Int64.ofInt (a1 * b1 + (a1 * b0 + a0 * b0 / 4294967296) / 4294967296 + (a0 * b1 + (a1 * b0 + a0 * b0 / 4294967296) % 4294967296) / 4294967296) := by
  unfold f_X2_highOfProduct
  dsimp only
  have e0 : (4294967296 * a1 + a0) % 4294967296 = a0 := by omega
  have e1 : (4294967296 * a1 + a0) / 4294967296 = a1 := by omega
  have e2 : (4294967296 * b1 + b0) % 4294967296 = b0 := by omega
  have e3 : (4294967296 * b1 + b0) / 4294967296 = b1 := by omega
  have r1 := mul_rng (x := a0) (y := b0) (m := 4294967295) (k := 4294967295) (n := 4294967295) (by omega) (by omega) (by omega) (by omega) (by omega) (by omega)
  have r1' : 0 ≤ a0 * b0 := Int.mul_nonneg h0.1 h2.1
  have r2 := mul_rng (x := a1) (y := b0) (m := 4294967295) (k := 4294967295) (n := 4294967295) (by omega) (by omega) (by omega) (by omega) (by omega) (by omega)
  have r2' : 0 ≤ a1 * b0 := Int.mul_nonneg h1.1 h2.1
  have r3 := mul_rng (x := a0) (y := b1) (m := 4294967295) (k := 4294967295) (n := 4294967295) (by omega) (by omega) (by omega) (by omega) (by omega) (by omega)
  have r3' : 0 ≤ a0 * b1 := Int.mul_nonneg h0.1 h3.1
  rw [oi_and, oi_and, oi_ushr (by omega) (by omega), oi_ushr (by omega) (by omega), e0, e1, e2, e3, ← Int64.ofInt_mul, ← Int64.ofInt_mul, ← Int64.ofInt_mul, ← Int64.ofInt_mul, oi_ushr (by omega) (by omega), ← Int64.ofInt_add, oi_and, ← Int64.ofInt_add, oi_ushr (by omega) (by omega), oi_ushr (by omega) (by omega), ← Int64.ofInt_add, ← Int64.ofInt_add]
