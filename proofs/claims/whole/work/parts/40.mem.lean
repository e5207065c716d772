/-! the reference's memory: indices -/
theorem sz_nat {p : Int32} (hs : p = 1 ∨ p = 2 ∨ p = 4 ∨ p = 8) : ∃ k : Nat, (k = 1 ∨ k = 2 ∨ k = 4 ∨ k = 8) ∧ p = nI k := by
  rcases hs with rfl | rfl | rfl | rfl
  · exact ⟨1, Or.inl rfl, rfl⟩
  · exact ⟨2, Or.inr (Or.inl rfl), rfl⟩
  · exact ⟨4, Or.inr (Or.inr (Or.inl rfl)), rfl⟩
  · exact ⟨8, Or.inr (Or.inr (Or.inr rfl)), rfl⟩
theorem sz_next {n : Nat} {p w : Int32} (hs : p = 1 ∨ p = 2 ∨ p = 4 ∨ p = 8) (hI : w = nI (p.toNatClampNeg + 1 - (n + 1)) ∧ 0 < n + 1 ∧ n + 1 ≤ p.toNatClampNeg + 1) (c : ¬ p ≤ w) : w + 1 = nI (p.toNatClampNeg + 1 - n) ∧ 0 < n ∧ n ≤ p.toNatClampNeg + 1 := by
  obtain ⟨k, hk, rfl⟩ := sz_nat hs
  rw [nI_clamp (by omega)] at hI ⊢
  exact up_next (by omega) hI c
theorem by_of {a : Int64} (h : (f_X4_beyond a) = 0) : ∃ j : Nat, j < 16384 ∧ a = lN j := by
  unfold f_X4_beyond at h
  by_cases h1 : a < (0 : Int64)
  · rw [if_pos h1] at h
    exact absurd h (by decide)
  · rw [if_neg h1] at h
    by_cases h2 : a ≤ (16383 : Int64)
    · have h3 : 0 ≤ a.toInt := by
        have := Int64.le_iff_toInt_le.mp (Int64.not_lt.mp h1)
        exact this
      have h4 : a.toInt ≤ 16383 := Int64.le_iff_toInt_le.mp h2
      refine ⟨a.toInt.toNat, by omega, ?_⟩
      apply Int64.toInt_inj.mp
      rw [lN_toInt (by omega)]
      omega
    · rw [if_neg h2] at h
      exact absurd h (by decide)
theorem mk_bits : ∀ k : Fin 4, ∀ i : Fin 32, (-(BitVec.ofNat 32 (2 ^ k.val))).getLsbD i.val = decide (k.val ≤ i.val) := by decide +kernel
/-- a number without its low k bits -/
theorem mk_and (j k : Nat) (hk : k < 4) (hj : j < 2 ^ 31) : nI j &&& -(nI (2 ^ k)) = nI (j / 2 ^ k * 2 ^ k) := by
  apply Int32.toBitVec_inj.mp
  rw [Int32.toBitVec_and, Int32.toBitVec_neg]
  show BitVec.ofNat 32 j &&& -(BitVec.ofNat 32 (2 ^ k)) = BitVec.ofNat 32 (j / 2 ^ k * 2 ^ k)
  apply BitVec.eq_of_getLsbD_eq
  intro i hi
  rw [BitVec.getLsbD_and, mk_bits ⟨k, hk⟩ ⟨i, hi⟩]
  simp only [BitVec.getLsbD_ofNat, hi, decide_true, Bool.true_and]
  rw [← Nat.shiftRight_eq_div_pow, ← Nat.shiftLeft_eq, Nat.testBit_shiftLeft]
  by_cases h : k ≤ i
  · simp only [h, decide_true, Bool.and_true, Bool.true_and, Nat.testBit_shiftRight, ge_iff_le]
    congr 1
    omega
  · simp only [h, decide_false, Bool.and_false, Bool.false_and, ge_iff_le]
theorem in_mem {n : Nat} {a : Int64} {p q w : Int32} (hb : (f_X4_beyond a) = 0) (hs : p = 1 ∨ p = 2 ∨ p = 4 ∨ p = 8) (hq : q = (a.toInt32) &&& (-p)) (hI : w = nI (p.toNatClampNeg + 1 - (n + 1)) ∧ 0 < n + 1 ∧ n + 1 ≤ p.toNatClampNeg + 1) (c : ¬ p ≤ w) : vp_in (q + w) 16384 := by
  have h1 := sz_next hs hI c
  obtain ⟨k, hk, rfl⟩ := sz_nat hs
  obtain ⟨j, hj, rfl⟩ := by_of hb
  rw [nI_clamp (by omega)] at hI h1
  obtain ⟨rfl, -, -⟩ := hI
  have h2 : (lN j).toInt32 = nI j := by
    apply Int32.toBitVec_inj.mp
    show (BitVec.ofNat 64 j).signExtend 32 = BitVec.ofNat 32 j
    rw [BitVec.signExtend_eq_setWidth_of_le _ (by decide)]
    apply BitVec.eq_of_toNat_eq
    simp only [BitVec.toNat_setWidth, BitVec.toNat_ofNat]
    omega
  obtain ⟨e, he, rfl⟩ : ∃ e, e < 4 ∧ k = 2 ^ e := by
    rcases hk with rfl | rfl | rfl | rfl
    · exact ⟨0, by decide, rfl⟩
    · exact ⟨1, by decide, rfl⟩
    · exact ⟨2, by decide, rfl⟩
    · exact ⟨3, by decide, rfl⟩
  rw [hq, h2, mk_and j e he (by omega), nI_add]
  refine vp_in_nI ?_ (by decide)
  have h5 : e = 0 ∨ e = 1 ∨ e = 2 ∨ e = 3 := by omega
  rcases h5 with rfl | rfl | rfl | rfl <;> simp only [Nat.reducePow] at * <;> omega
/-- the size of an access, out of the OP's bits -/
theorem sz_op (k : Int32) : (jshl 1 ((jshr k 2) &&& 3)) = 1 ∨ (jshl 1 ((jshr k 2) &&& 3)) = 2 ∨ (jshl 1 ((jshr k 2) &&& 3)) = 4 ∨ (jshl 1 ((jshr k 2) &&& 3)) = 8 := by
  obtain ⟨j, hj, h⟩ := pk_andE (jshr k 2) (m := 3) 2 (by decide)
  rw [h]
  have h2 : j = 0 ∨ j = 1 ∨ j = 2 ∨ j = 3 := by omega
  rcases h2 with rfl | rfl | rfl | rfl
  · exact Or.inl (by decide)
  · exact Or.inr (Or.inl (by decide))
  · exact Or.inr (Or.inr (Or.inl (by decide)))
  · exact Or.inr (Or.inr (Or.inr (by decide)))
theorem or_i {α : Type} {P : α → Prop} {c : Prop} [Decidable c] {a b : α} (ha : P a) (hb : P b) : P (if c then a else b) := by
  by_cases h : c
  · rw [if_pos h]; exact ha
  · rw [if_neg h]; exact hb
