theorem nn_iff (x : Int64) : 0 ≤ x ↔ x.toBitVec.msb = false := by
  rw [BitVec.msb_eq_toInt, Int64.le_iff_toInt_le, show (0 : Int64).toInt = 0 from by decide]
  show 0 ≤ x.toInt ↔ decide (x.toInt < 0) = false
  rw [decide_eq_false_iff_not]
  omega
theorem xs_iff (a b : Int64) : 0 ≤ a ^^^ b ↔ (0 ≤ a ↔ 0 ≤ b) := by
  rw [nn_iff, nn_iff a, nn_iff b, Int64.toBitVec_xor, BitVec.msb_xor]
  cases a.toBitVec.msb <;> cases b.toBitVec.msb <;> decide
theorem rz_iff (a c : Int64) : a - c = 0 ↔ c = a := by
  constructor
  · intro h
    have := Int64.sub_eq_iff_eq_add.mp h
    rw [Int64.zero_add] at this
    exact this.symm
  · rintro rfl
    exact Int64.sub_self _
theorem rem_sg (a b : Int64) (h : ¬ a - a / b * b = 0) : 0 ≤ a - a / b * b ↔ 0 ≤ a := by
  have e0 : (0 : Int64).toInt = 0 := by decide
  have h' : ¬ (a - a / b * b).toInt = 0 := fun e => h (Int64.toInt_inj.mp (by rw [e, e0]))
  rw [Int64.le_iff_toInt_le, Int64.le_iff_toInt_le, e0]
  rw [rem_int] at h' ⊢
  constructor
  · intro h1
    by_cases c : 0 ≤ a.toInt
    · exact c
    · exfalso
      have := Int.neg_tmod (-a.toInt) b.toInt
      rw [Int.neg_neg] at this
      have h4 := Int.tmod_nonneg b.toInt (show 0 ≤ -a.toInt by omega)
      omega
  · intro h1
    exact Int.tmod_nonneg _ h1
theorem fd_eq (a b : Int64) : f_J9_floorDiv_f86c9 a b = (if (a - a / b * b) = (0 : Int64) then a / b else if (if (0 : Int64) ≤ (a - a / b * b) then (0 : Int32) else (1 : Int32)) = (if (0 : Int64) ≤ b then (0 : Int32) else (1 : Int32)) then a / b else a / b - (1 : Int64)) := by
  unfold f_J9_floorDiv_f86c9
  dsimp only
  by_cases c1 : a - a / b * b = 0
  · rw [if_pos c1]
    by_cases c2 : 0 ≤ a ^^^ b
    · rw [if_pos c2]
    · rw [if_neg c2, if_pos ((rz_iff _ _).mp c1)]
  · rw [if_neg c1]
    have c3 := rem_sg a b c1
    have c4 := xs_iff a b
    by_cases c2 : 0 ≤ a ^^^ b
    · rw [if_pos c2]
      have c5 := c4.mp c2
      by_cases c6 : 0 ≤ b
      · rw [if_pos c6, if_pos (c3.mpr (c5.mpr c6)), if_pos rfl]
      · rw [if_neg c6, if_neg (fun h => c6 (c5.mp (c3.mp h))), if_pos rfl]
    · rw [if_neg c2, if_neg (fun h => c1 ((rz_iff _ _).mpr h))]
      have c5 : ¬ (0 ≤ a ↔ 0 ≤ b) := fun h => c2 (c4.mpr h)
      by_cases c6 : 0 ≤ b
      · rw [if_pos c6, if_neg (fun h => c5 ⟨fun _ => c6, fun _ => c3.mp h⟩), if_neg (by decide)]
      · rw [if_neg c6]
        by_cases c7 : 0 ≤ a
        · rw [if_pos (c3.mpr c7), if_neg (by decide)]
        · exact absurd ⟨fun h => absurd h c7, fun h => absurd h c6⟩ c5
