theorem and1 (x : Int32) : x &&& 1 = 0 ∨ x &&& 1 = 1 := by
  have h : (x &&& 1).toBitVec.toNat = x.toBitVec.toNat % 2 := by
    rw [Int32.toBitVec_and, BitVec.toNat_and, show (1 : Int32).toBitVec.toNat = 1 from by decide, Nat.and_one_is_mod]
  rcases Nat.mod_two_eq_zero_or_one x.toBitVec.toNat with e | e
  · refine Or.inl (Int32.toBitVec_inj.mp (BitVec.eq_of_toNat_eq ?_))
    rw [h, e]; rfl
  · refine Or.inr (Int32.toBitVec_inj.mp (BitVec.eq_of_toNat_eq ?_))
    rw [h, e]; rfl
theorem yz_nat (x : Int32) : ∃ n : Nat, n < 65536 ∧ x &&& 65535 = nI n := by
  refine ⟨x.toBitVec.toNat % 65536, by omega, Int32.toBitVec_inj.mp (BitVec.eq_of_toNat_eq ?_)⟩
  rw [Int32.toBitVec_and, BitVec.toNat_and, show (65535 : Int32).toBitVec.toNat = 2 ^ 16 - 1 from by decide, Nat.and_two_pow_sub_one_eq_mod]
  show _ = (BitVec.ofNat 32 (x.toBitVec.toNat % 65536)).toNat
  rw [BitVec.toNat_ofNat]
  omega
theorem ho_01 (k : Int32) (x : Int64) : f_X4_holds k x = 0 ∨ f_X4_holds k x = 1 := by
  unfold f_X4_holds
  repeat' split
  all_goals first
    | exact Or.inl rfl
    | exact Or.inr rfl
theorem back4 {n : Nat} (h : n < 65536) : (4 : Int64) * (nI n - (65536 : Int32)).toInt64 = (-4 : Int64) * ((65536 : Int32) - nI n).toInt64 := by
  apply Int64.toInt_inj.mp
  have e1 : (nI n - (65536 : Int32)).toInt = n - 65536 := by
    rw [Int32.toInt_sub, nI_toInt (by omega), show (65536 : Int32).toInt = 65536 from by decide, Int.bmod_eq_of_le (by omega) (by omega)]
  have e2 : ((65536 : Int32) - nI n).toInt = 65536 - n := by
    rw [Int32.toInt_sub, nI_toInt (by omega), show (65536 : Int32).toInt = 65536 from by decide, Int.bmod_eq_of_le (by omega) (by omega)]
  rw [Int64.toInt_mul, Int64.toInt_mul, Int32.toInt_toInt64, Int32.toInt_toInt64, e1, e2, show (4 : Int64).toInt = 4 from by decide, show (-4 : Int64).toInt = -4 from by decide, show (4 : Int) * (n - 65536) = -4 * (65536 - n) from by omega]
theorem rel_eq (w : Int32) (here : Int64) : f_X3_relative w here = here + (if (f_X3_opOf w &&& 1) = 0 then (4 : Int64) * (w &&& 65535).toInt64 else (-4 : Int64) * ((65536 : Int32) - (w &&& 65535)).toInt64) := by
  unfold f_X3_relative f_X3_wydeYZ
  dsimp only
  rcases and1 (f_X3_opOf w) with e | e
  · rw [e, show (if (0 : Int32) = 1 then (1 : Int32) else 0) = 0 from by decide, if_pos rfl, if_pos rfl]
  · rw [e, show (if (1 : Int32) = 1 then (1 : Int32) else 0) = 1 from by decide, if_neg (by decide), if_neg (by decide)]
    obtain ⟨n, hn, en⟩ := yz_nat w
    rw [en, back4 hn]
theorem w_branch {u : XS} {v : MS} (h : Core u v) (w : Int32) : (f_X4_branch v (f_X3_opOf w) (f_X3_byteX w) (w &&& 65535)).1 = 0 ∧ Core (f_X3_branch (pc4 u) w (x_pc u)) (f_X4_branch v (f_X3_opOf w) (f_X3_byteX w) (w &&& 65535)).2 ∧ x_oo (f_X3_branch (pc4 u) w (x_pc u)) = x_oo u + (if m_lt (f_X4_branch v (f_X3_opOf w) (f_X3_byteX w) (w &&& 65535)).2 = 0 then 0 else 2) ∧ KeepM v (f_X4_branch v (f_X3_opOf w) (f_X3_byteX w) (w &&& 65535)).2 := by
  obtain ⟨hg, hsp, hob, hol, hpl, hpc, htr, hmm, h0, h5, hj, hct, hnm, hcd⟩ := h
  have eg : x_g (pc4 u) (f_X3_byteX w).toNatClampNeg = m_g v (f_X3_byteX w).toNatClampNeg := congrFun hg _
  unfold f_X3_branch f_X4_branch
  dsimp only
  rw [ho_eq, rel_eq, eg]
  have h01 := ho_01 ((jshr (f_X3_opOf w) 1) &&& 7) (m_g v (f_X3_byteX w).toNatClampNeg)
  generalize f_X4_holds ((jshr (f_X3_opOf w) 1) &&& 7) (m_g v (f_X3_byteX w).toNatClampNeg) = q at *
  by_cases c : f_X3_opOf w < 80
  · have e80 : (if f_X3_opOf w < 80 then (0 : Int32) else 1) = 0 := if_pos c
    have e81 : (if 80 ≤ f_X3_opOf w then (0 : Int32) else 1) = 1 := if_neg (Int32.not_le.mpr c)
    rw [e80, e81]
    rcases h01 with rfl | rfl
    · refine ⟨rfl, ⟨hg, hsp, hob, hol, hpl, ?_, htr, hmm, h0, h5, hj, hct, hnm, hcd⟩, ?_, rfl, rfl, rfl, rfl⟩
      · show x_pc u + 4 = m_pc v + 4
        rw [hpc]
      · show x_oo u = x_oo u + 0
        rw [Int64.add_zero]
    · refine ⟨rfl, ⟨hg, hsp, hob, hol, hpl, ?_, htr, hmm, h0, h5, hj, hct, hnm, hcd⟩, rfl, rfl, rfl, rfl, rfl⟩
      show x_pc u + _ = m_pc v + _
      rw [hpc]
      rfl
  · have e80 : (if f_X3_opOf w < 80 then (0 : Int32) else 1) = 1 := if_neg c
    have e81 : (if 80 ≤ f_X3_opOf w then (0 : Int32) else 1) = 0 := if_pos (Int32.not_lt.mp c)
    rw [e80, e81]
    rcases h01 with rfl | rfl
    · refine ⟨rfl, ⟨hg, hsp, hob, hol, hpl, ?_, htr, hmm, h0, h5, hj, hct, hnm, hcd⟩, rfl, rfl, rfl, rfl, rfl⟩
      show x_pc u + 4 = m_pc v + 4
      rw [hpc]
    · refine ⟨rfl, ⟨hg, hsp, hob, hol, hpl, ?_, htr, hmm, h0, h5, hj, hct, hnm, hcd⟩, ?_, rfl, rfl, rfl, rfl⟩
      · show x_pc u + _ = m_pc v + _
        rw [hpc]
        rfl
      · show x_oo u = x_oo u + 0
        rw [Int64.add_zero]
