theorem nI_64 {n : Nat} (h : n < 2 ^ 31) : (nI n).toInt64 = lN n := by
  apply Int64.toInt_inj.mp
  rw [Int32.toInt_toInt64, nI_toInt h, lN_toInt (by omega)]
theorem nI_inj {a b : Nat} (ha : a < 2 ^ 31) (hb : b < 2 ^ 31) (h : nI a = nI b) : a = b := by
  have := congrArg Int32.toInt h
  rw [nI_toInt ha, nI_toInt hb] at this
  omega
theorem store_cl {u : XS} {mm : Nat → Int32} (h : relMem (x_oc u) mm) {k r n : Nat} (hk : k < 2048) (hr : r < 8) (hn : isSz n) (x : Int64) : ∃ oc' : Nat → Int64, f_X0_store u (lN (8 * k + r)) (nI n) x = sx_oc u oc' ∧ relMem oc' (fun q => if 8 * k + r / n * n ≤ q ∧ q < 8 * k + r / n * n + n then Int32.ofBitVec ((x.toBitVec.extractLsb' (8 * (n - 1 - (q - (8 * k + r / n * n)))) 8).signExtend 32) else mm q) := by
  obtain ⟨hs, ho⟩ := sh_of hk hr hn
  have hn8 : 1 ≤ n ∧ n ≤ 8 := by unfold isSz at hn; omega
  refine ⟨_, rfl, ?_⟩
  rw [hs, oct_of hk hr, nI_clamp (n := k) (by omega)]
  intro k' j hk' hj
  dsimp only
  unfold vp_updL
  by_cases c : k' = k
  · subst c
    rw [if_pos rfl]
    unfold bX
    have e3 : (x_oc u k' &&& (jlshl (f_X0_maskOf (nI n)) (nI (8 * (8 - n - r / n * n))) ^^^ (-1 : Int64)) ||| jlshl (x &&& f_X0_maskOf (nI n)) (nI (8 * (8 - n - r / n * n)))).toBitVec = ((x_oc u k').toBitVec &&& (((BitVec.allOnes 64 >>> (64 - 8 * n)) <<< (8 * (8 - n - r / n * n))) ^^^ BitVec.allOnes 64)) ||| ((x.toBitVec &&& (BitVec.allOnes 64 >>> (64 - 8 * n))) <<< (8 * (8 - n - r / n * n))) := by
      rw [Int64.toBitVec_or, Int64.toBitVec_and, Int64.toBitVec_xor, jlshl_8c _ _ (by omega), jlshl_8c _ _ (by omega), Int64.toBitVec_and, mask_of hn]
      rfl
    rw [e3, st_bits _ _ n (r / n * n) j hn8.1 ho hj]
    by_cases c1 : r / n * n ≤ j ∧ j < r / n * n + n
    · rw [if_pos c1, if_pos (by omega), show 8 * k' + j - (8 * k' + r / n * n) = j - r / n * n from by omega]
    · rw [if_neg c1, if_neg (by omega), h k' j hk hj]
      rfl
  · rw [if_neg c, if_neg (by omega), h k' j hk' hj]
theorem b255 : ∀ i : Fin 32, (255#32).getLsbD i.val = decide (i.val < 8) := by decide
theorem wb (v a b c : BitVec 32) (i : Nat) (hi : i < 4) : ((((((v <<< 24) ||| ((a &&& 255#32) <<< 16)) ||| ((b &&& 255#32) <<< 8)) ||| (c &&& 255#32)).signExtend 64).extractLsb' (8 * (3 - i)) 8) = ((if i = 0 then v else if i = 1 then a else if i = 2 then b else c).extractLsb' 0 8) := by
  apply BitVec.eq_of_getLsbD_eq
  intro t ht
  have h255 : ∀ n : Nat, n < 32 → (255#32).getLsbD n = decide (n < 8) := fun n h => b255 ⟨n, h⟩
  have hc : i = 0 ∨ i = 1 ∨ i = 2 ∨ i = 3 := by omega
  rw [BitVec.getLsbD_extractLsb', BitVec.getLsbD_extractLsb', BitVec.getLsbD_signExtend]
  rcases hc with rfl | rfl | rfl | rfl
  · have g1 : 24 + t < 32 := by omega
    have g2 : ¬ 24 + t < 16 := by omega
    have g3 : ¬ 24 + t < 8 := by omega
    have g4 : ¬ 24 + t < 24 := by omega
    have g5 : 24 + t - 16 < 32 := by omega
    have g6 : 24 + t - 8 < 32 := by omega
    have g7 : ¬ 24 + t - 16 < 8 := by omega
    have g8 : ¬ 24 + t - 8 < 8 := by omega
    have g9 : 24 + t < 64 := by omega
    simp only [Nat.reduceMul, Nat.reduceSub, BitVec.getLsbD_or, BitVec.getLsbD_and, BitVec.getLsbD_shiftLeft, h255 _ g1, h255 _ g5, h255 _ g6, ht, g1, g2, g3, g4, g7, g8, g9, decide_true, decide_false, Bool.and_false, Bool.or_false, Bool.true_and, Bool.not_false, if_true, Nat.add_sub_cancel_left, Nat.zero_add]
  · have g1 : 16 + t < 32 := by omega
    have g2 : ¬ 16 + t < 16 := by omega
    have g3 : ¬ 16 + t < 8 := by omega
    have g4 : 16 + t < 24 := by omega
    have g6 : 16 + t - 8 < 32 := by omega
    have g8 : ¬ 16 + t - 8 < 8 := by omega
    have g9 : 16 + t < 64 := by omega
    have gt : t < 32 := by omega
    simp only [Nat.reduceMul, Nat.reduceSub, BitVec.getLsbD_or, BitVec.getLsbD_and, BitVec.getLsbD_shiftLeft, Nat.add_sub_cancel_left, h255 _ g1, h255 _ gt, h255 _ g6, ht, g1, g2, g3, g4, g8, g9, decide_true, decide_false, Bool.and_false, Bool.and_true, Bool.or_false, Bool.false_or, Bool.false_and, Bool.true_and, Bool.not_false, Bool.not_true, if_true, if_false, Nat.zero_add, Nat.one_ne_zero]
  · have g1 : 8 + t < 32 := by omega
    have g2 : 8 + t < 16 := by omega
    have g3 : ¬ 8 + t < 8 := by omega
    have g4 : 8 + t < 24 := by omega
    have g9 : 8 + t < 64 := by omega
    have gt : t < 32 := by omega
    have k1 : ¬ 2 = 0 := by omega
    have k2 : ¬ 2 = 1 := by omega
    simp only [Nat.reduceMul, Nat.reduceSub, BitVec.getLsbD_or, BitVec.getLsbD_and, BitVec.getLsbD_shiftLeft, Nat.add_sub_cancel_left, h255 _ g1, h255 _ gt, ht, g1, g2, g3, g4, g9, k1, k2, decide_true, decide_false, Bool.and_false, Bool.and_true, Bool.or_false, Bool.false_or, Bool.false_and, Bool.true_and, Bool.not_false, Bool.not_true, if_true, if_false, Nat.zero_add]
  · have g1 : t < 32 := by omega
    have g2 : t < 16 := by omega
    have g4 : t < 24 := by omega
    have g9 : t < 64 := by omega
    simp [BitVec.getLsbD_or, BitVec.getLsbD_and, BitVec.getLsbD_shiftLeft, h255 _ g1, ht, g1, g2, g4, g9]
theorem nar_p (p : Int32) : Int32.ofBitVec ((p.toBitVec.extractLsb' 0 8).signExtend 32) = vp_nar .byte p.toInt8.toInt32 := by
  rw [nar_b]
  apply Int32.toBitVec_inj.mp
  show (p.toBitVec.extractLsb' 0 8).signExtend 32 = (BitVec.signExtend 32 (BitVec.signExtend 8 (BitVec.signExtend 32 (BitVec.signExtend 8 p.toBitVec))))
  congr 1
  apply BitVec.eq_of_getLsbD_eq
  intro b hb
  have h2 : b < 32 := by omega
  simp only [BitVec.getLsbD_signExtend, BitVec.getLsbD_extractLsb', hb, h2, decide_true, Bool.true_and, if_true, Nat.zero_add]
theorem wordB (v a b c : Int32) : ((jshl v (24 : Int32) ||| jshl (a &&& (255 : Int32)) (16 : Int32) ||| jshl (b &&& (255 : Int32)) (8 : Int32)) ||| (c &&& (255 : Int32))).toInt64.toBitVec = ((((v.toBitVec <<< 24) ||| ((a.toBitVec &&& 255#32) <<< 16)) ||| ((b.toBitVec &&& 255#32) <<< 8)) ||| (c.toBitVec &&& 255#32)).signExtend 64 := rfl
theorem by_lt {n : Nat} (h : n < 16384) : f_X3_isBeyond (lN n) = 0 := by
  unfold f_X3_isBeyond
  rw [if_neg (by rw [Int64.lt_iff_toInt_lt, lN_toInt (by omega), show (0 : Int64).toInt = 0 from by decide]; omega), if_pos (by rw [Int64.lt_iff_toInt_lt, lN_toInt (by omega), show (16384 : Int64).toInt = 16384 from by decide]; omega)]
theorem q_put {u : XS} {v : MS} (h : Rel u v) (p0 p1 p2 p3 : Int32) : AgP (rLi (f_X3_put u p0 p1 p2 p3)) (mLi (f_X4_put v p0 p1 p2 p3)) := by
  obtain ⟨j, hj, ej⟩ := h.plj
  have hn := names_eq p0
  obtain ⟨k, ek, hk⟩ := put_loop (v := sm_th v 0) h.ct h.nm h.cd p0 p1 p2 p3 317 0 (by decide) (by decide)
  have hct : m_ct (sm_th v 0) = nI 316 := h.ct.trans ct_uM1
  have epl : m_pl (sm_th v 0) = nI (4 * j) := h.pl.symm.trans ej
  unfold f_X3_put f_X4_put f_X4_fail
  dsimp only
  rw [cOp_eq, show lf_X4_put_8 (sm_th v 0) p0 p1 p2 p3 (316 + 1) (0 : Int32) = nI k from ek, hct, epl, ej]
  unfold chkP at hn
  rw [List.drop_zero, List.drop_zero] at hk
  rcases hk with ⟨rfl, ht⟩ | ⟨hk, ht⟩
  · rw [ht] at hn
    rw [if_neg (of_decide_eq_true hn), if_pos rfl]
    exact ⟨rfl, fun h => absurd h (show ¬ (1 : Int32) = 0 by decide), h.th _⟩
  · rw [ht] at hn
    obtain ⟨hc, hc0, hc1⟩ := of_decide_eq_true hn
    have hne : ¬ nI k = nI 316 := fun e => absurd (nI_inj (by omega) (by omega) e) (by omega)
    rw [hc, if_pos hc0, if_neg hne, nI_64 (by omega)]
    by_cases c : j = 4096
    · subst c
      rw [if_neg (by decide), if_neg (by decide)]
      exact ⟨rfl, fun h => absurd h (show ¬ (2 : Int32) = 0 by decide), h.th _⟩
    · rw [if_pos (by_lt (by omega)), if_pos (show nI (4 * j) ≤ (16383 : Int32) from nI_le (a := 4 * j) (b := 16383) (by omega) (by omega))]
      obtain ⟨k2, r, hk2, hr, hr4, e4⟩ : ∃ k2 r : Nat, k2 < 2048 ∧ r < 8 ∧ r / 4 * 4 = r ∧ 4 * j = 8 * k2 + r := ⟨j / 2, 4 * (j % 2), by omega, by omega, by omega, by omega⟩
      refine ⟨rfl, fun _ => ?_, ?_⟩
      · show (m_cd (sm_th v 0) k).toInt64 = (m_cd v (nI k).toNatClampNeg).toInt64
        rw [nI_clamp (by omega)]
        rfl
      · obtain ⟨oc', e1, e2⟩ := store_cl (u := u) (mm := m_mm v) h.mm hk2 hr (n := 4) (by unfold isSz; omega) (((jshl (m_cd (sm_th v 0) k) (24 : Int32) ||| jshl (p1 &&& (255 : Int32)) (16 : Int32) ||| jshl (p2 &&& (255 : Int32)) (8 : Int32)) ||| (p3 &&& (255 : Int32))).toInt64)
        rw [e4] at ej epl ⊢
        have epl' : m_pl v = nI (8 * k2 + r) := epl
        have e1' : f_X0_store u (lN (8 * k2 + r)) (4 : Int32) (((jshl (m_cd (sm_th v 0) k) (24 : Int32) ||| jshl (p1 &&& (255 : Int32)) (16 : Int32) ||| jshl (p2 &&& (255 : Int32)) (8 : Int32)) ||| (p3 &&& (255 : Int32))).toInt64) = sx_oc u oc' := e1
        show Rel (sx_pl (f_X0_store u (lN (8 * k2 + r)) (4 : Int32) (((jshl (m_cd (sm_th v 0) k) (24 : Int32) ||| jshl (p1 &&& (255 : Int32)) (16 : Int32) ||| jshl (p2 &&& (255 : Int32)) (8 : Int32)) ||| (p3 &&& (255 : Int32))).toInt64)) (x_pl (f_X0_store u (lN (8 * k2 + r)) (4 : Int32) (((jshl (m_cd (sm_th v 0) k) (24 : Int32) ||| jshl (p1 &&& (255 : Int32)) (16 : Int32) ||| jshl (p2 &&& (255 : Int32)) (8 : Int32)) ||| (p3 &&& (255 : Int32))).toInt64)) + 4)) _
        rw [e1']
        refine ⟨h.g, h.sp, h.ta, h.ob, h.ol, ?_, h.pc, h.oo, h.me, h.tr, h.la, ?_, h.ol0, h.ol5, ?_, h.ct, h.nm, h.cd⟩
        · show x_pl u + 4 = m_pl v + 4
          rw [h.pl]
        · show relMem oc' (upd (upd (upd (upd (m_mm v) (nI (8 * k2 + r)).toNatClampNeg (vp_nar .byte (m_cd v (nI k).toNatClampNeg).toInt8.toInt32)) (m_pl v + nI 1).toNatClampNeg (vp_nar .byte p1.toInt8.toInt32)) (m_pl v + nI 2).toNatClampNeg (vp_nar .byte p2.toInt8.toInt32)) (m_pl v + nI 3).toNatClampNeg (vp_nar .byte p3.toInt8.toInt32))
          rw [epl', nI_plus, nI_plus, nI_plus, nI_clamp (by omega), nI_clamp (by omega), nI_clamp (by omega), nI_clamp (by omega), nI_clamp (by omega), ← nar_p, ← nar_p, ← nar_p, ← nar_p]
          refine (congrArg (relMem oc') ?_).mp e2
          funext q
          rw [hr4]
          unfold upd
          by_cases q3 : q = 8 * k2 + r + 3
          · subst q3
            rw [if_pos (by omega), if_pos rfl, show 4 - 1 - (8 * k2 + r + 3 - (8 * k2 + r)) = 3 - 3 from by omega, wordB, wb _ _ _ _ 3 (by decide)]
            rfl
          · rw [if_neg q3]
            by_cases q2 : q = 8 * k2 + r + 2
            · subst q2
              rw [if_pos (by omega), if_pos rfl, show 4 - 1 - (8 * k2 + r + 2 - (8 * k2 + r)) = 3 - 2 from by omega, wordB, wb _ _ _ _ 2 (by decide)]
              rfl
            · rw [if_neg q2]
              by_cases q1 : q = 8 * k2 + r + 1
              · subst q1
                rw [if_pos (by omega), if_pos rfl, show 4 - 1 - (8 * k2 + r + 1 - (8 * k2 + r)) = 3 - 1 from by omega, wordB, wb _ _ _ _ 1 (by decide)]
                rfl
              · rw [if_neg q1]
                by_cases q0 : q = 8 * k2 + r
                · subst q0
                  rw [if_pos (by omega), if_pos rfl, show 4 - 1 - (8 * k2 + r - (8 * k2 + r)) = 3 - 0 from by omega, wordB, wb _ _ _ _ 0 (by decide)]
                  rfl
                · rw [if_neg q0, if_neg (by omega)]
        · exact ⟨j + 1, by omega, by show x_pl u + nI 4 = _; rw [ej, nI_plus]; congr 1; omega⟩
