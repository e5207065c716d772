/-! the class and the reference, side by side -/
/-- byte j of an octabyte, as an array of bytes has it -/
def bX (x : Int64) (j : Nat) : Int32 := Int32.ofBitVec ((x.toBitVec.extractLsb' (56 - 8 * j) 8).signExtend 32)
def relMem (oc : Nat → Int64) (mm : Nat → Int32) : Prop := ∀ k j : Nat, k < 2048 → j < 8 → mm (8 * k + j) = bX (oc k) j
abbrev Rel (u : XS) (v : MS) : Prop := x_g u = m_g v ∧ x_sp u = m_sp v ∧ x_ta u = m_ta v ∧ x_ob u = m_ou v ∧ x_ol u = m_on v ∧ x_pl u = m_pl v ∧ x_pc u = m_pc v ∧ x_oo u = m_oo v ∧ x_me u = m_me v ∧ x_tr u = m_tr v ∧ x_la u = m_la v ∧ relMem (x_oc u) (m_mm v) ∧ 0 ≤ x_ol u ∧ x_ol u ≤ 500 ∧ (∃ j : Nat, j ≤ 4096 ∧ x_pl u = nI (4 * j)) ∧ m_ct v = m_ct uM1 ∧ m_nm v = m_nm uM1 ∧ m_cd v = m_cd uM1
theorem Rel.g {u : XS} {v : MS} (h : Rel u v) : x_g u = m_g v := h.1
theorem Rel.sp {u : XS} {v : MS} (h : Rel u v) : x_sp u = m_sp v := h.2.1
theorem Rel.ta {u : XS} {v : MS} (h : Rel u v) : x_ta u = m_ta v := h.2.2.1
theorem Rel.ob {u : XS} {v : MS} (h : Rel u v) : x_ob u = m_ou v := h.2.2.2.1
theorem Rel.ol {u : XS} {v : MS} (h : Rel u v) : x_ol u = m_on v := h.2.2.2.2.1
theorem Rel.pl {u : XS} {v : MS} (h : Rel u v) : x_pl u = m_pl v := h.2.2.2.2.2.1
theorem Rel.pc {u : XS} {v : MS} (h : Rel u v) : x_pc u = m_pc v := h.2.2.2.2.2.2.1
theorem Rel.oo {u : XS} {v : MS} (h : Rel u v) : x_oo u = m_oo v := h.2.2.2.2.2.2.2.1
theorem Rel.me {u : XS} {v : MS} (h : Rel u v) : x_me u = m_me v := h.2.2.2.2.2.2.2.2.1
theorem Rel.tr {u : XS} {v : MS} (h : Rel u v) : x_tr u = m_tr v := h.2.2.2.2.2.2.2.2.2.1
theorem Rel.la {u : XS} {v : MS} (h : Rel u v) : x_la u = m_la v := h.2.2.2.2.2.2.2.2.2.2.1
theorem Rel.mm {u : XS} {v : MS} (h : Rel u v) : relMem (x_oc u) (m_mm v) := h.2.2.2.2.2.2.2.2.2.2.2.1
theorem Rel.ol0 {u : XS} {v : MS} (h : Rel u v) : 0 ≤ x_ol u := h.2.2.2.2.2.2.2.2.2.2.2.2.1
theorem Rel.ol5 {u : XS} {v : MS} (h : Rel u v) : x_ol u ≤ 500 := h.2.2.2.2.2.2.2.2.2.2.2.2.2.1
theorem Rel.plj {u : XS} {v : MS} (h : Rel u v) : ∃ j : Nat, j ≤ 4096 ∧ x_pl u = nI (4 * j) := h.2.2.2.2.2.2.2.2.2.2.2.2.2.2.1
theorem Rel.ct {u : XS} {v : MS} (h : Rel u v) : m_ct v = m_ct uM1 := h.2.2.2.2.2.2.2.2.2.2.2.2.2.2.2.1
theorem Rel.nm {u : XS} {v : MS} (h : Rel u v) : m_nm v = m_nm uM1 := h.2.2.2.2.2.2.2.2.2.2.2.2.2.2.2.2.1
theorem Rel.cd {u : XS} {v : MS} (h : Rel u v) : m_cd v = m_cd uM1 := h.2.2.2.2.2.2.2.2.2.2.2.2.2.2.2.2.2
theorem Rel.th {u : XS} {v : MS} (h : Rel u v) (k : Int32) : Rel u (sm_th v k) := ⟨h.g, h.sp, h.ta, h.ob, h.ol, h.pl, h.pc, h.oo, h.me, h.tr, h.la, h.mm, h.ol0, h.ol5, h.plj, h.ct, h.nm, h.cd⟩
/-- one call at both: thrown alike, answered alike, and still alike -/
def Ag (F : Int32 × Int64 × XS) (M : Int64 × MS) : Prop := (m_th M.2 = if F.1 = 0 then 0 else 1) ∧ (F.1 = 0 → F.2.1 = M.1) ∧ Rel F.2.2 M.2
def AgP (F : Int32 × Int64 × XS) (M : Int64 × MS) : Prop := m_th M.2 = F.1 ∧ (F.1 = 0 → F.2.1 = M.1) ∧ Rel F.2.2 M.2
def mLi (M : Int32 × MS) : Int64 × MS := (M.1.toInt64, M.2)
theorem Ag.ok {r r' : Int64} {u : XS} {v : MS} (hr : r = r') (ht : m_th v = 0) (h : Rel u v) : Ag (0, r, u) (r', v) := ⟨ht, fun _ => hr, h⟩
theorem Ag.no {k : Int32} {r r' : Int64} {u : XS} {v : MS} (hk : ¬ k = 0) (ht : m_th v = 1) (h : Rel u v) : Ag (k, r, u) (r', v) := ⟨by rw [ht]; exact (if_neg hk).symm, fun h => absurd h hk, h⟩
theorem i_lt_le (p : Int32) (a b : Int32) (h : a.toInt = b.toInt + 1) : (p < a) ↔ (p ≤ b) := by
  rw [Int32.lt_iff_toInt_lt, Int32.le_iff_toInt_le]
  omega
theorem q_set {u : XS} {v : MS} (h : Rel u v) (p0 : Int32) (p1 : Int64) : Ag (f_X3_set u p0 p1) (f_X4_set v p0 p1) := by
  unfold f_X3_set f_X4_set f_X4_fail
  by_cases c1 : p0 < 0
  · rw [if_pos c1, if_pos c1]; exact Ag.no (by decide) rfl (h.th _)
  · rw [if_neg c1, if_neg c1]
    by_cases c2 : p0 < 256
    · rw [if_pos c2, if_pos ((i_lt_le p0 256 255 (by decide)).mp c2)]
      refine Ag.ok (congrFun h.g _) rfl ?_
      exact ⟨by show vp_updL (x_g u) _ _ = vp_updL (m_g v) _ _; rw [h.g], h.sp, h.ta, h.ob, h.ol, h.pl, h.pc, h.oo, h.me, h.tr, h.la, h.mm, h.ol0, h.ol5, h.plj, h.ct, h.nm, h.cd⟩
    · rw [if_neg c2, if_neg (fun h => c2 ((i_lt_le p0 256 255 (by decide)).mpr h))]; exact Ag.no (by decide) rfl (h.th _)
theorem q_get {u : XS} {v : MS} (h : Rel u v) (p0 : Int32) : Ag (f_X3_get u p0) (f_X4_get v p0) := by
  unfold f_X3_get f_X4_get f_X4_fail
  by_cases c1 : p0 < 0
  · rw [if_pos c1, if_pos c1]; exact Ag.no (by decide) rfl (h.th _)
  · rw [if_neg c1, if_neg c1]
    by_cases c2 : p0 < 264
    · rw [if_pos c2, if_pos ((i_lt_le p0 264 263 (by decide)).mp c2)]
      by_cases c3 : 256 ≤ p0
      · rw [if_pos c3, if_pos c3]; exact Ag.ok (congrFun h.sp _) rfl (h.th _)
      · rw [if_neg c3, if_neg c3]; exact Ag.ok (congrFun h.g _) rfl (h.th _)
    · rw [if_neg c2, if_neg (fun h => c2 ((i_lt_le p0 264 263 (by decide)).mpr h))]; exact Ag.no (by decide) rfl (h.th _)
theorem q_tally {u : XS} {v : MS} (h : Rel u v) (p0 : Int32) : Ag (f_X3_tally u p0) (f_X4_tally v p0) := by
  unfold f_X3_tally f_X4_tally f_X4_fail
  by_cases c1 : p0 < 0
  · rw [if_pos c1, if_pos c1]; exact Ag.no (by decide) rfl (h.th _)
  · rw [if_neg c1, if_neg c1]
    by_cases c2 : p0 < 256
    · rw [if_pos c2, if_pos ((i_lt_le p0 256 255 (by decide)).mp c2)]; exact Ag.ok (congrFun h.ta _) rfl (h.th _)
    · rw [if_neg c2, if_neg (fun h => c2 ((i_lt_le p0 256 255 (by decide)).mpr h))]; exact Ag.no (by decide) rfl (h.th _)
theorem q_spend {u : XS} {v : MS} (h : Rel u v) (p0 : Int32) : Ag (f_X3_spend u p0) (f_X4_spend v p0) := by
  unfold f_X3_spend f_X4_spend f_X4_fail
  by_cases c1 : p0 < -1000
  · rw [if_pos c1, if_pos c1]; exact Ag.no (by decide) rfl (h.th _)
  · rw [if_neg c1, if_neg c1]
    by_cases c2 : p0 ≤ 1000
    · rw [if_pos c2, if_pos c2]
      refine Ag.ok ?_ rfl ?_
      · show x_oo u + p0.toInt64 = m_oo v + p0.toInt64
        rw [h.oo]
      · exact ⟨h.g, h.sp, h.ta, h.ob, h.ol, h.pl, h.pc, by show x_oo u + p0.toInt64 = m_oo v + p0.toInt64; rw [h.oo], h.me, h.tr, h.la, h.mm, h.ol0, h.ol5, h.plj, h.ct, h.nm, h.cd⟩
    · rw [if_neg c2, if_neg c2]; exact Ag.no (by decide) rfl (h.th _)
theorem q_output {u : XS} {v : MS} (h : Rel u v) (p0 : Int32) : Ag (rLi (f_X3_output u p0)) (mLi (f_X4_output v p0)) := by
  unfold f_X3_output f_X4_output f_X4_fail
  by_cases c1 : p0 < 0
  · rw [if_pos c1, if_pos c1]; exact Ag.no (k := 2) (by decide) rfl (h.th _)
  · rw [if_neg c1, if_neg c1]
    by_cases c2 : p0 < x_ol u
    · rw [if_pos c2, if_pos (show p0 < m_on (sm_th v 0) from by rw [← (h.th 0).ol]; exact c2)]
      refine Ag.ok ?_ rfl (h.th _)
      show (x_ob u _ &&& 255).toInt64 = (m_ou v _ &&& 255).toInt64
      rw [h.ob]
    · rw [if_neg c2, if_neg (show ¬ p0 < m_on (sm_th v 0) from by rw [← (h.th 0).ol]; exact c2)]; exact Ag.no (k := 2) (by decide) rfl (h.th _)
theorem by_eq (p : Int64) : f_X3_isBeyond p = f_X4_beyond p := by
  unfold f_X3_isBeyond f_X4_beyond
  by_cases c1 : p < 0
  · rw [if_pos c1, if_pos c1]
  · rw [if_neg c1, if_neg c1]
    by_cases c2 : p < 16384
    · rw [if_pos c2, if_pos (by rw [Int64.lt_iff_toInt_lt] at c2; rw [Int64.le_iff_toInt_le]; have h1 : (16384 : Int64).toInt = 16384 := by decide
                                have h2 : (16383 : Int64).toInt = 16383 := by decide
                                omega)]
    · rw [if_neg c2, if_neg (fun h => c2 (by rw [Int64.le_iff_toInt_le] at h; rw [Int64.lt_iff_toInt_lt]; have h1 : (16384 : Int64).toInt = 16384 := by decide
                                             have h2 : (16383 : Int64).toInt = 16383 := by decide
                                             omega))]
/-- a place within the memory -/
theorem by_in {p : Int64} (h : f_X3_isBeyond p = 0) : 0 ≤ p.toInt ∧ p.toInt < 16384 := by
  unfold f_X3_isBeyond at h
  split at h
  · exact absurd h (by decide)
  · next c1 =>
    split at h
    · next c2 =>
      rw [Int64.lt_iff_toInt_lt] at c1 c2
      have h1 : (16384 : Int64).toInt = 16384 := by decide
      have h2 : (0 : Int64).toInt = 0 := by decide
      omega
    · exact absurd h (by decide)
theorem pl_at (p : Int32) (h1 : 0 ≤ p.toInt64.toInt) (h2 : p.toInt64.toInt < 16384) : ∃ j : Nat, j ≤ 4096 ∧ p &&& (-4 : Int32) = nI (4 * j) := by
  rw [Int32.toInt_toInt64] at h1 h2
  refine ⟨p.toInt.toNat / 4, by omega, ?_⟩
  have e : p = nI p.toInt.toNat := by
    apply Int32.toInt_inj.mp
    rw [nI_toInt (by omega)]
    omega
  have hn : p.toInt.toNat < 16384 := by omega
  generalize p.toInt.toNat = n at e hn ⊢
  rw [e, show (-4 : Int32) = -(nI (2 ^ 2)) from by decide, mk_and n 2 (by decide) (by omega)]
  congr 1
  omega
theorem q_at {u : XS} {v : MS} (h : Rel u v) (p0 : Int32) : Ag (rLi (f_X3_at u p0)) (mLi (f_X4_at v p0)) := by
  unfold f_X3_at f_X4_at f_X4_fail
  rw [← by_eq]
  by_cases c1 : f_X3_isBeyond p0.toInt64 = 0
  · rw [if_pos c1, if_pos c1]
    refine Ag.ok rfl rfl ?_
    refine ⟨h.g, h.sp, h.ta, h.ob, h.ol, rfl, h.pc, h.oo, h.me, h.tr, h.la, h.mm, h.ol0, h.ol5, ?_, h.ct, h.nm, h.cd⟩
    obtain ⟨h1, h2⟩ := by_in c1
    exact pl_at p0 h1 h2
  · rw [if_neg c1, if_neg c1]; exact Ag.no (k := 2) (by decide) rfl (h.th _)
theorem q_count {u : XS} {v : MS} (h : Rel u v) (p0 : Int32) : f_X3_count u p0 = (f_X4_count v p0).1 ∧ Rel u (f_X4_count v p0).2 := by
  unfold f_X3_count f_X4_count
  by_cases c0 : p0 = 0
  · rw [if_pos c0, if_pos c0]; exact ⟨h.pc, h.th _⟩
  rw [if_neg c0, if_neg c0]
  by_cases c1 : p0 = 1
  · rw [if_pos c1, if_pos c1]; exact ⟨h.oo, h.th _⟩
  rw [if_neg c1, if_neg c1]
  by_cases c2 : p0 = 2
  · rw [if_pos c2, if_pos c2]; exact ⟨h.me, h.th _⟩
  rw [if_neg c2, if_neg c2]
  by_cases c3 : p0 = 3
  · rw [if_pos c3, if_pos c3]; exact ⟨congrArg Int32.toInt64 h.ol, h.th _⟩
  rw [if_neg c3, if_neg c3]
  by_cases c4 : p0 = 4
  · rw [if_pos c4, if_pos c4]; exact ⟨congrArg Int32.toInt64 h.pl, h.th _⟩
  rw [if_neg c4, if_neg c4]
  by_cases c5 : p0 = 5
  · rw [if_pos c5, if_pos c5]; exact ⟨h.tr, h.th _⟩
  rw [if_neg c5, if_neg c5]
  by_cases c6 : p0 = 6
  · rw [if_pos c6, if_pos c6]; exact ⟨h.la, h.th _⟩
  rw [if_neg c6, if_neg c6]
  exact ⟨rfl, h.th _⟩
theorem two_one (w : Int32) (h0 : ¬ w < 0) (h1 : ¬ (256 : Int32) ≤ w) : (((2 : Int32) * w) + (1 : Int32)).toInt64 = ((2 : Int64) * w.toInt64) + (1 : Int64) := by
  rw [Int32.lt_iff_toInt_lt] at h0
  rw [Int32.le_iff_toInt_le] at h1
  have e1 : (0 : Int32).toInt = 0 := by decide
  have e2 : (256 : Int32).toInt = 256 := by decide
  obtain ⟨n, hn⟩ : ∃ n : Nat, w.toInt = n := ⟨w.toInt.toNat, by omega⟩
  have hw : w = nI n := by
    apply Int32.toInt_inj.mp
    rw [nI_toInt (by omega), hn]
  subst hw
  have hn2 : n < 256 := by omega
  clear h0 h1 e1 e2 hn
  revert n
  decide +kernel
theorem mark_eq {u : XS} {v : MS} (h : x_g u = m_g v) : ∀ (n : Nat) (x : Int64) (w : Int32), ¬ w < 0 → lf_X3_mark_4 u n x w = lf_X4_mark_9 v n x w
  | 0, _, _, _ => rfl
  | n + 1, x, w, hw => by
    unfold lf_X3_mark_4 lf_X4_mark_9
    by_cases c : (256 : Int32) ≤ w
    · rw [if_pos c, if_pos c]
    · rw [if_neg c, if_neg c]
      have e : ¬ w + 1 < 0 := by
        have hw := hw
        have c := c
        rw [Int32.lt_iff_toInt_lt] at hw ⊢
        rw [Int32.le_iff_toInt_le] at c
        have e1 : (0 : Int32).toInt = 0 := by decide
        have e2 : (256 : Int32).toInt = 256 := by decide
        have e3 : (1 : Int32).toInt = 1 := by decide
        rw [Int32.toInt_add, e3, Int.bmod_eq_of_le (by omega) (by omega)]
        omega
      dsimp only
      rw [mark_eq h n _ _ e, two_one w hw c, h]
theorem q_mark {u : XS} {v : MS} (h : Rel u v) : f_X3_mark u = (f_X4_mark v).1 ∧ Rel u (f_X4_mark v).2 := by
  refine ⟨?_, h.th _⟩
  unfold f_X3_mark f_X4_mark
  dsimp only
  rw [mark_eq (v := sm_th v 0) h.g _ _ _ (by decide)]
