theorem Rel.mem {u : XS} {v : MS} (h : Rel u v) {oc : Nat → Int64} {mm : Nat → Int32} (hm : relMem oc mm) : Rel (sx_oc u oc) (sm_mm v mm) := ⟨h.g, h.sp, h.ta, h.ob, h.ol, h.pl, h.pc, h.oo, h.me, h.tr, h.la, hm, h.ol0, h.ol5, h.plj, h.ct, h.nm, h.cd⟩
theorem q_peek {u : XS} {v : MS} (h : Rel u v) (p0 : Int32) : Ag (f_X3_peek u p0) (f_X4_peek v p0) := by
  unfold f_X3_peek f_X4_peek f_X4_fail
  rw [← by_eq]
  by_cases c1 : f_X3_isBeyond p0.toInt64 = 0
  · rw [if_pos c1, if_pos c1]
    exact Ag.ok (load_eq (n := 8) (h.th 0).mm c1 (by unfold isSz; omega)) rfl (h.th _)
  · rw [if_neg c1, if_neg c1]; exact Ag.no (k := 2) (by decide) rfl (h.th _)
theorem q_poke {u : XS} {v : MS} (h : Rel u v) (p0 : Int32) (p1 : Int64) : Ag (f_X3_poke u p0 p1) (f_X4_poke v p0 p1) := by
  unfold f_X3_poke f_X4_poke f_X4_fail
  rw [← by_eq]
  by_cases c1 : f_X3_isBeyond p0.toInt64 = 0
  · rw [if_pos c1, if_pos c1]
    obtain ⟨oc', mm', e1, e2, e3⟩ := store_eq (n := 8) (h.th 0).mm c1 (by unfold isSz; omega) p1
    dsimp only
    rw [show (8 : Int32) = nI 8 from rfl, e1, e2]
    exact Ag.ok (load_eq (n := 8) (h.th 0).mm c1 (by unfold isSz; omega)) rfl ((h.th 0).mem e3)
  · rw [if_neg c1, if_neg c1]; exact Ag.no (k := 2) (by decide) rfl (h.th _)
