/-! indices in their rows -/
theorem in_byteX (w : Int32) : vp_in (f_X3_byteX w) 256 := pk_andIn _ 8 (by decide) (by decide)
theorem in_byteY (w : Int32) : vp_in (f_X3_byteY w) 256 := pk_andIn _ 8 (by decide) (by decide)
theorem in_byteZ (w : Int32) : vp_in (f_X3_byteZ w) 256 := pk_andIn _ 8 (by decide) (by decide)
theorem in_octaOf (x : Int64) : vp_in (f_X0_octaOf x) 2048 := pk_andIn _ 11 (by decide) (by decide)
theorem in_and7 (x : Int32) : vp_in (x &&& 7) 8 := pk_andIn _ 3 (by decide) (by decide)
theorem in_and255 (x : Int32) : vp_in (x &&& 255) 256 := pk_andIn _ 8 (by decide) (by decide)
theorem in_opOf (w : Int32) : vp_in (f_X3_opOf w) 256 := by
  have h := pk_ushr w 24 24 (by decide)
  have h2 : (f_X3_opOf w).toBitVec.toNat < 256 := by
    show (w.toUInt32 >>> ((24 : Int32).toUInt32 &&& Int32.toUInt32 31)).toInt32.toBitVec.toNat < 256
    rw [h]
    have := w.toBitVec.isLt
    omega
  rw [vp_in_iff]
  have h3 : (f_X3_opOf w).toInt = ((f_X3_opOf w).toBitVec.toNat : Int) := by
    show (f_X3_opOf w).toBitVec.toInt = _
    rw [BitVec.toInt_eq_toNat_of_lt (by omega)]
  omega
theorem vp_lt {x b : Int32} {n : Nat} (h0 : ¬ x < 0) (h1 : x < b) (hb : b = nI n) (hn : n < 2 ^ 31) : vp_in x n := by
  obtain ⟨j, hj, rfl⟩ := nI_of h0
  subst hb
  exact vp_in_nI ((nI_ltI hj hn).mp h1) hn
theorem vp_sub {x : Int32} (h0 : ¬ x < 0) (h1 : x < 264) (h2 : 256 ≤ x) : vp_in (x - 256) 8 := by
  obtain ⟨j, hj, rfl⟩ := nI_of h0
  have h3 : j < 264 := (nI_ltI hj (by decide)).mp h1
  have h4 : 256 ≤ j := (nI_leI (by decide) hj).mp h2
  obtain ⟨k, rfl⟩ : ∃ k, j = k + 256 := ⟨j - 256, by omega⟩
  rw [show nI (k + 256) - 256 = nI k from by
    rw [← nI_add]
    exact Int32.add_sub_cancel (nI k) (nI 256)]
  exact vp_in_nI (by omega) (by omega)
