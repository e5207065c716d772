theorem vp_le7 {x : Int32} (h : vp_in x 256) (c : x ≤ 7) : vp_in x 8 := by
  obtain ⟨j, hj, rfl⟩ := vp_in_of h (by decide)
  exact vp_in_nI (by have := (nI_leI (a := j) (b := 7) (by omega) (by decide)).mp c; omega) (by decide)
