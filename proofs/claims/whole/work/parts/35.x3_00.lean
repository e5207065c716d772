theorem vp_le {x b : Int32} (hb : b ≤ 500) (h0 : ¬ x < 0) (h1 : x < b) : vp_in x 500 := vp_lt h0 (show x < nI 500 from Int32.lt_of_lt_of_le h1 hb) rfl (by decide)
