theorem shr0 : jlshr (0 : Int64) 63 = 0 := by decide
theorem g_l56 {u : XS} {v : MS} (h : Core4 u v) {w : Int32} (c : f_X3_opOf w &&& 254 = 56) (y z : Int64) : PR (f_X3_comparedOrShifted u w y z) v (if f_X4_above z 63 = 0 then jlshl y z.toInt32 else 0, f_X4_over v (if f_X4_above z 63 = 0 then if jlshr (if f_X4_above z 63 = 0 then jlshl y z.toInt32 else 0) z.toInt32 = y then 0 else 1 else if y = 0 then 0 else 1)) := by
  unfold f_X3_comparedOrShifted
  rw [if_neg (by rw [c]; decide), if_neg (by rw [c]; decide), if_neg (by rw [c]; decide), if_neg (by rw [c]; decide), if_pos c]
  unfold f_X3_checkedShift
  dsimp only
  unfold f_X2_shiftLeft f_X2_shiftRight
  rw [ws_eq]
  by_cases c1 : f_X4_above z 63 = 0
  · rw [if_pos c1, if_pos c1, if_pos c1]
    exact PR.over h rfl rfl
  · rw [if_neg c1, if_neg c1, if_neg c1]
    refine PR.over h rfl ?_
    rw [shr0]
    by_cases c2 : y = 0
    · rw [if_pos c2, if_pos c2.symm]
    · rw [if_neg c2, if_neg (fun e => c2 e.symm)]
