theorem ab_z (a b : Int64) : f_X4_above a b = 0 ↔ a + (-9223372036854775808 : Int64) ≤ b + (-9223372036854775808 : Int64) := by
  unfold f_X4_above
  by_cases c : a + (-9223372036854775808 : Int64) ≤ b + (-9223372036854775808 : Int64)
  · rw [if_pos c]
    exact ⟨fun _ => c, fun _ => rfl⟩
  · rw [if_neg c]
    exact ⟨fun h => absurd h (by decide), fun h => absurd h c⟩
theorem ab_anti {a b : Int64} (h1 : f_X4_above a b = 0) (h2 : f_X4_above b a = 0) : a = b := by
  have e := Int64.le_antisymm ((ab_z a b).mp h1) ((ab_z b a).mp h2)
  have e2 := congrArg (fun t => t - (-9223372036854775808 : Int64)) e
  rw [Int64.add_sub_cancel, Int64.add_sub_cancel] at e2
  exact e2
theorem ab_self (a : Int64) : f_X4_above a a = 0 := (ab_z a a).mpr (Int64.le_refl _)
theorem g_l48 {u : XS} {v : MS} (h : Core4 u v) {w : Int32} (c : f_X3_opOf w &&& 254 = 48) (y z : Int64) : PR (f_X3_comparedOrShifted u w y z) v (if z ≤ y then if y = z then 0 else 1 else -1, v) := by
  unfold f_X3_comparedOrShifted
  rw [if_pos c]
  by_cases c1 : z ≤ y
  · rw [if_pos c1, if_pos c1]
    by_cases c2 : y = z
    · rw [if_pos c2, if_pos (by rw [c2]; exact Int64.le_refl _)]
      exact PR.pure h rfl
    · rw [if_neg c2, if_neg (fun h2 => c2 (Int64.le_antisymm h2 c1))]
      exact PR.pure h rfl
  · rw [if_neg c1, if_neg c1]
    exact PR.pure h rfl
theorem g_l50 {u : XS} {v : MS} (h : Core4 u v) {w : Int32} (c : f_X3_opOf w &&& 254 = 50) (y z : Int64) : PR (f_X3_comparedOrShifted u w y z) v (if f_X4_above z y = 0 then if y = z then 0 else 1 else -1, v) := by
  unfold f_X3_comparedOrShifted
  rw [if_neg (by rw [c]; decide), if_pos c, ab_eq, ab_eq]
  by_cases c1 : f_X4_above z y = 0
  · rw [if_pos c1, if_pos c1]
    by_cases c2 : y = z
    · rw [if_pos c2, if_pos (by rw [c2]; exact ab_self _)]
      exact PR.pure h rfl
    · rw [if_neg c2, if_neg (fun h2 => c2 (ab_anti h2 c1))]
      exact PR.pure h rfl
  · rw [if_neg c1, if_neg c1]
    exact PR.pure h rfl
theorem g_l52 {u : XS} {v : MS} (h : Core4 u v) {w : Int32} (c : f_X3_opOf w &&& 254 = 52) (y z : Int64) : PR (f_X3_comparedOrShifted u w y z) v ((f_X3_byteY w).toInt64 - z, f_X4_over v (if (0 : Int64) ≤ (((f_X3_byteY w).toInt64 ^^^ z) &&& ((f_X3_byteY w).toInt64 ^^^ ((f_X3_byteY w).toInt64 - z))) then 0 else 1)) := by
  unfold f_X3_comparedOrShifted
  rw [if_neg (by rw [c]; decide), if_neg (by rw [c]; decide), if_pos c]
  exact g_ldif h _ z
theorem g_l54 {u : XS} {v : MS} (h : Core4 u v) {w : Int32} (c : f_X3_opOf w &&& 254 = 54) (y z : Int64) : PR (f_X3_comparedOrShifted u w y z) v ((f_X3_byteY w).toInt64 - z, v) := by
  unfold f_X3_comparedOrShifted
  rw [if_neg (by rw [c]; decide), if_neg (by rw [c]; decide), if_neg (by rw [c]; decide), if_pos c]
  exact PR.pure h rfl
theorem g_l58 {u : XS} {v : MS} (h : Core4 u v) {w : Int32} (c : f_X3_opOf w &&& 254 = 58) (y z : Int64) : PR (f_X3_comparedOrShifted u w y z) v (if f_X4_above z 63 = 0 then jlshl y z.toInt32 else 0, v) := by
  unfold f_X3_comparedOrShifted
  rw [if_neg (by rw [c]; decide), if_neg (by rw [c]; decide), if_neg (by rw [c]; decide), if_neg (by rw [c]; decide), if_neg (by rw [c]; decide), if_pos c]
  exact PR.pure h (by unfold f_X2_shiftLeft; rw [ws_eq])
theorem g_l60 {u : XS} {v : MS} (h : Core4 u v) {w : Int32} (c : f_X3_opOf w &&& 254 = 60) (y z : Int64) : PR (f_X3_comparedOrShifted u w y z) v (if f_X4_above z 63 = 0 then jlshr y z.toInt32 else jlshr y 63, v) := by
  unfold f_X3_comparedOrShifted
  rw [if_neg (by rw [c]; decide), if_neg (by rw [c]; decide), if_neg (by rw [c]; decide), if_neg (by rw [c]; decide), if_neg (by rw [c]; decide), if_neg (by rw [c]; decide), if_pos c]
  exact PR.pure h (by unfold f_X2_shiftRight; rw [ws_eq])
theorem g_l62 {u : XS} {v : MS} (h : Core4 u v) {w : Int32} (c : f_X3_opOf w &&& 254 = 62) (y z : Int64) : PR (f_X3_comparedOrShifted u w y z) v (if f_X4_above z 63 = 0 then jlushr y z.toInt32 else 0, v) := by
  unfold f_X3_comparedOrShifted
  rw [if_neg (by rw [c]; decide), if_neg (by rw [c]; decide), if_neg (by rw [c]; decide), if_neg (by rw [c]; decide), if_neg (by rw [c]; decide), if_neg (by rw [c]; decide), if_neg (by rw [c]; decide)]
  exact PR.pure h (by unfold f_X2_shiftRightUnsigned; rw [ws_eq])
