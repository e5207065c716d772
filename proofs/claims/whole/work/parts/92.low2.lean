theorem sl_m1 (y : Int64) : jlshl y 1 = y * 2 := by
  apply Int64.toBitVec_inj.mp
  rw [Int64.toBitVec_mul]
  show y.toBitVec <<< 1 = y.toBitVec * 2#64
  rw [BitVec.shiftLeft_eq_mul_twoPow]
  rfl
theorem sl_m2 (y : Int64) : jlshl y 2 = y * 4 := by
  apply Int64.toBitVec_inj.mp
  rw [Int64.toBitVec_mul]
  show y.toBitVec <<< 2 = y.toBitVec * 4#64
  rw [BitVec.shiftLeft_eq_mul_twoPow]
  rfl
theorem sl_m3 (y : Int64) : jlshl y 3 = y * 8 := by
  apply Int64.toBitVec_inj.mp
  rw [Int64.toBitVec_mul]
  show y.toBitVec <<< 3 = y.toBitVec * 8#64
  rw [BitVec.shiftLeft_eq_mul_twoPow]
  rfl
theorem sl_m4 (y : Int64) : jlshl y 4 = y * 16 := by
  apply Int64.toBitVec_inj.mp
  rw [Int64.toBitVec_mul]
  show y.toBitVec <<< 4 = y.toBitVec * 16#64
  rw [BitVec.shiftLeft_eq_mul_twoPow]
  rfl
theorem g_l32 {u : XS} {v : MS} (h : Core4 u v) {op : Int32} (c : op &&& 254 = 32) (y z : Int64) : PR (f_X3_sumOrDifference u op y z) v (y + z, f_X4_over v (if (0 : Int64) ≤ ((y ^^^ (y + z)) &&& (z ^^^ (y + z))) then 0 else 1)) := by
  unfold f_X3_sumOrDifference
  rw [if_pos c]
  exact g_lsum h y z
theorem g_l34 {u : XS} {v : MS} (h : Core4 u v) {op : Int32} (c : op &&& 254 = 34) (y z : Int64) : PR (f_X3_sumOrDifference u op y z) v (y + z, v) := by
  unfold f_X3_sumOrDifference
  rw [if_neg (by rw [c]; decide), if_pos c]
  exact PR.pure h rfl
theorem g_l36 {u : XS} {v : MS} (h : Core4 u v) {op : Int32} (c : op &&& 254 = 36) (y z : Int64) : PR (f_X3_sumOrDifference u op y z) v (y - z, f_X4_over v (if (0 : Int64) ≤ ((y ^^^ z) &&& (y ^^^ (y - z))) then 0 else 1)) := by
  unfold f_X3_sumOrDifference
  rw [if_neg (by rw [c]; decide), if_neg (by rw [c]; decide), if_pos c]
  exact g_ldif h y z
theorem g_l38 {u : XS} {v : MS} (h : Core4 u v) {op : Int32} (c : op &&& 254 = 38) (y z : Int64) : PR (f_X3_sumOrDifference u op y z) v (y - z, v) := by
  unfold f_X3_sumOrDifference
  rw [if_neg (by rw [c]; decide), if_neg (by rw [c]; decide), if_neg (by rw [c]; decide), if_pos c]
  exact PR.pure h rfl
theorem g_l40 {u : XS} {v : MS} (h : Core4 u v) {op : Int32} (c : op &&& 254 = 40) (y z : Int64) : PR (f_X3_sumOrDifference u op y z) v (y * 2 + z, v) := by
  unfold f_X3_sumOrDifference
  rw [if_neg (by rw [c]; decide), if_neg (by rw [c]; decide), if_neg (by rw [c]; decide), if_neg (by rw [c]; decide), if_pos c, sl_m1]
  exact PR.pure h rfl
theorem g_l42 {u : XS} {v : MS} (h : Core4 u v) {op : Int32} (c : op &&& 254 = 42) (y z : Int64) : PR (f_X3_sumOrDifference u op y z) v (y * 4 + z, v) := by
  unfold f_X3_sumOrDifference
  rw [if_neg (by rw [c]; decide), if_neg (by rw [c]; decide), if_neg (by rw [c]; decide), if_neg (by rw [c]; decide), if_neg (by rw [c]; decide), if_pos c, sl_m2]
  exact PR.pure h rfl
theorem g_l44 {u : XS} {v : MS} (h : Core4 u v) {op : Int32} (c : op &&& 254 = 44) (y z : Int64) : PR (f_X3_sumOrDifference u op y z) v (y * 8 + z, v) := by
  unfold f_X3_sumOrDifference
  rw [if_neg (by rw [c]; decide), if_neg (by rw [c]; decide), if_neg (by rw [c]; decide), if_neg (by rw [c]; decide), if_neg (by rw [c]; decide), if_neg (by rw [c]; decide), if_pos c, sl_m3]
  exact PR.pure h rfl
theorem g_l46 {u : XS} {v : MS} (h : Core4 u v) {op : Int32} (c : op &&& 254 = 46) (y z : Int64) : PR (f_X3_sumOrDifference u op y z) v (y * 16 + z, v) := by
  unfold f_X3_sumOrDifference
  rw [if_neg (by rw [c]; decide), if_neg (by rw [c]; decide), if_neg (by rw [c]; decide), if_neg (by rw [c]; decide), if_neg (by rw [c]; decide), if_neg (by rw [c]; decide), if_neg (by rw [c]; decide), sl_m4]
  exact PR.pure h rfl
