/-! the reference's low: its number and its state -/
def lowZ (u : MS) (op Y : Int32) (p q : Int64) : Int64 × MS := (if (op &&& (254 : Int32)) = (24 : Int32) then let v10 : Int64 := p * q; let z13 : Int32 := (if (f_X4_upper p q) = (jlshr v10 (63 : Int32)) then (0 : Int32) else (1 : Int32)); let v12 : Int32 := z13; let u15 : MS := f_X4_over u v12; (v10, u15) else if (op &&& (254 : Int32)) = (26 : Int32) then let v17 : Int64 := p * q; let v18 : Int64 := ((f_X4_upper p q) + ((jlshr p (63 : Int32)) &&& q)) + ((jlshr q (63 : Int32)) &&& p); let u19 : MS := sm_sp u (vp_updL (m_sp u) (3 : Int32).toNatClampNeg v18); (v17, u19) else if (op &&& (254 : Int32)) = (28 : Int32) then let v21 : Int64 := (f_X4_quotient u p q).1; let u22 : MS := (f_X4_quotient u p q).2; (v21, u22) else if (op &&& (254 : Int32)) = (30 : Int32) then let v24 : Int64 := (f_X4_quotientOf u p q).1; let u25 : MS := (f_X4_quotientOf u p q).2; (v24, u25) else if (op &&& (254 : Int32)) = (32 : Int32) then let v27 : Int64 := p + q; let z30 : Int32 := (if (0 : Int64) ≤ ((p ^^^ v27) &&& (q ^^^ v27)) then (0 : Int32) else (1 : Int32)); let v29 : Int32 := z30; let u32 : MS := f_X4_over u v29; (v27, u32) else if (op &&& (254 : Int32)) = (34 : Int32) then let v34 : Int64 := p + q; (v34, u) else if (op &&& (254 : Int32)) = (36 : Int32) then let v36 : Int64 := p - q; let z39 : Int32 := (if (0 : Int64) ≤ ((p ^^^ q) &&& (p ^^^ v36)) then (0 : Int32) else (1 : Int32)); let v38 : Int32 := z39; let u41 : MS := f_X4_over u v38; (v36, u41) else if (op &&& (254 : Int32)) = (38 : Int32) then let v43 : Int64 := p - q; (v43, u) else if (op &&& (254 : Int32)) = (40 : Int32) then let v45 : Int64 := (p * (2 : Int64)) + q; (v45, u) else if (op &&& (254 : Int32)) = (42 : Int32) then let v47 : Int64 := (p * (4 : Int64)) + q; (v47, u) else if (op &&& (254 : Int32)) = (44 : Int32) then let v49 : Int64 := (p * (8 : Int64)) + q; (v49, u) else if (op &&& (254 : Int32)) = (46 : Int32) then let v51 : Int64 := (p * (16 : Int64)) + q; (v51, u) else if (op &&& (254 : Int32)) = (48 : Int32) then let z55 : Int64 := (if q ≤ p then if p = q then (0 : Int64) else (1 : Int64) else (-1 : Int64)); let v54 : Int64 := z55; (v54, u) else if (op &&& (254 : Int32)) = (50 : Int32) then let z61 : Int64 := (if (f_X4_above q p) = (0 : Int32) then if p = q then (0 : Int64) else (1 : Int64) else (-1 : Int64)); let v60 : Int64 := z61; (v60, u) else if (op &&& (254 : Int32)) = (52 : Int32) then let v65 : Int64 := Y.toInt64 - q; let z68 : Int32 := (if (0 : Int64) ≤ ((Y.toInt64 ^^^ q) &&& (Y.toInt64 ^^^ v65)) then (0 : Int32) else (1 : Int32)); let v67 : Int32 := z68; let u70 : MS := f_X4_over u v67; (v65, u70) else if (op &&& (254 : Int32)) = (54 : Int32) then let v72 : Int64 := Y.toInt64 - q; (v72, u) else if (op &&& (254 : Int32)) = (56 : Int32) then let z76 : Int64 := (if (f_X4_above q (63 : Int64)) = (0 : Int32) then jlshl p q.toInt32 else (0 : Int64)); let v75 : Int64 := z76; let z80 : Int32 := (if (f_X4_above q (63 : Int64)) = (0 : Int32) then if (jlshr v75 q.toInt32) = p then (0 : Int32) else (1 : Int32) else if p = (0 : Int64) then (0 : Int32) else (1 : Int32)); let v79 : Int32 := z80; let u84 : MS := f_X4_over u v79; (v75, u84) else if (op &&& (254 : Int32)) = (58 : Int32) then let z88 : Int64 := (if (f_X4_above q (63 : Int64)) = (0 : Int32) then jlshl p q.toInt32 else (0 : Int64)); let v87 : Int64 := z88; (v87, u) else if (op &&& (254 : Int32)) = (60 : Int32) then let z93 : Int64 := (if (f_X4_above q (63 : Int64)) = (0 : Int32) then jlshr p q.toInt32 else jlshr p (63 : Int32)); let v92 : Int64 := z93; (v92, u) else let z97 : Int64 := (if (f_X4_above q (63 : Int64)) = (0 : Int32) then jlushr p q.toInt32 else (0 : Int64)); let v96 : Int64 := z97; (v96, u))
theorem low_eq {u : MS} {op X Y Z : Int32} (h0 : ¬ op = 0) (h1 : 24 ≤ op) : f_X4_low u op X Y Z = ((f_X4_done (lowZ u op Y (m_g u Y.toNatClampNeg) (f_X4_number u op Z)).2 X (lowZ u op Y (m_g u Y.toNatClampNeg) (f_X4_number u op Z)).1).1, (f_X4_done (lowZ u op Y (m_g u Y.toNatClampNeg) (f_X4_number u op Z)).2 X (lowZ u op Y (m_g u Y.toNatClampNeg) (f_X4_number u op Z)).1).2) := by
  unfold f_X4_low
  rw [if_neg h0, if_pos h1]
  rfl
theorem low_ill {u : MS} {op X Y Z : Int32} (h0 : ¬ op = 0) (h1 : ¬ (24 : Int32) ≤ op) : f_X4_low u op X Y Z = (2, u) := by
  unfold f_X4_low
  rw [if_neg h0, if_neg h1]
theorem low_tr {u : MS} {X Y Z : Int32} : f_X4_low u 0 X Y Z = ((f_X4_trap u X Y Z).1, (f_X4_trap u X Y Z).2) := by
  unfold f_X4_low
  rw [if_pos rfl]
theorem low_fin {F : Int64 × XS} {v : MS} {M : Int64 × MS} (h : PR F v M) (w : Int32) : Grp (f_X3_writeX F.2 w F.1) v ((f_X4_done M.2 (f_X3_byteX w) M.1).1, (f_X4_done M.2 (f_X3_byteX w) M.1).2) := by
  obtain ⟨h1, h2, h3⟩ := h
  obtain ⟨g1, g2, g3, g4⟩ := w_done4 h2 w h1
  exact ⟨g1, g2, g3, h3.tr g4⟩
theorem z_l24 {u : XS} {v : MS} (h : Core u v) {w : Int32} (c : f_X3_opOf w &&& 254 = 24) (y z : Int64) : PR (f_X3_productOrQuotient (pc4 u) (f_X3_opOf w) y z) v (lowZ v (f_X3_opOf w) (f_X3_byteY w) y z) := by
  unfold lowZ
  rw [if_pos c]
  exact g_l24 (c4_of h) c y z
theorem z_l26 {u : XS} {v : MS} (h : Core u v) {w : Int32} (c : f_X3_opOf w &&& 254 = 26) (y z : Int64) : PR (f_X3_productOrQuotient (pc4 u) (f_X3_opOf w) y z) v (lowZ v (f_X3_opOf w) (f_X3_byteY w) y z) := by
  unfold lowZ
  rw [if_neg (by rw [c]; decide), if_pos c]
  exact g_l26 (c4_of h) c y z
theorem z_l28 {u : XS} {v : MS} (h : Core u v) {w : Int32} (c : f_X3_opOf w &&& 254 = 28) (y z : Int64) : PR (f_X3_productOrQuotient (pc4 u) (f_X3_opOf w) y z) v (lowZ v (f_X3_opOf w) (f_X3_byteY w) y z) := by
  unfold lowZ
  rw [if_neg (by rw [c]; decide), if_neg (by rw [c]; decide), if_pos c]
  exact g_l28 (c4_of h) c y z
theorem z_l30 {u : XS} {v : MS} (h : Core u v) {w : Int32} (c : f_X3_opOf w &&& 254 = 30) (y z : Int64) : PR (f_X3_productOrQuotient (pc4 u) (f_X3_opOf w) y z) v (lowZ v (f_X3_opOf w) (f_X3_byteY w) y z) := by
  unfold lowZ
  rw [if_neg (by rw [c]; decide), if_neg (by rw [c]; decide), if_neg (by rw [c]; decide), if_pos c]
  exact g_l30 (c4_of h) c y z
theorem z_l32 {u : XS} {v : MS} (h : Core u v) {w : Int32} (c : f_X3_opOf w &&& 254 = 32) (y z : Int64) : PR (f_X3_sumOrDifference (pc4 u) (f_X3_opOf w) y z) v (lowZ v (f_X3_opOf w) (f_X3_byteY w) y z) := by
  unfold lowZ
  rw [if_neg (by rw [c]; decide), if_neg (by rw [c]; decide), if_neg (by rw [c]; decide), if_neg (by rw [c]; decide), if_pos c]
  exact g_l32 (c4_of h) c y z
theorem z_l34 {u : XS} {v : MS} (h : Core u v) {w : Int32} (c : f_X3_opOf w &&& 254 = 34) (y z : Int64) : PR (f_X3_sumOrDifference (pc4 u) (f_X3_opOf w) y z) v (lowZ v (f_X3_opOf w) (f_X3_byteY w) y z) := by
  unfold lowZ
  rw [if_neg (by rw [c]; decide), if_neg (by rw [c]; decide), if_neg (by rw [c]; decide), if_neg (by rw [c]; decide), if_neg (by rw [c]; decide), if_pos c]
  exact g_l34 (c4_of h) c y z
theorem z_l36 {u : XS} {v : MS} (h : Core u v) {w : Int32} (c : f_X3_opOf w &&& 254 = 36) (y z : Int64) : PR (f_X3_sumOrDifference (pc4 u) (f_X3_opOf w) y z) v (lowZ v (f_X3_opOf w) (f_X3_byteY w) y z) := by
  unfold lowZ
  rw [if_neg (by rw [c]; decide), if_neg (by rw [c]; decide), if_neg (by rw [c]; decide), if_neg (by rw [c]; decide), if_neg (by rw [c]; decide), if_neg (by rw [c]; decide), if_pos c]
  exact g_l36 (c4_of h) c y z
theorem z_l38 {u : XS} {v : MS} (h : Core u v) {w : Int32} (c : f_X3_opOf w &&& 254 = 38) (y z : Int64) : PR (f_X3_sumOrDifference (pc4 u) (f_X3_opOf w) y z) v (lowZ v (f_X3_opOf w) (f_X3_byteY w) y z) := by
  unfold lowZ
  rw [if_neg (by rw [c]; decide), if_neg (by rw [c]; decide), if_neg (by rw [c]; decide), if_neg (by rw [c]; decide), if_neg (by rw [c]; decide), if_neg (by rw [c]; decide), if_neg (by rw [c]; decide), if_pos c]
  exact g_l38 (c4_of h) c y z
theorem z_l40 {u : XS} {v : MS} (h : Core u v) {w : Int32} (c : f_X3_opOf w &&& 254 = 40) (y z : Int64) : PR (f_X3_sumOrDifference (pc4 u) (f_X3_opOf w) y z) v (lowZ v (f_X3_opOf w) (f_X3_byteY w) y z) := by
  unfold lowZ
  rw [if_neg (by rw [c]; decide), if_neg (by rw [c]; decide), if_neg (by rw [c]; decide), if_neg (by rw [c]; decide), if_neg (by rw [c]; decide), if_neg (by rw [c]; decide), if_neg (by rw [c]; decide), if_neg (by rw [c]; decide), if_pos c]
  exact g_l40 (c4_of h) c y z
theorem z_l42 {u : XS} {v : MS} (h : Core u v) {w : Int32} (c : f_X3_opOf w &&& 254 = 42) (y z : Int64) : PR (f_X3_sumOrDifference (pc4 u) (f_X3_opOf w) y z) v (lowZ v (f_X3_opOf w) (f_X3_byteY w) y z) := by
  unfold lowZ
  rw [if_neg (by rw [c]; decide), if_neg (by rw [c]; decide), if_neg (by rw [c]; decide), if_neg (by rw [c]; decide), if_neg (by rw [c]; decide), if_neg (by rw [c]; decide), if_neg (by rw [c]; decide), if_neg (by rw [c]; decide), if_neg (by rw [c]; decide), if_pos c]
  exact g_l42 (c4_of h) c y z
theorem z_l44 {u : XS} {v : MS} (h : Core u v) {w : Int32} (c : f_X3_opOf w &&& 254 = 44) (y z : Int64) : PR (f_X3_sumOrDifference (pc4 u) (f_X3_opOf w) y z) v (lowZ v (f_X3_opOf w) (f_X3_byteY w) y z) := by
  unfold lowZ
  rw [if_neg (by rw [c]; decide), if_neg (by rw [c]; decide), if_neg (by rw [c]; decide), if_neg (by rw [c]; decide), if_neg (by rw [c]; decide), if_neg (by rw [c]; decide), if_neg (by rw [c]; decide), if_neg (by rw [c]; decide), if_neg (by rw [c]; decide), if_neg (by rw [c]; decide), if_pos c]
  exact g_l44 (c4_of h) c y z
theorem z_l46 {u : XS} {v : MS} (h : Core u v) {w : Int32} (c : f_X3_opOf w &&& 254 = 46) (y z : Int64) : PR (f_X3_sumOrDifference (pc4 u) (f_X3_opOf w) y z) v (lowZ v (f_X3_opOf w) (f_X3_byteY w) y z) := by
  unfold lowZ
  rw [if_neg (by rw [c]; decide), if_neg (by rw [c]; decide), if_neg (by rw [c]; decide), if_neg (by rw [c]; decide), if_neg (by rw [c]; decide), if_neg (by rw [c]; decide), if_neg (by rw [c]; decide), if_neg (by rw [c]; decide), if_neg (by rw [c]; decide), if_neg (by rw [c]; decide), if_neg (by rw [c]; decide), if_pos c]
  exact g_l46 (c4_of h) c y z
theorem z_l48 {u : XS} {v : MS} (h : Core u v) {w : Int32} (c : f_X3_opOf w &&& 254 = 48) (y z : Int64) : PR (f_X3_comparedOrShifted (pc4 u) w y z) v (lowZ v (f_X3_opOf w) (f_X3_byteY w) y z) := by
  unfold lowZ
  rw [if_neg (by rw [c]; decide), if_neg (by rw [c]; decide), if_neg (by rw [c]; decide), if_neg (by rw [c]; decide), if_neg (by rw [c]; decide), if_neg (by rw [c]; decide), if_neg (by rw [c]; decide), if_neg (by rw [c]; decide), if_neg (by rw [c]; decide), if_neg (by rw [c]; decide), if_neg (by rw [c]; decide), if_neg (by rw [c]; decide), if_pos c]
  exact g_l48 (c4_of h) c y z
theorem z_l50 {u : XS} {v : MS} (h : Core u v) {w : Int32} (c : f_X3_opOf w &&& 254 = 50) (y z : Int64) : PR (f_X3_comparedOrShifted (pc4 u) w y z) v (lowZ v (f_X3_opOf w) (f_X3_byteY w) y z) := by
  unfold lowZ
  rw [if_neg (by rw [c]; decide), if_neg (by rw [c]; decide), if_neg (by rw [c]; decide), if_neg (by rw [c]; decide), if_neg (by rw [c]; decide), if_neg (by rw [c]; decide), if_neg (by rw [c]; decide), if_neg (by rw [c]; decide), if_neg (by rw [c]; decide), if_neg (by rw [c]; decide), if_neg (by rw [c]; decide), if_neg (by rw [c]; decide), if_neg (by rw [c]; decide), if_pos c]
  exact g_l50 (c4_of h) c y z
theorem z_l52 {u : XS} {v : MS} (h : Core u v) {w : Int32} (c : f_X3_opOf w &&& 254 = 52) (y z : Int64) : PR (f_X3_comparedOrShifted (pc4 u) w y z) v (lowZ v (f_X3_opOf w) (f_X3_byteY w) y z) := by
  unfold lowZ
  rw [if_neg (by rw [c]; decide), if_neg (by rw [c]; decide), if_neg (by rw [c]; decide), if_neg (by rw [c]; decide), if_neg (by rw [c]; decide), if_neg (by rw [c]; decide), if_neg (by rw [c]; decide), if_neg (by rw [c]; decide), if_neg (by rw [c]; decide), if_neg (by rw [c]; decide), if_neg (by rw [c]; decide), if_neg (by rw [c]; decide), if_neg (by rw [c]; decide), if_neg (by rw [c]; decide), if_pos c]
  exact g_l52 (c4_of h) c y z
theorem z_l54 {u : XS} {v : MS} (h : Core u v) {w : Int32} (c : f_X3_opOf w &&& 254 = 54) (y z : Int64) : PR (f_X3_comparedOrShifted (pc4 u) w y z) v (lowZ v (f_X3_opOf w) (f_X3_byteY w) y z) := by
  unfold lowZ
  rw [if_neg (by rw [c]; decide), if_neg (by rw [c]; decide), if_neg (by rw [c]; decide), if_neg (by rw [c]; decide), if_neg (by rw [c]; decide), if_neg (by rw [c]; decide), if_neg (by rw [c]; decide), if_neg (by rw [c]; decide), if_neg (by rw [c]; decide), if_neg (by rw [c]; decide), if_neg (by rw [c]; decide), if_neg (by rw [c]; decide), if_neg (by rw [c]; decide), if_neg (by rw [c]; decide), if_neg (by rw [c]; decide), if_pos c]
  exact g_l54 (c4_of h) c y z
theorem z_l56 {u : XS} {v : MS} (h : Core u v) {w : Int32} (c : f_X3_opOf w &&& 254 = 56) (y z : Int64) : PR (f_X3_comparedOrShifted (pc4 u) w y z) v (lowZ v (f_X3_opOf w) (f_X3_byteY w) y z) := by
  unfold lowZ
  rw [if_neg (by rw [c]; decide), if_neg (by rw [c]; decide), if_neg (by rw [c]; decide), if_neg (by rw [c]; decide), if_neg (by rw [c]; decide), if_neg (by rw [c]; decide), if_neg (by rw [c]; decide), if_neg (by rw [c]; decide), if_neg (by rw [c]; decide), if_neg (by rw [c]; decide), if_neg (by rw [c]; decide), if_neg (by rw [c]; decide), if_neg (by rw [c]; decide), if_neg (by rw [c]; decide), if_neg (by rw [c]; decide), if_neg (by rw [c]; decide), if_pos c]
  exact g_l56 (c4_of h) c y z
theorem z_l58 {u : XS} {v : MS} (h : Core u v) {w : Int32} (c : f_X3_opOf w &&& 254 = 58) (y z : Int64) : PR (f_X3_comparedOrShifted (pc4 u) w y z) v (lowZ v (f_X3_opOf w) (f_X3_byteY w) y z) := by
  unfold lowZ
  rw [if_neg (by rw [c]; decide), if_neg (by rw [c]; decide), if_neg (by rw [c]; decide), if_neg (by rw [c]; decide), if_neg (by rw [c]; decide), if_neg (by rw [c]; decide), if_neg (by rw [c]; decide), if_neg (by rw [c]; decide), if_neg (by rw [c]; decide), if_neg (by rw [c]; decide), if_neg (by rw [c]; decide), if_neg (by rw [c]; decide), if_neg (by rw [c]; decide), if_neg (by rw [c]; decide), if_neg (by rw [c]; decide), if_neg (by rw [c]; decide), if_neg (by rw [c]; decide), if_pos c]
  exact g_l58 (c4_of h) c y z
theorem z_l60 {u : XS} {v : MS} (h : Core u v) {w : Int32} (c : f_X3_opOf w &&& 254 = 60) (y z : Int64) : PR (f_X3_comparedOrShifted (pc4 u) w y z) v (lowZ v (f_X3_opOf w) (f_X3_byteY w) y z) := by
  unfold lowZ
  rw [if_neg (by rw [c]; decide), if_neg (by rw [c]; decide), if_neg (by rw [c]; decide), if_neg (by rw [c]; decide), if_neg (by rw [c]; decide), if_neg (by rw [c]; decide), if_neg (by rw [c]; decide), if_neg (by rw [c]; decide), if_neg (by rw [c]; decide), if_neg (by rw [c]; decide), if_neg (by rw [c]; decide), if_neg (by rw [c]; decide), if_neg (by rw [c]; decide), if_neg (by rw [c]; decide), if_neg (by rw [c]; decide), if_neg (by rw [c]; decide), if_neg (by rw [c]; decide), if_neg (by rw [c]; decide), if_pos c]
  exact g_l60 (c4_of h) c y z
theorem z_l62 {u : XS} {v : MS} (h : Core u v) {w : Int32} (c : f_X3_opOf w &&& 254 = 62) (y z : Int64) : PR (f_X3_comparedOrShifted (pc4 u) w y z) v (lowZ v (f_X3_opOf w) (f_X3_byteY w) y z) := by
  unfold lowZ
  rw [if_neg (by rw [c]; decide), if_neg (by rw [c]; decide), if_neg (by rw [c]; decide), if_neg (by rw [c]; decide), if_neg (by rw [c]; decide), if_neg (by rw [c]; decide), if_neg (by rw [c]; decide), if_neg (by rw [c]; decide), if_neg (by rw [c]; decide), if_neg (by rw [c]; decide), if_neg (by rw [c]; decide), if_neg (by rw [c]; decide), if_neg (by rw [c]; decide), if_neg (by rw [c]; decide), if_neg (by rw [c]; decide), if_neg (by rw [c]; decide), if_neg (by rw [c]; decide), if_neg (by rw [c]; decide), if_neg (by rw [c]; decide)]
  exact g_l62 (c4_of h) c y z
theorem tab_1_1 : ∀ n : Nat, n < 32 → 24 ≤ n → jshr (nI n) 4 = 1 := by decide +kernel
theorem tab_1_2 : ∀ n : Nat, n < 32 → 24 ≤ n → ¬ nI n = 0 := by decide +kernel
theorem tab_1_3 : ∀ n : Nat, n < 32 → 24 ≤ n → (24 : Int32) ≤ nI n := by decide +kernel
theorem tab_1 : ∀ n : Nat, n < 32 → 24 ≤ n → (jshr (nI n) 4 = 1) ∧ (¬ nI n = 0) ∧ ((24 : Int32) ≤ nI n) := fun n h2 h1 => ⟨tab_1_1 n h2 h1, tab_1_2 n h2 h1, tab_1_3 n h2 h1⟩
theorem w_low1 {u : XS} {v : MS} (h : Core u v) {w : Int32} {n : Nat} (e : f_X3_opOf w = nI n) (h1 : 24 ≤ n) (h2 : n < 32) : Grp (f_X3_perform u w (m_g v (f_X3_byteY w).toNatClampNeg) (f_X4_number v (f_X3_opOf w) (f_X3_byteZ w))) v (f_X4_low v (f_X3_opOf w) (f_X3_byteX w) (f_X3_byteY w) (f_X3_byteZ w)) := by
  obtain ⟨t1, t2, t3⟩ := tab_1 n h2 h1
  have c := (tab_e n (by omega)).1
  rw [← e] at t1 t2 t3 c
  rw [pf_1 t1, low_eq t2 t3]
  refine low_fin ?_ w
  have t4 : n / 2 * 2 = 24 ∨ n / 2 * 2 = 26 ∨ n / 2 * 2 = 28 ∨ n / 2 * 2 = 30 := by omega
  rcases t4 with q | q | q | q
  · rw [q] at c
    exact z_l24 h c _ _
  · rw [q] at c
    exact z_l26 h c _ _
  · rw [q] at c
    exact z_l28 h c _ _
  · rw [q] at c
    exact z_l30 h c _ _
theorem tab_2_1 : ∀ n : Nat, n < 48 → 32 ≤ n → jshr (nI n) 4 = 2 := by decide +kernel
theorem tab_2_2 : ∀ n : Nat, n < 48 → 32 ≤ n → ¬ nI n = 0 := by decide +kernel
theorem tab_2_3 : ∀ n : Nat, n < 48 → 32 ≤ n → (24 : Int32) ≤ nI n := by decide +kernel
theorem tab_2 : ∀ n : Nat, n < 48 → 32 ≤ n → (jshr (nI n) 4 = 2) ∧ (¬ nI n = 0) ∧ ((24 : Int32) ≤ nI n) := fun n h2 h1 => ⟨tab_2_1 n h2 h1, tab_2_2 n h2 h1, tab_2_3 n h2 h1⟩
theorem w_low2 {u : XS} {v : MS} (h : Core u v) {w : Int32} {n : Nat} (e : f_X3_opOf w = nI n) (h1 : 32 ≤ n) (h2 : n < 48) : Grp (f_X3_perform u w (m_g v (f_X3_byteY w).toNatClampNeg) (f_X4_number v (f_X3_opOf w) (f_X3_byteZ w))) v (f_X4_low v (f_X3_opOf w) (f_X3_byteX w) (f_X3_byteY w) (f_X3_byteZ w)) := by
  obtain ⟨t1, t2, t3⟩ := tab_2 n h2 h1
  have c := (tab_e n (by omega)).1
  rw [← e] at t1 t2 t3 c
  rw [pf_2 t1, low_eq t2 t3]
  refine low_fin ?_ w
  have t4 : n / 2 * 2 = 32 ∨ n / 2 * 2 = 34 ∨ n / 2 * 2 = 36 ∨ n / 2 * 2 = 38 ∨ n / 2 * 2 = 40 ∨ n / 2 * 2 = 42 ∨ n / 2 * 2 = 44 ∨ n / 2 * 2 = 46 := by omega
  rcases t4 with q | q | q | q | q | q | q | q
  · rw [q] at c
    exact z_l32 h c _ _
  · rw [q] at c
    exact z_l34 h c _ _
  · rw [q] at c
    exact z_l36 h c _ _
  · rw [q] at c
    exact z_l38 h c _ _
  · rw [q] at c
    exact z_l40 h c _ _
  · rw [q] at c
    exact z_l42 h c _ _
  · rw [q] at c
    exact z_l44 h c _ _
  · rw [q] at c
    exact z_l46 h c _ _
theorem tab_3_1 : ∀ n : Nat, n < 64 → 48 ≤ n → jshr (nI n) 4 = 3 := by decide +kernel
theorem tab_3_2 : ∀ n : Nat, n < 64 → 48 ≤ n → ¬ nI n = 0 := by decide +kernel
theorem tab_3_3 : ∀ n : Nat, n < 64 → 48 ≤ n → (24 : Int32) ≤ nI n := by decide +kernel
theorem tab_3 : ∀ n : Nat, n < 64 → 48 ≤ n → (jshr (nI n) 4 = 3) ∧ (¬ nI n = 0) ∧ ((24 : Int32) ≤ nI n) := fun n h2 h1 => ⟨tab_3_1 n h2 h1, tab_3_2 n h2 h1, tab_3_3 n h2 h1⟩
theorem w_low3 {u : XS} {v : MS} (h : Core u v) {w : Int32} {n : Nat} (e : f_X3_opOf w = nI n) (h1 : 48 ≤ n) (h2 : n < 64) : Grp (f_X3_perform u w (m_g v (f_X3_byteY w).toNatClampNeg) (f_X4_number v (f_X3_opOf w) (f_X3_byteZ w))) v (f_X4_low v (f_X3_opOf w) (f_X3_byteX w) (f_X3_byteY w) (f_X3_byteZ w)) := by
  obtain ⟨t1, t2, t3⟩ := tab_3 n h2 h1
  have c := (tab_e n (by omega)).1
  rw [← e] at t1 t2 t3 c
  rw [pf_3 t1, low_eq t2 t3]
  refine low_fin ?_ w
  have t4 : n / 2 * 2 = 48 ∨ n / 2 * 2 = 50 ∨ n / 2 * 2 = 52 ∨ n / 2 * 2 = 54 ∨ n / 2 * 2 = 56 ∨ n / 2 * 2 = 58 ∨ n / 2 * 2 = 60 ∨ n / 2 * 2 = 62 := by omega
  rcases t4 with q | q | q | q | q | q | q | q
  · rw [q] at c
    exact z_l48 h c _ _
  · rw [q] at c
    exact z_l50 h c _ _
  · rw [q] at c
    exact z_l52 h c _ _
  · rw [q] at c
    exact z_l54 h c _ _
  · rw [q] at c
    exact z_l56 h c _ _
  · rw [q] at c
    exact z_l58 h c _ _
  · rw [q] at c
    exact z_l60 h c _ _
  · rw [q] at c
    exact z_l62 h c _ _
theorem w_low {u : XS} {v : MS} (h : Core u v) {w : Int32} {n : Nat} (e : f_X3_opOf w = nI n) (h1 : 24 ≤ n) (h2 : n < 64) : Grp (f_X3_perform u w (m_g v (f_X3_byteY w).toNatClampNeg) (f_X4_number v (f_X3_opOf w) (f_X3_byteZ w))) v (f_X4_low v (f_X3_opOf w) (f_X3_byteX w) (f_X3_byteY w) (f_X3_byteZ w)) := by
  by_cases c1 : n < 32
  · exact w_low1 h e h1 c1
  · by_cases c2 : n < 48
    · exact w_low2 h e (Nat.le_of_not_lt c1) c2
    · exact w_low3 h e (Nat.le_of_not_lt c2) h2
