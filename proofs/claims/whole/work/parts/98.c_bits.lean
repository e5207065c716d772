/-! the reference's bits -/
def bitZ (u : MS) (op X Y Z : Int32) (p q : Int64) : Int64 := (if (op &&& (254 : Int32)) = (192 : Int32) then let v7 : Int64 := p ||| q; v7 else if (op &&& (254 : Int32)) = (194 : Int32) then let v9 : Int64 := p ||| (q ^^^ (-1 : Int64)); v9 else if (op &&& (254 : Int32)) = (196 : Int32) then let v11 : Int64 := (p ||| q) ^^^ (-1 : Int64); v11 else if (op &&& (254 : Int32)) = (198 : Int32) then let v13 : Int64 := p ^^^ q; v13 else if (op &&& (254 : Int32)) = (200 : Int32) then let v15 : Int64 := p &&& q; v15 else if (op &&& (254 : Int32)) = (202 : Int32) then let v17 : Int64 := p &&& (q ^^^ (-1 : Int64)); v17 else if (op &&& (254 : Int32)) = (204 : Int32) then let v19 : Int64 := (p &&& q) ^^^ (-1 : Int64); v19 else if (op &&& (254 : Int32)) = (206 : Int32) then let v21 : Int64 := (p ^^^ q) ^^^ (-1 : Int64); v21 else if (op &&& (254 : Int32)) = (216 : Int32) then let v23 : Int64 := (p &&& (m_sp u (5 : Int32).toNatClampNeg)) ||| (q &&& ((m_sp u (5 : Int32).toNatClampNeg) ^^^ (-1 : Int64))); v23 else if (op &&& (254 : Int32)) = (218 : Int32) then let v28 : Int64 := (lf_X4_bits_295 u op X Y Z p q (64 + 1) (0 : Int64) (0 : Int32)).1; let v29 : Int32 := (lf_X4_bits_295 u op X Y Z p q (64 + 1) (0 : Int64) (0 : Int32)).2; v28 else if (op &&& (254 : Int32)) = (220 : Int32) then let z33 : Int32 := (if (op &&& (254 : Int32)) = (222 : Int32) then (1 : Int32) else (0 : Int32)); let v32 : Int32 := z33; let v35 : Int64 := f_X4_matrix p q v32; v35 else if (op &&& (254 : Int32)) = (222 : Int32) then let z39 : Int32 := (if (op &&& (254 : Int32)) = (222 : Int32) then (1 : Int32) else (0 : Int32)); let v38 : Int32 := z39; let v41 : Int64 := f_X4_matrix p q v38; v41 else let v42 : Int64 := f_X4_differences p q (jshl (1 : Int32) ((jshr op (1 : Int32)) &&& (3 : Int32))); v42)
theorem bits_eq (u : MS) (op X Y Z : Int32) : f_X4_bits u op X Y Z = ((f_X4_done u X (bitZ u op X Y Z (m_g u Y.toNatClampNeg) (f_X4_number u op Z))).1, (f_X4_done u X (bitZ u op X Y Z (m_g u Y.toNatClampNeg) (f_X4_number u op Z))).2) := rfl
theorem z_b192 {u : XS} {v : MS} (h : Core u v) {op X Y Z : Int32} (c : op &&& 254 = 192) (p q : Int64) : f_X2_bitwise op p q = bitZ v op X Y Z p q := by
  have e1 : f_X2_bitwise op p q = p ||| q := by
    unfold f_X2_bitwise
    rw [if_pos c]
  have e2 : bitZ v op X Y Z p q = p ||| q := by
    unfold bitZ
    rw [if_pos c]
  rw [e1, e2]
theorem z_b194 {u : XS} {v : MS} (h : Core u v) {op X Y Z : Int32} (c : op &&& 254 = 194) (p q : Int64) : f_X2_bitwise op p q = bitZ v op X Y Z p q := by
  have e1 : f_X2_bitwise op p q = p ||| (q ^^^ (-1 : Int64)) := by
    unfold f_X2_bitwise
    rw [if_neg (by rw [c]; decide), if_pos c]
  have e2 : bitZ v op X Y Z p q = p ||| (q ^^^ (-1 : Int64)) := by
    unfold bitZ
    rw [if_neg (by rw [c]; decide), if_pos c]
  rw [e1, e2]
theorem z_b196 {u : XS} {v : MS} (h : Core u v) {op X Y Z : Int32} (c : op &&& 254 = 196) (p q : Int64) : f_X2_bitwise op p q = bitZ v op X Y Z p q := by
  have e1 : f_X2_bitwise op p q = (p ||| q) ^^^ (-1 : Int64) := by
    unfold f_X2_bitwise
    rw [if_neg (by rw [c]; decide), if_neg (by rw [c]; decide), if_pos c]
  have e2 : bitZ v op X Y Z p q = (p ||| q) ^^^ (-1 : Int64) := by
    unfold bitZ
    rw [if_neg (by rw [c]; decide), if_neg (by rw [c]; decide), if_pos c]
  rw [e1, e2]
theorem z_b198 {u : XS} {v : MS} (h : Core u v) {op X Y Z : Int32} (c : op &&& 254 = 198) (p q : Int64) : f_X2_bitwise op p q = bitZ v op X Y Z p q := by
  have e1 : f_X2_bitwise op p q = p ^^^ q := by
    unfold f_X2_bitwise
    rw [if_neg (by rw [c]; decide), if_neg (by rw [c]; decide), if_neg (by rw [c]; decide), if_pos c]
  have e2 : bitZ v op X Y Z p q = p ^^^ q := by
    unfold bitZ
    rw [if_neg (by rw [c]; decide), if_neg (by rw [c]; decide), if_neg (by rw [c]; decide), if_pos c]
  rw [e1, e2]
theorem z_b200 {u : XS} {v : MS} (h : Core u v) {op X Y Z : Int32} (c : op &&& 254 = 200) (p q : Int64) : f_X2_bitwise op p q = bitZ v op X Y Z p q := by
  have e1 : f_X2_bitwise op p q = p &&& q := by
    unfold f_X2_bitwise
    rw [if_neg (by rw [c]; decide), if_neg (by rw [c]; decide), if_neg (by rw [c]; decide), if_neg (by rw [c]; decide), if_pos c]
  have e2 : bitZ v op X Y Z p q = p &&& q := by
    unfold bitZ
    rw [if_neg (by rw [c]; decide), if_neg (by rw [c]; decide), if_neg (by rw [c]; decide), if_neg (by rw [c]; decide), if_pos c]
  rw [e1, e2]
theorem z_b202 {u : XS} {v : MS} (h : Core u v) {op X Y Z : Int32} (c : op &&& 254 = 202) (p q : Int64) : f_X2_bitwise op p q = bitZ v op X Y Z p q := by
  have e1 : f_X2_bitwise op p q = p &&& (q ^^^ (-1 : Int64)) := by
    unfold f_X2_bitwise
    rw [if_neg (by rw [c]; decide), if_neg (by rw [c]; decide), if_neg (by rw [c]; decide), if_neg (by rw [c]; decide), if_neg (by rw [c]; decide), if_pos c]
  have e2 : bitZ v op X Y Z p q = p &&& (q ^^^ (-1 : Int64)) := by
    unfold bitZ
    rw [if_neg (by rw [c]; decide), if_neg (by rw [c]; decide), if_neg (by rw [c]; decide), if_neg (by rw [c]; decide), if_neg (by rw [c]; decide), if_pos c]
  rw [e1, e2]
theorem z_b204 {u : XS} {v : MS} (h : Core u v) {op X Y Z : Int32} (c : op &&& 254 = 204) (p q : Int64) : f_X2_bitwise op p q = bitZ v op X Y Z p q := by
  have e1 : f_X2_bitwise op p q = (p &&& q) ^^^ (-1 : Int64) := by
    unfold f_X2_bitwise
    rw [if_neg (by rw [c]; decide), if_neg (by rw [c]; decide), if_neg (by rw [c]; decide), if_neg (by rw [c]; decide), if_neg (by rw [c]; decide), if_neg (by rw [c]; decide), if_pos c]
  have e2 : bitZ v op X Y Z p q = (p &&& q) ^^^ (-1 : Int64) := by
    unfold bitZ
    rw [if_neg (by rw [c]; decide), if_neg (by rw [c]; decide), if_neg (by rw [c]; decide), if_neg (by rw [c]; decide), if_neg (by rw [c]; decide), if_neg (by rw [c]; decide), if_pos c]
  rw [e1, e2]
theorem z_b206 {u : XS} {v : MS} (h : Core u v) {op X Y Z : Int32} (c : op &&& 254 = 206) (p q : Int64) : f_X2_bitwise op p q = bitZ v op X Y Z p q := by
  have e1 : f_X2_bitwise op p q = (p ^^^ q) ^^^ (-1 : Int64) := by
    unfold f_X2_bitwise
    rw [if_neg (by rw [c]; decide), if_neg (by rw [c]; decide), if_neg (by rw [c]; decide), if_neg (by rw [c]; decide), if_neg (by rw [c]; decide), if_neg (by rw [c]; decide), if_neg (by rw [c]; decide)]
  have e2 : bitZ v op X Y Z p q = (p ^^^ q) ^^^ (-1 : Int64) := by
    unfold bitZ
    rw [if_neg (by rw [c]; decide), if_neg (by rw [c]; decide), if_neg (by rw [c]; decide), if_neg (by rw [c]; decide), if_neg (by rw [c]; decide), if_neg (by rw [c]; decide), if_neg (by rw [c]; decide), if_pos c]
  rw [e1, e2]
theorem z_b208 {u : XS} {v : MS} (h : Core u v) {op X Y Z : Int32} (c : op &&& 254 = 208) (p q : Int64) (cs : jshl (1 : Int32) ((jshr op (1 : Int32)) &&& (3 : Int32)) = 1) : f_X3_bytewise (pc4 u) op p q = bitZ v op X Y Z p q := by
  have e1 : f_X3_bytewise (pc4 u) op p q = f_X2_differences p q 8 := by
    unfold f_X3_bytewise
    rw [if_pos c]
  have e2 : bitZ v op X Y Z p q = f_X4_differences p q (jshl (1 : Int32) ((jshr op (1 : Int32)) &&& (3 : Int32))) := by
    unfold bitZ
    rw [if_neg (by rw [c]; decide), if_neg (by rw [c]; decide), if_neg (by rw [c]; decide), if_neg (by rw [c]; decide), if_neg (by rw [c]; decide), if_neg (by rw [c]; decide), if_neg (by rw [c]; decide), if_neg (by rw [c]; decide), if_neg (by rw [c]; decide), if_neg (by rw [c]; decide), if_neg (by rw [c]; decide), if_neg (by rw [c]; decide)]
  rw [e1, e2, cs, df_1]
theorem z_b210 {u : XS} {v : MS} (h : Core u v) {op X Y Z : Int32} (c : op &&& 254 = 210) (p q : Int64) (cs : jshl (1 : Int32) ((jshr op (1 : Int32)) &&& (3 : Int32)) = 2) : f_X3_bytewise (pc4 u) op p q = bitZ v op X Y Z p q := by
  have e1 : f_X3_bytewise (pc4 u) op p q = f_X2_differences p q 16 := by
    unfold f_X3_bytewise
    rw [if_neg (by rw [c]; decide), if_pos c]
  have e2 : bitZ v op X Y Z p q = f_X4_differences p q (jshl (1 : Int32) ((jshr op (1 : Int32)) &&& (3 : Int32))) := by
    unfold bitZ
    rw [if_neg (by rw [c]; decide), if_neg (by rw [c]; decide), if_neg (by rw [c]; decide), if_neg (by rw [c]; decide), if_neg (by rw [c]; decide), if_neg (by rw [c]; decide), if_neg (by rw [c]; decide), if_neg (by rw [c]; decide), if_neg (by rw [c]; decide), if_neg (by rw [c]; decide), if_neg (by rw [c]; decide), if_neg (by rw [c]; decide)]
  rw [e1, e2, cs, df_2]
theorem z_b212 {u : XS} {v : MS} (h : Core u v) {op X Y Z : Int32} (c : op &&& 254 = 212) (p q : Int64) (cs : jshl (1 : Int32) ((jshr op (1 : Int32)) &&& (3 : Int32)) = 4) : f_X3_bytewise (pc4 u) op p q = bitZ v op X Y Z p q := by
  have e1 : f_X3_bytewise (pc4 u) op p q = f_X2_differences p q 32 := by
    unfold f_X3_bytewise
    rw [if_neg (by rw [c]; decide), if_neg (by rw [c]; decide), if_pos c]
  have e2 : bitZ v op X Y Z p q = f_X4_differences p q (jshl (1 : Int32) ((jshr op (1 : Int32)) &&& (3 : Int32))) := by
    unfold bitZ
    rw [if_neg (by rw [c]; decide), if_neg (by rw [c]; decide), if_neg (by rw [c]; decide), if_neg (by rw [c]; decide), if_neg (by rw [c]; decide), if_neg (by rw [c]; decide), if_neg (by rw [c]; decide), if_neg (by rw [c]; decide), if_neg (by rw [c]; decide), if_neg (by rw [c]; decide), if_neg (by rw [c]; decide), if_neg (by rw [c]; decide)]
  rw [e1, e2, cs, df_4]
theorem z_b214 {u : XS} {v : MS} (h : Core u v) {op X Y Z : Int32} (c : op &&& 254 = 214) (p q : Int64) (cs : jshl (1 : Int32) ((jshr op (1 : Int32)) &&& (3 : Int32)) = 8) : f_X3_bytewise (pc4 u) op p q = bitZ v op X Y Z p q := by
  have e1 : f_X3_bytewise (pc4 u) op p q = f_X2_differences p q 64 := by
    unfold f_X3_bytewise
    rw [if_neg (by rw [c]; decide), if_neg (by rw [c]; decide), if_neg (by rw [c]; decide), if_pos c]
  have e2 : bitZ v op X Y Z p q = f_X4_differences p q (jshl (1 : Int32) ((jshr op (1 : Int32)) &&& (3 : Int32))) := by
    unfold bitZ
    rw [if_neg (by rw [c]; decide), if_neg (by rw [c]; decide), if_neg (by rw [c]; decide), if_neg (by rw [c]; decide), if_neg (by rw [c]; decide), if_neg (by rw [c]; decide), if_neg (by rw [c]; decide), if_neg (by rw [c]; decide), if_neg (by rw [c]; decide), if_neg (by rw [c]; decide), if_neg (by rw [c]; decide), if_neg (by rw [c]; decide)]
  rw [e1, e2, cs, df_8]
theorem z_b216 {u : XS} {v : MS} (h : Core u v) {op X Y Z : Int32} (c : op &&& 254 = 216) (p q : Int64) : f_X3_bytewise (pc4 u) op p q = bitZ v op X Y Z p q := by
  have e1 : f_X3_bytewise (pc4 u) op p q = (p &&& (x_sp u (5 : Int32).toNatClampNeg)) ||| (q &&& ((x_sp u (5 : Int32).toNatClampNeg) ^^^ (-1 : Int64))) := by
    unfold f_X3_bytewise
    rw [if_neg (by rw [c]; decide), if_neg (by rw [c]; decide), if_neg (by rw [c]; decide), if_neg (by rw [c]; decide), if_pos c]
    rfl
  have e2 : bitZ v op X Y Z p q = (p &&& (m_sp v (5 : Int32).toNatClampNeg)) ||| (q &&& ((m_sp v (5 : Int32).toNatClampNeg) ^^^ (-1 : Int64))) := by
    unfold bitZ
    rw [if_neg (by rw [c]; decide), if_neg (by rw [c]; decide), if_neg (by rw [c]; decide), if_neg (by rw [c]; decide), if_neg (by rw [c]; decide), if_neg (by rw [c]; decide), if_neg (by rw [c]; decide), if_neg (by rw [c]; decide), if_pos c]
  rw [e1, e2, h.2.1]
theorem z_b218 {u : XS} {v : MS} (h : Core u v) {op X Y Z : Int32} (c : op &&& 254 = 218) (p q : Int64) : f_X3_bytewise (pc4 u) op p q = bitZ v op X Y Z p q := by
  have e1 : f_X3_bytewise (pc4 u) op p q = (f_J13_bitCount_95d88 (p &&& (q ^^^ (-1 : Int64)))).toInt64 := by
    unfold f_X3_bytewise
    rw [if_neg (by rw [c]; decide), if_neg (by rw [c]; decide), if_neg (by rw [c]; decide), if_neg (by rw [c]; decide), if_neg (by rw [c]; decide), if_pos c]
  have e2 : bitZ v op X Y Z p q = (lf_X4_bits_295 v op X Y Z p q (64 + 1) (0 : Int64) (0 : Int32)).1 := by
    unfold bitZ
    rw [if_neg (by rw [c]; decide), if_neg (by rw [c]; decide), if_neg (by rw [c]; decide), if_neg (by rw [c]; decide), if_neg (by rw [c]; decide), if_neg (by rw [c]; decide), if_neg (by rw [c]; decide), if_neg (by rw [c]; decide), if_neg (by rw [c]; decide), if_pos c]
  rw [e1, e2]
  exact bc_eq v op X Y Z p q
theorem z_b220 {u : XS} {v : MS} (h : Core u v) {op X Y Z : Int32} (c : op &&& 254 = 220) (p q : Int64) : f_X3_bytewise (pc4 u) op p q = bitZ v op X Y Z p q := by
  have e1 : f_X3_bytewise (pc4 u) op p q = f_X2_matrixProduct p q 0 := by
    unfold f_X3_bytewise
    rw [if_neg (by rw [c]; decide), if_neg (by rw [c]; decide), if_neg (by rw [c]; decide), if_neg (by rw [c]; decide), if_neg (by rw [c]; decide), if_neg (by rw [c]; decide), if_pos c]
  have e2 : bitZ v op X Y Z p q = f_X4_matrix p q (if (op &&& (254 : Int32)) = (222 : Int32) then (1 : Int32) else (0 : Int32)) := by
    unfold bitZ
    rw [if_neg (by rw [c]; decide), if_neg (by rw [c]; decide), if_neg (by rw [c]; decide), if_neg (by rw [c]; decide), if_neg (by rw [c]; decide), if_neg (by rw [c]; decide), if_neg (by rw [c]; decide), if_neg (by rw [c]; decide), if_neg (by rw [c]; decide), if_neg (by rw [c]; decide), if_pos c]
  rw [e1, e2, if_neg (by rw [c]; decide)]
  exact mx_eq p q 0
theorem z_b222 {u : XS} {v : MS} (h : Core u v) {op X Y Z : Int32} (c : op &&& 254 = 222) (p q : Int64) : f_X3_bytewise (pc4 u) op p q = bitZ v op X Y Z p q := by
  have e1 : f_X3_bytewise (pc4 u) op p q = f_X2_matrixProduct p q 1 := by
    unfold f_X3_bytewise
    rw [if_neg (by rw [c]; decide), if_neg (by rw [c]; decide), if_neg (by rw [c]; decide), if_neg (by rw [c]; decide), if_neg (by rw [c]; decide), if_neg (by rw [c]; decide), if_neg (by rw [c]; decide)]
  have e2 : bitZ v op X Y Z p q = f_X4_matrix p q (if (op &&& (254 : Int32)) = (222 : Int32) then (1 : Int32) else (0 : Int32)) := by
    unfold bitZ
    rw [if_neg (by rw [c]; decide), if_neg (by rw [c]; decide), if_neg (by rw [c]; decide), if_neg (by rw [c]; decide), if_neg (by rw [c]; decide), if_neg (by rw [c]; decide), if_neg (by rw [c]; decide), if_neg (by rw [c]; decide), if_neg (by rw [c]; decide), if_neg (by rw [c]; decide), if_neg (by rw [c]; decide), if_pos c]
  rw [e1, e2, if_pos c]
  exact mx_eq p q 1
theorem tab_b1 : ∀ n : Nat, n < 208 → 192 ≤ n → jshr (nI n) 4 = 12 := by decide +kernel
theorem tab_b2 : ∀ n : Nat, n < 224 → 208 ≤ n → jshr (nI n) 4 = 13 ∧ jshl (1 : Int32) ((jshr (nI n) (1 : Int32)) &&& (3 : Int32)) = nI (2 ^ (n / 2 % 4)) := by decide +kernel
theorem way_bits {v : MS} {w : Int32} {n : Nat} (e : f_X3_opOf w = nI n) (h1 : 192 ≤ n) (h2 : n < 224) (u0 : XS) (hu0 : Core u0 v) : Way v w (m_g v (f_X3_byteY w).toNatClampNeg) (f_X4_number v (f_X3_opOf w) (f_X3_byteZ w)) (f_X4_bits v (f_X3_opOf w) (f_X3_byteX w) (f_X3_byteY w) (f_X3_byteZ w)) := by
  refine Way.grp (by omega) e (by omega) (Or.inr (by omega)) (lg_1 (by omega) e (by omega) (by omega) (by omega) (by omega) (by unfold lgT; omega)) (ls_0 (by omega) e (by omega)) (fun u hu => ?_) u0 hu0
  rw [bits_eq]
  by_cases c1 : n < 208
  · have t1 := tab_b1 n c1 h1
    have c := (tab_e n (by omega)).1
    rw [← e] at t1 c
    rw [pf_12 t1]
    refine w_done hu w ?_
    have t2 : n / 2 * 2 = 192 ∨ n / 2 * 2 = 194 ∨ n / 2 * 2 = 196 ∨ n / 2 * 2 = 198 ∨ n / 2 * 2 = 200 ∨ n / 2 * 2 = 202 ∨ n / 2 * 2 = 204 ∨ n / 2 * 2 = 206 := by omega
    rcases t2 with q | q | q | q | q | q | q | q
    · rw [q] at c
      exact z_b192 hu c _ _
    · rw [q] at c
      exact z_b194 hu c _ _
    · rw [q] at c
      exact z_b196 hu c _ _
    · rw [q] at c
      exact z_b198 hu c _ _
    · rw [q] at c
      exact z_b200 hu c _ _
    · rw [q] at c
      exact z_b202 hu c _ _
    · rw [q] at c
      exact z_b204 hu c _ _
    · rw [q] at c
      exact z_b206 hu c _ _
  · obtain ⟨t1, cs⟩ := tab_b2 n h2 (Nat.le_of_not_lt c1)
    have c := (tab_e n (by omega)).1
    rw [← e] at t1 c cs
    rw [pf_13 t1]
    refine w_done hu w ?_
    have t2 : n / 2 * 2 = 208 ∨ n / 2 * 2 = 210 ∨ n / 2 * 2 = 212 ∨ n / 2 * 2 = 214 ∨ n / 2 * 2 = 216 ∨ n / 2 * 2 = 218 ∨ n / 2 * 2 = 220 ∨ n / 2 * 2 = 222 := by omega
    rcases t2 with q | q | q | q | q | q | q | q
    · rw [q] at c
      rw [show n / 2 % 4 = 0 from by omega] at cs
      exact z_b208 hu c _ _ cs
    · rw [q] at c
      rw [show n / 2 % 4 = 1 from by omega] at cs
      exact z_b210 hu c _ _ cs
    · rw [q] at c
      rw [show n / 2 % 4 = 2 from by omega] at cs
      exact z_b212 hu c _ _ cs
    · rw [q] at c
      rw [show n / 2 % 4 = 3 from by omega] at cs
      exact z_b214 hu c _ _ cs
    · rw [q] at c
      exact z_b216 hu c _ _
    · rw [q] at c
      exact z_b218 hu c _ _
    · rw [q] at c
      exact z_b220 hu c _ _
    · rw [q] at c
      exact z_b222 hu c _ _
