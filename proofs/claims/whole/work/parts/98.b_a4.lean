/-! the last steps: bytes 0 .. 8 added up -/
theorem dv_r {r Z D : Nat} (h : r < D) : (r + D * Z) / D = Z := by
  rw [Nat.add_mul_div_left _ _ (by omega), Nat.div_eq_of_lt h, Nat.zero_add]
theorem fd_1 {c0 X v3 v4 : Nat} (h0 : c0 ≤ 8) (e3 : v3 = c0 + 256 * X) (e4 : v4 = v3 + v3 / 256) : v4 = c0 + 256 * X + X := by
  rw [e4, e3, dv_r (by omega)]
theorem fd_2 {c0 c1 c2 X v4 v5 : Nat} (h0 : c0 ≤ 8) (h1 : c1 ≤ 8) (h2 : c2 ≤ 8) (e4 : v4 = (c0 + c1) + 256 * (c1 + c2) + 65536 * X) (e5 : v5 = v4 + v4 / 65536) : v5 = (c0 + c1) + 256 * (c1 + c2) + 65536 * X + X := by
  rw [e5, e4, dv_r (by omega)]
theorem fd_3 {a0 a1 a2 a3 X v5 v6 : Nat} (h0 : a0 ≤ 64) (h1 : a1 ≤ 64) (h2 : a2 ≤ 64) (h3 : a3 ≤ 64) (e5 : v5 = (a0 + 256 * a1 + 65536 * a2 + 16777216 * a3) + 4294967296 * X) (e6 : v6 = v5 + v5 / 4294967296) : v6 = (a0 + 256 * a1 + 65536 * a2 + 16777216 * a3) + 4294967296 * X + X := by
  rw [e6, e5, dv_r (by omega)]
theorem fd_4 {a0 a1 a2 a3 b0 B v6 : Nat} (h0 : a0 ≤ 32) (h1 : b0 ≤ 32) (e : v6 = (a0 + 256 * a1 + 65536 * a2 + 16777216 * a3) + 4294967296 * (b0 + 256 * B) + (b0 + 256 * B)) : v6 % 128 = a0 + b0 := by
  omega
theorem f8_b0 {c0 c1 c2 c3 c4 c5 c6 c7 : Nat} (h0 : c0 ≤ 8) (h1 : c1 ≤ 8) (h2 : c2 ≤ 8) (h3 : c3 ≤ 8) (h4 : c4 ≤ 8) (h5 : c5 ≤ 8) (h6 : c6 ≤ 8) (h7 : c7 ≤ 8) : c0 + c1 + c2 + c3 ≤ 32 := by omega
theorem f8_b1 {c0 c1 c2 c3 c4 c5 c6 c7 : Nat} (h0 : c0 ≤ 8) (h1 : c1 ≤ 8) (h2 : c2 ≤ 8) (h3 : c3 ≤ 8) (h4 : c4 ≤ 8) (h5 : c5 ≤ 8) (h6 : c6 ≤ 8) (h7 : c7 ≤ 8) : c1 + c2 + c3 + c4 ≤ 64 := by omega
theorem f8_b2 {c0 c1 c2 c3 c4 c5 c6 c7 : Nat} (h0 : c0 ≤ 8) (h1 : c1 ≤ 8) (h2 : c2 ≤ 8) (h3 : c3 ≤ 8) (h4 : c4 ≤ 8) (h5 : c5 ≤ 8) (h6 : c6 ≤ 8) (h7 : c7 ≤ 8) : c2 + c3 + c4 + c5 ≤ 64 := by omega
theorem f8_b3 {c0 c1 c2 c3 c4 c5 c6 c7 : Nat} (h0 : c0 ≤ 8) (h1 : c1 ≤ 8) (h2 : c2 ≤ 8) (h3 : c3 ≤ 8) (h4 : c4 ≤ 8) (h5 : c5 ≤ 8) (h6 : c6 ≤ 8) (h7 : c7 ≤ 8) : c3 + c4 + c5 + c6 ≤ 64 := by omega
theorem f8_b4 {c0 c1 c2 c3 c4 c5 c6 c7 : Nat} (h0 : c0 ≤ 8) (h1 : c1 ≤ 8) (h2 : c2 ≤ 8) (h3 : c3 ≤ 8) (h4 : c4 ≤ 8) (h5 : c5 ≤ 8) (h6 : c6 ≤ 8) (h7 : c7 ≤ 8) : c4 + c5 + c6 + c7 ≤ 32 := by omega
theorem f8_l3 {c0 c1 c2 c3 c4 c5 c6 c7 : Nat} (h0 : c0 ≤ 8) (h1 : c1 ≤ 8) (h2 : c2 ≤ 8) (h3 : c3 ≤ 8) (h4 : c4 ≤ 8) (h5 : c5 ≤ 8) (h6 : c6 ≤ 8) (h7 : c7 ≤ 8) : c0 + 256 * (c1 + 256 * (c2 + 256 * (c3 + 256 * (c4 + 256 * (c5 + 256 * (c6 + 256 * (c7 + 256 * 0))))))) < 2 ^ 60 := by omega
theorem f8_l4 {c0 c1 c2 c3 c4 c5 c6 c7 : Nat} (h0 : c0 ≤ 8) (h1 : c1 ≤ 8) (h2 : c2 ≤ 8) (h3 : c3 ≤ 8) (h4 : c4 ≤ 8) (h5 : c5 ≤ 8) (h6 : c6 ≤ 8) (h7 : c7 ≤ 8) : (c0 + c1) + 256 * (c1 + c2) + 65536 * ((c2 + c3) + 256 * ((c3 + c4) + 256 * ((c4 + c5) + 256 * ((c5 + c6) + 256 * ((c6 + c7) + 256 * c7))))) < 2 ^ 61 := by omega
theorem f8_l5 {c0 c1 c2 c3 c4 c5 c6 c7 : Nat} (h0 : c0 ≤ 8) (h1 : c1 ≤ 8) (h2 : c2 ≤ 8) (h3 : c3 ≤ 8) (h4 : c4 ≤ 8) (h5 : c5 ≤ 8) (h6 : c6 ≤ 8) (h7 : c7 ≤ 8) : ((c0 + c1 + c2 + c3) + 256 * (c1 + c2 + c3 + c4) + 65536 * (c2 + c3 + c4 + c5) + 16777216 * (c3 + c4 + c5 + c6)) + 4294967296 * ((c4 + c5 + c6 + c7) + 256 * ((c5 + c6 + c7) + 256 * ((c6 + c7) + 256 * c7))) < 2 ^ 62 := by omega
theorem f8_i4 (c0 c1 c2 c3 c4 c5 c6 c7 : Nat) : c0 + 256 * (c1 + 256 * (c2 + 256 * (c3 + 256 * (c4 + 256 * (c5 + 256 * (c6 + 256 * (c7 + 256 * 0))))))) + (c1 + 256 * (c2 + 256 * (c3 + 256 * (c4 + 256 * (c5 + 256 * (c6 + 256 * (c7 + 256 * 0))))))) = (c0 + c1) + 256 * (c1 + c2) + 65536 * ((c2 + c3) + 256 * ((c3 + c4) + 256 * ((c4 + c5) + 256 * ((c5 + c6) + 256 * ((c6 + c7) + 256 * c7))))) := by omega
theorem f8_i5 (c0 c1 c2 c3 c4 c5 c6 c7 : Nat) : (c0 + c1) + 256 * (c1 + c2) + 65536 * ((c2 + c3) + 256 * ((c3 + c4) + 256 * ((c4 + c5) + 256 * ((c5 + c6) + 256 * ((c6 + c7) + 256 * c7))))) + ((c2 + c3) + 256 * ((c3 + c4) + 256 * ((c4 + c5) + 256 * ((c5 + c6) + 256 * ((c6 + c7) + 256 * c7))))) = ((c0 + c1 + c2 + c3) + 256 * (c1 + c2 + c3 + c4) + 65536 * (c2 + c3 + c4 + c5) + 16777216 * (c3 + c4 + c5 + c6)) + 4294967296 * ((c4 + c5 + c6 + c7) + 256 * ((c5 + c6 + c7) + 256 * ((c6 + c7) + 256 * c7))) := by omega
theorem fold_8 {c0 c1 c2 c3 c4 c5 c6 c7 : Nat} (h0 : c0 ≤ 8) (h1 : c1 ≤ 8) (h2 : c2 ≤ 8) (h3 : c3 ≤ 8) (h4 : c4 ≤ 8) (h5 : c5 ≤ 8) (h6 : c6 ≤ 8) (h7 : c7 ≤ 8) : ∀ v3 v4 v5 v6 : Nat, v3 = c0 + 256 * (c1 + 256 * (c2 + 256 * (c3 + 256 * (c4 + 256 * (c5 + 256 * (c6 + 256 * (c7 + 256 * 0))))))) → v4 = v3 + v3 / 256 → v5 = v4 + v4 / 65536 → v6 = v5 + v5 / 4294967296 → v6 % 128 = (c0 + c1 + c2 + c3) + (c4 + c5 + c6 + c7) ∧ v3 < 2 ^ 60 ∧ v4 < 2 ^ 61 ∧ v5 < 2 ^ 62 := by
  have b0 := f8_b0 h0 h1 h2 h3 h4 h5 h6 h7
  have b1 := f8_b1 h0 h1 h2 h3 h4 h5 h6 h7
  have b2 := f8_b2 h0 h1 h2 h3 h4 h5 h6 h7
  have b3 := f8_b3 h0 h1 h2 h3 h4 h5 h6 h7
  have b4 := f8_b4 h0 h1 h2 h3 h4 h5 h6 h7
  have l3 := f8_l3 h0 h1 h2 h3 h4 h5 h6 h7
  have l4 := f8_l4 h0 h1 h2 h3 h4 h5 h6 h7
  have l5 := f8_l5 h0 h1 h2 h3 h4 h5 h6 h7
  have i4 := f8_i4 c0 c1 c2 c3 c4 c5 c6 c7
  have i5 := f8_i5 c0 c1 c2 c3 c4 c5 c6 c7
  intro v3 v4 v5 v6 e3 e4 e5 e6
  have f4 := fd_1 h0 e3 e4
  rw [i4] at f4
  have f5 := fd_2 h0 h1 h2 f4 e5
  rw [i5] at f5
  have f6 := fd_3 (Nat.le_trans b0 (by decide)) b1 b2 b3 f5 e6
  have g6 := fd_4 b0 b4 f6
  refine ⟨g6, ?_, ?_, ?_⟩
  · rw [e3]; exact l3
  · rw [f4]; exact l4
  · rw [f5]; exact l5
