/-! longs as numbers below 2 ^ 64 -/
theorem bl_T (x : Int64) : ∃ N : Nat, N < 2 ^ 64 ∧ x = lN N := by
  refine ⟨x.toBitVec.toNat, x.toBitVec.isLt, Int64.toBitVec_inj.mp (BitVec.eq_of_toNat_eq ?_)⟩
  show _ = (BitVec.ofNat 64 x.toBitVec.toNat).toNat
  rw [BitVec.toNat_ofNat, Nat.mod_eq_of_lt x.toBitVec.isLt]
theorem bl_and {a b : Nat} (ha : a < 2 ^ 64) (hb : b < 2 ^ 64) : lN a &&& lN b = lN (a &&& b) := by
  apply Int64.toBitVec_inj.mp
  rw [Int64.toBitVec_and]
  show BitVec.ofNat 64 a &&& BitVec.ofNat 64 b = BitVec.ofNat 64 (a &&& b)
  apply BitVec.eq_of_toNat_eq
  rw [BitVec.toNat_and, BitVec.toNat_ofNat, BitVec.toNat_ofNat, BitVec.toNat_ofNat, Nat.mod_eq_of_lt ha, Nat.mod_eq_of_lt hb, Nat.mod_eq_of_lt (Nat.and_lt_two_pow _ hb)]
theorem bl_or {a b : Nat} (ha : a < 2 ^ 64) (hb : b < 2 ^ 64) : lN a ||| lN b = lN (a ||| b) := by
  apply Int64.toBitVec_inj.mp
  rw [Int64.toBitVec_or]
  show BitVec.ofNat 64 a ||| BitVec.ofNat 64 b = BitVec.ofNat 64 (a ||| b)
  apply BitVec.eq_of_toNat_eq
  rw [BitVec.toNat_or, BitVec.toNat_ofNat, BitVec.toNat_ofNat, BitVec.toNat_ofNat, Nat.mod_eq_of_lt ha, Nat.mod_eq_of_lt hb, Nat.mod_eq_of_lt (Nat.or_lt_two_pow ha hb)]
theorem bl_xor {a b : Nat} (ha : a < 2 ^ 64) (hb : b < 2 ^ 64) : lN a ^^^ lN b = lN (a ^^^ b) := by
  apply Int64.toBitVec_inj.mp
  rw [Int64.toBitVec_xor]
  show BitVec.ofNat 64 a ^^^ BitVec.ofNat 64 b = BitVec.ofNat 64 (a ^^^ b)
  apply BitVec.eq_of_toNat_eq
  rw [BitVec.toNat_xor, BitVec.toNat_ofNat, BitVec.toNat_ofNat, BitVec.toNat_ofNat, Nat.mod_eq_of_lt ha, Nat.mod_eq_of_lt hb, Nat.mod_eq_of_lt (Nat.xor_lt_two_pow ha hb)]
theorem bl_s64 : ∀ k : Nat, k < 64 → (((nI k).toInt64.toUInt64 &&& Int64.toUInt64 63).toBitVec % 64).toNat = k := by decide +kernel
theorem bl_shr {a k : Nat} (ha : a < 2 ^ 64) (hk : k < 64) : jlushr (lN a) (nI k) = lN (a / 2 ^ k) := by
  have e : (jlushr (lN a) (nI k)).toBitVec = (lN a).toBitVec >>> k := by
    conv => rhs; rw [← bl_s64 k hk]
    exact UInt64.toBitVec_shiftRight _ _
  apply Int64.toBitVec_inj.mp
  rw [e]
  show BitVec.ofNat 64 a >>> k = BitVec.ofNat 64 (a / 2 ^ k)
  apply BitVec.eq_of_toNat_eq
  rw [BitVec.toNat_ushiftRight, Nat.shiftRight_eq_div_pow, BitVec.toNat_ofNat, BitVec.toNat_ofNat, Nat.mod_eq_of_lt ha, Nat.mod_eq_of_lt (Nat.lt_of_le_of_lt (Nat.div_le_self _ _) ha)]
theorem bl_shl8 (a : Nat) : jlshl (lN a) 8 = lN (a * 256) := by
  apply Int64.toBitVec_inj.mp
  show BitVec.ofNat 64 a <<< 8 = BitVec.ofNat 64 (a * 256)
  apply BitVec.eq_of_toNat_eq
  rw [BitVec.toNat_shiftLeft, BitVec.toNat_ofNat, BitVec.toNat_ofNat, Nat.shiftLeft_eq]
  omega
theorem bl_z {a : Nat} (ha : a < 2 ^ 64) : lN a = 0 ↔ a = 0 := by
  constructor
  · intro h
    have h2 : (BitVec.ofNat 64 a).toNat = (BitVec.ofNat 64 0).toNat := congrArg (fun t : Int64 => t.toBitVec.toNat) h
    rw [BitVec.toNat_ofNat, BitVec.toNat_ofNat, Nat.mod_eq_of_lt ha] at h2
    exact h2
  · intro h; rw [h]; rfl
/-! a number's bytes, the lowest first -/
def vB : List Nat → Nat
  | [] => 0
  | b :: t => b + 256 * vB t
abbrev bts (l : List Nat) : Prop := ∀ b ∈ l, b < 256
theorem bts_map {l : List Nat} {f : Nat → Nat} (h : ∀ b, f b < 256) : bts (l.map f) := by
  intro b hb
  obtain ⟨a, -, rfl⟩ := List.mem_map.mp hb
  exact h a
theorem vB_lt : ∀ l : List Nat, bts l → vB l < 256 ^ l.length
  | [], _ => by show 0 < 1; decide
  | b :: t, h => by
    have h1 := h b List.mem_cons_self
    have h2 := vB_lt t (fun x hx => h x (List.mem_cons_of_mem _ hx))
    show b + 256 * vB t < 256 ^ (t.length + 1)
    rw [Nat.pow_succ]
    omega
theorem vB_64 {l : List Nat} (h : bts l) (h8 : l.length = 8) : vB l < 2 ^ 64 := by
  have := vB_lt l h
  rw [h8] at this
  exact this
theorem vB_ex : ∀ (k N : Nat), N < 256 ^ k → ∃ l : List Nat, l.length = k ∧ bts l ∧ vB l = N
  | 0, N, h => ⟨[], rfl, fun b hb => absurd hb List.not_mem_nil, by
      have h1 : N < 1 := h
      show 0 = N
      omega⟩
  | k + 1, N, h => by
    rw [Nat.pow_succ] at h
    obtain ⟨l, h1, h2, h3⟩ := vB_ex k (N / 256) (by omega)
    refine ⟨N % 256 :: l, by rw [List.length_cons, h1], ?_, ?_⟩
    · intro b hb
      rcases List.mem_cons.mp hb with rfl | hb
      · omega
      · exact h2 b hb
    · show N % 256 + 256 * vB l = N
      omega
theorem vB_c (c : Nat) : ∀ l : List Nat, l.length = 8 → vB (l.map (fun _ => c)) = c * 72340172838076673
  | [b0, b1, b2, b3, b4, b5, b6, b7], _ => by
    show c + 256 * (c + 256 * (c + 256 * (c + 256 * (c + 256 * (c + 256 * (c + 256 * (c + 256 * 0))))))) = c * 72340172838076673
    omega
theorem cut_and {a b A B : Nat} (ha : a < 256) (hb : b < 256) : (a + 256 * A) &&& (b + 256 * B) = (a &&& b) + 256 * (A &&& B) := by
  have e1 := Nat.and_mod_two_pow (a := a + 256 * A) (b := b + 256 * B) (n := 8)
  have e2 := Nat.and_div_two_pow (a := a + 256 * A) (b := b + 256 * B) (n := 8)
  rw [show 2 ^ 8 = 256 from rfl, show (a + 256 * A) % 256 = a from by omega, show (b + 256 * B) % 256 = b from by omega] at e1
  rw [show 2 ^ 8 = 256 from rfl, show (a + 256 * A) / 256 = A from by omega, show (b + 256 * B) / 256 = B from by omega] at e2
  rw [← e1, ← e2]
  generalize (a + 256 * A) &&& (b + 256 * B) = X
  omega
theorem cut_or {a b A B : Nat} (ha : a < 256) (hb : b < 256) : (a + 256 * A) ||| (b + 256 * B) = (a ||| b) + 256 * (A ||| B) := by
  have e1 := Nat.or_mod_two_pow (a := a + 256 * A) (b := b + 256 * B) (n := 8)
  have e2 := Nat.or_div_two_pow (a := a + 256 * A) (b := b + 256 * B) (n := 8)
  rw [show 2 ^ 8 = 256 from rfl, show (a + 256 * A) % 256 = a from by omega, show (b + 256 * B) % 256 = b from by omega] at e1
  rw [show 2 ^ 8 = 256 from rfl, show (a + 256 * A) / 256 = A from by omega, show (b + 256 * B) / 256 = B from by omega] at e2
  rw [← e1, ← e2]
  generalize (a + 256 * A) ||| (b + 256 * B) = X
  omega
theorem cut_xor {a b A B : Nat} (ha : a < 256) (hb : b < 256) : (a + 256 * A) ^^^ (b + 256 * B) = (a ^^^ b) + 256 * (A ^^^ B) := by
  have e1 := Nat.xor_mod_two_pow (a := a + 256 * A) (b := b + 256 * B) (n := 8)
  have e2 := Nat.xor_div_two_pow (a := a + 256 * A) (b := b + 256 * B) (n := 8)
  rw [show 2 ^ 8 = 256 from rfl, show (a + 256 * A) % 256 = a from by omega, show (b + 256 * B) % 256 = b from by omega] at e1
  rw [show 2 ^ 8 = 256 from rfl, show (a + 256 * A) / 256 = A from by omega, show (b + 256 * B) / 256 = B from by omega] at e2
  rw [← e1, ← e2]
  generalize (a + 256 * A) ^^^ (b + 256 * B) = X
  omega
