/-! matrices of bits -/
def opB (k : Int32) (a b : Nat) : Nat := if k = 0 then a ||| b else a ^^^ b
theorem opB_lt {k : Int32} {a b n : Nat} (ha : a < 2 ^ n) (hb : b < 2 ^ n) : opB k a b < 2 ^ n := by
  unfold opB
  split
  · exact Nat.or_lt_two_pow ha hb
  · exact Nat.xor_lt_two_pow ha hb
theorem opB_0 (k : Int32) (a : Nat) : opB k a 0 = a := by
  unfold opB
  split
  · exact Nat.or_zero a
  · exact Nat.xor_zero a
theorem opB_cut (k : Int32) {a b A B : Nat} (ha : a < 256) (hb : b < 256) : opB k (a + 256 * A) (b + 256 * B) = opB k a b + 256 * opB k A B := by
  unfold opB
  by_cases c : k = 0
  · rw [if_pos c, if_pos c, if_pos c, cut_or ha hb]
  · rw [if_neg c, if_neg c, if_neg c, cut_xor ha hb]
theorem opB_l (k : Int32) {a b : Nat} (ha : a < 2 ^ 64) (hb : b < 2 ^ 64) : (if k = 0 then lN a ||| lN b else lN a ^^^ lN b) = lN (opB k a b) := by
  unfold opB
  by_cases c : k = 0
  · rw [if_pos c, if_pos c, bl_or ha hb]
  · rw [if_neg c, if_neg c, bl_xor ha hb]
def owB (k : Int32) (P b : Nat) : Nat → Nat
  | 0 => 0
  | j + 1 => opB k (owB k P b j) (b / 2 ^ (7 - j) % 2 * (P / 2 ^ (56 - 8 * j) % 256))
theorem bit_mul (x y : Nat) (hy : y < 256) : x % 2 * y < 256 := by
  rcases Nat.mod_two_eq_zero_or_one x with h | h
  · rw [h, Nat.zero_mul]; decide
  · rw [h, Nat.one_mul]; exact hy
theorem owB_lt (k : Int32) (P b : Nat) : ∀ j : Nat, owB k P b j < 256
  | 0 => by show 0 < 256; decide
  | j + 1 => by
    show opB k (owB k P b j) (b / 2 ^ (7 - j) % 2 * (P / 2 ^ (56 - 8 * j) % 256)) < 2 ^ 8
    exact opB_lt (owB_lt k P b j) (bit_mul _ _ (Nat.mod_lt _ (by decide)))
theorem vB_opB (k : Int32) {f g : Nat → Nat} (hf : ∀ b, f b < 256) (hg : ∀ b, g b < 256) : ∀ l : List Nat, opB k (vB (l.map f)) (vB (l.map g)) = vB (l.map (fun b => opB k (f b) (g b)))
  | [] => by
    show opB k 0 0 = 0
    exact opB_0 k 0
  | b :: t => by
    show opB k (f b + 256 * vB (t.map f)) (g b + 256 * vB (t.map g)) = opB k (f b) (g b) + 256 * vB (t.map (fun b => opB k (f b) (g b)))
    rw [opB_cut k (hf b) (hg b), vB_opB k hf hg t]
theorem vB_mulB (f : Nat → Nat) (c : Nat) : ∀ l : List Nat, vB (l.map f) * c = vB (l.map (fun b => f b * c))
  | [] => Nat.zero_mul c
  | b :: t => by
    show (f b + 256 * vB (t.map f)) * c = f b * c + 256 * vB (t.map (fun b => f b * c))
    rw [← vB_mulB f c t, Nat.add_mul, Nat.mul_assoc]
theorem bit_cut (b T s : Nat) (hb : b < 256) (hs : s < 8) : ∃ x : Nat, (b + 256 * T) / 2 ^ s = x + 256 * (T / 2 ^ s) ∧ x < 256 ∧ x % 2 = b / 2 ^ s % 2 := by
  have h : s = 0 ∨ s = 1 ∨ s = 2 ∨ s = 3 ∨ s = 4 ∨ s = 5 ∨ s = 6 ∨ s = 7 := by omega
  rcases h with rfl | rfl | rfl | rfl | rfl | rfl | rfl | rfl
  · exact ⟨b, by omega, by omega, by omega⟩
  · exact ⟨b / 2 + 128 * (T % 2), by omega, by omega, by omega⟩
  · exact ⟨b / 4 + 64 * (T % 4), by omega, by omega, by omega⟩
  · exact ⟨b / 8 + 32 * (T % 8), by omega, by omega, by omega⟩
  · exact ⟨b / 16 + 16 * (T % 16), by omega, by omega, by omega⟩
  · exact ⟨b / 32 + 8 * (T % 32), by omega, by omega, by omega⟩
  · exact ⟨b / 64 + 4 * (T % 64), by omega, by omega, by omega⟩
  · exact ⟨b / 128 + 2 * (T % 128), by omega, by omega, by omega⟩
theorem vB_bits {s : Nat} (hs : s < 8) : ∀ l : List Nat, bts l → (vB l / 2 ^ s) &&& vB (l.map (fun _ => 1)) = vB (l.map (fun b => b / 2 ^ s % 2))
  | [], _ => by
    show (0 / 2 ^ s) &&& 0 = 0
    exact Nat.and_zero _
  | b :: t, h => by
    obtain ⟨x, e, hx, ex⟩ := bit_cut b (vB t) s (h b List.mem_cons_self) hs
    show ((b + 256 * vB t) / 2 ^ s) &&& (1 + 256 * vB (t.map (fun _ => 1))) = b / 2 ^ s % 2 + 256 * vB (t.map (fun b => b / 2 ^ s % 2))
    rw [e, cut_and hx (by decide), vB_bits hs t (fun x hx => h x (List.mem_cons_of_mem _ hx)), Nat.and_one_is_mod, ex]
theorem bl_byte {P : Nat} (hP : P < 2 ^ 64) {j : Nat} (hj : j < 8) : jlushr (lN P) ((56 : Int32) - ((8 : Int32) * nI j)) &&& (255 : Int64) = lN (P / 2 ^ (56 - 8 * j) % 256) := by
  rw [show (8 : Int32) = nI 8 from rfl, nI_times, show (56 : Int32) = nI 56 from rfl, nI_minus (by omega), bl_shr hP (by omega), show (255 : Int64) = lN 255 from rfl, bl_and (Nat.lt_of_le_of_lt (Nat.div_le_self _ _) hP) (by decide)]
  congr 1
  exact Nat.and_two_pow_sub_one_eq_mod _ 8
theorem mc_loop (k : Int32) {P : Nat} (hP : P < 2 ^ 64) {l : List Nat} (lb : bts l) (l8 : l.length = 8) (h1 : vB (l.map (fun _ => 1)) = 72340172838076673) : ∀ f j : Nat, j + f = 8 → (lf_X2_matrixProduct_6 (lN P) (lN (vB l)) k (f + 1) (lN (vB (l.map (fun b => owB k P b j)))) (nI j)).1 = lN (vB (l.map (fun b => owB k P b 8)))
  | 0, j, h => by
    have hj : j = 8 := by omega
    subst hj
    unfold lf_X2_matrixProduct_6
    rw [if_pos (by decide)]
  | f + 1, j, h => by
    unfold lf_X2_matrixProduct_6
    rw [if_neg (show ¬ (8 : Int32) ≤ nI j from nI_ge (b := 8) (by omega) (by decide))]
    dsimp only
    have hl := vB_64 lb l8
    have hr : ∀ b : Nat, b / 2 ^ (7 - j) % 2 * (P / 2 ^ (56 - 8 * j) % 256) < 256 := fun b => bit_mul _ _ (Nat.mod_lt _ (by decide))
    rw [bl_byte hP (by omega), show (7 : Int32) = nI 7 from rfl, nI_minus (by omega), bl_shr hl (by omega), show (72340172838076673 : Int64) = lN 72340172838076673 from rfl, bl_and (Nat.lt_of_le_of_lt (Nat.div_le_self _ _) hl) (by decide), ← h1, vB_bits (by omega) l lb, lN_mul, vB_mulB, opB_l k (vB_64 (bts_map (fun b => owB_lt k P b j)) (by rw [List.length_map, l8])) (vB_64 (bts_map hr) (by rw [List.length_map, l8])), vB_opB k (fun b => owB_lt k P b j) hr, show (1 : Int32) = nI 1 from rfl, nI_plus]
    exact mc_loop k hP lb l8 h1 f (j + 1) (by omega)
theorem bit_of (A j : Nat) (hj : j < 8) : A / 2 ^ (7 - j) % 2 = A % 256 / 2 ^ (7 - j) % 2 := by
  have h : j = 0 ∨ j = 1 ∨ j = 2 ∨ j = 3 ∨ j = 4 ∨ j = 5 ∨ j = 6 ∨ j = 7 := by omega
  rcases h with rfl | rfl | rfl | rfl | rfl | rfl | rfl | rfl
  · show A / 128 % 2 = A % 256 / 128 % 2
    omega
  · show A / 64 % 2 = A % 256 / 64 % 2
    omega
  · show A / 32 % 2 = A % 256 / 32 % 2
    omega
  · show A / 16 % 2 = A % 256 / 16 % 2
    omega
  · show A / 8 % 2 = A % 256 / 8 % 2
    omega
  · show A / 4 % 2 = A % 256 / 4 % 2
    omega
  · show A / 2 % 2 = A % 256 / 2 % 2
    omega
  · show A / 1 % 2 = A % 256 / 1 % 2
    omega
theorem mr_bit {Q : Nat} (hQ : Q < 2 ^ 64) {i j : Nat} (hi : i < 8) (hj : j < 8) : jlushr (lN Q) ((((56 : Int32) - ((8 : Int32) * nI i)) + (7 : Int32)) - nI j) &&& (1 : Int64) = lN (Q / 2 ^ (56 - 8 * i) % 256 / 2 ^ (7 - j) % 2) := by
  rw [show (8 : Int32) = nI 8 from rfl, nI_times, show (56 : Int32) = nI 56 from rfl, nI_minus (by omega), show (7 : Int32) = nI 7 from rfl, nI_plus, nI_minus (by omega), bl_shr hQ (by omega), show (1 : Int64) = lN 1 from rfl, bl_and (Nat.lt_of_le_of_lt (Nat.div_le_self _ _) hQ) (by decide), Nat.and_one_is_mod, ← bit_of _ j hj, Nat.div_div_eq_div_mul, ← Nat.pow_add, show 56 - 8 * i + 7 - j = 56 - 8 * i + (7 - j) from by omega]
theorem mr_in (k : Int32) {P Q : Nat} (hP : P < 2 ^ 64) (hQ : Q < 2 ^ 64) {i : Nat} (hi : i < 8) (w5 : Int64) : ∀ f j : Nat, j + f = 8 → (lf_X4_matrix_19 (lN P) (lN Q) k w5 (nI i) (f + 1) (lN (owB k P (Q / 2 ^ (56 - 8 * i) % 256) j)) (nI j)).1 = lN (owB k P (Q / 2 ^ (56 - 8 * i) % 256) 8)
  | 0, j, h => by
    have hj : j = 8 := by omega
    subst hj
    unfold lf_X4_matrix_19
    rw [if_pos (by decide)]
  | f + 1, j, h => by
    unfold lf_X4_matrix_19
    rw [if_neg (show ¬ (8 : Int32) ≤ nI j from nI_ge (b := 8) (by omega) (by decide))]
    dsimp only
    have hb : P / 2 ^ (56 - 8 * j) % 256 < 256 := Nat.mod_lt _ (by decide)
    have ho := owB_lt k P (Q / 2 ^ (56 - 8 * i) % 256) j
    have e : (if jlushr (lN Q) ((((56 : Int32) - ((8 : Int32) * nI i)) + (7 : Int32)) - nI j) &&& (1 : Int64) = 0 then lN (owB k P (Q / 2 ^ (56 - 8 * i) % 256) j) else if k = 0 then lN (owB k P (Q / 2 ^ (56 - 8 * i) % 256) j) ||| (jlushr (lN P) ((56 : Int32) - ((8 : Int32) * nI j)) &&& (255 : Int64)) else lN (owB k P (Q / 2 ^ (56 - 8 * i) % 256) j) ^^^ (jlushr (lN P) ((56 : Int32) - ((8 : Int32) * nI j)) &&& (255 : Int64))) = lN (owB k P (Q / 2 ^ (56 - 8 * i) % 256) (j + 1)) := by
      rw [mr_bit hQ hi (by omega), bl_byte hP (by omega), opB_l k (Nat.lt_trans ho (by decide)) (Nat.lt_trans hb (by decide))]
      show _ = lN (opB k (owB k P (Q / 2 ^ (56 - 8 * i) % 256) j) (Q / 2 ^ (56 - 8 * i) % 256 / 2 ^ (7 - j) % 2 * (P / 2 ^ (56 - 8 * j) % 256)))
      rcases Nat.mod_two_eq_zero_or_one (Q / 2 ^ (56 - 8 * i) % 256 / 2 ^ (7 - j)) with h0 | h0
      · rw [h0, if_pos (show lN 0 = 0 from rfl), Nat.zero_mul, opB_0]
      · rw [h0, if_neg (show ¬ lN 1 = 0 from by decide), Nat.one_mul]
    rw [e, show (1 : Int32) = nI 1 from rfl, nI_plus]
    exact mr_in k hP hQ hi w5 f (j + 1) (by omega)
def gB (k : Int32) (P Q : Nat) : Nat → Nat
  | 0 => 0
  | i + 1 => owB k P (Q / 2 ^ (56 - 8 * i) % 256) 8 + 256 * gB k P Q i
theorem gB_lt (k : Int32) (P Q : Nat) : ∀ i : Nat, gB k P Q i < 256 ^ i
  | 0 => by show 0 < 1; decide
  | i + 1 => by
    have h1 := gB_lt k P Q i
    have h2 := owB_lt k P (Q / 2 ^ (56 - 8 * i) % 256) 8
    show owB k P (Q / 2 ^ (56 - 8 * i) % 256) 8 + 256 * gB k P Q i < 256 ^ (i + 1)
    rw [Nat.pow_succ]
    omega
theorem mr_loop (k : Int32) {P Q : Nat} (hP : P < 2 ^ 64) (hQ : Q < 2 ^ 64) : ∀ f i : Nat, i + f = 8 → (lf_X4_matrix_6 (lN P) (lN Q) k (f + 1) (lN (gB k P Q i)) (nI i)).1 = lN (gB k P Q 8)
  | 0, i, h => by
    have hj : i = 8 := by omega
    subst hj
    unfold lf_X4_matrix_6
    rw [if_pos (by decide)]
  | f + 1, i, h => by
    unfold lf_X4_matrix_6
    rw [if_neg (show ¬ (8 : Int32) ≤ nI i from nI_ge (b := 8) (by omega) (by decide))]
    dsimp only
    have hg := gB_lt k P Q i
    have ho := owB_lt k P (Q / 2 ^ (56 - 8 * i) % 256) 8
    have hp : 256 ^ i ≤ 256 ^ 7 := Nat.pow_le_pow_right (by decide) (by omega)
    have hin := mr_in k hP hQ (i := i) (by omega) (lN (gB k P Q i)) 8 0 rfl
    rw [show (0 : Int64) = lN (owB k P (Q / 2 ^ (56 - 8 * i) % 256) 0) from rfl, show (0 : Int32) = nI 0 from rfl, hin, bl_shl8, bl_or (by omega) (by omega), show gB k P Q i * 256 = 0 + 256 * gB k P Q i from by omega, show owB k P (Q / 2 ^ (56 - 8 * i) % 256) 8 = owB k P (Q / 2 ^ (56 - 8 * i) % 256) 8 + 256 * 0 from by omega, cut_or (by decide) ho, Nat.zero_or, Nat.or_zero, show (1 : Int32) = nI 1 from rfl, nI_plus]
    exact mr_loop k hP hQ f (i + 1) (by omega)
theorem mx_eq (p q : Int64) (k : Int32) : f_X2_matrixProduct p q k = f_X4_matrix p q k := by
  obtain ⟨P, hP, rfl⟩ := bl_T p
  obtain ⟨Q, hQ, rfl⟩ := bl_T q
  obtain ⟨l, l8, lb, rfl⟩ := vB_ex 8 Q hQ
  unfold f_X2_matrixProduct f_X4_matrix
  dsimp only
  have hr := mr_loop k hP hQ 8 0 rfl
  have hr' : (lf_X4_matrix_6 (lN P) (lN (vB l)) k (8 + 1) 0 0).1 = lN (gB k P (vB l) 8) := hr
  rw [hr']
  clear hr hr'
  match l, l8, lb with
  | [b0, b1, b2, b3, b4, b5, b6, b7], l8, lb =>
    have hc := mc_loop k hP lb l8 (vB_c 1 _ rfl) 8 0 rfl
    have hc' : (lf_X2_matrixProduct_6 (lN P) (lN (vB [b0, b1, b2, b3, b4, b5, b6, b7])) k (8 + 1) 0 0).1 = lN (vB ([b0, b1, b2, b3, b4, b5, b6, b7].map (fun b => owB k P b 8))) := hc
    rw [hc']
    refine congrArg lN ?_
    clear hc hc'
    have t0 := lb b0 (by simp)
    have t1 := lb b1 (by simp)
    have t2 := lb b2 (by simp)
    have t3 := lb b3 (by simp)
    have t4 := lb b4 (by simp)
    have t5 := lb b5 (by simp)
    have t6 := lb b6 (by simp)
    have t7 := lb b7 (by simp)
    have eQ : vB [b0, b1, b2, b3, b4, b5, b6, b7] = b0 + 256 * (b1 + 256 * (b2 + 256 * (b3 + 256 * (b4 + 256 * (b5 + 256 * (b6 + 256 * (b7 + 256 * 0))))))) := rfl
    generalize vB [b0, b1, b2, b3, b4, b5, b6, b7] = Q at *
    show owB k P b0 8 + 256 * (owB k P b1 8 + 256 * (owB k P b2 8 + 256 * (owB k P b3 8 + 256 * (owB k P b4 8 + 256 * (owB k P b5 8 + 256 * (owB k P b6 8 + 256 * (owB k P b7 8 + 256 * 0))))))) = owB k P (Q / 1 % 256) 8 + 256 * (owB k P (Q / 256 % 256) 8 + 256 * (owB k P (Q / 65536 % 256) 8 + 256 * (owB k P (Q / 16777216 % 256) 8 + 256 * (owB k P (Q / 4294967296 % 256) 8 + 256 * (owB k P (Q / 1099511627776 % 256) 8 + 256 * (owB k P (Q / 281474976710656 % 256) 8 + 256 * (owB k P (Q / 72057594037927936 % 256) 8 + 256 * 0)))))))
    rw [show Q / 1 % 256 = b0 from by omega, show Q / 256 % 256 = b1 from by omega, show Q / 65536 % 256 = b2 from by omega, show Q / 16777216 % 256 = b3 from by omega, show Q / 4294967296 % 256 = b4 from by omega, show Q / 1099511627776 % 256 = b5 from by omega, show Q / 281474976710656 % 256 = b6 from by omega, show Q / 72057594037927936 % 256 = b7 from by omega]
