/-- the steps of the class's count, as numbers -/
theorem bc_core {N A B C D E S m1 m2 m3 : Nat} {M1 M2 M3 : Int64} (eM1 : M1 = lN m1) (eM2 : M2 = lN m2) (eM3 : M3 = lN m3) (h1 : m1 < 2 ^ 64) (h2 : m2 < 2 ^ 64) (h3 : m3 < 2 ^ 64) (hN : N < 2 ^ 64) (hA : A < 2 ^ 64) (hC : C < 2 ^ 64) (hD : D < 2 ^ 64) (s1 : (N / 2) &&& m1 = B) (s1b : N = A + B) (s2 : (A &&& m2) + ((A / 4) &&& m2) = C) (s3 : C + C / 16 = D) (s4 : D &&& m3 = E) (hf : ∀ v4 v5 v6 : Nat, v4 = E + E / 256 → v5 = v4 + v4 / 65536 → v6 = v5 + v5 / 4294967296 → v6 % 128 = S ∧ E < 2 ^ 60 ∧ v4 < 2 ^ 61 ∧ v5 < 2 ^ 62) (P : Int64) (eP : P = lN N) : ((((((((P - ((jlushr P (1 : Int32)) &&& M1)) &&& M2) + ((jlushr (P - ((jlushr P (1 : Int32)) &&& M1)) (2 : Int32)) &&& M2)) + (jlushr (((P - ((jlushr P (1 : Int32)) &&& M1)) &&& M2) + ((jlushr (P - ((jlushr P (1 : Int32)) &&& M1)) (2 : Int32)) &&& M2)) (4 : Int32))) &&& M3) : Int64) = lN E)) := by
  have e1 : jlushr P (1 : Int32) = lN (N / 2) := by rw [eP]; exact bl_shr (k := 1) hN (by decide)
  have l1 : N / 2 < 2 ^ 64 := Nat.lt_of_le_of_lt (Nat.div_le_self _ _) hN
  have e2 : P - ((jlushr P (1 : Int32)) &&& M1) = lN A := by
    rw [e1, eM1, bl_and l1 h1, s1, eP, lN_sub (by omega)]
    congr 1
    omega
  have e3 : jlushr (P - ((jlushr P (1 : Int32)) &&& M1)) (2 : Int32) = lN (A / 4) := by rw [e2]; exact bl_shr (k := 2) hA (by decide)
  have l3 : A / 4 < 2 ^ 64 := Nat.lt_of_le_of_lt (Nat.div_le_self _ _) hA
  rw [e3, e2, eM2, bl_and hA h2, bl_and l3 h2, lN_add, s2]
  have e4 : jlushr (lN C) (4 : Int32) = lN (C / 16) := bl_shr (k := 4) hC (by decide)
  rw [e4, lN_add, s3, eM3, bl_and hD h3, s4]
theorem bc_tail {E S : Nat} (hf : ∀ v4 v5 v6 : Nat, v4 = E + E / 256 → v5 = v4 + v4 / 65536 → v6 = v5 + v5 / 4294967296 → v6 % 128 = S ∧ E < 2 ^ 60 ∧ v4 < 2 ^ 61 ∧ v5 < 2 ^ 62) (V : Int64) (eV : V = lN E) : (((V + jlushr V (8 : Int32)) + jlushr (V + jlushr V (8 : Int32)) (16 : Int32)) + jlushr ((V + jlushr V (8 : Int32)) + jlushr (V + jlushr V (8 : Int32)) (16 : Int32)) (32 : Int32)).toInt32 &&& (127 : Int32) = nI S := by
  obtain ⟨g1, g2, g3, g4⟩ := hf _ _ _ rfl rfl rfl
  have e1 : jlushr (lN E) (8 : Int32) = lN (E / 256) := bl_shr (k := 8) (Nat.lt_trans g2 (by decide)) (by decide)
  rw [eV, e1, lN_add]
  generalize E + E / 256 = v4 at *
  have e2 : jlushr (lN v4) (16 : Int32) = lN (v4 / 65536) := bl_shr (k := 16) (Nat.lt_trans g3 (by decide)) (by decide)
  rw [e2, lN_add]
  generalize v4 + v4 / 65536 = v5 at *
  have e3 : jlushr (lN v5) (32 : Int32) = lN (v5 / 4294967296) := bl_shr (k := 32) (Nat.lt_trans g4 (by decide)) (by decide)
  rw [e3, lN_add]
  generalize v5 + v5 / 4294967296 = v6 at *
  rw [lN_i, pk_and (nI v6) 7 (by decide)]
  have e7 : (nI v6).toBitVec.toNat = v6 % 2 ^ 32 := by
    show (BitVec.ofNat 32 v6).toNat = _
    rw [BitVec.toNat_ofNat]
  rw [e7, show v6 % 2 ^ 32 % 2 ^ 7 = v6 % 128 from by omega, g1]
theorem bc_lst (l : List Nat) (l8 : l.length = 8) (lb : bts l) : ∀ v4 v5 v6 : Nat, v4 = vB (l.map pc8) + vB (l.map pc8) / 256 → v5 = v4 + v4 / 65536 → v6 = v5 + v5 / 4294967296 → v6 % 128 = sumB l ∧ vB (l.map pc8) < 2 ^ 60 ∧ v4 < 2 ^ 61 ∧ v5 < 2 ^ 62 := by
  match l, l8, lb with
  | [b0, b1, b2, b3, b4, b5, b6, b7], _, lb =>
    have t0 := pc8_le b0 (lb b0 (by simp))
    have t1 := pc8_le b1 (lb b1 (by simp))
    have t2 := pc8_le b2 (lb b2 (by simp))
    have t3 := pc8_le b3 (lb b3 (by simp))
    have t4 := pc8_le b4 (lb b4 (by simp))
    have t5 := pc8_le b5 (lb b5 (by simp))
    have t6 := pc8_le b6 (lb b6 (by simp))
    have t7 := pc8_le b7 (lb b7 (by simp))
    show ∀ v4 v5 v6 : Nat, v4 = (pc8 b0 + 256 * (pc8 b1 + 256 * (pc8 b2 + 256 * (pc8 b3 + 256 * (pc8 b4 + 256 * (pc8 b5 + 256 * (pc8 b6 + 256 * (pc8 b7 + 256 * 0)))))))) + (pc8 b0 + 256 * (pc8 b1 + 256 * (pc8 b2 + 256 * (pc8 b3 + 256 * (pc8 b4 + 256 * (pc8 b5 + 256 * (pc8 b6 + 256 * (pc8 b7 + 256 * 0)))))))) / 256 → v5 = v4 + v4 / 65536 → v6 = v5 + v5 / 4294967296 → v6 % 128 = pc8 b0 + (pc8 b1 + (pc8 b2 + (pc8 b3 + (pc8 b4 + (pc8 b5 + (pc8 b6 + (pc8 b7 + 0))))))) ∧ (pc8 b0 + 256 * (pc8 b1 + 256 * (pc8 b2 + 256 * (pc8 b3 + 256 * (pc8 b4 + 256 * (pc8 b5 + 256 * (pc8 b6 + 256 * (pc8 b7 + 256 * 0)))))))) < 2 ^ 60 ∧ v4 < 2 ^ 61 ∧ v5 < 2 ^ 62
    generalize pc8 b0 = c0 at *
    generalize pc8 b1 = c1 at *
    generalize pc8 b2 = c2 at *
    generalize pc8 b3 = c3 at *
    generalize pc8 b4 = c4 at *
    generalize pc8 b5 = c5 at *
    generalize pc8 b6 = c6 at *
    generalize pc8 b7 = c7 at *
    intro v4 v5 v6 e4 e5 e6
    obtain ⟨g1, g2⟩ := fold_8 t0 t1 t2 t3 t4 t5 t6 t7 _ v4 v5 v6 rfl e4 e5 e6
    refine ⟨?_, g2⟩
    rw [g1]
    clear g1 g2 e4 e5 e6 t0 t1 t2 t3 t4 t5 t6 t7
    omega
theorem sumB_le : ∀ l : List Nat, bts l → sumB l ≤ 8 * l.length
  | [], _ => Nat.le_refl _
  | b :: t, h => by
    have h1 := pc8_le b (h b List.mem_cons_self)
    have h2 := sumB_le t (fun x hx => h x (List.mem_cons_of_mem _ hx))
    show pc8 b + sumB t ≤ 8 * (t.length + 1)
    omega
theorem bc_num {N : Nat} (hN : N < 2 ^ 64) : (f_J13_bitCount_95d88 (lN N)).toInt64 = lN (cntB 64 N) := by
  obtain ⟨l, l8, lb, rfl⟩ := vB_ex 8 N hN
  have hc : cntB 64 (vB l) = sumB l := by
    have := cnt_l l lb
    rw [l8] at this
    exact this
  rw [hc]
  obtain ⟨m, m1, m2, -, m4, m5⟩ := st_3 l lb
  have s1 := st_1 l lb
  have s1b := st_1b l lb
  have s2 := st_2 l lb
  rw [vB_c _ l l8] at s1 s2 m5
  have k1 : bts (l.map bs1) := by
    intro b hb
    obtain ⟨a, ha, rfl⟩ := List.mem_map.mp hb
    exact (bt_2 a (lb a ha)).2
  have k2 : bts (l.map bs2) := by
    intro b hb
    obtain ⟨a, ha, rfl⟩ := List.mem_map.mp hb
    have := (bt_4 a (lb a ha)).1
    omega
  have n1 := vB_64 k1 (by rw [List.length_map, l8])
  have n2 := vB_64 k2 (by rw [List.length_map, l8])
  have nm := vB_64 m2 (by rw [m1, l8])
  have hf := bc_lst l l8 lb
  have sl := sumB_le l lb
  rw [l8] at sl
  generalize hS : sumB l = S at *
  generalize vB (l.map pc8) = E at *
  generalize vB (l.map bs1) = A at *
  generalize vB (l.map bs2) = C at *
  generalize vB (l.map (fun b => b / 2 &&& 85)) = B at *
  generalize vB m = D at *
  generalize vB l = N at *
  have core := bc_core (M1 := 6148914691236517205) (M2 := 3689348814741910323) (M3 := 1085102592571150095) rfl rfl rfl (Nat.le_of_ble_eq_true rfl) (Nat.le_of_ble_eq_true rfl) (Nat.le_of_ble_eq_true rfl) hN n1 n2 nm s1 s1b s2 m4 m5 hf (lN N) rfl
  unfold f_J13_bitCount_95d88
  dsimp only
  rw [core, bc_tail hf (lN E) rfl, nI_64 (by omega)]
theorem bc_loop (v : MS) (op X Y Z : Int32) (p q : Int64) {N : Nat} (hN : N < 2 ^ 64) (e : p &&& (q ^^^ (-1 : Int64)) = lN N) : ∀ (f k acc : Nat), k + f = 64 → (lf_X4_bits_295 v op X Y Z p q (f + 1) (lN acc) (nI k)).1 = lN (acc + cntB f (N / 2 ^ k))
  | 0, k, acc, h => by
    unfold lf_X4_bits_295
    have hk : k = 64 := by omega
    subst hk
    rw [if_pos (by decide)]
    rfl
  | f + 1, k, acc, h => by
    unfold lf_X4_bits_295
    rw [if_neg (show ¬ (64 : Int32) ≤ nI k from nI_ge (b := 64) (by omega) (by decide))]
    dsimp only
    rw [e, bl_shr hN (by omega), show (1 : Int64) = lN 1 from rfl, bl_and (Nat.lt_of_le_of_lt (Nat.div_le_self _ _) hN) (by decide), lN_add, show (1 : Int32) = nI 1 from rfl, nI_plus, bc_loop v op X Y Z p q hN e f (k + 1) _ (by omega), Nat.and_one_is_mod]
    show lN _ = lN (acc + (N / 2 ^ k % 2 + cntB f (N / 2 ^ k / 2)))
    rw [Nat.pow_succ, ← Nat.div_div_eq_div_mul]
    congr 1
    omega
theorem bc_eq (v : MS) (op X Y Z : Int32) (p q : Int64) : (f_J13_bitCount_95d88 (p &&& (q ^^^ (-1 : Int64)))).toInt64 = (lf_X4_bits_295 v op X Y Z p q (64 + 1) (0 : Int64) (0 : Int32)).1 := by
  obtain ⟨N, hN, e⟩ := bl_T (p &&& (q ^^^ (-1 : Int64)))
  have h := bc_loop v op X Y Z p q hN e 64 0 0 rfl
  rw [show N / 2 ^ 0 = N from by rw [Nat.pow_zero, Nat.div_one], Nat.zero_add] at h
  rw [e, bc_num hN, ← h]
  rfl
