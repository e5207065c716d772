/-! the reference's access: out of memory, into it, and go -/
def accB (u : MS) (X k L : Int32) (a : Int64) : Int32 × MS :=
    if k = (158 : Int32) then
      let v59 : Int64 := m_pc u;
      let v60 : Int32 := (f_X4_done u X (v59 + (4 : Int64))).1;
      let u61 : MS := (f_X4_done u X (v59 + (4 : Int64))).2;
      let u62 : MS := sm_pc u61 (a &&& (-4 : Int64));
      ((0 : Int32), u62)
    else
      if (f_X4_beyond a) = (0 : Int32) then
        let u21 : MS := sm_me u ((m_me u) + (1 : Int64));
        let z24 : Int32 := (if k = (146 : Int32) then (4 : Int32) else if k = (178 : Int32) then (4 : Int32) else if k = (180 : Int32) then (8 : Int32) else jshl (1 : Int32) ((jshr k (2 : Int32)) &&& (3 : Int32)));
        let v23 : Int32 := z24;
        if k = (146 : Int32) then
          let v56 : Int64 := f_X4_m u21 a (4 : Int32);
          let v57 : Int32 := (f_X4_done u21 X (jlshl v56 (32 : Int32))).1;
          let u58 : MS := (f_X4_done u21 X (jlshl v56 (32 : Int32))).2;
          (v57, u58)
        else
          if L = (0 : Int32) then
            let z32 : Int64 := (if k = (178 : Int32) then jlushr (m_g u21 X.toNatClampNeg) (32 : Int32) else if k = (180 : Int32) then X.toInt64 else m_g u21 X.toNatClampNeg);
            let v31 : Int64 := z32;
            let z37 : MS := (if (176 : Int32) ≤ k then u21 else if (k &&& (2 : Int32)) = (0 : Int32) then let z42 : Int32 := (if (f_X4_signed v31 v23) = v31 then (0 : Int32) else (1 : Int32)); let v41 : Int32 := z42; let u44 : MS := f_X4_over u21 v41; u44 else u21);
            let u36 : MS := z37;
            let u45 : MS := f_X4_m_ u36 a v23 v31;
            let v46 : Int32 := (f_X4_on u45 ).1;
            let u47 : MS := (f_X4_on u45 ).2;
            (v46, u47)
          else
            let z50 : Int64 := (if (k &&& (2 : Int32)) = (0 : Int32) then let v53 : Int64 := f_X4_m u21 a v23; f_X4_signed v53 v23 else let v52 : Int64 := f_X4_m u21 a v23; v52);
            let v49 : Int64 := z50;
            let v54 : Int32 := (f_X4_done u21 X v49).1;
            let u55 : MS := (f_X4_done u21 X v49).2;
            (v54, u55)
      else
        ((3 : Int32), u)
def accL (k : Int32) : Int32 := (if k < (144 : Int32) then (1 : Int32) else if k = (146 : Int32) then (1 : Int32) else (0 : Int32))
def accS (k : Int32) : Int32 := (if k < (160 : Int32) then if k = (178 : Int32) then (1 : Int32) else if k = (180 : Int32) then (1 : Int32) else (0 : Int32) else if k ≤ (174 : Int32) then (1 : Int32) else if k = (178 : Int32) then (1 : Int32) else if k = (180 : Int32) then (1 : Int32) else (0 : Int32))
theorem access_eq (u : MS) (op X Y Z : Int32) : f_X4_access u op X Y Z = if accL (op &&& 254) = 0 then if accS (op &&& 254) = 0 then if op &&& 254 = 158 then accB u X (op &&& 254) (accL (op &&& 254)) (m_g u Y.toNatClampNeg + f_X4_number u op Z) else (2, u) else accB u X (op &&& 254) (accL (op &&& 254)) (m_g u Y.toNatClampNeg + f_X4_number u op Z) else accB u X (op &&& 254) (accL (op &&& 254)) (m_g u Y.toNatClampNeg + f_X4_number u op Z) := rfl
abbrev me1 (u : MS) : MS := sm_me u (m_me u + 1)
theorem accB_go {u : MS} {X k L : Int32} {a : Int64} (h : k = 158) : accB u X k L a = (0, sm_pc (f_X4_done u X (m_pc u + 4)).2 (a &&& (-4 : Int64))) := by
  unfold accB
  dsimp only
  rw [if_pos h]
theorem accB_by {u : MS} {X k L : Int32} {a : Int64} (h : ¬ k = 158) (hb : ¬ f_X4_beyond a = 0) : accB u X k L a = (3, u) := by
  unfold accB
  dsimp only
  rw [if_neg h, if_neg hb]
theorem accB_ht {u : MS} {X k L : Int32} {a : Int64} (h : k = 146) (hb : f_X4_beyond a = 0) : accB u X k L a = ((f_X4_done (me1 u) X (jlshl (f_X4_m (me1 u) a 4) 32)).1, (f_X4_done (me1 u) X (jlshl (f_X4_m (me1 u) a 4) 32)).2) := by
  unfold accB
  dsimp only
  rw [if_neg (by rw [h]; decide), if_pos hb, if_pos h]
abbrev szk (k : Int32) : Int32 := jshl (1 : Int32) ((jshr k (2 : Int32)) &&& (3 : Int32))
theorem accB_ld {u : MS} {X k L : Int32} {a : Int64} (h : ¬ k = 158) (h1 : ¬ k = 146) (h2 : ¬ k = 178) (h3 : ¬ k = 180) (hL : ¬ L = 0) (hb : f_X4_beyond a = 0) : accB u X k L a = ((f_X4_done (me1 u) X (if (k &&& (2 : Int32)) = 0 then f_X4_signed (f_X4_m (me1 u) a (szk k)) (szk k) else f_X4_m (me1 u) a (szk k))).1, (f_X4_done (me1 u) X (if (k &&& (2 : Int32)) = 0 then f_X4_signed (f_X4_m (me1 u) a (szk k)) (szk k) else f_X4_m (me1 u) a (szk k))).2) := by
  unfold accB
  dsimp only
  rw [if_neg h, if_pos hb, if_neg h1, if_neg hL, if_neg h1, if_neg h2, if_neg h3]
theorem accB_st {u : MS} {X k L : Int32} {a : Int64} (h : ¬ k = 158) (h1 : ¬ k = 146) (h2 : ¬ k = 178) (h3 : ¬ k = 180) (hL : L = 0) (h4 : ¬ (176 : Int32) ≤ k) (hb : f_X4_beyond a = 0) : accB u X k L a = ((f_X4_on (f_X4_m_ (if (k &&& (2 : Int32)) = 0 then f_X4_over (me1 u) (if f_X4_signed (m_g (me1 u) X.toNatClampNeg) (szk k) = m_g (me1 u) X.toNatClampNeg then 0 else 1) else me1 u) a (szk k) (m_g (me1 u) X.toNatClampNeg))).1, (f_X4_on (f_X4_m_ (if (k &&& (2 : Int32)) = 0 then f_X4_over (me1 u) (if f_X4_signed (m_g (me1 u) X.toNatClampNeg) (szk k) = m_g (me1 u) X.toNatClampNeg then 0 else 1) else me1 u) a (szk k) (m_g (me1 u) X.toNatClampNeg))).2) := by
  unfold accB
  dsimp only
  rw [if_neg h, if_pos hb, if_neg h1, if_pos hL, if_neg h4, if_neg h1, if_neg h2, if_neg h3, if_neg h2, if_neg h3]
theorem accB_sh {u : MS} {X k L : Int32} {a : Int64} (h : k = 178) (hL : L = 0) (hb : f_X4_beyond a = 0) : accB u X k L a = ((f_X4_on (f_X4_m_ (me1 u) a 4 (jlushr (m_g (me1 u) X.toNatClampNeg) 32))).1, (f_X4_on (f_X4_m_ (me1 u) a 4 (jlushr (m_g (me1 u) X.toNatClampNeg) 32))).2) := by
  subst h hL
  unfold accB
  dsimp only
  rw [if_neg (by decide), if_pos hb, if_neg (by decide), if_pos rfl, if_pos (by decide), if_neg (by decide), if_pos rfl, if_pos rfl]
theorem accB_sc {u : MS} {X k L : Int32} {a : Int64} (h : k = 180) (hL : L = 0) (hb : f_X4_beyond a = 0) : accB u X k L a = ((f_X4_on (f_X4_m_ (me1 u) a 8 X.toInt64)).1, (f_X4_on (f_X4_m_ (me1 u) a 8 X.toInt64)).2) := by
  subst h hL
  unfold accB
  dsimp only
  rw [if_neg (by decide), if_pos hb, if_neg (by decide), if_pos rfl, if_pos (by decide), if_neg (by decide), if_neg (by decide), if_pos rfl, if_neg (by decide), if_pos rfl]
/-! the class's -/
theorem cl_go {u : XS} {w : Int32} {a here : Int64} (h : ¬ f_X3_isGo (f_X3_opOf w) = 0) : f_X3_loadOrGo u w a here = sx_pc (f_X3_writeX u w (here + 4)) (a &&& (-4 : Int64)) := by
  unfold f_X3_loadOrGo
  dsimp only
  rw [if_neg h]
theorem cl_ld {u : XS} {w : Int32} {a here : Int64} (h : f_X3_isGo (f_X3_opOf w) = 0) (h1 : f_X3_opOf w < 144) : f_X3_loadOrGo u w a here = f_X3_writeX u w (if f_X3_isUnsigned (f_X3_opOf w) = 0 then f_X2_signed (f_X0_load u a (f_X3_sizeOf (f_X3_opOf w))) (f_X3_sizeOf (f_X3_opOf w)) else f_X0_load u a (f_X3_sizeOf (f_X3_opOf w))) := by
  unfold f_X3_loadOrGo
  dsimp only
  rw [if_pos h, if_pos h1]
theorem cl_ht {u : XS} {w : Int32} {a here : Int64} (h : f_X3_isGo (f_X3_opOf w) = 0) (h1 : ¬ f_X3_opOf w < 144) : f_X3_loadOrGo u w a here = f_X3_writeX u w (jlshl (f_X0_load u a 4) 32) := by
  unfold f_X3_loadOrGo
  dsimp only
  rw [if_pos h, if_neg h1]
theorem cl_st {u : XS} {w : Int32} {a : Int64} (h : f_X3_opOf w < 180) (h1 : f_X3_opOf w < 176) : f_X3_storeX u w a = f_X0_store (f_X3_raise u 64 (if f_X3_isUnsigned (f_X3_opOf w) = 0 then if f_X2_signed (x_g u (f_X3_byteX w).toNatClampNeg) (f_X3_sizeOf (f_X3_opOf w)) = x_g u (f_X3_byteX w).toNatClampNeg then 0 else 1 else 0)) a (f_X3_sizeOf (f_X3_opOf w)) (x_g u (f_X3_byteX w).toNatClampNeg) := by
  unfold f_X3_storeX
  dsimp only
  rw [if_pos h, if_pos h1]
theorem cl_sh {u : XS} {w : Int32} {a : Int64} (h : f_X3_opOf w < 180) (h1 : ¬ f_X3_opOf w < 176) : f_X3_storeX u w a = f_X0_store u a 4 (jlushr (x_g u (f_X3_byteX w).toNatClampNeg) 32) := by
  unfold f_X3_storeX
  dsimp only
  rw [if_pos h, if_neg h1]
theorem cl_sc {u : XS} {w : Int32} {a : Int64} (h : ¬ f_X3_opOf w < 180) : f_X3_storeX u w a = f_X0_store u a 8 (f_X3_byteX w).toInt64 := by
  unfold f_X3_storeX
  dsimp only
  rw [if_neg h]
theorem w_on4 {u : XS} {v : MS} (h : Core4 u v) : Grp u v ((f_X4_on v).1, (f_X4_on v).2) := by
  obtain ⟨hg, hsp, hob, hol, hpl, hpc, htr, hmm, h0, h5, hj, hct, hnm, hcd⟩ := h
  exact ⟨rfl, ⟨hg, hsp, hob, hol, hpl, hpc, htr, hmm, h0, h5, hj, hct, hnm, hcd⟩, rfl, rfl, rfl, rfl, rfl⟩
theorem c_me {u : XS} {v : MS} (h : Core u v) : Core u (me1 v) := h
theorem w_sto {u : XS} {v : MS} (h : Core4 u v) {a : Int64} (hb : f_X3_isBeyond a = 0) {s : Int32} {n : Nat} (hs : s = nI n) (hn : isSz n) {x x' : Int64} (hx : x = x') : Core4 (f_X0_store u a s x) (f_X4_m_ v a s x') ∧ KeepM v (f_X4_m_ v a s x') := by
  subst hx hs
  obtain ⟨oc', mm', e1, e2, e3⟩ := store_eq h.2.2.2.2.2.2.2.1 hb hn x
  rw [e1, e2]
  obtain ⟨hg, hsp, hob, hol, hpl, hpc, htr, hmm, h0, h5, hj, hct, hnm, hcd⟩ := h
  exact ⟨⟨hg, hsp, hob, hol, hpl, hpc, htr, e3, h0, h5, hj, hct, hnm, hcd⟩, rfl, rfl, rfl, rfl⟩
theorem grp_on {u : XS} {v v' : MS} (h : Core4 u v') (k : KeepM v v') : Grp u v ((f_X4_on v').1, (f_X4_on v').2) := by
  obtain ⟨g1, g2, g3, g4⟩ := w_on4 h
  exact ⟨g1, g2, g3, k.tr g4⟩
theorem tab_ld_1 : ∀ n : Nat, n < 144 → 128 ≤ n → jshr (nI n) 4 = 8 := by decide +kernel
theorem tab_ld_2 : ∀ n : Nat, n < 144 → 128 ≤ n → f_X3_isGo (nI n) = 0 := by decide +kernel
theorem tab_ld_3 : ∀ n : Nat, n < 144 → 128 ≤ n → nI n < 144 := by decide +kernel
theorem tab_ld_4 : ∀ n : Nat, n < 144 → 128 ≤ n → ¬ nI n &&& 254 = 158 := by decide +kernel
theorem tab_ld_5 : ∀ n : Nat, n < 144 → 128 ≤ n → ¬ nI n &&& 254 = 146 := by decide +kernel
theorem tab_ld_6 : ∀ n : Nat, n < 144 → 128 ≤ n → ¬ nI n &&& 254 = 178 := by decide +kernel
theorem tab_ld_7 : ∀ n : Nat, n < 144 → 128 ≤ n → ¬ nI n &&& 254 = 180 := by decide +kernel
theorem tab_ld_8 : ∀ n : Nat, n < 144 → 128 ≤ n → ¬ accL (nI n &&& 254) = 0 := by decide +kernel
theorem tab_ld_9 : ∀ n : Nat, n < 144 → 128 ≤ n → f_X3_sizeOf (nI n) = szk (nI n &&& 254) := by decide +kernel
theorem tab_ld_10 : ∀ n : Nat, n < 144 → 128 ≤ n → (f_X3_sizeOf (nI n) = nI 1 ∨ f_X3_sizeOf (nI n) = nI 2 ∨ f_X3_sizeOf (nI n) = nI 4 ∨ f_X3_sizeOf (nI n) = nI 8) := by decide +kernel
theorem tab_ld_11 : ∀ n : Nat, n < 144 → 128 ≤ n → ((f_X3_isUnsigned (nI n) = 0 ∧ (nI n &&& 254) &&& 2 = 0) ∨ (¬ f_X3_isUnsigned (nI n) = 0 ∧ ¬ (nI n &&& 254) &&& 2 = 0)) := by decide +kernel
theorem tab_ld : ∀ n : Nat, n < 144 → 128 ≤ n → jshr (nI n) 4 = 8 ∧ f_X3_isGo (nI n) = 0 ∧ nI n < 144 ∧ ¬ nI n &&& 254 = 158 ∧ ¬ nI n &&& 254 = 146 ∧ ¬ nI n &&& 254 = 178 ∧ ¬ nI n &&& 254 = 180 ∧ ¬ accL (nI n &&& 254) = 0 ∧ f_X3_sizeOf (nI n) = szk (nI n &&& 254) ∧ (f_X3_sizeOf (nI n) = nI 1 ∨ f_X3_sizeOf (nI n) = nI 2 ∨ f_X3_sizeOf (nI n) = nI 4 ∨ f_X3_sizeOf (nI n) = nI 8) ∧ ((f_X3_isUnsigned (nI n) = 0 ∧ (nI n &&& 254) &&& 2 = 0) ∨ (¬ f_X3_isUnsigned (nI n) = 0 ∧ ¬ (nI n &&& 254) &&& 2 = 0)) := fun n h2 h1 => ⟨tab_ld_1 n h2 h1, tab_ld_2 n h2 h1, tab_ld_3 n h2 h1, tab_ld_4 n h2 h1, tab_ld_5 n h2 h1, tab_ld_6 n h2 h1, tab_ld_7 n h2 h1, tab_ld_8 n h2 h1, tab_ld_9 n h2 h1, tab_ld_10 n h2 h1, tab_ld_11 n h2 h1⟩
theorem tab_st_1 : ∀ n : Nat, n < 176 → 160 ≤ n → jshr (nI n) 4 = 10 := by decide +kernel
theorem tab_st_2 : ∀ n : Nat, n < 176 → 160 ≤ n → nI n < 180 := by decide +kernel
theorem tab_st_3 : ∀ n : Nat, n < 176 → 160 ≤ n → nI n < 176 := by decide +kernel
theorem tab_st_4 : ∀ n : Nat, n < 176 → 160 ≤ n → ¬ nI n &&& 254 = 158 := by decide +kernel
theorem tab_st_5 : ∀ n : Nat, n < 176 → 160 ≤ n → ¬ nI n &&& 254 = 146 := by decide +kernel
theorem tab_st_6 : ∀ n : Nat, n < 176 → 160 ≤ n → ¬ nI n &&& 254 = 178 := by decide +kernel
theorem tab_st_7 : ∀ n : Nat, n < 176 → 160 ≤ n → ¬ nI n &&& 254 = 180 := by decide +kernel
theorem tab_st_8 : ∀ n : Nat, n < 176 → 160 ≤ n → accL (nI n &&& 254) = 0 := by decide +kernel
theorem tab_st_9 : ∀ n : Nat, n < 176 → 160 ≤ n → ¬ accS (nI n &&& 254) = 0 := by decide +kernel
theorem tab_st_10 : ∀ n : Nat, n < 176 → 160 ≤ n → ¬ (176 : Int32) ≤ nI n &&& 254 := by decide +kernel
theorem tab_st_11 : ∀ n : Nat, n < 176 → 160 ≤ n → f_X3_sizeOf (nI n) = szk (nI n &&& 254) := by decide +kernel
theorem tab_st_12 : ∀ n : Nat, n < 176 → 160 ≤ n → (f_X3_sizeOf (nI n) = nI 1 ∨ f_X3_sizeOf (nI n) = nI 2 ∨ f_X3_sizeOf (nI n) = nI 4 ∨ f_X3_sizeOf (nI n) = nI 8) := by decide +kernel
theorem tab_st_13 : ∀ n : Nat, n < 176 → 160 ≤ n → ((f_X3_isUnsigned (nI n) = 0 ∧ (nI n &&& 254) &&& 2 = 0) ∨ (¬ f_X3_isUnsigned (nI n) = 0 ∧ ¬ (nI n &&& 254) &&& 2 = 0)) := by decide +kernel
theorem tab_st : ∀ n : Nat, n < 176 → 160 ≤ n → jshr (nI n) 4 = 10 ∧ nI n < 180 ∧ nI n < 176 ∧ ¬ nI n &&& 254 = 158 ∧ ¬ nI n &&& 254 = 146 ∧ ¬ nI n &&& 254 = 178 ∧ ¬ nI n &&& 254 = 180 ∧ accL (nI n &&& 254) = 0 ∧ ¬ accS (nI n &&& 254) = 0 ∧ ¬ (176 : Int32) ≤ nI n &&& 254 ∧ f_X3_sizeOf (nI n) = szk (nI n &&& 254) ∧ (f_X3_sizeOf (nI n) = nI 1 ∨ f_X3_sizeOf (nI n) = nI 2 ∨ f_X3_sizeOf (nI n) = nI 4 ∨ f_X3_sizeOf (nI n) = nI 8) ∧ ((f_X3_isUnsigned (nI n) = 0 ∧ (nI n &&& 254) &&& 2 = 0) ∨ (¬ f_X3_isUnsigned (nI n) = 0 ∧ ¬ (nI n &&& 254) &&& 2 = 0)) := fun n h2 h1 => ⟨tab_st_1 n h2 h1, tab_st_2 n h2 h1, tab_st_3 n h2 h1, tab_st_4 n h2 h1, tab_st_5 n h2 h1, tab_st_6 n h2 h1, tab_st_7 n h2 h1, tab_st_8 n h2 h1, tab_st_9 n h2 h1, tab_st_10 n h2 h1, tab_st_11 n h2 h1, tab_st_12 n h2 h1, tab_st_13 n h2 h1⟩
theorem tab_ai1 : ∀ n : Nat, n < 192 → (n = 144 ∨ n = 145 ∨ (148 ≤ n ∧ n < 158) ∨ (176 ≤ n ∧ n < 178) ∨ 182 ≤ n) → accL (nI n &&& 254) = 0 := by decide +kernel
theorem tab_ai2 : ∀ n : Nat, n < 192 → (n = 144 ∨ n = 145 ∨ (148 ≤ n ∧ n < 158) ∨ (176 ≤ n ∧ n < 178) ∨ 182 ≤ n) → accS (nI n &&& 254) = 0 := by decide +kernel
theorem tab_ai3 : ∀ n : Nat, n < 192 → (n = 144 ∨ n = 145 ∨ (148 ≤ n ∧ n < 158) ∨ (176 ≤ n ∧ n < 178) ∨ 182 ≤ n) → ¬ nI n &&& 254 = 158 := by decide +kernel
theorem isSz_of {s : Int32} (h : s = nI 1 ∨ s = nI 2 ∨ s = nI 4 ∨ s = nI 8) : ∃ n : Nat, s = nI n ∧ isSz n := by
  rcases h with h | h | h | h
  · exact ⟨1, h, Or.inl rfl⟩
  · exact ⟨2, h, Or.inr (Or.inl rfl)⟩
  · exact ⟨4, h, Or.inr (Or.inr (Or.inl rfl))⟩
  · exact ⟨8, h, Or.inr (Or.inr (Or.inr rfl))⟩
abbrev accA (v : MS) (w : Int32) : Int64 := m_g v (f_X3_byteY w).toNatClampNeg + f_X4_number v (f_X3_opOf w) (f_X3_byteZ w)
abbrev accM (v : MS) (w : Int32) : Int32 × MS := f_X4_access v (f_X3_opOf w) (f_X3_byteX w) (f_X3_byteY w) (f_X3_byteZ w)
abbrev accP (u : XS) (v : MS) (w : Int32) : XS := f_X3_perform u w (m_g v (f_X3_byteY w).toNatClampNeg) (f_X4_number v (f_X3_opOf w) (f_X3_byteZ w))
theorem w_ld {u : XS} {v : MS} (h : Core u v) {w : Int32} {n : Nat} (e : f_X3_opOf w = nI n) (h1 : 128 ≤ n) (h2 : n < 144) (hb : f_X3_isBeyond (accA v w) = 0) : Grp (accP u v w) (me1 v) (accM v w) := by
  obtain ⟨t1, t2, t3, t4, t5, t6, t7, t8, t9, t10, t11⟩ := tab_ld n h2 h1
  rw [← e] at t1 t2 t3 t4 t5 t6 t7 t8 t9 t10 t11
  have hb' : f_X4_beyond (accA v w) = 0 := by rw [← by_eq]; exact hb
  unfold accP accM
  rw [pf_8 t1, cl_ld t2 t3, access_eq, if_neg t8, accB_ld t4 t5 t6 t7 t8 hb']
  obtain ⟨s, es, hs⟩ := isSz_of t10
  refine w_done (c_me h) w ?_
  rw [← t9, es, load_eq (u := pc4 u) (v := me1 v) h.2.2.2.2.2.2.2.1 hb hs]
  rcases t11 with ⟨a1, a2⟩ | ⟨a1, a2⟩
  · rw [if_pos a1, if_pos a2, sg_eq _ hs]
  · rw [if_neg a1, if_neg a2]
theorem w_ht {u : XS} {v : MS} (h : Core u v) {w : Int32} {n : Nat} (e : f_X3_opOf w = nI n) (h1 : n = 146 ∨ n = 147) (hb : f_X3_isBeyond (accA v w) = 0) : Grp (accP u v w) (me1 v) (accM v w) := by
  have t : jshr (f_X3_opOf w) 4 = 9 ∧ f_X3_isGo (f_X3_opOf w) = 0 ∧ ¬ f_X3_opOf w < 144 ∧ f_X3_opOf w &&& 254 = 146 ∧ ¬ accL (f_X3_opOf w &&& 254) = 0 := by
    rw [e]
    rcases h1 with rfl | rfl
    · decide +kernel
    · decide +kernel
  obtain ⟨t1, t2, t3, t4, t5⟩ := t
  have hb' : f_X4_beyond (accA v w) = 0 := by rw [← by_eq]; exact hb
  unfold accP accM
  rw [pf_9 t1, cl_ht t2 t3, access_eq, if_neg t5, accB_ht t4 hb']
  refine w_done (c_me h) w ?_
  rw [show (4 : Int32) = nI 4 from rfl, load_eq (u := pc4 u) (v := me1 v) h.2.2.2.2.2.2.2.1 hb (Or.inr (Or.inr (Or.inl rfl)))]
theorem grp_pc {u : XS} {v : MS} {M : Int32 × MS} (h : Grp u v M) (q : Int64) : Grp (sx_pc u q) v (0, sm_pc M.2 q) := by
  obtain ⟨g1, ⟨hg, hsp, hob, hol, hpl, hpc, htr, hmm, h0, h5, hj, hct, hnm, hcd⟩, g3, g4, g5, g6, g7⟩ := h
  exact ⟨rfl, ⟨hg, hsp, hob, hol, hpl, rfl, htr, hmm, h0, h5, hj, hct, hnm, hcd⟩, g3, g4, g5, g6, g7⟩
theorem w_go {u : XS} {v : MS} (h : Core u v) {w : Int32} {n : Nat} (e : f_X3_opOf w = nI n) (h1 : n = 158 ∨ n = 159) : Grp (accP u v w) v (accM v w) := by
  have t : jshr (f_X3_opOf w) 4 = 9 ∧ ¬ f_X3_isGo (f_X3_opOf w) = 0 ∧ accL (f_X3_opOf w &&& 254) = 0 ∧ accS (f_X3_opOf w &&& 254) = 0 ∧ f_X3_opOf w &&& 254 = 158 := by
    rw [e]
    rcases h1 with rfl | rfl
    · decide +kernel
    · decide +kernel
  obtain ⟨t1, t2, t3, t4, t5⟩ := t
  unfold accP accM
  rw [pf_9 t1, cl_go t2, access_eq, if_pos t3, if_pos t4, if_pos t5, accB_go t5]
  have hp : x_pc u + 4 = m_pc v + 4 := by rw [h.2.2.2.2.2.1]
  exact grp_pc (w_done h w hp) _
theorem raise_0 (u : XS) : f_X3_raise u 64 0 = u := by
  unfold f_X3_raise
  rw [if_pos rfl]
theorem w_st {u : XS} {v : MS} (h : Core u v) {w : Int32} {n : Nat} (e : f_X3_opOf w = nI n) (h1 : 160 ≤ n) (h2 : n < 176) (hb : f_X3_isBeyond (accA v w) = 0) : Grp (accP u v w) (me1 v) (accM v w) := by
  obtain ⟨t1, t2, t3, t4, t5, t6, t7, t8, t9, t10, t11, t12, t13⟩ := tab_st n h2 h1
  rw [← e] at t1 t2 t3 t4 t5 t6 t7 t8 t9 t10 t11 t12 t13
  have hb' : f_X4_beyond (accA v w) = 0 := by rw [← by_eq]; exact hb
  unfold accP accM
  rw [pf_10 t1, cl_st t2 t3, access_eq, if_pos t8, if_neg t9, accB_st t4 t5 t6 t7 t8 t10 hb']
  obtain ⟨s, es, hs⟩ := isSz_of t12
  have hx : x_g (pc4 u) (f_X3_byteX w).toNatClampNeg = m_g (me1 v) (f_X3_byteX w).toNatClampNeg := congrFun h.1 _
  have h4 : Core4 (pc4 u) (me1 v) := c4_of (c_me h)
  rw [← t11, es, hx]
  rcases t13 with ⟨a1, a2⟩ | ⟨a1, a2⟩
  · rw [if_pos a1, if_pos a2, sg_eq _ hs]
    obtain ⟨r1, r2⟩ := w_raise h4 (if f_X4_signed (m_g (me1 v) (f_X3_byteX w).toNatClampNeg) (nI s) = m_g (me1 v) (f_X3_byteX w).toNatClampNeg then 0 else 1)
    obtain ⟨s1, s2⟩ := w_sto r1 hb rfl hs (x := m_g (me1 v) (f_X3_byteX w).toNatClampNeg) rfl
    exact grp_on s1 (r2.tr s2)
  · rw [if_neg a1, if_neg a2, raise_0]
    obtain ⟨s1, s2⟩ := w_sto h4 hb rfl hs (x := m_g (me1 v) (f_X3_byteX w).toNatClampNeg) rfl
    exact grp_on s1 s2
theorem w_sh {u : XS} {v : MS} (h : Core u v) {w : Int32} {n : Nat} (e : f_X3_opOf w = nI n) (h1 : n = 178 ∨ n = 179) (hb : f_X3_isBeyond (accA v w) = 0) : Grp (accP u v w) (me1 v) (accM v w) := by
  have t : jshr (f_X3_opOf w) 4 = 11 ∧ f_X3_opOf w < 180 ∧ ¬ f_X3_opOf w < 176 ∧ f_X3_opOf w &&& 254 = 178 ∧ accL (f_X3_opOf w &&& 254) = 0 ∧ ¬ accS (f_X3_opOf w &&& 254) = 0 := by
    rw [e]
    rcases h1 with rfl | rfl
    · decide +kernel
    · decide +kernel
  obtain ⟨t1, t2, t3, t4, t5, t6⟩ := t
  have hb' : f_X4_beyond (accA v w) = 0 := by rw [← by_eq]; exact hb
  unfold accP accM
  rw [pf_11 t1, cl_sh t2 t3, access_eq, if_pos t5, if_neg t6, accB_sh t4 t5 hb']
  have hx : x_g (pc4 u) (f_X3_byteX w).toNatClampNeg = m_g (me1 v) (f_X3_byteX w).toNatClampNeg := congrFun h.1 _
  rw [hx]
  obtain ⟨s1, s2⟩ := w_sto (s := 4) (n := 4) (c4_of (c_me h)) hb rfl (Or.inr (Or.inr (Or.inl rfl))) (x := jlushr (m_g (me1 v) (f_X3_byteX w).toNatClampNeg) 32) rfl
  exact grp_on s1 s2
theorem w_sc {u : XS} {v : MS} (h : Core u v) {w : Int32} {n : Nat} (e : f_X3_opOf w = nI n) (h1 : n = 180 ∨ n = 181) (hb : f_X3_isBeyond (accA v w) = 0) : Grp (accP u v w) (me1 v) (accM v w) := by
  have t : jshr (f_X3_opOf w) 4 = 11 ∧ ¬ f_X3_opOf w < 180 ∧ f_X3_opOf w &&& 254 = 180 ∧ accL (f_X3_opOf w &&& 254) = 0 ∧ ¬ accS (f_X3_opOf w &&& 254) = 0 := by
    rw [e]
    rcases h1 with rfl | rfl
    · decide +kernel
    · decide +kernel
  obtain ⟨t1, t2, t4, t5, t6⟩ := t
  have hb' : f_X4_beyond (accA v w) = 0 := by rw [← by_eq]; exact hb
  unfold accP accM
  rw [pf_11 t1, cl_sc t2, access_eq, if_pos t5, if_neg t6, accB_sc t4 t5 hb']
  obtain ⟨s1, s2⟩ := w_sto (s := 8) (n := 8) (c4_of (c_me h)) hb rfl (Or.inr (Or.inr (Or.inr rfl))) (x := (f_X3_byteX w).toInt64) rfl
  exact grp_on s1 s2
theorem acc_by {v : MS} {w : Int32} {n : Nat} (e : f_X3_opOf w = nI n) (h1 : (128 ≤ n ∧ n < 144) ∨ n = 146 ∨ n = 147 ∨ (160 ≤ n ∧ n < 176) ∨ (178 ≤ n ∧ n < 182)) (hb : ¬ f_X3_isBeyond (accA v w) = 0) : accM v w = (3, v) := by
  have hb' : ¬ f_X4_beyond (accA v w) = 0 := by rw [← by_eq]; exact hb
  have t : ¬ f_X3_opOf w &&& 254 = 158 ∧ ¬ (accL (f_X3_opOf w &&& 254) = 0 ∧ accS (f_X3_opOf w &&& 254) = 0) := by
    rw [e]
    exact (show ∀ n : Nat, n < 182 → ((128 ≤ n ∧ n < 144) ∨ n = 146 ∨ n = 147 ∨ (160 ≤ n ∧ n < 176) ∨ (178 ≤ n ∧ n < 182)) → ¬ nI n &&& 254 = 158 ∧ ¬ (accL (nI n &&& 254) = 0 ∧ accS (nI n &&& 254) = 0) from by decide +kernel) n (by omega) h1
  unfold accM
  rw [access_eq]
  by_cases c1 : accL (f_X3_opOf w &&& 254) = 0
  · rw [if_pos c1, if_neg (fun h => t.2 ⟨c1, h⟩), accB_by t.1 hb']
  · rw [if_neg c1, accB_by t.1 hb']
theorem way_access {v : MS} {w : Int32} {n : Nat} (e : f_X3_opOf w = nI n) (h1 : 128 ≤ n) (h2 : n < 192) (u0 : XS) (hu0 : Core u0 v) : Way v w (m_g v (f_X3_byteY w).toNatClampNeg) (f_X4_number v (f_X3_opOf w) (f_X3_byteZ w)) (accM v w) := by
  by_cases hg : n = 158 ∨ n = 159
  · exact Way.grp (by omega) e (by omega) (Or.inr (by omega)) (lg_1 (by omega) e (by omega) (by omega) (by omega) (by omega) (by unfold lgT; omega)) (ls_0 (by omega) e (by omega)) (fun u hu => w_go hu e hg) u0 hu0
  · by_cases hm : (128 ≤ n ∧ n < 144) ∨ n = 146 ∨ n = 147 ∨ (160 ≤ n ∧ n < 176) ∨ (178 ≤ n ∧ n < 182)
    · have hl : ¬ f_X3_isLegal w = 0 := lg_1 (by omega) e (by omega) (by omega) (by omega) (by omega) (by unfold lgT; omega)
      have hs : lsW w = 1 := ls_1 e (by omega) (by omega) (by omega) (by omega)
      by_cases hb : f_X3_isBeyond (accA v w) = 0
      · refine Way.grpm (by omega) e (by omega) (Or.inr (by omega)) hl hs hb (fun u hu => ?_) u0 hu0
        by_cases k1 : n < 144
        · exact w_ld hu e h1 k1 hb
        · by_cases k2 : n = 146 ∨ n = 147
          · exact w_ht hu e k2 hb
          · by_cases k3 : n < 176
            · exact w_st hu e (by omega) k3 hb
            · by_cases k4 : n = 178 ∨ n = 179
              · exact w_sh hu e k4 hb
              · exact w_sc hu e (by omega) hb
      · refine Or.inr (Or.inl ⟨hl, by rw [hs]; decide, hb, acc_by e hm hb⟩)
    · have hq : n = 144 ∨ n = 145 ∨ (148 ≤ n ∧ n < 158) ∨ (176 ≤ n ∧ n < 178) ∨ 182 ≤ n := by omega
      have t1 := tab_ai1 n h2 hq
      have t2 := tab_ai2 n h2 hq
      have t3 := tab_ai3 n h2 hq
      rw [← e] at t1 t2 t3
      refine Or.inl ⟨lg_0 (by omega) e (by omega) (by omega) (by omega) (by omega) (by unfold lgT; omega), ?_⟩
      unfold accM
      rw [access_eq, if_pos t1, if_pos t2, if_neg t3]
      exact ⟨rfl, Or.inl rfl⟩
