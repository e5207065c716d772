/-! op by op: its place in the tables -/
theorem op_nI (w : Int32) : ∃ n : Nat, n < 256 ∧ f_X3_opOf w = nI n := by
  have h := vp_in_iff.mp (in_opOf w)
  refine ⟨(f_X3_opOf w).toInt.toNat, by omega, ?_⟩
  apply Int32.toInt_inj.mp
  rw [nI_toInt (by omega)]
  omega
theorem pf_0 {u : XS} {w : Int32} {y z : Int64} (c : jshr (f_X3_opOf w) 4 = 0) : f_X3_perform u w y z = f_X3_trap (pc4 u) w (x_pc u) := by
  unfold f_X3_perform
  dsimp only
  rw [if_pos c]
theorem pf_1 {u : XS} {w : Int32} {y z : Int64} (c : jshr (f_X3_opOf w) 4 = 1) : f_X3_perform u w y z = f_X3_writeX (f_X3_productOrQuotient (pc4 u) (f_X3_opOf w) y z).2 w (f_X3_productOrQuotient (pc4 u) (f_X3_opOf w) y z).1 := by
  unfold f_X3_perform
  dsimp only
  rw [if_neg (by rw [c]; decide), if_pos c]
theorem pf_2 {u : XS} {w : Int32} {y z : Int64} (c : jshr (f_X3_opOf w) 4 = 2) : f_X3_perform u w y z = f_X3_writeX (f_X3_sumOrDifference (pc4 u) (f_X3_opOf w) y z).2 w (f_X3_sumOrDifference (pc4 u) (f_X3_opOf w) y z).1 := by
  unfold f_X3_perform
  dsimp only
  rw [if_neg (by rw [c]; decide), if_neg (by rw [c]; decide), if_pos c]
theorem pf_3 {u : XS} {w : Int32} {y z : Int64} (c : jshr (f_X3_opOf w) 4 = 3) : f_X3_perform u w y z = f_X3_writeX (f_X3_comparedOrShifted (pc4 u) w y z).2 w (f_X3_comparedOrShifted (pc4 u) w y z).1 := by
  unfold f_X3_perform
  dsimp only
  rw [if_neg (by rw [c]; decide), if_neg (by rw [c]; decide), if_neg (by rw [c]; decide), if_pos c]
theorem pf_4 {u : XS} {w : Int32} {y z : Int64} (c : jshr (f_X3_opOf w) 4 = 4) : f_X3_perform u w y z = f_X3_branch (pc4 u) w (x_pc u) := by
  unfold f_X3_perform
  dsimp only
  rw [if_neg (by rw [c]; decide), if_neg (by rw [c]; decide), if_neg (by rw [c]; decide), if_neg (by rw [c]; decide), if_pos c]
theorem pf_5 {u : XS} {w : Int32} {y z : Int64} (c : jshr (f_X3_opOf w) 4 = 5) : f_X3_perform u w y z = f_X3_branch (pc4 u) w (x_pc u) := by
  unfold f_X3_perform
  dsimp only
  rw [if_neg (by rw [c]; decide), if_neg (by rw [c]; decide), if_neg (by rw [c]; decide), if_neg (by rw [c]; decide), if_neg (by rw [c]; decide), if_pos c]
theorem pf_6 {u : XS} {w : Int32} {y z : Int64} (c : jshr (f_X3_opOf w) 4 = 6) : f_X3_perform u w y z = f_X3_choose (pc4 u) w y z := by
  unfold f_X3_perform
  dsimp only
  rw [if_neg (by rw [c]; decide), if_neg (by rw [c]; decide), if_neg (by rw [c]; decide), if_neg (by rw [c]; decide), if_neg (by rw [c]; decide), if_neg (by rw [c]; decide), if_pos c]
theorem pf_7 {u : XS} {w : Int32} {y z : Int64} (c : jshr (f_X3_opOf w) 4 = 7) : f_X3_perform u w y z = f_X3_choose (pc4 u) w y z := by
  unfold f_X3_perform
  dsimp only
  rw [if_neg (by rw [c]; decide), if_neg (by rw [c]; decide), if_neg (by rw [c]; decide), if_neg (by rw [c]; decide), if_neg (by rw [c]; decide), if_neg (by rw [c]; decide), if_neg (by rw [c]; decide), if_pos c]
theorem pf_8 {u : XS} {w : Int32} {y z : Int64} (c : jshr (f_X3_opOf w) 4 = 8) : f_X3_perform u w y z = f_X3_loadOrGo (pc4 u) w (y + z) (x_pc u) := by
  unfold f_X3_perform
  dsimp only
  rw [if_neg (by rw [c]; decide), if_neg (by rw [c]; decide), if_neg (by rw [c]; decide), if_neg (by rw [c]; decide), if_neg (by rw [c]; decide), if_neg (by rw [c]; decide), if_neg (by rw [c]; decide), if_neg (by rw [c]; decide), if_pos c]
theorem pf_9 {u : XS} {w : Int32} {y z : Int64} (c : jshr (f_X3_opOf w) 4 = 9) : f_X3_perform u w y z = f_X3_loadOrGo (pc4 u) w (y + z) (x_pc u) := by
  unfold f_X3_perform
  dsimp only
  rw [if_neg (by rw [c]; decide), if_neg (by rw [c]; decide), if_neg (by rw [c]; decide), if_neg (by rw [c]; decide), if_neg (by rw [c]; decide), if_neg (by rw [c]; decide), if_neg (by rw [c]; decide), if_neg (by rw [c]; decide), if_neg (by rw [c]; decide), if_pos c]
theorem pf_10 {u : XS} {w : Int32} {y z : Int64} (c : jshr (f_X3_opOf w) 4 = 10) : f_X3_perform u w y z = f_X3_storeX (pc4 u) w (y + z) := by
  unfold f_X3_perform
  dsimp only
  rw [if_neg (by rw [c]; decide), if_neg (by rw [c]; decide), if_neg (by rw [c]; decide), if_neg (by rw [c]; decide), if_neg (by rw [c]; decide), if_neg (by rw [c]; decide), if_neg (by rw [c]; decide), if_neg (by rw [c]; decide), if_neg (by rw [c]; decide), if_neg (by rw [c]; decide), if_pos c]
theorem pf_11 {u : XS} {w : Int32} {y z : Int64} (c : jshr (f_X3_opOf w) 4 = 11) : f_X3_perform u w y z = f_X3_storeX (pc4 u) w (y + z) := by
  unfold f_X3_perform
  dsimp only
  rw [if_neg (by rw [c]; decide), if_neg (by rw [c]; decide), if_neg (by rw [c]; decide), if_neg (by rw [c]; decide), if_neg (by rw [c]; decide), if_neg (by rw [c]; decide), if_neg (by rw [c]; decide), if_neg (by rw [c]; decide), if_neg (by rw [c]; decide), if_neg (by rw [c]; decide), if_neg (by rw [c]; decide), if_pos c]
theorem pf_12 {u : XS} {w : Int32} {y z : Int64} (c : jshr (f_X3_opOf w) 4 = 12) : f_X3_perform u w y z = f_X3_writeX (pc4 u) w (f_X2_bitwise (f_X3_opOf w) y z) := by
  unfold f_X3_perform
  dsimp only
  rw [if_neg (by rw [c]; decide), if_neg (by rw [c]; decide), if_neg (by rw [c]; decide), if_neg (by rw [c]; decide), if_neg (by rw [c]; decide), if_neg (by rw [c]; decide), if_neg (by rw [c]; decide), if_neg (by rw [c]; decide), if_neg (by rw [c]; decide), if_neg (by rw [c]; decide), if_neg (by rw [c]; decide), if_neg (by rw [c]; decide), if_pos c]
theorem pf_13 {u : XS} {w : Int32} {y z : Int64} (c : jshr (f_X3_opOf w) 4 = 13) : f_X3_perform u w y z = f_X3_writeX (pc4 u) w (f_X3_bytewise (pc4 u) (f_X3_opOf w) y z) := by
  unfold f_X3_perform
  dsimp only
  rw [if_neg (by rw [c]; decide), if_neg (by rw [c]; decide), if_neg (by rw [c]; decide), if_neg (by rw [c]; decide), if_neg (by rw [c]; decide), if_neg (by rw [c]; decide), if_neg (by rw [c]; decide), if_neg (by rw [c]; decide), if_neg (by rw [c]; decide), if_neg (by rw [c]; decide), if_neg (by rw [c]; decide), if_neg (by rw [c]; decide), if_neg (by rw [c]; decide), if_pos c]
theorem pf_14 {u : XS} {w : Int32} {y z : Int64} (c : jshr (f_X3_opOf w) 4 = 14) : f_X3_perform u w y z = f_X3_writeX (pc4 u) w (f_X3_withWyde (pc4 u) w) := by
  unfold f_X3_perform
  dsimp only
  rw [if_neg (by rw [c]; decide), if_neg (by rw [c]; decide), if_neg (by rw [c]; decide), if_neg (by rw [c]; decide), if_neg (by rw [c]; decide), if_neg (by rw [c]; decide), if_neg (by rw [c]; decide), if_neg (by rw [c]; decide), if_neg (by rw [c]; decide), if_neg (by rw [c]; decide), if_neg (by rw [c]; decide), if_neg (by rw [c]; decide), if_neg (by rw [c]; decide), if_neg (by rw [c]; decide), if_pos c]
theorem pf_15 {u : XS} {w : Int32} {y z : Int64} (c : jshr (f_X3_opOf w) 4 = 15) : f_X3_perform u w y z = f_X3_performRest (pc4 u) w z (x_pc u) := by
  unfold f_X3_perform
  dsimp only
  rw [if_neg (by rw [c]; decide), if_neg (by rw [c]; decide), if_neg (by rw [c]; decide), if_neg (by rw [c]; decide), if_neg (by rw [c]; decide), if_neg (by rw [c]; decide), if_neg (by rw [c]; decide), if_neg (by rw [c]; decide), if_neg (by rw [c]; decide), if_neg (by rw [c]; decide), if_neg (by rw [c]; decide), if_neg (by rw [c]; decide), if_neg (by rw [c]; decide), if_neg (by rw [c]; decide), if_neg (by rw [c]; decide)]
theorem oo_pf_0 (u : XS) {w : Int32} {y z : Int64} (c : jshr (f_X3_opOf w) 4 = 0) : x_oo (f_X3_perform u w y z) = x_oo u := by rw [pf_0 c]; exact poo_trap _ _ _
theorem oo_pf_1 (u : XS) {w : Int32} {y z : Int64} (c : jshr (f_X3_opOf w) 4 = 1) : x_oo (f_X3_perform u w y z) = x_oo u := by rw [pf_1 c]; exact (poo_writeX _ _ _).trans (poo_productOrQuotient _ _ _ _)
theorem oo_pf_2 (u : XS) {w : Int32} {y z : Int64} (c : jshr (f_X3_opOf w) 4 = 2) : x_oo (f_X3_perform u w y z) = x_oo u := by rw [pf_2 c]; exact (poo_writeX _ _ _).trans (poo_sumOrDifference _ _ _ _)
theorem oo_pf_3 (u : XS) {w : Int32} {y z : Int64} (c : jshr (f_X3_opOf w) 4 = 3) : x_oo (f_X3_perform u w y z) = x_oo u := by rw [pf_3 c]; exact (poo_writeX _ _ _).trans (poo_comparedOrShifted _ _ _ _)
theorem oo_pf_6 (u : XS) {w : Int32} {y z : Int64} (c : jshr (f_X3_opOf w) 4 = 6) : x_oo (f_X3_perform u w y z) = x_oo u := by rw [pf_6 c]; exact poo_choose _ _ _ _
theorem oo_pf_7 (u : XS) {w : Int32} {y z : Int64} (c : jshr (f_X3_opOf w) 4 = 7) : x_oo (f_X3_perform u w y z) = x_oo u := by rw [pf_7 c]; exact poo_choose _ _ _ _
theorem oo_pf_8 (u : XS) {w : Int32} {y z : Int64} (c : jshr (f_X3_opOf w) 4 = 8) : x_oo (f_X3_perform u w y z) = x_oo u := by rw [pf_8 c]; exact poo_loadOrGo _ _ _ _
theorem oo_pf_9 (u : XS) {w : Int32} {y z : Int64} (c : jshr (f_X3_opOf w) 4 = 9) : x_oo (f_X3_perform u w y z) = x_oo u := by rw [pf_9 c]; exact poo_loadOrGo _ _ _ _
theorem oo_pf_10 (u : XS) {w : Int32} {y z : Int64} (c : jshr (f_X3_opOf w) 4 = 10) : x_oo (f_X3_perform u w y z) = x_oo u := by rw [pf_10 c]; exact poo_storeX _ _ _
theorem oo_pf_11 (u : XS) {w : Int32} {y z : Int64} (c : jshr (f_X3_opOf w) 4 = 11) : x_oo (f_X3_perform u w y z) = x_oo u := by rw [pf_11 c]; exact poo_storeX _ _ _
theorem oo_pf_12 (u : XS) {w : Int32} {y z : Int64} (c : jshr (f_X3_opOf w) 4 = 12) : x_oo (f_X3_perform u w y z) = x_oo u := by rw [pf_12 c]; exact poo_writeX _ _ _
theorem oo_pf_13 (u : XS) {w : Int32} {y z : Int64} (c : jshr (f_X3_opOf w) 4 = 13) : x_oo (f_X3_perform u w y z) = x_oo u := by rw [pf_13 c]; exact poo_writeX _ _ _
theorem oo_pf_14 (u : XS) {w : Int32} {y z : Int64} (c : jshr (f_X3_opOf w) 4 = 14) : x_oo (f_X3_perform u w y z) = x_oo u := by rw [pf_14 c]; exact poo_writeX _ _ _
theorem oo_pf_15 (u : XS) {w : Int32} {y z : Int64} (c : jshr (f_X3_opOf w) 4 = 15) : x_oo (f_X3_perform u w y z) = x_oo u := by rw [pf_15 c]; exact poo_performRest _ _ _ _
theorem tab_e : ∀ n : Nat, n < 256 → nI n &&& 254 = nI (n / 2 * 2) ∧ jshr (nI n) 4 = nI (n / 16) := by decide +kernel
theorem oo_pf (u : XS) {w : Int32} {n : Nat} (hn : n < 256) (e : f_X3_opOf w = nI n) (hb : n < 64 ∨ 96 ≤ n) (y z : Int64) : x_oo (f_X3_perform u w y z) = x_oo u := by
  have c := (tab_e n hn).2
  rw [← e] at c
  have h : n / 16 = 0 ∨ n / 16 = 1 ∨ n / 16 = 2 ∨ n / 16 = 3 ∨ n / 16 = 6 ∨ n / 16 = 7 ∨ n / 16 = 8 ∨ n / 16 = 9 ∨ n / 16 = 10 ∨ n / 16 = 11 ∨ n / 16 = 12 ∨ n / 16 = 13 ∨ n / 16 = 14 ∨ n / 16 = 15 := by omega
  rcases h with h | h | h | h | h | h | h | h | h | h | h | h | h | h
  · rw [h] at c
    exact oo_pf_0 u c
  · rw [h] at c
    exact oo_pf_1 u c
  · rw [h] at c
    exact oo_pf_2 u c
  · rw [h] at c
    exact oo_pf_3 u c
  · rw [h] at c
    exact oo_pf_6 u c
  · rw [h] at c
    exact oo_pf_7 u c
  · rw [h] at c
    exact oo_pf_8 u c
  · rw [h] at c
    exact oo_pf_9 u c
  · rw [h] at c
    exact oo_pf_10 u c
  · rw [h] at c
    exact oo_pf_11 u c
  · rw [h] at c
    exact oo_pf_12 u c
  · rw [h] at c
    exact oo_pf_13 u c
  · rw [h] at c
    exact oo_pf_14 u c
  · rw [h] at c
    exact oo_pf_15 u c
def lgB (o A B C : Int32) : Int32 :=
  if o = (0 : Int32) then
    A
  else
    if o = (146 : Int32) then
      (1 : Int32)
    else
      if o = (147 : Int32) then
        (1 : Int32)
      else
        if o = (158 : Int32) then
          (1 : Int32)
        else
          if o = (159 : Int32) then
            (1 : Int32)
          else
            if o = (178 : Int32) then
              (1 : Int32)
            else
              if o = (179 : Int32) then
                (1 : Int32)
              else
                if o = (180 : Int32) then
                  (1 : Int32)
                else
                  if o = (181 : Int32) then
                    (1 : Int32)
                  else
                    if o = (240 : Int32) then
                      (1 : Int32)
                    else
                      if o = (241 : Int32) then
                        (1 : Int32)
                      else
                        if o = (244 : Int32) then
                          (1 : Int32)
                        else
                          if o = (245 : Int32) then
                            (1 : Int32)
                          else
                            if o = (246 : Int32) then
                              B
                            else
                              if o = (247 : Int32) then
                                B
                              else
                                if o = (253 : Int32) then
                                  (1 : Int32)
                                else
                                  if o = (254 : Int32) then
                                    C
                                  else
                                    if o < (24 : Int32) then
                                      if o < (160 : Int32) then
                                        if o < (192 : Int32) then
                                          (0 : Int32)
                                        else
                                          if (240 : Int32) ≤ o then
                                            (0 : Int32)
                                          else
                                            (1 : Int32)
                                      else
                                        if o < (176 : Int32) then
                                          (1 : Int32)
                                        else
                                          if o < (192 : Int32) then
                                            (0 : Int32)
                                          else
                                            if (240 : Int32) ≤ o then
                                              (0 : Int32)
                                            else
                                              (1 : Int32)
                                    else
                                      if o < (144 : Int32) then
                                        (1 : Int32)
                                      else
                                        if o < (160 : Int32) then
                                          if o < (192 : Int32) then
                                            (0 : Int32)
                                          else
                                            if (240 : Int32) ≤ o then
                                              (0 : Int32)
                                            else
                                              (1 : Int32)
                                        else
                                          if o < (176 : Int32) then
                                            (1 : Int32)
                                          else
                                            if o < (192 : Int32) then
                                              (0 : Int32)
                                            else
                                              if (240 : Int32) ≤ o then
                                                (0 : Int32)
                                              else
                                                (1 : Int32)
theorem lg_B (w : Int32) : f_X3_isLegal w = lgB (f_X3_opOf w) (if w = (0 : Int32) then (1 : Int32) else if (jshr w (8 : Int32)) = (1 : Int32) then (1 : Int32) else (0 : Int32)) (if (8 : Int32) ≤ (f_X3_byteX w) then (0 : Int32) else (1 : Int32)) (if (8 : Int32) ≤ (f_X3_byteZ w) then (0 : Int32) else (1 : Int32)) := rfl
abbrev lgT (n : Nat) : Prop := (24 ≤ n ∧ n < 144) ∨ n = 146 ∨ n = 147 ∨ n = 158 ∨ n = 159 ∨ (160 ≤ n ∧ n < 176) ∨ (178 ≤ n ∧ n < 182) ∨ (192 ≤ n ∧ n < 242) ∨ n = 244 ∨ n = 245 ∨ n = 253
theorem lg_tab : ∀ n : Nat, n < 256 → ∀ a : Nat, a < 2 → ∀ b : Nat, b < 2 → ∀ c : Nat, c < 2 → lgB (nI n) (nI a) (nI b) (nI c) = if n = 0 then nI a else if n = 246 ∨ n = 247 then nI b else if n = 254 then nI c else if lgT n then 1 else 0 := by decide +kernel
theorem i01 {c : Prop} [Decidable c] {x y : Int32} (hx : ∃ a : Nat, a < 2 ∧ x = nI a) (hy : ∃ a : Nat, a < 2 ∧ y = nI a) : ∃ a : Nat, a < 2 ∧ (if c then x else y) = nI a := by
  by_cases h : c
  · rw [if_pos h]; exact hx
  · rw [if_neg h]; exact hy
theorem lg_eq (w : Int32) {n : Nat} (hn : n < 256) (e : f_X3_opOf w = nI n) : f_X3_isLegal w = if n = 0 then (if w = (0 : Int32) then (1 : Int32) else if (jshr w (8 : Int32)) = (1 : Int32) then (1 : Int32) else (0 : Int32)) else if n = 246 ∨ n = 247 then (if (8 : Int32) ≤ (f_X3_byteX w) then (0 : Int32) else (1 : Int32)) else if n = 254 then (if (8 : Int32) ≤ (f_X3_byteZ w) then (0 : Int32) else (1 : Int32)) else if lgT n then 1 else 0 := by
  have z0 : ∃ a : Nat, a < 2 ∧ (0 : Int32) = nI a := ⟨0, by decide, rfl⟩
  have z1 : ∃ a : Nat, a < 2 ∧ (1 : Int32) = nI a := ⟨1, by decide, rfl⟩
  rw [lg_B, e]
  obtain ⟨a, ha, ea⟩ := i01 (c := w = (0 : Int32)) z1 (i01 (c := (jshr w (8 : Int32)) = (1 : Int32)) z1 z0)
  obtain ⟨b, hb, eb⟩ := i01 (c := (8 : Int32) ≤ (f_X3_byteX w)) z0 z1
  obtain ⟨c, hc, ec⟩ := i01 (c := (8 : Int32) ≤ (f_X3_byteZ w)) z0 z1
  rw [ea, eb, ec]
  exact lg_tab n hn a ha b hb c hc
theorem ls_eq : ∀ n : Nat, n < 256 → f_X3_isLoadOrStore (nI n) = if 128 ≤ n ∧ n < 192 ∧ ¬ n = 158 ∧ ¬ n = 159 then 1 else 0 := by decide +kernel
def billB (o : Int32) (L : Int64) : Int64 := (if o < (24 : Int32) then if o < (28 : Int32) then if o = (158 : Int32) then (3 : Int64) else if o = (159 : Int32) then (3 : Int64) else if o = (0 : Int32) then (5 : Int64) else L else if (32 : Int32) ≤ o then if o = (158 : Int32) then (3 : Int64) else if o = (159 : Int32) then (3 : Int64) else if o = (0 : Int32) then (5 : Int64) else L else (60 : Int64) else if (28 : Int32) ≤ o then if o < (28 : Int32) then if o = (158 : Int32) then (3 : Int64) else if o = (159 : Int32) then (3 : Int64) else if o = (0 : Int32) then (5 : Int64) else L else if (32 : Int32) ≤ o then if o = (158 : Int32) then (3 : Int64) else if o = (159 : Int32) then (3 : Int64) else if o = (0 : Int32) then (5 : Int64) else L else (60 : Int64) else (10 : Int64))
theorem bill_1 : ∀ n : Nat, n < 256 → billB (nI n) 1 = (f_X3_leastOops (nI n)).toInt64 := by decide +kernel
theorem bill_3 : ∀ n : Nat, n < 96 → 64 ≤ n → billB (nI n) 3 = (f_X3_leastOops (nI n)).toInt64 + 2 := by decide +kernel
theorem bill_eq {n : Nat} (hn : n < 256) (l : Int32) (h : l = 0 ∨ (64 ≤ n ∧ n < 96)) : billB (nI n) (if l = 0 then 1 else 3) = (f_X3_leastOops (nI n)).toInt64 + (if l = 0 then 0 else 2) := by
  by_cases c : l = 0
  · rw [if_pos c, if_pos c, bill_1 n hn, Int64.add_zero]
  · rw [if_neg c, if_neg c]
    rcases h with h | h
    · exact absurd h c
    · exact bill_3 n h.2 h.1
