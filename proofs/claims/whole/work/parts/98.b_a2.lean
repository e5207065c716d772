/-! how many bits are 1 -/
def cntB : Nat → Nat → Nat
  | 0, _ => 0
  | f + 1, N => N % 2 + cntB f (N / 2)
abbrev pc8 (b : Nat) : Nat := cntB 8 b
def bs1 (b : Nat) : Nat := b - (b / 2 &&& 85)
def bs2 (b : Nat) : Nat := (bs1 b &&& 51) + (bs1 b / 4 &&& 51)
theorem bt_1 : ∀ b : Nat, b < 256 → ∀ r : Nat, r < 2 → (b / 2 + 128 * r) &&& 85 = b / 2 &&& 85 := by decide +kernel
theorem bt_2 : ∀ b : Nat, b < 256 → (b / 2 &&& 85) ≤ b ∧ bs1 b < 256 := by decide +kernel
theorem bt_3 : ∀ b : Nat, b < 256 → ∀ r : Nat, r < 4 → (b / 4 + 64 * r) &&& 51 = b / 4 &&& 51 := by decide +kernel
theorem bt_4 : ∀ b : Nat, b < 256 → bs2 b < 69 ∧ bs2 b % 16 < 5 := by decide +kernel
theorem bt_5 : ∀ b : Nat, b < 256 → ∀ r : Nat, r < 5 → (bs2 b + bs2 b / 16 + 16 * r) &&& 15 = pc8 b := by decide +kernel
theorem st_1 : ∀ l : List Nat, bts l → (vB l / 2) &&& vB (l.map (fun _ => 85)) = vB (l.map (fun b => b / 2 &&& 85))
  | [], _ => rfl
  | b :: t, h => by
    have h1 := h b List.mem_cons_self
    have h2 := st_1 t (fun x hx => h x (List.mem_cons_of_mem _ hx))
    show ((b + 256 * vB t) / 2) &&& (85 + 256 * vB (t.map (fun _ => 85))) = (b / 2 &&& 85) + 256 * vB (t.map (fun b => b / 2 &&& 85))
    rw [show (b + 256 * vB t) / 2 = (b / 2 + 128 * (vB t % 2)) + 256 * (vB t / 2) from by omega, cut_and (by omega) (by decide), h2, bt_1 b h1 _ (by omega)]
theorem st_1b : ∀ l : List Nat, bts l → vB l = vB (l.map bs1) + vB (l.map (fun b => b / 2 &&& 85))
  | [], _ => rfl
  | b :: t, h => by
    have h1 := (bt_2 b (h b List.mem_cons_self)).1
    have h2 := st_1b t (fun x hx => h x (List.mem_cons_of_mem _ hx))
    show b + 256 * vB t = (b - (b / 2 &&& 85) + 256 * vB (t.map bs1)) + ((b / 2 &&& 85) + 256 * vB (t.map (fun b => b / 2 &&& 85)))
    generalize (b / 2 &&& 85) = q at *
    omega
theorem st_2 : ∀ l : List Nat, bts l → (vB (l.map bs1) &&& vB (l.map (fun _ => 51))) + ((vB (l.map bs1) / 4) &&& vB (l.map (fun _ => 51))) = vB (l.map bs2)
  | [], _ => rfl
  | b :: t, h => by
    have h1 := (bt_2 b (h b List.mem_cons_self)).2
    have h2 := st_2 t (fun x hx => h x (List.mem_cons_of_mem _ hx))
    show ((bs1 b + 256 * vB (t.map bs1)) &&& (51 + 256 * vB (t.map (fun _ => 51)))) + (((bs1 b + 256 * vB (t.map bs1)) / 4) &&& (51 + 256 * vB (t.map (fun _ => 51)))) = ((bs1 b &&& 51) + (bs1 b / 4 &&& 51)) + 256 * vB (t.map bs2)
    rw [show (bs1 b + 256 * vB (t.map bs1)) / 4 = (bs1 b / 4 + 64 * (vB (t.map bs1) % 4)) + 256 * (vB (t.map bs1) / 4) from by omega, cut_and h1 (by decide), cut_and (by omega) (by decide), bt_3 _ h1 _ (by omega), ← h2]
    omega
theorem st_3 : ∀ l : List Nat, bts l → ∃ m : List Nat, m.length = l.length ∧ bts m ∧ vB (l.map bs2) % 16 < 5 ∧ vB (l.map bs2) + vB (l.map bs2) / 16 = vB m ∧ (vB m &&& vB (l.map (fun _ => 15))) = vB (l.map pc8)
  | [], _ => ⟨[], rfl, fun b hb => absurd hb List.not_mem_nil, by decide, rfl, rfl⟩
  | b :: t, h => by
    have hb := h b List.mem_cons_self
    have h1 := bt_4 b hb
    obtain ⟨m, m1, m2, m3, m4, m5⟩ := st_3 t (fun x hx => h x (List.mem_cons_of_mem _ hx))
    refine ⟨(bs2 b + bs2 b / 16 + 16 * (vB (t.map bs2) % 16)) :: m, by rw [List.length_cons, List.length_cons, m1], ?_, ?_, ?_, ?_⟩
    · intro x hx
      rcases List.mem_cons.mp hx with rfl | hx
      · omega
      · exact m2 x hx
    · show (bs2 b + 256 * vB (t.map bs2)) % 16 < 5
      omega
    · show (bs2 b + 256 * vB (t.map bs2)) + (bs2 b + 256 * vB (t.map bs2)) / 16 = (bs2 b + bs2 b / 16 + 16 * (vB (t.map bs2) % 16)) + 256 * vB m
      rw [← m4]
      omega
    · show ((bs2 b + bs2 b / 16 + 16 * (vB (t.map bs2) % 16)) + 256 * vB m) &&& (15 + 256 * vB (t.map (fun _ => 15))) = pc8 b + 256 * vB (t.map pc8)
      rw [cut_and (by omega) (by decide), m5, bt_5 b hb _ m3]
