/-! what the class may throw -/
theorem ki {α : Type} {c : Prop} [Decidable c] {x y : Int32 × α} {P : Int32 → Prop} (h1 : P x.1) (h2 : P y.1) : P (if c then x else y).1 := by
  split
  · exact h1
  · exact h2
theorem k_set (u : XS) (p0 : Int32) (p1 : Int64) : (f_X3_set u p0 p1).1 = 0 ∨ (f_X3_set u p0 p1).1 = 1 := by
  unfold f_X3_set
  exact ki (P := fun z => z = 0 ∨ z = 1) (Or.inr rfl) (ki (P := fun z => z = 0 ∨ z = 1) (Or.inl rfl) (Or.inr rfl))
theorem k_get (u : XS) (p0 : Int32) : (f_X3_get u p0).1 = 0 ∨ (f_X3_get u p0).1 = 1 := by
  unfold f_X3_get
  exact ki (P := fun z => z = 0 ∨ z = 1) (Or.inr rfl) (ki (P := fun z => z = 0 ∨ z = 1) (ki (P := fun z => z = 0 ∨ z = 1) (Or.inl rfl) (Or.inl rfl)) (Or.inr rfl))
theorem k_tally (u : XS) (p0 : Int32) : (f_X3_tally u p0).1 = 0 ∨ (f_X3_tally u p0).1 = 1 := by
  unfold f_X3_tally
  exact ki (P := fun z => z = 0 ∨ z = 1) (Or.inr rfl) (ki (P := fun z => z = 0 ∨ z = 1) (Or.inl rfl) (Or.inr rfl))
theorem k_spend (u : XS) (p0 : Int32) : (f_X3_spend u p0).1 = 0 ∨ (f_X3_spend u p0).1 = 3 := by
  unfold f_X3_spend
  exact ki (P := fun z => z = 0 ∨ z = 3) (Or.inr rfl) (ki (P := fun z => z = 0 ∨ z = 3) (Or.inl rfl) (Or.inr rfl))
theorem k_output (u : XS) (p0 : Int32) : (f_X3_output u p0).1 = 0 ∨ (f_X3_output u p0).1 = 2 := by
  unfold f_X3_output
  exact ki (P := fun z => z = 0 ∨ z = 2) (Or.inr rfl) (ki (P := fun z => z = 0 ∨ z = 2) (Or.inl rfl) (Or.inr rfl))
theorem k_poke (u : XS) (p0 : Int32) (p1 : Int64) : (f_X3_poke u p0 p1).1 = 0 ∨ (f_X3_poke u p0 p1).1 = 2 := by
  unfold f_X3_poke
  exact ki (P := fun z => z = 0 ∨ z = 2) (Or.inl rfl) (Or.inr rfl)
theorem k_peek (u : XS) (p0 : Int32) : (f_X3_peek u p0).1 = 0 ∨ (f_X3_peek u p0).1 = 2 := by
  unfold f_X3_peek
  exact ki (P := fun z => z = 0 ∨ z = 2) (Or.inl rfl) (Or.inr rfl)
theorem k_at (u : XS) (p0 : Int32) : (f_X3_at u p0).1 = 0 ∨ (f_X3_at u p0).1 = 2 := by
  unfold f_X3_at
  exact ki (P := fun z => z = 0 ∨ z = 2) (Or.inl rfl) (Or.inr rfl)
theorem k_put (u : XS) (p0 p1 p2 p3 : Int32) : (f_X3_put u p0 p1 p2 p3).1 = 0 ∨ (f_X3_put u p0 p1 p2 p3).1 = 1 ∨ (f_X3_put u p0 p1 p2 p3).1 = 2 := by
  unfold f_X3_put
  exact ki (P := fun z => z = 0 ∨ z = 1 ∨ z = 2) (ki (P := fun z => z = 0 ∨ z = 1 ∨ z = 2) (Or.inl rfl) (Or.inr (Or.inr rfl))) (Or.inr (Or.inl rfl))
theorem k_loop (q1 q2 : Int32) : ∀ (n : Nat) (w : Int32) (u : XS), (lf_X3_go_37 q1 q2 n w u).1 = 0
  | 0, _, _ => rfl
  | n + 1, w, u => by
    unfold lf_X3_go_37
    exact ki (P := fun z => z = 0) rfl (ki (P := fun z => z = 0) (k_loop q1 q2 n _ _) rfl)
theorem k_go (u : XS) (p0 p1 : Int32) : (f_X3_go u p0 p1).1 = 0 ∨ (f_X3_go u p0 p1).1 = 3 := by
  unfold f_X3_go
  exact ki (P := fun z => z = 0 ∨ z = 3) (Or.inr rfl) (ki (P := fun z => z = 0 ∨ z = 3) (Or.inl (k_loop _ _ _ _ _)) (Or.inr rfl))
