theorem ol_doNext (u : XS) (h : 0 ≤ x_ol u) : 0 ≤ x_ol (f_X3_doNext u).2 := by
  unfold f_X3_doNext
  have k1 : ∀ w, x_ol (f_X3_followFetch u w) = x_ol u := fun w => ol_followFetch u w
  have k2 : ∀ w a b, 0 ≤ x_ol (f_X3_bill (f_X3_followFetch u w) a b) := fun w a b => by rw [ol_bill, k1]; exact h
  have k3 : ∀ w a b c y z, 0 ≤ x_ol (f_X3_perform (f_X3_bill (f_X3_followFetch u w) a b) c y z) := fun w a b c y z => ol_perform _ _ _ _ (k2 w a b)
  have k4 : ∀ w, 0 ≤ x_ol (f_X3_followFetch u w) := fun w => by rw [k1]; exact h
  exact ol_m (ol_m (k4 _) (ol_m (ol_m (k3 _ _ _ _ _ _) (k3 _ _ _ _ _ _)) (ol_m (ol_m (k3 _ _ _ _ _ _) (k3 _ _ _ _ _ _)) (k4 _)))) h
theorem go_next {n : Nat} {p w : Int32} (h1 : ¬ p < 1) (h2 : p ≤ 1000) (hI : w = nI (p.toNatClampNeg + 1 - (n + 1)) ∧ 0 < n + 1 ∧ n + 1 ≤ p.toNatClampNeg + 1) (c : ¬ p ≤ w) : w + 1 = nI (p.toNatClampNeg + 1 - n) ∧ 0 < n ∧ n ≤ p.toNatClampNeg + 1 := by
  obtain ⟨j, hj, rfl⟩ := nI_of (x := p) (fun h => h1 (Int32.lt_trans h (by decide)))
  have h3 : j ≤ 1000 := (nI_leI hj (by decide)).mp h2
  rw [nI_clamp hj] at hI ⊢
  exact up_next (by omega) hI c
