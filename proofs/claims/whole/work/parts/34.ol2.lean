theorem ol_doNext (u : XS) (h : 0 ≤ x_ol u) : 0 ≤ x_ol (f_X3_doNext u).2 := by
  unfold f_X3_doNext
  dsimp only
  repeat' split
  all_goals first | exact h | (simp only [ol_followFetch]; exact h) | (refine ol_perform _ _ _ _ ?_; simp only [ol_bill, ol_followFetch]; exact h)
theorem go_next {n : Nat} {p w : Int32} (h1 : ¬ p < 1) (h2 : p ≤ 1000) (hI : w = nI (p.toNatClampNeg + 1 - (n + 1)) ∧ 0 < n + 1 ∧ n + 1 ≤ p.toNatClampNeg + 1) (c : ¬ p ≤ w) : w + 1 = nI (p.toNatClampNeg + 1 - n) ∧ 0 < n ∧ n ≤ p.toNatClampNeg + 1 := by
  obtain ⟨j, hj, rfl⟩ := nI_of (x := p) (fun h => h1 (Int32.lt_trans h (by decide)))
  have h3 : j ≤ 1000 := (nI_leI hj (by decide)).mp h2
  rw [nI_clamp hj] at hI ⊢
  exact up_next (by omega) hI c
