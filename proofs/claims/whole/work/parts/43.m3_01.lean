theorem sz_d (k : Int32) : (jshl 1 ((jshr k 1) &&& 3)) = 1 ∨ (jshl 1 ((jshr k 1) &&& 3)) = 2 ∨ (jshl 1 ((jshr k 1) &&& 3)) = 4 ∨ (jshl 1 ((jshr k 1) &&& 3)) = 8 := by
  obtain ⟨j, hj, h⟩ := pk_andE (jshr k 1) (m := 3) 2 (by decide)
  rw [h]
  have h2 : j = 0 ∨ j = 1 ∨ j = 2 ∨ j = 3 := by omega
  rcases h2 with rfl | rfl | rfl | rfl
  · exact Or.inl (by decide)
  · exact Or.inr (Or.inl (by decide))
  · exact Or.inr (Or.inr (Or.inl (by decide)))
  · exact Or.inr (Or.inr (Or.inr (by decide)))
