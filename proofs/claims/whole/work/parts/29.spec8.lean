theorem us15 (ρ : Sg) (X Y X' Y' : Nat → Int) : us (us (us (us ρ 1 X) 5 Y) 1 X') 5 Y' = us (us ρ 1 X') 5 Y' := by
  funext k
  unfold us
  by_cases h5 : k = 5
  · subst h5
    rfl
  · by_cases h1 : k = 1
    · subst h1
      rfl
    · simp only [h5, h1, if_false]
theorem RM_cong {ρ τ : Sg} (h : RM_ ρ) (h0 : ρ 0 = τ 0) (h1 : ρ 1 = τ 1) (h3 : ρ 3 = τ 3) (h4 : ρ 4 = τ 4) (h5 : ρ 5 = τ 5) (h6 : ρ 6 = τ 6) : RM_ τ := by
  unfold RM_ at h ⊢
  rw [← h0, ← h1, ← h3, ← h4, ← h5, ← h6]
  exact h
