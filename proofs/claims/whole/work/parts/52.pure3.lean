theorem brL_spec (V : Int → Int) (v : Int) : ∀ N : Nat, (brL V v N = -1 ∧ ∀ q : Nat, q < N → ¬ V (q : Int) ≤ v) ∨ (∃ r : Nat, brL V v N = (r : Int) ∧ r < N ∧ V (r : Int) ≤ v ∧ ∀ q : Nat, q < N → V (q : Int) ≤ v → (bitc (r : Int) < bitc (q : Int) ∨ (bitc (r : Int) = bitc (q : Int) ∧ r ≤ q)))
  | 0 => Or.inl ⟨rfl, fun q hq => absurd hq (Nat.not_lt_zero _)⟩
  | N + 1 => by
    rcases brL_spec V v N with ⟨h1, h2⟩ | ⟨r, h1, h2, h3, h4⟩
    · by_cases ok : V (N : Int) ≤ v
      · right
        refine ⟨N, ?_, by omega, ok, fun q hq hv => ?_⟩
        · rw [brL, if_pos ⟨Or.inl (by omega), ok⟩]
        · by_cases e : q = N
          · subst e
            exact Or.inr ⟨rfl, Nat.le_refl _⟩
          · exact absurd hv (h2 q (by omega))
      · left
        refine ⟨?_, fun q hq => ?_⟩
        · rw [brL, if_neg (fun w => ok w.2), h1]
        · by_cases e : q = N
          · subst e
            exact ok
          · exact h2 q (by omega)
    · right
      by_cases c : bitc (N : Int) < bitc (r : Int) ∧ V (N : Int) ≤ v
      · refine ⟨N, ?_, by omega, c.2, fun q hq hv => ?_⟩
        · rw [brL, h1, if_pos ⟨Or.inr c.1, c.2⟩]
        · by_cases e : q = N
          · subst e
            exact Or.inr ⟨rfl, Nat.le_refl _⟩
          · have := h4 q (by omega) hv
            omega
      · refine ⟨r, ?_, by omega, h3, fun q hq hv => ?_⟩
        · rw [brL, h1, if_neg (fun w => c ⟨by have := w.1; omega, w.2⟩)]
        · by_cases e : q = N
          · subst e
            by_cases f : bitc (r : Int) < bitc (q : Int)
            · exact Or.inl f
            · refine Or.inr ⟨?_, by omega⟩
              have := fun w => c ⟨w, hv⟩
              omega
          · exact h4 q (by omega) hv
theorem firstF_spec (P : Nat → Bool) : ∀ f i, (firstF P f i = -1 ∧ ∀ j, i ≤ j → j < i + f → ¬ P j = true) ∨ (∃ a : Nat, firstF P f i = (a : Int) ∧ i ≤ a ∧ a < i + f ∧ P a = true ∧ ∀ j, i ≤ j → j < a → ¬ P j = true)
  | 0, i => Or.inl ⟨rfl, fun j h1 h2 => by omega⟩
  | f + 1, i => by
    by_cases h : P i = true
    · exact Or.inr ⟨i, by rw [firstF, if_pos h], Nat.le_refl _, by omega, h, fun j h1 h2 => by omega⟩
    · rcases firstF_spec P f (i + 1) with ⟨h1, h2⟩ | ⟨a, h1, h2, h3, h4, h5⟩
      · refine Or.inl ⟨by rw [firstF, if_neg h, h1], fun j q1 q2 => ?_⟩
        by_cases e : j = i
        · rw [e]
          exact h
        · exact h2 j (by omega) (by omega)
      · refine Or.inr ⟨a, by rw [firstF, if_neg h, h1], by omega, by omega, h4, fun j q1 q2 => ?_⟩
        by_cases e : j = i
        · rw [e]
          exact h
        · exact h5 j (by omega) q2
theorem brm_spec (fs : Nat → Int) : ∀ f i, (brm fs f i = -1 ∧ ∀ z, i ≤ z → z < i + f → fs z = -1) ∨ (∃ z : Nat, brm fs f i = fs z ∧ ¬ fs z = -1 ∧ i ≤ z ∧ z < i + f ∧ ∀ y, i ≤ y → y < z → fs y = -1)
  | 0, i => Or.inl ⟨rfl, fun z h1 h2 => by omega⟩
  | f + 1, i => by
    by_cases h : fs i = -1
    · rcases brm_spec fs f (i + 1) with ⟨h1, h2⟩ | ⟨z, h1, h2, h3, h4, h5⟩
      · refine Or.inl ⟨by rw [brm, if_pos h, h1], fun z q1 q2 => ?_⟩
        by_cases e : z = i
        · rw [e]
          exact h
        · exact h2 z (by omega) (by omega)
      · refine Or.inr ⟨z, by rw [brm, if_pos h, h1], h2, by omega, by omega, fun y q1 q2 => ?_⟩
        by_cases e : y = i
        · rw [e]
          exact h
        · exact h5 y (by omega) q2
    · exact Or.inr ⟨i, by rw [brm, if_neg h], h, Nat.le_refl _, by omega, fun y h1 h2 => by omega⟩
theorem bitc_all {n : Nat} (hn : n ≤ 8) : bitc (((2 ^ n - 1 : Nat) : Nat) : Int) = (n : Int) ∧ ∀ q, q < 2 ^ n - 1 → 0 ≤ bitc ((q : Nat) : Int) ∧ bitc ((q : Nat) : Int) < (n : Int) := by
  have h1 : ∀ n, n < 9 → (bitc (((2 ^ n - 1 : Nat) : Nat) : Int) = ((n : Nat) : Int) ∧ ∀ q, q < 2 ^ n - 1 → 0 ≤ bitc ((q : Nat) : Int) ∧ bitc ((q : Nat) : Int) < ((n : Nat) : Int)) := by decide +kernel
  exact h1 n (by omega)
/-- brooms: class form and model form are one -/
theorem brooms_is {V : Int → Int} {v : Int} {n : Nat} (hn : n ≤ 8) (hV : ∀ q : Nat, q < 2 ^ n → V (((2 ^ n - 1 : Nat) : Nat) : Int) ≤ V (q : Int)) :
    (v < V (((2 ^ n - 1 : Nat) : Nat) : Int) → brL V v (2 ^ n) = -1) ∧ (¬ v < V (((2 ^ n - 1 : Nat) : Nat) : Int) → brL V v (2 ^ n) = if brm (brz V v (2 ^ n - 1)) n 0 = -1 then (((2 ^ n - 1 : Nat) : Nat) : Int) else brm (brz V v (2 ^ n - 1)) n 0) := by
  have hp : 1 ≤ 2 ^ n := Nat.one_le_two_pow
  obtain ⟨hb1, hb2⟩ := bitc_all hn
  constructor
  · intro hv
    rcases brL_spec V v (2 ^ n) with ⟨h1, _⟩ | ⟨r, h1, h2, h3, h4⟩
    · exact h1
    · have := hV r h2
      omega
  · intro hv
    rcases brL_spec V v (2 ^ n) with ⟨h1, h2⟩ | ⟨r, h1, h2, h3, h4⟩
    · exact absurd (show V (((2 ^ n - 1 : Nat) : Nat) : Int) ≤ v by omega) (h2 (2 ^ n - 1) (by omega))
    · rw [h1]
      rcases brm_spec (brz V v (2 ^ n - 1)) n 0 with ⟨m1, m2⟩ | ⟨z, m1, m2, m3, m4, m5⟩
      · rw [if_pos m1]
        by_cases e : r = 2 ^ n - 1
        · rw [e]
        · have hb := hb2 r (by omega)
          have hz := m2 (bitc (r : Int)).toNat (by omega) (by omega)
          rcases firstF_spec (fun q => decide (bitc (q : Int) = (((bitc (r : Int)).toNat : Nat) : Int)) && decide (V (q : Int) ≤ v)) (2 ^ n - 1) 0 with ⟨f1, f2⟩ | ⟨a, f1, f2, f3, f4, f5⟩
          · exact absurd (by rw [Bool.and_eq_true]; exact ⟨decide_eq_true (by omega), decide_eq_true h3⟩) (f2 r (by omega) (by omega))
          · have e2 : brz V v (2 ^ n - 1) (bitc (r : Int)).toNat = (a : Int) := f1
            omega
      · rw [if_neg (by rw [m1]; exact m2), m1]
        rcases firstF_spec (fun q => decide (bitc (q : Int) = ((z : Nat) : Int)) && decide (V (q : Int) ≤ v)) (2 ^ n - 1) 0 with ⟨f1, f2⟩ | ⟨a, f1, f2, f3, f4, f5⟩
        · exact absurd f1 m2
        · have e2 : brz V v (2 ^ n - 1) z = (a : Int) := f1
          rw [e2]
          rw [Bool.and_eq_true] at f4
          have a1 := of_decide_eq_true f4.1
          have a2 := of_decide_eq_true f4.2
          have hra := h4 a (by omega) a2
          by_cases e : r = a
          · rw [e]
          · by_cases er : r = 2 ^ n - 1
            · have hb := hb2 a (by omega)
              rw [er, hb1] at hra
              omega
            · have hb := hb2 r (by omega)
              by_cases c : bitc (r : Int) = (z : Int)
              · exact absurd (by rw [Bool.and_eq_true]; exact ⟨decide_eq_true c, decide_eq_true h3⟩) (f5 r (by omega) (by omega))
              · have hz := m5 (bitc (r : Int)).toNat (by omega) (by omega)
                rcases firstF_spec (fun q => decide (bitc (q : Int) = (((bitc (r : Int)).toNat : Nat) : Int)) && decide (V (q : Int) ≤ v)) (2 ^ n - 1) 0 with ⟨g1, g2⟩ | ⟨b, g1, g2, g3, g4, g5⟩
                · exact absurd (by rw [Bool.and_eq_true]; exact ⟨decide_eq_true (by omega), decide_eq_true h3⟩) (g2 r (by omega) (by omega))
                · have e3 : brz V v (2 ^ n - 1) (bitc (r : Int)).toNat = (b : Int) := g1
                  omega
