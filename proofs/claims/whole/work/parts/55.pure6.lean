theorem setF_cong {P Q : Nat → Bool} : ∀ k, (∀ j, j < k → P j = Q j) → setF P k = setF Q k
  | 0, _ => rfl
  | k + 1, h => by
    have ih := setF_cong k (fun j hj => h j (by omega))
    rw [setF, setF, ih, h k (by omega)]
theorem ex_bits (P : Nat → Bool) : ∀ k, ∃ y : Nat, y < 2 ^ k ∧ ∀ t, t < k → y.testBit t = P t
  | 0 => ⟨0, by decide, fun t ht => absurd ht (Nat.not_lt_zero _)⟩
  | k + 1 => by
    obtain ⟨y, h1, h2⟩ := ex_bits P k
    have e : 2 ^ (k + 1) = 2 * 2 ^ k := by rw [Nat.pow_succ, Nat.mul_comm]
    have hf : y.testBit k = false := Nat.testBit_lt_two_pow h1
    by_cases hp : P k = true
    · refine ⟨2 ^ k + y, by omega, fun t ht => ?_⟩
      by_cases q : t = k
      · rw [q, Nat.testBit_two_pow_add_eq, hf, hp]
        rfl
      · rw [Nat.testBit_two_pow_add_gt (by omega), h2 t (by omega)]
    · refine ⟨y, by omega, fun t ht => ?_⟩
      by_cases q : t = k
      · rw [q, hf]
        simpa using hp
      · exact h2 t (by omega)
set_option maxRecDepth 100000 in
theorem and_bit0 : ∀ n, n < 9 → ∀ h, h < n → ∀ y, y < 2 ^ n → band (setF (fun t => y.testBit t) n) (bxor (bshl 1 ((h : Nat) : Int)) (-1)) = setF (fun t => y.testBit t && decide (t ≠ h)) n := by decide +kernel
theorem and_bit {P : Nat → Bool} {n h : Nat} (hn : n ≤ 8) (hh : h < n) : band (setF P n) (bxor (bshl 1 (h : Int)) (-1)) = setF (fun t => P t && decide (t ≠ h)) n := by
  obtain ⟨y, h1, h2⟩ := ex_bits P n
  have e := and_bit0 n (by omega) h hh y h1
  rw [setF_cong (P := fun t => y.testBit t) (Q := P) n (fun j hj => h2 j hj)] at e
  rw [e]
  exact setF_cong n (fun j hj => by rw [h2 j hj])
theorem all_setF {n : Int} (hn : 0 ≤ n ∧ n ≤ 8) : bshl 1 n - 1 = setF (fun _ => true) n.toNat := by
  have h1 : ∀ n, n < 9 → bshl 1 ((n : Nat) : Int) - 1 = setF (fun _ => true) n := by decide +kernel
  have h2 := h1 n.toNat (by omega)
  rw [show ((n.toNat : Nat) : Int) = n by omega] at h2
  exact h2
theorem lnF_is {n : Int} (hn : 0 ≤ n ∧ n ≤ 8) (M : Nat → Int) : ∀ f, lnF n M f = setF (fun t => (List.range f).all (fun j => decide (holder n M j ≠ (t : Int)))) n.toNat
  | 0 => all_setF hn
  | f + 1 => by
    have ih := lnF_is hn M f
    have hr := holder_rng n M f hn.1
    rw [lnF, ih]
    by_cases h : holder n M f = -1
    · rw [if_pos h]
      refine setF_cong _ (fun t ht => ?_)
      rw [List.range_succ, List.all_append]
      simp only [List.all_cons, List.all_nil, Bool.and_true]
      rw [decide_eq_true (show holder n M f ≠ (t : Int) by omega), Bool.and_true]
    · rw [if_neg h]
      have e : holder n M f = (((holder n M f).toNat : Nat) : Int) := by omega
      have q := and_bit (P := fun t => (List.range f).all (fun j => decide (holder n M j ≠ (t : Int)))) (n := n.toNat) (h := (holder n M f).toNat) (by omega) (by omega)
      rw [← e] at q
      rw [q]
      refine setF_cong _ (fun t ht => ?_)
      rw [List.range_succ, List.all_append]
      simp only [List.all_cons, List.all_nil, Bool.and_true]
      congr 1
      by_cases w : t = (holder n M f).toNat
      · rw [decide_eq_false (by omega), decide_eq_false (by omega)]
      · rw [decide_eq_true w, decide_eq_true (by omega)]
theorem setF_zero (P : Nat → Bool) : ∀ k, k ≤ 12 → (setF P k = 0 ↔ ∀ j, j < k → P j = false)
  | 0, _ => ⟨fun _ j hj => absurd hj (Nat.not_lt_zero _), fun _ => rfl⟩
  | k + 1, h => by
    have ih := setF_zero P k (by omega)
    have hv := setF_val P k (by omega)
    have hp : (0 : Int) < ((2 ^ k : Nat) : Int) := by omega
    rw [setF]
    by_cases hk : P k = true
    · rw [if_pos hk, bor_add (by omega) hv]
      refine ⟨fun q => by omega, fun q => ?_⟩
      have := q k (by omega)
      rw [hk] at this
      exact absurd this (by decide)
    · rw [if_neg hk, ih]
      refine ⟨fun q j hj => ?_, fun q j hj => q j (by omega)⟩
      by_cases e : j = k
      · rw [e]
        simpa using hk
      · exact q j (by omega)
theorem landless_is {n : Int} (hn : 0 ≤ n ∧ n ≤ 8) (M : Nat → Int) : lnF n M 12 = setF (fun t => decide (setF (fun f => decide (holder n M f = (t : Int))) 12 = 0)) n.toNat := by
  rw [lnF_is hn M 12]
  refine setF_cong _ (fun t ht => ?_)
  have hz := setF_zero (fun f => decide (holder n M f = (t : Int))) 12 (by omega)
  by_cases q : setF (fun f => decide (holder n M f = (t : Int))) 12 = 0
  · rw [decide_eq_true q, List.all_eq_true]
    intro j hj
    have := hz.mp q j (List.mem_range.mp hj)
    exact decide_eq_true (of_decide_eq_false this)
  · rw [decide_eq_false q]
    by_cases w : (List.range 12).all (fun j => decide (holder n M j ≠ (t : Int))) = true
    · rw [List.all_eq_true] at w
      refine absurd (hz.mpr (fun j hj => ?_)) q
      have := of_decide_eq_true (w j (List.mem_range.mpr hj))
      exact decide_eq_false this
    · simpa using w
