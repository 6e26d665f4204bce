/-! ===== class form and model form are one ===== -/
theorem setF_add (P Q : Nat → Bool) : ∀ k, k ≤ 12 → (∀ j, j < k → Q j = !P j) → setF P k + setF Q k = ((2 ^ k : Nat) : Int) - 1
  | 0, _, _ => by
    show (0 : Int) + 0 = ((2 ^ 0 : Nat) : Int) - 1
    decide
  | k + 1, h, hq => by
    have ih := setF_add P Q k (by omega) (fun j hj => hq j (by omega))
    have e : ((2 ^ (k + 1) : Nat) : Int) = 2 * ((2 ^ k : Nat) : Int) := by rw [Nat.pow_succ, Nat.mul_comm]; exact Int.natCast_mul 2 (2 ^ k)
    have hk := hq k (by omega)
    have h1 := setF_val P k (by omega)
    have h2 := setF_val Q k (by omega)
    by_cases hp : P k = true
    · have hqk : ¬ Q k = true := by rw [hk, hp]; decide
      rw [setF, if_pos hp, setF, if_neg hqk, bor_add (by omega) h1]
      omega
    · have hqk : Q k = true := by rw [hk]; simpa using hp
      rw [setF, if_neg hp, setF, if_pos hqk, bor_add (by omega) h2]
      omega
theorem bx_4095 {y : Int} (h : 0 ≤ y ∧ y ≤ 4095) : band 4095 (bxor y (-1)) = 4095 - y := by
  have h1 : ∀ a, a < 64 → ∀ b, b < 64 → band 4095 (bxor ((64 * a + b : Nat) : Int) (-1)) = 4095 - ((64 * a + b : Nat) : Int) := by decide +kernel
  have h2 := h1 (y.toNat / 64) (by omega) (y.toNat % 64) (by omega)
  rw [show ((64 * (y.toNat / 64) + y.toNat % 64 : Nat) : Int) = y by omega] at h2
  exact h2
theorem held_is (h : Nat → Int) (hr : ∀ f, -1 ≤ h f) : band 4095 (bxor (setF (fun f => decide (h f = -1)) 12) (-1)) = setF (fun f => decide (0 ≤ h f)) 12 := by
  have h1 := setF_12 (fun f => decide (h f = -1))
  rw [bx_4095 h1]
  have h2 := setF_add (fun f => decide (h f = -1)) (fun f => decide (0 ≤ h f)) 12 (by omega) (fun j _ => by
    have q := hr j
    by_cases e : h j = -1
    · rw [decide_eq_true e, decide_eq_false (by omega)]
      rfl
    · rw [decide_eq_false e, decide_eq_true (by omega)]
      rfl)
  have e : ((2 ^ 12 : Nat) : Int) = 4096 := by decide
  omega
theorem status_is {w : Int} (S : Nat → Int) (h : -1 ≤ w ∧ w ≤ 6) : sumF (fun j => if w < 0 ∨ (j : Int) = w then S j else 0) 7 = if w = -1 then sumF S 7 else S w.toNat := by
  rcases (show w = -1 ∨ w = 0 ∨ w = 1 ∨ w = 2 ∨ w = 3 ∨ w = 4 ∨ w = 5 ∨ w = 6 by omega) with rfl | rfl | rfl | rfl | rfl | rfl | rfl | rfl <;> simp [sumF]
theorem swap_same {σ : Sg} {x y : Nat} (h : σ 4 x = σ 4 y) : wr (wr σ 4 x (σ 4 y)) 4 y (σ 4 x) = σ := by
  rw [← h, wr_idd, h, wr_idd]
theorem dyS_eq {σ : Sg} (h : σ 0 10 < 99999) : dyS_0 σ = dyM 255 σ := by
  unfold dyS_0 dyM
  rw [show min 99999 (σ 0 10 + 1) = σ 0 10 + 1 by omega]
theorem dsM_day (m : Int) (ρ : Sg) : ∀ k : Nat, dsM m k ρ 0 10 = ρ 0 10 + (k : Int)
  | 0 => by
    show ρ 0 10 = ρ 0 10 + ((0 : Nat) : Int)
    omega
  | k + 1 => by
    have ih := dsM_day m ρ k
    have e : dsM m (k + 1) ρ 0 10 = dsM m k ρ 0 10 + 1 := rfl
    rw [e, ih]
    omega
theorem dsS_eq {σ : Sg} : ∀ n : Nat, σ 0 10 + (n : Int) ≤ 99999 → dsS_0 n σ = dsM 255 n σ
  | 0, _ => rfl
  | n + 1, h => by
    have ih := dsS_eq (σ := σ) n (by omega)
    have hd := dsM_day 255 σ n
    show dyS_0 (dsS_0 n σ) = dyM 255 (dsM 255 n σ)
    rw [ih]
    exact dyS_eq (by omega)
theorem snR_day (ρ : Sg) : ∀ k : Nat, snR k ρ 0 10 = ρ 0 10 + (k : Int)
  | 0 => by
    show ρ 0 10 = ρ 0 10 + ((0 : Nat) : Int)
    omega
  | k + 1 => by
    have ih := snR_day ρ k
    have e : snR (k + 1) ρ 0 10 = snR k ρ 0 10 + 1 := rfl
    rw [e, ih]
    omega
theorem snS_eq {σ : Sg} : ∀ n : Nat, σ 0 10 + (n : Int) ≤ 99999 → snS n σ = snR n σ
  | 0, _ => rfl
  | n + 1, h => by
    have ih := snS_eq (σ := σ) n (by omega)
    have hd := snR_day σ n
    show sn1 (snS n σ) = sn1M (snR n σ)
    rw [ih]
    unfold sn1 sn1M
    exact dyS_eq (by show snR n σ 0 10 < 99999; omega)
theorem swapFor_is {V : Int → Int} {t n : Nat} (ht : t < n) (hV : ∀ j : Nat, j < n → 0 ≤ V (j : Int)) : ((bstM V t n).1 < 0 ↔ n < 2) ∧ (2 ≤ n → (bstM V t n).1 = (bstX V t n).1) := by
  rcases bstM_X (V := V) (t := t) n hV with ⟨a, b, c⟩ | ⟨a, a2, b, j, hj, hj2⟩
  · have hn : n < 2 := by
      by_cases q : n < 2
      · exact q
      · have h0 := a 0 (by omega)
        have h1 := a 1 (by omega)
        omega
    refine ⟨⟨fun _ => hn, fun _ => ?_⟩, fun q => by omega⟩
    rw [b]
    decide
  · refine ⟨⟨fun q => by omega, fun q => by omega⟩, fun _ => by rw [b]⟩
theorem without_is {V : Int → Int} {n : Nat} (hn : n ≤ 8) (hV : ∀ j : Nat, j < n → 0 ≤ V (j : Int)) : ((bstM V 99 n).1 < 0 ↔ n = 0) ∧ (1 ≤ n → (bstM V 99 n).1 = (bstX V 99 n).1) := by
  rcases bstM_X (V := V) (t := 99) n hV with ⟨a, b, c⟩ | ⟨a, a2, b, j, hj, hj2⟩
  · have hn : n = 0 := by
      by_cases q : n = 0
      · exact q
      · have h0 := a 0 (by omega)
        omega
    refine ⟨⟨fun _ => hn, fun _ => ?_⟩, fun q => by omega⟩
    rw [b]
    decide
  · refine ⟨⟨fun q => by omega, fun q => by omega⟩, fun _ => by rw [b]⟩
theorem bst_X {V : Int → Int} : ∀ n : Nat, n ≤ 99 → bst V 0 n = bstX V 99 n
  | 0, _ => rfl
  | n + 1, h => by
    have ih := bst_X (V := V) n (by omega)
    rw [bst, bstX, ih, Int.zero_add]
    by_cases q : (bstX V 99 n).2 < V (n : Int)
    · rw [if_pos q, if_pos ⟨by omega, q⟩]
    · rw [if_neg q, if_neg (fun w => q w.2)]
