def leD (D D2 : Nat → Int) : Prop := ∀ j, j < 12 → D j ≤ D2 j
theorem dyD_mono {w fl fl2 : Int} {D D2 : Nat → Int} (hf : fl ≤ fl2) (h : leD D D2) : leD (dyD w fl D) (dyD w fl2 D2) := by
  intro j hj
  unfold dyD flD
  rw [mapTo_lt hj, mapTo_lt hj, mapTo_lt hj, mapTo_lt hj]
  have h1 := h j hj
  have h2 := h (shf w j) (shf_lt w j)
  unfold blD
  omega
theorem sw_mono {K A : Nat → Int} {t : Nat} {D D2 : Nat → Int} (h : leD D D2) : leD (up D (A t).toNat (D (A t).toNat - min (stab 1 (K t).toNat) (D (A t).toNat))) (up D2 (A t).toNat (D2 (A t).toNat - min (stab 1 (K t).toNat) (D2 (A t).toNat))) := by
  intro j hj
  unfold up
  by_cases e : j = (A t).toNat
  · rw [if_pos e, if_pos e, ← e]
    have := h j hj
    omega
  · rw [if_neg e, if_neg e]
    exact h j hj
theorem sw_less {K A : Nat → Int} {t : Nat} {D : Nat → Int} (hD : ∀ j, j < 12 → 0 ≤ D j) : leD (up D (A t).toNat (D (A t).toNat - min (stab 1 (K t).toNat) (D (A t).toNat))) D := by
  intro j hj
  unfold up
  have hs := stab1_rng (K t).toNat
  by_cases e : j = (A t).toNat
  · rw [if_pos e, ← e]
    have := hD j hj
    omega
  · rw [if_neg e]
    exact Int.le_refl _
theorem swD_nn {K A : Nat → Int} {m : Int} {D : Nat → Int} (hD : ∀ j, j < 12 → 0 ≤ D j) : ∀ t j, j < 12 → 0 ≤ swD K A m D t j
  | 0, j, hj => hD j hj
  | t + 1, j, hj => by
    have ih := swD_nn (K := K) (A := A) (m := m) hD t j hj
    unfold swD
    by_cases h : band (bshr m t) 1 = 1
    · rw [if_pos h]
      unfold up
      by_cases e : j = (A t).toNat
      · rw [if_pos e, ← e]
        omega
      · rw [if_neg e]
        exact ih
    · rw [if_neg h]
      exact ih
theorem leD_tr {D D2 D3 : Nat → Int} (h1 : leD D D2) (h2 : leD D2 D3) : leD D D3 := fun j hj => Int.le_trans (h1 j hj) (h2 j hj)
theorem swD_mono {K A : Nat → Int} {m m2 : Int} {D D2 : Nat → Int} {N : Nat} (hb : ∀ t : Nat, t < N → band (bshr m2 t) 1 = 1 → band (bshr m t) 1 = 1) (hD : ∀ j, j < 12 → 0 ≤ D j) (h : leD D D2) : ∀ t, t ≤ N → leD (swD K A m D t) (swD K A m2 D2 t)
  | 0, _ => h
  | t + 1, ht => by
    have ih := swD_mono (K := K) (A := A) hb hD h t (by omega)
    unfold swD
    by_cases h2 : band (bshr m2 t) 1 = 1
    · rw [if_pos h2, if_pos (hb t (by omega) h2)]
      exact sw_mono ih
    · rw [if_neg h2]
      by_cases h1 : band (bshr m t) 1 = 1
      · rw [if_pos h1]
        exact leD_tr (sw_less (swD_nn hD t)) ih
      · rw [if_neg h1]
        exact ih
theorem dstN_mono {n fl fl2 w : Int} {K A : Nat → Int} {m m2 : Int} {D : Nat → Int} (hn : 0 ≤ n ∧ n ≤ 8) (hf : 0 ≤ fl ∧ fl ≤ 99) (hff : fl ≤ fl2) (hA : rgA A) (hD : rgD D) (hb : ∀ t : Nat, t < n.toNat → band (bshr m2 t) 1 = 1 → band (bshr m t) 1 = 1) : ∀ k, leD (dstN n fl w K A m k D) (dstN n fl2 w K A m2 k D)
  | 0 => fun _ _ => Int.le_refl _
  | k + 1 => by
    have ih := dstN_mono (w := w) (K := K) hn hf hff hA hD hb k
    have hr := dyD_rng (w := w) hf (dstN_rng (w := w) (K := K) (m := m) hn hf hA hD k)
    exact swD_mono hb (fun j hj => (hr j hj).1) (dyD_mono hff ih) n.toNat (Nat.le_refl _)
theorem sumF_mono {f h : Nat → Int} : ∀ n, (∀ j, j < n → f j ≤ h j) → sumF f n ≤ sumF h n
  | 0, _ => Int.le_refl _
  | n + 1, q => by
    have ih := sumF_mono n (fun j hj => q j (by omega))
    have h1 := q n (by omega)
    unfold sumF
    omega
theorem vFall_mono {n fl w : Int} {K A D : Nat → Int} {d : Nat} {a b : Int} (hn : 0 ≤ n ∧ n ≤ 8) (hA : rgA A) (hD : rgD D) (ha : 0 ≤ a ∧ a ≤ 99) (hab : a ≤ b) : vFall n fl w K A D d a ≤ vFall n fl w K A D d b := sumF_mono 12 (dstN_mono (m := 255) (m2 := 255) hn ha hab hA hD (fun _ _ q => q) d)
theorem vSet_min {n fl w : Int} {K A D : Nat → Int} {d : Nat} {m m2 : Int} (hn : 0 ≤ n ∧ n ≤ 8) (hf : 0 ≤ fl ∧ fl ≤ 99) (hA : rgA A) (hD : rgD D) (hb : ∀ t : Nat, t < n.toNat → band (bshr m2 t) 1 = 1 → band (bshr m t) 1 = 1) : vSet n fl w K A D d m ≤ vSet n fl w K A D d m2 := sumF_mono 12 (dstN_mono hn hf (Int.le_refl _) hA hD hb d)
theorem all_bits {n : Int} (hn : 0 ≤ n ∧ n ≤ 8) {t : Nat} (ht : t < n.toNat) : band (bshr (bshl 1 n - 1) (t : Int)) 1 = 1 := by
  have h1 : ∀ n, n < 9 → ∀ t, t < n → band (bshr (bshl 1 ((n : Nat) : Int) - 1) ((t : Nat) : Int)) 1 = 1 := by decide +kernel
  have h2 := h1 n.toNat (by omega) t ht
  rw [show ((n.toNat : Nat) : Int) = n by omega] at h2
  exact h2
theorem firstF_at {P : Nat → Bool} {a : Nat} : ∀ f i, i ≤ a → a < i + f → (∀ j, i ≤ j → j < a → ¬ P j = true) → P a = true → firstF P f i = (a : Int)
  | 0, i, h1, h2, _, _ => by omega
  | f + 1, i, h1, h2, h3, h4 => by
    unfold firstF
    by_cases e : i = a
    · subst e
      rw [if_pos h4]
    · rw [if_neg (h3 i (Nat.le_refl _) (by omega))]
      exact firstF_at f (i + 1) (by omega) (by omega) (fun j q1 q2 => h3 j (by omega) q2) h4
theorem firstF_no {P : Nat → Bool} : ∀ f i, (∀ j, i ≤ j → j < i + f → ¬ P j = true) → firstF P f i = -1
  | 0, _, _ => rfl
  | f + 1, i, h => by
    unfold firstF
    rw [if_neg (h i (Nat.le_refl _) (by omega))]
    exact firstF_no f (i + 1) (fun j q1 q2 => h j (by omega) (by omega))
theorem fbF_inv (V : Int → Int) (v : Int) : ∀ j, j ≤ 7 → (fbF V v j = -1 ∨ (0 ≤ fbF V v j ∧ fbF V v j ≤ 99 ∧ V (fbF V v j) < v)) ∧ (99 < fbF V v j + (if j = 0 then 128 else stp (j - 1)) ∨ v ≤ V (fbF V v j + (if j = 0 then 128 else stp (j - 1))))
  | 0, _ => by
    refine ⟨Or.inl rfl, Or.inl ?_⟩
    show 99 < (-1 : Int) + (if 0 = 0 then 128 else stp (0 - 1))
    decide
  | j + 1, h => by
    have ih := fbF_inv V v j (by omega)
    have hs : (if j = 0 then 128 else stp (j - 1)) = 2 * stp j ∧ 0 < stp j := by
      rcases (show j = 0 ∨ j = 1 ∨ j = 2 ∨ j = 3 ∨ j = 4 ∨ j = 5 ∨ j = 6 by omega) with rfl | rfl | rfl | rfl | rfl | rfl | rfl <;> decide
    rw [hs.1] at ih
    rw [if_neg (Nat.succ_ne_zero j), Nat.add_sub_cancel]
    obtain ⟨h1, h2⟩ := ih
    rw [fbF]
    by_cases q : fbF V v j + stp j ≤ 99 ∧ V (fbF V v j + stp j) < v
    · rw [if_pos q]
      refine ⟨Or.inr ⟨by omega, q.1, q.2⟩, ?_⟩
      rw [show fbF V v j + stp j + stp j = fbF V v j + 2 * stp j by omega]
      exact h2
    · rw [if_neg q]
      refine ⟨h1, ?_⟩
      by_cases e : fbF V v j + stp j ≤ 99
      · exact Or.inr (Int.not_lt.mp (fun w => q ⟨e, w⟩))
      · exact Or.inl (by omega)
theorem fallFor_is {V : Int → Int} {v : Int} (hm : ∀ a b : Int, 0 ≤ a → a ≤ b → b ≤ 99 → V a ≤ V b) : firstF (fun i => decide (v ≤ V (i : Int))) 100 0 = if fbF V v 7 = 99 then -1 else fbF V v 7 + 1 := by
  obtain ⟨h1, h2⟩ := fbF_inv V v 7 (by omega)
  have hr := fbF_rng V v 7 (by omega)
  have e1 : (if (7 : Nat) = 0 then (128 : Int) else stp (7 - 1)) = 1 := by decide
  rw [e1] at h2
  by_cases q : fbF V v 7 = 99
  · rw [if_pos q]
    refine firstF_no 100 0 (fun j _ hj => ?_)
    have h3 := hm (j : Int) 99 (by omega) (by omega) (by omega)
    rw [q] at h1
    intro w
    have w2 := of_decide_eq_true w
    omega
  · rw [if_neg q]
    have e : ((fbF V v 7 + 1).toNat : Int) = fbF V v 7 + 1 := by omega
    rw [← e]
    refine firstF_at 100 0 (by omega) (by omega) (fun j _ hj w => ?_) ?_
    · have w2 := of_decide_eq_true w
      rcases h1 with h1 | h1
      · omega
      · have h3 := hm (j : Int) (fbF V v 7) (by omega) (by omega) h1.2.1
        omega
    · refine decide_eq_true ?_
      rw [e]
      omega
