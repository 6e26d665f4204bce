theorem cidx_ne2 (i : Nat) : (cidx i).1 ≠ 2 := by
  unfold cidx
  repeat' split
  all_goals (first | omega | (show _ ≠ 2; omega))
theorem mkS_cong2 {ρ τ : Sg} (h : ∀ k, k < 8 → k ≠ 2 → ρ k = τ k) : mkS ρ = mkS τ := by
  funext i
  unfold mkS
  rw [h _ (cidx_lt i) (cidx_ne2 i)]
def thF (w : Int) (D T : Nat → Int) : Nat → (Nat → Int)
  | 0 => T
  | i + 1 => up (thF w D T i) (md ((i : Int) + w)) (thF w D T i (md ((i : Int) + w)) + D i / 10)
set_option maxRecDepth 4000 in
theorem thF_is (w : Int) (D T : Nat → Int) (h : -3 ≤ w ∧ w ≤ 3) (j : Nat) (hj : j < 12) : thF w D (mapTo (fun q => D q - D q / 10) T 12) 12 j = blD w D j := by
  rcases (show w = -3 ∨ w = -2 ∨ w = -1 ∨ w = 0 ∨ w = 1 ∨ w = 2 ∨ w = 3 by omega) with rfl | rfl | rfl | rfl | rfl | rfl | rfl <;>
  rcases (show j = 0 ∨ j = 1 ∨ j = 2 ∨ j = 3 ∨ j = 4 ∨ j = 5 ∨ j = 6 ∨ j = 7 ∨ j = 8 ∨ j = 9 ∨ j = 10 ∨ j = 11 by omega) with rfl | rfl | rfl | rfl | rfl | rfl | rfl | rfl | rfl | rfl | rfl | rfl <;> rfl
theorem dyD_mod {w fl : Int} {D : Nat → Int} (hD : rgD D) : mapTo (fun j => min (min (blD w D j) 9999 + fl) 9999) D 12 = dyD w fl D := by
  funext j
  unfold dyD flD
  by_cases h : j < 12
  · rw [mapTo_lt h, mapTo_lt h]
    have h1 := blD_rng (w := w) hD j h
    rw [mapTo_lt h] at h1
    show min (min (blD w D j) 9999 + fl) 9999 = _
    first
      | rfl
      | omega
      | (rw [mapTo_lt h]; omega)
  · rw [mapTo_ge (by omega), mapTo_ge (by omega), mapTo_ge (by omega)]
/-- marks, as the model goes about them -/
def mmI (t f : Nat) (l : Int) (M : Nat → Int) : Nat → (Nat → Int)
  | 0 => up M (12 * t + f) (min (M (12 * t + f) + l) 99)
  | o + 1 => up (mmI t f l M o) (12 * o + f) (mmI t f l M o (12 * o + f) - (if o ≠ t ∧ 0 < mmI t f l M o (12 * o + f) then 1 else 0))
theorem mkI_cl {t f : Nat} {l : Int} {M : Nat → Int} (hf : f < 12) : ∀ (c j : Nat), mkI t f l M c j = if j % 12 = f ∧ j / 12 < c then mk1 t f (j / 12) l (M j) else M j
  | 0, j => by
    rw [if_neg (by omega)]
    rfl
  | c + 1, j => by
    have ih := mkI_cl (t := t) (l := l) (M := M) hf c
    show up (mkI t f l M c) (12 * c + f) (mk1 t f c l (mkI t f l M c (12 * c + f))) j = _
    unfold up
    by_cases h : j = 12 * c + f
    · subst h
      rw [if_pos rfl, if_pos (by omega), ih, if_neg (by omega), show (12 * c + f) / 12 = c by omega]
    · rw [if_neg h, ih]
      by_cases h2 : j % 12 = f ∧ j / 12 < c
      · rw [if_pos h2, if_pos (by omega)]
      · rw [if_neg h2, if_neg (by omega)]
theorem mmI_cl {t f : Nat} {l : Int} {M : Nat → Int} (hf : f < 12) : ∀ (c j : Nat), mmI t f l M c j = if j = 12 * t + f then min (M j + l) 99 else if j % 12 = f ∧ j / 12 < c then (if 0 < M j then M j - 1 else M j) else M j
  | 0, j => by
    show up M (12 * t + f) (min (M (12 * t + f) + l) 99) j = _
    unfold up
    by_cases h : j = 12 * t + f
    · rw [if_pos h, if_pos h, h]
    · rw [if_neg h, if_neg h, if_neg (by omega)]
  | c + 1, j => by
    have ih := mmI_cl (t := t) (l := l) (M := M) hf c
    show up (mmI t f l M c) (12 * c + f) (mmI t f l M c (12 * c + f) - (if c ≠ t ∧ 0 < mmI t f l M c (12 * c + f) then 1 else 0)) j = _
    unfold up
    by_cases h : j = 12 * c + f
    · have e := ih (12 * c + f)
      rw [if_pos h, h]
      by_cases ht : c = t
      · rw [if_pos (show 12 * c + f = 12 * t + f by omega)] at e
        rw [if_pos (show 12 * c + f = 12 * t + f by omega), e, if_neg (show ¬ (c ≠ t ∧ _) from fun q => q.1 ht)]
        exact Int.sub_zero _
      · rw [if_neg (show ¬ 12 * c + f = 12 * t + f by omega), if_neg (show ¬ ((12 * c + f) % 12 = f ∧ (12 * c + f) / 12 < c) by omega)] at e
        rw [if_neg (show ¬ 12 * c + f = 12 * t + f by omega), if_pos (show (12 * c + f) % 12 = f ∧ (12 * c + f) / 12 < c + 1 by omega), e]
        by_cases h0 : 0 < M (12 * c + f)
        · rw [if_pos (show c ≠ t ∧ 0 < M (12 * c + f) from ⟨ht, h0⟩), if_pos h0]
        · rw [if_neg (show ¬ (c ≠ t ∧ 0 < M (12 * c + f)) from fun q => h0 q.2), if_neg h0]
          exact Int.sub_zero _
    · rw [if_neg h, ih]
      by_cases h3 : j = 12 * t + f
      · rw [if_pos h3, if_pos h3]
      · rw [if_neg h3, if_neg h3]
        by_cases h2 : j % 12 = f ∧ j / 12 < c
        · rw [if_pos h2, if_pos (show j % 12 = f ∧ j / 12 < c + 1 by omega)]
        · rw [if_neg h2, if_neg (show ¬ (j % 12 = f ∧ j / 12 < c + 1) by omega)]
theorem mmI_is {t f n : Nat} {l : Int} {M : Nat → Int} (hf : f < 12) (ht : t < n) : mmI t f l M n = mkI t f l M n := by
  funext j
  rw [mkI_cl hf, mmI_cl hf]
  by_cases h : j = 12 * t + f
  · have e : j / 12 = t := by omega
    rw [if_pos h, if_pos (show j % 12 = f ∧ j / 12 < n by omega), e]
    unfold mk1
    rw [if_pos rfl]
    first
      | rfl
      | exact Int.min_comm _ _
      | omega
  · rw [if_neg h]
    by_cases h2 : j % 12 = f ∧ j / 12 < n
    · rw [if_pos h2, if_pos h2]
      unfold mk1
      rw [if_neg (show ¬ j / 12 = t by omega)]
    · rw [if_neg h2, if_neg h2]
theorem mmI_rng {t f : Nat} {l : Int} {M : Nat → Int} (hf : f < 12) (hl : 0 ≤ l) (h : rgM M) : ∀ c, rgM (mmI t f l M c) := by
  intro c j hj
  rw [mmI_cl hf]
  have hm := h j hj
  split
  · omega
  · split
    · split <;> omega
    · exact hm
theorem gn_0 {a : Int} (h : a ≤ 99999) : gn a 0 = a := by
  unfold gn
  omega
/-- the model's day: all on the row; day one more -/
def dyM (m : Int) (ρ : Sg) : Sg := wr (prS_0 (lmS_0 (setS_0 m ρ))) 0 10 (ρ 0 10 + 1)
def dsM (m : Int) : Nat → Sg → Sg
  | 0, ρ => ρ
  | k + 1, ρ => dyM m (dsM m k ρ)
/-- what the model's row must keep -/
def RM_ (ρ : Sg) : Prop := (0 ≤ ρ 0 7 ∧ ρ 0 7 ≤ 8) ∧ (0 ≤ ρ 0 8 ∧ ρ 0 8 ≤ 99) ∧ (-3 ≤ ρ 0 9 ∧ ρ 0 9 ≤ 3) ∧ rgD (ρ 1) ∧ rgK (ρ 3) ∧ rgA (ρ 4) ∧ rgG (ρ 5) ∧ rgM (ρ 6)
theorem RM_of {ρ : Sg} (h : RW ρ 0) : RM_ ρ := by
  obtain ⟨h1, h2, h3, h4, h5, h6, h7, h8, h9, h10, h11⟩ := h
  exact ⟨h1, h2, h3, h6, h7, h8, h9, h10⟩
theorem dyM_RM {m : Int} {ρ : Sg} (h : RM_ ρ) : RM_ (dyM m ρ) := by
  obtain ⟨hn, hfl, hw, hD, hK, hA, hG, hM⟩ := h
  have h1 := setS_rng_0 (m := m) (σ := ρ) hn hfl hD hA hG
  have h2 := lmS_rng_0 (σ := setS_0 m ρ) hn hA h1.2 hM
  have h3 := prS_rng_0 (σ := lmS_0 (setS_0 m ρ)) hn h1.1 h1.2
  exact ⟨hn, hfl, hw, h1.1, hK, hA, h3, h2⟩
theorem dsM_RM {m : Int} {ρ : Sg} (h : RM_ ρ) : ∀ k, RM_ (dsM m k ρ)
  | 0 => h
  | k + 1 => dyM_RM (dsM_RM h k)
theorem dyM_is (m : Int) (ρ : Sg) : ((dyM m ρ) 1, (dyM m ρ) 5, (dyM m ρ) 6) = dayC (ρ 0 7) (ρ 0 8) (ρ 0 9) (ρ 3) (ρ 4) m (ρ 1, ρ 5, ρ 6) := rfl
theorem dsM_K (m : Int) (ρ : Sg) : ∀ k, dsM m k ρ 3 = ρ 3 ∧ dsM m k ρ 4 = ρ 4 ∧ dsM m k ρ 0 7 = ρ 0 7 ∧ dsM m k ρ 0 8 = ρ 0 8 ∧ dsM m k ρ 0 9 = ρ 0 9
  | 0 => ⟨rfl, rfl, rfl, rfl, rfl⟩
  | k + 1 => by
    obtain ⟨h1, h2, h3, h4, h5⟩ := dsM_K m ρ k
    exact ⟨h1, h2, h3, h4, h5⟩
theorem dsM_is (m : Int) (ρ : Sg) : ∀ k, (dsM m k ρ 1, dsM m k ρ 5, dsM m k ρ 6) = daysC (ρ 0 7) (ρ 0 8) (ρ 0 9) (ρ 3) (ρ 4) m k (ρ 1, ρ 5, ρ 6)
  | 0 => rfl
  | k + 1 => by
    obtain ⟨h1, h2, h3, h4, h5⟩ := dsM_K m ρ k
    have h := dyM_is m (dsM m k ρ)
    rw [h1, h2, h3, h4, h5, dsM_is m ρ k] at h
    exact h
theorem dsM_D (m : Int) (ρ : Sg) (k : Nat) : dsM m k ρ 1 = dstN (ρ 0 7) (ρ 0 8) (ρ 0 9) (ρ 3) (ρ 4) m k (ρ 1) := by
  have h := congrArg Prod.fst (dsM_is m ρ k)
  rw [daysC_1] at h
  exact h
theorem dsM_G (m : Int) (ρ : Sg) (k : Nat) : dsM m k ρ 5 = (daysC (ρ 0 7) (ρ 0 8) (ρ 0 9) (ρ 3) (ρ 4) m k (ρ 1, ρ 5, ρ 6)).2.1 := by rw [← dsM_is]
theorem dsM_M (m : Int) (ρ : Sg) (k : Nat) : dsM m k ρ 6 = (daysC (ρ 0 7) (ρ 0 8) (ρ 0 9) (ρ 3) (ρ 4) m k (ρ 1, ρ 5, ρ 6)).2.2 := by rw [← dsM_is]
