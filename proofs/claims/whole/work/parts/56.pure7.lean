theorem tld_cong {N N2 : Nat → Int} {len : Int} {G : Nat → Int} (h : ∀ j, j < 40 → N j = N2 j) (hl : len ≤ 40) : ∀ f i, tld N len G f i = tld N2 len G f i
  | 0, _ => rfl
  | f + 1, i => by
    have ih := tld_cong (G := G) h hl f (i + 1)
    rw [tld, tld]
    by_cases q : (i : Int) < len
    · rw [if_pos q, if_pos q, h i (by omega), ih]
    · rw [if_neg q, if_neg q]
theorem ldc_cong {N N2 : Nat → Int} {len : Int} (h : ∀ j, j < 40 → N j = N2 j) : ∀ f i, ldc N len f i = ldc N2 len f i
  | 0, _ => rfl
  | f + 1, i => by
    have ih := ldc_cong (len := len) h f (i + 1)
    rw [ldc, ldc, ih]
    by_cases q : i < 12
    · rw [h i (by omega)]
    · rw [if_neg (fun w => q w.2.1), if_neg (fun w => q w.2.1)]
theorem ldc_le (N : Nat → Int) (len : Int) : ∀ f i, i ≤ 12 → ldc N len f i ≤ 12
  | 0, i, h => h
  | f + 1, i, h => by
    rw [ldc]
    split
    · rename_i q
      exact ldc_le N len f (i + 1) (by omega)
    · exact h
theorem jdc_cong {N N2 : Nat → Int} {len n : Int} {M : Nat → Int} (h : ∀ j, j < 40 → N j = N2 j) (hl : len ≤ 40) : ∀ f i, jdc N len n M f i = jdc N2 len n M f i
  | 0, _ => rfl
  | f + 1, i => by
    have ih := jdc_cong (n := n) (M := M) h hl f (i + 1)
    rw [jdc, jdc]
    by_cases q : (i : Int) < len
    · rw [if_pos q, if_pos q, h i (by omega), ih]
    · rw [if_neg q, if_neg q]
theorem mapTo_cong {F F2 D : Nat → Int} {k : Nat} (h : ∀ j, j < k → F j = F2 j) : mapTo F D k = mapTo F2 D k := by
  funext j
  unfold mapTo
  by_cases q : j < k
  · rw [if_pos q, if_pos q, h j q]
  · rw [if_neg q, if_neg q]
theorem tlG_cong {n fl w : Int} {K A : Nat → Int} {q : T3} {t : Nat} {N N2 : Nat → Int} {len : Int} (h : ∀ j, j < 40 → N j = N2 j) (hl : len ≤ 40) : tlG n fl w K A q t N len = tlG n fl w K A q t N2 len := tld_cong h hl 41 0
