/-! ===== what the two sides reckon, in Ints ===== -/
/-- a row whose first i places are F, the others as they were -/
def mapTo (F D : Nat → Int) (i : Nat) : Nat → Int := fun j => if j < i then F j else D j
theorem mapTo_0 (F D : Nat → Int) : mapTo F D 0 = D := by
  funext j
  simp [mapTo]
theorem mapTo_s (F D : Nat → Int) (i : Nat) : up (mapTo F D i) i (F i) = mapTo F D (i + 1) := by
  funext j
  unfold up mapTo
  by_cases h : j = i
  · subst h
    rw [if_pos rfl, if_pos (by omega)]
  · rw [if_neg h]
    by_cases h2 : j < i
    · rw [if_pos h2, if_pos (by omega)]
    · rw [if_neg h2, if_neg (by omega)]
theorem mapTo_at (F D : Nat → Int) (i : Nat) : mapTo F D i i = D i := by simp [mapTo]
theorem mapTo_lt {F D : Nat → Int} {i j : Nat} (h : j < i) : mapTo F D i j = F j := by simp [mapTo, h]
theorem mapTo_ge {F D : Nat → Int} {i j : Nat} (h : i ≤ j) : mapTo F D i j = D j := by simp [mapTo, show ¬ j < i by omega]
/-- who holds a surface: the best, and the greatest mark, among the first t -/
def hold (M : Nat → Int) (f : Nat) : Nat → Int × Int
  | 0 => (-1, 0)
  | t + 1 => if (hold M f t).2 < M (12 * t + f) then ((t : Int), M (12 * t + f)) else hold M f t
def holder (n : Int) (M : Nat → Int) (f : Nat) : Int := (hold M f n.toNat).1
theorem hold_rng (M : Nat → Int) (f : Nat) : ∀ t : Nat, -1 ≤ (hold M f t).1 ∧ (hold M f t).1 < t
  | 0 => by simp [hold]
  | t + 1 => by
    have ih := hold_rng M f t
    unfold hold
    split
    · constructor
      · show -1 ≤ (t : Int)
        omega
      · show (t : Int) < ((t + 1 : Nat) : Int)
        omega
    · omega
theorem hold_most {M : Nat → Int} {f : Nat} (hM : ∀ j, j < 96 → 0 ≤ M j ∧ M j ≤ 99) (hf : f < 12) : ∀ t : Nat, t ≤ 8 → 0 ≤ (hold M f t).2 ∧ (hold M f t).2 ≤ 99
  | 0, _ => by simp [hold]
  | t + 1, h => by
    have ih := hold_most hM hf t (by omega)
    have hb := hM (12 * t + f) (by omega)
    unfold hold
    split
    · exact hb
    · exact ih
theorem holder_rng (n : Int) (M : Nat → Int) (f : Nat) (h : 0 ≤ n) : -1 ≤ holder n M f ∧ holder n M f < n := by
  have h1 := hold_rng M f n.toNat
  unfold holder
  omega
def gmark (n : Int) (M : Nat → Int) (f : Nat) : Int := if holder n M f = -1 then 0 else M (12 * (holder n M f).toNat + f)
/-- a set, told as bits -/
def setF (P : Nat → Bool) : Nat → Int
  | 0 => 0
  | t + 1 => if P t = true then bor (setF P t) (bshl 1 t) else setF P t
theorem setF_rng (P : Nat → Bool) : ∀ t, rng (setF P t)
  | 0 => rng0
  | t + 1 => by
    unfold setF
    split
    · exact bor_rng _ _
    · exact setF_rng P t
def sumF (f : Nat → Int) : Nat → Int
  | 0 => 0
  | k + 1 => sumF f k + f k
theorem sumF_rng {f : Nat → Int} {m : Int} : ∀ (k : Nat), (∀ j, j < k → 0 ≤ f j ∧ f j ≤ m) → 0 ≤ sumF f k ∧ sumF f k ≤ m * k
  | 0, _ => by simp [sumF]
  | k + 1, h => by
    have ih := sumF_rng k (fun j hj => h j (by omega))
    have h1 := h k (by omega)
    have e : m * ((k + 1 : Nat) : Int) = m * k + m := by
      rw [Int.natCast_add, Int.mul_add]
      simp
    unfold sumF
    omega
/-- who is richest among the first t -/
def richF (G : Nat → Int) : Nat → Int
  | 0 => -1
  | t + 1 => if richF G t = -1 ∨ G (richF G t).toNat < G t then (t : Int) else richF G t
theorem richF_rng (G : Nat → Int) : ∀ t : Nat, -1 ≤ richF G t ∧ richF G t < t
  | 0 => by simp [richF]
  | t + 1 => by
    have ih := richF_rng G t
    unfold richF
    split
    · omega
    · omega
def cntF (P : Nat → Int) : Nat → Int
  | 0 => 0
  | k + 1 => if P k = -1 then cntF P k else cntF P k + 1
theorem cntF_rng (P : Nat → Int) : ∀ k : Nat, 0 ≤ cntF P k ∧ cntF P k ≤ k
  | 0 => by simp [cntF]
  | k + 1 => by
    have ih := cntF_rng P k
    unfold cntF
    split <;> omega
/-- a tenant's marks on all surfaces -/
def leav (k d gd : Int) : Int := stab 0 k.toNat + (if (k = 3 ∨ k = 4) ∧ 100 ≤ d then 4 else 0) + (if k = 4 then gd / 1000 else 0)
theorem stab0_rng (j : Nat) : 0 ≤ stab 0 j ∧ stab 0 j ≤ 7 := by
  by_cases h : j < 7
  · rcases (show j = 0 ∨ j = 1 ∨ j = 2 ∨ j = 3 ∨ j = 4 ∨ j = 5 ∨ j = 6 by omega) with rfl | rfl | rfl | rfl | rfl | rfl | rfl <;> decide
  · have : stab 0 j = 0 := by
      unfold stab
      simp [List.getD, show 7 ≤ j by omega]
    omega
theorem stab1_rng (j : Nat) : 0 ≤ stab 1 j ∧ stab 1 j ≤ 20 := by
  by_cases h : j < 7
  · rcases (show j = 0 ∨ j = 1 ∨ j = 2 ∨ j = 3 ∨ j = 4 ∨ j = 5 ∨ j = 6 by omega) with rfl | rfl | rfl | rfl | rfl | rfl | rfl <;> decide
  · have : stab 1 j = 0 := by
      unfold stab
      simp [List.getD, show 7 ≤ j by omega]
    omega
theorem leav_rng {k d gd : Int} (h : 0 ≤ gd ∧ gd ≤ 99999) : 0 ≤ leav k d gd ∧ leav k d gd ≤ 110 := by
  have h1 := stab0_rng k.toNat
  unfold leav
  split <;> split <;> omega
/-- where dust comes from by the draught -/
def shf (w : Int) (j : Nat) : Nat := (((j : Int) - w) % 12).toNat
def md (x : Int) : Nat := (x % 12).toNat
def blF (w : Int) (D B : Nat → Int) : Nat → (Nat → Int)
  | 0 => B
  | i + 1 => up (blF w D B i) (md ((i : Int) + w)) (D i / 10)
def blD (w : Int) (D : Nat → Int) : Nat → Int := fun j => D j - D j / 10 + D (shf w j) / 10
set_option maxRecDepth 4000 in
theorem blF_is (w : Int) (D B : Nat → Int) (h : -3 ≤ w ∧ w ≤ 3) (j : Nat) (hj : j < 12) : blF w D B 12 j = D (shf w j) / 10 := by
  rcases (show w = -3 ∨ w = -2 ∨ w = -1 ∨ w = 0 ∨ w = 1 ∨ w = 2 ∨ w = 3 by omega) with rfl | rfl | rfl | rfl | rfl | rfl | rfl <;>
  rcases (show j = 0 ∨ j = 1 ∨ j = 2 ∨ j = 3 ∨ j = 4 ∨ j = 5 ∨ j = 6 ∨ j = 7 ∨ j = 8 ∨ j = 9 ∨ j = 10 ∨ j = 11 by omega) with rfl | rfl | rfl | rfl | rfl | rfl | rfl | rfl | rfl | rfl | rfl | rfl <;> rfl
/-- a tenant sweeps -/
def gn (a b : Int) : Int := min (a + b) 99999
def sw1 (K A : Nat → Int) (t : Nat) (q : (Nat → Int) × (Nat → Int)) : (Nat → Int) × (Nat → Int) :=
  (up q.1 (A t).toNat (q.1 (A t).toNat - min (stab 1 (K t).toNat) (q.1 (A t).toNat)),
   if K t = 4 then up q.2 t (gn (q.2 t) (min (stab 1 (K t).toNat) (q.1 (A t).toNat))) else if K t = 3 then up q.2 t (gn (q.2 t) (min (stab 1 (K t).toNat) (q.1 (A t).toNat) / 2)) else q.2)
def bit (m : Int) (t : Nat) : Prop := band (bshr m t) 1 = 1
def swF (K A : Nat → Int) (m : Int) (q : (Nat → Int) × (Nat → Int)) : Nat → (Nat → Int) × (Nat → Int)
  | 0 => q
  | t + 1 => if band (bshr m t) 1 = 1 then sw1 K A t (swF K A m q t) else swF K A m q t
/-- ranges -/
def rgD (D : Nat → Int) : Prop := ∀ j, j < 12 → 0 ≤ D j ∧ D j ≤ 9999
def rgG (G : Nat → Int) : Prop := ∀ j, j < 8 → 0 ≤ G j ∧ G j ≤ 99999
def rgK (K : Nat → Int) : Prop := ∀ j, j < 8 → 0 ≤ K j ∧ K j ≤ 6
def rgA (A : Nat → Int) : Prop := ∀ j, j < 8 → 0 ≤ A j ∧ A j ≤ 11
def rgM (M : Nat → Int) : Prop := ∀ j, j < 96 → 0 ≤ M j ∧ M j ≤ 99
theorem rgD_up {D : Nat → Int} {k : Nat} {x : Int} (h : rgD D) (hx : 0 ≤ x ∧ x ≤ 9999) : rgD (up D k x) := by
  intro j hj
  unfold up
  split
  · exact hx
  · exact h j hj
theorem rgG_up {D : Nat → Int} {k : Nat} {x : Int} (h : rgG D) (hx : 0 ≤ x ∧ x ≤ 99999) : rgG (up D k x) := by
  intro j hj
  unfold up
  split
  · exact hx
  · exact h j hj
theorem rgM_up {D : Nat → Int} {k : Nat} {x : Int} (h : rgM D) (hx : 0 ≤ x ∧ x ≤ 99) : rgM (up D k x) := by
  intro j hj
  unfold up
  split
  · exact hx
  · exact h j hj
theorem gn_rng {a b : Int} (ha : 0 ≤ a ∧ a ≤ 99999) (hb : 0 ≤ b ∧ b ≤ 99999) : 0 ≤ gn a b ∧ gn a b ≤ 99999 := by
  unfold gn
  omega
theorem sw1_rng {K A : Nat → Int} {t : Nat} {q : (Nat → Int) × (Nat → Int)} (hA : rgA A) (ht : t < 8) (hD : rgD q.1) (hG : rgG q.2) : rgD (sw1 K A t q).1 ∧ rgG (sw1 K A t q).2 := by
  have h1 := stab1_rng (K t).toNat
  have hAt := hA t ht
  have h2 := hD (A t).toNat (by omega)
  have h3 := hG t ht
  have hm : 0 ≤ min (stab 1 (K t).toNat) (q.1 (A t).toNat) ∧ min (stab 1 (K t).toNat) (q.1 (A t).toNat) ≤ 20 := by omega
  unfold sw1
  refine ⟨rgD_up hD (by omega), ?_⟩
  show rgG (if K t = 4 then _ else _)
  split
  · exact rgG_up hG (gn_rng h3 (by omega))
  · split
    · exact rgG_up hG (gn_rng h3 (by omega))
    · exact hG
theorem swF_rng {K A : Nat → Int} {m : Int} {q : (Nat → Int) × (Nat → Int)} (hA : rgA A) (hD : rgD q.1) (hG : rgG q.2) : ∀ t, t ≤ 8 → rgD (swF K A m q t).1 ∧ rgG (swF K A m q t).2
  | 0, _ => ⟨hD, hG⟩
  | t + 1, h => by
    have ih := swF_rng (K := K) (m := m) hA hD hG t (by omega)
    unfold swF
    split
    · exact sw1_rng hA (by omega) ih.1 ih.2
    · exact ih
/-- marks: a tenant's own grows, the others' on its surface are 1 less -/
def mk1 (t f o : Nat) (l x : Int) : Int := if o = t then min 99 (x + l) else if 0 < x then x - 1 else x
def mkI (t f : Nat) (l : Int) (M : Nat → Int) : Nat → (Nat → Int)
  | 0 => M
  | o + 1 => up (mkI t f l M o) (12 * o + f) (mk1 t f o l (mkI t f l M o (12 * o + f)))
def mkT (n : Nat) (K A D G : Nat → Int) (M : Nat → Int) : Nat → (Nat → Int)
  | 0 => M
  | t + 1 => mkI t (A t).toNat (leav (K t) (D (A t).toNat) (G t)) (mkT n K A D G M t) n
theorem mk1_rng {t f o : Nat} {l x : Int} (hl : 0 ≤ l) (h : 0 ≤ x ∧ x ≤ 99) : 0 ≤ mk1 t f o l x ∧ mk1 t f o l x ≤ 99 := by
  unfold mk1
  split
  · omega
  · split <;> omega
theorem mkI_rng {t f : Nat} {l : Int} {M : Nat → Int} (hl : 0 ≤ l) (hf : f < 12) (h : rgM M) : ∀ o, o ≤ 8 → rgM (mkI t f l M o)
  | 0, _ => h
  | o + 1, ho => by
    have ih := mkI_rng (t := t) hl hf h o (by omega)
    unfold mkI
    exact rgM_up ih (mk1_rng hl (ih _ (by omega)))
theorem mkT_rng {n : Nat} {K A D G M : Nat → Int} (hn : n ≤ 8) (hA : rgA A) (hG : rgG G) (h : rgM M) : ∀ t, t ≤ 8 → rgM (mkT n K A D G M t)
  | 0, _ => h
  | t + 1, ht => by
    have ih := mkT_rng (K := K) (D := D) hn hA hG h t (by omega)
    have hAt := hA t (by omega)
    unfold mkT
    exact mkI_rng (leav_rng (hG t (by omega))).1 (by omega) ih n hn
/-- rents -/
def rnF (n : Int) (M D : Nat → Int) (G : Nat → Int) : Nat → (Nat → Int)
  | 0 => G
  | f + 1 => if holder n M f = -1 then rnF n M D G f else up (rnF n M D G f) (holder n M f).toNat (gn (rnF n M D G f (holder n M f).toNat) (D f / 20))
theorem rnF_rng {n : Int} {M D G : Nat → Int} (hn : 0 ≤ n ∧ n ≤ 8) (hD : rgD D) (h : rgG G) : ∀ f, f ≤ 12 → rgG (rnF n M D G f)
  | 0, _ => h
  | f + 1, hf => by
    have ih := rnF_rng (M := M) hn hD h f (by omega)
    have hd := hD f (by omega)
    have hh := holder_rng n M f hn.1
    unfold rnF
    split
    · exact ih
    · exact rgG_up ih (gn_rng (ih _ (by omega)) (by omega))
/-- a day's dust, before any sweeps -/
def flD (fl : Int) (D : Nat → Int) : Nat → Int := mapTo (fun j => min 9999 (D j + fl)) D 12
def dyD (w fl : Int) (D : Nat → Int) : Nat → Int := flD fl (mapTo (blD w D) D 12)
theorem shf_lt (w : Int) (j : Nat) : shf w j < 12 := by
  unfold shf
  omega
theorem md_lt (x : Int) : md x < 12 := by
  unfold md
  omega
theorem blD_rng {w : Int} {D : Nat → Int} (h : rgD D) : rgD (mapTo (blD w D) D 12) := by
  intro j hj
  rw [mapTo_lt hj]
  have h1 := h j hj
  have h2 := h (shf w j) (shf_lt w j)
  unfold blD
  omega
theorem flD_rng {fl : Int} {D : Nat → Int} (hf : 0 ≤ fl ∧ fl ≤ 99) (h : rgD D) : rgD (flD fl D) := by
  intro j hj
  unfold flD
  rw [mapTo_lt hj]
  have h1 := h j hj
  omega
theorem dyD_rng {w fl : Int} {D : Nat → Int} (hf : 0 ≤ fl ∧ fl ≤ 99) (h : rgD D) : rgD (dyD w fl D) := flD_rng hf (blD_rng h)
