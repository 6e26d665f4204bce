/-! ===== days, as dust, goods, marks ===== -/
abbrev T3 : Type := (Nat → Int) × (Nat → Int) × (Nat → Int)
def dayC (n fl w : Int) (K A : Nat → Int) (m : Int) (q : T3) : T3 :=
  ((swF K A m (dyD w fl q.1, q.2.1) n.toNat).1,
   rnF n (mkT n.toNat K A (swF K A m (dyD w fl q.1, q.2.1) n.toNat).1 (swF K A m (dyD w fl q.1, q.2.1) n.toNat).2 q.2.2 n.toNat) (swF K A m (dyD w fl q.1, q.2.1) n.toNat).1 (swF K A m (dyD w fl q.1, q.2.1) n.toNat).2 12,
   mkT n.toNat K A (swF K A m (dyD w fl q.1, q.2.1) n.toNat).1 (swF K A m (dyD w fl q.1, q.2.1) n.toNat).2 q.2.2 n.toNat)
def daysC (n fl w : Int) (K A : Nat → Int) (m : Int) : Nat → T3 → T3
  | 0, q => q
  | k + 1, q => dayC n fl w K A m (daysC n fl w K A m k q)
def swD (K A : Nat → Int) (m : Int) (D : Nat → Int) : Nat → (Nat → Int)
  | 0 => D
  | t + 1 => if band (bshr m t) 1 = 1 then up (swD K A m D t) (A t).toNat (swD K A m D t (A t).toNat - min (stab 1 (K t).toNat) (swD K A m D t (A t).toNat)) else swD K A m D t
theorem swF_1 (K A : Nat → Int) (m : Int) (D G : Nat → Int) : ∀ t, (swF K A m (D, G) t).1 = swD K A m D t
  | 0 => rfl
  | t + 1 => by
    have ih := swF_1 K A m D G t
    unfold swF swD
    by_cases h : band (bshr m t) 1 = 1
    · rw [if_pos h, if_pos h, ← ih]
      rfl
    · rw [if_neg h, if_neg h, ih]
/-- dust alone -/
def dstN (n fl w : Int) (K A : Nat → Int) (m : Int) : Nat → (Nat → Int) → (Nat → Int)
  | 0, D => D
  | k + 1, D => swD K A m (dyD w fl (dstN n fl w K A m k D)) n.toNat
theorem daysC_1 (n fl w : Int) (K A : Nat → Int) (m : Int) (q : T3) : ∀ k, (daysC n fl w K A m k q).1 = dstN n fl w K A m k q.1
  | 0 => rfl
  | k + 1 => by
    have ih := daysC_1 n fl w K A m q k
    show (swF K A m (dyD w fl (daysC n fl w K A m k q).1, (daysC n fl w K A m k q).2.1) n.toNat).1 = _
    rw [swF_1, ih]
    rfl
theorem dyS_8_is (σ : Sg) : ((dyS_8 σ) 9, (dyS_8 σ) 13, (dyS_8 σ) 14) = dayC (σ 8 7) (σ 8 8) (σ 8 9) (σ 11) (σ 12) 255 (σ 9, σ 13, σ 14) := rfl
theorem dyS_0_is (σ : Sg) : ((dyS_0 σ) 1, (dyS_0 σ) 5, (dyS_0 σ) 6) = dayC (σ 0 7) (σ 0 8) (σ 0 9) (σ 3) (σ 4) 255 (σ 1, σ 5, σ 6) := rfl
theorem tr_dy (σ : Sg) {k : Nat} (h : k < 8 ∨ 16 ≤ k) : dyS_8 σ k = σ k := by
  unfold dyS_8 prS_8 lmS_8 setS_8 wr us
  simp [show k ≠ 8 by omega, show k ≠ 9 by omega, show k ≠ 10 by omega, show k ≠ 13 by omega, show k ≠ 14 by omega]
theorem tr_ds (σ : Sg) {k : Nat} (h : k < 8 ∨ 16 ≤ k) : ∀ n, dsS_8 n σ k = σ k
  | 0 => rfl
  | n + 1 => by
    show dyS_8 (dsS_8 n σ) k = σ k
    rw [tr_dy _ h, tr_ds σ h n]
theorem tr_st (m : Int) (σ : Sg) {k : Nat} (h : k < 8 ∨ 16 ≤ k) : ∀ n, stS_8 m n σ k = σ k
  | 0 => rfl
  | n + 1 => by
    show setS_8 m (stS_8 m n σ) k = σ k
    rw [← tr_st m σ h n]
    unfold setS_8 us
    simp [show k ≠ 9 by omega, show k ≠ 10 by omega, show k ≠ 13 by omega]
theorem tr_bc (σ : Sg) {k : Nat} (h : k < 8 ∨ 16 ≤ k) : bc_8_0 σ k = σ k := by
  unfold bc_8_0 us
  simp [show k ≠ 8 by omega, show k ≠ 9 by omega, show k ≠ 11 by omega, show k ≠ 12 by omega, show k ≠ 13 by omega, show k ≠ 14 by omega, show k ≠ 15 by omega]
theorem tr_wr (σ : Sg) {k c j : Nat} {x : Int} (h : k < 8 ∨ 16 ≤ k) (hc : 8 ≤ c ∧ c < 16) : wr σ c j x k = σ k := wr_n σ j x (by omega)
theorem tr_fin {σ τ : Sg} (w : Nat) (h : ∀ k, (k < 8 ∨ 16 ≤ k) → τ k = σ k) : ∀ k, (k < 8 ∨ 16 ≤ k) → wr τ 39 w (τ 39 w + 1) k = fin w σ k := by
  intro k hk
  unfold fin
  by_cases h39 : k = 39
  · subst h39
    rw [wr_s, wr_s, h 39 (by omega)]
  · rw [wr_n _ _ _ h39, wr_n _ _ _ h39, h k hk]
theorem dsS_8_K (σ : Sg) : ∀ k, dsS_8 k σ 11 = σ 11 ∧ dsS_8 k σ 12 = σ 12 ∧ dsS_8 k σ 8 7 = σ 8 7 ∧ dsS_8 k σ 8 8 = σ 8 8 ∧ dsS_8 k σ 8 9 = σ 8 9
  | 0 => ⟨rfl, rfl, rfl, rfl, rfl⟩
  | k + 1 => by
    obtain ⟨h1, h2, h3, h4, h5⟩ := dsS_8_K σ k
    exact ⟨h1, h2, h3, h4, h5⟩
theorem dsS_8_is (σ : Sg) : ∀ k, (dsS_8 k σ 9, dsS_8 k σ 13, dsS_8 k σ 14) = daysC (σ 8 7) (σ 8 8) (σ 8 9) (σ 11) (σ 12) 255 k (σ 9, σ 13, σ 14)
  | 0 => rfl
  | k + 1 => by
    obtain ⟨h1, h2, h3, h4, h5⟩ := dsS_8_K σ k
    have h := dyS_8_is (dsS_8 k σ)
    rw [h1, h2, h3, h4, h5, dsS_8_is σ k] at h
    exact h
theorem dsS_8_G (σ : Sg) (k : Nat) : dsS_8 k σ 13 = (daysC (σ 8 7) (σ 8 8) (σ 8 9) (σ 11) (σ 12) 255 k (σ 9, σ 13, σ 14)).2.1 := by rw [← dsS_8_is]
theorem dsS_8_M (σ : Sg) (k : Nat) : dsS_8 k σ 14 = (daysC (σ 8 7) (σ 8 8) (σ 8 9) (σ 11) (σ 12) 255 k (σ 9, σ 13, σ 14)).2.2 := by rw [← dsS_8_is]
theorem dsS_0_K (σ : Sg) : ∀ k, dsS_0 k σ 3 = σ 3 ∧ dsS_0 k σ 4 = σ 4 ∧ dsS_0 k σ 0 7 = σ 0 7 ∧ dsS_0 k σ 0 8 = σ 0 8 ∧ dsS_0 k σ 0 9 = σ 0 9
  | 0 => ⟨rfl, rfl, rfl, rfl, rfl⟩
  | k + 1 => by
    obtain ⟨h1, h2, h3, h4, h5⟩ := dsS_0_K σ k
    exact ⟨h1, h2, h3, h4, h5⟩
theorem dsS_0_is (σ : Sg) : ∀ k, (dsS_0 k σ 1, dsS_0 k σ 5, dsS_0 k σ 6) = daysC (σ 0 7) (σ 0 8) (σ 0 9) (σ 3) (σ 4) 255 k (σ 1, σ 5, σ 6)
  | 0 => rfl
  | k + 1 => by
    obtain ⟨h1, h2, h3, h4, h5⟩ := dsS_0_K σ k
    have h := dyS_0_is (dsS_0 k σ)
    rw [h1, h2, h3, h4, h5, dsS_0_is σ k] at h
    exact h
theorem stS_8_K (m : Int) (σ : Sg) : ∀ k, stS_8 m k σ 11 = σ 11 ∧ stS_8 m k σ 12 = σ 12 ∧ stS_8 m k σ 8 = σ 8
  | 0 => ⟨rfl, rfl, rfl⟩
  | k + 1 => by
    obtain ⟨h1, h2, h3⟩ := stS_8_K m σ k
    exact ⟨h1, h2, h3⟩
theorem stS_8_D (m : Int) (σ : Sg) : ∀ k, stS_8 m k σ 9 = dstN (σ 8 7) (σ 8 8) (σ 8 9) (σ 11) (σ 12) m k (σ 9)
  | 0 => rfl
  | k + 1 => by
    obtain ⟨h1, h2, h3⟩ := stS_8_K m σ k
    have ih := stS_8_D m σ k
    have h : stS_8 m (k + 1) σ 9 = (swF (stS_8 m k σ 11) (stS_8 m k σ 12) m (dyD (stS_8 m k σ 8 9) (stS_8 m k σ 8 8) (stS_8 m k σ 9), stS_8 m k σ 13) (stS_8 m k σ 8 7).toNat).1 := rfl
    rw [h, swF_1, h1, h2, h3, ih]
    rfl
theorem bc_RW {σ : Sg} (h : RW σ 0) : RW (bc_8_0 σ) 8 := h
/-- the first i, from one on, of which P is true; -1: none -/
def firstF (P : Nat → Bool) : Nat → Nat → Int
  | 0, _ => -1
  | f + 1, i => if P i = true then (i : Int) else firstF P f (i + 1)
/-- the best of some: (which, how much) -/
def bst (V : Int → Int) (a : Int) : Nat → Int × Int
  | 0 => (a, -1)
  | i + 1 => if (bst V a i).2 < V (a + (i : Int)) then (a + (i : Int), V (a + (i : Int))) else bst V a i
/-- the same, one of them left out -/
def bstX (V : Int → Int) (t : Nat) : Nat → Int × Int
  | 0 => (0, -1)
  | i + 1 => if i ≠ t ∧ (bstX V t i).2 < V (i : Int) then ((i : Int), V (i : Int)) else bstX V t i
/-- goods as a sheet tells -/
def tld (N : Nat → Int) (len : Int) (G : Nat → Int) : Nat → Nat → Bool
  | 0, _ => true
  | f + 1, i => if (i : Int) < len then (if N i = -1 ∨ N i = G i then tld N len G f (i + 1) else false) else true
def gdF (x : Int) : Nat → Int
  | 0 => 0
  | 1 => 1
  | e + 2 => if x % ((e : Int) + 2) ≠ 0 ∨ 12 % ((e : Int) + 2) ≠ 0 then gdF x (e + 1) else (e : Int) + 2
theorem gdF_rng (x : Int) : ∀ e : Nat, 1 ≤ e → 1 ≤ gdF x e ∧ gdF x e ≤ e
  | 0, h => by omega
  | 1, _ => by simp [gdF]
  | e + 2, _ => by
    have ih := gdF_rng x (e + 1) (by omega)
    unfold gdF
    split <;> omega
def pwr (p : Int) : Nat → Int
  | 0 => 1
  | k + 1 => pwr p k * p
theorem r_cVt {g : Gt} {E : Ev} {post : Option Value → Sg → Prop} {cc : ByteArray} {nL pc d : Nat} {own : String} {ret : Option FieldType} {lv : List (Nat × Value)} {st st0 : List Value} {σ σ2 : Sg} {y : MethodName} {cy : ByteArray} {n nA dy i : Nat} {ry : Option FieldType} {As : List Value} {x : Int} (C : Cx g E cc nL own ret d) {k ci : Nat} {q : vw_C} (hM : Mt g y cy n ry dy (.ref (gA g k) :: As) σ (pT x σ2)) (hY : Yi y cy n ry nA q.1) (ho : isO k ci) (hq : cls[ci]? = some q) (hnA : As.length = nA) (w1 : Cond.methodLink own i y ∈ tbl) (hR2 : dy + 1 ≤ d ∧ 19 + n + 37 * dy ≤ 37 * d) (hrest : (st.map fun v => v.category).sum ≤ 8) (hst : st0 = As.reverse ++ .ref (gA g k) :: st) (hd : decode cc pc = .ok (.invokevirtual i, 3)) (kk : ∀ s : Sg, (∀ k, (k < 8 ∨ 16 ≤ k) → s k = σ2 k) → J g E post nL (pc + 3) lv (.int (iI x) :: st) s) : J g E post nL pc lv st0 σ := r_callV C hM hY ho hq hnA w1 hR2 hrest hst hd (fun v s h => by obtain ⟨rfl, h2⟩ := h; exact kk s h2)
theorem r_retTz {g : Gt} {E : Ev} {cc : ByteArray} {nL pc d : Nat} {own : String} {lv : List (Nat × Value)} {σ σ2 : Sg} {x v : Int} (C : Cx g E cc nL own (some .boolean) d) (hz : v = 0 ∨ v = 1) (hv : v = x) (hs : ∀ k, (k < 8 ∨ 16 ≤ k) → σ k = σ2 k) (hd : decode cc pc = .ok (.ireturn, 1)) : J g E (pT x σ2) nL pc lv [.int (iI v)] σ := r_zret hz C ⟨by rw [hv], hs⟩ hd
theorem band_4095 (y : Int) : 0 ≤ band 4095 y ∧ band 4095 y ≤ 4095 := by
  have h := pk_and (iI y) (m := iI 4095) 12 (by decide)
  have h2 : iI 4095 &&& iI y = nI ((iI y).toBitVec.toNat % 2 ^ 12) := by rw [← h]; exact Int32.and_comm _ _
  unfold band
  rw [h2, nI_toInt (by omega)]
  omega
set_option maxRecDepth 20000 in
theorem bitc_12 {x : Int} (h : 0 ≤ x ∧ x ≤ 4095) : 0 ≤ bitc x ∧ bitc x ≤ 12 := by
  have h1 : ∀ a, a < 64 → ∀ b, b < 64 → (0 ≤ bitc ((64 * a + b : Nat) : Int) ∧ bitc ((64 * a + b : Nat) : Int) ≤ 12) := by decide +kernel
  have h2 := h1 (x.toNat / 64) (by omega) (x.toNat % 64) (by omega)
  rw [show ((64 * (x.toNat / 64) + x.toNat % 64 : Nat) : Int) = x by omega] at h2
  exact h2
