theorem Rst_sh {σ τ : Sg} {x : Nat} (hx : x < 4) (hR : Rst σ) (o : ∀ k, 16 ≤ k → k ≠ 50 → k ≠ 51 → k ≠ 52 → k ≠ 31 + 2 * x → k ≠ 32 + 2 * x → τ k = σ k) (o50 : ∀ s, s ≠ x → τ 50 s = σ 50 s) (o51 : ∀ s, s ≠ x → τ 51 s = σ 51 s) (o52 : ∀ s, s ≠ x → ∀ j, j < 40 → τ 52 (40 * s + j) = σ 52 (40 * s + j)) (hS : Sh τ x) : Rst τ := by
  obtain ⟨r1, r2, r3, r4, r5, r6, r7⟩ := hR
  have o' : ∀ k, (16 ≤ k ∧ k ≠ 50 ∧ k ≠ 51 ∧ k ≠ 52 ∧ k ≠ 31 + 2 * x ∧ k ≠ 32 + 2 * x) → τ k = σ k := fun k q => o k q.1 q.2.1 q.2.2.1 q.2.2.2.1 q.2.2.2.2.1 q.2.2.2.2.2
  unfold Rst
  rw [o' 41 (by omega), o' 43 (by omega), o' 40 (by omega), o' 24 (by omega), o' 25 (by omega), o' 49 (by omega), o' 39 (by omega), o' 46 (by omega)]
  refine ⟨fun q => ⟨(r1 q).1.trans (mkS_cg (fun k a _ => (o' (16 + k) (by omega)).symm)), RW_at (fun k a => o' (16 + k) (by omega)) (r1 q).2⟩, r2, r3, r4, r5, r6, fun s hs => ?_⟩
  by_cases e : s = x
  · rw [e]
    exact hS
  · have g := r7 s hs
    unfold Sh at g ⊢
    rw [o' (31 + 2 * s) (by omega), o' (32 + 2 * s) (by omega), o50 s e, o51 s e]
    refine ⟨g.1, g.2.1, fun j hj => ?_⟩
    rw [o52 s e j hj]
    exact g.2.2 j hj
def shM (x : Nat) (b L : Int) (s : Sg) : Sg := us (wr (wr s 50 x b) 51 x L) 52 (mapTo2 (40 * x) (fun _ => 0) (s 52) 40)
theorem shM_c {x : Nat} {b L : Int} {s σ1 : Sg} (hs : ∀ k, (k < 8 ∨ 16 ≤ k) → s k = σ1 k) : ∀ k, (k < 8 ∨ 16 ≤ k) → shM x b L s k = shM x b L σ1 k := by
  intro k hk
  unfold shM
  by_cases e : k = 52
  · subst e
    rw [us_s, us_s, hs 52 hk]
  · rw [us_n _ _ e, us_n _ _ e]
    by_cases e1 : k = 51
    · subst e1
      rw [wr_s, wr_s, wr_n _ _ _ (by decide), wr_n _ _ _ (by decide), hs 51 hk]
    · rw [wr_n _ _ _ e1, wr_n _ _ _ e1]
      by_cases e0 : k = 50
      · subst e0
        rw [wr_s, wr_s, hs 50 hk]
      · rw [wr_n _ _ _ e0, wr_n _ _ _ e0]
        exact hs k hk
theorem shM_o {x : Nat} {b L : Int} {s : Sg} {k : Nat} (h : k ≠ 50 ∧ k ≠ 51 ∧ k ≠ 52) : shM x b L s k = s k := by
  unfold shM
  rw [us_n _ _ h.2.2, wr_n _ _ _ h.2.1, wr_n _ _ _ h.1]
theorem rnS_o {x : Nat} {b n : Int} {σ : Sg} {k : Nat} (h : k ≠ 31 + 2 * x ∧ k ≠ 32 + 2 * x) : rnS x b n σ k = σ k := by
  unfold rnS
  rw [us_n _ _ h.2, wr_n _ _ _ h.1, wr_n _ _ _ h.1]
theorem rnS_1 {x : Nat} {b n : Int} {σ : Sg} : rnS x b n σ (31 + 2 * x) 1 = b ∧ rnS x b n σ (31 + 2 * x) 2 = (if b = 0 then 0 else n) := by
  unfold rnS
  rw [us_n _ _ (by omega), wr_s, wr_s]
  exact ⟨rfl, rfl⟩
theorem rnS_2 {x : Nat} {b n : Int} {σ : Sg} {j : Nat} (hj : j < 40) : rnS x b n σ (32 + 2 * x) j = 0 := by
  unfold rnS
  rw [us_s]
  exact if_pos hj
theorem st_sheet (g : Gt) (x b n : Int) (h_x : rng x) (h_b : rng b) (h_n : rng n) (σ : Sg) (h : Rel σ) : LStp g yX4_sheet cX4_sheet 4 1 yX5_sheet cX5_sheet 5 2 [.int (iI x), .int (iI b), .int (iI n)] σ := by
  have hW := h.2.1
  have hn_ := hW.1
  have hd := d_sheet g x b n h_x h_b h_n σ
  have he := fun (s : Sg) (hm : ∀ k, 40 < k → s k = σ k) => e_sheet g x b n h_x h_b h_n σ s (h.S hm) h.2.1
  by_cases c57 : (0 ≤ x ∧ x < 4) ∧ (b = 0 ∨ b = 8 ∨ b = 16 ∨ b = 32)
  · simp only [if_pos c57] at hd he
    by_cases c58 : n < 0
    · simp only [if_pos c58] at hd he
      exact stp_B 6 h hd he
    · simp only [if_neg c58] at hd he
      by_cases c59 : 40 < n
      · simp only [if_pos c59] at hd he
        exact stp_B 0 h hd he
      · simp only [if_neg c59] at hd he
        refine stp_X (σ1 := rnS x.toNat b n σ) (τ := shM x.toNat b (if b = 0 then 0 else n) (rnS x.toNat b n σ)) (F := shM x.toNat b (if b = 0 then 0 else n)) (fun k hk => rnS_o (by omega)) (fun s hs => shM_c hs) ?_ ?_ ?_ hd he
        · intro k a b
          rw [shM_o (by omega), rnS_o (by omega)]
        · exact RW_at (fun k a => by rw [Nat.zero_add, shM_o (by omega), rnS_o (by omega)]) hW
        · refine Rst_sh (x := x.toNat) (by omega) h.2.2 (fun k a b c d e f => (shM_o ⟨b, c, d⟩).trans (rnS_o ⟨e, f⟩)) (fun s hs => ?_) (fun s hs => ?_) (fun s hs j hj => ?_) ?_
          · show up (rnS x.toNat b n σ 50) x.toNat b s = σ 50 s
            rw [rnS_o (by omega)]
            exact if_neg hs
          · show up (rnS x.toNat b n σ 51) x.toNat _ s = σ 51 s
            rw [rnS_o (by omega)]
            exact if_neg hs
          · show mapTo2 (40 * x.toNat) (fun _ => 0) (rnS x.toNat b n σ 52) 40 (40 * s + j) = σ 52 (40 * s + j)
            rw [rnS_o (by omega)]
            exact if_neg (by omega)
          · unfold Sh
            rw [shM_o (k := 31 + 2 * x.toNat) (by omega), shM_o (k := 32 + 2 * x.toNat) (by omega), rnS_1.1, rnS_1.2]
            refine ⟨⟨(if_pos rfl).symm, (if_pos rfl).symm⟩, ⟨by omega, ?_⟩, fun j hj => ?_⟩
            · split <;> omega
            · rw [rnS_2 hj]
              exact ⟨⟨by decide, by decide⟩, (if_pos (by omega)).symm⟩
  · simp only [if_neg c57] at hd he
    exact stp_B 0 h hd he
theorem st_write (g : Gt) (x i v : Int) (h_x : rng x) (h_i : rng i) (h_v : rng v) (σ : Sg) (h : Rel σ) : LStp g yX4_write cX4_write 4 1 yX5_write cX5_write 5 3 [.int (iI x), .int (iI i), .int (iI v)] σ := by
  have hW := h.2.1
  have hn_ := hW.1
  have hd := d_write g x i v h_x h_i h_v σ h.cb
  have he := fun (s : Sg) (hm : ∀ k, 40 < k → s k = σ k) => (by have q := e_write g x i v h_x h_i h_v σ s (h.S hm) h.2.1 (h.s6 hm) (h.sb hm); rw [hm 50 (by decide), hm 51 (by decide)] at q; exact q : Mt g yX5_write cX5_write 5 (some FieldType.int) 3 [.ref (gA g 41), .int (iI (x)), .int (iI (i)), .int (iI (v))] s _)
  by_cases c60 : 0 ≤ x ∧ x < 4
  · simp only [if_pos c60] at hd he
    simp only [← (h.2.2.2.2.2.2.2.2 x.toNat (by omega)).1.1, ← (h.2.2.2.2.2.2.2.2 x.toNat (by omega)).1.2] at he
    by_cases c61 : σ (31 + 2 * x.toNat) 1 = 0
    · simp only [if_pos c61] at hd he
      exact stp_B 5 h hd he
    · simp only [if_neg c61] at hd he
      by_cases c62 : 0 ≤ i ∧ i ≤ σ (31 + 2 * x.toNat) 2 - 1
      · simp only [if_pos c62] at hd he
        have hb := h.cb x.toNat (by omega)
        simp only [nrw_is (show σ (31 + 2 * x.toNat) 1 = 8 ∨ σ (31 + 2 * x.toNat) 1 = 16 ∨ σ (31 + 2 * x.toNat) 1 = 32 by omega) h_v] at he
        have hvr := bshr_rng (bshl v (32 - σ (31 + 2 * x.toNat) 1)) (32 - σ (31 + 2 * x.toNat) 1)
        generalize bshr (bshl v (32 - σ (31 + 2 * x.toNat) 1)) (32 - σ (31 + 2 * x.toNat) 1) = V at *
        refine stp_X (σ1 := wr σ (32 + 2 * x.toNat) i.toNat V) (τ := wr (wr σ (32 + 2 * x.toNat) i.toNat V) 52 (40 * x.toNat + i.toNat) V) (F := fun s => wr s 52 (40 * x.toNat + i.toNat) V) (fun k hk => wr_n _ _ _ (by omega)) (fun s hs k hk => ?_) ?_ ?_ ?_ hd he
        · by_cases e : k = 52
          · subst e
            rw [wr_s, wr_s, hs 52 hk]
          · rw [wr_n _ _ _ e, wr_n _ _ _ e]
            exact hs k hk
        · intro k a b
          rw [wr_n _ _ _ (by omega), wr_n _ _ _ (by omega)]
        · exact RW_at (fun k a => by rw [Nat.zero_add, wr_n _ _ _ (by omega), wr_n _ _ _ (by omega)]) hW
        · have g := h.2.2.2.2.2.2.2.2 x.toNat (by omega)
          refine Rst_sh (x := x.toNat) (by omega) h.2.2 (fun k a b c d e f => (wr_n _ _ _ d).trans (wr_n _ _ _ f)) (fun s hs => ?_) (fun s hs => ?_) (fun s hs j hj => ?_) ?_
          · rw [wr_n _ _ _ (by omega), wr_n _ _ _ (by omega)]
          · rw [wr_n _ _ _ (by omega), wr_n _ _ _ (by omega)]
          · rw [wr_s, wr_n _ _ _ (by omega)]
            exact if_neg (by omega)
          · unfold Sh at g ⊢
            rw [wr_n _ _ _ (show 31 + 2 * x.toNat ≠ 52 by omega), wr_n _ _ _ (show 31 + 2 * x.toNat ≠ 32 + 2 * x.toNat by omega), wr_n _ _ _ (show 50 ≠ 52 by omega), wr_n _ _ _ (show 50 ≠ 32 + 2 * x.toNat by omega), wr_n _ _ _ (show 51 ≠ 52 by omega), wr_n _ _ _ (show 51 ≠ 32 + 2 * x.toNat by omega), wr_n _ _ _ (show 32 + 2 * x.toNat ≠ 52 by omega), wr_s, wr_s, wr_n _ _ _ (show 52 ≠ 32 + 2 * x.toNat by omega)]
            refine ⟨g.1, g.2.1, fun j hj => ?_⟩
            have gj := g.2.2 j hj
            by_cases e : j = i.toNat
            · subst e
              rw [up_s, up_s]
              exact ⟨hvr, rfl⟩
            · rw [up_n _ _ e, up_n _ _ (by omega)]
              exact gj
      · simp only [if_neg c62] at hd he
        exact stp_B 0 h hd he
  · simp only [if_neg c60] at hd he
    exact stp_B 0 h hd he
theorem cpy_in {f h : Nat → Int} {sp dp n k : Nat} (q : dp ≤ k ∧ k < dp + n) : cpy f h sp dp n k = f (sp + (k - dp)) := if_pos q
theorem cpy_no {f h : Nat → Int} {sp dp n k : Nat} (q : ¬ (dp ≤ k ∧ k < dp + n)) : cpy f h sp dp n k = h k := if_neg q
theorem mt2_in {o : Nat} {F D : Nat → Int} {i j : Nat} (q : o ≤ j ∧ j < o + i) : mapTo2 o F D i j = F j := if_pos q
theorem mt2_no {o : Nat} {F D : Nat → Int} {i j : Nat} (q : ¬ (o ≤ j ∧ j < o + i)) : mapTo2 o F D i j = D j := if_neg q

theorem st_copy (g : Gt) (x f t o n : Int) (h_x : rng x) (h_f : rng f) (h_t : rng t) (h_o : rng o) (h_n : rng n) (σ : Sg) (h : Rel σ) : LStp g yX4_copy cX4_copy 6 1 yX5_copy cX5_copy 7 2 [.int (iI x), .int (iI f), .int (iI t), .int (iI o), .int (iI n)] σ := by
  have hW := h.2.1
  have hn_ := hW.1
  have hd := d_copy g x f t o n h_x h_f h_t h_o h_n σ h.cb
  have he := fun (s : Sg) (hm : ∀ k, 40 < k → s k = σ k) => (by have q := e_copy g x f t o n h_x h_f h_t h_o h_n σ s (h.S hm) (h.sb hm); rw [hm 50 (by decide), hm 51 (by decide), hm 52 (by decide)] at q; exact q : Mt g yX5_copy cX5_copy 7 (some FieldType.int) 2 [.ref (gA g 41), .int (iI (x)), .int (iI (f)), .int (iI (t)), .int (iI (o)), .int (iI (n))] s _)
  by_cases c63 : (0 ≤ x ∧ x < 4) ∧ 0 ≤ t ∧ t < 4
  · simp only [if_pos c63] at hd he
    simp only [← (h.2.2.2.2.2.2.2.2 x.toNat (by omega)).1.1, ← (h.2.2.2.2.2.2.2.2 x.toNat (by omega)).1.2, ← (h.2.2.2.2.2.2.2.2 t.toNat (by omega)).1.1, ← (h.2.2.2.2.2.2.2.2 t.toNat (by omega)).1.2] at he
    by_cases c64 : σ (31 + 2 * x.toNat) 1 = 0 ∨ σ (31 + 2 * t.toNat) 1 = 0
    · simp only [if_pos c64] at hd he
      exact stp_B 5 h hd he
    · simp only [if_neg c64] at hd he
      by_cases c65 : σ (31 + 2 * x.toNat) 1 = σ (31 + 2 * t.toNat) 1
      · simp only [if_pos c65] at hd he
        by_cases c66 : (0 ≤ f ∧ 0 ≤ n ∧ f ≤ σ (31 + 2 * x.toNat) 2 ∧ n ≤ σ (31 + 2 * x.toNat) 2 - f) ∧ 0 ≤ o ∧ 0 ≤ n ∧ o ≤ σ (31 + 2 * t.toNat) 2 ∧ n ≤ σ (31 + 2 * t.toNat) 2 - o
        · simp only [if_pos c66] at hd he
          have hbx := h.cb x.toNat (by omega)
          have hbt := h.cb t.toNat (by omega)
          refine stp_X (σ1 := us σ (32 + 2 * t.toNat) (cpy (σ (32 + 2 * x.toNat)) (σ (32 + 2 * t.toNat)) f.toNat o.toNat n.toNat)) (τ := us (us σ (32 + 2 * t.toNat) (cpy (σ (32 + 2 * x.toNat)) (σ (32 + 2 * t.toNat)) f.toNat o.toNat n.toNat)) 52 (mapTo2 (40 * t.toNat + o.toNat) (fun j => σ 52 (40 * x.toNat + f.toNat + (j - (40 * t.toNat + o.toNat)))) (σ 52) n.toNat)) (F := fun s => us s 52 (mapTo2 (40 * t.toNat + o.toNat) (fun j => σ 52 (40 * x.toNat + f.toNat + (j - (40 * t.toNat + o.toNat)))) (σ 52) n.toNat)) (fun k hk => us_n _ _ (by omega)) (fun s hs k hk => ?_) ?_ ?_ ?_ hd he
          · by_cases e : k = 52
            · subst e
              rw [us_s, us_s]
            · rw [us_n _ _ e, us_n _ _ e]
              exact hs k hk
          · intro k a b
            rw [us_n _ _ (by omega), us_n _ _ (by omega)]
          · exact RW_at (fun k a => by rw [Nat.zero_add, us_n _ _ (by omega), us_n _ _ (by omega)]) hW
          · have g := h.2.2.2.2.2.2.2.2 t.toNat (by omega)
            have gx := h.2.2.2.2.2.2.2.2 x.toNat (by omega)
            refine Rst_sh (x := t.toNat) (by omega) h.2.2 (fun k a b c d e f => (us_n _ _ d).trans (us_n _ _ f)) (fun s hs => ?_) (fun s hs => ?_) (fun s hs j hj => ?_) ?_
            · rw [us_n _ _ (by omega), us_n _ _ (by omega)]
            · rw [us_n _ _ (by omega), us_n _ _ (by omega)]
            · rw [us_s]
              exact if_neg (by omega)
            · unfold Sh at g ⊢
              rw [us_n _ _ (show 31 + 2 * t.toNat ≠ 52 by omega), us_n _ _ (show 31 + 2 * t.toNat ≠ 32 + 2 * t.toNat by omega), us_n _ _ (show 50 ≠ 52 by omega), us_n _ _ (show 50 ≠ 32 + 2 * t.toNat by omega), us_n _ _ (show 51 ≠ 52 by omega), us_n _ _ (show 51 ≠ 32 + 2 * t.toNat by omega), us_n _ _ (show 32 + 2 * t.toNat ≠ 52 by omega), us_s, us_s]
              refine ⟨g.1, g.2.1, fun j hj => ?_⟩
              by_cases e : o.toNat ≤ j ∧ j < o.toNat + n.toNat
              · rw [cpy_in e, mt2_in (by omega)]
                have gj := gx.2.2 (f.toNat + (j - o.toNat)) (by omega)
                rw [show 40 * x.toNat + f.toNat + (40 * t.toNat + j - (40 * t.toNat + o.toNat)) = 40 * x.toNat + (f.toNat + (j - o.toNat)) by omega]
                exact gj
              · rw [cpy_no e, mt2_no (by omega)]
                exact g.2.2 j hj
        · simp only [if_neg c66] at hd he
          exact stp_B 0 h hd he
      · simp only [if_neg c65] at hd he
        exact stp_B 2 h hd he
  · simp only [if_neg c63] at hd he
    exact stp_B 0 h hd he
