def ivS (k j : Nat) : Nat := if k = 0 then (if j = 10 then 0 else if j = 7 then 1 else if j = 8 then 2 else if j = 9 then 3 else 4) else if k = 1 then 5 + j else if k < 6 then 17 + 3 * j + (k - 3) else if k = 6 then 41 + j else 137 + j
theorem ivS_is (i : Nat) : ivS (cidx i).1 (cidx i).2 = i := by
  unfold cidx
  repeat' split
  all_goals (unfold ivS; dsimp only)
  all_goals (first | (rw [if_neg (by omega), if_pos rfl]; omega) | (rw [if_neg (by omega), if_neg (by omega), if_pos (by omega)]; omega) | (rw [if_neg (by omega), if_neg (by omega), if_neg (by omega), if_pos rfl]; omega) | (rw [if_neg (by omega), if_neg (by omega), if_neg (by omega), if_neg (by omega)]; omega) | (rw [if_pos rfl]; simp; omega))
theorem mkS_all (f : Nat → Int) : f = mkS (fun k j => f (ivS k j)) := by
  funext i
  show f i = f (ivS (cidx i).1 (cidx i).2)
  rw [ivS_is]
theorem RW_16 {σ : Sg} (h : RW σ 16) : RW (bc_0_16 σ) 0 := h
theorem RW_to16 {σ : Sg} (h : RW σ 0) : RW (bc_16_0 σ) 16 := h
theorem bc16_o (σ : Sg) {k : Nat} (h : k < 16 ∨ 24 ≤ k) : bc_16_0 σ k = σ k := by
  unfold bc_16_0
  rw [us_n _ _ (by omega), us_n _ _ (by omega), us_n _ _ (by omega), us_n _ _ (by omega), us_n _ _ (by omega), us_n _ _ (by omega), us_n _ _ (by omega)]
theorem bc016_o (σ : Sg) {k : Nat} (h : 8 ≤ k) : bc_0_16 σ k = σ k := by
  unfold bc_0_16
  rw [us_n _ _ (by omega), us_n _ _ (by omega), us_n _ _ (by omega), us_n _ _ (by omega), us_n _ _ (by omega), us_n _ _ (by omega), us_n _ _ (by omega)]
theorem bc016_k (σ : Sg) : ∀ k, k < 8 → k ≠ 2 → Kp σ k = bc_0_16 σ k := by
  intro k hk h2
  rcases (show k = 0 ∨ k = 1 ∨ k = 3 ∨ k = 4 ∨ k = 5 ∨ k = 6 ∨ k = 7 by omega) with rfl | rfl | rfl | rfl | rfl | rfl | rfl <;> rfl
theorem bc16_k (σ : Sg) : ∀ k, k < 8 → k ≠ 2 → Kp (bc_16_0 σ) k = σ k := by
  intro k hk h2
  rcases (show k = 0 ∨ k = 1 ∨ k = 3 ∨ k = 4 ∨ k = 5 ∨ k = 6 ∨ k = 7 by omega) with rfl | rfl | rfl | rfl | rfl | rfl | rfl <;> rfl
theorem ldc_in (N : Nat → Int) (len : Int) : ∀ f i j, i ≤ j → j < ldc N len f i → 0 ≤ N j ∧ N j ≤ 9999
  | 0, i, j, h1, h2 => by
    have h3 : j < i := h2
    omega
  | f + 1, i, j, h1, h2 => by
    unfold ldc at h2
    split at h2
    · rename_i q
      by_cases e : j = i
      · rw [e]
        exact q.2.2
      · exact ldc_in N len f (i + 1) j (by omega) h2
    · omega
theorem apF_rng {v : Int} {n L : Nat} {B : Nat → Int} (hn : n ≤ 4) (hB : ∀ j, j < 120 → 0 ≤ B j ∧ B j ≤ 255) : ∀ m, m ≤ n → ∀ j, j < 120 → 0 ≤ apF v n L B m j ∧ apF v n L B m j ≤ 255
  | 0, _ => hB
  | m + 1, h => fun j hj => by
    have ih := apF_rng (v := v) (L := L) hn hB m (by omega) j hj
    have hb := byte_sh (v := v) (s := 8 * ((n : Int) - 1 - (m : Int))) (by omega)
    show 0 ≤ up _ _ _ j ∧ up _ _ _ j ≤ 255
    unfold up
    split
    · exact hb
    · exact ih
theorem st_swapFor (g : Gt) (x n : Int) (h_x : rng x) (h_n : rng n) (σ : Sg) (h : Rel σ) : LStp g yX4_swapFor cX4_swapFor 3 6 yX5_swapFor cX5_swapFor 8 7 [.int (iI x), .int (iI n)] σ := by
  have hW := h.2.1
  have hn_ := hW.1
  have hd := d_swapFor g x n h_x h_n σ h.2.1
  have he := fun (s : Sg) (hm : ∀ k, 40 < k → s k = σ k) => e_swapFor g x n h_x h_n σ s (h.S hm) h.2.1 (h.s6 hm)
  by_cases c38 : (0 ≤ x ∧ x < σ 0 7) ∧ 0 ≤ n ∧ n ≤ 40
  · simp only [if_pos c38] at hd he
    have q := swapFor_is (V := vSwap (σ 0 7) (σ 0 8) (σ 0 9) (σ 3) (σ 4) (σ 1, σ 5, σ 6) x.toNat n.toNat) (t := x.toNat) (n := (σ 0 7).toNat) (by omega) (fun j hj => ((daysC_rng hn_ hW.2.1 (rgA_up (rgA_up hW.2.2.2.2.2.2.2.1 (hW.2.2.2.2.2.2.2.1 _ (by omega))) (hW.2.2.2.2.2.2.2.1 _ (by omega))) hW.2.2.2.2.2.1 hW.2.2.2.2.2.2.2.2.1 hW.2.2.2.2.2.2.2.2.2.1 _).2.1 _ (by omega)).1)
    by_cases c39 : σ 0 7 < 2
    · simp only [if_pos c39, if_pos (q.1.mpr (by omega))] at hd he
      exact stp_B 3 h hd he
    · simp only [if_neg c39, if_neg (fun e => (by have := q.1.mp e; omega))] at hd he
      simp only [q.2 (by omega)] at he
      exact stp_A h hd he
  · simp only [if_neg c38] at hd he
    exact stp_B 0 h hd he
theorem st_without (g : Gt) (n : Int) (h_n : rng n) (σ : Sg) (h : Rel σ) : LStp g yX4_without cX4_without 6 5 yX5_without cX5_without 6 8 [.int (iI n)] σ := by
  have hW := h.2.1
  have hn_ := hW.1
  have hd := d_without g n h_n σ h.2.1
  have he := fun (s : Sg) (hm : ∀ k, 40 < k → s k = σ k) => e_without g n h_n σ s (h.S hm) h.2.1 (h.s6 hm)
  by_cases c40 : 0 ≤ n ∧ n ≤ 40
  · simp only [if_pos c40] at hd he
    have q := without_is (V := vOut (σ 0 7) (σ 0 8) (σ 0 9) (σ 3) (σ 4) (σ 1) n.toNat) (n := (σ 0 7).toNat) (by omega) (fun j hj => (sumF_rng 12 (dstN_rng hn_ hW.2.1 hW.2.2.2.2.2.2.2.1 hW.2.2.2.2.2.1 _)).1)
    by_cases c41 : σ 0 7 = 0
    · simp only [if_pos c41, if_pos (q.1.mpr (by omega))] at hd he
      exact stp_B 3 h hd he
    · simp only [if_neg c41, if_neg (fun e => (by have := q.1.mp e; omega))] at hd he
      simp only [q.2 (by omega), ← bst_X (V := vOut (σ 0 7) (σ 0 8) (σ 0 9) (σ 3) (σ 4) (σ 1) n.toNat) (σ 0 7).toNat (by omega)] at he
      exact stp_A h hd he
  · simp only [if_neg c40] at hd he
    exact stp_B 0 h hd he
theorem st_fallFor (g : Gt) (v n : Int) (h_v : rng v) (h_n : rng n) (σ : Sg) (h : Rel σ) : LStp g yX4_fallFor cX4_fallFor 6 5 yX5_fallFor cX5_fallFor 5 7 [.int (iI v), .int (iI n)] σ := by
  have hW := h.2.1
  have hn_ := hW.1
  have hd := d_fallFor g v n h_v h_n σ h.2.1
  have he := fun (s : Sg) (hm : ∀ k, 40 < k → s k = σ k) => e_fallFor g v n h_v h_n σ s (h.S hm) h.2.1 (h.s6 hm)
  by_cases c42 : (0 ≤ v ∧ v ≤ 99999) ∧ 0 ≤ n ∧ n ≤ 40
  · simp only [if_pos c42] at hd he
    have q := fallFor_is (V := vFall (σ 0 7) (σ 0 8) (σ 0 9) (σ 3) (σ 4) (σ 1) n.toNat) (v := v) (fun a b h1 h2 h3 => vFall_mono hn_ hW.2.2.2.2.2.2.2.1 hW.2.2.2.2.2.1 ⟨h1, by omega⟩ h2)
    by_cases c43 : fbF (vFall (σ 0 7) (σ 0 8) (σ 0 9) (σ 3) (σ 4) (σ 1) n.toNat) v 7 = 99
    · simp only [if_pos c43] at hd he
      rw [if_pos c43] at q
      simp only [q, if_true] at he
      exact stp_B 3 h hd he
    · simp only [if_neg c43] at hd he
      rw [if_neg c43] at q
      simp only [q] at he
      have hz := fbF_rng (vFall (σ 0 7) (σ 0 8) (σ 0 9) (σ 3) (σ 4) (σ 1) n.toNat) v 7 (by omega)
      simp only [if_neg (show ¬ fbF (vFall (σ 0 7) (σ 0 8) (σ 0 9) (σ 3) (σ 4) (σ 1) n.toNat) v 7 + 1 = -1 by omega)] at he
      exact stp_A h hd he
  · simp only [if_neg c42] at hd he
    exact stp_B 0 h hd he
theorem st_brooms (g : Gt) (v n : Int) (h_v : rng v) (h_n : rng n) (σ : Sg) (h : Rel σ) : LStp g yX4_brooms cX4_brooms 6 5 yX5_brooms cX5_brooms 5 8 [.int (iI v), .int (iI n)] σ := by
  have hW := h.2.1
  have hn_ := hW.1
  have hd := d_brooms g v n h_v h_n σ h.2.1
  have he := fun (s : Sg) (hm : ∀ k, 40 < k → s k = σ k) => e_brooms g v n h_v h_n σ s (h.S hm) h.2.1 (h.s6 hm)
  by_cases c44 : (0 ≤ v ∧ v ≤ 99999) ∧ 0 ≤ n ∧ n ≤ 20
  · simp only [if_pos c44] at hd he
    have hp := bshl_1 hn_
    have hq : ∀ q : Nat, q < 2 ^ (σ 0 7).toNat → (vSet (σ 0 7) (σ 0 8) (σ 0 9) (σ 3) (σ 4) (σ 1) n.toNat) (((2 ^ (σ 0 7).toNat - 1 : Nat) : Nat) : Int) ≤ (vSet (σ 0 7) (σ 0 8) (σ 0 9) (σ 3) (σ 4) (σ 1) n.toNat) (q : Int) := fun q hq => vSet_min hn_ hW.2.1 hW.2.2.2.2.2.2.2.1 hW.2.2.2.2.2.1 (fun t ht _ => by rw [show (((2 ^ (σ 0 7).toNat - 1 : Nat) : Nat) : Int) = bshl 1 (σ 0 7) - 1 by omega]; exact all_bits hn_ ht)
    have q := brooms_is (V := vSet (σ 0 7) (σ 0 8) (σ 0 9) (σ 3) (σ 4) (σ 1) n.toNat) (v := v) (n := (σ 0 7).toNat) (by omega) hq
    have e1 : bshl 1 (σ 0 7) - 1 = (((2 ^ (σ 0 7).toNat - 1 : Nat) : Nat) : Int) := by omega
    have e2 : (bshl 1 (σ 0 7)).toNat = 2 ^ (σ 0 7).toNat := by omega
    have e3 : (((2 ^ (σ 0 7).toNat - 1 : Nat) : Nat) : Int).toNat = 2 ^ (σ 0 7).toNat - 1 := by omega
    simp only [e1, e3] at hd
    simp only [e2] at he
    by_cases c : v < (vSet (σ 0 7) (σ 0 8) (σ 0 9) (σ 3) (σ 4) (σ 1) n.toNat) (((2 ^ (σ 0 7).toNat - 1 : Nat) : Nat) : Int)
    · simp only [if_pos c] at hd
      have q1 := q.1 c
      simp only [q1, if_pos (show (-1 : Int) < 0 by decide)] at he
      exact stp_B 3 h hd he
    · simp only [if_neg c] at hd
      have q2 := q.2 c
      have q3 : ¬ brL (vSet (σ 0 7) (σ 0 8) (σ 0 9) (σ 3) (σ 4) (σ 1) n.toNat) v (2 ^ (σ 0 7).toNat) < 0 := by
        rcases brL_spec (vSet (σ 0 7) (σ 0 8) (σ 0 9) (σ 3) (σ 4) (σ 1) n.toNat) v (2 ^ (σ 0 7).toNat) with ⟨_, b⟩ | ⟨r, a, _⟩
        · have := b (2 ^ (σ 0 7).toNat - 1) (by omega)
          omega
        · omega
      simp only [if_neg q3] at he
      simp only [q2] at he
      exact stp_A h hd he
  · simp only [if_neg c44] at hd he
    exact stp_B 0 h hd he
theorem st_fits (g : Gt) (x y : Int) (h_x : rng x) (h_y : rng y) (σ : Sg) (h : Rel σ) : LStp g yX4_fits cX4_fits 4 6 yX5_fits cX5_fits 4 8 [.int (iI x), .int (iI y)] σ := by
  have hW := h.2.1
  have hn_ := hW.1
  have hd := d_fits g x y h_x h_y σ h.2.1 h.cb h.cN
  have he := fun (s : Sg) (hm : ∀ k, 40 < k → s k = σ k) => (by have q := e_fits g x y h_x h_y σ s (h.S hm) h.2.1 (h.s6 hm) (h.sb hm) (h.sN hm); rw [hm 50 (by decide), hm 51 (by decide), hm 52 (by decide)] at q; exact q : Mt g yX5_fits cX5_fits 4 (some FieldType.int) 8 [.ref (gA g 41), .int (iI (x)), .int (iI (y))] s _)
  by_cases c45 : 0 ≤ x ∧ x < 4
  · simp only [if_pos c45] at hd he
    by_cases c46 : σ (31 + 2 * x.toNat) 1 = 0
    · simp only [if_pos c46, if_pos (show σ 50 x.toNat = 0 by have := (h.2.2.2.2.2.2.2.2 x.toNat (by omega)).1.1; omega)] at hd he
      exact stp_B 5 h hd he
    · simp only [if_neg c46, if_neg (show ¬ σ 50 x.toNat = 0 by have := (h.2.2.2.2.2.2.2.2 x.toNat (by omega)).1.1; omega)] at hd he
      have e : ∀ c : Nat, tlG (σ 0 7) (σ 0 8) (σ 0 9) (σ 3) (up (σ 4) y.toNat (c : Int)) (σ 1, σ 5, σ 6) y.toNat (fun j => σ 52 (40 * x.toNat + j)) (σ (31 + 2 * x.toNat) 2) = tlG (σ 0 7) (σ 0 8) (σ 0 9) (σ 3) (up (σ 4) y.toNat (c : Int)) (σ 1, σ 5, σ 6) y.toNat (σ (32 + 2 * x.toNat)) (σ (31 + 2 * x.toNat) 2) := fun c => tlG_cong (fun j hj => ((h.2.2.2.2.2.2.2.2 x.toNat (by omega)).2.2 j hj).2.symm) (h.cb x.toNat (by omega)).2.2
      by_cases c47 : 0 ≤ y ∧ y < σ 0 7
      · simp only [if_pos c47] at hd he
        simp only [← (h.2.2.2.2.2.2.2.2 x.toNat (by omega)).1.2, e] at he
        exact stp_A h hd he
      · simp only [if_neg c47] at hd he
        exact stp_B 0 h hd he
  · simp only [if_neg c45] at hd he
    exact stp_B 0 h hd he
theorem st_kinds (g : Gt) (x y : Int) (h_x : rng x) (h_y : rng y) (σ : Sg) (h : Rel σ) : LStp g yX4_kinds cX4_kinds 4 6 yX5_kinds cX5_kinds 4 8 [.int (iI x), .int (iI y)] σ := by
  have hW := h.2.1
  have hn_ := hW.1
  have hd := d_kinds g x y h_x h_y σ h.2.1 h.cb h.cN
  have he := fun (s : Sg) (hm : ∀ k, 40 < k → s k = σ k) => (by have q := e_kinds g x y h_x h_y σ s (h.S hm) h.2.1 (h.s6 hm) (h.sb hm) (h.sN hm); rw [hm 50 (by decide), hm 51 (by decide), hm 52 (by decide)] at q; exact q : Mt g yX5_kinds cX5_kinds 4 (some FieldType.int) 8 [.ref (gA g 41), .int (iI (x)), .int (iI (y))] s _)
  by_cases c48 : 0 ≤ x ∧ x < 4
  · simp only [if_pos c48] at hd he
    by_cases c49 : σ (31 + 2 * x.toNat) 1 = 0
    · simp only [if_pos c49, if_pos (show σ 50 x.toNat = 0 by have := (h.2.2.2.2.2.2.2.2 x.toNat (by omega)).1.1; omega)] at hd he
      exact stp_B 5 h hd he
    · simp only [if_neg c49, if_neg (show ¬ σ 50 x.toNat = 0 by have := (h.2.2.2.2.2.2.2.2 x.toNat (by omega)).1.1; omega)] at hd he
      have e : ∀ c : Nat, tlG (σ 0 7) (σ 0 8) (σ 0 9) (up (σ 3) y.toNat (c : Int)) (σ 4) (σ 1, σ 5, σ 6) y.toNat (fun j => σ 52 (40 * x.toNat + j)) (σ (31 + 2 * x.toNat) 2) = tlG (σ 0 7) (σ 0 8) (σ 0 9) (up (σ 3) y.toNat (c : Int)) (σ 4) (σ 1, σ 5, σ 6) y.toNat (σ (32 + 2 * x.toNat)) (σ (31 + 2 * x.toNat) 2) := fun c => tlG_cong (fun j hj => ((h.2.2.2.2.2.2.2.2 x.toNat (by omega)).2.2 j hj).2.symm) (h.cb x.toNat (by omega)).2.2
      by_cases c50 : 0 ≤ y ∧ y < σ 0 7
      · simp only [if_pos c50] at hd he
        simp only [← (h.2.2.2.2.2.2.2.2 x.toNat (by omega)).1.2, e] at he
        exact stp_A h hd he
      · simp only [if_neg c50] at hd he
        exact stp_B 0 h hd he
  · simp only [if_neg c48] at hd he
    exact stp_B 0 h hd he
theorem st_judge (g : Gt) (x : Int) (h_x : rng x) (σ : Sg) (h : Rel σ) : LStp g yX4_judge cX4_judge 4 1 yX5_judge cX5_judge 4 3 [.int (iI x)] σ := by
  have hW := h.2.1
  have hn_ := hW.1
  have hd := d_judge g x h_x σ h.2.1 h.cb h.cN
  have he := fun (s : Sg) (hm : ∀ k, 40 < k → s k = σ k) => (by have q := e_judge g x h_x σ s (h.S hm) h.2.1 (h.s6 hm) (h.sb hm) (h.sN hm); rw [hm 50 (by decide), hm 51 (by decide), hm 52 (by decide)] at q; exact q : Mt g yX5_judge cX5_judge 4 (some FieldType.int) 3 [.ref (gA g 41), .int (iI (x))] s _)
  by_cases c51 : 0 ≤ x ∧ x < 4
  · simp only [if_pos c51] at hd he
    by_cases c52 : σ (31 + 2 * x.toNat) 1 = 0
    · simp only [if_pos c52, if_pos (show σ 50 x.toNat = 0 by have := (h.2.2.2.2.2.2.2.2 x.toNat (by omega)).1.1; omega)] at hd he
      exact stp_B 5 h hd he
    · simp only [if_neg c52, if_neg (show ¬ σ 50 x.toNat = 0 by have := (h.2.2.2.2.2.2.2.2 x.toNat (by omega)).1.1; omega)] at hd he
      have e := jdc_cong (N := fun j => σ 52 (40 * x.toNat + j)) (N2 := σ (32 + 2 * x.toNat)) (len := σ (31 + 2 * x.toNat) 2) (n := σ 0 7) (M := σ 6) (fun j hj => ((h.2.2.2.2.2.2.2.2 x.toNat (by omega)).2.2 j hj).2.symm) (h.cb x.toNat (by omega)).2.2 41 0
      simp only [← (h.2.2.2.2.2.2.2.2 x.toNat (by omega)).1.2, e] at he
      exact stp_A h hd he
  · simp only [if_neg c51] at hd he
    exact stp_B 0 h hd he
theorem st_load (g : Gt) (x : Int) (h_x : rng x) (σ : Sg) (h : Rel σ) : LStp g yX4_load cX4_load 4 1 yX5_load cX5_load 4 3 [.int (iI x)] σ := by
  have hW := h.2.1
  have hn_ := hW.1
  have hd := d_load g x h_x σ h.cb h.cN
  have he := fun (s : Sg) (hm : ∀ k, 40 < k → s k = σ k) => (by have q := e_load g x h_x σ s (h.S hm) h.2.1 (h.s6 hm) (h.sb hm) (h.sN hm); rw [hm 50 (by decide), hm 51 (by decide), hm 52 (by decide)] at q; exact q : Mt g yX5_load cX5_load 4 (some FieldType.int) 3 [.ref (gA g 41), .int (iI (x))] s _)
  by_cases c53 : 0 ≤ x ∧ x < 4
  · simp only [if_pos c53] at hd he
    by_cases c54 : σ (31 + 2 * x.toNat) 1 = 0
    · simp only [if_pos c54, if_pos (show σ 50 x.toNat = 0 by have := (h.2.2.2.2.2.2.2.2 x.toNat (by omega)).1.1; omega)] at hd he
      exact stp_B 5 h hd he
    · simp only [if_neg c54, if_neg (show ¬ σ 50 x.toNat = 0 by have := (h.2.2.2.2.2.2.2.2 x.toNat (by omega)).1.1; omega)] at hd he
      have e := ldc_cong (N := fun j => σ 52 (40 * x.toNat + j)) (N2 := σ (32 + 2 * x.toNat)) (len := σ (31 + 2 * x.toNat) 2) (fun j hj => ((h.2.2.2.2.2.2.2.2 x.toNat (by omega)).2.2 j hj).2.symm) 13 0
      have hle := ldc_le (σ (32 + 2 * x.toNat)) (σ (31 + 2 * x.toNat) 2) 13 0 (by omega)
      have e2 := mapTo_cong (F := fun j => σ 52 (40 * x.toNat + j)) (F2 := σ (32 + 2 * x.toNat)) (D := σ 1) (k := ldc (σ (32 + 2 * x.toNat)) (σ (31 + 2 * x.toNat) 2) 13 0) (fun j hj => ((h.2.2.2.2.2.2.2.2 x.toNat (by omega)).2.2 j (by omega)).2.symm)
      simp only [← (h.2.2.2.2.2.2.2.2 x.toNat (by omega)).1.2, e, e2] at he
      exact stp_C h (fun k hk => us_n _ _ (by omega)) (fun _ _ _ => rfl) (RW_1 hW (fun j hj => by
        unfold mapTo
        split
        · rename_i q
          exact ldc_in _ _ 13 0 j (by omega) q
        · exact hW.2.2.2.2.2.1 j hj)) hd he
  · simp only [if_neg c53] at hd he
    exact stp_B 0 h hd he
theorem st_wipe (g : Gt) (σ : Sg) (h : Rel σ) : LStp g yX4_wipe cX4_wipe 2 0 yX5_wipe cX5_wipe 2 0 [] σ := by
  have hW := h.2.1
  have hn_ := hW.1
  have hd := d_wipe g σ
  have he := fun (s : Sg) (hm : ∀ k, 40 < k → s k = σ k) => (by have q := e_wipe g σ s (h.S hm); rw [show s 41 10 = σ 24 1 from (congrFun (hm 41 (by decide)) 10).trans h.2.2.2.2.1.1.symm] at q; exact q : Mt g yX5_wipe cX5_wipe 2 (some FieldType.int) 0 [.ref (gA g 41)] s _)
  refine stp_X (σ1 := wr σ 24 1 0) (τ := wr (wr σ 24 1 0) 41 10 0) (F := fun s => wr s 41 10 0) (fun k hk => wr_n _ _ _ (by omega)) ?_ (fun k a b => by rw [wr_n _ _ _ (by omega), wr_n _ _ _ (by omega)]) (RW_at (fun k a => by rw [Nat.zero_add, wr_n _ _ _ (by omega), wr_n _ _ _ (by omega)]) hW) ?_ hd he
  · intro s hs k hk
    by_cases e : k = 41
    · subst e
      show up (s 41) 10 0 = up (wr σ 24 1 0 41) 10 0
      rw [hs 41 hk]
    · rw [wr_n _ _ _ e, wr_n _ _ _ e]
      exact hs k hk
  · obtain ⟨r1, r2, r3, r4, r5, r6, r7⟩ := h.2.2
    have o : ∀ k, k ≠ 24 → k ≠ 41 → wr (wr σ 24 1 0) 41 10 0 k = σ k := fun k a b => (wr_n _ _ _ b).trans (wr_n _ _ _ a)
    refine ⟨fun q => ⟨(r1 q).1.trans (mkS_cg (fun k a _ => (o (16 + k) (by omega) (by omega)).symm)), RW_at (fun k a => o (16 + k) (by omega) (by omega)) (r1 q).2⟩, r2, ⟨rfl, (show (0 : Int) ≤ 0 by decide), (show (0 : Int) ≤ 120 by decide)⟩, r4, r5, r6, ?_⟩
    intro s hs
    have g := r7 s hs
    unfold Sh at g ⊢
    rw [o (31 + 2 * s) (by omega) (by omega), o (32 + 2 * s) (by omega) (by omega)]
    exact g
theorem st_tear (g : Gt) (σ : Sg) (h : Rel σ) : LStp g yX4_tear cX4_tear 2 0 yX5_tear cX5_tear 2 0 [] σ := by
  have hW := h.2.1
  have hn_ := hW.1
  have hd := d_tear g σ (by have := h.2.2.2.1; omega)
  have he := fun (s : Sg) (hm : ∀ k, 40 < k → s k = σ k) => (by have q := e_tear g σ s (h.S hm) (by have := h.2.2.2.1; have e := congrFun (hm 41 (by decide)) 5; omega); rw [show s 41 5 = σ 40 3 from (congrFun (hm 41 (by decide)) 5).trans h.2.2.2.1.1.symm] at q; exact q : Mt g yX5_tear cX5_tear 2 (some FieldType.int) 0 [.ref (gA g 41)] s _)
  refine stp_X (σ1 := wr σ 40 3 0) (τ := wr (wr σ 40 3 0) 41 5 0) (F := fun s => wr s 41 5 0) (fun k hk => wr_n _ _ _ (by omega)) ?_ (fun k a b => by rw [wr_n _ _ _ (by omega), wr_n _ _ _ (by omega)]) (RW_at (fun k a => by rw [Nat.zero_add, wr_n _ _ _ (by omega), wr_n _ _ _ (by omega)]) hW) ?_ hd he
  · intro s hs k hk
    by_cases e : k = 41
    · subst e
      show up (s 41) 5 0 = up (wr σ 40 3 0 41) 5 0
      rw [hs 41 hk]
    · rw [wr_n _ _ _ e, wr_n _ _ _ e]
      exact hs k hk
  · obtain ⟨r1, r2, r3, r4, r5, r6, r7⟩ := h.2.2
    have o : ∀ k, k ≠ 40 → k ≠ 41 → wr (wr σ 40 3 0) 41 5 0 k = σ k := fun k a b => (wr_n _ _ _ b).trans (wr_n _ _ _ a)
    refine ⟨fun q => absurd (show (0 : Int) = 1 from q) (by decide), ⟨rfl, Or.inl rfl⟩, r3, r4, r5, r6, ?_⟩
    intro s hs
    have g := r7 s hs
    unfold Sh at g ⊢
    rw [o (31 + 2 * s) (by omega) (by omega), o (32 + 2 * s) (by omega) (by omega)]
    exact g
theorem st_feed (g : Gt) (v n : Int) (h_v : rng v) (h_n : rng n) (σ : Sg) (h : Rel σ) : LStp g yX4_feed cX4_feed 3 1 yX5_feed cX5_feed 4 2 [.int (iI v), .int (iI n)] σ := by
  have hW := h.2.1
  have hn_ := hW.1
  have hd := d_feed g v n h_v h_n σ h.2.2.2.2.1.2
  have he := fun (s : Sg) (hm : ∀ k, 40 < k → s k = σ k) => (by have q := e_feed g v n h_v h_n σ s (h.S hm) (by have := h.2.2.2.2.1; have e := congrFun (hm 41 (by decide)) 10; omega); rw [show s 41 10 = σ 24 1 from (congrFun (hm 41 (by decide)) 10).trans h.2.2.2.2.1.1.symm, show s 49 = σ 25 from (hm 49 (by decide)).trans h.2.2.2.2.2.1.1.symm] at q; exact q : Mt g yX5_feed cX5_feed 4 (some FieldType.int) 2 [.ref (gA g 41), .int (iI (v)), .int (iI (n))] s _)
  by_cases c55 : 1 ≤ n ∧ n ≤ 4
  · simp only [if_pos c55] at hd he
    by_cases c56 : 120 - n < σ 24 1
    · simp only [if_pos c56] at hd he
      exact stp_B 1 h hd he
    · simp only [if_neg c56] at hd he
      simp only [apM_is (show n.toNat ≤ 4 by omega) n.toNat (Nat.le_refl _)] at he
      refine stp_X (σ1 := wr (us σ 25 (apF v n.toNat (σ 24 1).toNat (σ 25) n.toNat)) 24 1 (σ 24 1 + (n.toNat : Int))) (τ := wr (us (wr (us σ 25 (apF v n.toNat (σ 24 1).toNat (σ 25) n.toNat)) 24 1 (σ 24 1 + (n.toNat : Int))) 49 (apF v n.toNat (σ 24 1).toNat (σ 25) n.toNat)) 41 10 (σ 24 1 + (n.toNat : Int))) (F := fun s => wr (us s 49 (apF v n.toNat (σ 24 1).toNat (σ 25) n.toNat)) 41 10 (σ 24 1 + (n.toNat : Int))) (fun k hk => (wr_n _ _ _ (by omega)).trans (us_n _ _ (by omega))) ?_ (fun k a b => by rw [wr_n _ _ _ (by omega), us_n _ _ (by omega), wr_n _ _ _ (by omega), us_n _ _ (by omega)]) (RW_at (fun k a => by rw [Nat.zero_add, wr_n _ _ _ (by omega), us_n _ _ (by omega), wr_n _ _ _ (by omega), us_n _ _ (by omega)]) hW) ?_ hd he
      · intro s hs k hk
        by_cases e : k = 41
        · subst e
          show up (s 41) 10 _ = up (σ 41) 10 _
          rw [hs 41 hk]
          rfl
        · rw [wr_n _ _ _ e, wr_n _ _ _ e]
          by_cases e2 : k = 49
          · subst e2
            rfl
          · rw [us_n _ _ e2, us_n _ _ e2]
            exact hs k hk
      · obtain ⟨r1, r2, r3, r4, r5, r6, r7⟩ := h.2.2
        generalize hAp : apF v n.toNat (σ 24 1).toNat (σ 25) n.toNat = P at *
        have hPr : ∀ j, j < 120 → 0 ≤ P j ∧ P j ≤ 255 := by rw [← hAp]; exact apF_rng (by omega) r4.2 n.toNat (Nat.le_refl _)
        have o : ∀ k, k ≠ 24 → k ≠ 41 → k ≠ 25 → k ≠ 49 → wr (us (wr (us σ 25 P) 24 1 (σ 24 1 + (n.toNat : Int))) 49 P) 41 10 (σ 24 1 + (n.toNat : Int)) k = σ k := fun k a b c d => (wr_n _ _ _ b).trans ((us_n _ _ d).trans ((wr_n _ _ _ a).trans (us_n _ _ c)))
        refine ⟨fun q => ⟨(r1 q).1.trans (mkS_cg (fun k a _ => (o (16 + k) (by omega) (by omega) (by omega) (by omega)).symm)), RW_at (fun k a => o (16 + k) (by omega) (by omega) (by omega) (by omega)) (r1 q).2⟩, r2, ⟨rfl, ?_, ?_⟩, ⟨rfl, hPr⟩, r5, r6, ?_⟩
        · show 0 ≤ σ 24 1 + (n.toNat : Int)
          omega
        · show σ 24 1 + (n.toNat : Int) ≤ 120
          omega
        intro s hs
        have g := r7 s hs
        unfold Sh at g ⊢
        rw [o (31 + 2 * s) (by omega) (by omega) (by omega) (by omega), o (32 + 2 * s) (by omega) (by omega) (by omega) (by omega)]
        exact g
  · simp only [if_neg c55] at hd he
    exact stp_B 0 h hd he
theorem st_image (g : Gt) (σ : Sg) (h : Rel σ) : LStp g yX4_image cX4_image 1 2 yX5_image cX5_image 2 0 [] σ := by
  have hW := h.2.1
  have hn_ := hW.1
  have hd := d_image g σ
  have he := fun (s : Sg) (hm : ∀ k, 40 < k → s k = σ k) => e_image g σ s (h.S hm)
  refine stp_X (σ1 := wr (bc_16_0 σ) 40 3 1) (τ := wr (us (wr (bc_16_0 σ) 40 3 1) 43 (mkS σ)) 41 5 1) (F := fun s => wr (us s 43 (mkS σ)) 41 5 1) (fun k hk => (wr_n _ _ _ (by omega)).trans (bc16_o σ (by omega))) ?_ (fun k a b => by rw [wr_n _ _ _ (by omega), us_n _ _ (by omega), wr_n _ _ _ (by omega), bc16_o σ (by omega)]) (RW_at (fun k a => by rw [Nat.zero_add, wr_n _ _ _ (by omega), us_n _ _ (by omega), wr_n _ _ _ (by omega), bc16_o σ (by omega)]) hW) ?_ hd he
  · intro s hs k hk
    by_cases e : k = 41
    · subst e
      show up (s 41) 5 1 = up ((wr (bc_16_0 σ) 40 3 1) 41) 5 1
      rw [hs 41 hk]
    · rw [wr_n _ _ _ e, wr_n _ _ _ e]
      by_cases e2 : k = 43
      · subst e2
        rfl
      · rw [us_n _ _ e2, us_n _ _ e2]
        exact hs k hk
  · obtain ⟨r1, r2, r3, r4, r5, r6, r7⟩ := h.2.2
    have o : ∀ k, k ≠ 40 → k ≠ 41 → k ≠ 43 → (k < 16 ∨ 24 ≤ k) → wr (us (wr (bc_16_0 σ) 40 3 1) 43 (mkS σ)) 41 5 1 k = σ k := fun k a b c d => (wr_n _ _ _ b).trans ((us_n _ _ c).trans ((wr_n _ _ _ a).trans (bc16_o σ d)))
    have o2 : ∀ k, k < 8 → wr (us (wr (bc_16_0 σ) 40 3 1) 43 (mkS σ)) 41 5 1 (16 + k) = bc_16_0 σ (16 + k) := fun k a => (wr_n _ _ _ (by omega)).trans ((us_n _ _ (by omega)).trans (wr_n _ _ _ (by omega)))
    refine ⟨fun _ => ⟨mkS_cg (fun k a b => ((o2 k a).trans (bc16_k σ k a b)).symm), RW_at (fun k a => o2 k a) (RW_to16 hW)⟩, ⟨rfl, Or.inr rfl⟩, r3, r4, r5, r6, ?_⟩
    intro s hs
    have g := r7 s hs
    unfold Sh at g ⊢
    rw [o (31 + 2 * s) (by omega) (by omega) (by omega) (by omega), o (32 + 2 * s) (by omega) (by omega) (by omega) (by omega)]
    exact g
theorem st_undo (g : Gt) (σ : Sg) (h : Rel σ) : LStp g yX4_undo cX4_undo 1 2 yX5_undo cX5_undo 2 1 [] σ := by
  have hW := h.2.1
  have hk := h.2.2.2.1
  have hd := d_undo g σ (by omega)
  by_cases c : σ 40 3 = 0
  · simp only [if_pos c] at hd
    have he := fun (s : Sg) (hm : ∀ k, 40 < k → s k = σ k) => e_undo g (fun k j => s 43 (ivS k j)) σ s (h.S hm) (mkS_all (s 43)) (by have e := congrFun (hm 41 (by decide)) 5; omega)
    refine stp_B (x := -1000001 - ((3 : Nat) : Int)) 3 h hd (fun s hm => ?_)
    have q := he s hm
    have e : s 41 5 = 0 := by have e := congrFun (hm 41 (by decide)) 5; omega
    simp only [if_pos e] at q
    exact q
  · simp only [if_neg c] at hd
    have h1 := h.2.2.1 (by omega)
    refine stp_C (σ1 := bc_0_16 σ) (ρ1 := Kp σ) h (fun k hk => bc016_o σ (by omega)) (bc016_k σ) (RW_16 h1.2) hd (fun s hm => ?_)
    have q := e_undo g (Kp σ) σ s (h.S hm) ((hm 43 (by decide)).trans h1.1) (by have e := congrFun (hm 41 (by decide)) 5; omega)
    have e : ¬ s 41 5 = 0 := by have e := congrFun (hm 41 (by decide)) 5; omega
    simp only [if_neg e] at q
    exact q
