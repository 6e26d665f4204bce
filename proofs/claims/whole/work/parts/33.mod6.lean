theorem bitc_step {x : Int} (h : 0 < x ∧ x ≤ 4095) : bitc x = 1 + bitc (band x (x - 1)) ∧ 0 ≤ band x (x - 1) ∧ band x (x - 1) < x := by
  have h1 : ∀ a, a < 64 → ∀ b, b < 64 → (64 * a + b = 0 ∨ (bitc ((64 * a + b : Nat) : Int) = 1 + bitc (band ((64 * a + b : Nat) : Int) (((64 * a + b : Nat) : Int) - 1)) ∧ 0 ≤ band ((64 * a + b : Nat) : Int) (((64 * a + b : Nat) : Int) - 1) ∧ band ((64 * a + b : Nat) : Int) (((64 * a + b : Nat) : Int) - 1) < ((64 * a + b : Nat) : Int))) := by decide +kernel
  have h2 := h1 (x.toNat / 64) (by omega) (x.toNat % 64) (by omega)
  rw [show ((64 * (x.toNat / 64) + x.toNat % 64 : Nat) : Int) = x by omega] at h2
  rcases h2 with h3 | h3
  · omega
  · exact h3
theorem bitc_0 : bitc 0 = 0 := by decide +kernel
theorem bshl_1 {n : Int} (h : 0 ≤ n ∧ n ≤ 8) : bshl 1 n = ((2 ^ n.toNat : Nat) : Int) ∧ 1 ≤ 2 ^ n.toNat ∧ 2 ^ n.toNat ≤ 256 := by
  rcases (show n = 0 ∨ n = 1 ∨ n = 2 ∨ n = 3 ∨ n = 4 ∨ n = 5 ∨ n = 6 ∨ n = 7 ∨ n = 8 by omega) with rfl | rfl | rfl | rfl | rfl | rfl | rfl | rfl | rfl <;> decide +kernel
/-- the best of some, one of them left out; -1: none -/
def bstM (V : Int → Int) (t : Nat) : Nat → Int × Int
  | 0 => (-1, -1)
  | i + 1 => if i ≠ t ∧ (bstM V t i).2 < V (i : Int) then ((i : Int), V (i : Int)) else bstM V t i
theorem bstM_rng {V : Int → Int} {t : Nat} {m : Int} (hm : 0 ≤ m) : ∀ i : Nat, (∀ j : Nat, j < i → 0 ≤ V (j : Int) ∧ V (j : Int) ≤ m) → (-1 ≤ (bstM V t i).2 ∧ (bstM V t i).2 ≤ m) ∧ -1 ≤ (bstM V t i).1 ∧ (bstM V t i).1 < i
  | 0, _ => by
    show (-1 ≤ (-1 : Int) ∧ (-1 : Int) ≤ m) ∧ -1 ≤ (-1 : Int) ∧ (-1 : Int) < ((0 : Nat) : Int)
    omega
  | i + 1, h => by
    have ih := bstM_rng (t := t) hm i (fun j hj => h j (by omega))
    have h1 := h i (by omega)
    unfold bstM
    split
    · show (-1 ≤ V (i : Int) ∧ V (i : Int) ≤ m) ∧ -1 ≤ (i : Int) ∧ (i : Int) < ((i + 1 : Nat) : Int)
      omega
    · omega
theorem bstM_X {V : Int → Int} {t : Nat} : ∀ i : Nat, (∀ j : Nat, j < i → 0 ≤ V (j : Int)) → ((∀ j : Nat, j < i → j = t) ∧ bstM V t i = (-1, -1) ∧ bstX V t i = (0, -1)) ∨ (0 ≤ (bstM V t i).2 ∧ 0 ≤ (bstM V t i).1 ∧ bstM V t i = bstX V t i ∧ ∃ j : Nat, j < i ∧ j ≠ t)
  | 0, _ => Or.inl ⟨fun j hj => absurd hj (Nat.not_lt_zero _), rfl, rfl⟩
  | i + 1, h => by
    have h1 := h i (by omega)
    rcases bstM_X (V := V) (t := t) i (fun j hj => h j (by omega)) with ⟨a, b, c⟩ | ⟨a, a2, b, j, hj, hj2⟩
    · by_cases ht : i = t
      · left
        refine ⟨fun j hj => ?_, ?_, ?_⟩
        · by_cases e : j = i
          · omega
          · exact a j (by omega)
        · rw [bstM, if_neg (fun q => q.1 ht), b]
        · rw [bstX, if_neg (fun q => q.1 ht), c]
      · right
        have e1 : bstM V t (i + 1) = ((i : Int), V (i : Int)) := by
          rw [bstM, b, if_pos ⟨ht, by show (-1 : Int) < V (i : Int); omega⟩]
        have e2 : bstX V t (i + 1) = ((i : Int), V (i : Int)) := by
          rw [bstX, c, if_pos ⟨ht, by show (-1 : Int) < V (i : Int); omega⟩]
        rw [e1, e2]
        exact ⟨h1, by show (0 : Int) ≤ (i : Int); omega, rfl, i, by omega, ht⟩
    · right
      by_cases q : i ≠ t ∧ (bstM V t i).2 < V (i : Int)
      · have e1 : bstM V t (i + 1) = ((i : Int), V (i : Int)) := by rw [bstM, if_pos q]
        have e2 : bstX V t (i + 1) = ((i : Int), V (i : Int)) := by
          rw [bstX, ← b, if_pos q]
        rw [e1, e2]
        exact ⟨h1, by show (0 : Int) ≤ (i : Int); omega, rfl, i, by omega, q.1⟩
      · have e1 : bstM V t (i + 1) = bstM V t i := by rw [bstM, if_neg q]
        have e2 : bstX V t (i + 1) = bstX V t i := by
          rw [bstX, ← b, if_neg q]
        rw [e1, e2]
        exact ⟨a, a2, b, j, by omega, hj2⟩
theorem sw_back {ρ : Sg} {x y : Nat} (h : x ≠ y) : wr (wr (wr (wr ρ 4 x (ρ 4 y)) 4 y (ρ 4 x)) 4 x ((wr (wr ρ 4 x (ρ 4 y)) 4 y (ρ 4 x)) 4 y)) 4 y ((wr (wr ρ 4 x (ρ 4 y)) 4 y (ρ 4 x)) 4 x) = ρ := by
  funext k
  by_cases hk : k = 4
  · subst hk
    funext j
    simp only [wr, us_s, up]
    by_cases h1 : j = y
    · subst h1
      simp [Ne.symm h, h]
    · by_cases h2 : j = x
      · subst h2
        simp [h, h1]
      · simp [h1, h2]
  · rw [wr_n _ _ _ hk, wr_n _ _ _ hk, wr_n _ _ _ hk, wr_n _ _ _ hk]
theorem dw_back {σ s : Sg} {m : Int} (h : ∀ k, (k ≠ 42 ∧ k ≠ 44 ∧ k ≠ 45 ∧ k ≠ 47 ∧ k ≠ 48 ∧ k ≠ 53) → s k = wr σ 41 6 m k) (h6 : σ 41 6 = 255) : ∀ k, (k ≠ 42 ∧ k ≠ 44 ∧ k ≠ 45 ∧ k ≠ 47 ∧ k ≠ 48 ∧ k ≠ 53) → wr s 41 6 255 k = σ k := by
  intro k hk
  by_cases h1 : k = 41
  · subst h1
    rw [wr_s, h 41 hk, wr_s, up_up, ← h6, up_id]
  · rw [wr_n _ _ _ h1, h k hk, wr_n _ _ _ h1]
/-- the fewest brooms, as the model goes about them -/
def brL (V : Int → Int) (v : Int) : Nat → Int
  | 0 => -1
  | i + 1 => if (brL V v i < 0 ∨ bitc (i : Int) < bitc (brL V v i)) ∧ V (i : Int) ≤ v then (i : Int) else brL V v i
theorem brL_rng (V : Int → Int) (v : Int) : ∀ i, -1 ≤ brL V v i ∧ brL V v i < i
  | 0 => by
    show -1 ≤ (-1 : Int) ∧ (-1 : Int) < ((0 : Nat) : Int)
    omega
  | i + 1 => by
    have ih := brL_rng V v i
    unfold brL
    split <;> omega
set_option maxHeartbeats 4000000 in
set_option maxRecDepth 100000 in
theorem c_richestBy (g : Gt) (p k j : Nat) (hp : p < 147) (hc : cidx p = (k, j)) (lo hi : Int) (hlo : -3 ≤ lo ∧ lo ≤ hi ∧ hi ≤ 11) (t n : Nat) (ht : t < 8) (hn2 : n ≤ 60) (ρ σ : Sg) (hS : σ 42 = mkS ρ) (hR : ∀ c, (lo ≤ c ∧ c ≤ hi) → RM_ (wr ρ k j c)) (h6 : σ 41 6 = 255) : Mt g yX5_richestBy cX5_richestBy 11 (some FieldType.int) 7 [.ref (gA g 41), .int (iI ((p : Int))), .int (iI (lo)), .int (iI (hi)), .int (iI ((t : Int))), .int (iI ((n : Int)))] σ (pM (bst (vR ρ k j n t) lo (hi - lo + 1).toNat).1 ρ σ) := by
  refine mt_of (own := RX5) (by decide) rfl (Nat.le_of_ble_eq_true rfl) (fun E C => ?_)
  show J g E (pM (bst (vR ρ k j n t) lo (hi - lo + 1).toNat).1 ρ σ) 11 0 [(0, .ref (gA g 41)), (1, .int (iI ((p : Int)))), (2, .int (iI (lo))), (3, .int (iI (hi))), (4, .int (iI ((t : Int)))), (5, .int (iI ((n : Int))))] [] σ
  refine r_aload_n (pc := 0) C dX5_richestBy_0 rfl 0 rfl ?_
  refine r_getR5 (pc := 1) C 0 (k' := 42) rfl O_41 (by decide) rfl t_780 dX5_richestBy_1 ?_
  refine r_iload_n (pc := 4) C dX5_richestBy_4 rfl 1 rfl ?_
  refine r_iald (pc := 5) C p A_42 (by omega) (by omega) dX5_richestBy_5 ?_
  refine r_top (show _ = ρ k j from (congrFun hS _).trans (mkS_at hc)) ?_
  refine r_istore (pc := 6) C dX5_richestBy_6 (by decide) [1, 2, 3, 4, 5, 6, 0] (lv' := [(0, .ref (gA g 41)), (1, .int (iI ((p : Int)))), (2, .int (iI (lo))), (3, .int (iI (hi))), (4, .int (iI ((t : Int)))), (5, .int (iI ((n : Int)))), (6, .int (iI (ρ k j)))]) rfl ?_
  refine r_iload_n (pc := 8) C dX5_richestBy_8 rfl 2 rfl ?_
  refine r_istore (pc := 9) C dX5_richestBy_9 (by decide) [1, 2, 3, 4, 5, 6, 7, 0] (lv' := [(0, .ref (gA g 41)), (1, .int (iI ((p : Int)))), (2, .int (iI (lo))), (3, .int (iI (hi))), (4, .int (iI ((t : Int)))), (5, .int (iI ((n : Int)))), (6, .int (iI (ρ k j))), (7, .int (iI (lo)))]) rfl ?_
  refine r_iconst (pc := 11) C dX5_richestBy_11 ?_
  refine r_istore (pc := 12) C dX5_richestBy_12 (by decide) [1, 2, 3, 4, 5, 6, 7, 8, 0] (lv' := [(0, .ref (gA g 41)), (1, .int (iI ((p : Int)))), (2, .int (iI (lo))), (3, .int (iI (hi))), (4, .int (iI ((t : Int)))), (5, .int (iI ((n : Int)))), (6, .int (iI (ρ k j))), (7, .int (iI (lo))), (8, .int (iI ((-1))))]) rfl ?_
  refine r_iload_n (pc := 14) C dX5_richestBy_14 rfl 2 rfl ?_
  refine r_istore (pc := 15) C dX5_richestBy_15 (by decide) [1, 2, 3, 4, 5, 6, 7, 8, 9, 0] (lv' := [(0, .ref (gA g 41)), (1, .int (iI ((p : Int)))), (2, .int (iI (lo))), (3, .int (iI (hi))), (4, .int (iI ((t : Int)))), (5, .int (iI ((n : Int)))), (6, .int (iI (ρ k j))), (7, .int (iI (lo))), (8, .int (iI ((-1)))), (9, .int (iI (lo)))]) rfl ?_
  have L17 : ∀ (n_ : Nat) (i : Nat) (v : Int) (x17_7 x17_8 x17_9 : Int) (s17 : Sg), (hi - lo + 1).toNat - i < n_ → (lo + (i : Int) ≤ hi + 1) → (s17 42 = mkS (wr ρ k j v)) → (∀ c, (c ≠ 42 ∧ c ≠ 44 ∧ c ≠ 45 ∧ c ≠ 47 ∧ c ≠ 48 ∧ c ≠ 53) → s17 c = σ c) → x17_7 = (bst (vR ρ k j n t) lo i).1 → x17_8 = (bst (vR ρ k j n t) lo i).2 → x17_9 = lo + (i : Int) → J g E (pM (bst (vR ρ k j n t) lo (hi - lo + 1).toNat).1 ρ σ) 11 17 [(0, .ref (gA g 41)), (1, .int (iI ((p : Int)))), (2, .int (iI (lo))), (3, .int (iI (hi))), (4, .int (iI ((t : Int)))), (5, .int (iI ((n : Int)))), (6, .int (iI (ρ k j))), (7, .int (iI (x17_7))), (8, .int (iI (x17_8))), (9, .int (iI (x17_9)))] [] s17 := by
    intro n_
    induction n_ with
    | zero => intro i v x17_7 x17_8 x17_9 s17 hm_; exact absurd hm_ (Nat.not_lt_zero _)
    | succ n_ ih17 =>
      intro i v x17_7 x17_8 x17_9 s17 hm17 hi17_0 hi17_1 hi17_2 e17_0 e17_1 e17_2 
      subst e17_0 e17_1 e17_2 
      have hb := bst_rng (V := (vR ρ k j n t)) (a := lo) (m := 99999) (by omega) i (fun q hq => vR_rng (hR (lo + (q : Int)) (by omega)) ht)
      refine r_iload (pc := 17) C dX5_richestBy_17 9 rfl ?_
      refine r_iload_n (pc := 19) C dX5_richestBy_19 rfl 3 rfl ?_
      refine r_icmp_gt (pc := 20) C 79 ⟨by omega, by omega⟩ ⟨by omega, by omega⟩ dX5_richestBy_20 (by decide) (fun h20 => ?_) (fun h20 => ?_)
      · skip
        refine r_aload_n (pc := 79) C dX5_richestBy_79 rfl 0 rfl ?_
        refine r_getR5 (pc := 80) C 0 (k' := 42) rfl O_41 (by decide) rfl t_780 dX5_richestBy_80 ?_
        refine r_iload_n (pc := 83) C dX5_richestBy_83 rfl 1 rfl ?_
        refine r_iload (pc := 84) C dX5_richestBy_84 6 rfl ?_
        refine r_iast (pc := 86) C p A_42 (by omega) (by omega) dX5_richestBy_86 ?_
        refine r_sg (wrS hi17_1 hc) ?_
        refine r_iload (pc := 87) C dX5_richestBy_87 7 rfl ?_
        exact r_retM (pc := 89) C (by rw [show i = (hi - lo + 1).toNat by omega]) ((us_s _ _ _).trans (congrArg mkS (wr_back _ _ _ _))) (fun k hk => (us_n _ _ hk.1).trans (hi17_2 k hk)) dX5_richestBy_89
      · skip
        refine r_aload_n (pc := 23) C dX5_richestBy_23 rfl 0 rfl ?_
        refine r_getR5 (pc := 24) C 0 (k' := 42) rfl O_41 (by decide) rfl t_780 dX5_richestBy_24 ?_
        refine r_iload_n (pc := 27) C dX5_richestBy_27 rfl 1 rfl ?_
        refine r_iload (pc := 28) C dX5_richestBy_28 9 rfl ?_
        refine r_iast (pc := 30) C p A_42 (by omega) (by omega) dX5_richestBy_30 ?_
        refine r_sg (wrS hi17_1 hc) ?_
        refine r_sg (congrArg (fun q => us s17 42 (mkS q)) (wr_wr _ _ _ _ _)) ?_
        refine r_aload_n (pc := 31) C dX5_richestBy_31 rfl 0 rfl ?_
        refine r_iload (pc := 32) C dX5_richestBy_32 4 rfl ?_
        refine r_iload (pc := 34) C dX5_richestBy_34 5 rfl ?_
        refine r_cVm (pc := 36) C (c_goodsBehind g t n ht (by omega) (wr ρ k j (lo + (i : Int))) (us s17 42 (mkS (wr ρ k j (lo + (i : Int))))) (us_s _ _ _) (hR (lo + (i : Int)) (by omega)) ((us_o2 _ _ _ (by decide)).trans ((congrFun (hi17_2 41 (by decide)) 6).trans h6))) yX5_goodsBehind_w O_41 rfl rfl t_1036 ⟨by decide, by decide⟩ (Nat.le_of_ble_eq_true rfl) rfl dX5_richestBy_36 (fun s36 hm36_ hT36 => ?_)
        refine r_top (show _ = vR ρ k j n t (lo + (i : Int)) from rfl) ?_
        have hv := vR_rng (n := n) (hR (lo + (i : Int)) (by omega)) ht
        refine r_istore (pc := 39) C dX5_richestBy_39 (by decide) [1, 2, 3, 4, 5, 6, 7, 8, 9, 10, 0] (lv' := [(0, .ref (gA g 41)), (1, .int (iI ((p : Int)))), (2, .int (iI (lo))), (3, .int (iI (hi))), (4, .int (iI ((t : Int)))), (5, .int (iI ((n : Int)))), (6, .int (iI (ρ k j))), (7, .int (iI ((bst (vR ρ k j n t) lo i).1))), (8, .int (iI ((bst (vR ρ k j n t) lo i).2))), (9, .int (iI (lo + (i : Int)))), (10, .int (iI (vR ρ k j n t (lo + (i : Int)))))]) rfl ?_
        refine r_iload (pc := 41) C dX5_richestBy_41 10 rfl ?_
        refine r_iload (pc := 43) C dX5_richestBy_43 8 rfl ?_
        refine r_icmp_le (pc := 45) C 53 ⟨by omega, by omega⟩ ⟨by omega, by omega⟩ dX5_richestBy_45 (by decide) (fun h45 => ?_) (fun h45 => ?_)
        · skip
          refine r_iload (pc := 53) C dX5_richestBy_53 7 rfl ?_
          refine r_istore (pc := 55) C dX5_richestBy_55 (by decide) [1, 2, 3, 4, 5, 6, 7, 0, 8, 9, 10] (lv' := [(0, .ref (gA g 41)), (1, .int (iI ((p : Int)))), (2, .int (iI (lo))), (3, .int (iI (hi))), (4, .int (iI ((t : Int)))), (5, .int (iI ((n : Int)))), (6, .int (iI (ρ k j))), (7, .int (iI ((bst (vR ρ k j n t) lo i).1))), (8, .int (iI ((bst (vR ρ k j n t) lo i).2))), (9, .int (iI (lo + (i : Int)))), (10, .int (iI (vR ρ k j n t (lo + (i : Int)))))]) rfl ?_
          refine r_iload (pc := 57) C dX5_richestBy_57 10 rfl ?_
          refine r_iload (pc := 59) C dX5_richestBy_59 8 rfl ?_
          refine r_icmp_le (pc := 61) C 69 ⟨by omega, by omega⟩ ⟨by omega, by omega⟩ dX5_richestBy_61 (by decide) (fun h61 => ?_) (fun h61 => ?_)
          · skip
            refine r_iload (pc := 69) C dX5_richestBy_69 8 rfl ?_
            refine r_istore (pc := 71) C dX5_richestBy_71 (by decide) [1, 2, 3, 4, 5, 6, 7, 8, 0, 9, 10] (lv' := [(0, .ref (gA g 41)), (1, .int (iI ((p : Int)))), (2, .int (iI (lo))), (3, .int (iI (hi))), (4, .int (iI ((t : Int)))), (5, .int (iI ((n : Int)))), (6, .int (iI (ρ k j))), (7, .int (iI ((bst (vR ρ k j n t) lo i).1))), (8, .int (iI ((bst (vR ρ k j n t) lo i).2))), (9, .int (iI (lo + (i : Int)))), (10, .int (iI (vR ρ k j n t (lo + (i : Int)))))]) rfl ?_
            refine r_iinc (pc := 73) C dX5_richestBy_73 9 rfl (by decide) [1, 2, 3, 4, 5, 6, 7, 8, 9, 0, 10] (lv' := [(0, .ref (gA g 41)), (1, .int (iI ((p : Int)))), (2, .int (iI (lo))), (3, .int (iI (hi))), (4, .int (iI ((t : Int)))), (5, .int (iI ((n : Int)))), (6, .int (iI (ρ k j))), (7, .int (iI ((bst (vR ρ k j n t) lo i).1))), (8, .int (iI ((bst (vR ρ k j n t) lo i).2))), (9, .int (iI ((lo + (i : Int)) + 1))), (10, .int (iI (vR ρ k j n t (lo + (i : Int)))))]) rfl ?_
            refine r_goto (pc := 76) C 17 dX5_richestBy_76 (by decide) ?_
            refine r_lv [0, 1, 2, 3, 4, 5, 6, 7, 8, 9] (lv' := [(0, .ref (gA g 41)), (1, .int (iI ((p : Int)))), (2, .int (iI (lo))), (3, .int (iI (hi))), (4, .int (iI ((t : Int)))), (5, .int (iI ((n : Int)))), (6, .int (iI (ρ k j))), (7, .int (iI ((bst (vR ρ k j n t) lo i).1))), (8, .int (iI ((bst (vR ρ k j n t) lo i).2))), (9, .int (iI ((lo + (i : Int)) + 1)))]) rfl ?_
            exact ih17 (i + 1) (lo + (i : Int)) _ _ _ _ (by omega) (by omega) (by exact hm36_) (by exact fun c hc => (hT36 c hc).trans ((us_n _ _ hc.1).trans (hi17_2 c hc))) (by first | (exfalso; omega; done) | (rw [bst, if_pos (by omega)]; done) | (rw [bst, if_neg (by omega)]; done)) (by first | (exfalso; omega; done) | (rw [bst, if_pos (by omega)]; done) | (rw [bst, if_neg (by omega)]; done)) (by omega)
          · skip
            refine r_iload (pc := 64) C dX5_richestBy_64 10 rfl ?_
            refine r_goto (pc := 66) C 71 dX5_richestBy_66 (by decide) ?_
            refine r_istore (pc := 71) C dX5_richestBy_71 (by decide) [1, 2, 3, 4, 5, 6, 7, 8, 0, 9, 10] (lv' := [(0, .ref (gA g 41)), (1, .int (iI ((p : Int)))), (2, .int (iI (lo))), (3, .int (iI (hi))), (4, .int (iI ((t : Int)))), (5, .int (iI ((n : Int)))), (6, .int (iI (ρ k j))), (7, .int (iI ((bst (vR ρ k j n t) lo i).1))), (8, .int (iI (vR ρ k j n t (lo + (i : Int))))), (9, .int (iI (lo + (i : Int)))), (10, .int (iI (vR ρ k j n t (lo + (i : Int)))))]) rfl ?_
            refine r_iinc (pc := 73) C dX5_richestBy_73 9 rfl (by decide) [1, 2, 3, 4, 5, 6, 7, 8, 9, 0, 10] (lv' := [(0, .ref (gA g 41)), (1, .int (iI ((p : Int)))), (2, .int (iI (lo))), (3, .int (iI (hi))), (4, .int (iI ((t : Int)))), (5, .int (iI ((n : Int)))), (6, .int (iI (ρ k j))), (7, .int (iI ((bst (vR ρ k j n t) lo i).1))), (8, .int (iI (vR ρ k j n t (lo + (i : Int))))), (9, .int (iI ((lo + (i : Int)) + 1))), (10, .int (iI (vR ρ k j n t (lo + (i : Int)))))]) rfl ?_
            refine r_goto (pc := 76) C 17 dX5_richestBy_76 (by decide) ?_
            refine r_lv [0, 1, 2, 3, 4, 5, 6, 7, 8, 9] (lv' := [(0, .ref (gA g 41)), (1, .int (iI ((p : Int)))), (2, .int (iI (lo))), (3, .int (iI (hi))), (4, .int (iI ((t : Int)))), (5, .int (iI ((n : Int)))), (6, .int (iI (ρ k j))), (7, .int (iI ((bst (vR ρ k j n t) lo i).1))), (8, .int (iI (vR ρ k j n t (lo + (i : Int))))), (9, .int (iI ((lo + (i : Int)) + 1)))]) rfl ?_
            exact ih17 (i + 1) (lo + (i : Int)) _ _ _ _ (by omega) (by omega) (by exact hm36_) (by exact fun c hc => (hT36 c hc).trans ((us_n _ _ hc.1).trans (hi17_2 c hc))) (by first | (exfalso; omega; done) | (rw [bst, if_pos (by omega)]; done) | (rw [bst, if_neg (by omega)]; done)) (by first | (exfalso; omega; done) | (rw [bst, if_pos (by omega)]; done) | (rw [bst, if_neg (by omega)]; done)) (by omega)
        · skip
          refine r_iload (pc := 48) C dX5_richestBy_48 9 rfl ?_
          refine r_goto (pc := 50) C 55 dX5_richestBy_50 (by decide) ?_
          refine r_istore (pc := 55) C dX5_richestBy_55 (by decide) [1, 2, 3, 4, 5, 6, 7, 0, 8, 9, 10] (lv' := [(0, .ref (gA g 41)), (1, .int (iI ((p : Int)))), (2, .int (iI (lo))), (3, .int (iI (hi))), (4, .int (iI ((t : Int)))), (5, .int (iI ((n : Int)))), (6, .int (iI (ρ k j))), (7, .int (iI (lo + (i : Int)))), (8, .int (iI ((bst (vR ρ k j n t) lo i).2))), (9, .int (iI (lo + (i : Int)))), (10, .int (iI (vR ρ k j n t (lo + (i : Int)))))]) rfl ?_
          refine r_iload (pc := 57) C dX5_richestBy_57 10 rfl ?_
          refine r_iload (pc := 59) C dX5_richestBy_59 8 rfl ?_
          refine r_icmp_le (pc := 61) C 69 ⟨by omega, by omega⟩ ⟨by omega, by omega⟩ dX5_richestBy_61 (by decide) (fun h61 => ?_) (fun h61 => ?_)
          · skip
            refine r_iload (pc := 69) C dX5_richestBy_69 8 rfl ?_
            refine r_istore (pc := 71) C dX5_richestBy_71 (by decide) [1, 2, 3, 4, 5, 6, 7, 8, 0, 9, 10] (lv' := [(0, .ref (gA g 41)), (1, .int (iI ((p : Int)))), (2, .int (iI (lo))), (3, .int (iI (hi))), (4, .int (iI ((t : Int)))), (5, .int (iI ((n : Int)))), (6, .int (iI (ρ k j))), (7, .int (iI (lo + (i : Int)))), (8, .int (iI ((bst (vR ρ k j n t) lo i).2))), (9, .int (iI (lo + (i : Int)))), (10, .int (iI (vR ρ k j n t (lo + (i : Int)))))]) rfl ?_
            refine r_iinc (pc := 73) C dX5_richestBy_73 9 rfl (by decide) [1, 2, 3, 4, 5, 6, 7, 8, 9, 0, 10] (lv' := [(0, .ref (gA g 41)), (1, .int (iI ((p : Int)))), (2, .int (iI (lo))), (3, .int (iI (hi))), (4, .int (iI ((t : Int)))), (5, .int (iI ((n : Int)))), (6, .int (iI (ρ k j))), (7, .int (iI (lo + (i : Int)))), (8, .int (iI ((bst (vR ρ k j n t) lo i).2))), (9, .int (iI ((lo + (i : Int)) + 1))), (10, .int (iI (vR ρ k j n t (lo + (i : Int)))))]) rfl ?_
            refine r_goto (pc := 76) C 17 dX5_richestBy_76 (by decide) ?_
            refine r_lv [0, 1, 2, 3, 4, 5, 6, 7, 8, 9] (lv' := [(0, .ref (gA g 41)), (1, .int (iI ((p : Int)))), (2, .int (iI (lo))), (3, .int (iI (hi))), (4, .int (iI ((t : Int)))), (5, .int (iI ((n : Int)))), (6, .int (iI (ρ k j))), (7, .int (iI (lo + (i : Int)))), (8, .int (iI ((bst (vR ρ k j n t) lo i).2))), (9, .int (iI ((lo + (i : Int)) + 1)))]) rfl ?_
            exact ih17 (i + 1) (lo + (i : Int)) _ _ _ _ (by omega) (by omega) (by exact hm36_) (by exact fun c hc => (hT36 c hc).trans ((us_n _ _ hc.1).trans (hi17_2 c hc))) (by first | (exfalso; omega; done) | (rw [bst, if_pos (by omega)]; done) | (rw [bst, if_neg (by omega)]; done)) (by first | (exfalso; omega; done) | (rw [bst, if_pos (by omega)]; done) | (rw [bst, if_neg (by omega)]; done)) (by omega)
          · skip
            refine r_iload (pc := 64) C dX5_richestBy_64 10 rfl ?_
            refine r_goto (pc := 66) C 71 dX5_richestBy_66 (by decide) ?_
            refine r_istore (pc := 71) C dX5_richestBy_71 (by decide) [1, 2, 3, 4, 5, 6, 7, 8, 0, 9, 10] (lv' := [(0, .ref (gA g 41)), (1, .int (iI ((p : Int)))), (2, .int (iI (lo))), (3, .int (iI (hi))), (4, .int (iI ((t : Int)))), (5, .int (iI ((n : Int)))), (6, .int (iI (ρ k j))), (7, .int (iI (lo + (i : Int)))), (8, .int (iI (vR ρ k j n t (lo + (i : Int))))), (9, .int (iI (lo + (i : Int)))), (10, .int (iI (vR ρ k j n t (lo + (i : Int)))))]) rfl ?_
            refine r_iinc (pc := 73) C dX5_richestBy_73 9 rfl (by decide) [1, 2, 3, 4, 5, 6, 7, 8, 9, 0, 10] (lv' := [(0, .ref (gA g 41)), (1, .int (iI ((p : Int)))), (2, .int (iI (lo))), (3, .int (iI (hi))), (4, .int (iI ((t : Int)))), (5, .int (iI ((n : Int)))), (6, .int (iI (ρ k j))), (7, .int (iI (lo + (i : Int)))), (8, .int (iI (vR ρ k j n t (lo + (i : Int))))), (9, .int (iI ((lo + (i : Int)) + 1))), (10, .int (iI (vR ρ k j n t (lo + (i : Int)))))]) rfl ?_
            refine r_goto (pc := 76) C 17 dX5_richestBy_76 (by decide) ?_
            refine r_lv [0, 1, 2, 3, 4, 5, 6, 7, 8, 9] (lv' := [(0, .ref (gA g 41)), (1, .int (iI ((p : Int)))), (2, .int (iI (lo))), (3, .int (iI (hi))), (4, .int (iI ((t : Int)))), (5, .int (iI ((n : Int)))), (6, .int (iI (ρ k j))), (7, .int (iI (lo + (i : Int)))), (8, .int (iI (vR ρ k j n t (lo + (i : Int))))), (9, .int (iI ((lo + (i : Int)) + 1)))]) rfl ?_
            exact ih17 (i + 1) (lo + (i : Int)) _ _ _ _ (by omega) (by omega) (by exact hm36_) (by exact fun c hc => (hT36 c hc).trans ((us_n _ _ hc.1).trans (hi17_2 c hc))) (by first | (exfalso; omega; done) | (rw [bst, if_pos (by omega)]; done) | (rw [bst, if_neg (by omega)]; done)) (by first | (exfalso; omega; done) | (rw [bst, if_pos (by omega)]; done) | (rw [bst, if_neg (by omega)]; done)) (by omega)
  exact L17 _ 0 (ρ k j) _ _ _ _ (Nat.lt_succ_self _) (by omega) (by rw [wr_idd]; exact hS) (by exact fun _ _ => rfl) (rfl) (rfl) (by omega)
set_option maxHeartbeats 4000000 in
set_option maxRecDepth 100000 in
theorem e_seat (g : Gt) (x n : Int) (h_x : rng x) (h_n : rng n) (ρ σ : Sg) (hS : σ 42 = mkS ρ) (hW : RW ρ 0) (h6 : σ 41 6 = 255) : Mt g yX5_seat cX5_seat 3 (some FieldType.int) 8 [.ref (gA g 41), .int (iI (x)), .int (iI (n))] σ (pM (if (0 ≤ x ∧ x < ρ 0 7) ∧ 0 ≤ n ∧ n ≤ 40 then (bst (vSeat (ρ 0 7) (ρ 0 8) (ρ 0 9) (ρ 3) (ρ 4) (ρ 1, ρ 5, ρ 6) x.toNat n.toNat) 0 12).1 else (-1000001 - ((0 : Nat) : Int))) (ρ) (if (0 ≤ x ∧ x < ρ 0 7) ∧ 0 ≤ n ∧ n ≤ 40 then σ else finM 0 σ)) := by
  obtain ⟨hn, hfl, hw, hdy, hz, hD_, hK_, hA_, hG_, hM_, hP_⟩ := id hW
  have hD : rgD (ρ 1) := hD_
  have hK : rgK (ρ 3) := hK_
  have hA : rgA (ρ 4) := hA_
  have hG : rgG (ρ 5) := hG_
  have hM : rgM (ρ 6) := hM_
  have hP : ∀ j, j < 10 → -1 ≤ ρ 7 j ∧ ρ 7 j < ρ 0 7 := hP_
  have ho_x := h_x.1; have hp_x := h_x.2
  have ho_n := h_n.1; have hp_n := h_n.2
  refine mt_of (own := RX5) (by decide) rfl (Nat.le_of_ble_eq_true rfl) (fun E C => ?_)
  show J g E (pM (if (0 ≤ x ∧ x < ρ 0 7) ∧ 0 ≤ n ∧ n ≤ 40 then (bst (vSeat (ρ 0 7) (ρ 0 8) (ρ 0 9) (ρ 3) (ρ 4) (ρ 1, ρ 5, ρ 6) x.toNat n.toNat) 0 12).1 else (-1000001 - ((0 : Nat) : Int))) (ρ) (if (0 ≤ x ∧ x < ρ 0 7) ∧ 0 ≤ n ∧ n ≤ 40 then σ else finM 0 σ)) 3 0 [(0, .ref (gA g 41)), (1, .int (iI (x))), (2, .int (iI (n)))] [] σ
  refine r_aload_n (pc := 0) C dX5_seat_0 rfl 0 rfl ?_
  refine r_iload_n (pc := 1) C dX5_seat_1 rfl 1 rfl ?_
  refine r_cVi (pc := 2) C (c_m_isTenant g x h_x ρ σ hS hn) yX5_isTenant_w O_41 rfl rfl t_905 ⟨by decide, by decide⟩ (Nat.le_of_ble_eq_true rfl) rfl dX5_seat_2 ?_
  refine r_ifz_eq (pc := 5) C 32 dX5_seat_5 (by decide) (fun h5 => ?_) (fun h5 => ?_)
  · skip
    refine r_aload_n (pc := 32) C dX5_seat_32 rfl 0 rfl ?_
    refine r_ldc (pc := 33) C (-1000001) t_854 (by decide) dX5_seat_33 ?_
    refine r_cVi (pc := 35) C (c_finds g 0 (by decide) σ) yX5_finds_w O_41 rfl rfl t_855 ⟨by decide, by decide⟩ (Nat.le_of_ble_eq_true rfl) (by rw [show ((-1000001) : Int) = -1000001 - ((0 : Nat) : Int) by decide]; rfl) dX5_seat_35 ?_
    exact r_retM (pc := 38) C (by first | (exfalso; omega; done) | ((try (first | rw [if_pos (by omega)] | rw [if_neg (by omega)])); (try (first | rw [if_pos (by omega)] | rw [if_neg (by omega)])); (try (first | rw [if_pos (by omega)] | rw [if_neg (by omega)])); (try (first | rw [if_pos (by omega)] | rw [if_neg (by omega)])); (try rfl))) ((((wr_n _ _ _ (by omega)).trans hS)).trans (congrArg mkS (by first | (exfalso; omega; done) | ((try (first | rw [if_pos (by omega)] | rw [if_neg (by omega)])); (try (first | rw [if_pos (by omega)] | rw [if_neg (by omega)])); (try (first | rw [if_pos (by omega)] | rw [if_neg (by omega)])); (try (first | rw [if_pos (by omega)] | rw [if_neg (by omega)])); (try rfl))))) (fun k hk => (rfl).trans (congrFun (by first | (exfalso; omega; done) | ((try (first | rw [if_pos (by omega)] | rw [if_neg (by omega)])); (try (first | rw [if_pos (by omega)] | rw [if_neg (by omega)])); (try (first | rw [if_pos (by omega)] | rw [if_neg (by omega)])); (try (first | rw [if_pos (by omega)] | rw [if_neg (by omega)])); (try rfl))) k)) dX5_seat_38
  · skip
    refine r_iload_n (pc := 8) C dX5_seat_8 rfl 2 rfl ?_
    refine r_cSi (pc := 9) C (c_m_isSoon g n h_n σ) yX5_isSoon_w rfl t_1069 ⟨by decide, by decide⟩ (Nat.le_of_ble_eq_true rfl) rfl dX5_seat_9 ?_
    refine r_ifz_eq (pc := 12) C 32 dX5_seat_12 (by decide) (fun h12 => ?_) (fun h12 => ?_)
    · skip
      refine r_aload_n (pc := 32) C dX5_seat_32 rfl 0 rfl ?_
      refine r_ldc (pc := 33) C (-1000001) t_854 (by decide) dX5_seat_33 ?_
      refine r_cVi (pc := 35) C (c_finds g 0 (by decide) σ) yX5_finds_w O_41 rfl rfl t_855 ⟨by decide, by decide⟩ (Nat.le_of_ble_eq_true rfl) (by rw [show ((-1000001) : Int) = -1000001 - ((0 : Nat) : Int) by decide]; rfl) dX5_seat_35 ?_
      exact r_retM (pc := 38) C (by first | (exfalso; omega; done) | ((try (first | rw [if_pos (by omega)] | rw [if_neg (by omega)])); (try (first | rw [if_pos (by omega)] | rw [if_neg (by omega)])); (try (first | rw [if_pos (by omega)] | rw [if_neg (by omega)])); (try (first | rw [if_pos (by omega)] | rw [if_neg (by omega)])); (try rfl))) ((((wr_n _ _ _ (by omega)).trans hS)).trans (congrArg mkS (by first | (exfalso; omega; done) | ((try (first | rw [if_pos (by omega)] | rw [if_neg (by omega)])); (try (first | rw [if_pos (by omega)] | rw [if_neg (by omega)])); (try (first | rw [if_pos (by omega)] | rw [if_neg (by omega)])); (try (first | rw [if_pos (by omega)] | rw [if_neg (by omega)])); (try rfl))))) (fun k hk => (rfl).trans (congrFun (by first | (exfalso; omega; done) | ((try (first | rw [if_pos (by omega)] | rw [if_neg (by omega)])); (try (first | rw [if_pos (by omega)] | rw [if_neg (by omega)])); (try (first | rw [if_pos (by omega)] | rw [if_neg (by omega)])); (try (first | rw [if_pos (by omega)] | rw [if_neg (by omega)])); (try rfl))) k)) dX5_seat_38
    · skip
      refine r_aload_n (pc := 15) C dX5_seat_15 rfl 0 rfl ?_
      refine r_iload_n (pc := 16) C dX5_seat_16 rfl 1 rfl ?_
      refine r_iconst (pc := 17) C dX5_seat_17 ?_
      refine r_cSi (pc := 18) C (c_place g x 1 σ) yX5_place_w rfl t_879 ⟨by decide, by decide⟩ (Nat.le_of_ble_eq_true rfl) rfl dX5_seat_18 ?_
      refine r_iconst (pc := 21) C dX5_seat_21 ?_
      refine r_bipush (pc := 22) C dX5_seat_22 (by decide) ?_
      refine r_iload_n (pc := 24) C dX5_seat_24 rfl 1 rfl ?_
      refine r_iload_n (pc := 25) C dX5_seat_25 rfl 2 rfl ?_
      refine r_cVm (pc := 26) C (c_richestBy g (18 + 3 * x.toNat) 4 x.toNat (by omega) (cidx_A (by omega)) 0 11 (by omega) x.toNat n.toNat (by omega) (by omega) ρ σ hS (fun c hc => RMw4 (RM_of hW) hc) h6) yX5_richestBy_w O_41 rfl rfl t_1072 ⟨by decide, by decide⟩ (Nat.le_of_ble_eq_true rfl) (by rw [show 17 + 3 * x + 1 = (((18 + 3 * x.toNat) : Nat) : Int) by omega, show ((x.toNat : Nat) : Int) = x by omega, show ((n.toNat : Nat) : Int) = n by omega]; rfl) dX5_seat_26 (fun s26 hm26_ hT26 => ?_)
      refine r_top (show _ = (bst (vSeat (ρ 0 7) (ρ 0 8) (ρ 0 9) (ρ 3) (ρ 4) (ρ 1, ρ 5, ρ 6) x.toNat n.toNat) 0 12).1 from rfl) ?_
      refine r_goto (pc := 29) C 38 dX5_seat_29 (by decide) ?_
      exact r_retM (pc := 38) C (by first | (exfalso; omega; done) | ((try (first | rw [if_pos (by omega)] | rw [if_neg (by omega)])); (try (first | rw [if_pos (by omega)] | rw [if_neg (by omega)])); (try (first | rw [if_pos (by omega)] | rw [if_neg (by omega)])); (try (first | rw [if_pos (by omega)] | rw [if_neg (by omega)])); (try rfl))) ((hm26_).trans (congrArg mkS (by first | (exfalso; omega; done) | ((try (first | rw [if_pos (by omega)] | rw [if_neg (by omega)])); (try (first | rw [if_pos (by omega)] | rw [if_neg (by omega)])); (try (first | rw [if_pos (by omega)] | rw [if_neg (by omega)])); (try (first | rw [if_pos (by omega)] | rw [if_neg (by omega)])); (try rfl))))) (fun k hk => (hT26 k hk).trans (congrFun (by first | (exfalso; omega; done) | ((try (first | rw [if_pos (by omega)] | rw [if_neg (by omega)])); (try (first | rw [if_pos (by omega)] | rw [if_neg (by omega)])); (try (first | rw [if_pos (by omega)] | rw [if_neg (by omega)])); (try (first | rw [if_pos (by omega)] | rw [if_neg (by omega)])); (try rfl))) k)) dX5_seat_38
set_option maxHeartbeats 4000000 in
set_option maxRecDepth 100000 in
theorem e_kindFor (g : Gt) (x n : Int) (h_x : rng x) (h_n : rng n) (ρ σ : Sg) (hS : σ 42 = mkS ρ) (hW : RW ρ 0) (h6 : σ 41 6 = 255) : Mt g yX5_kindFor cX5_kindFor 3 (some FieldType.int) 8 [.ref (gA g 41), .int (iI (x)), .int (iI (n))] σ (pM (if (0 ≤ x ∧ x < ρ 0 7) ∧ 0 ≤ n ∧ n ≤ 40 then (bst (vKind (ρ 0 7) (ρ 0 8) (ρ 0 9) (ρ 3) (ρ 4) (ρ 1, ρ 5, ρ 6) x.toNat n.toNat) 0 7).1 else (-1000001 - ((0 : Nat) : Int))) (ρ) (if (0 ≤ x ∧ x < ρ 0 7) ∧ 0 ≤ n ∧ n ≤ 40 then σ else finM 0 σ)) := by
  obtain ⟨hn, hfl, hw, hdy, hz, hD_, hK_, hA_, hG_, hM_, hP_⟩ := id hW
  have hD : rgD (ρ 1) := hD_
  have hK : rgK (ρ 3) := hK_
  have hA : rgA (ρ 4) := hA_
  have hG : rgG (ρ 5) := hG_
  have hM : rgM (ρ 6) := hM_
  have hP : ∀ j, j < 10 → -1 ≤ ρ 7 j ∧ ρ 7 j < ρ 0 7 := hP_
  have ho_x := h_x.1; have hp_x := h_x.2
  have ho_n := h_n.1; have hp_n := h_n.2
  refine mt_of (own := RX5) (by decide) rfl (Nat.le_of_ble_eq_true rfl) (fun E C => ?_)
  show J g E (pM (if (0 ≤ x ∧ x < ρ 0 7) ∧ 0 ≤ n ∧ n ≤ 40 then (bst (vKind (ρ 0 7) (ρ 0 8) (ρ 0 9) (ρ 3) (ρ 4) (ρ 1, ρ 5, ρ 6) x.toNat n.toNat) 0 7).1 else (-1000001 - ((0 : Nat) : Int))) (ρ) (if (0 ≤ x ∧ x < ρ 0 7) ∧ 0 ≤ n ∧ n ≤ 40 then σ else finM 0 σ)) 3 0 [(0, .ref (gA g 41)), (1, .int (iI (x))), (2, .int (iI (n)))] [] σ
  refine r_aload_n (pc := 0) C dX5_kindFor_0 rfl 0 rfl ?_
  refine r_iload_n (pc := 1) C dX5_kindFor_1 rfl 1 rfl ?_
  refine r_cVi (pc := 2) C (c_m_isTenant g x h_x ρ σ hS hn) yX5_isTenant_w O_41 rfl rfl t_905 ⟨by decide, by decide⟩ (Nat.le_of_ble_eq_true rfl) rfl dX5_kindFor_2 ?_
  refine r_ifz_eq (pc := 5) C 32 dX5_kindFor_5 (by decide) (fun h5 => ?_) (fun h5 => ?_)
  · skip
    refine r_aload_n (pc := 32) C dX5_kindFor_32 rfl 0 rfl ?_
    refine r_ldc (pc := 33) C (-1000001) t_854 (by decide) dX5_kindFor_33 ?_
    refine r_cVi (pc := 35) C (c_finds g 0 (by decide) σ) yX5_finds_w O_41 rfl rfl t_855 ⟨by decide, by decide⟩ (Nat.le_of_ble_eq_true rfl) (by rw [show ((-1000001) : Int) = -1000001 - ((0 : Nat) : Int) by decide]; rfl) dX5_kindFor_35 ?_
    exact r_retM (pc := 38) C (by first | (exfalso; omega; done) | ((try (first | rw [if_pos (by omega)] | rw [if_neg (by omega)])); (try (first | rw [if_pos (by omega)] | rw [if_neg (by omega)])); (try (first | rw [if_pos (by omega)] | rw [if_neg (by omega)])); (try (first | rw [if_pos (by omega)] | rw [if_neg (by omega)])); (try rfl))) ((((wr_n _ _ _ (by omega)).trans hS)).trans (congrArg mkS (by first | (exfalso; omega; done) | ((try (first | rw [if_pos (by omega)] | rw [if_neg (by omega)])); (try (first | rw [if_pos (by omega)] | rw [if_neg (by omega)])); (try (first | rw [if_pos (by omega)] | rw [if_neg (by omega)])); (try (first | rw [if_pos (by omega)] | rw [if_neg (by omega)])); (try rfl))))) (fun k hk => (rfl).trans (congrFun (by first | (exfalso; omega; done) | ((try (first | rw [if_pos (by omega)] | rw [if_neg (by omega)])); (try (first | rw [if_pos (by omega)] | rw [if_neg (by omega)])); (try (first | rw [if_pos (by omega)] | rw [if_neg (by omega)])); (try (first | rw [if_pos (by omega)] | rw [if_neg (by omega)])); (try rfl))) k)) dX5_kindFor_38
  · skip
    refine r_iload_n (pc := 8) C dX5_kindFor_8 rfl 2 rfl ?_
    refine r_cSi (pc := 9) C (c_m_isSoon g n h_n σ) yX5_isSoon_w rfl t_1069 ⟨by decide, by decide⟩ (Nat.le_of_ble_eq_true rfl) rfl dX5_kindFor_9 ?_
    refine r_ifz_eq (pc := 12) C 32 dX5_kindFor_12 (by decide) (fun h12 => ?_) (fun h12 => ?_)
    · skip
      refine r_aload_n (pc := 32) C dX5_kindFor_32 rfl 0 rfl ?_
      refine r_ldc (pc := 33) C (-1000001) t_854 (by decide) dX5_kindFor_33 ?_
      refine r_cVi (pc := 35) C (c_finds g 0 (by decide) σ) yX5_finds_w O_41 rfl rfl t_855 ⟨by decide, by decide⟩ (Nat.le_of_ble_eq_true rfl) (by rw [show ((-1000001) : Int) = -1000001 - ((0 : Nat) : Int) by decide]; rfl) dX5_kindFor_35 ?_
      exact r_retM (pc := 38) C (by first | (exfalso; omega; done) | ((try (first | rw [if_pos (by omega)] | rw [if_neg (by omega)])); (try (first | rw [if_pos (by omega)] | rw [if_neg (by omega)])); (try (first | rw [if_pos (by omega)] | rw [if_neg (by omega)])); (try (first | rw [if_pos (by omega)] | rw [if_neg (by omega)])); (try rfl))) ((((wr_n _ _ _ (by omega)).trans hS)).trans (congrArg mkS (by first | (exfalso; omega; done) | ((try (first | rw [if_pos (by omega)] | rw [if_neg (by omega)])); (try (first | rw [if_pos (by omega)] | rw [if_neg (by omega)])); (try (first | rw [if_pos (by omega)] | rw [if_neg (by omega)])); (try (first | rw [if_pos (by omega)] | rw [if_neg (by omega)])); (try rfl))))) (fun k hk => (rfl).trans (congrFun (by first | (exfalso; omega; done) | ((try (first | rw [if_pos (by omega)] | rw [if_neg (by omega)])); (try (first | rw [if_pos (by omega)] | rw [if_neg (by omega)])); (try (first | rw [if_pos (by omega)] | rw [if_neg (by omega)])); (try (first | rw [if_pos (by omega)] | rw [if_neg (by omega)])); (try rfl))) k)) dX5_kindFor_38
    · skip
      refine r_aload_n (pc := 15) C dX5_kindFor_15 rfl 0 rfl ?_
      refine r_iload_n (pc := 16) C dX5_kindFor_16 rfl 1 rfl ?_
      refine r_iconst (pc := 17) C dX5_kindFor_17 ?_
      refine r_cSi (pc := 18) C (c_place g x 0 σ) yX5_place_w rfl t_879 ⟨by decide, by decide⟩ (Nat.le_of_ble_eq_true rfl) rfl dX5_kindFor_18 ?_
      refine r_iconst (pc := 21) C dX5_kindFor_21 ?_
      refine r_bipush (pc := 22) C dX5_kindFor_22 (by decide) ?_
      refine r_iload_n (pc := 24) C dX5_kindFor_24 rfl 1 rfl ?_
      refine r_iload_n (pc := 25) C dX5_kindFor_25 rfl 2 rfl ?_
      refine r_cVm (pc := 26) C (c_richestBy g (17 + 3 * x.toNat) 3 x.toNat (by omega) (cidx_K (by omega)) 0 6 (by omega) x.toNat n.toNat (by omega) (by omega) ρ σ hS (fun c hc => RMw3 (RM_of hW) hc) h6) yX5_richestBy_w O_41 rfl rfl t_1072 ⟨by decide, by decide⟩ (Nat.le_of_ble_eq_true rfl) (by rw [show 17 + 3 * x + 0 = (((17 + 3 * x.toNat) : Nat) : Int) by omega, show ((x.toNat : Nat) : Int) = x by omega, show ((n.toNat : Nat) : Int) = n by omega]; rfl) dX5_kindFor_26 (fun s26 hm26_ hT26 => ?_)
      refine r_top (show _ = (bst (vKind (ρ 0 7) (ρ 0 8) (ρ 0 9) (ρ 3) (ρ 4) (ρ 1, ρ 5, ρ 6) x.toNat n.toNat) 0 7).1 from rfl) ?_
      refine r_goto (pc := 29) C 38 dX5_kindFor_29 (by decide) ?_
      exact r_retM (pc := 38) C (by first | (exfalso; omega; done) | ((try (first | rw [if_pos (by omega)] | rw [if_neg (by omega)])); (try (first | rw [if_pos (by omega)] | rw [if_neg (by omega)])); (try (first | rw [if_pos (by omega)] | rw [if_neg (by omega)])); (try (first | rw [if_pos (by omega)] | rw [if_neg (by omega)])); (try rfl))) ((hm26_).trans (congrArg mkS (by first | (exfalso; omega; done) | ((try (first | rw [if_pos (by omega)] | rw [if_neg (by omega)])); (try (first | rw [if_pos (by omega)] | rw [if_neg (by omega)])); (try (first | rw [if_pos (by omega)] | rw [if_neg (by omega)])); (try (first | rw [if_pos (by omega)] | rw [if_neg (by omega)])); (try rfl))))) (fun k hk => (hT26 k hk).trans (congrFun (by first | (exfalso; omega; done) | ((try (first | rw [if_pos (by omega)] | rw [if_neg (by omega)])); (try (first | rw [if_pos (by omega)] | rw [if_neg (by omega)])); (try (first | rw [if_pos (by omega)] | rw [if_neg (by omega)])); (try (first | rw [if_pos (by omega)] | rw [if_neg (by omega)])); (try rfl))) k)) dX5_kindFor_38
set_option maxHeartbeats 4000000 in
set_option maxRecDepth 100000 in
theorem e_draught (g : Gt) (x n : Int) (h_x : rng x) (h_n : rng n) (ρ σ : Sg) (hS : σ 42 = mkS ρ) (hW : RW ρ 0) (h6 : σ 41 6 = 255) : Mt g yX5_draught cX5_draught 3 (some FieldType.int) 8 [.ref (gA g 41), .int (iI (x)), .int (iI (n))] σ (pM (if (0 ≤ x ∧ x < ρ 0 7) ∧ 0 ≤ n ∧ n ≤ 40 then (bst (vDrau (ρ 0 7) (ρ 0 8) (ρ 0 9) (ρ 3) (ρ 4) (ρ 1, ρ 5, ρ 6) x.toNat n.toNat) (-3) 7).1 else (-1000001 - ((0 : Nat) : Int))) (ρ) (if (0 ≤ x ∧ x < ρ 0 7) ∧ 0 ≤ n ∧ n ≤ 40 then σ else finM 0 σ)) := by
  obtain ⟨hn, hfl, hw, hdy, hz, hD_, hK_, hA_, hG_, hM_, hP_⟩ := id hW
  have hD : rgD (ρ 1) := hD_
  have hK : rgK (ρ 3) := hK_
  have hA : rgA (ρ 4) := hA_
  have hG : rgG (ρ 5) := hG_
  have hM : rgM (ρ 6) := hM_
  have hP : ∀ j, j < 10 → -1 ≤ ρ 7 j ∧ ρ 7 j < ρ 0 7 := hP_
  have ho_x := h_x.1; have hp_x := h_x.2
  have ho_n := h_n.1; have hp_n := h_n.2
  refine mt_of (own := RX5) (by decide) rfl (Nat.le_of_ble_eq_true rfl) (fun E C => ?_)
  show J g E (pM (if (0 ≤ x ∧ x < ρ 0 7) ∧ 0 ≤ n ∧ n ≤ 40 then (bst (vDrau (ρ 0 7) (ρ 0 8) (ρ 0 9) (ρ 3) (ρ 4) (ρ 1, ρ 5, ρ 6) x.toNat n.toNat) (-3) 7).1 else (-1000001 - ((0 : Nat) : Int))) (ρ) (if (0 ≤ x ∧ x < ρ 0 7) ∧ 0 ≤ n ∧ n ≤ 40 then σ else finM 0 σ)) 3 0 [(0, .ref (gA g 41)), (1, .int (iI (x))), (2, .int (iI (n)))] [] σ
  refine r_aload_n (pc := 0) C dX5_draught_0 rfl 0 rfl ?_
  refine r_iload_n (pc := 1) C dX5_draught_1 rfl 1 rfl ?_
  refine r_cVi (pc := 2) C (c_m_isTenant g x h_x ρ σ hS hn) yX5_isTenant_w O_41 rfl rfl t_905 ⟨by decide, by decide⟩ (Nat.le_of_ble_eq_true rfl) rfl dX5_draught_2 ?_
  refine r_ifz_eq (pc := 5) C 28 dX5_draught_5 (by decide) (fun h5 => ?_) (fun h5 => ?_)
  · skip
    refine r_aload_n (pc := 28) C dX5_draught_28 rfl 0 rfl ?_
    refine r_ldc (pc := 29) C (-1000001) t_854 (by decide) dX5_draught_29 ?_
    refine r_cVi (pc := 31) C (c_finds g 0 (by decide) σ) yX5_finds_w O_41 rfl rfl t_855 ⟨by decide, by decide⟩ (Nat.le_of_ble_eq_true rfl) (by rw [show ((-1000001) : Int) = -1000001 - ((0 : Nat) : Int) by decide]; rfl) dX5_draught_31 ?_
    exact r_retM (pc := 34) C (by first | (exfalso; omega; done) | ((try (first | rw [if_pos (by omega)] | rw [if_neg (by omega)])); (try (first | rw [if_pos (by omega)] | rw [if_neg (by omega)])); (try (first | rw [if_pos (by omega)] | rw [if_neg (by omega)])); (try (first | rw [if_pos (by omega)] | rw [if_neg (by omega)])); (try rfl))) ((((wr_n _ _ _ (by omega)).trans hS)).trans (congrArg mkS (by first | (exfalso; omega; done) | ((try (first | rw [if_pos (by omega)] | rw [if_neg (by omega)])); (try (first | rw [if_pos (by omega)] | rw [if_neg (by omega)])); (try (first | rw [if_pos (by omega)] | rw [if_neg (by omega)])); (try (first | rw [if_pos (by omega)] | rw [if_neg (by omega)])); (try rfl))))) (fun k hk => (rfl).trans (congrFun (by first | (exfalso; omega; done) | ((try (first | rw [if_pos (by omega)] | rw [if_neg (by omega)])); (try (first | rw [if_pos (by omega)] | rw [if_neg (by omega)])); (try (first | rw [if_pos (by omega)] | rw [if_neg (by omega)])); (try (first | rw [if_pos (by omega)] | rw [if_neg (by omega)])); (try rfl))) k)) dX5_draught_34
  · skip
    refine r_iload_n (pc := 8) C dX5_draught_8 rfl 2 rfl ?_
    refine r_cSi (pc := 9) C (c_m_isSoon g n h_n σ) yX5_isSoon_w rfl t_1069 ⟨by decide, by decide⟩ (Nat.le_of_ble_eq_true rfl) rfl dX5_draught_9 ?_
    refine r_ifz_eq (pc := 12) C 28 dX5_draught_12 (by decide) (fun h12 => ?_) (fun h12 => ?_)
    · skip
      refine r_aload_n (pc := 28) C dX5_draught_28 rfl 0 rfl ?_
      refine r_ldc (pc := 29) C (-1000001) t_854 (by decide) dX5_draught_29 ?_
      refine r_cVi (pc := 31) C (c_finds g 0 (by decide) σ) yX5_finds_w O_41 rfl rfl t_855 ⟨by decide, by decide⟩ (Nat.le_of_ble_eq_true rfl) (by rw [show ((-1000001) : Int) = -1000001 - ((0 : Nat) : Int) by decide]; rfl) dX5_draught_31 ?_
      exact r_retM (pc := 34) C (by first | (exfalso; omega; done) | ((try (first | rw [if_pos (by omega)] | rw [if_neg (by omega)])); (try (first | rw [if_pos (by omega)] | rw [if_neg (by omega)])); (try (first | rw [if_pos (by omega)] | rw [if_neg (by omega)])); (try (first | rw [if_pos (by omega)] | rw [if_neg (by omega)])); (try rfl))) ((((wr_n _ _ _ (by omega)).trans hS)).trans (congrArg mkS (by first | (exfalso; omega; done) | ((try (first | rw [if_pos (by omega)] | rw [if_neg (by omega)])); (try (first | rw [if_pos (by omega)] | rw [if_neg (by omega)])); (try (first | rw [if_pos (by omega)] | rw [if_neg (by omega)])); (try (first | rw [if_pos (by omega)] | rw [if_neg (by omega)])); (try rfl))))) (fun k hk => (rfl).trans (congrFun (by first | (exfalso; omega; done) | ((try (first | rw [if_pos (by omega)] | rw [if_neg (by omega)])); (try (first | rw [if_pos (by omega)] | rw [if_neg (by omega)])); (try (first | rw [if_pos (by omega)] | rw [if_neg (by omega)])); (try (first | rw [if_pos (by omega)] | rw [if_neg (by omega)])); (try rfl))) k)) dX5_draught_34
    · skip
      refine r_aload_n (pc := 15) C dX5_draught_15 rfl 0 rfl ?_
      refine r_iconst (pc := 16) C dX5_draught_16 ?_
      refine r_bipush (pc := 17) C dX5_draught_17 (by decide) ?_
      refine r_iconst (pc := 19) C dX5_draught_19 ?_
      refine r_iload_n (pc := 20) C dX5_draught_20 rfl 1 rfl ?_
      refine r_iload_n (pc := 21) C dX5_draught_21 rfl 2 rfl ?_
      refine r_cVm (pc := 22) C (c_richestBy g 3 0 9 (by omega) rfl (-3) 3 (by omega) x.toNat n.toNat (by omega) (by omega) ρ σ hS (fun c hc => RMw9 (RM_of hW) hc) h6) yX5_richestBy_w O_41 rfl rfl t_1072 ⟨by decide, by decide⟩ (Nat.le_of_ble_eq_true rfl) (by rw [show ((x.toNat : Nat) : Int) = x by omega, show ((n.toNat : Nat) : Int) = n by omega]; rfl) dX5_draught_22 (fun s22 hm22_ hT22 => ?_)
      refine r_top (show _ = (bst (vDrau (ρ 0 7) (ρ 0 8) (ρ 0 9) (ρ 3) (ρ 4) (ρ 1, ρ 5, ρ 6) x.toNat n.toNat) (-3) 7).1 from rfl) ?_
      refine r_goto (pc := 25) C 34 dX5_draught_25 (by decide) ?_
      exact r_retM (pc := 34) C (by first | (exfalso; omega; done) | ((try (first | rw [if_pos (by omega)] | rw [if_neg (by omega)])); (try (first | rw [if_pos (by omega)] | rw [if_neg (by omega)])); (try (first | rw [if_pos (by omega)] | rw [if_neg (by omega)])); (try (first | rw [if_pos (by omega)] | rw [if_neg (by omega)])); (try rfl))) ((hm22_).trans (congrArg mkS (by first | (exfalso; omega; done) | ((try (first | rw [if_pos (by omega)] | rw [if_neg (by omega)])); (try (first | rw [if_pos (by omega)] | rw [if_neg (by omega)])); (try (first | rw [if_pos (by omega)] | rw [if_neg (by omega)])); (try (first | rw [if_pos (by omega)] | rw [if_neg (by omega)])); (try rfl))))) (fun k hk => (hT22 k hk).trans (congrFun (by first | (exfalso; omega; done) | ((try (first | rw [if_pos (by omega)] | rw [if_neg (by omega)])); (try (first | rw [if_pos (by omega)] | rw [if_neg (by omega)])); (try (first | rw [if_pos (by omega)] | rw [if_neg (by omega)])); (try (first | rw [if_pos (by omega)] | rw [if_neg (by omega)])); (try rfl))) k)) dX5_draught_34
set_option maxHeartbeats 4000000 in
set_option maxRecDepth 100000 in
theorem c_dustBehind (g : Gt) (m : Int) (hm : rng m) (n : Nat) (hn2 : n ≤ 60) (ρ σ : Sg) (hS : σ 42 = mkS ρ) (hR : RM_ ρ) (h6 : σ 41 6 = m) : Mt g yX5_dustBehind cX5_dustBehind 2 (some FieldType.int) 6 [.ref (gA g 41), .int (iI ((n : Int)))] σ (pM (sumF (dstN (ρ 0 7) (ρ 0 8) (ρ 0 9) (ρ 3) (ρ 4) m n (ρ 1)) 12) ρ σ) := by
  refine mt_of (own := RX5) (by decide) rfl (Nat.le_of_ble_eq_true rfl) (fun E C => ?_)
  show J g E (pM (sumF (dstN (ρ 0 7) (ρ 0 8) (ρ 0 9) (ρ 3) (ρ 4) m n (ρ 1)) 12) ρ σ) 2 0 [(0, .ref (gA g 41)), (1, .int (iI ((n : Int))))] [] σ
  refine r_aload_n (pc := 0) C dX5_dustBehind_0 rfl 0 rfl ?_
  refine r_cVv (pc := 1) C (c_laysAside g σ) yX5_laysAside_w O_41 rfl rfl t_1024 ⟨by decide, by decide⟩ (Nat.le_of_ble_eq_true rfl) rfl dX5_dustBehind_1 ?_
  refine r_aload_n (pc := 4) C dX5_dustBehind_4 rfl 0 rfl ?_
  refine r_iload_n (pc := 5) C dX5_dustBehind_5 rfl 1 rfl ?_
  refine r_cVd (pc := 6) C (c_goesOn g m hm n (by omega) ρ (us σ 45 (σ 42)) ((us_n _ _ (by omega)).trans hS) hR ((us_o2 _ _ _ (by decide)).trans (h6))) yX5_goesOn_w O_41 rfl rfl t_968 ⟨by decide, by decide⟩ (Nat.le_of_ble_eq_true rfl) rfl dX5_dustBehind_6 (fun s6 hm6_ hT6 => ?_)
  refine r_aload_n (pc := 9) C dX5_dustBehind_9 rfl 0 rfl ?_
  refine r_aload_n (pc := 10) C dX5_dustBehind_10 rfl 0 rfl ?_
  refine r_cVi (pc := 11) C (c_dustAll g  (dsM m n ρ) s6 hm6_ ) yX5_dustAll_w O_41 rfl rfl t_992 ⟨by decide, by decide⟩ (Nat.le_of_ble_eq_true rfl) rfl dX5_dustBehind_11 ?_
  refine r_cVi (pc := 14) C (c_takesBack g (sumF ((dsM m n ρ) 1) 12) s6) yX5_takesBack_w O_41 rfl rfl t_1028 ⟨by decide, by decide⟩ (Nat.le_of_ble_eq_true rfl) rfl dX5_dustBehind_14 ?_
  exact r_retM (pc := 17) C (by rw [dsM_D]) (((us_s _ _ _).trans ((hT6 45 (by decide) (by decide)).trans ((us_s _ _ _).trans hS)))) (fun k hk => (us_n _ _ hk.1).trans ((hT6 k hk.1 hk.2.2.2.1).trans (us_n _ _ hk.2.2.1))) dX5_dustBehind_17
set_option maxHeartbeats 4000000 in
set_option maxRecDepth 100000 in
theorem c_dustWith (g : Gt) (m : Int) (hm : rng m) (n : Nat) (hn2 : n ≤ 60) (ρ σ : Sg) (hS : σ 42 = mkS ρ) (hR : RM_ ρ) (h6 : σ 41 6 = 255) : Mt g yX5_dustWith cX5_dustWith 4 (some FieldType.int) 7 [.ref (gA g 41), .int (iI (m)), .int (iI ((n : Int)))] σ (pM (sumF (dstN (ρ 0 7) (ρ 0 8) (ρ 0 9) (ρ 3) (ρ 4) m n (ρ 1)) 12) ρ σ) := by
  refine mt_of (own := RX5) (by decide) rfl (Nat.le_of_ble_eq_true rfl) (fun E C => ?_)
  show J g E (pM (sumF (dstN (ρ 0 7) (ρ 0 8) (ρ 0 9) (ρ 3) (ρ 4) m n (ρ 1)) 12) ρ σ) 4 0 [(0, .ref (gA g 41)), (1, .int (iI (m))), (2, .int (iI ((n : Int))))] [] σ
  refine r_aload_n (pc := 0) C dX5_dustWith_0 rfl 0 rfl ?_
  refine r_iload_n (pc := 1) C dX5_dustWith_1 rfl 1 rfl ?_
  refine r_put5 (pc := 2) C 6 rfl O_41 (by decide) rfl t_786 rfl (by decide +kernel) dX5_dustWith_2 ?_
  refine r_aload_n (pc := 5) C dX5_dustWith_5 rfl 0 rfl ?_
  refine r_iload_n (pc := 6) C dX5_dustWith_6 rfl 2 rfl ?_
  refine r_cVm (pc := 7) C (c_dustBehind g m hm n hn2 ρ (wr σ 41 6 m) ((wr_n _ _ _ (by omega)).trans hS) hR (wr_s2 _ _ _ _)) yX5_dustBehind_w O_41 rfl rfl t_1088 ⟨by decide, by decide⟩ (Nat.le_of_ble_eq_true rfl) rfl dX5_dustWith_7 (fun s7 hm7_ hT7 => ?_)
  refine r_istore_n (pc := 10) C dX5_dustWith_10 rfl (by decide) [1, 2, 3, 0] (lv' := [(0, .ref (gA g 41)), (1, .int (iI (m))), (2, .int (iI ((n : Int)))), (3, .int (iI (sumF (dstN (ρ 0 7) (ρ 0 8) (ρ 0 9) (ρ 3) (ρ 4) m n (ρ 1)) 12)))]) rfl ?_
  refine r_aload_n (pc := 11) C dX5_dustWith_11 rfl 0 rfl ?_
  refine r_sipush (pc := 12) C dX5_dustWith_12 (by decide) ?_
  refine r_put5 (pc := 15) C 6 rfl O_41 (by decide) rfl t_786 rfl (by decide +kernel) dX5_dustWith_15 ?_
  refine r_iload_n (pc := 18) C dX5_dustWith_18 rfl 3 rfl ?_
  exact r_retM (pc := 19) C (rfl) ((wr_n _ _ _ (by decide)).trans hm7_) (dw_back hT7 h6) dX5_dustWith_19
set_option maxHeartbeats 4000000 in
set_option maxRecDepth 100000 in
theorem e_fallFor (g : Gt) (v n : Int) (h_v : rng v) (h_n : rng n) (ρ σ : Sg) (hS : σ 42 = mkS ρ) (hW : RW ρ 0) (h6 : σ 41 6 = 255) : Mt g yX5_fallFor cX5_fallFor 5 (some FieldType.int) 7 [.ref (gA g 41), .int (iI (v)), .int (iI (n))] σ (pM (if (0 ≤ v ∧ v ≤ 99999) ∧ 0 ≤ n ∧ n ≤ 40 then (if firstF (fun i => decide (v ≤ vFall (ρ 0 7) (ρ 0 8) (ρ 0 9) (ρ 3) (ρ 4) (ρ 1) n.toNat (i : Int))) 100 0 = -1 then (-1000001 - ((3 : Nat) : Int)) else firstF (fun i => decide (v ≤ vFall (ρ 0 7) (ρ 0 8) (ρ 0 9) (ρ 3) (ρ 4) (ρ 1) n.toNat (i : Int))) 100 0) else (-1000001 - ((0 : Nat) : Int))) (ρ) (if (0 ≤ v ∧ v ≤ 99999) ∧ 0 ≤ n ∧ n ≤ 40 then (if firstF (fun i => decide (v ≤ vFall (ρ 0 7) (ρ 0 8) (ρ 0 9) (ρ 3) (ρ 4) (ρ 1) n.toNat (i : Int))) 100 0 = -1 then finM 3 σ else σ) else finM 0 σ)) := by
  obtain ⟨hn, hfl, hw, hdy, hz, hD_, hK_, hA_, hG_, hM_, hP_⟩ := id hW
  have hD : rgD (ρ 1) := hD_
  have hK : rgK (ρ 3) := hK_
  have hA : rgA (ρ 4) := hA_
  have hG : rgG (ρ 5) := hG_
  have hM : rgM (ρ 6) := hM_
  have hP : ∀ j, j < 10 → -1 ≤ ρ 7 j ∧ ρ 7 j < ρ 0 7 := hP_
  have ho_v := h_v.1; have hp_v := h_v.2
  have ho_n := h_n.1; have hp_n := h_n.2
  refine mt_of (own := RX5) (by decide) rfl (Nat.le_of_ble_eq_true rfl) (fun E C => ?_)
  show J g E (pM (if (0 ≤ v ∧ v ≤ 99999) ∧ 0 ≤ n ∧ n ≤ 40 then (if firstF (fun i => decide (v ≤ vFall (ρ 0 7) (ρ 0 8) (ρ 0 9) (ρ 3) (ρ 4) (ρ 1) n.toNat (i : Int))) 100 0 = -1 then (-1000001 - ((3 : Nat) : Int)) else firstF (fun i => decide (v ≤ vFall (ρ 0 7) (ρ 0 8) (ρ 0 9) (ρ 3) (ρ 4) (ρ 1) n.toNat (i : Int))) 100 0) else (-1000001 - ((0 : Nat) : Int))) (ρ) (if (0 ≤ v ∧ v ≤ 99999) ∧ 0 ≤ n ∧ n ≤ 40 then (if firstF (fun i => decide (v ≤ vFall (ρ 0 7) (ρ 0 8) (ρ 0 9) (ρ 3) (ρ 4) (ρ 1) n.toNat (i : Int))) 100 0 = -1 then finM 3 σ else σ) else finM 0 σ)) 5 0 [(0, .ref (gA g 41)), (1, .int (iI (v))), (2, .int (iI (n)))] [] σ
  refine r_iload_n (pc := 0) C dX5_fallFor_0 rfl 1 rfl ?_
  refine r_i2l (pc := 1) C h_v dX5_fallFor_1 ?_
  refine r_lconst (pc := 2) C (n := 0) dX5_fallFor_2 (by decide) ?_
  refine r_ldc2 (pc := 3) C 99999 t_929 (by decide) dX5_fallFor_3 ?_
  refine r_cSi (pc := 6) C (c_in g v 0 99999 ⟨by have := h_v.1; omega, by have := h_v.2; omega⟩ ⟨by omega, by omega⟩ ⟨by omega, by omega⟩ σ) yX5_in_w rfl t_846 ⟨by decide, by decide⟩ (Nat.le_of_ble_eq_true rfl) rfl dX5_fallFor_6 ?_
  refine r_ifz_eq (pc := 9) C 19 dX5_fallFor_9 (by decide) (fun h9 => ?_) (fun h9 => ?_)
  · skip
    refine r_aload_n (pc := 19) C dX5_fallFor_19 rfl 0 rfl ?_
    refine r_ldc (pc := 20) C (-1000001) t_854 (by decide) dX5_fallFor_20 ?_
    refine r_cVi (pc := 22) C (c_finds g 0 (by decide) σ) yX5_finds_w O_41 rfl rfl t_855 ⟨by decide, by decide⟩ (Nat.le_of_ble_eq_true rfl) (by rw [show ((-1000001) : Int) = -1000001 - ((0 : Nat) : Int) by decide]; rfl) dX5_fallFor_22 ?_
    exact r_retM (pc := 25) C (by first | (exfalso; omega; done) | ((try (first | rw [if_pos (by omega)] | rw [if_neg (by omega)])); (try (first | rw [if_pos (by omega)] | rw [if_neg (by omega)])); (try (first | rw [if_pos (by omega)] | rw [if_neg (by omega)])); (try (first | rw [if_pos (by omega)] | rw [if_neg (by omega)])); (try rfl))) ((((wr_n _ _ _ (by omega)).trans hS)).trans (congrArg mkS (by first | (exfalso; omega; done) | ((try (first | rw [if_pos (by omega)] | rw [if_neg (by omega)])); (try (first | rw [if_pos (by omega)] | rw [if_neg (by omega)])); (try (first | rw [if_pos (by omega)] | rw [if_neg (by omega)])); (try (first | rw [if_pos (by omega)] | rw [if_neg (by omega)])); (try rfl))))) (fun k hk => (rfl).trans (congrFun (by first | (exfalso; omega; done) | ((try (first | rw [if_pos (by omega)] | rw [if_neg (by omega)])); (try (first | rw [if_pos (by omega)] | rw [if_neg (by omega)])); (try (first | rw [if_pos (by omega)] | rw [if_neg (by omega)])); (try (first | rw [if_pos (by omega)] | rw [if_neg (by omega)])); (try rfl))) k)) dX5_fallFor_25
  · skip
    refine r_iload_n (pc := 12) C dX5_fallFor_12 rfl 2 rfl ?_
    refine r_cSi (pc := 13) C (c_m_isSoon g n h_n σ) yX5_isSoon_w rfl t_1069 ⟨by decide, by decide⟩ (Nat.le_of_ble_eq_true rfl) rfl dX5_fallFor_13 ?_
    refine r_ifz_ne (pc := 16) C 26 dX5_fallFor_16 (by decide) (fun h16 => ?_) (fun h16 => ?_)
    · skip
      refine r_aload_n (pc := 26) C dX5_fallFor_26 rfl 0 rfl ?_
      refine r_getR5 (pc := 27) C 0 (k' := 42) rfl O_41 (by decide) rfl t_780 dX5_fallFor_27 ?_
      refine r_iconst (pc := 30) C dX5_fallFor_30 ?_
      refine r_iald (pc := 31) C 2 A_42 (by omega) (by omega) dX5_fallFor_31 ?_
      refine r_top (show _ = ρ 0 8 from (congrFun hS _).trans (mkS_at rfl)) ?_
      refine r_istore_n (pc := 32) C dX5_fallFor_32 rfl (by decide) [1, 2, 3, 0] (lv' := [(0, .ref (gA g 41)), (1, .int (iI (v))), (2, .int (iI (n))), (3, .int (iI (ρ 0 8)))]) rfl ?_
      refine r_iconst (pc := 33) C dX5_fallFor_33 ?_
      refine r_istore (pc := 34) C dX5_fallFor_34 (by decide) [1, 2, 3, 4, 0] (lv' := [(0, .ref (gA g 41)), (1, .int (iI (v))), (2, .int (iI (n))), (3, .int (iI (ρ 0 8))), (4, .int (iI (0)))]) rfl ?_
      refine r_aload_n (pc := 36) C dX5_fallFor_36 rfl 0 rfl ?_
      refine r_getR5 (pc := 37) C 0 (k' := 42) rfl O_41 (by decide) rfl t_780 dX5_fallFor_37 ?_
      refine r_iconst (pc := 40) C dX5_fallFor_40 ?_
      refine r_iconst (pc := 41) C dX5_fallFor_41 ?_
      refine r_iast (pc := 42) C 2 A_42 (by omega) (by omega) dX5_fallFor_42 ?_
      refine r_sg (wrS hS rfl) ?_
      have L43 : ∀ (n_ : Nat) (i : Nat) (x43_4 : Int) (s43 : Sg), 100 - i < n_ → (i ≤ 100) → (s43 42 = mkS (wr ρ 0 8 (i : Int))) → (∀ c, (c ≠ 42 ∧ c ≠ 44 ∧ c ≠ 45 ∧ c ≠ 47 ∧ c ≠ 48 ∧ c ≠ 53) → s43 c = σ c) → (firstF (fun i => decide (v ≤ vFall (ρ 0 7) (ρ 0 8) (ρ 0 9) (ρ 3) (ρ 4) (ρ 1) n.toNat (i : Int))) 100 0 = firstF (fun i => decide (v ≤ vFall (ρ 0 7) (ρ 0 8) (ρ 0 9) (ρ 3) (ρ 4) (ρ 1) n.toNat (i : Int))) (100 - i) i) → x43_4 = (i : Int) → J g E (pM (if (0 ≤ v ∧ v ≤ 99999) ∧ 0 ≤ n ∧ n ≤ 40 then (if firstF (fun i => decide (v ≤ vFall (ρ 0 7) (ρ 0 8) (ρ 0 9) (ρ 3) (ρ 4) (ρ 1) n.toNat (i : Int))) 100 0 = -1 then (-1000001 - ((3 : Nat) : Int)) else firstF (fun i => decide (v ≤ vFall (ρ 0 7) (ρ 0 8) (ρ 0 9) (ρ 3) (ρ 4) (ρ 1) n.toNat (i : Int))) 100 0) else (-1000001 - ((0 : Nat) : Int))) (ρ) (if (0 ≤ v ∧ v ≤ 99999) ∧ 0 ≤ n ∧ n ≤ 40 then (if firstF (fun i => decide (v ≤ vFall (ρ 0 7) (ρ 0 8) (ρ 0 9) (ρ 3) (ρ 4) (ρ 1) n.toNat (i : Int))) 100 0 = -1 then finM 3 σ else σ) else finM 0 σ)) 5 43 [(0, .ref (gA g 41)), (1, .int (iI (v))), (2, .int (iI (n))), (3, .int (iI (ρ 0 8))), (4, .int (iI (x43_4)))] [] s43 := by
        intro n_
        induction n_ with
        | zero => intro i x43_4 s43 hm_; exact absurd hm_ (Nat.not_lt_zero _)
        | succ n_ ih43 =>
          intro i x43_4 s43 hm43 hi43_0 hi43_1 hi43_2 hi43_3 e43_0 
          subst e43_0 
          refine r_iload (pc := 43) C dX5_fallFor_43 4 rfl ?_
          refine r_bipush (pc := 45) C dX5_fallFor_45 (by decide) ?_
          refine r_icmp_ge (pc := 47) C 73 ⟨by omega, by omega⟩ ⟨by omega, by omega⟩ dX5_fallFor_47 (by decide) (fun h47 => ?_) (fun h47 => ?_)
          · skip
            have hF : firstF (fun i => decide (v ≤ vFall (ρ 0 7) (ρ 0 8) (ρ 0 9) (ρ 3) (ρ 4) (ρ 1) n.toNat (i : Int))) 100 0 = -1 := by rw [hi43_3, show 100 - i = 0 by omega, firstF]
            refine r_aload_n (pc := 73) C dX5_fallFor_73 rfl 0 rfl ?_
            refine r_getR5 (pc := 74) C 0 (k' := 42) rfl O_41 (by decide) rfl t_780 dX5_fallFor_74 ?_
            refine r_iconst (pc := 77) C dX5_fallFor_77 ?_
            refine r_iload_n (pc := 78) C dX5_fallFor_78 rfl 3 rfl ?_
            refine r_iast (pc := 79) C 2 A_42 (by omega) (by omega) dX5_fallFor_79 ?_
            refine r_sg (wrS hi43_1 rfl) ?_
            refine r_iload (pc := 80) C dX5_fallFor_80 4 rfl ?_
            refine r_bipush (pc := 82) C dX5_fallFor_82 (by decide) ?_
            refine r_icmp_le (pc := 84) C 96 ⟨by omega, by omega⟩ ⟨by omega, by omega⟩ dX5_fallFor_84 (by decide) (fun h84 => ?_) (fun h84 => ?_)
            · skip
              refine r_iload (pc := 96) C dX5_fallFor_96 4 rfl ?_
              exact r_retM (pc := 98) C (by first | (exfalso; omega; done) | (rw [if_pos (by omega), if_pos hF]; done) | (rw [if_pos (by omega), if_neg (by omega)]; done) | (rw [if_pos (by omega), if_neg (by omega), hF]; done)) (((us_s _ _ _)).trans (congrArg mkS (wr_back _ _ _ _))) (fun k hk => ((us_n _ _ hk.1).trans (hi43_2 k hk)).trans (congrFun (by first | (exfalso; omega; done) | (rw [if_pos (by omega), if_pos hF]; done) | (rw [if_pos (by omega), if_neg (by omega)]; done) | (rw [if_pos (by omega), if_neg (by omega), hF]; done)) k)) dX5_fallFor_98
            · skip
              refine r_aload_n (pc := 87) C dX5_fallFor_87 rfl 0 rfl ?_
              refine r_ldc (pc := 88) C (-1000004) t_1052 (by decide) dX5_fallFor_88 ?_
              refine r_cVi (pc := 90) C (c_finds g 3 (by decide) (us s43 42 (mkS (wr (wr ρ 0 8 (i : Int)) 0 8 (ρ 0 8))))) yX5_finds_w O_41 rfl rfl t_855 ⟨by decide, by decide⟩ (Nat.le_of_ble_eq_true rfl) (by rw [show ((-1000004) : Int) = -1000001 - ((3 : Nat) : Int) by decide]; rfl) dX5_fallFor_90 ?_
              refine r_goto (pc := 93) C 98 dX5_fallFor_93 (by decide) ?_
              exact r_retM (pc := 98) C (by first | (exfalso; omega; done) | (rw [if_pos (by omega), if_pos hF]; done) | (rw [if_pos (by omega), if_neg (by omega)]; done) | (rw [if_pos (by omega), if_neg (by omega), hF]; done)) ((((wr_n _ _ _ (by omega)).trans (us_s _ _ _))).trans (congrArg mkS (wr_back _ _ _ _))) (fun k hk => (finM_c 3 (fun k hk => (us_n _ _ hk.1).trans (hi43_2 k hk)) k hk).trans (congrFun (by first | (exfalso; omega; done) | (rw [if_pos (by omega), if_pos hF]; done) | (rw [if_pos (by omega), if_neg (by omega)]; done) | (rw [if_pos (by omega), if_neg (by omega), hF]; done)) k)) dX5_fallFor_98
          · skip
            refine r_aload_n (pc := 50) C dX5_fallFor_50 rfl 0 rfl ?_
            refine r_iload_n (pc := 51) C dX5_fallFor_51 rfl 2 rfl ?_
            refine r_cVm (pc := 52) C (c_dustBehind g 255 ⟨by decide, by decide⟩ n.toNat (by omega) (wr ρ 0 8 (i : Int)) s43 hi43_1 (RMw8 (RM_of hW) (by omega)) ((congrFun (hi43_2 41 (by decide)) 6).trans h6)) yX5_dustBehind_w O_41 rfl rfl t_1088 ⟨by decide, by decide⟩ (Nat.le_of_ble_eq_true rfl) (by rw [show ((n.toNat : Nat) : Int) = n by omega]; rfl) dX5_fallFor_52 (fun s52 hm52_ hT52 => ?_)
            refine r_top (show _ = vFall (ρ 0 7) (ρ 0 8) (ρ 0 9) (ρ 3) (ρ 4) (ρ 1) n.toNat (i : Int) from rfl) ?_
            have hv := dstS_rng (n := ρ 0 7) (fl := (i : Int)) (w := ρ 0 9) (K := ρ 3) (A := ρ 4) (m := 255) (D := ρ 1) hn (by omega) hA hD n.toNat
            have hv2 : 0 ≤ vFall (ρ 0 7) (ρ 0 8) (ρ 0 9) (ρ 3) (ρ 4) (ρ 1) n.toNat (i : Int) ∧ vFall (ρ 0 7) (ρ 0 8) (ρ 0 9) (ρ 3) (ρ 4) (ρ 1) n.toNat (i : Int) ≤ 119988 := hv
            refine r_iload_n (pc := 55) C dX5_fallFor_55 rfl 1 rfl ?_
            refine r_icmp_ge (pc := 56) C 73 ⟨by omega, by omega⟩ h_v dX5_fallFor_56 (by decide) (fun h56 => ?_) (fun h56 => ?_)
            · skip
              have hF : firstF (fun i => decide (v ≤ vFall (ρ 0 7) (ρ 0 8) (ρ 0 9) (ρ 3) (ρ 4) (ρ 1) n.toNat (i : Int))) 100 0 = (i : Int) := by rw [hi43_3, show 100 - i = 100 - (i + 1) + 1 by omega, firstF, if_pos (by simp; omega)]
              refine r_aload_n (pc := 73) C dX5_fallFor_73 rfl 0 rfl ?_
              refine r_getR5 (pc := 74) C 0 (k' := 42) rfl O_41 (by decide) rfl t_780 dX5_fallFor_74 ?_
              refine r_iconst (pc := 77) C dX5_fallFor_77 ?_
              refine r_iload_n (pc := 78) C dX5_fallFor_78 rfl 3 rfl ?_
              refine r_iast (pc := 79) C 2 A_42 (by omega) (by omega) dX5_fallFor_79 ?_
              refine r_sg (wrS hm52_ rfl) ?_
              refine r_iload (pc := 80) C dX5_fallFor_80 4 rfl ?_
              refine r_bipush (pc := 82) C dX5_fallFor_82 (by decide) ?_
              refine r_icmp_le (pc := 84) C 96 ⟨by omega, by omega⟩ ⟨by omega, by omega⟩ dX5_fallFor_84 (by decide) (fun h84 => ?_) (fun h84 => ?_)
              · skip
                refine r_iload (pc := 96) C dX5_fallFor_96 4 rfl ?_
                exact r_retM (pc := 98) C (by first | (exfalso; omega; done) | (rw [if_pos (by omega), if_pos hF]; done) | (rw [if_pos (by omega), if_neg (by omega)]; done) | (rw [if_pos (by omega), if_neg (by omega), hF]; done)) (((us_s _ _ _)).trans (congrArg mkS (wr_back _ _ _ _))) (fun k hk => ((us_n _ _ hk.1).trans ((hT52 k hk).trans (hi43_2 k hk))).trans (congrFun (by first | (exfalso; omega; done) | (rw [if_pos (by omega), if_pos hF]; done) | (rw [if_pos (by omega), if_neg (by omega)]; done) | (rw [if_pos (by omega), if_neg (by omega), hF]; done)) k)) dX5_fallFor_98
              · skip
                refine r_aload_n (pc := 87) C dX5_fallFor_87 rfl 0 rfl ?_
                refine r_ldc (pc := 88) C (-1000004) t_1052 (by decide) dX5_fallFor_88 ?_
                refine r_cVi (pc := 90) C (c_finds g 3 (by decide) (us s52 42 (mkS (wr (wr ρ 0 8 (i : Int)) 0 8 (ρ 0 8))))) yX5_finds_w O_41 rfl rfl t_855 ⟨by decide, by decide⟩ (Nat.le_of_ble_eq_true rfl) (by rw [show ((-1000004) : Int) = -1000001 - ((3 : Nat) : Int) by decide]; rfl) dX5_fallFor_90 ?_
                refine r_goto (pc := 93) C 98 dX5_fallFor_93 (by decide) ?_
                exact r_retM (pc := 98) C (by first | (exfalso; omega; done) | (rw [if_pos (by omega), if_pos hF]; done) | (rw [if_pos (by omega), if_neg (by omega)]; done) | (rw [if_pos (by omega), if_neg (by omega), hF]; done)) ((((wr_n _ _ _ (by omega)).trans (us_s _ _ _))).trans (congrArg mkS (wr_back _ _ _ _))) (fun k hk => (finM_c 3 (fun k hk => (us_n _ _ hk.1).trans ((hT52 k hk).trans (hi43_2 k hk))) k hk).trans (congrFun (by first | (exfalso; omega; done) | (rw [if_pos (by omega), if_pos hF]; done) | (rw [if_pos (by omega), if_neg (by omega)]; done) | (rw [if_pos (by omega), if_neg (by omega), hF]; done)) k)) dX5_fallFor_98
            · skip
              refine r_iinc (pc := 59) C dX5_fallFor_59 4 rfl (by decide) [1, 2, 3, 4, 0] (lv' := [(0, .ref (gA g 41)), (1, .int (iI (v))), (2, .int (iI (n))), (3, .int (iI (ρ 0 8))), (4, .int (iI ((i : Int) + 1)))]) rfl ?_
              refine r_aload_n (pc := 62) C dX5_fallFor_62 rfl 0 rfl ?_
              refine r_getR5 (pc := 63) C 0 (k' := 42) rfl O_41 (by decide) rfl t_780 dX5_fallFor_63 ?_
              refine r_iconst (pc := 66) C dX5_fallFor_66 ?_
              refine r_iload (pc := 67) C dX5_fallFor_67 4 rfl ?_
              refine r_iast (pc := 69) C 2 A_42 (by omega) (by omega) dX5_fallFor_69 ?_
              refine r_sg (wrS hm52_ rfl) ?_
              refine r_goto (pc := 70) C 43 dX5_fallFor_70 (by decide) ?_
              exact ih43 (i + 1) _ _ (by omega) (by omega) (by rw [us_s]; exact congrArg mkS ((wr_wr _ _ _ _ _).trans (congrArg (wr ρ 0 8) (by omega)))) (by exact fun c hc => (us_n _ _ hc.1).trans ((hT52 c hc).trans (hi43_2 c hc))) (by rw [hi43_3, show 100 - i = 100 - (i + 1) + 1 by omega, firstF, if_neg (by simp; omega)]) (by omega)
      exact L43 _ 0 _ _ (Nat.lt_succ_self _) (by omega) (by exact us_s _ _ _) (by exact fun c hc => us_n _ _ hc.1) (by rfl) (rfl)
    · skip
      refine r_aload_n (pc := 19) C dX5_fallFor_19 rfl 0 rfl ?_
      refine r_ldc (pc := 20) C (-1000001) t_854 (by decide) dX5_fallFor_20 ?_
      refine r_cVi (pc := 22) C (c_finds g 0 (by decide) σ) yX5_finds_w O_41 rfl rfl t_855 ⟨by decide, by decide⟩ (Nat.le_of_ble_eq_true rfl) (by rw [show ((-1000001) : Int) = -1000001 - ((0 : Nat) : Int) by decide]; rfl) dX5_fallFor_22 ?_
      exact r_retM (pc := 25) C (by first | (exfalso; omega; done) | ((try (first | rw [if_pos (by omega)] | rw [if_neg (by omega)])); (try (first | rw [if_pos (by omega)] | rw [if_neg (by omega)])); (try (first | rw [if_pos (by omega)] | rw [if_neg (by omega)])); (try (first | rw [if_pos (by omega)] | rw [if_neg (by omega)])); (try rfl))) ((((wr_n _ _ _ (by omega)).trans hS)).trans (congrArg mkS (by first | (exfalso; omega; done) | ((try (first | rw [if_pos (by omega)] | rw [if_neg (by omega)])); (try (first | rw [if_pos (by omega)] | rw [if_neg (by omega)])); (try (first | rw [if_pos (by omega)] | rw [if_neg (by omega)])); (try (first | rw [if_pos (by omega)] | rw [if_neg (by omega)])); (try rfl))))) (fun k hk => (rfl).trans (congrFun (by first | (exfalso; omega; done) | ((try (first | rw [if_pos (by omega)] | rw [if_neg (by omega)])); (try (first | rw [if_pos (by omega)] | rw [if_neg (by omega)])); (try (first | rw [if_pos (by omega)] | rw [if_neg (by omega)])); (try (first | rw [if_pos (by omega)] | rw [if_neg (by omega)])); (try rfl))) k)) dX5_fallFor_25
set_option maxHeartbeats 4000000 in
set_option maxRecDepth 100000 in
theorem e_swapFor (g : Gt) (x n : Int) (h_x : rng x) (h_n : rng n) (ρ σ : Sg) (hS : σ 42 = mkS ρ) (hW : RW ρ 0) (h6 : σ 41 6 = 255) : Mt g yX5_swapFor cX5_swapFor 8 (some FieldType.int) 7 [.ref (gA g 41), .int (iI (x)), .int (iI (n))] σ (pM (if (0 ≤ x ∧ x < ρ 0 7) ∧ 0 ≤ n ∧ n ≤ 40 then (if (bstM (vSwap (ρ 0 7) (ρ 0 8) (ρ 0 9) (ρ 3) (ρ 4) (ρ 1, ρ 5, ρ 6) x.toNat n.toNat) x.toNat (ρ 0 7).toNat).1 < 0 then (-1000001 - ((3 : Nat) : Int)) else (bstM (vSwap (ρ 0 7) (ρ 0 8) (ρ 0 9) (ρ 3) (ρ 4) (ρ 1, ρ 5, ρ 6) x.toNat n.toNat) x.toNat (ρ 0 7).toNat).1) else (-1000001 - ((0 : Nat) : Int))) (ρ) (if (0 ≤ x ∧ x < ρ 0 7) ∧ 0 ≤ n ∧ n ≤ 40 then (if (bstM (vSwap (ρ 0 7) (ρ 0 8) (ρ 0 9) (ρ 3) (ρ 4) (ρ 1, ρ 5, ρ 6) x.toNat n.toNat) x.toNat (ρ 0 7).toNat).1 < 0 then finM 3 σ else σ) else finM 0 σ)) := by
  obtain ⟨hn, hfl, hw, hdy, hz, hD_, hK_, hA_, hG_, hM_, hP_⟩ := id hW
  have hD : rgD (ρ 1) := hD_
  have hK : rgK (ρ 3) := hK_
  have hA : rgA (ρ 4) := hA_
  have hG : rgG (ρ 5) := hG_
  have hM : rgM (ρ 6) := hM_
  have hP : ∀ j, j < 10 → -1 ≤ ρ 7 j ∧ ρ 7 j < ρ 0 7 := hP_
  have ho_x := h_x.1; have hp_x := h_x.2
  have ho_n := h_n.1; have hp_n := h_n.2
  refine mt_of (own := RX5) (by decide) rfl (Nat.le_of_ble_eq_true rfl) (fun E C => ?_)
  show J g E (pM (if (0 ≤ x ∧ x < ρ 0 7) ∧ 0 ≤ n ∧ n ≤ 40 then (if (bstM (vSwap (ρ 0 7) (ρ 0 8) (ρ 0 9) (ρ 3) (ρ 4) (ρ 1, ρ 5, ρ 6) x.toNat n.toNat) x.toNat (ρ 0 7).toNat).1 < 0 then (-1000001 - ((3 : Nat) : Int)) else (bstM (vSwap (ρ 0 7) (ρ 0 8) (ρ 0 9) (ρ 3) (ρ 4) (ρ 1, ρ 5, ρ 6) x.toNat n.toNat) x.toNat (ρ 0 7).toNat).1) else (-1000001 - ((0 : Nat) : Int))) (ρ) (if (0 ≤ x ∧ x < ρ 0 7) ∧ 0 ≤ n ∧ n ≤ 40 then (if (bstM (vSwap (ρ 0 7) (ρ 0 8) (ρ 0 9) (ρ 3) (ρ 4) (ρ 1, ρ 5, ρ 6) x.toNat n.toNat) x.toNat (ρ 0 7).toNat).1 < 0 then finM 3 σ else σ) else finM 0 σ)) 8 0 [(0, .ref (gA g 41)), (1, .int (iI (x))), (2, .int (iI (n)))] [] σ
  refine r_aload_n (pc := 0) C dX5_swapFor_0 rfl 0 rfl ?_
  refine r_iload_n (pc := 1) C dX5_swapFor_1 rfl 1 rfl ?_
  refine r_cVi (pc := 2) C (c_m_isTenant g x h_x ρ σ hS hn) yX5_isTenant_w O_41 rfl rfl t_905 ⟨by decide, by decide⟩ (Nat.le_of_ble_eq_true rfl) rfl dX5_swapFor_2 ?_
  refine r_ifz_eq (pc := 5) C 15 dX5_swapFor_5 (by decide) (fun h5 => ?_) (fun h5 => ?_)
  · skip
    refine r_aload_n (pc := 15) C dX5_swapFor_15 rfl 0 rfl ?_
    refine r_ldc (pc := 16) C (-1000001) t_854 (by decide) dX5_swapFor_16 ?_
    refine r_cVi (pc := 18) C (c_finds g 0 (by decide) σ) yX5_finds_w O_41 rfl rfl t_855 ⟨by decide, by decide⟩ (Nat.le_of_ble_eq_true rfl) (by rw [show ((-1000001) : Int) = -1000001 - ((0 : Nat) : Int) by decide]; rfl) dX5_swapFor_18 ?_
    exact r_retM (pc := 21) C (by first | (exfalso; omega; done) | ((try (first | rw [if_pos (by omega)] | rw [if_neg (by omega)])); (try (first | rw [if_pos (by omega)] | rw [if_neg (by omega)])); (try (first | rw [if_pos (by omega)] | rw [if_neg (by omega)])); (try (first | rw [if_pos (by omega)] | rw [if_neg (by omega)])); (try rfl))) ((((wr_n _ _ _ (by omega)).trans hS)).trans (congrArg mkS (by first | (exfalso; omega; done) | ((try (first | rw [if_pos (by omega)] | rw [if_neg (by omega)])); (try (first | rw [if_pos (by omega)] | rw [if_neg (by omega)])); (try (first | rw [if_pos (by omega)] | rw [if_neg (by omega)])); (try (first | rw [if_pos (by omega)] | rw [if_neg (by omega)])); (try rfl))))) (fun k hk => (rfl).trans (congrFun (by first | (exfalso; omega; done) | ((try (first | rw [if_pos (by omega)] | rw [if_neg (by omega)])); (try (first | rw [if_pos (by omega)] | rw [if_neg (by omega)])); (try (first | rw [if_pos (by omega)] | rw [if_neg (by omega)])); (try (first | rw [if_pos (by omega)] | rw [if_neg (by omega)])); (try rfl))) k)) dX5_swapFor_21
  · skip
    refine r_iload_n (pc := 8) C dX5_swapFor_8 rfl 2 rfl ?_
    refine r_cSi (pc := 9) C (c_m_isSoon g n h_n σ) yX5_isSoon_w rfl t_1069 ⟨by decide, by decide⟩ (Nat.le_of_ble_eq_true rfl) rfl dX5_swapFor_9 ?_
    refine r_ifz_ne (pc := 12) C 22 dX5_swapFor_12 (by decide) (fun h12 => ?_) (fun h12 => ?_)
    · skip
      have hV : ∀ q : Nat, q < (ρ 0 7).toNat → 0 ≤ (vSwap (ρ 0 7) (ρ 0 8) (ρ 0 9) (ρ 3) (ρ 4) (ρ 1, ρ 5, ρ 6) x.toNat n.toNat) (q : Int) ∧ (vSwap (ρ 0 7) (ρ 0 8) (ρ 0 9) (ρ 3) (ρ 4) (ρ 1, ρ 5, ρ 6) x.toNat n.toNat) (q : Int) ≤ 99999 := fun q hq => (daysC_rng (q := (ρ 1, ρ 5, ρ 6)) hn hfl (rgA_up (rgA_up hA (hA q (by omega))) (hA x.toNat (by omega))) hD hG hM n.toNat).2.1 x.toNat (by omega)
      refine r_iconst (pc := 22) C dX5_swapFor_22 ?_
      refine r_istore_n (pc := 23) C dX5_swapFor_23 rfl (by decide) [1, 2, 3, 0] (lv' := [(0, .ref (gA g 41)), (1, .int (iI (x))), (2, .int (iI (n))), (3, .int (iI ((-1))))]) rfl ?_
      refine r_iconst (pc := 24) C dX5_swapFor_24 ?_
      refine r_istore (pc := 25) C dX5_swapFor_25 (by decide) [1, 2, 3, 4, 0] (lv' := [(0, .ref (gA g 41)), (1, .int (iI (x))), (2, .int (iI (n))), (3, .int (iI ((-1)))), (4, .int (iI ((-1))))]) rfl ?_
      refine r_iconst (pc := 27) C dX5_swapFor_27 ?_
      refine r_istore (pc := 28) C dX5_swapFor_28 (by decide) [1, 2, 3, 4, 5, 0] (lv' := [(0, .ref (gA g 41)), (1, .int (iI (x))), (2, .int (iI (n))), (3, .int (iI ((-1)))), (4, .int (iI ((-1)))), (5, .int (iI (0)))]) rfl ?_
      have L30 : ∀ (n_ : Nat) (i : Nat) (x30_3 x30_4 x30_5 : Int) (s30 : Sg), (ρ 0 7).toNat - i < n_ → ((i : Int) ≤ ρ 0 7) → (s30 42 = mkS ρ) → (∀ c, (c ≠ 42 ∧ c ≠ 44 ∧ c ≠ 45 ∧ c ≠ 47 ∧ c ≠ 48 ∧ c ≠ 53) → s30 c = σ c) → x30_3 = (bstM (vSwap (ρ 0 7) (ρ 0 8) (ρ 0 9) (ρ 3) (ρ 4) (ρ 1, ρ 5, ρ 6) x.toNat n.toNat) x.toNat i).1 → x30_4 = (bstM (vSwap (ρ 0 7) (ρ 0 8) (ρ 0 9) (ρ 3) (ρ 4) (ρ 1, ρ 5, ρ 6) x.toNat n.toNat) x.toNat i).2 → x30_5 = (i : Int) → J g E (pM (if (0 ≤ x ∧ x < ρ 0 7) ∧ 0 ≤ n ∧ n ≤ 40 then (if (bstM (vSwap (ρ 0 7) (ρ 0 8) (ρ 0 9) (ρ 3) (ρ 4) (ρ 1, ρ 5, ρ 6) x.toNat n.toNat) x.toNat (ρ 0 7).toNat).1 < 0 then (-1000001 - ((3 : Nat) : Int)) else (bstM (vSwap (ρ 0 7) (ρ 0 8) (ρ 0 9) (ρ 3) (ρ 4) (ρ 1, ρ 5, ρ 6) x.toNat n.toNat) x.toNat (ρ 0 7).toNat).1) else (-1000001 - ((0 : Nat) : Int))) (ρ) (if (0 ≤ x ∧ x < ρ 0 7) ∧ 0 ≤ n ∧ n ≤ 40 then (if (bstM (vSwap (ρ 0 7) (ρ 0 8) (ρ 0 9) (ρ 3) (ρ 4) (ρ 1, ρ 5, ρ 6) x.toNat n.toNat) x.toNat (ρ 0 7).toNat).1 < 0 then finM 3 σ else σ) else finM 0 σ)) 8 30 [(0, .ref (gA g 41)), (1, .int (iI (x))), (2, .int (iI (n))), (3, .int (iI (x30_3))), (4, .int (iI (x30_4))), (5, .int (iI (x30_5)))] [] s30 := by
        intro n_
        induction n_ with
        | zero => intro i x30_3 x30_4 x30_5 s30 hm_; exact absurd hm_ (Nat.not_lt_zero _)
        | succ n_ ih30 =>
          intro i x30_3 x30_4 x30_5 s30 hm30 hi30_0 hi30_1 hi30_2 e30_0 e30_1 e30_2 
          subst e30_0 e30_1 e30_2 
          have hb := bstM_rng (V := (vSwap (ρ 0 7) (ρ 0 8) (ρ 0 9) (ρ 3) (ρ 4) (ρ 1, ρ 5, ρ 6) x.toNat n.toNat)) (t := x.toNat) (m := 99999) (by omega) i (fun q hq => hV q (by omega))
          refine r_iload (pc := 30) C dX5_swapFor_30 5 rfl ?_
          refine r_aload_n (pc := 32) C dX5_swapFor_32 rfl 0 rfl ?_
          refine r_getR5 (pc := 33) C 0 (k' := 42) rfl O_41 (by decide) rfl t_780 dX5_swapFor_33 ?_
          refine r_iconst (pc := 36) C dX5_swapFor_36 ?_
          refine r_iald (pc := 37) C 1 A_42 (by omega) (by omega) dX5_swapFor_37 ?_
          refine r_top (show _ = ρ 0 7 from (congrFun hi30_1 _).trans (mkS_at rfl)) ?_
          refine r_icmp_ge (pc := 38) C 109 ⟨by omega, by omega⟩ ⟨by omega, by omega⟩ dX5_swapFor_38 (by decide) (fun h38 => ?_) (fun h38 => ?_)
          · skip
            have hi_ : i = (ρ 0 7).toNat := by omega
            rw [hi_] at hb ⊢
            skip
            refine r_iload_n (pc := 109) C dX5_swapFor_109 rfl 3 rfl ?_
            refine r_if_ge (pc := 110) C 122 ⟨by omega, by omega⟩ dX5_swapFor_110 (by decide) (fun h110 => ?_) (fun h110 => ?_)
            · skip
              refine r_iload_n (pc := 122) C dX5_swapFor_122 rfl 3 rfl ?_
              exact r_retM (pc := 123) C (by first | (exfalso; omega; done) | (rw [if_pos (by omega), if_pos (by omega)]; done) | (rw [if_pos (by omega), if_neg (by omega)]; done)) (hi30_1) (fun k hk => (hi30_2 k hk).trans (congrFun (by first | (exfalso; omega; done) | (rw [if_pos (by omega), if_pos (by omega)]; done) | (rw [if_pos (by omega), if_neg (by omega)]; done)) k)) dX5_swapFor_123
            · skip
              refine r_aload_n (pc := 113) C dX5_swapFor_113 rfl 0 rfl ?_
              refine r_ldc (pc := 114) C (-1000004) t_1052 (by decide) dX5_swapFor_114 ?_
              refine r_cVi (pc := 116) C (c_finds g 3 (by decide) s30) yX5_finds_w O_41 rfl rfl t_855 ⟨by decide, by decide⟩ (Nat.le_of_ble_eq_true rfl) (by rw [show ((-1000004) : Int) = -1000001 - ((3 : Nat) : Int) by decide]; rfl) dX5_swapFor_116 ?_
              refine r_goto (pc := 119) C 123 dX5_swapFor_119 (by decide) ?_
              exact r_retM (pc := 123) C (by first | (exfalso; omega; done) | (rw [if_pos (by omega), if_pos (by omega)]; done) | (rw [if_pos (by omega), if_neg (by omega)]; done)) (((wr_n _ _ _ (by omega)).trans hi30_1)) (fun k hk => (finM_c 3 (fun k hk => hi30_2 k hk) k hk).trans (congrFun (by first | (exfalso; omega; done) | (rw [if_pos (by omega), if_pos (by omega)]; done) | (rw [if_pos (by omega), if_neg (by omega)]; done)) k)) dX5_swapFor_123
          · skip
            refine r_iload (pc := 41) C dX5_swapFor_41 5 rfl ?_
            refine r_iload_n (pc := 43) C dX5_swapFor_43 rfl 1 rfl ?_
            refine r_icmp_eq (pc := 44) C 103 ⟨by omega, by omega⟩ h_x dX5_swapFor_44 (by decide) (fun h44 => ?_) (fun h44 => ?_)
            · skip
              refine r_iinc (pc := 103) C dX5_swapFor_103 5 rfl (by decide) [1, 2, 3, 4, 5, 0] (lv' := [(0, .ref (gA g 41)), (1, .int (iI (x))), (2, .int (iI (n))), (3, .int (iI ((bstM (vSwap (ρ 0 7) (ρ 0 8) (ρ 0 9) (ρ 3) (ρ 4) (ρ 1, ρ 5, ρ 6) x.toNat n.toNat) x.toNat i).1))), (4, .int (iI ((bstM (vSwap (ρ 0 7) (ρ 0 8) (ρ 0 9) (ρ 3) (ρ 4) (ρ 1, ρ 5, ρ 6) x.toNat n.toNat) x.toNat i).2))), (5, .int (iI ((i : Int) + 1)))]) rfl ?_
              refine r_goto (pc := 106) C 30 dX5_swapFor_106 (by decide) ?_
              exact ih30 (i + 1) _ _ _ _ (by omega) (by omega) (by first | assumption | exact us_s _ _ _) (by first | assumption | exact fun c hc => (us_n _ _ hc.1).trans ((hT59 c hc).trans ((us_n _ _ hc.1).trans (hi30_2 c hc)))) (by first | (exfalso; omega; done) | (rw [bstM, if_pos ⟨by omega, by omega⟩]; done) | (rw [bstM, if_neg (fun q => by have q1 := q.1; have q2 := q.2; omega)]; done)) (by first | (exfalso; omega; done) | (rw [bstM, if_pos ⟨by omega, by omega⟩]; done) | (rw [bstM, if_neg (fun q => by have q1 := q.1; have q2 := q.2; omega)]; done)) (by omega)
            · skip
              refine r_aload_n (pc := 47) C dX5_swapFor_47 rfl 0 rfl ?_
              refine r_iload_n (pc := 48) C dX5_swapFor_48 rfl 1 rfl ?_
              refine r_iload (pc := 49) C dX5_swapFor_49 5 rfl ?_
              refine r_cVi (pc := 51) C (c_swaps g x.toNat i (by omega) (by omega) (by omega) ρ s30 hi30_1 hA) yX5_swaps_w O_41 rfl rfl t_942 ⟨by decide, by decide⟩ (Nat.le_of_ble_eq_true rfl) (by rw [show ((x.toNat : Nat) : Int) = x by omega]; rfl) dX5_swapFor_51 ?_
              refine r_istore (pc := 54) C dX5_swapFor_54 (by decide) [1, 2, 3, 4, 5, 6, 0] (lv' := [(0, .ref (gA g 41)), (1, .int (iI (x))), (2, .int (iI (n))), (3, .int (iI ((bstM (vSwap (ρ 0 7) (ρ 0 8) (ρ 0 9) (ρ 3) (ρ 4) (ρ 1, ρ 5, ρ 6) x.toNat n.toNat) x.toNat i).1))), (4, .int (iI ((bstM (vSwap (ρ 0 7) (ρ 0 8) (ρ 0 9) (ρ 3) (ρ 4) (ρ 1, ρ 5, ρ 6) x.toNat n.toNat) x.toNat i).2))), (5, .int (iI ((i : Int)))), (6, .int (iI (if ρ 4 i = ρ 4 x.toNat then 0 else 1)))]) rfl ?_
              refine r_aload_n (pc := 56) C dX5_swapFor_56 rfl 0 rfl ?_
              refine r_iload_n (pc := 57) C dX5_swapFor_57 rfl 1 rfl ?_
              refine r_iload_n (pc := 58) C dX5_swapFor_58 rfl 2 rfl ?_
              refine r_cVm (pc := 59) C (c_goodsBehind g x.toNat n.toNat (by omega) (by omega) (wr (wr ρ 4 x.toNat (ρ 4 i)) 4 i (ρ 4 x.toNat)) (us s30 42 (mkS (wr (wr ρ 4 x.toNat (ρ 4 i)) 4 i (ρ 4 x.toNat)))) (us_s _ _ _) (RMsw (RM_of hW) (by omega) (by omega)) ((us_o2 _ _ _ (by decide)).trans ((congrFun (hi30_2 41 (by decide)) 6).trans h6))) yX5_goodsBehind_w O_41 rfl rfl t_1036 ⟨by decide, by decide⟩ (Nat.le_of_ble_eq_true rfl) (by rw [show ((x.toNat : Nat) : Int) = x by omega, show ((n.toNat : Nat) : Int) = n by omega]; rfl) dX5_swapFor_59 (fun s59 hm59_ hT59 => ?_)
              refine r_top (show _ = (vSwap (ρ 0 7) (ρ 0 8) (ρ 0 9) (ρ 3) (ρ 4) (ρ 1, ρ 5, ρ 6) x.toNat n.toNat) (i : Int) from rfl) ?_
              have hv := hV i (by omega)
              refine r_istore (pc := 62) C dX5_swapFor_62 (by decide) [1, 2, 3, 4, 5, 6, 7, 0] (lv' := [(0, .ref (gA g 41)), (1, .int (iI (x))), (2, .int (iI (n))), (3, .int (iI ((bstM (vSwap (ρ 0 7) (ρ 0 8) (ρ 0 9) (ρ 3) (ρ 4) (ρ 1, ρ 5, ρ 6) x.toNat n.toNat) x.toNat i).1))), (4, .int (iI ((bstM (vSwap (ρ 0 7) (ρ 0 8) (ρ 0 9) (ρ 3) (ρ 4) (ρ 1, ρ 5, ρ 6) x.toNat n.toNat) x.toNat i).2))), (5, .int (iI ((i : Int)))), (6, .int (iI (if ρ 4 i = ρ 4 x.toNat then 0 else 1))), (7, .int (iI ((vSwap (ρ 0 7) (ρ 0 8) (ρ 0 9) (ρ 3) (ρ 4) (ρ 1, ρ 5, ρ 6) x.toNat n.toNat) (i : Int))))]) rfl ?_
              refine r_aload_n (pc := 64) C dX5_swapFor_64 rfl 0 rfl ?_
              refine r_iload_n (pc := 65) C dX5_swapFor_65 rfl 1 rfl ?_
              refine r_iload (pc := 66) C dX5_swapFor_66 5 rfl ?_
              refine r_cVi (pc := 68) C (c_swaps g x.toNat i (by omega) (by omega) (by omega) (wr (wr ρ 4 x.toNat (ρ 4 i)) 4 i (ρ 4 x.toNat)) s59 hm59_ (RMsw (RM_of hW) (by omega) (by omega)).2.2.2.2.2.1) yX5_swaps_w O_41 rfl rfl t_942 ⟨by decide, by decide⟩ (Nat.le_of_ble_eq_true rfl) (by rw [show ((x.toNat : Nat) : Int) = x by omega]; rfl) dX5_swapFor_68 ?_
              refine r_sg (congrArg (fun q => us s59 42 (mkS q)) (sw_back (by omega))) ?_
              refine r_istore (pc := 71) C dX5_swapFor_71 (by decide) [1, 2, 3, 4, 5, 6, 0, 7] (lv' := [(0, .ref (gA g 41)), (1, .int (iI (x))), (2, .int (iI (n))), (3, .int (iI ((bstM (vSwap (ρ 0 7) (ρ 0 8) (ρ 0 9) (ρ 3) (ρ 4) (ρ 1, ρ 5, ρ 6) x.toNat n.toNat) x.toNat i).1))), (4, .int (iI ((bstM (vSwap (ρ 0 7) (ρ 0 8) (ρ 0 9) (ρ 3) (ρ 4) (ρ 1, ρ 5, ρ 6) x.toNat n.toNat) x.toNat i).2))), (5, .int (iI ((i : Int)))), (6, .int (iI (if (wr (wr ρ 4 x.toNat (ρ 4 i)) 4 i (ρ 4 x.toNat)) 4 i = (wr (wr ρ 4 x.toNat (ρ 4 i)) 4 i (ρ 4 x.toNat)) 4 x.toNat then 0 else 1))), (7, .int (iI ((vSwap (ρ 0 7) (ρ 0 8) (ρ 0 9) (ρ 3) (ρ 4) (ρ 1, ρ 5, ρ 6) x.toNat n.toNat) (i : Int))))]) rfl ?_
              refine r_iload (pc := 73) C dX5_swapFor_73 7 rfl ?_
              refine r_iload (pc := 75) C dX5_swapFor_75 4 rfl ?_
              refine r_icmp_le (pc := 77) C 85 ⟨by omega, by omega⟩ ⟨by omega, by omega⟩ dX5_swapFor_77 (by decide) (fun h77 => ?_) (fun h77 => ?_)
              · skip
                refine r_iload_n (pc := 85) C dX5_swapFor_85 rfl 3 rfl ?_
                refine r_istore_n (pc := 86) C dX5_swapFor_86 rfl (by decide) [1, 2, 3, 0, 4, 5, 6, 7] (lv' := [(0, .ref (gA g 41)), (1, .int (iI (x))), (2, .int (iI (n))), (3, .int (iI ((bstM (vSwap (ρ 0 7) (ρ 0 8) (ρ 0 9) (ρ 3) (ρ 4) (ρ 1, ρ 5, ρ 6) x.toNat n.toNat) x.toNat i).1))), (4, .int (iI ((bstM (vSwap (ρ 0 7) (ρ 0 8) (ρ 0 9) (ρ 3) (ρ 4) (ρ 1, ρ 5, ρ 6) x.toNat n.toNat) x.toNat i).2))), (5, .int (iI ((i : Int)))), (6, .int (iI (if (wr (wr ρ 4 x.toNat (ρ 4 i)) 4 i (ρ 4 x.toNat)) 4 i = (wr (wr ρ 4 x.toNat (ρ 4 i)) 4 i (ρ 4 x.toNat)) 4 x.toNat then 0 else 1))), (7, .int (iI ((vSwap (ρ 0 7) (ρ 0 8) (ρ 0 9) (ρ 3) (ρ 4) (ρ 1, ρ 5, ρ 6) x.toNat n.toNat) (i : Int))))]) rfl ?_
                refine r_iload (pc := 87) C dX5_swapFor_87 7 rfl ?_
                refine r_iload (pc := 89) C dX5_swapFor_89 4 rfl ?_
                refine r_icmp_le (pc := 91) C 99 ⟨by omega, by omega⟩ ⟨by omega, by omega⟩ dX5_swapFor_91 (by decide) (fun h91 => ?_) (fun h91 => ?_)
                · skip
                  refine r_iload (pc := 99) C dX5_swapFor_99 4 rfl ?_
                  refine r_istore (pc := 101) C dX5_swapFor_101 (by decide) [1, 2, 3, 4, 0, 5, 6, 7] (lv' := [(0, .ref (gA g 41)), (1, .int (iI (x))), (2, .int (iI (n))), (3, .int (iI ((bstM (vSwap (ρ 0 7) (ρ 0 8) (ρ 0 9) (ρ 3) (ρ 4) (ρ 1, ρ 5, ρ 6) x.toNat n.toNat) x.toNat i).1))), (4, .int (iI ((bstM (vSwap (ρ 0 7) (ρ 0 8) (ρ 0 9) (ρ 3) (ρ 4) (ρ 1, ρ 5, ρ 6) x.toNat n.toNat) x.toNat i).2))), (5, .int (iI ((i : Int)))), (6, .int (iI (if (wr (wr ρ 4 x.toNat (ρ 4 i)) 4 i (ρ 4 x.toNat)) 4 i = (wr (wr ρ 4 x.toNat (ρ 4 i)) 4 i (ρ 4 x.toNat)) 4 x.toNat then 0 else 1))), (7, .int (iI ((vSwap (ρ 0 7) (ρ 0 8) (ρ 0 9) (ρ 3) (ρ 4) (ρ 1, ρ 5, ρ 6) x.toNat n.toNat) (i : Int))))]) rfl ?_
                  refine r_iinc (pc := 103) C dX5_swapFor_103 5 rfl (by decide) [1, 2, 3, 4, 5, 0, 6, 7] (lv' := [(0, .ref (gA g 41)), (1, .int (iI (x))), (2, .int (iI (n))), (3, .int (iI ((bstM (vSwap (ρ 0 7) (ρ 0 8) (ρ 0 9) (ρ 3) (ρ 4) (ρ 1, ρ 5, ρ 6) x.toNat n.toNat) x.toNat i).1))), (4, .int (iI ((bstM (vSwap (ρ 0 7) (ρ 0 8) (ρ 0 9) (ρ 3) (ρ 4) (ρ 1, ρ 5, ρ 6) x.toNat n.toNat) x.toNat i).2))), (5, .int (iI ((i : Int) + 1))), (6, .int (iI (if (wr (wr ρ 4 x.toNat (ρ 4 i)) 4 i (ρ 4 x.toNat)) 4 i = (wr (wr ρ 4 x.toNat (ρ 4 i)) 4 i (ρ 4 x.toNat)) 4 x.toNat then 0 else 1))), (7, .int (iI ((vSwap (ρ 0 7) (ρ 0 8) (ρ 0 9) (ρ 3) (ρ 4) (ρ 1, ρ 5, ρ 6) x.toNat n.toNat) (i : Int))))]) rfl ?_
                  refine r_goto (pc := 106) C 30 dX5_swapFor_106 (by decide) ?_
                  refine r_lv [0, 1, 2, 3, 4, 5] (lv' := [(0, .ref (gA g 41)), (1, .int (iI (x))), (2, .int (iI (n))), (3, .int (iI ((bstM (vSwap (ρ 0 7) (ρ 0 8) (ρ 0 9) (ρ 3) (ρ 4) (ρ 1, ρ 5, ρ 6) x.toNat n.toNat) x.toNat i).1))), (4, .int (iI ((bstM (vSwap (ρ 0 7) (ρ 0 8) (ρ 0 9) (ρ 3) (ρ 4) (ρ 1, ρ 5, ρ 6) x.toNat n.toNat) x.toNat i).2))), (5, .int (iI ((i : Int) + 1)))]) rfl ?_
                  exact ih30 (i + 1) _ _ _ _ (by omega) (by omega) (by first | assumption | exact us_s _ _ _) (by first | assumption | exact fun c hc => (us_n _ _ hc.1).trans ((hT59 c hc).trans ((us_n _ _ hc.1).trans (hi30_2 c hc)))) (by first | (exfalso; omega; done) | (rw [bstM, if_pos ⟨by omega, by omega⟩]; done) | (rw [bstM, if_neg (fun q => by have q1 := q.1; have q2 := q.2; omega)]; done)) (by first | (exfalso; omega; done) | (rw [bstM, if_pos ⟨by omega, by omega⟩]; done) | (rw [bstM, if_neg (fun q => by have q1 := q.1; have q2 := q.2; omega)]; done)) (by omega)
                · skip
                  refine r_iload (pc := 94) C dX5_swapFor_94 7 rfl ?_
                  refine r_goto (pc := 96) C 101 dX5_swapFor_96 (by decide) ?_
                  refine r_istore (pc := 101) C dX5_swapFor_101 (by decide) [1, 2, 3, 4, 0, 5, 6, 7] (lv' := [(0, .ref (gA g 41)), (1, .int (iI (x))), (2, .int (iI (n))), (3, .int (iI ((bstM (vSwap (ρ 0 7) (ρ 0 8) (ρ 0 9) (ρ 3) (ρ 4) (ρ 1, ρ 5, ρ 6) x.toNat n.toNat) x.toNat i).1))), (4, .int (iI ((vSwap (ρ 0 7) (ρ 0 8) (ρ 0 9) (ρ 3) (ρ 4) (ρ 1, ρ 5, ρ 6) x.toNat n.toNat) (i : Int)))), (5, .int (iI ((i : Int)))), (6, .int (iI (if (wr (wr ρ 4 x.toNat (ρ 4 i)) 4 i (ρ 4 x.toNat)) 4 i = (wr (wr ρ 4 x.toNat (ρ 4 i)) 4 i (ρ 4 x.toNat)) 4 x.toNat then 0 else 1))), (7, .int (iI ((vSwap (ρ 0 7) (ρ 0 8) (ρ 0 9) (ρ 3) (ρ 4) (ρ 1, ρ 5, ρ 6) x.toNat n.toNat) (i : Int))))]) rfl ?_
                  refine r_iinc (pc := 103) C dX5_swapFor_103 5 rfl (by decide) [1, 2, 3, 4, 5, 0, 6, 7] (lv' := [(0, .ref (gA g 41)), (1, .int (iI (x))), (2, .int (iI (n))), (3, .int (iI ((bstM (vSwap (ρ 0 7) (ρ 0 8) (ρ 0 9) (ρ 3) (ρ 4) (ρ 1, ρ 5, ρ 6) x.toNat n.toNat) x.toNat i).1))), (4, .int (iI ((vSwap (ρ 0 7) (ρ 0 8) (ρ 0 9) (ρ 3) (ρ 4) (ρ 1, ρ 5, ρ 6) x.toNat n.toNat) (i : Int)))), (5, .int (iI ((i : Int) + 1))), (6, .int (iI (if (wr (wr ρ 4 x.toNat (ρ 4 i)) 4 i (ρ 4 x.toNat)) 4 i = (wr (wr ρ 4 x.toNat (ρ 4 i)) 4 i (ρ 4 x.toNat)) 4 x.toNat then 0 else 1))), (7, .int (iI ((vSwap (ρ 0 7) (ρ 0 8) (ρ 0 9) (ρ 3) (ρ 4) (ρ 1, ρ 5, ρ 6) x.toNat n.toNat) (i : Int))))]) rfl ?_
                  refine r_goto (pc := 106) C 30 dX5_swapFor_106 (by decide) ?_
                  refine r_lv [0, 1, 2, 3, 4, 5] (lv' := [(0, .ref (gA g 41)), (1, .int (iI (x))), (2, .int (iI (n))), (3, .int (iI ((bstM (vSwap (ρ 0 7) (ρ 0 8) (ρ 0 9) (ρ 3) (ρ 4) (ρ 1, ρ 5, ρ 6) x.toNat n.toNat) x.toNat i).1))), (4, .int (iI ((vSwap (ρ 0 7) (ρ 0 8) (ρ 0 9) (ρ 3) (ρ 4) (ρ 1, ρ 5, ρ 6) x.toNat n.toNat) (i : Int)))), (5, .int (iI ((i : Int) + 1)))]) rfl ?_
                  exact ih30 (i + 1) _ _ _ _ (by omega) (by omega) (by first | assumption | exact us_s _ _ _) (by first | assumption | exact fun c hc => (us_n _ _ hc.1).trans ((hT59 c hc).trans ((us_n _ _ hc.1).trans (hi30_2 c hc)))) (by first | (exfalso; omega; done) | (rw [bstM, if_pos ⟨by omega, by omega⟩]; done) | (rw [bstM, if_neg (fun q => by have q1 := q.1; have q2 := q.2; omega)]; done)) (by first | (exfalso; omega; done) | (rw [bstM, if_pos ⟨by omega, by omega⟩]; done) | (rw [bstM, if_neg (fun q => by have q1 := q.1; have q2 := q.2; omega)]; done)) (by omega)
              · skip
                refine r_iload (pc := 80) C dX5_swapFor_80 5 rfl ?_
                refine r_goto (pc := 82) C 86 dX5_swapFor_82 (by decide) ?_
                refine r_istore_n (pc := 86) C dX5_swapFor_86 rfl (by decide) [1, 2, 3, 0, 4, 5, 6, 7] (lv' := [(0, .ref (gA g 41)), (1, .int (iI (x))), (2, .int (iI (n))), (3, .int (iI ((i : Int)))), (4, .int (iI ((bstM (vSwap (ρ 0 7) (ρ 0 8) (ρ 0 9) (ρ 3) (ρ 4) (ρ 1, ρ 5, ρ 6) x.toNat n.toNat) x.toNat i).2))), (5, .int (iI ((i : Int)))), (6, .int (iI (if (wr (wr ρ 4 x.toNat (ρ 4 i)) 4 i (ρ 4 x.toNat)) 4 i = (wr (wr ρ 4 x.toNat (ρ 4 i)) 4 i (ρ 4 x.toNat)) 4 x.toNat then 0 else 1))), (7, .int (iI ((vSwap (ρ 0 7) (ρ 0 8) (ρ 0 9) (ρ 3) (ρ 4) (ρ 1, ρ 5, ρ 6) x.toNat n.toNat) (i : Int))))]) rfl ?_
                refine r_iload (pc := 87) C dX5_swapFor_87 7 rfl ?_
                refine r_iload (pc := 89) C dX5_swapFor_89 4 rfl ?_
                refine r_icmp_le (pc := 91) C 99 ⟨by omega, by omega⟩ ⟨by omega, by omega⟩ dX5_swapFor_91 (by decide) (fun h91 => ?_) (fun h91 => ?_)
                · skip
                  refine r_iload (pc := 99) C dX5_swapFor_99 4 rfl ?_
                  refine r_istore (pc := 101) C dX5_swapFor_101 (by decide) [1, 2, 3, 4, 0, 5, 6, 7] (lv' := [(0, .ref (gA g 41)), (1, .int (iI (x))), (2, .int (iI (n))), (3, .int (iI ((i : Int)))), (4, .int (iI ((bstM (vSwap (ρ 0 7) (ρ 0 8) (ρ 0 9) (ρ 3) (ρ 4) (ρ 1, ρ 5, ρ 6) x.toNat n.toNat) x.toNat i).2))), (5, .int (iI ((i : Int)))), (6, .int (iI (if (wr (wr ρ 4 x.toNat (ρ 4 i)) 4 i (ρ 4 x.toNat)) 4 i = (wr (wr ρ 4 x.toNat (ρ 4 i)) 4 i (ρ 4 x.toNat)) 4 x.toNat then 0 else 1))), (7, .int (iI ((vSwap (ρ 0 7) (ρ 0 8) (ρ 0 9) (ρ 3) (ρ 4) (ρ 1, ρ 5, ρ 6) x.toNat n.toNat) (i : Int))))]) rfl ?_
                  refine r_iinc (pc := 103) C dX5_swapFor_103 5 rfl (by decide) [1, 2, 3, 4, 5, 0, 6, 7] (lv' := [(0, .ref (gA g 41)), (1, .int (iI (x))), (2, .int (iI (n))), (3, .int (iI ((i : Int)))), (4, .int (iI ((bstM (vSwap (ρ 0 7) (ρ 0 8) (ρ 0 9) (ρ 3) (ρ 4) (ρ 1, ρ 5, ρ 6) x.toNat n.toNat) x.toNat i).2))), (5, .int (iI ((i : Int) + 1))), (6, .int (iI (if (wr (wr ρ 4 x.toNat (ρ 4 i)) 4 i (ρ 4 x.toNat)) 4 i = (wr (wr ρ 4 x.toNat (ρ 4 i)) 4 i (ρ 4 x.toNat)) 4 x.toNat then 0 else 1))), (7, .int (iI ((vSwap (ρ 0 7) (ρ 0 8) (ρ 0 9) (ρ 3) (ρ 4) (ρ 1, ρ 5, ρ 6) x.toNat n.toNat) (i : Int))))]) rfl ?_
                  refine r_goto (pc := 106) C 30 dX5_swapFor_106 (by decide) ?_
                  refine r_lv [0, 1, 2, 3, 4, 5] (lv' := [(0, .ref (gA g 41)), (1, .int (iI (x))), (2, .int (iI (n))), (3, .int (iI ((i : Int)))), (4, .int (iI ((bstM (vSwap (ρ 0 7) (ρ 0 8) (ρ 0 9) (ρ 3) (ρ 4) (ρ 1, ρ 5, ρ 6) x.toNat n.toNat) x.toNat i).2))), (5, .int (iI ((i : Int) + 1)))]) rfl ?_
                  exact ih30 (i + 1) _ _ _ _ (by omega) (by omega) (by first | assumption | exact us_s _ _ _) (by first | assumption | exact fun c hc => (us_n _ _ hc.1).trans ((hT59 c hc).trans ((us_n _ _ hc.1).trans (hi30_2 c hc)))) (by first | (exfalso; omega; done) | (rw [bstM, if_pos ⟨by omega, by omega⟩]; done) | (rw [bstM, if_neg (fun q => by have q1 := q.1; have q2 := q.2; omega)]; done)) (by first | (exfalso; omega; done) | (rw [bstM, if_pos ⟨by omega, by omega⟩]; done) | (rw [bstM, if_neg (fun q => by have q1 := q.1; have q2 := q.2; omega)]; done)) (by omega)
                · skip
                  refine r_iload (pc := 94) C dX5_swapFor_94 7 rfl ?_
                  refine r_goto (pc := 96) C 101 dX5_swapFor_96 (by decide) ?_
                  refine r_istore (pc := 101) C dX5_swapFor_101 (by decide) [1, 2, 3, 4, 0, 5, 6, 7] (lv' := [(0, .ref (gA g 41)), (1, .int (iI (x))), (2, .int (iI (n))), (3, .int (iI ((i : Int)))), (4, .int (iI ((vSwap (ρ 0 7) (ρ 0 8) (ρ 0 9) (ρ 3) (ρ 4) (ρ 1, ρ 5, ρ 6) x.toNat n.toNat) (i : Int)))), (5, .int (iI ((i : Int)))), (6, .int (iI (if (wr (wr ρ 4 x.toNat (ρ 4 i)) 4 i (ρ 4 x.toNat)) 4 i = (wr (wr ρ 4 x.toNat (ρ 4 i)) 4 i (ρ 4 x.toNat)) 4 x.toNat then 0 else 1))), (7, .int (iI ((vSwap (ρ 0 7) (ρ 0 8) (ρ 0 9) (ρ 3) (ρ 4) (ρ 1, ρ 5, ρ 6) x.toNat n.toNat) (i : Int))))]) rfl ?_
                  refine r_iinc (pc := 103) C dX5_swapFor_103 5 rfl (by decide) [1, 2, 3, 4, 5, 0, 6, 7] (lv' := [(0, .ref (gA g 41)), (1, .int (iI (x))), (2, .int (iI (n))), (3, .int (iI ((i : Int)))), (4, .int (iI ((vSwap (ρ 0 7) (ρ 0 8) (ρ 0 9) (ρ 3) (ρ 4) (ρ 1, ρ 5, ρ 6) x.toNat n.toNat) (i : Int)))), (5, .int (iI ((i : Int) + 1))), (6, .int (iI (if (wr (wr ρ 4 x.toNat (ρ 4 i)) 4 i (ρ 4 x.toNat)) 4 i = (wr (wr ρ 4 x.toNat (ρ 4 i)) 4 i (ρ 4 x.toNat)) 4 x.toNat then 0 else 1))), (7, .int (iI ((vSwap (ρ 0 7) (ρ 0 8) (ρ 0 9) (ρ 3) (ρ 4) (ρ 1, ρ 5, ρ 6) x.toNat n.toNat) (i : Int))))]) rfl ?_
                  refine r_goto (pc := 106) C 30 dX5_swapFor_106 (by decide) ?_
                  refine r_lv [0, 1, 2, 3, 4, 5] (lv' := [(0, .ref (gA g 41)), (1, .int (iI (x))), (2, .int (iI (n))), (3, .int (iI ((i : Int)))), (4, .int (iI ((vSwap (ρ 0 7) (ρ 0 8) (ρ 0 9) (ρ 3) (ρ 4) (ρ 1, ρ 5, ρ 6) x.toNat n.toNat) (i : Int)))), (5, .int (iI ((i : Int) + 1)))]) rfl ?_
                  exact ih30 (i + 1) _ _ _ _ (by omega) (by omega) (by first | assumption | exact us_s _ _ _) (by first | assumption | exact fun c hc => (us_n _ _ hc.1).trans ((hT59 c hc).trans ((us_n _ _ hc.1).trans (hi30_2 c hc)))) (by first | (exfalso; omega; done) | (rw [bstM, if_pos ⟨by omega, by omega⟩]; done) | (rw [bstM, if_neg (fun q => by have q1 := q.1; have q2 := q.2; omega)]; done)) (by first | (exfalso; omega; done) | (rw [bstM, if_pos ⟨by omega, by omega⟩]; done) | (rw [bstM, if_neg (fun q => by have q1 := q.1; have q2 := q.2; omega)]; done)) (by omega)
      exact L30 _ 0 _ _ _ _ (Nat.lt_succ_self _) (by omega) (by exact hS) (by exact fun _ _ => rfl) (rfl) (rfl) (rfl)
    · skip
      refine r_aload_n (pc := 15) C dX5_swapFor_15 rfl 0 rfl ?_
      refine r_ldc (pc := 16) C (-1000001) t_854 (by decide) dX5_swapFor_16 ?_
      refine r_cVi (pc := 18) C (c_finds g 0 (by decide) σ) yX5_finds_w O_41 rfl rfl t_855 ⟨by decide, by decide⟩ (Nat.le_of_ble_eq_true rfl) (by rw [show ((-1000001) : Int) = -1000001 - ((0 : Nat) : Int) by decide]; rfl) dX5_swapFor_18 ?_
      exact r_retM (pc := 21) C (by first | (exfalso; omega; done) | ((try (first | rw [if_pos (by omega)] | rw [if_neg (by omega)])); (try (first | rw [if_pos (by omega)] | rw [if_neg (by omega)])); (try (first | rw [if_pos (by omega)] | rw [if_neg (by omega)])); (try (first | rw [if_pos (by omega)] | rw [if_neg (by omega)])); (try rfl))) ((((wr_n _ _ _ (by omega)).trans hS)).trans (congrArg mkS (by first | (exfalso; omega; done) | ((try (first | rw [if_pos (by omega)] | rw [if_neg (by omega)])); (try (first | rw [if_pos (by omega)] | rw [if_neg (by omega)])); (try (first | rw [if_pos (by omega)] | rw [if_neg (by omega)])); (try (first | rw [if_pos (by omega)] | rw [if_neg (by omega)])); (try rfl))))) (fun k hk => (rfl).trans (congrFun (by first | (exfalso; omega; done) | ((try (first | rw [if_pos (by omega)] | rw [if_neg (by omega)])); (try (first | rw [if_pos (by omega)] | rw [if_neg (by omega)])); (try (first | rw [if_pos (by omega)] | rw [if_neg (by omega)])); (try (first | rw [if_pos (by omega)] | rw [if_neg (by omega)])); (try rfl))) k)) dX5_swapFor_21
set_option maxHeartbeats 4000000 in
set_option maxRecDepth 100000 in
theorem c_ones (g : Gt) (x : Int) (hx : 0 ≤ x ∧ x ≤ 4095) (σ : Sg) : Mt g yX5_ones cX5_ones 3 (some FieldType.int) 0 [.int (iI (x))] σ (pI (bitc x) σ) := by
  refine mt_of (own := RX5) (by decide) rfl (Nat.le_of_ble_eq_true rfl) (fun E C => ?_)
  show J g E (pI (bitc x) σ) 3 0 [(0, .int (iI (x)))] [] σ
  refine r_iconst (pc := 0) C dX5_ones_0 ?_
  refine r_istore_n (pc := 1) C dX5_ones_1 rfl (by decide) [1, 0] (lv' := [(0, .int (iI (x))), (1, .int (iI (0)))]) rfl ?_
  refine r_iload_n (pc := 2) C dX5_ones_2 rfl 0 rfl ?_
  refine r_istore_n (pc := 3) C dX5_ones_3 rfl (by decide) [1, 2, 0] (lv' := [(0, .int (iI (x))), (1, .int (iI (0))), (2, .int (iI (x)))]) rfl ?_
  have L4 : ∀ (n_ : Nat) (y : Int) (k : Int), y.toNat < n_ → (0 ≤ y ∧ y ≤ 4095) → (bitc x = k + bitc y) → J g E (pI (bitc x) σ) 3 4 [(0, .int (iI (x))), (1, .int (iI (k))), (2, .int (iI (y)))] [] σ := by
    intro n_
    induction n_ with
    | zero => intro y k   hm_; exact absurd hm_ (Nat.not_lt_zero _)
    | succ n_ ih4 =>
      intro y k   hm4 hi4_0 hi4_1  
      refine r_iload_n (pc := 4) C dX5_ones_4 rfl 2 rfl ?_
      refine r_if_eq (pc := 5) C 20 ⟨by omega, by omega⟩ dX5_ones_5 (by decide) (fun h5 => ?_) (fun h5 => ?_)
      · skip
        have hy0 : y = 0 := by omega
        have hz0 := bitc_0
        rw [hy0] at hi4_1
        refine r_iload_n (pc := 20) C dX5_ones_20 rfl 1 rfl ?_
        exact r_reti (pc := 21) C (by omega) (rfl) dX5_ones_21
      · skip
        refine r_iinc (pc := 8) C dX5_ones_8 1 rfl (by decide) [1, 0, 2] (lv' := [(0, .int (iI (x))), (1, .int (iI (k + 1))), (2, .int (iI (y)))]) rfl ?_
        have hb := bitc_step (x := y) (by omega)
        refine r_iload_n (pc := 11) C dX5_ones_11 rfl 2 rfl ?_
        refine r_iload_n (pc := 12) C dX5_ones_12 rfl 2 rfl ?_
        refine r_iconst (pc := 13) C dX5_ones_13 ?_
        refine r_isub (pc := 14) C dX5_ones_14 ?_
        refine r_iand (pc := 15) C dX5_ones_15 ?_
        refine r_istore_n (pc := 16) C dX5_ones_16 rfl (by decide) [1, 2, 0] (lv' := [(0, .int (iI (x))), (1, .int (iI (k + 1))), (2, .int (iI (band y (y - 1))))]) rfl ?_
        refine r_goto (pc := 17) C 4 dX5_ones_17 (by decide) ?_
        exact ih4 (band y (y - 1)) (k + 1) (by omega) (by omega) (by omega)
  exact L4 _ x 0 (Nat.lt_succ_self _) (by omega) (by omega)
set_option maxHeartbeats 4000000 in
set_option maxRecDepth 100000 in
theorem e_brooms (g : Gt) (v n : Int) (h_v : rng v) (h_n : rng n) (ρ σ : Sg) (hS : σ 42 = mkS ρ) (hW : RW ρ 0) (h6 : σ 41 6 = 255) : Mt g yX5_brooms cX5_brooms 5 (some FieldType.int) 8 [.ref (gA g 41), .int (iI (v)), .int (iI (n))] σ (pM (if (0 ≤ v ∧ v ≤ 99999) ∧ 0 ≤ n ∧ n ≤ 20 then (if brL (vSet (ρ 0 7) (ρ 0 8) (ρ 0 9) (ρ 3) (ρ 4) (ρ 1) n.toNat) v (bshl 1 (ρ 0 7)).toNat < 0 then (-1000001 - ((3 : Nat) : Int)) else brL (vSet (ρ 0 7) (ρ 0 8) (ρ 0 9) (ρ 3) (ρ 4) (ρ 1) n.toNat) v (bshl 1 (ρ 0 7)).toNat) else (-1000001 - ((0 : Nat) : Int))) (ρ) (if (0 ≤ v ∧ v ≤ 99999) ∧ 0 ≤ n ∧ n ≤ 20 then (if brL (vSet (ρ 0 7) (ρ 0 8) (ρ 0 9) (ρ 3) (ρ 4) (ρ 1) n.toNat) v (bshl 1 (ρ 0 7)).toNat < 0 then finM 3 σ else σ) else finM 0 σ)) := by
  obtain ⟨hn, hfl, hw, hdy, hz, hD_, hK_, hA_, hG_, hM_, hP_⟩ := id hW
  have hD : rgD (ρ 1) := hD_
  have hK : rgK (ρ 3) := hK_
  have hA : rgA (ρ 4) := hA_
  have hG : rgG (ρ 5) := hG_
  have hM : rgM (ρ 6) := hM_
  have hP : ∀ j, j < 10 → -1 ≤ ρ 7 j ∧ ρ 7 j < ρ 0 7 := hP_
  have ho_v := h_v.1; have hp_v := h_v.2
  have ho_n := h_n.1; have hp_n := h_n.2
  have hs1 := bshl_1 hn
  refine mt_of (own := RX5) (by decide) rfl (Nat.le_of_ble_eq_true rfl) (fun E C => ?_)
  show J g E (pM (if (0 ≤ v ∧ v ≤ 99999) ∧ 0 ≤ n ∧ n ≤ 20 then (if brL (vSet (ρ 0 7) (ρ 0 8) (ρ 0 9) (ρ 3) (ρ 4) (ρ 1) n.toNat) v (bshl 1 (ρ 0 7)).toNat < 0 then (-1000001 - ((3 : Nat) : Int)) else brL (vSet (ρ 0 7) (ρ 0 8) (ρ 0 9) (ρ 3) (ρ 4) (ρ 1) n.toNat) v (bshl 1 (ρ 0 7)).toNat) else (-1000001 - ((0 : Nat) : Int))) (ρ) (if (0 ≤ v ∧ v ≤ 99999) ∧ 0 ≤ n ∧ n ≤ 20 then (if brL (vSet (ρ 0 7) (ρ 0 8) (ρ 0 9) (ρ 3) (ρ 4) (ρ 1) n.toNat) v (bshl 1 (ρ 0 7)).toNat < 0 then finM 3 σ else σ) else finM 0 σ)) 5 0 [(0, .ref (gA g 41)), (1, .int (iI (v))), (2, .int (iI (n)))] [] σ
  refine r_iload_n (pc := 0) C dX5_brooms_0 rfl 1 rfl ?_
  refine r_i2l (pc := 1) C h_v dX5_brooms_1 ?_
  refine r_lconst (pc := 2) C (n := 0) dX5_brooms_2 (by decide) ?_
  refine r_ldc2 (pc := 3) C 99999 t_929 (by decide) dX5_brooms_3 ?_
  refine r_cSi (pc := 6) C (c_in g v 0 99999 ⟨by have := h_v.1; omega, by have := h_v.2; omega⟩ ⟨by omega, by omega⟩ ⟨by omega, by omega⟩ σ) yX5_in_w rfl t_846 ⟨by decide, by decide⟩ (Nat.le_of_ble_eq_true rfl) rfl dX5_brooms_6 ?_
  refine r_ifz_eq (pc := 9) C 24 dX5_brooms_9 (by decide) (fun h9 => ?_) (fun h9 => ?_)
  · skip
    refine r_aload_n (pc := 24) C dX5_brooms_24 rfl 0 rfl ?_
    refine r_ldc (pc := 25) C (-1000001) t_854 (by decide) dX5_brooms_25 ?_
    refine r_cVi (pc := 27) C (c_finds g 0 (by decide) σ) yX5_finds_w O_41 rfl rfl t_855 ⟨by decide, by decide⟩ (Nat.le_of_ble_eq_true rfl) (by rw [show ((-1000001) : Int) = -1000001 - ((0 : Nat) : Int) by decide]; rfl) dX5_brooms_27 ?_
    exact r_retM (pc := 30) C (by first | (exfalso; omega; done) | ((try (first | rw [if_pos (by omega)] | rw [if_neg (by omega)])); (try (first | rw [if_pos (by omega)] | rw [if_neg (by omega)])); (try (first | rw [if_pos (by omega)] | rw [if_neg (by omega)])); (try (first | rw [if_pos (by omega)] | rw [if_neg (by omega)])); (try rfl))) ((((wr_n _ _ _ (by omega)).trans hS)).trans (congrArg mkS (by first | (exfalso; omega; done) | ((try (first | rw [if_pos (by omega)] | rw [if_neg (by omega)])); (try (first | rw [if_pos (by omega)] | rw [if_neg (by omega)])); (try (first | rw [if_pos (by omega)] | rw [if_neg (by omega)])); (try (first | rw [if_pos (by omega)] | rw [if_neg (by omega)])); (try rfl))))) (fun k hk => (rfl).trans (congrFun (by first | (exfalso; omega; done) | ((try (first | rw [if_pos (by omega)] | rw [if_neg (by omega)])); (try (first | rw [if_pos (by omega)] | rw [if_neg (by omega)])); (try (first | rw [if_pos (by omega)] | rw [if_neg (by omega)])); (try (first | rw [if_pos (by omega)] | rw [if_neg (by omega)])); (try rfl))) k)) dX5_brooms_30
  · skip
    refine r_iload_n (pc := 12) C dX5_brooms_12 rfl 2 rfl ?_
    refine r_i2l (pc := 13) C h_n dX5_brooms_13 ?_
    refine r_lconst (pc := 14) C (n := 0) dX5_brooms_14 (by decide) ?_
    refine r_ldc2 (pc := 15) C 20 t_1100 (by decide) dX5_brooms_15 ?_
    refine r_cSi (pc := 18) C (c_in g n 0 20 ⟨by have := h_n.1; omega, by have := h_n.2; omega⟩ ⟨by omega, by omega⟩ ⟨by omega, by omega⟩ σ) yX5_in_w rfl t_846 ⟨by decide, by decide⟩ (Nat.le_of_ble_eq_true rfl) rfl dX5_brooms_18 ?_
    refine r_ifz_ne (pc := 21) C 31 dX5_brooms_21 (by decide) (fun h21 => ?_) (fun h21 => ?_)
    · skip
      refine r_iconst (pc := 31) C dX5_brooms_31 ?_
      refine r_istore_n (pc := 32) C dX5_brooms_32 rfl (by decide) [1, 2, 3, 0] (lv' := [(0, .ref (gA g 41)), (1, .int (iI (v))), (2, .int (iI (n))), (3, .int (iI ((-1))))]) rfl ?_
      refine r_iconst (pc := 33) C dX5_brooms_33 ?_
      refine r_istore (pc := 34) C dX5_brooms_34 (by decide) [1, 2, 3, 4, 0] (lv' := [(0, .ref (gA g 41)), (1, .int (iI (v))), (2, .int (iI (n))), (3, .int (iI ((-1)))), (4, .int (iI (0)))]) rfl ?_
      have L36 : ∀ (n_ : Nat) (i : Nat) (x36_3 x36_4 : Int) (s36 : Sg), 256 - i < n_ → (i ≤ (bshl 1 (ρ 0 7)).toNat) → (s36 42 = mkS ρ) → (∀ c, (c ≠ 42 ∧ c ≠ 44 ∧ c ≠ 45 ∧ c ≠ 47 ∧ c ≠ 48 ∧ c ≠ 53) → s36 c = σ c) → x36_3 = brL (vSet (ρ 0 7) (ρ 0 8) (ρ 0 9) (ρ 3) (ρ 4) (ρ 1) n.toNat) v i → x36_4 = (i : Int) → J g E (pM (if (0 ≤ v ∧ v ≤ 99999) ∧ 0 ≤ n ∧ n ≤ 20 then (if brL (vSet (ρ 0 7) (ρ 0 8) (ρ 0 9) (ρ 3) (ρ 4) (ρ 1) n.toNat) v (bshl 1 (ρ 0 7)).toNat < 0 then (-1000001 - ((3 : Nat) : Int)) else brL (vSet (ρ 0 7) (ρ 0 8) (ρ 0 9) (ρ 3) (ρ 4) (ρ 1) n.toNat) v (bshl 1 (ρ 0 7)).toNat) else (-1000001 - ((0 : Nat) : Int))) (ρ) (if (0 ≤ v ∧ v ≤ 99999) ∧ 0 ≤ n ∧ n ≤ 20 then (if brL (vSet (ρ 0 7) (ρ 0 8) (ρ 0 9) (ρ 3) (ρ 4) (ρ 1) n.toNat) v (bshl 1 (ρ 0 7)).toNat < 0 then finM 3 σ else σ) else finM 0 σ)) 5 36 [(0, .ref (gA g 41)), (1, .int (iI (v))), (2, .int (iI (n))), (3, .int (iI (x36_3))), (4, .int (iI (x36_4)))] [] s36 := by
        intro n_
        induction n_ with
        | zero => intro i x36_3 x36_4 s36 hm_; exact absurd hm_ (Nat.not_lt_zero _)
        | succ n_ ih36 =>
          intro i x36_3 x36_4 s36 hm36 hi36_0 hi36_1 hi36_2 e36_0 e36_1 
          subst e36_0 e36_1 
          have hb := brL_rng (vSet (ρ 0 7) (ρ 0 8) (ρ 0 9) (ρ 3) (ρ 4) (ρ 1) n.toNat) v i
          refine r_iload (pc := 36) C dX5_brooms_36 4 rfl ?_
          refine r_iconst (pc := 38) C dX5_brooms_38 ?_
          refine r_aload_n (pc := 39) C dX5_brooms_39 rfl 0 rfl ?_
          refine r_getR5 (pc := 40) C 0 (k' := 42) rfl O_41 (by decide) rfl t_780 dX5_brooms_40 ?_
          refine r_iconst (pc := 43) C dX5_brooms_43 ?_
          refine r_iald (pc := 44) C 1 A_42 (by omega) (by omega) dX5_brooms_44 ?_
          refine r_top (show _ = ρ 0 7 from (congrFun hi36_1 _).trans (mkS_at rfl)) ?_
          refine r_ishl (pc := 45) C dX5_brooms_45 ?_
          refine r_icmp_ge (pc := 46) C 89 ⟨by omega, by omega⟩ (bshl_rng _ _) dX5_brooms_46 (by decide) (fun h46 => ?_) (fun h46 => ?_)
          · skip
            have hi_ : i = (bshl 1 (ρ 0 7)).toNat := by omega
            rw [hi_] at hb ⊢
            skip
            refine r_iload_n (pc := 89) C dX5_brooms_89 rfl 3 rfl ?_
            refine r_if_ge (pc := 90) C 102 ⟨by omega, by omega⟩ dX5_brooms_90 (by decide) (fun h90 => ?_) (fun h90 => ?_)
            · skip
              refine r_iload_n (pc := 102) C dX5_brooms_102 rfl 3 rfl ?_
              exact r_retM (pc := 103) C (by first | (exfalso; omega; done) | (rw [if_pos (by omega), if_pos (by omega)]; done) | (rw [if_pos (by omega), if_neg (by omega)]; done)) (hi36_1) (fun k hk => (hi36_2 k hk).trans (congrFun (by first | (exfalso; omega; done) | (rw [if_pos (by omega), if_pos (by omega)]; done) | (rw [if_pos (by omega), if_neg (by omega)]; done)) k)) dX5_brooms_103
            · skip
              refine r_aload_n (pc := 93) C dX5_brooms_93 rfl 0 rfl ?_
              refine r_ldc (pc := 94) C (-1000004) t_1052 (by decide) dX5_brooms_94 ?_
              refine r_cVi (pc := 96) C (c_finds g 3 (by decide) s36) yX5_finds_w O_41 rfl rfl t_855 ⟨by decide, by decide⟩ (Nat.le_of_ble_eq_true rfl) (by rw [show ((-1000004) : Int) = -1000001 - ((3 : Nat) : Int) by decide]; rfl) dX5_brooms_96 ?_
              refine r_goto (pc := 99) C 103 dX5_brooms_99 (by decide) ?_
              exact r_retM (pc := 103) C (by first | (exfalso; omega; done) | (rw [if_pos (by omega), if_pos (by omega)]; done) | (rw [if_pos (by omega), if_neg (by omega)]; done)) (((wr_n _ _ _ (by omega)).trans hi36_1)) (fun k hk => (finM_c 3 (fun k hk => hi36_2 k hk) k hk).trans (congrFun (by first | (exfalso; omega; done) | (rw [if_pos (by omega), if_pos (by omega)]; done) | (rw [if_pos (by omega), if_neg (by omega)]; done)) k)) dX5_brooms_103
          · skip
            refine r_iload_n (pc := 49) C dX5_brooms_49 rfl 3 rfl ?_
            refine r_if_lt (pc := 50) C 65 ⟨by omega, by omega⟩ dX5_brooms_50 (by decide) (fun h50 => ?_) (fun h50 => ?_)
            · skip
              refine r_aload_n (pc := 65) C dX5_brooms_65 rfl 0 rfl ?_
              refine r_iload (pc := 66) C dX5_brooms_66 4 rfl ?_
              refine r_iload_n (pc := 68) C dX5_brooms_68 rfl 2 rfl ?_
              refine r_cVm (pc := 69) C (c_dustWith g (i : Int) ⟨by omega, by omega⟩ n.toNat (by omega) ρ s36 hi36_1 (RM_of hW) ((congrFun (hi36_2 41 (by decide)) 6).trans h6)) yX5_dustWith_w O_41 rfl rfl t_1104 ⟨by decide, by decide⟩ (Nat.le_of_ble_eq_true rfl) (by rw [show ((n.toNat : Nat) : Int) = n by omega]; rfl) dX5_brooms_69 (fun s69 hm69_ hT69 => ?_)
              refine r_top (show _ = (vSet (ρ 0 7) (ρ 0 8) (ρ 0 9) (ρ 3) (ρ 4) (ρ 1) n.toNat) (i : Int) from rfl) ?_
              have hv2 : 0 ≤ (vSet (ρ 0 7) (ρ 0 8) (ρ 0 9) (ρ 3) (ρ 4) (ρ 1) n.toNat) (i : Int) ∧ (vSet (ρ 0 7) (ρ 0 8) (ρ 0 9) (ρ 3) (ρ 4) (ρ 1) n.toNat) (i : Int) ≤ 119988 := dstS_rng hn hfl hA hD n.toNat
              refine r_iload_n (pc := 72) C dX5_brooms_72 rfl 1 rfl ?_
              refine r_icmp_gt (pc := 73) C 81 ⟨by omega, by omega⟩ h_v dX5_brooms_73 (by decide) (fun h73 => ?_) (fun h73 => ?_)
              · skip
                refine r_iload_n (pc := 81) C dX5_brooms_81 rfl 3 rfl ?_
                refine r_istore_n (pc := 82) C dX5_brooms_82 rfl (by decide) [1, 2, 3, 0, 4] (lv' := [(0, .ref (gA g 41)), (1, .int (iI (v))), (2, .int (iI (n))), (3, .int (iI (brL (vSet (ρ 0 7) (ρ 0 8) (ρ 0 9) (ρ 3) (ρ 4) (ρ 1) n.toNat) v i))), (4, .int (iI ((i : Int))))]) rfl ?_
                refine r_iinc (pc := 83) C dX5_brooms_83 4 rfl (by decide) [1, 2, 3, 4, 0] (lv' := [(0, .ref (gA g 41)), (1, .int (iI (v))), (2, .int (iI (n))), (3, .int (iI (brL (vSet (ρ 0 7) (ρ 0 8) (ρ 0 9) (ρ 3) (ρ 4) (ρ 1) n.toNat) v i))), (4, .int (iI ((i : Int) + 1)))]) rfl ?_
                refine r_goto (pc := 86) C 36 dX5_brooms_86 (by decide) ?_
                exact ih36 (i + 1) _ _ _ (by omega) (by omega) (by first | assumption | exact hm69_) (by first | assumption | exact fun c hc => (hT69 c hc).trans (hi36_2 c hc)) (by first | (exfalso; omega; done) | (rw [brL, if_pos (by omega)]; done) | (rw [brL, if_neg (by omega)]; done)) (by omega)
              · skip
                refine r_iload (pc := 76) C dX5_brooms_76 4 rfl ?_
                refine r_goto (pc := 78) C 82 dX5_brooms_78 (by decide) ?_
                refine r_istore_n (pc := 82) C dX5_brooms_82 rfl (by decide) [1, 2, 3, 0, 4] (lv' := [(0, .ref (gA g 41)), (1, .int (iI (v))), (2, .int (iI (n))), (3, .int (iI ((i : Int)))), (4, .int (iI ((i : Int))))]) rfl ?_
                refine r_iinc (pc := 83) C dX5_brooms_83 4 rfl (by decide) [1, 2, 3, 4, 0] (lv' := [(0, .ref (gA g 41)), (1, .int (iI (v))), (2, .int (iI (n))), (3, .int (iI ((i : Int)))), (4, .int (iI ((i : Int) + 1)))]) rfl ?_
                refine r_goto (pc := 86) C 36 dX5_brooms_86 (by decide) ?_
                exact ih36 (i + 1) _ _ _ (by omega) (by omega) (by first | assumption | exact hm69_) (by first | assumption | exact fun c hc => (hT69 c hc).trans (hi36_2 c hc)) (by first | (exfalso; omega; done) | (rw [brL, if_pos (by omega)]; done) | (rw [brL, if_neg (by omega)]; done)) (by omega)
            · skip
              refine r_iload (pc := 53) C dX5_brooms_53 4 rfl ?_
              have hb1 := bitc_12 (x := (i : Int)) (by omega)
              refine r_cSi (pc := 55) C (c_ones g (i : Int) (by omega) s36) yX5_ones_w rfl t_1101 ⟨by decide, by decide⟩ (Nat.le_of_ble_eq_true rfl) rfl dX5_brooms_55 ?_
              refine r_iload_n (pc := 58) C dX5_brooms_58 rfl 3 rfl ?_
              have hb2 := bitc_12 (x := brL (vSet (ρ 0 7) (ρ 0 8) (ρ 0 9) (ρ 3) (ρ 4) (ρ 1) n.toNat) v i) (by omega)
              refine r_cSi (pc := 59) C (c_ones g (brL (vSet (ρ 0 7) (ρ 0 8) (ρ 0 9) (ρ 3) (ρ 4) (ρ 1) n.toNat) v i) (by omega) s36) yX5_ones_w rfl t_1101 ⟨by decide, by decide⟩ (Nat.le_of_ble_eq_true rfl) rfl dX5_brooms_59 ?_
              refine r_icmp_ge (pc := 62) C 81 ⟨by omega, by omega⟩ ⟨by omega, by omega⟩ dX5_brooms_62 (by decide) (fun h62 => ?_) (fun h62 => ?_)
              · skip
                refine r_iload_n (pc := 81) C dX5_brooms_81 rfl 3 rfl ?_
                refine r_istore_n (pc := 82) C dX5_brooms_82 rfl (by decide) [1, 2, 3, 0, 4] (lv' := [(0, .ref (gA g 41)), (1, .int (iI (v))), (2, .int (iI (n))), (3, .int (iI (brL (vSet (ρ 0 7) (ρ 0 8) (ρ 0 9) (ρ 3) (ρ 4) (ρ 1) n.toNat) v i))), (4, .int (iI ((i : Int))))]) rfl ?_
                refine r_iinc (pc := 83) C dX5_brooms_83 4 rfl (by decide) [1, 2, 3, 4, 0] (lv' := [(0, .ref (gA g 41)), (1, .int (iI (v))), (2, .int (iI (n))), (3, .int (iI (brL (vSet (ρ 0 7) (ρ 0 8) (ρ 0 9) (ρ 3) (ρ 4) (ρ 1) n.toNat) v i))), (4, .int (iI ((i : Int) + 1)))]) rfl ?_
                refine r_goto (pc := 86) C 36 dX5_brooms_86 (by decide) ?_
                exact ih36 (i + 1) _ _ _ (by omega) (by omega) (by first | assumption | exact hm69_) (by first | assumption | exact fun c hc => (hT69 c hc).trans (hi36_2 c hc)) (by first | (exfalso; omega; done) | (rw [brL, if_pos (by omega)]; done) | (rw [brL, if_neg (by omega)]; done)) (by omega)
              · skip
                refine r_aload_n (pc := 65) C dX5_brooms_65 rfl 0 rfl ?_
                refine r_iload (pc := 66) C dX5_brooms_66 4 rfl ?_
                refine r_iload_n (pc := 68) C dX5_brooms_68 rfl 2 rfl ?_
                refine r_cVm (pc := 69) C (c_dustWith g (i : Int) ⟨by omega, by omega⟩ n.toNat (by omega) ρ s36 hi36_1 (RM_of hW) ((congrFun (hi36_2 41 (by decide)) 6).trans h6)) yX5_dustWith_w O_41 rfl rfl t_1104 ⟨by decide, by decide⟩ (Nat.le_of_ble_eq_true rfl) (by rw [show ((n.toNat : Nat) : Int) = n by omega]; rfl) dX5_brooms_69 (fun s69 hm69_ hT69 => ?_)
                refine r_top (show _ = (vSet (ρ 0 7) (ρ 0 8) (ρ 0 9) (ρ 3) (ρ 4) (ρ 1) n.toNat) (i : Int) from rfl) ?_
                have hv2 : 0 ≤ (vSet (ρ 0 7) (ρ 0 8) (ρ 0 9) (ρ 3) (ρ 4) (ρ 1) n.toNat) (i : Int) ∧ (vSet (ρ 0 7) (ρ 0 8) (ρ 0 9) (ρ 3) (ρ 4) (ρ 1) n.toNat) (i : Int) ≤ 119988 := dstS_rng hn hfl hA hD n.toNat
                refine r_iload_n (pc := 72) C dX5_brooms_72 rfl 1 rfl ?_
                refine r_icmp_gt (pc := 73) C 81 ⟨by omega, by omega⟩ h_v dX5_brooms_73 (by decide) (fun h73 => ?_) (fun h73 => ?_)
                · skip
                  refine r_iload_n (pc := 81) C dX5_brooms_81 rfl 3 rfl ?_
                  refine r_istore_n (pc := 82) C dX5_brooms_82 rfl (by decide) [1, 2, 3, 0, 4] (lv' := [(0, .ref (gA g 41)), (1, .int (iI (v))), (2, .int (iI (n))), (3, .int (iI (brL (vSet (ρ 0 7) (ρ 0 8) (ρ 0 9) (ρ 3) (ρ 4) (ρ 1) n.toNat) v i))), (4, .int (iI ((i : Int))))]) rfl ?_
                  refine r_iinc (pc := 83) C dX5_brooms_83 4 rfl (by decide) [1, 2, 3, 4, 0] (lv' := [(0, .ref (gA g 41)), (1, .int (iI (v))), (2, .int (iI (n))), (3, .int (iI (brL (vSet (ρ 0 7) (ρ 0 8) (ρ 0 9) (ρ 3) (ρ 4) (ρ 1) n.toNat) v i))), (4, .int (iI ((i : Int) + 1)))]) rfl ?_
                  refine r_goto (pc := 86) C 36 dX5_brooms_86 (by decide) ?_
                  exact ih36 (i + 1) _ _ _ (by omega) (by omega) (by first | assumption | exact hm69_) (by first | assumption | exact fun c hc => (hT69 c hc).trans (hi36_2 c hc)) (by first | (exfalso; omega; done) | (rw [brL, if_pos (by omega)]; done) | (rw [brL, if_neg (by omega)]; done)) (by omega)
                · skip
                  refine r_iload (pc := 76) C dX5_brooms_76 4 rfl ?_
                  refine r_goto (pc := 78) C 82 dX5_brooms_78 (by decide) ?_
                  refine r_istore_n (pc := 82) C dX5_brooms_82 rfl (by decide) [1, 2, 3, 0, 4] (lv' := [(0, .ref (gA g 41)), (1, .int (iI (v))), (2, .int (iI (n))), (3, .int (iI ((i : Int)))), (4, .int (iI ((i : Int))))]) rfl ?_
                  refine r_iinc (pc := 83) C dX5_brooms_83 4 rfl (by decide) [1, 2, 3, 4, 0] (lv' := [(0, .ref (gA g 41)), (1, .int (iI (v))), (2, .int (iI (n))), (3, .int (iI ((i : Int)))), (4, .int (iI ((i : Int) + 1)))]) rfl ?_
                  refine r_goto (pc := 86) C 36 dX5_brooms_86 (by decide) ?_
                  exact ih36 (i + 1) _ _ _ (by omega) (by omega) (by first | assumption | exact hm69_) (by first | assumption | exact fun c hc => (hT69 c hc).trans (hi36_2 c hc)) (by first | (exfalso; omega; done) | (rw [brL, if_pos (by omega)]; done) | (rw [brL, if_neg (by omega)]; done)) (by omega)
      exact L36 _ 0 _ _ _ (Nat.lt_succ_self _) (by omega) (by exact hS) (by exact fun _ _ => rfl) (rfl) (rfl)
    · skip
      refine r_aload_n (pc := 24) C dX5_brooms_24 rfl 0 rfl ?_
      refine r_ldc (pc := 25) C (-1000001) t_854 (by decide) dX5_brooms_25 ?_
      refine r_cVi (pc := 27) C (c_finds g 0 (by decide) σ) yX5_finds_w O_41 rfl rfl t_855 ⟨by decide, by decide⟩ (Nat.le_of_ble_eq_true rfl) (by rw [show ((-1000001) : Int) = -1000001 - ((0 : Nat) : Int) by decide]; rfl) dX5_brooms_27 ?_
      exact r_retM (pc := 30) C (by first | (exfalso; omega; done) | ((try (first | rw [if_pos (by omega)] | rw [if_neg (by omega)])); (try (first | rw [if_pos (by omega)] | rw [if_neg (by omega)])); (try (first | rw [if_pos (by omega)] | rw [if_neg (by omega)])); (try (first | rw [if_pos (by omega)] | rw [if_neg (by omega)])); (try rfl))) ((((wr_n _ _ _ (by omega)).trans hS)).trans (congrArg mkS (by first | (exfalso; omega; done) | ((try (first | rw [if_pos (by omega)] | rw [if_neg (by omega)])); (try (first | rw [if_pos (by omega)] | rw [if_neg (by omega)])); (try (first | rw [if_pos (by omega)] | rw [if_neg (by omega)])); (try (first | rw [if_pos (by omega)] | rw [if_neg (by omega)])); (try rfl))))) (fun k hk => (rfl).trans (congrFun (by first | (exfalso; omega; done) | ((try (first | rw [if_pos (by omega)] | rw [if_neg (by omega)])); (try (first | rw [if_pos (by omega)] | rw [if_neg (by omega)])); (try (first | rw [if_pos (by omega)] | rw [if_neg (by omega)])); (try (first | rw [if_pos (by omega)] | rw [if_neg (by omega)])); (try rfl))) k)) dX5_brooms_30
set_option maxHeartbeats 4000000 in
set_option maxRecDepth 100000 in
theorem e_without (g : Gt) (n : Int) (h_n : rng n) (ρ σ : Sg) (hS : σ 42 = mkS ρ) (hW : RW ρ 0) (h6 : σ 41 6 = 255) : Mt g yX5_without cX5_without 6 (some FieldType.int) 8 [.ref (gA g 41), .int (iI (n))] σ (pM (if 0 ≤ n ∧ n ≤ 40 then (if (bstM (vOut (ρ 0 7) (ρ 0 8) (ρ 0 9) (ρ 3) (ρ 4) (ρ 1) n.toNat) 99 (ρ 0 7).toNat).1 < 0 then (-1000001 - ((3 : Nat) : Int)) else (bstM (vOut (ρ 0 7) (ρ 0 8) (ρ 0 9) (ρ 3) (ρ 4) (ρ 1) n.toNat) 99 (ρ 0 7).toNat).1) else (-1000001 - ((0 : Nat) : Int))) (ρ) (if 0 ≤ n ∧ n ≤ 40 then (if (bstM (vOut (ρ 0 7) (ρ 0 8) (ρ 0 9) (ρ 3) (ρ 4) (ρ 1) n.toNat) 99 (ρ 0 7).toNat).1 < 0 then finM 3 σ else σ) else finM 0 σ)) := by
  obtain ⟨hn, hfl, hw, hdy, hz, hD_, hK_, hA_, hG_, hM_, hP_⟩ := id hW
  have hD : rgD (ρ 1) := hD_
  have hK : rgK (ρ 3) := hK_
  have hA : rgA (ρ 4) := hA_
  have hG : rgG (ρ 5) := hG_
  have hM : rgM (ρ 6) := hM_
  have hP : ∀ j, j < 10 → -1 ≤ ρ 7 j ∧ ρ 7 j < ρ 0 7 := hP_
  have ho_n := h_n.1; have hp_n := h_n.2
  refine mt_of (own := RX5) (by decide) rfl (Nat.le_of_ble_eq_true rfl) (fun E C => ?_)
  show J g E (pM (if 0 ≤ n ∧ n ≤ 40 then (if (bstM (vOut (ρ 0 7) (ρ 0 8) (ρ 0 9) (ρ 3) (ρ 4) (ρ 1) n.toNat) 99 (ρ 0 7).toNat).1 < 0 then (-1000001 - ((3 : Nat) : Int)) else (bstM (vOut (ρ 0 7) (ρ 0 8) (ρ 0 9) (ρ 3) (ρ 4) (ρ 1) n.toNat) 99 (ρ 0 7).toNat).1) else (-1000001 - ((0 : Nat) : Int))) (ρ) (if 0 ≤ n ∧ n ≤ 40 then (if (bstM (vOut (ρ 0 7) (ρ 0 8) (ρ 0 9) (ρ 3) (ρ 4) (ρ 1) n.toNat) 99 (ρ 0 7).toNat).1 < 0 then finM 3 σ else σ) else finM 0 σ)) 6 0 [(0, .ref (gA g 41)), (1, .int (iI (n)))] [] σ
  refine r_iload_n (pc := 0) C dX5_without_0 rfl 1 rfl ?_
  refine r_cSi (pc := 1) C (c_m_isSoon g n h_n σ) yX5_isSoon_w rfl t_1069 ⟨by decide, by decide⟩ (Nat.le_of_ble_eq_true rfl) rfl dX5_without_1 ?_
  refine r_ifz_ne (pc := 4) C 14 dX5_without_4 (by decide) (fun h4 => ?_) (fun h4 => ?_)
  · skip
    have hV : ∀ q : Nat, q < (ρ 0 7).toNat → 0 ≤ (vOut (ρ 0 7) (ρ 0 8) (ρ 0 9) (ρ 3) (ρ 4) (ρ 1) n.toNat) (q : Int) ∧ (vOut (ρ 0 7) (ρ 0 8) (ρ 0 9) (ρ 3) (ρ 4) (ρ 1) n.toNat) (q : Int) ≤ 119988 := fun q hq => dstS_rng hn hfl hA hD n.toNat
    refine r_iconst (pc := 14) C dX5_without_14 ?_
    refine r_istore_n (pc := 15) C dX5_without_15 rfl (by decide) [1, 2, 0] (lv' := [(0, .ref (gA g 41)), (1, .int (iI (n))), (2, .int (iI ((-1))))]) rfl ?_
    refine r_iconst (pc := 16) C dX5_without_16 ?_
    refine r_istore_n (pc := 17) C dX5_without_17 rfl (by decide) [1, 2, 3, 0] (lv' := [(0, .ref (gA g 41)), (1, .int (iI (n))), (2, .int (iI ((-1)))), (3, .int (iI ((-1))))]) rfl ?_
    refine r_iconst (pc := 18) C dX5_without_18 ?_
    refine r_istore (pc := 19) C dX5_without_19 (by decide) [1, 2, 3, 4, 0] (lv' := [(0, .ref (gA g 41)), (1, .int (iI (n))), (2, .int (iI ((-1)))), (3, .int (iI ((-1)))), (4, .int (iI (0)))]) rfl ?_
    have L21 : ∀ (n_ : Nat) (i : Nat) (x21_2 x21_3 x21_4 : Int) (s21 : Sg), (ρ 0 7).toNat - i < n_ → ((i : Int) ≤ ρ 0 7) → (s21 42 = mkS ρ) → (∀ c, (c ≠ 42 ∧ c ≠ 44 ∧ c ≠ 45 ∧ c ≠ 47 ∧ c ≠ 48 ∧ c ≠ 53) → s21 c = σ c) → x21_2 = (bstM (vOut (ρ 0 7) (ρ 0 8) (ρ 0 9) (ρ 3) (ρ 4) (ρ 1) n.toNat) 99 i).1 → x21_3 = (bstM (vOut (ρ 0 7) (ρ 0 8) (ρ 0 9) (ρ 3) (ρ 4) (ρ 1) n.toNat) 99 i).2 → x21_4 = (i : Int) → J g E (pM (if 0 ≤ n ∧ n ≤ 40 then (if (bstM (vOut (ρ 0 7) (ρ 0 8) (ρ 0 9) (ρ 3) (ρ 4) (ρ 1) n.toNat) 99 (ρ 0 7).toNat).1 < 0 then (-1000001 - ((3 : Nat) : Int)) else (bstM (vOut (ρ 0 7) (ρ 0 8) (ρ 0 9) (ρ 3) (ρ 4) (ρ 1) n.toNat) 99 (ρ 0 7).toNat).1) else (-1000001 - ((0 : Nat) : Int))) (ρ) (if 0 ≤ n ∧ n ≤ 40 then (if (bstM (vOut (ρ 0 7) (ρ 0 8) (ρ 0 9) (ρ 3) (ρ 4) (ρ 1) n.toNat) 99 (ρ 0 7).toNat).1 < 0 then finM 3 σ else σ) else finM 0 σ)) 6 21 [(0, .ref (gA g 41)), (1, .int (iI (n))), (2, .int (iI (x21_2))), (3, .int (iI (x21_3))), (4, .int (iI (x21_4)))] [] s21 := by
      intro n_
      induction n_ with
      | zero => intro i x21_2 x21_3 x21_4 s21 hm_; exact absurd hm_ (Nat.not_lt_zero _)
      | succ n_ ih21 =>
        intro i x21_2 x21_3 x21_4 s21 hm21 hi21_0 hi21_1 hi21_2 e21_0 e21_1 e21_2 
        subst e21_0 e21_1 e21_2 
        have hb := bstM_rng (V := (vOut (ρ 0 7) (ρ 0 8) (ρ 0 9) (ρ 3) (ρ 4) (ρ 1) n.toNat)) (t := 99) (m := 119988) (by omega) i (fun q hq => hV q (by omega))
        refine r_iload (pc := 21) C dX5_without_21 4 rfl ?_
        refine r_aload_n (pc := 23) C dX5_without_23 rfl 0 rfl ?_
        refine r_getR5 (pc := 24) C 0 (k' := 42) rfl O_41 (by decide) rfl t_780 dX5_without_24 ?_
        refine r_iconst (pc := 27) C dX5_without_27 ?_
        refine r_iald (pc := 28) C 1 A_42 (by omega) (by omega) dX5_without_28 ?_
        refine r_top (show _ = ρ 0 7 from (congrFun hi21_1 _).trans (mkS_at rfl)) ?_
        refine r_icmp_ge (pc := 29) C 81 ⟨by omega, by omega⟩ ⟨by omega, by omega⟩ dX5_without_29 (by decide) (fun h29 => ?_) (fun h29 => ?_)
        · skip
          have hi_ : i = (ρ 0 7).toNat := by omega
          rw [hi_] at hb ⊢
          skip
          refine r_iload_n (pc := 81) C dX5_without_81 rfl 2 rfl ?_
          refine r_if_ge (pc := 82) C 94 ⟨by omega, by omega⟩ dX5_without_82 (by decide) (fun h82 => ?_) (fun h82 => ?_)
          · skip
            refine r_iload_n (pc := 94) C dX5_without_94 rfl 2 rfl ?_
            exact r_retM (pc := 95) C (by first | (exfalso; omega; done) | (rw [if_pos (by omega), if_pos (by omega)]; done) | (rw [if_pos (by omega), if_neg (by omega)]; done)) (hi21_1) (fun k hk => (hi21_2 k hk).trans (congrFun (by first | (exfalso; omega; done) | (rw [if_pos (by omega), if_pos (by omega)]; done) | (rw [if_pos (by omega), if_neg (by omega)]; done)) k)) dX5_without_95
          · skip
            refine r_aload_n (pc := 85) C dX5_without_85 rfl 0 rfl ?_
            refine r_ldc (pc := 86) C (-1000004) t_1052 (by decide) dX5_without_86 ?_
            refine r_cVi (pc := 88) C (c_finds g 3 (by decide) s21) yX5_finds_w O_41 rfl rfl t_855 ⟨by decide, by decide⟩ (Nat.le_of_ble_eq_true rfl) (by rw [show ((-1000004) : Int) = -1000001 - ((3 : Nat) : Int) by decide]; rfl) dX5_without_88 ?_
            refine r_goto (pc := 91) C 95 dX5_without_91 (by decide) ?_
            exact r_retM (pc := 95) C (by first | (exfalso; omega; done) | (rw [if_pos (by omega), if_pos (by omega)]; done) | (rw [if_pos (by omega), if_neg (by omega)]; done)) (((wr_n _ _ _ (by omega)).trans hi21_1)) (fun k hk => (finM_c 3 (fun k hk => hi21_2 k hk) k hk).trans (congrFun (by first | (exfalso; omega; done) | (rw [if_pos (by omega), if_pos (by omega)]; done) | (rw [if_pos (by omega), if_neg (by omega)]; done)) k)) dX5_without_95
        · skip
          refine r_aload_n (pc := 32) C dX5_without_32 rfl 0 rfl ?_
          refine r_sipush (pc := 33) C dX5_without_33 (by decide) ?_
          refine r_iconst (pc := 36) C dX5_without_36 ?_
          refine r_iload (pc := 37) C dX5_without_37 4 rfl ?_
          refine r_ishl (pc := 39) C dX5_without_39 ?_
          refine r_iconst (pc := 40) C dX5_without_40 ?_
          refine r_ixor (pc := 41) C dX5_without_41 ?_
          refine r_iand (pc := 42) C dX5_without_42 ?_
          refine r_iload_n (pc := 43) C dX5_without_43 rfl 1 rfl ?_
          refine r_cVm (pc := 44) C (c_dustWith g (band 255 (bxor (bshl 1 (i : Int)) (-1))) (band_rng _ _) n.toNat (by omega) ρ s21 hi21_1 (RM_of hW) ((congrFun (hi21_2 41 (by decide)) 6).trans h6)) yX5_dustWith_w O_41 rfl rfl t_1104 ⟨by decide, by decide⟩ (Nat.le_of_ble_eq_true rfl) (by rw [show ((n.toNat : Nat) : Int) = n by omega]; rfl) dX5_without_44 (fun s44 hm44_ hT44 => ?_)
          refine r_top (show _ = (vOut (ρ 0 7) (ρ 0 8) (ρ 0 9) (ρ 3) (ρ 4) (ρ 1) n.toNat) (i : Int) from rfl) ?_
          have hv2 : 0 ≤ (vOut (ρ 0 7) (ρ 0 8) (ρ 0 9) (ρ 3) (ρ 4) (ρ 1) n.toNat) (i : Int) ∧ (vOut (ρ 0 7) (ρ 0 8) (ρ 0 9) (ρ 3) (ρ 4) (ρ 1) n.toNat) (i : Int) ≤ 119988 := hV i (by omega)
          refine r_istore (pc := 47) C dX5_without_47 (by decide) [1, 2, 3, 4, 5, 0] (lv' := [(0, .ref (gA g 41)), (1, .int (iI (n))), (2, .int (iI ((bstM (vOut (ρ 0 7) (ρ 0 8) (ρ 0 9) (ρ 3) (ρ 4) (ρ 1) n.toNat) 99 i).1))), (3, .int (iI ((bstM (vOut (ρ 0 7) (ρ 0 8) (ρ 0 9) (ρ 3) (ρ 4) (ρ 1) n.toNat) 99 i).2))), (4, .int (iI ((i : Int)))), (5, .int (iI ((vOut (ρ 0 7) (ρ 0 8) (ρ 0 9) (ρ 3) (ρ 4) (ρ 1) n.toNat) (i : Int))))]) rfl ?_
          refine r_iload (pc := 49) C dX5_without_49 5 rfl ?_
          refine r_iload_n (pc := 51) C dX5_without_51 rfl 3 rfl ?_
          refine r_icmp_le (pc := 52) C 60 ⟨by omega, by omega⟩ ⟨by omega, by omega⟩ dX5_without_52 (by decide) (fun h52 => ?_) (fun h52 => ?_)
          · skip
            refine r_iload_n (pc := 60) C dX5_without_60 rfl 2 rfl ?_
            refine r_istore_n (pc := 61) C dX5_without_61 rfl (by decide) [1, 2, 0, 3, 4, 5] (lv' := [(0, .ref (gA g 41)), (1, .int (iI (n))), (2, .int (iI ((bstM (vOut (ρ 0 7) (ρ 0 8) (ρ 0 9) (ρ 3) (ρ 4) (ρ 1) n.toNat) 99 i).1))), (3, .int (iI ((bstM (vOut (ρ 0 7) (ρ 0 8) (ρ 0 9) (ρ 3) (ρ 4) (ρ 1) n.toNat) 99 i).2))), (4, .int (iI ((i : Int)))), (5, .int (iI ((vOut (ρ 0 7) (ρ 0 8) (ρ 0 9) (ρ 3) (ρ 4) (ρ 1) n.toNat) (i : Int))))]) rfl ?_
            refine r_iload (pc := 62) C dX5_without_62 5 rfl ?_
            refine r_iload_n (pc := 64) C dX5_without_64 rfl 3 rfl ?_
            refine r_icmp_le (pc := 65) C 73 ⟨by omega, by omega⟩ ⟨by omega, by omega⟩ dX5_without_65 (by decide) (fun h65 => ?_) (fun h65 => ?_)
            · skip
              refine r_iload_n (pc := 73) C dX5_without_73 rfl 3 rfl ?_
              refine r_istore_n (pc := 74) C dX5_without_74 rfl (by decide) [1, 2, 3, 0, 4, 5] (lv' := [(0, .ref (gA g 41)), (1, .int (iI (n))), (2, .int (iI ((bstM (vOut (ρ 0 7) (ρ 0 8) (ρ 0 9) (ρ 3) (ρ 4) (ρ 1) n.toNat) 99 i).1))), (3, .int (iI ((bstM (vOut (ρ 0 7) (ρ 0 8) (ρ 0 9) (ρ 3) (ρ 4) (ρ 1) n.toNat) 99 i).2))), (4, .int (iI ((i : Int)))), (5, .int (iI ((vOut (ρ 0 7) (ρ 0 8) (ρ 0 9) (ρ 3) (ρ 4) (ρ 1) n.toNat) (i : Int))))]) rfl ?_
              refine r_iinc (pc := 75) C dX5_without_75 4 rfl (by decide) [1, 2, 3, 4, 0, 5] (lv' := [(0, .ref (gA g 41)), (1, .int (iI (n))), (2, .int (iI ((bstM (vOut (ρ 0 7) (ρ 0 8) (ρ 0 9) (ρ 3) (ρ 4) (ρ 1) n.toNat) 99 i).1))), (3, .int (iI ((bstM (vOut (ρ 0 7) (ρ 0 8) (ρ 0 9) (ρ 3) (ρ 4) (ρ 1) n.toNat) 99 i).2))), (4, .int (iI ((i : Int) + 1))), (5, .int (iI ((vOut (ρ 0 7) (ρ 0 8) (ρ 0 9) (ρ 3) (ρ 4) (ρ 1) n.toNat) (i : Int))))]) rfl ?_
              refine r_goto (pc := 78) C 21 dX5_without_78 (by decide) ?_
              refine r_lv [0, 1, 2, 3, 4] (lv' := [(0, .ref (gA g 41)), (1, .int (iI (n))), (2, .int (iI ((bstM (vOut (ρ 0 7) (ρ 0 8) (ρ 0 9) (ρ 3) (ρ 4) (ρ 1) n.toNat) 99 i).1))), (3, .int (iI ((bstM (vOut (ρ 0 7) (ρ 0 8) (ρ 0 9) (ρ 3) (ρ 4) (ρ 1) n.toNat) 99 i).2))), (4, .int (iI ((i : Int) + 1)))]) rfl ?_
              exact ih21 (i + 1) _ _ _ _ (by omega) (by omega) (by exact hm44_) (by exact fun c hc => (hT44 c hc).trans (hi21_2 c hc)) (by first | (exfalso; omega; done) | (rw [bstM, if_pos ⟨by omega, by omega⟩]; done) | (rw [bstM, if_neg (fun q => by have q1 := q.1; have q2 := q.2; omega)]; done)) (by first | (exfalso; omega; done) | (rw [bstM, if_pos ⟨by omega, by omega⟩]; done) | (rw [bstM, if_neg (fun q => by have q1 := q.1; have q2 := q.2; omega)]; done)) (by omega)
            · skip
              refine r_iload (pc := 68) C dX5_without_68 5 rfl ?_
              refine r_goto (pc := 70) C 74 dX5_without_70 (by decide) ?_
              refine r_istore_n (pc := 74) C dX5_without_74 rfl (by decide) [1, 2, 3, 0, 4, 5] (lv' := [(0, .ref (gA g 41)), (1, .int (iI (n))), (2, .int (iI ((bstM (vOut (ρ 0 7) (ρ 0 8) (ρ 0 9) (ρ 3) (ρ 4) (ρ 1) n.toNat) 99 i).1))), (3, .int (iI ((vOut (ρ 0 7) (ρ 0 8) (ρ 0 9) (ρ 3) (ρ 4) (ρ 1) n.toNat) (i : Int)))), (4, .int (iI ((i : Int)))), (5, .int (iI ((vOut (ρ 0 7) (ρ 0 8) (ρ 0 9) (ρ 3) (ρ 4) (ρ 1) n.toNat) (i : Int))))]) rfl ?_
              refine r_iinc (pc := 75) C dX5_without_75 4 rfl (by decide) [1, 2, 3, 4, 0, 5] (lv' := [(0, .ref (gA g 41)), (1, .int (iI (n))), (2, .int (iI ((bstM (vOut (ρ 0 7) (ρ 0 8) (ρ 0 9) (ρ 3) (ρ 4) (ρ 1) n.toNat) 99 i).1))), (3, .int (iI ((vOut (ρ 0 7) (ρ 0 8) (ρ 0 9) (ρ 3) (ρ 4) (ρ 1) n.toNat) (i : Int)))), (4, .int (iI ((i : Int) + 1))), (5, .int (iI ((vOut (ρ 0 7) (ρ 0 8) (ρ 0 9) (ρ 3) (ρ 4) (ρ 1) n.toNat) (i : Int))))]) rfl ?_
              refine r_goto (pc := 78) C 21 dX5_without_78 (by decide) ?_
              refine r_lv [0, 1, 2, 3, 4] (lv' := [(0, .ref (gA g 41)), (1, .int (iI (n))), (2, .int (iI ((bstM (vOut (ρ 0 7) (ρ 0 8) (ρ 0 9) (ρ 3) (ρ 4) (ρ 1) n.toNat) 99 i).1))), (3, .int (iI ((vOut (ρ 0 7) (ρ 0 8) (ρ 0 9) (ρ 3) (ρ 4) (ρ 1) n.toNat) (i : Int)))), (4, .int (iI ((i : Int) + 1)))]) rfl ?_
              exact ih21 (i + 1) _ _ _ _ (by omega) (by omega) (by exact hm44_) (by exact fun c hc => (hT44 c hc).trans (hi21_2 c hc)) (by first | (exfalso; omega; done) | (rw [bstM, if_pos ⟨by omega, by omega⟩]; done) | (rw [bstM, if_neg (fun q => by have q1 := q.1; have q2 := q.2; omega)]; done)) (by first | (exfalso; omega; done) | (rw [bstM, if_pos ⟨by omega, by omega⟩]; done) | (rw [bstM, if_neg (fun q => by have q1 := q.1; have q2 := q.2; omega)]; done)) (by omega)
          · skip
            refine r_iload (pc := 55) C dX5_without_55 4 rfl ?_
            refine r_goto (pc := 57) C 61 dX5_without_57 (by decide) ?_
            refine r_istore_n (pc := 61) C dX5_without_61 rfl (by decide) [1, 2, 0, 3, 4, 5] (lv' := [(0, .ref (gA g 41)), (1, .int (iI (n))), (2, .int (iI ((i : Int)))), (3, .int (iI ((bstM (vOut (ρ 0 7) (ρ 0 8) (ρ 0 9) (ρ 3) (ρ 4) (ρ 1) n.toNat) 99 i).2))), (4, .int (iI ((i : Int)))), (5, .int (iI ((vOut (ρ 0 7) (ρ 0 8) (ρ 0 9) (ρ 3) (ρ 4) (ρ 1) n.toNat) (i : Int))))]) rfl ?_
            refine r_iload (pc := 62) C dX5_without_62 5 rfl ?_
            refine r_iload_n (pc := 64) C dX5_without_64 rfl 3 rfl ?_
            refine r_icmp_le (pc := 65) C 73 ⟨by omega, by omega⟩ ⟨by omega, by omega⟩ dX5_without_65 (by decide) (fun h65 => ?_) (fun h65 => ?_)
            · skip
              refine r_iload_n (pc := 73) C dX5_without_73 rfl 3 rfl ?_
              refine r_istore_n (pc := 74) C dX5_without_74 rfl (by decide) [1, 2, 3, 0, 4, 5] (lv' := [(0, .ref (gA g 41)), (1, .int (iI (n))), (2, .int (iI ((i : Int)))), (3, .int (iI ((bstM (vOut (ρ 0 7) (ρ 0 8) (ρ 0 9) (ρ 3) (ρ 4) (ρ 1) n.toNat) 99 i).2))), (4, .int (iI ((i : Int)))), (5, .int (iI ((vOut (ρ 0 7) (ρ 0 8) (ρ 0 9) (ρ 3) (ρ 4) (ρ 1) n.toNat) (i : Int))))]) rfl ?_
              refine r_iinc (pc := 75) C dX5_without_75 4 rfl (by decide) [1, 2, 3, 4, 0, 5] (lv' := [(0, .ref (gA g 41)), (1, .int (iI (n))), (2, .int (iI ((i : Int)))), (3, .int (iI ((bstM (vOut (ρ 0 7) (ρ 0 8) (ρ 0 9) (ρ 3) (ρ 4) (ρ 1) n.toNat) 99 i).2))), (4, .int (iI ((i : Int) + 1))), (5, .int (iI ((vOut (ρ 0 7) (ρ 0 8) (ρ 0 9) (ρ 3) (ρ 4) (ρ 1) n.toNat) (i : Int))))]) rfl ?_
              refine r_goto (pc := 78) C 21 dX5_without_78 (by decide) ?_
              refine r_lv [0, 1, 2, 3, 4] (lv' := [(0, .ref (gA g 41)), (1, .int (iI (n))), (2, .int (iI ((i : Int)))), (3, .int (iI ((bstM (vOut (ρ 0 7) (ρ 0 8) (ρ 0 9) (ρ 3) (ρ 4) (ρ 1) n.toNat) 99 i).2))), (4, .int (iI ((i : Int) + 1)))]) rfl ?_
              exact ih21 (i + 1) _ _ _ _ (by omega) (by omega) (by exact hm44_) (by exact fun c hc => (hT44 c hc).trans (hi21_2 c hc)) (by first | (exfalso; omega; done) | (rw [bstM, if_pos ⟨by omega, by omega⟩]; done) | (rw [bstM, if_neg (fun q => by have q1 := q.1; have q2 := q.2; omega)]; done)) (by first | (exfalso; omega; done) | (rw [bstM, if_pos ⟨by omega, by omega⟩]; done) | (rw [bstM, if_neg (fun q => by have q1 := q.1; have q2 := q.2; omega)]; done)) (by omega)
            · skip
              refine r_iload (pc := 68) C dX5_without_68 5 rfl ?_
              refine r_goto (pc := 70) C 74 dX5_without_70 (by decide) ?_
              refine r_istore_n (pc := 74) C dX5_without_74 rfl (by decide) [1, 2, 3, 0, 4, 5] (lv' := [(0, .ref (gA g 41)), (1, .int (iI (n))), (2, .int (iI ((i : Int)))), (3, .int (iI ((vOut (ρ 0 7) (ρ 0 8) (ρ 0 9) (ρ 3) (ρ 4) (ρ 1) n.toNat) (i : Int)))), (4, .int (iI ((i : Int)))), (5, .int (iI ((vOut (ρ 0 7) (ρ 0 8) (ρ 0 9) (ρ 3) (ρ 4) (ρ 1) n.toNat) (i : Int))))]) rfl ?_
              refine r_iinc (pc := 75) C dX5_without_75 4 rfl (by decide) [1, 2, 3, 4, 0, 5] (lv' := [(0, .ref (gA g 41)), (1, .int (iI (n))), (2, .int (iI ((i : Int)))), (3, .int (iI ((vOut (ρ 0 7) (ρ 0 8) (ρ 0 9) (ρ 3) (ρ 4) (ρ 1) n.toNat) (i : Int)))), (4, .int (iI ((i : Int) + 1))), (5, .int (iI ((vOut (ρ 0 7) (ρ 0 8) (ρ 0 9) (ρ 3) (ρ 4) (ρ 1) n.toNat) (i : Int))))]) rfl ?_
              refine r_goto (pc := 78) C 21 dX5_without_78 (by decide) ?_
              refine r_lv [0, 1, 2, 3, 4] (lv' := [(0, .ref (gA g 41)), (1, .int (iI (n))), (2, .int (iI ((i : Int)))), (3, .int (iI ((vOut (ρ 0 7) (ρ 0 8) (ρ 0 9) (ρ 3) (ρ 4) (ρ 1) n.toNat) (i : Int)))), (4, .int (iI ((i : Int) + 1)))]) rfl ?_
              exact ih21 (i + 1) _ _ _ _ (by omega) (by omega) (by exact hm44_) (by exact fun c hc => (hT44 c hc).trans (hi21_2 c hc)) (by first | (exfalso; omega; done) | (rw [bstM, if_pos ⟨by omega, by omega⟩]; done) | (rw [bstM, if_neg (fun q => by have q1 := q.1; have q2 := q.2; omega)]; done)) (by first | (exfalso; omega; done) | (rw [bstM, if_pos ⟨by omega, by omega⟩]; done) | (rw [bstM, if_neg (fun q => by have q1 := q.1; have q2 := q.2; omega)]; done)) (by omega)
    exact L21 _ 0 _ _ _ _ (Nat.lt_succ_self _) (by omega) (by exact hS) (by exact fun _ _ => rfl) (rfl) (rfl) (rfl)
  · skip
    refine r_aload_n (pc := 7) C dX5_without_7 rfl 0 rfl ?_
    refine r_ldc (pc := 8) C (-1000001) t_854 (by decide) dX5_without_8 ?_
    refine r_cVi (pc := 10) C (c_finds g 0 (by decide) σ) yX5_finds_w O_41 rfl rfl t_855 ⟨by decide, by decide⟩ (Nat.le_of_ble_eq_true rfl) (by rw [show ((-1000001) : Int) = -1000001 - ((0 : Nat) : Int) by decide]; rfl) dX5_without_10 ?_
    exact r_retM (pc := 13) C (by first | (exfalso; omega; done) | ((try (first | rw [if_pos (by omega)] | rw [if_neg (by omega)])); (try (first | rw [if_pos (by omega)] | rw [if_neg (by omega)])); (try (first | rw [if_pos (by omega)] | rw [if_neg (by omega)])); (try (first | rw [if_pos (by omega)] | rw [if_neg (by omega)])); (try rfl))) ((((wr_n _ _ _ (by omega)).trans hS)).trans (congrArg mkS (by first | (exfalso; omega; done) | ((try (first | rw [if_pos (by omega)] | rw [if_neg (by omega)])); (try (first | rw [if_pos (by omega)] | rw [if_neg (by omega)])); (try (first | rw [if_pos (by omega)] | rw [if_neg (by omega)])); (try (first | rw [if_pos (by omega)] | rw [if_neg (by omega)])); (try rfl))))) (fun k hk => (rfl).trans (congrFun (by first | (exfalso; omega; done) | ((try (first | rw [if_pos (by omega)] | rw [if_neg (by omega)])); (try (first | rw [if_pos (by omega)] | rw [if_neg (by omega)])); (try (first | rw [if_pos (by omega)] | rw [if_neg (by omega)])); (try (first | rw [if_pos (by omega)] | rw [if_neg (by omega)])); (try rfl))) k)) dX5_without_13
