theorem r_topI {g : Gt} {E : Ev} {post : Option Value → Sg → Prop} {nL pc : Nat} {lv : List (Nat × Value)} {st : List Value} {σ : Sg} {a b : Int} (h : iI a = iI b) (k : J g E post nL pc lv (.int (iI b) :: st) σ) : J g E post nL pc lv (.int (iI a) :: st) σ := by
  rw [h]
  exact k
/-- the draws -/
def zz (z : Int) : Int := (iI (z * 1103515245 + 12345)).toInt
theorem zz_rng (z : Int) : rng (zz z) := iI_rng _
def lnF (n : Int) (M : Nat → Int) : Nat → Int
  | 0 => bshl 1 n - 1
  | f + 1 => if holder n M f = -1 then lnF n M f else band (lnF n M f) (bxor (bshl 1 (holder n M f)) (-1))
def bwD (D : Nat → Int) (f : Nat) (s : Int) : Nat → Int := up (up D f 0) (md ((f : Int) + s)) (min 9999 (up D f 0 (md ((f : Int) + s)) + D f))
theorem bwD_rng {D : Nat → Int} {f : Nat} {s : Int} (hf : f < 12) (h : rgD D) : rgD (bwD D f s) := by
  have h1 : rgD (up D f 0) := rgD_up h (by omega)
  have h2 := h1 (md ((f : Int) + s)) (md_lt _)
  have h3 := h f hf
  exact rgD_up h1 (by omega)
def zr (M : Nat → Int) (t i : Nat) : Nat → Int := fun j => if 12 * t ≤ j ∧ j < 12 * t + i then 0 else M j
theorem zr_0 (M : Nat → Int) (t : Nat) : zr M t 0 = M := by
  funext j
  unfold zr
  rw [if_neg (by omega)]
theorem zr_s (M : Nat → Int) (t i : Nat) : up (zr M t i) (12 * t + i) 0 = zr M t (i + 1) := by
  funext j
  unfold up zr
  by_cases h : j = 12 * t + i
  · rw [if_pos h, if_pos (by omega)]
  · rw [if_neg h]
    by_cases h2 : 12 * t ≤ j ∧ j < 12 * t + i
    · rw [if_pos h2, if_pos (by omega)]
    · rw [if_neg h2, if_neg (by omega)]
theorem zr_rng {M : Nat → Int} {t i : Nat} (h : rgM M) : rgM (zr M t i) := by
  intro j hj
  unfold zr
  split
  · omega
  · exact h j hj
def sameH (n : Int) (M : Nat → Int) (n2 : Int) (M2 : Nat → Int) : Bool := (List.range 12).all (fun f => decide (holder n M f = holder n2 M2 f))
theorem sameH_iff {n : Int} {M : Nat → Int} {n2 : Int} {M2 : Nat → Int} : sameH n M n2 M2 = true ↔ ∀ f, f < 12 → holder n M f = holder n2 M2 f := by
  unfold sameH
  rw [List.all_eq_true]
  exact ⟨fun h f hf => by simpa using h f (List.mem_range.mpr hf), fun h f hf => by simpa using h f (List.mem_range.mp hf)⟩
set_option maxHeartbeats 4000000 in
set_option maxRecDepth 100000 in
theorem c_sumOf_1 (g : Gt) (σ : Sg) : Mt g yX4_sumOf cX4_sumOf 6 (some FieldType.int) 0 [.ref (gA g 1)] σ (pI (sumF (σ 1) 12) σ) := by
  refine mt_of (own := RX4) (by decide) rfl (Nat.le_of_ble_eq_true rfl) (fun E C => ?_)
  show J g E (pI (sumF (σ 1) 12) σ) 6 0 [(0, .ref (gA g 1))] [] σ
  refine r_iconst (pc := 0) C dX4_sumOf_0 ?_
  refine r_istore_n (pc := 1) C dX4_sumOf_1 rfl (by decide) [1, 0] (lv' := [(0, .ref (gA g 1)), (1, .int (iI (0)))]) rfl ?_
  refine r_aload_n (pc := 2) C dX4_sumOf_2 rfl 0 rfl ?_
  refine r_astore_n (pc := 3) C dX4_sumOf_3 rfl (by decide) [1, 2, 0] (lv' := [(0, .ref (gA g 1)), (1, .int (iI (0))), (2, .ref (gA g 1))]) rfl ?_
  refine r_aload_n (pc := 4) C dX4_sumOf_4 rfl 2 rfl ?_
  refine r_alen (pc := 5) C A_1 dX4_sumOf_5 ?_
  refine r_istore_n (pc := 6) C dX4_sumOf_6 rfl (by decide) [1, 2, 3, 0] (lv' := [(0, .ref (gA g 1)), (1, .int (iI (0))), (2, .ref (gA g 1)), (3, .int (iI (((12 : Nat) : Int))))]) rfl ?_
  refine r_iconst (pc := 7) C dX4_sumOf_7 ?_
  refine r_istore (pc := 8) C dX4_sumOf_8 (by decide) [1, 2, 3, 4, 0] (lv' := [(0, .ref (gA g 1)), (1, .int (iI (0))), (2, .ref (gA g 1)), (3, .int (iI (((12 : Nat) : Int)))), (4, .int (iI (0)))]) rfl ?_
  have L10 : ∀ (n_ : Nat) (i : Nat) (x10_1 x10_4 : Int), 12 - i < n_ → (i ≤ 12) → x10_1 = sumF (σ 1) i → x10_4 = (i : Int) → J g E (pI (sumF (σ 1) 12) σ) 6 10 [(0, .ref (gA g 1)), (1, .int (iI (x10_1))), (2, .ref (gA g 1)), (3, .int (iI (((12 : Nat) : Int)))), (4, .int (iI (x10_4)))] [] σ := by
    intro n_
    induction n_ with
    | zero => intro i x10_1 x10_4  hm_; exact absurd hm_ (Nat.not_lt_zero _)
    | succ n_ ih10 =>
      intro i x10_1 x10_4  hm10 hi10_0 e10_0 e10_1 
      subst e10_0 e10_1 
      refine r_iload (pc := 10) C dX4_sumOf_10 4 rfl ?_
      refine r_iload_n (pc := 12) C dX4_sumOf_12 rfl 3 rfl ?_
      refine r_icmp_ge (pc := 13) C 33 ⟨by omega, by omega⟩ ⟨by omega, by omega⟩ dX4_sumOf_13 (by decide) (fun h13 => ?_) (fun h13 => ?_)
      · skip
        refine r_iload_n (pc := 33) C dX4_sumOf_33 rfl 1 rfl ?_
        exact r_reti (pc := 34) C (by rw [show i = 12 by omega]) (rfl) dX4_sumOf_34
      · skip
        refine r_aload_n (pc := 16) C dX4_sumOf_16 rfl 2 rfl ?_
        refine r_iload (pc := 17) C dX4_sumOf_17 4 rfl ?_
        refine r_iald (pc := 19) C i A_1 (by omega) (by omega) dX4_sumOf_19 ?_
        refine r_istore (pc := 20) C dX4_sumOf_20 (by decide) [1, 2, 3, 4, 5, 0] (lv' := [(0, .ref (gA g 1)), (1, .int (iI (sumF (σ 1) i))), (2, .ref (gA g 1)), (3, .int (iI (((12 : Nat) : Int)))), (4, .int (iI ((i : Int)))), (5, .int (iI (σ 1 i)))]) rfl ?_
        refine r_iload_n (pc := 22) C dX4_sumOf_22 rfl 1 rfl ?_
        refine r_iload (pc := 23) C dX4_sumOf_23 5 rfl ?_
        refine r_iadd (pc := 25) C dX4_sumOf_25 ?_
        refine r_istore_n (pc := 26) C dX4_sumOf_26 rfl (by decide) [1, 0, 2, 3, 4, 5] (lv' := [(0, .ref (gA g 1)), (1, .int (iI ((sumF (σ 1) i) + (σ 1 i)))), (2, .ref (gA g 1)), (3, .int (iI (((12 : Nat) : Int)))), (4, .int (iI ((i : Int)))), (5, .int (iI (σ 1 i)))]) rfl ?_
        refine r_iinc (pc := 27) C dX4_sumOf_27 4 rfl (by decide) [1, 2, 3, 4, 0, 5] (lv' := [(0, .ref (gA g 1)), (1, .int (iI ((sumF (σ 1) i) + (σ 1 i)))), (2, .ref (gA g 1)), (3, .int (iI (((12 : Nat) : Int)))), (4, .int (iI ((i : Int) + 1))), (5, .int (iI (σ 1 i)))]) rfl ?_
        refine r_goto (pc := 30) C 10 dX4_sumOf_30 (by decide) ?_
        refine r_lv [0, 1, 2, 3, 4] (lv' := [(0, .ref (gA g 1)), (1, .int (iI ((sumF (σ 1) i) + (σ 1 i)))), (2, .ref (gA g 1)), (3, .int (iI (((12 : Nat) : Int)))), (4, .int (iI ((i : Int) + 1)))]) rfl ?_
        exact ih10 (i + 1) _ _ (by omega) (by omega) (rfl) (by omega)
  exact L10 _ 0 _ _ (Nat.lt_succ_self _) (by omega) (rfl) (rfl)
set_option maxHeartbeats 4000000 in
set_option maxRecDepth 100000 in
theorem c_sumOf_9 (g : Gt) (σ : Sg) : Mt g yX4_sumOf cX4_sumOf 6 (some FieldType.int) 0 [.ref (gA g 9)] σ (pI (sumF (σ 9) 12) σ) := by
  refine mt_of (own := RX4) (by decide) rfl (Nat.le_of_ble_eq_true rfl) (fun E C => ?_)
  show J g E (pI (sumF (σ 9) 12) σ) 6 0 [(0, .ref (gA g 9))] [] σ
  refine r_iconst (pc := 0) C dX4_sumOf_0 ?_
  refine r_istore_n (pc := 1) C dX4_sumOf_1 rfl (by decide) [1, 0] (lv' := [(0, .ref (gA g 9)), (1, .int (iI (0)))]) rfl ?_
  refine r_aload_n (pc := 2) C dX4_sumOf_2 rfl 0 rfl ?_
  refine r_astore_n (pc := 3) C dX4_sumOf_3 rfl (by decide) [1, 2, 0] (lv' := [(0, .ref (gA g 9)), (1, .int (iI (0))), (2, .ref (gA g 9))]) rfl ?_
  refine r_aload_n (pc := 4) C dX4_sumOf_4 rfl 2 rfl ?_
  refine r_alen (pc := 5) C A_9 dX4_sumOf_5 ?_
  refine r_istore_n (pc := 6) C dX4_sumOf_6 rfl (by decide) [1, 2, 3, 0] (lv' := [(0, .ref (gA g 9)), (1, .int (iI (0))), (2, .ref (gA g 9)), (3, .int (iI (((12 : Nat) : Int))))]) rfl ?_
  refine r_iconst (pc := 7) C dX4_sumOf_7 ?_
  refine r_istore (pc := 8) C dX4_sumOf_8 (by decide) [1, 2, 3, 4, 0] (lv' := [(0, .ref (gA g 9)), (1, .int (iI (0))), (2, .ref (gA g 9)), (3, .int (iI (((12 : Nat) : Int)))), (4, .int (iI (0)))]) rfl ?_
  have L10 : ∀ (n_ : Nat) (i : Nat) (x10_1 x10_4 : Int), 12 - i < n_ → (i ≤ 12) → x10_1 = sumF (σ 9) i → x10_4 = (i : Int) → J g E (pI (sumF (σ 9) 12) σ) 6 10 [(0, .ref (gA g 9)), (1, .int (iI (x10_1))), (2, .ref (gA g 9)), (3, .int (iI (((12 : Nat) : Int)))), (4, .int (iI (x10_4)))] [] σ := by
    intro n_
    induction n_ with
    | zero => intro i x10_1 x10_4  hm_; exact absurd hm_ (Nat.not_lt_zero _)
    | succ n_ ih10 =>
      intro i x10_1 x10_4  hm10 hi10_0 e10_0 e10_1 
      subst e10_0 e10_1 
      refine r_iload (pc := 10) C dX4_sumOf_10 4 rfl ?_
      refine r_iload_n (pc := 12) C dX4_sumOf_12 rfl 3 rfl ?_
      refine r_icmp_ge (pc := 13) C 33 ⟨by omega, by omega⟩ ⟨by omega, by omega⟩ dX4_sumOf_13 (by decide) (fun h13 => ?_) (fun h13 => ?_)
      · skip
        refine r_iload_n (pc := 33) C dX4_sumOf_33 rfl 1 rfl ?_
        exact r_reti (pc := 34) C (by rw [show i = 12 by omega]) (rfl) dX4_sumOf_34
      · skip
        refine r_aload_n (pc := 16) C dX4_sumOf_16 rfl 2 rfl ?_
        refine r_iload (pc := 17) C dX4_sumOf_17 4 rfl ?_
        refine r_iald (pc := 19) C i A_9 (by omega) (by omega) dX4_sumOf_19 ?_
        refine r_istore (pc := 20) C dX4_sumOf_20 (by decide) [1, 2, 3, 4, 5, 0] (lv' := [(0, .ref (gA g 9)), (1, .int (iI (sumF (σ 9) i))), (2, .ref (gA g 9)), (3, .int (iI (((12 : Nat) : Int)))), (4, .int (iI ((i : Int)))), (5, .int (iI (σ 9 i)))]) rfl ?_
        refine r_iload_n (pc := 22) C dX4_sumOf_22 rfl 1 rfl ?_
        refine r_iload (pc := 23) C dX4_sumOf_23 5 rfl ?_
        refine r_iadd (pc := 25) C dX4_sumOf_25 ?_
        refine r_istore_n (pc := 26) C dX4_sumOf_26 rfl (by decide) [1, 0, 2, 3, 4, 5] (lv' := [(0, .ref (gA g 9)), (1, .int (iI ((sumF (σ 9) i) + (σ 9 i)))), (2, .ref (gA g 9)), (3, .int (iI (((12 : Nat) : Int)))), (4, .int (iI ((i : Int)))), (5, .int (iI (σ 9 i)))]) rfl ?_
        refine r_iinc (pc := 27) C dX4_sumOf_27 4 rfl (by decide) [1, 2, 3, 4, 0, 5] (lv' := [(0, .ref (gA g 9)), (1, .int (iI ((sumF (σ 9) i) + (σ 9 i)))), (2, .ref (gA g 9)), (3, .int (iI (((12 : Nat) : Int)))), (4, .int (iI ((i : Int) + 1))), (5, .int (iI (σ 9 i)))]) rfl ?_
        refine r_goto (pc := 30) C 10 dX4_sumOf_30 (by decide) ?_
        refine r_lv [0, 1, 2, 3, 4] (lv' := [(0, .ref (gA g 9)), (1, .int (iI ((sumF (σ 9) i) + (σ 9 i)))), (2, .ref (gA g 9)), (3, .int (iI (((12 : Nat) : Int)))), (4, .int (iI ((i : Int) + 1)))]) rfl ?_
        exact ih10 (i + 1) _ _ (by omega) (by omega) (rfl) (by omega)
  exact L10 _ 0 _ _ (Nat.lt_succ_self _) (by omega) (rfl) (rfl)
set_option maxHeartbeats 4000000 in
set_option maxRecDepth 100000 in
theorem c_sumOf_39 (g : Gt) (σ : Sg) : Mt g yX4_sumOf cX4_sumOf 6 (some FieldType.int) 0 [.ref (gA g 39)] σ (pI (sumF (σ 39) 7) σ) := by
  refine mt_of (own := RX4) (by decide) rfl (Nat.le_of_ble_eq_true rfl) (fun E C => ?_)
  show J g E (pI (sumF (σ 39) 7) σ) 6 0 [(0, .ref (gA g 39))] [] σ
  refine r_iconst (pc := 0) C dX4_sumOf_0 ?_
  refine r_istore_n (pc := 1) C dX4_sumOf_1 rfl (by decide) [1, 0] (lv' := [(0, .ref (gA g 39)), (1, .int (iI (0)))]) rfl ?_
  refine r_aload_n (pc := 2) C dX4_sumOf_2 rfl 0 rfl ?_
  refine r_astore_n (pc := 3) C dX4_sumOf_3 rfl (by decide) [1, 2, 0] (lv' := [(0, .ref (gA g 39)), (1, .int (iI (0))), (2, .ref (gA g 39))]) rfl ?_
  refine r_aload_n (pc := 4) C dX4_sumOf_4 rfl 2 rfl ?_
  refine r_alen (pc := 5) C A_39 dX4_sumOf_5 ?_
  refine r_istore_n (pc := 6) C dX4_sumOf_6 rfl (by decide) [1, 2, 3, 0] (lv' := [(0, .ref (gA g 39)), (1, .int (iI (0))), (2, .ref (gA g 39)), (3, .int (iI (((7 : Nat) : Int))))]) rfl ?_
  refine r_iconst (pc := 7) C dX4_sumOf_7 ?_
  refine r_istore (pc := 8) C dX4_sumOf_8 (by decide) [1, 2, 3, 4, 0] (lv' := [(0, .ref (gA g 39)), (1, .int (iI (0))), (2, .ref (gA g 39)), (3, .int (iI (((7 : Nat) : Int)))), (4, .int (iI (0)))]) rfl ?_
  have L10 : ∀ (n_ : Nat) (i : Nat) (x10_1 x10_4 : Int), 7 - i < n_ → (i ≤ 7) → x10_1 = sumF (σ 39) i → x10_4 = (i : Int) → J g E (pI (sumF (σ 39) 7) σ) 6 10 [(0, .ref (gA g 39)), (1, .int (iI (x10_1))), (2, .ref (gA g 39)), (3, .int (iI (((7 : Nat) : Int)))), (4, .int (iI (x10_4)))] [] σ := by
    intro n_
    induction n_ with
    | zero => intro i x10_1 x10_4  hm_; exact absurd hm_ (Nat.not_lt_zero _)
    | succ n_ ih10 =>
      intro i x10_1 x10_4  hm10 hi10_0 e10_0 e10_1 
      subst e10_0 e10_1 
      refine r_iload (pc := 10) C dX4_sumOf_10 4 rfl ?_
      refine r_iload_n (pc := 12) C dX4_sumOf_12 rfl 3 rfl ?_
      refine r_icmp_ge (pc := 13) C 33 ⟨by omega, by omega⟩ ⟨by omega, by omega⟩ dX4_sumOf_13 (by decide) (fun h13 => ?_) (fun h13 => ?_)
      · skip
        refine r_iload_n (pc := 33) C dX4_sumOf_33 rfl 1 rfl ?_
        exact r_reti (pc := 34) C (by rw [show i = 7 by omega]) (rfl) dX4_sumOf_34
      · skip
        refine r_aload_n (pc := 16) C dX4_sumOf_16 rfl 2 rfl ?_
        refine r_iload (pc := 17) C dX4_sumOf_17 4 rfl ?_
        refine r_iald (pc := 19) C i A_39 (by omega) (by omega) dX4_sumOf_19 ?_
        refine r_istore (pc := 20) C dX4_sumOf_20 (by decide) [1, 2, 3, 4, 5, 0] (lv' := [(0, .ref (gA g 39)), (1, .int (iI (sumF (σ 39) i))), (2, .ref (gA g 39)), (3, .int (iI (((7 : Nat) : Int)))), (4, .int (iI ((i : Int)))), (5, .int (iI (σ 39 i)))]) rfl ?_
        refine r_iload_n (pc := 22) C dX4_sumOf_22 rfl 1 rfl ?_
        refine r_iload (pc := 23) C dX4_sumOf_23 5 rfl ?_
        refine r_iadd (pc := 25) C dX4_sumOf_25 ?_
        refine r_istore_n (pc := 26) C dX4_sumOf_26 rfl (by decide) [1, 0, 2, 3, 4, 5] (lv' := [(0, .ref (gA g 39)), (1, .int (iI ((sumF (σ 39) i) + (σ 39 i)))), (2, .ref (gA g 39)), (3, .int (iI (((7 : Nat) : Int)))), (4, .int (iI ((i : Int)))), (5, .int (iI (σ 39 i)))]) rfl ?_
        refine r_iinc (pc := 27) C dX4_sumOf_27 4 rfl (by decide) [1, 2, 3, 4, 0, 5] (lv' := [(0, .ref (gA g 39)), (1, .int (iI ((sumF (σ 39) i) + (σ 39 i)))), (2, .ref (gA g 39)), (3, .int (iI (((7 : Nat) : Int)))), (4, .int (iI ((i : Int) + 1))), (5, .int (iI (σ 39 i)))]) rfl ?_
        refine r_goto (pc := 30) C 10 dX4_sumOf_30 (by decide) ?_
        refine r_lv [0, 1, 2, 3, 4] (lv' := [(0, .ref (gA g 39)), (1, .int (iI ((sumF (σ 39) i) + (σ 39 i)))), (2, .ref (gA g 39)), (3, .int (iI (((7 : Nat) : Int)))), (4, .int (iI ((i : Int) + 1)))]) rfl ?_
        exact ih10 (i + 1) _ _ (by omega) (by omega) (rfl) (by omega)
  exact L10 _ 0 _ _ (Nat.lt_succ_self _) (by omega) (rfl) (rfl)
set_option maxHeartbeats 4000000 in
set_option maxRecDepth 100000 in
theorem c_put_3 (g : Gt) (j : Nat) (hj : j < 8) (v : Int) (σ : Sg) : Mt g yX4_put cX4_put 4 (some FieldType.int) 0 [.ref (gA g 3), .int (iI ((j : Int))), .int (iI (v))] σ (pI (σ 3 j) (wr σ 3 j v)) := by
  refine mt_of (own := RX4) (by decide) rfl (Nat.le_of_ble_eq_true rfl) (fun E C => ?_)
  show J g E (pI (σ 3 j) (wr σ 3 j v)) 4 0 [(0, .ref (gA g 3)), (1, .int (iI ((j : Int)))), (2, .int (iI (v)))] [] σ
  refine r_aload_n (pc := 0) C dX4_put_0 rfl 0 rfl ?_
  refine r_iload_n (pc := 1) C dX4_put_1 rfl 1 rfl ?_
  refine r_iald (pc := 2) C j A_3 (by omega) (by omega) dX4_put_2 ?_
  refine r_istore_n (pc := 3) C dX4_put_3 rfl (by decide) [1, 2, 3, 0] (lv' := [(0, .ref (gA g 3)), (1, .int (iI ((j : Int)))), (2, .int (iI (v))), (3, .int (iI (σ 3 j)))]) rfl ?_
  refine r_aload_n (pc := 4) C dX4_put_4 rfl 0 rfl ?_
  refine r_iload_n (pc := 5) C dX4_put_5 rfl 1 rfl ?_
  refine r_iload_n (pc := 6) C dX4_put_6 rfl 2 rfl ?_
  refine r_iast (pc := 7) C j A_3 (by omega) (by omega) dX4_put_7 ?_
  refine r_iload_n (pc := 8) C dX4_put_8 rfl 3 rfl ?_
  exact r_reti (pc := 9) C (rfl) (rfl) dX4_put_9
set_option maxHeartbeats 4000000 in
set_option maxRecDepth 100000 in
theorem c_put_4 (g : Gt) (j : Nat) (hj : j < 8) (v : Int) (σ : Sg) : Mt g yX4_put cX4_put 4 (some FieldType.int) 0 [.ref (gA g 4), .int (iI ((j : Int))), .int (iI (v))] σ (pI (σ 4 j) (wr σ 4 j v)) := by
  refine mt_of (own := RX4) (by decide) rfl (Nat.le_of_ble_eq_true rfl) (fun E C => ?_)
  show J g E (pI (σ 4 j) (wr σ 4 j v)) 4 0 [(0, .ref (gA g 4)), (1, .int (iI ((j : Int)))), (2, .int (iI (v)))] [] σ
  refine r_aload_n (pc := 0) C dX4_put_0 rfl 0 rfl ?_
  refine r_iload_n (pc := 1) C dX4_put_1 rfl 1 rfl ?_
  refine r_iald (pc := 2) C j A_4 (by omega) (by omega) dX4_put_2 ?_
  refine r_istore_n (pc := 3) C dX4_put_3 rfl (by decide) [1, 2, 3, 0] (lv' := [(0, .ref (gA g 4)), (1, .int (iI ((j : Int)))), (2, .int (iI (v))), (3, .int (iI (σ 4 j)))]) rfl ?_
  refine r_aload_n (pc := 4) C dX4_put_4 rfl 0 rfl ?_
  refine r_iload_n (pc := 5) C dX4_put_5 rfl 1 rfl ?_
  refine r_iload_n (pc := 6) C dX4_put_6 rfl 2 rfl ?_
  refine r_iast (pc := 7) C j A_4 (by omega) (by omega) dX4_put_7 ?_
  refine r_iload_n (pc := 8) C dX4_put_8 rfl 3 rfl ?_
  exact r_reti (pc := 9) C (rfl) (rfl) dX4_put_9
set_option maxHeartbeats 4000000 in
set_option maxRecDepth 100000 in
theorem c_put_5 (g : Gt) (j : Nat) (hj : j < 8) (v : Int) (σ : Sg) : Mt g yX4_put cX4_put 4 (some FieldType.int) 0 [.ref (gA g 5), .int (iI ((j : Int))), .int (iI (v))] σ (pI (σ 5 j) (wr σ 5 j v)) := by
  refine mt_of (own := RX4) (by decide) rfl (Nat.le_of_ble_eq_true rfl) (fun E C => ?_)
  show J g E (pI (σ 5 j) (wr σ 5 j v)) 4 0 [(0, .ref (gA g 5)), (1, .int (iI ((j : Int)))), (2, .int (iI (v)))] [] σ
  refine r_aload_n (pc := 0) C dX4_put_0 rfl 0 rfl ?_
  refine r_iload_n (pc := 1) C dX4_put_1 rfl 1 rfl ?_
  refine r_iald (pc := 2) C j A_5 (by omega) (by omega) dX4_put_2 ?_
  refine r_istore_n (pc := 3) C dX4_put_3 rfl (by decide) [1, 2, 3, 0] (lv' := [(0, .ref (gA g 5)), (1, .int (iI ((j : Int)))), (2, .int (iI (v))), (3, .int (iI (σ 5 j)))]) rfl ?_
  refine r_aload_n (pc := 4) C dX4_put_4 rfl 0 rfl ?_
  refine r_iload_n (pc := 5) C dX4_put_5 rfl 1 rfl ?_
  refine r_iload_n (pc := 6) C dX4_put_6 rfl 2 rfl ?_
  refine r_iast (pc := 7) C j A_5 (by omega) (by omega) dX4_put_7 ?_
  refine r_iload_n (pc := 8) C dX4_put_8 rfl 3 rfl ?_
  exact r_reti (pc := 9) C (rfl) (rfl) dX4_put_9
set_option maxHeartbeats 4000000 in
set_option maxRecDepth 100000 in
theorem c_put_6 (g : Gt) (j : Nat) (hj : j < 96) (v : Int) (σ : Sg) : Mt g yX4_put cX4_put 4 (some FieldType.int) 0 [.ref (gA g 6), .int (iI ((j : Int))), .int (iI (v))] σ (pI (σ 6 j) (wr σ 6 j v)) := by
  refine mt_of (own := RX4) (by decide) rfl (Nat.le_of_ble_eq_true rfl) (fun E C => ?_)
  show J g E (pI (σ 6 j) (wr σ 6 j v)) 4 0 [(0, .ref (gA g 6)), (1, .int (iI ((j : Int)))), (2, .int (iI (v)))] [] σ
  refine r_aload_n (pc := 0) C dX4_put_0 rfl 0 rfl ?_
  refine r_iload_n (pc := 1) C dX4_put_1 rfl 1 rfl ?_
  refine r_iald (pc := 2) C j A_6 (by omega) (by omega) dX4_put_2 ?_
  refine r_istore_n (pc := 3) C dX4_put_3 rfl (by decide) [1, 2, 3, 0] (lv' := [(0, .ref (gA g 6)), (1, .int (iI ((j : Int)))), (2, .int (iI (v))), (3, .int (iI (σ 6 j)))]) rfl ?_
  refine r_aload_n (pc := 4) C dX4_put_4 rfl 0 rfl ?_
  refine r_iload_n (pc := 5) C dX4_put_5 rfl 1 rfl ?_
  refine r_iload_n (pc := 6) C dX4_put_6 rfl 2 rfl ?_
  refine r_iast (pc := 7) C j A_6 (by omega) (by omega) dX4_put_7 ?_
  refine r_iload_n (pc := 8) C dX4_put_8 rfl 3 rfl ?_
  exact r_reti (pc := 9) C (rfl) (rfl) dX4_put_9
set_option maxHeartbeats 4000000 in
set_option maxRecDepth 100000 in
theorem c_allDust_8 (g : Gt) (σ : Sg) : Mt g yX0_allDust cX0_allDust 1 (some FieldType.int) 1 [.ref (gA g 8)] σ (pI (sumF (σ 9) 12) σ) := by
  refine mt_of (own := RX0) (by decide) rfl (Nat.le_of_ble_eq_true rfl) (fun E C => ?_)
  show J g E (pI (sumF (σ 9) 12) σ) 1 0 [(0, .ref (gA g 8))] [] σ
  refine r_aload_n (pc := 0) C dX0_allDust_0 rfl 0 rfl ?_
  refine r_getR0 (pc := 1) C 0 (k' := 9) rfl O_8 (by decide) rfl t_103 dX0_allDust_1 ?_
  refine r_cNi (pc := 4) C (c_sumOf_9 g σ) yX4_sumOf_w rfl N_sum ⟨by decide, by decide⟩ (Nat.le_of_ble_eq_true rfl) rfl dX0_allDust_4 ?_
  exact r_reti (pc := 7) C (rfl) (rfl) dX0_allDust_7
set_option maxHeartbeats 4000000 in
set_option maxRecDepth 100000 in
theorem c_changePlaces_8 (g : Gt) (x y : Nat) (hx : x < 8) (hy : y < 8) (σ : Sg) : Mt g yX0_changePlaces cX0_changePlaces 4 none 0 [.ref (gA g 8), .int (iI ((x : Int))), .int (iI ((y : Int)))] σ (pV (wr (wr σ 12 x (σ 12 y)) 12 y (σ 12 x))) := by
  refine mt_of (own := RX0) (by decide) rfl (Nat.le_of_ble_eq_true rfl) (fun E C => ?_)
  show J g E (pV (wr (wr σ 12 x (σ 12 y)) 12 y (σ 12 x))) 4 0 [(0, .ref (gA g 8)), (1, .int (iI ((x : Int)))), (2, .int (iI ((y : Int))))] [] σ
  refine r_aload_n (pc := 0) C dX0_changePlaces_0 rfl 0 rfl ?_
  refine r_getR0 (pc := 1) C 3 (k' := 12) rfl O_8 (by decide) rfl t_109 dX0_changePlaces_1 ?_
  refine r_iload_n (pc := 4) C dX0_changePlaces_4 rfl 1 rfl ?_
  refine r_iald (pc := 5) C x A_12 (by omega) (by omega) dX0_changePlaces_5 ?_
  refine r_istore_n (pc := 6) C dX0_changePlaces_6 rfl (by decide) [1, 2, 3, 0] (lv' := [(0, .ref (gA g 8)), (1, .int (iI ((x : Int)))), (2, .int (iI ((y : Int)))), (3, .int (iI (σ 12 x)))]) rfl ?_
  refine r_aload_n (pc := 7) C dX0_changePlaces_7 rfl 0 rfl ?_
  refine r_getR0 (pc := 8) C 3 (k' := 12) rfl O_8 (by decide) rfl t_109 dX0_changePlaces_8 ?_
  refine r_iload_n (pc := 11) C dX0_changePlaces_11 rfl 1 rfl ?_
  refine r_aload_n (pc := 12) C dX0_changePlaces_12 rfl 0 rfl ?_
  refine r_getR0 (pc := 13) C 3 (k' := 12) rfl O_8 (by decide) rfl t_109 dX0_changePlaces_13 ?_
  refine r_iload_n (pc := 16) C dX0_changePlaces_16 rfl 2 rfl ?_
  refine r_iald (pc := 17) C y A_12 (by omega) (by omega) dX0_changePlaces_17 ?_
  refine r_iast (pc := 18) C x A_12 (by omega) (by omega) dX0_changePlaces_18 ?_
  refine r_aload_n (pc := 19) C dX0_changePlaces_19 rfl 0 rfl ?_
  refine r_getR0 (pc := 20) C 3 (k' := 12) rfl O_8 (by decide) rfl t_109 dX0_changePlaces_20 ?_
  refine r_iload_n (pc := 23) C dX0_changePlaces_23 rfl 2 rfl ?_
  refine r_iload_n (pc := 24) C dX0_changePlaces_24 rfl 3 rfl ?_
  refine r_iast (pc := 25) C y A_12 (by omega) (by omega) dX0_changePlaces_25 ?_
  exact r_retv (pc := 26) C (rfl) dX0_changePlaces_26
def adS_8 (k : Int) (f : Nat) (σ : Sg) : Sg := (wr (us (wr (wr (wr σ 11 ((σ 8 7).toNat) k) 12 ((σ 8 7).toNat) (f : Int)) 13 ((σ 8 7).toNat) 0) 14 (zr (σ 14) (σ 8 7).toNat 12)) 8 7 ((σ 8 7) + 1))
set_option maxHeartbeats 4000000 in
set_option maxRecDepth 100000 in
theorem c_addTenant_8 (g : Gt) (k : Int) (f : Nat) (σ : Sg) (hn : 0 ≤ σ 8 7 ∧ σ 8 7 < 8) : Mt g yX0_addTenant cX0_addTenant 5 (some FieldType.int) 0 [.ref (gA g 8), .int (iI (k)), .int (iI ((f : Int)))] σ (pI (σ 8 7) (adS_8 k f σ)) := by
  refine mt_of (own := RX0) (by decide) rfl (Nat.le_of_ble_eq_true rfl) (fun E C => ?_)
  show J g E (pI (σ 8 7) (adS_8 k f σ)) 5 0 [(0, .ref (gA g 8)), (1, .int (iI (k))), (2, .int (iI ((f : Int))))] [] σ
  refine r_aload_n (pc := 0) C dX0_addTenant_0 rfl 0 rfl ?_
  refine r_getI0 (pc := 1) C 7 rfl O_8 (by decide) rfl t_119 dX0_addTenant_1 ?_
  refine r_istore_n (pc := 4) C dX0_addTenant_4 rfl (by decide) [1, 2, 3, 0] (lv' := [(0, .ref (gA g 8)), (1, .int (iI (k))), (2, .int (iI ((f : Int)))), (3, .int (iI (σ 8 7)))]) rfl ?_
  refine r_aload_n (pc := 5) C dX0_addTenant_5 rfl 0 rfl ?_
  refine r_getR0 (pc := 6) C 2 (k' := 11) rfl O_8 (by decide) rfl t_107 dX0_addTenant_6 ?_
  refine r_iload_n (pc := 9) C dX0_addTenant_9 rfl 3 rfl ?_
  refine r_iload_n (pc := 10) C dX0_addTenant_10 rfl 1 rfl ?_
  refine r_iast (pc := 11) C ((σ 8 7).toNat) A_11 (by omega) (by omega) dX0_addTenant_11 ?_
  refine r_aload_n (pc := 12) C dX0_addTenant_12 rfl 0 rfl ?_
  refine r_getR0 (pc := 13) C 3 (k' := 12) rfl O_8 (by decide) rfl t_109 dX0_addTenant_13 ?_
  refine r_iload_n (pc := 16) C dX0_addTenant_16 rfl 3 rfl ?_
  refine r_iload_n (pc := 17) C dX0_addTenant_17 rfl 2 rfl ?_
  refine r_iast (pc := 18) C ((σ 8 7).toNat) A_12 (by omega) (by omega) dX0_addTenant_18 ?_
  refine r_aload_n (pc := 19) C dX0_addTenant_19 rfl 0 rfl ?_
  refine r_getR0 (pc := 20) C 4 (k' := 13) rfl O_8 (by decide) rfl t_111 dX0_addTenant_20 ?_
  refine r_iload_n (pc := 23) C dX0_addTenant_23 rfl 3 rfl ?_
  refine r_iconst (pc := 24) C dX0_addTenant_24 ?_
  refine r_iast (pc := 25) C ((σ 8 7).toNat) A_13 (by omega) (by omega) dX0_addTenant_25 ?_
  refine r_iconst (pc := 26) C dX0_addTenant_26 ?_
  refine r_istore (pc := 27) C dX0_addTenant_27 (by decide) [1, 2, 3, 4, 0] (lv' := [(0, .ref (gA g 8)), (1, .int (iI (k))), (2, .int (iI ((f : Int)))), (3, .int (iI (σ 8 7))), (4, .int (iI (0)))]) rfl ?_
  have L29 : ∀ (n_ : Nat) (i : Nat) (x29_4 : Int) (s29 : Sg), 12 - i < n_ → (i ≤ 12) → x29_4 = (i : Int) → s29 = (us (wr (wr (wr σ 11 ((σ 8 7).toNat) k) 12 ((σ 8 7).toNat) (f : Int)) 13 ((σ 8 7).toNat) 0) 14 (zr (σ 14) (σ 8 7).toNat i)) → J g E (pI (σ 8 7) (adS_8 k f σ)) 5 29 [(0, .ref (gA g 8)), (1, .int (iI (k))), (2, .int (iI ((f : Int)))), (3, .int (iI (σ 8 7))), (4, .int (iI (x29_4)))] [] s29 := by
    intro n_
    induction n_ with
    | zero => intro i x29_4 s29 hm_; exact absurd hm_ (Nat.not_lt_zero _)
    | succ n_ ih29 =>
      intro i x29_4 s29 hm29 hi29_0 e29_0 es29
      subst e29_0 es29
      refine r_iload (pc := 29) C dX0_addTenant_29 4 rfl ?_
      refine r_bipush (pc := 31) C dX0_addTenant_31 (by decide) ?_
      refine r_icmp_ge (pc := 33) C 55 ⟨by omega, by omega⟩ ⟨by omega, by omega⟩ dX0_addTenant_33 (by decide) (fun h33 => ?_) (fun h33 => ?_)
      · skip
        refine r_aload_n (pc := 55) C dX0_addTenant_55 rfl 0 rfl ?_
        refine r_dup (pc := 56) C rfl dX0_addTenant_56 ?_
        refine r_getI0 (pc := 57) C 7 rfl O_8 (by decide) rfl t_119 dX0_addTenant_57 ?_
        refine r_top ((us_o2 _ _ _ (by omega)).trans ((wr_o2 _ _ _ _ (by omega)).trans ((wr_o2 _ _ _ _ (by omega)).trans (wr_o2 _ _ _ _ (by omega))))) ?_
        refine r_iconst (pc := 60) C dX0_addTenant_60 ?_
        refine r_iadd (pc := 61) C dX0_addTenant_61 ?_
        refine r_put0 (pc := 62) C 7 rfl O_8 (by decide) rfl t_119 rfl (by decide +kernel) dX0_addTenant_62 ?_
        refine r_iload_n (pc := 65) C dX0_addTenant_65 rfl 3 rfl ?_
        exact r_reti (pc := 66) C (rfl) (by rw [show i = 12 by omega]; rfl) dX0_addTenant_66
      · skip
        refine r_aload_n (pc := 36) C dX0_addTenant_36 rfl 0 rfl ?_
        refine r_getR0 (pc := 37) C 5 (k' := 14) rfl O_8 (by decide) rfl t_114 dX0_addTenant_37 ?_
        refine r_iload_n (pc := 40) C dX0_addTenant_40 rfl 3 rfl ?_
        refine r_bipush (pc := 41) C dX0_addTenant_41 (by decide) ?_
        refine r_imul (pc := 43) C dX0_addTenant_43 ?_
        refine r_iload (pc := 44) C dX0_addTenant_44 4 rfl ?_
        refine r_iadd (pc := 46) C dX0_addTenant_46 ?_
        refine r_iconst (pc := 47) C dX0_addTenant_47 ?_
        refine r_iast (pc := 48) C (12 * (σ 8 7).toNat + i) A_14 (by omega) (by omega) dX0_addTenant_48 ?_
        refine r_iinc (pc := 49) C dX0_addTenant_49 4 rfl (by decide) [1, 2, 3, 4, 0] (lv' := [(0, .ref (gA g 8)), (1, .int (iI (k))), (2, .int (iI ((f : Int)))), (3, .int (iI (σ 8 7))), (4, .int (iI ((i : Int) + 1)))]) rfl ?_
        refine r_goto (pc := 52) C 29 dX0_addTenant_52 (by decide) ?_
        exact ih29 (i + 1) _ _ (by omega) (by omega) (by omega) ((wr_us _ _ _ _ _).trans (congrArg (us _ 14) (zr_s _ _ _)))
  exact L29 _ 0 _ _ (Nat.lt_succ_self _) (by omega) (rfl) (by rw [zr_0]; exact (us_idx rfl).symm)
set_option maxHeartbeats 4000000 in
set_option maxRecDepth 100000 in
theorem c_allDust_0 (g : Gt) (σ : Sg) : Mt g yX0_allDust cX0_allDust 1 (some FieldType.int) 1 [.ref (gA g 0)] σ (pI (sumF (σ 1) 12) σ) := by
  refine mt_of (own := RX0) (by decide) rfl (Nat.le_of_ble_eq_true rfl) (fun E C => ?_)
  show J g E (pI (sumF (σ 1) 12) σ) 1 0 [(0, .ref (gA g 0))] [] σ
  refine r_aload_n (pc := 0) C dX0_allDust_0 rfl 0 rfl ?_
  refine r_getR0 (pc := 1) C 0 (k' := 1) rfl O_0 (by decide) rfl t_103 dX0_allDust_1 ?_
  refine r_cNi (pc := 4) C (c_sumOf_1 g σ) yX4_sumOf_w rfl N_sum ⟨by decide, by decide⟩ (Nat.le_of_ble_eq_true rfl) rfl dX0_allDust_4 ?_
  exact r_reti (pc := 7) C (rfl) (rfl) dX0_allDust_7
set_option maxHeartbeats 4000000 in
set_option maxRecDepth 100000 in
theorem c_changePlaces_0 (g : Gt) (x y : Nat) (hx : x < 8) (hy : y < 8) (σ : Sg) : Mt g yX0_changePlaces cX0_changePlaces 4 none 0 [.ref (gA g 0), .int (iI ((x : Int))), .int (iI ((y : Int)))] σ (pV (wr (wr σ 4 x (σ 4 y)) 4 y (σ 4 x))) := by
  refine mt_of (own := RX0) (by decide) rfl (Nat.le_of_ble_eq_true rfl) (fun E C => ?_)
  show J g E (pV (wr (wr σ 4 x (σ 4 y)) 4 y (σ 4 x))) 4 0 [(0, .ref (gA g 0)), (1, .int (iI ((x : Int)))), (2, .int (iI ((y : Int))))] [] σ
  refine r_aload_n (pc := 0) C dX0_changePlaces_0 rfl 0 rfl ?_
  refine r_getR0 (pc := 1) C 3 (k' := 4) rfl O_0 (by decide) rfl t_109 dX0_changePlaces_1 ?_
  refine r_iload_n (pc := 4) C dX0_changePlaces_4 rfl 1 rfl ?_
  refine r_iald (pc := 5) C x A_4 (by omega) (by omega) dX0_changePlaces_5 ?_
  refine r_istore_n (pc := 6) C dX0_changePlaces_6 rfl (by decide) [1, 2, 3, 0] (lv' := [(0, .ref (gA g 0)), (1, .int (iI ((x : Int)))), (2, .int (iI ((y : Int)))), (3, .int (iI (σ 4 x)))]) rfl ?_
  refine r_aload_n (pc := 7) C dX0_changePlaces_7 rfl 0 rfl ?_
  refine r_getR0 (pc := 8) C 3 (k' := 4) rfl O_0 (by decide) rfl t_109 dX0_changePlaces_8 ?_
  refine r_iload_n (pc := 11) C dX0_changePlaces_11 rfl 1 rfl ?_
  refine r_aload_n (pc := 12) C dX0_changePlaces_12 rfl 0 rfl ?_
  refine r_getR0 (pc := 13) C 3 (k' := 4) rfl O_0 (by decide) rfl t_109 dX0_changePlaces_13 ?_
  refine r_iload_n (pc := 16) C dX0_changePlaces_16 rfl 2 rfl ?_
  refine r_iald (pc := 17) C y A_4 (by omega) (by omega) dX0_changePlaces_17 ?_
  refine r_iast (pc := 18) C x A_4 (by omega) (by omega) dX0_changePlaces_18 ?_
  refine r_aload_n (pc := 19) C dX0_changePlaces_19 rfl 0 rfl ?_
  refine r_getR0 (pc := 20) C 3 (k' := 4) rfl O_0 (by decide) rfl t_109 dX0_changePlaces_20 ?_
  refine r_iload_n (pc := 23) C dX0_changePlaces_23 rfl 2 rfl ?_
  refine r_iload_n (pc := 24) C dX0_changePlaces_24 rfl 3 rfl ?_
  refine r_iast (pc := 25) C y A_4 (by omega) (by omega) dX0_changePlaces_25 ?_
  exact r_retv (pc := 26) C (rfl) dX0_changePlaces_26
def adS_0 (k : Int) (f : Nat) (σ : Sg) : Sg := (wr (us (wr (wr (wr σ 3 ((σ 0 7).toNat) k) 4 ((σ 0 7).toNat) (f : Int)) 5 ((σ 0 7).toNat) 0) 6 (zr (σ 6) (σ 0 7).toNat 12)) 0 7 ((σ 0 7) + 1))
set_option maxHeartbeats 4000000 in
set_option maxRecDepth 100000 in
theorem c_addTenant_0 (g : Gt) (k : Int) (f : Nat) (σ : Sg) (hn : 0 ≤ σ 0 7 ∧ σ 0 7 < 8) : Mt g yX0_addTenant cX0_addTenant 5 (some FieldType.int) 0 [.ref (gA g 0), .int (iI (k)), .int (iI ((f : Int)))] σ (pI (σ 0 7) (adS_0 k f σ)) := by
  refine mt_of (own := RX0) (by decide) rfl (Nat.le_of_ble_eq_true rfl) (fun E C => ?_)
  show J g E (pI (σ 0 7) (adS_0 k f σ)) 5 0 [(0, .ref (gA g 0)), (1, .int (iI (k))), (2, .int (iI ((f : Int))))] [] σ
  refine r_aload_n (pc := 0) C dX0_addTenant_0 rfl 0 rfl ?_
  refine r_getI0 (pc := 1) C 7 rfl O_0 (by decide) rfl t_119 dX0_addTenant_1 ?_
  refine r_istore_n (pc := 4) C dX0_addTenant_4 rfl (by decide) [1, 2, 3, 0] (lv' := [(0, .ref (gA g 0)), (1, .int (iI (k))), (2, .int (iI ((f : Int)))), (3, .int (iI (σ 0 7)))]) rfl ?_
  refine r_aload_n (pc := 5) C dX0_addTenant_5 rfl 0 rfl ?_
  refine r_getR0 (pc := 6) C 2 (k' := 3) rfl O_0 (by decide) rfl t_107 dX0_addTenant_6 ?_
  refine r_iload_n (pc := 9) C dX0_addTenant_9 rfl 3 rfl ?_
  refine r_iload_n (pc := 10) C dX0_addTenant_10 rfl 1 rfl ?_
  refine r_iast (pc := 11) C ((σ 0 7).toNat) A_3 (by omega) (by omega) dX0_addTenant_11 ?_
  refine r_aload_n (pc := 12) C dX0_addTenant_12 rfl 0 rfl ?_
  refine r_getR0 (pc := 13) C 3 (k' := 4) rfl O_0 (by decide) rfl t_109 dX0_addTenant_13 ?_
  refine r_iload_n (pc := 16) C dX0_addTenant_16 rfl 3 rfl ?_
  refine r_iload_n (pc := 17) C dX0_addTenant_17 rfl 2 rfl ?_
  refine r_iast (pc := 18) C ((σ 0 7).toNat) A_4 (by omega) (by omega) dX0_addTenant_18 ?_
  refine r_aload_n (pc := 19) C dX0_addTenant_19 rfl 0 rfl ?_
  refine r_getR0 (pc := 20) C 4 (k' := 5) rfl O_0 (by decide) rfl t_111 dX0_addTenant_20 ?_
  refine r_iload_n (pc := 23) C dX0_addTenant_23 rfl 3 rfl ?_
  refine r_iconst (pc := 24) C dX0_addTenant_24 ?_
  refine r_iast (pc := 25) C ((σ 0 7).toNat) A_5 (by omega) (by omega) dX0_addTenant_25 ?_
  refine r_iconst (pc := 26) C dX0_addTenant_26 ?_
  refine r_istore (pc := 27) C dX0_addTenant_27 (by decide) [1, 2, 3, 4, 0] (lv' := [(0, .ref (gA g 0)), (1, .int (iI (k))), (2, .int (iI ((f : Int)))), (3, .int (iI (σ 0 7))), (4, .int (iI (0)))]) rfl ?_
  have L29 : ∀ (n_ : Nat) (i : Nat) (x29_4 : Int) (s29 : Sg), 12 - i < n_ → (i ≤ 12) → x29_4 = (i : Int) → s29 = (us (wr (wr (wr σ 3 ((σ 0 7).toNat) k) 4 ((σ 0 7).toNat) (f : Int)) 5 ((σ 0 7).toNat) 0) 6 (zr (σ 6) (σ 0 7).toNat i)) → J g E (pI (σ 0 7) (adS_0 k f σ)) 5 29 [(0, .ref (gA g 0)), (1, .int (iI (k))), (2, .int (iI ((f : Int)))), (3, .int (iI (σ 0 7))), (4, .int (iI (x29_4)))] [] s29 := by
    intro n_
    induction n_ with
    | zero => intro i x29_4 s29 hm_; exact absurd hm_ (Nat.not_lt_zero _)
    | succ n_ ih29 =>
      intro i x29_4 s29 hm29 hi29_0 e29_0 es29
      subst e29_0 es29
      refine r_iload (pc := 29) C dX0_addTenant_29 4 rfl ?_
      refine r_bipush (pc := 31) C dX0_addTenant_31 (by decide) ?_
      refine r_icmp_ge (pc := 33) C 55 ⟨by omega, by omega⟩ ⟨by omega, by omega⟩ dX0_addTenant_33 (by decide) (fun h33 => ?_) (fun h33 => ?_)
      · skip
        refine r_aload_n (pc := 55) C dX0_addTenant_55 rfl 0 rfl ?_
        refine r_dup (pc := 56) C rfl dX0_addTenant_56 ?_
        refine r_getI0 (pc := 57) C 7 rfl O_0 (by decide) rfl t_119 dX0_addTenant_57 ?_
        refine r_top ((us_o2 _ _ _ (by omega)).trans ((wr_o2 _ _ _ _ (by omega)).trans ((wr_o2 _ _ _ _ (by omega)).trans (wr_o2 _ _ _ _ (by omega))))) ?_
        refine r_iconst (pc := 60) C dX0_addTenant_60 ?_
        refine r_iadd (pc := 61) C dX0_addTenant_61 ?_
        refine r_put0 (pc := 62) C 7 rfl O_0 (by decide) rfl t_119 rfl (by decide +kernel) dX0_addTenant_62 ?_
        refine r_iload_n (pc := 65) C dX0_addTenant_65 rfl 3 rfl ?_
        exact r_reti (pc := 66) C (rfl) (by rw [show i = 12 by omega]; rfl) dX0_addTenant_66
      · skip
        refine r_aload_n (pc := 36) C dX0_addTenant_36 rfl 0 rfl ?_
        refine r_getR0 (pc := 37) C 5 (k' := 6) rfl O_0 (by decide) rfl t_114 dX0_addTenant_37 ?_
        refine r_iload_n (pc := 40) C dX0_addTenant_40 rfl 3 rfl ?_
        refine r_bipush (pc := 41) C dX0_addTenant_41 (by decide) ?_
        refine r_imul (pc := 43) C dX0_addTenant_43 ?_
        refine r_iload (pc := 44) C dX0_addTenant_44 4 rfl ?_
        refine r_iadd (pc := 46) C dX0_addTenant_46 ?_
        refine r_iconst (pc := 47) C dX0_addTenant_47 ?_
        refine r_iast (pc := 48) C (12 * (σ 0 7).toNat + i) A_6 (by omega) (by omega) dX0_addTenant_48 ?_
        refine r_iinc (pc := 49) C dX0_addTenant_49 4 rfl (by decide) [1, 2, 3, 4, 0] (lv' := [(0, .ref (gA g 0)), (1, .int (iI (k))), (2, .int (iI ((f : Int)))), (3, .int (iI (σ 0 7))), (4, .int (iI ((i : Int) + 1)))]) rfl ?_
        refine r_goto (pc := 52) C 29 dX0_addTenant_52 (by decide) ?_
        exact ih29 (i + 1) _ _ (by omega) (by omega) (by omega) ((wr_us _ _ _ _ _).trans (congrArg (us _ 6) (zr_s _ _ _)))
  exact L29 _ 0 _ _ (Nat.lt_succ_self _) (by omega) (rfl) (by rw [zr_0]; exact (us_idx rfl).symm)
set_option maxHeartbeats 4000000 in
set_option maxRecDepth 100000 in
theorem c_greatestMark_0 (g : Gt) (f : Nat) (hf : f < 12) (σ : Sg) (hn : 0 ≤ σ 0 7 ∧ σ 0 7 ≤ 8) (hM : rgM (σ 6)) : Mt g yX0_greatestMark cX0_greatestMark 3 (some FieldType.int) 1 [.ref (gA g 0), .int (iI ((f : Int)))] σ (pI (gmark (σ 0 7) (σ 6) f) σ) := by
  have hh := holder_rng (σ 0 7) (σ 6) f hn.1
  refine mt_of (own := RX0) (by decide) rfl (Nat.le_of_ble_eq_true rfl) (fun E C => ?_)
  show J g E (pI (gmark (σ 0 7) (σ 6) f) σ) 3 0 [(0, .ref (gA g 0)), (1, .int (iI ((f : Int))))] [] σ
  refine r_aload_n (pc := 0) C dX0_greatestMark_0 rfl 0 rfl ?_
  refine r_iload_n (pc := 1) C dX0_greatestMark_1 rfl 1 rfl ?_
  refine r_cVi (pc := 2) C (c_holderOf_0 g f (by omega) σ hn hM) yX0_holderOf_w O_0 rfl rfl t_272 ⟨by decide, by decide⟩ (Nat.le_of_ble_eq_true rfl) rfl dX0_greatestMark_2 ?_
  refine r_istore_n (pc := 5) C dX0_greatestMark_5 rfl (by decide) [1, 2, 0] (lv' := [(0, .ref (gA g 0)), (1, .int (iI ((f : Int)))), (2, .int (iI (holder (σ 0 7) (σ 6) f)))]) rfl ?_
  refine r_iload_n (pc := 6) C dX0_greatestMark_6 rfl 2 rfl ?_
  refine r_iconst (pc := 7) C dX0_greatestMark_7 ?_
  refine r_icmp_ne (pc := 8) C 15 ⟨by omega, by omega⟩ ⟨by omega, by omega⟩ dX0_greatestMark_8 (by decide) (fun h8 => ?_) (fun h8 => ?_)
  · skip
    refine r_aload_n (pc := 15) C dX0_greatestMark_15 rfl 0 rfl ?_
    refine r_getR0 (pc := 16) C 5 (k' := 6) rfl O_0 (by decide) rfl t_114 dX0_greatestMark_16 ?_
    refine r_iload_n (pc := 19) C dX0_greatestMark_19 rfl 2 rfl ?_
    refine r_bipush (pc := 20) C dX0_greatestMark_20 (by decide) ?_
    refine r_imul (pc := 22) C dX0_greatestMark_22 ?_
    refine r_iload_n (pc := 23) C dX0_greatestMark_23 rfl 1 rfl ?_
    refine r_iadd (pc := 24) C dX0_greatestMark_24 ?_
    refine r_iald (pc := 25) C (12 * (holder (σ 0 7) (σ 6) f).toNat + f) A_6 (by omega) (by omega) dX0_greatestMark_25 ?_
    exact r_reti (pc := 26) C (by first | rw [gmark, if_pos (by assumption)] | rw [gmark, if_neg (by assumption)]) (rfl) dX0_greatestMark_26
  · skip
    refine r_iconst (pc := 11) C dX0_greatestMark_11 ?_
    refine r_goto (pc := 12) C 26 dX0_greatestMark_12 (by decide) ?_
    exact r_reti (pc := 26) C (by first | rw [gmark, if_pos (by assumption)] | rw [gmark, if_neg (by assumption)]) (rfl) dX0_greatestMark_26
set_option maxHeartbeats 4000000 in
set_option maxRecDepth 100000 in
theorem c_sittersAt_0 (g : Gt) (f : Nat) (hf : f < 12) (σ : Sg) (hn : 0 ≤ σ 0 7 ∧ σ 0 7 ≤ 8) (hA : rgA (σ 4)) : Mt g yX0_sittersAt cX0_sittersAt 4 (some FieldType.int) 0 [.ref (gA g 0), .int (iI ((f : Int)))] σ (pI (setF (fun t => decide (σ 4 t = (f : Int))) (σ 0 7).toNat) σ) := by
  refine mt_of (own := RX0) (by decide) rfl (Nat.le_of_ble_eq_true rfl) (fun E C => ?_)
  show J g E (pI (setF (fun t => decide (σ 4 t = (f : Int))) (σ 0 7).toNat) σ) 4 0 [(0, .ref (gA g 0)), (1, .int (iI ((f : Int))))] [] σ
  refine r_iconst (pc := 0) C dX0_sittersAt_0 ?_
  refine r_istore_n (pc := 1) C dX0_sittersAt_1 rfl (by decide) [1, 2, 0] (lv' := [(0, .ref (gA g 0)), (1, .int (iI ((f : Int)))), (2, .int (iI (0)))]) rfl ?_
  refine r_iconst (pc := 2) C dX0_sittersAt_2 ?_
  refine r_istore_n (pc := 3) C dX0_sittersAt_3 rfl (by decide) [1, 2, 3, 0] (lv' := [(0, .ref (gA g 0)), (1, .int (iI ((f : Int)))), (2, .int (iI (0))), (3, .int (iI (0)))]) rfl ?_
  have L4 : ∀ (n_ : Nat) (i : Nat) (x4_2 x4_3 : Int), (σ 0 7).toNat - i < n_ → ((i : Int) ≤ σ 0 7) → x4_2 = setF (fun t => decide (σ 4 t = (f : Int))) i → x4_3 = (i : Int) → J g E (pI (setF (fun t => decide (σ 4 t = (f : Int))) (σ 0 7).toNat) σ) 4 4 [(0, .ref (gA g 0)), (1, .int (iI ((f : Int)))), (2, .int (iI (x4_2))), (3, .int (iI (x4_3)))] [] σ := by
    intro n_
    induction n_ with
    | zero => intro i x4_2 x4_3  hm_; exact absurd hm_ (Nat.not_lt_zero _)
    | succ n_ ih4 =>
      intro i x4_2 x4_3  hm4 hi4_0 e4_0 e4_1 
      subst e4_0 e4_1 
      refine r_iload_n (pc := 4) C dX0_sittersAt_4 rfl 3 rfl ?_
      refine r_aload_n (pc := 5) C dX0_sittersAt_5 rfl 0 rfl ?_
      refine r_getI0 (pc := 6) C 7 rfl O_0 (by decide) rfl t_119 dX0_sittersAt_6 ?_
      refine r_icmp_ge (pc := 9) C 34 ⟨by omega, by omega⟩ ⟨by omega, by omega⟩ dX0_sittersAt_9 (by decide) (fun h9 => ?_) (fun h9 => ?_)
      · skip
        refine r_iload_n (pc := 34) C dX0_sittersAt_34 rfl 2 rfl ?_
        exact r_reti (pc := 35) C (by rw [show i = (σ 0 7).toNat by omega]) (rfl) dX0_sittersAt_35
      · skip
        refine r_aload_n (pc := 12) C dX0_sittersAt_12 rfl 0 rfl ?_
        refine r_getR0 (pc := 13) C 3 (k' := 4) rfl O_0 (by decide) rfl t_109 dX0_sittersAt_13 ?_
        refine r_iload_n (pc := 16) C dX0_sittersAt_16 rfl 3 rfl ?_
        have ha := hA i (by omega)
        refine r_iald (pc := 17) C i A_4 (by omega) (by omega) dX0_sittersAt_17 ?_
        refine r_iload_n (pc := 18) C dX0_sittersAt_18 rfl 1 rfl ?_
        refine r_icmp_ne (pc := 19) C 28 ⟨by omega, by omega⟩ ⟨by omega, by omega⟩ dX0_sittersAt_19 (by decide) (fun h19 => ?_) (fun h19 => ?_)
        · skip
          refine r_iinc (pc := 28) C dX0_sittersAt_28 3 rfl (by decide) [1, 2, 3, 0] (lv' := [(0, .ref (gA g 0)), (1, .int (iI ((f : Int)))), (2, .int (iI (setF (fun t => decide (σ 4 t = (f : Int))) i))), (3, .int (iI ((i : Int) + 1)))]) rfl ?_
          refine r_goto (pc := 31) C 4 dX0_sittersAt_31 (by decide) ?_
          exact ih4 (i + 1) _ _ (by omega) (by omega) (by first | rw [setF, if_pos (by simp; omega)] | rw [setF, if_neg (by simp; omega)]) (by omega)
        · skip
          refine r_iload_n (pc := 22) C dX0_sittersAt_22 rfl 2 rfl ?_
          refine r_iconst (pc := 23) C dX0_sittersAt_23 ?_
          refine r_iload_n (pc := 24) C dX0_sittersAt_24 rfl 3 rfl ?_
          refine r_ishl (pc := 25) C dX0_sittersAt_25 ?_
          refine r_ior (pc := 26) C dX0_sittersAt_26 ?_
          refine r_istore_n (pc := 27) C dX0_sittersAt_27 rfl (by decide) [1, 2, 0, 3] (lv' := [(0, .ref (gA g 0)), (1, .int (iI ((f : Int)))), (2, .int (iI (bor (setF (fun t => decide (σ 4 t = (f : Int))) i) (bshl 1 (i : Int))))), (3, .int (iI ((i : Int))))]) rfl ?_
          refine r_iinc (pc := 28) C dX0_sittersAt_28 3 rfl (by decide) [1, 2, 3, 0] (lv' := [(0, .ref (gA g 0)), (1, .int (iI ((f : Int)))), (2, .int (iI (bor (setF (fun t => decide (σ 4 t = (f : Int))) i) (bshl 1 (i : Int))))), (3, .int (iI ((i : Int) + 1)))]) rfl ?_
          refine r_goto (pc := 31) C 4 dX0_sittersAt_31 (by decide) ?_
          exact ih4 (i + 1) _ _ (by omega) (by omega) (by first | rw [setF, if_pos (by simp; omega)] | rw [setF, if_neg (by simp; omega)]) (by omega)
  exact L4 _ 0 _ _ (Nat.lt_succ_self _) (by omega) (rfl) (rfl)
set_option maxHeartbeats 4000000 in
set_option maxRecDepth 100000 in
theorem c_heldBy_0 (g : Gt) (t : Int) (ht : rng t) (σ : Sg) (hn : 0 ≤ σ 0 7 ∧ σ 0 7 ≤ 8) (hM : rgM (σ 6)) : Mt g yX0_heldBy cX0_heldBy 4 (some FieldType.int) 1 [.ref (gA g 0), .int (iI (t))] σ (pI (setF (fun f => decide (holder (σ 0 7) (σ 6) f = t)) 12) σ) := by
  refine mt_of (own := RX0) (by decide) rfl (Nat.le_of_ble_eq_true rfl) (fun E C => ?_)
  show J g E (pI (setF (fun f => decide (holder (σ 0 7) (σ 6) f = t)) 12) σ) 4 0 [(0, .ref (gA g 0)), (1, .int (iI (t)))] [] σ
  refine r_iconst (pc := 0) C dX0_heldBy_0 ?_
  refine r_istore_n (pc := 1) C dX0_heldBy_1 rfl (by decide) [1, 2, 0] (lv' := [(0, .ref (gA g 0)), (1, .int (iI (t))), (2, .int (iI (0)))]) rfl ?_
  refine r_iconst (pc := 2) C dX0_heldBy_2 ?_
  refine r_istore_n (pc := 3) C dX0_heldBy_3 rfl (by decide) [1, 2, 3, 0] (lv' := [(0, .ref (gA g 0)), (1, .int (iI (t))), (2, .int (iI (0))), (3, .int (iI (0)))]) rfl ?_
  have L4 : ∀ (n_ : Nat) (i : Nat) (x4_2 x4_3 : Int), 12 - i < n_ → (i ≤ 12) → x4_2 = setF (fun f => decide (holder (σ 0 7) (σ 6) f = t)) i → x4_3 = (i : Int) → J g E (pI (setF (fun f => decide (holder (σ 0 7) (σ 6) f = t)) 12) σ) 4 4 [(0, .ref (gA g 0)), (1, .int (iI (t))), (2, .int (iI (x4_2))), (3, .int (iI (x4_3)))] [] σ := by
    intro n_
    induction n_ with
    | zero => intro i x4_2 x4_3  hm_; exact absurd hm_ (Nat.not_lt_zero _)
    | succ n_ ih4 =>
      intro i x4_2 x4_3  hm4 hi4_0 e4_0 e4_1 
      subst e4_0 e4_1 
      have hh := holder_rng (σ 0 7) (σ 6) i hn.1
      refine r_iload_n (pc := 4) C dX0_heldBy_4 rfl 3 rfl ?_
      refine r_bipush (pc := 5) C dX0_heldBy_5 (by decide) ?_
      refine r_icmp_ge (pc := 7) C 31 ⟨by omega, by omega⟩ ⟨by omega, by omega⟩ dX0_heldBy_7 (by decide) (fun h7 => ?_) (fun h7 => ?_)
      · skip
        refine r_iload_n (pc := 31) C dX0_heldBy_31 rfl 2 rfl ?_
        exact r_reti (pc := 32) C (by rw [show i = 12 by omega]) (rfl) dX0_heldBy_32
      · skip
        refine r_aload_n (pc := 10) C dX0_heldBy_10 rfl 0 rfl ?_
        refine r_iload_n (pc := 11) C dX0_heldBy_11 rfl 3 rfl ?_
        refine r_cVi (pc := 12) C (c_holderOf_0 g i (by omega) σ hn hM) yX0_holderOf_w O_0 rfl rfl t_272 ⟨by decide, by decide⟩ (Nat.le_of_ble_eq_true rfl) rfl dX0_heldBy_12 ?_
        refine r_iload_n (pc := 15) C dX0_heldBy_15 rfl 1 rfl ?_
        refine r_icmp_ne (pc := 16) C 25 ⟨by omega, by omega⟩ ht dX0_heldBy_16 (by decide) (fun h16 => ?_) (fun h16 => ?_)
        · skip
          refine r_iinc (pc := 25) C dX0_heldBy_25 3 rfl (by decide) [1, 2, 3, 0] (lv' := [(0, .ref (gA g 0)), (1, .int (iI (t))), (2, .int (iI (setF (fun f => decide (holder (σ 0 7) (σ 6) f = t)) i))), (3, .int (iI ((i : Int) + 1)))]) rfl ?_
          refine r_goto (pc := 28) C 4 dX0_heldBy_28 (by decide) ?_
          exact ih4 (i + 1) _ _ (by omega) (by omega) (by first | rw [setF, if_pos (by simp; omega)] | rw [setF, if_neg (by simp; omega)]) (by omega)
        · skip
          refine r_iload_n (pc := 19) C dX0_heldBy_19 rfl 2 rfl ?_
          refine r_iconst (pc := 20) C dX0_heldBy_20 ?_
          refine r_iload_n (pc := 21) C dX0_heldBy_21 rfl 3 rfl ?_
          refine r_ishl (pc := 22) C dX0_heldBy_22 ?_
          refine r_ior (pc := 23) C dX0_heldBy_23 ?_
          refine r_istore_n (pc := 24) C dX0_heldBy_24 rfl (by decide) [1, 2, 0, 3] (lv' := [(0, .ref (gA g 0)), (1, .int (iI (t))), (2, .int (iI (bor (setF (fun f => decide (holder (σ 0 7) (σ 6) f = t)) i) (bshl 1 (i : Int))))), (3, .int (iI ((i : Int))))]) rfl ?_
          refine r_iinc (pc := 25) C dX0_heldBy_25 3 rfl (by decide) [1, 2, 3, 0] (lv' := [(0, .ref (gA g 0)), (1, .int (iI (t))), (2, .int (iI (bor (setF (fun f => decide (holder (σ 0 7) (σ 6) f = t)) i) (bshl 1 (i : Int))))), (3, .int (iI ((i : Int) + 1)))]) rfl ?_
          refine r_goto (pc := 28) C 4 dX0_heldBy_28 (by decide) ?_
          exact ih4 (i + 1) _ _ (by omega) (by omega) (by first | rw [setF, if_pos (by simp; omega)] | rw [setF, if_neg (by simp; omega)]) (by omega)
  exact L4 _ 0 _ _ (Nat.lt_succ_self _) (by omega) (rfl) (rfl)
set_option maxHeartbeats 4000000 in
set_option maxRecDepth 100000 in
theorem c_heldSurfaces_0 (g : Gt) (σ : Sg) (hn : 0 ≤ σ 0 7 ∧ σ 0 7 ≤ 8) (hM : rgM (σ 6)) : Mt g yX0_heldSurfaces cX0_heldSurfaces 1 (some FieldType.int) 2 [.ref (gA g 0)] σ (pI (band 4095 (bxor (setF (fun f => decide (holder (σ 0 7) (σ 6) f = -1)) 12) (-1))) σ) := by
  refine mt_of (own := RX0) (by decide) rfl (Nat.le_of_ble_eq_true rfl) (fun E C => ?_)
  show J g E (pI (band 4095 (bxor (setF (fun f => decide (holder (σ 0 7) (σ 6) f = -1)) 12) (-1))) σ) 1 0 [(0, .ref (gA g 0))] [] σ
  refine r_sipush (pc := 0) C dX0_heldSurfaces_0 (by decide) ?_
  refine r_aload_n (pc := 3) C dX0_heldSurfaces_3 rfl 0 rfl ?_
  refine r_iconst (pc := 4) C dX0_heldSurfaces_4 ?_
  refine r_cVi (pc := 5) C (c_heldBy_0 g (-1) ⟨by omega, by omega⟩ σ hn hM) yX0_heldBy_w O_0 rfl rfl t_408 ⟨by decide, by decide⟩ (Nat.le_of_ble_eq_true rfl) rfl dX0_heldSurfaces_5 ?_
  refine r_iconst (pc := 8) C dX0_heldSurfaces_8 ?_
  refine r_ixor (pc := 9) C dX0_heldSurfaces_9 ?_
  refine r_iand (pc := 10) C dX0_heldSurfaces_10 ?_
  exact r_reti (pc := 11) C (rfl) (rfl) dX0_heldSurfaces_11
set_option maxHeartbeats 4000000 in
set_option maxRecDepth 100000 in
theorem c_landless_0 (g : Gt) (σ : Sg) (hn : 0 ≤ σ 0 7 ∧ σ 0 7 ≤ 8) (hM : rgM (σ 6)) : Mt g yX0_landless cX0_landless 4 (some FieldType.int) 1 [.ref (gA g 0)] σ (pI (lnF (σ 0 7) (σ 6) 12) σ) := by
  refine mt_of (own := RX0) (by decide) rfl (Nat.le_of_ble_eq_true rfl) (fun E C => ?_)
  show J g E (pI (lnF (σ 0 7) (σ 6) 12) σ) 4 0 [(0, .ref (gA g 0))] [] σ
  refine r_iconst (pc := 0) C dX0_landless_0 ?_
  refine r_aload_n (pc := 1) C dX0_landless_1 rfl 0 rfl ?_
  refine r_getI0 (pc := 2) C 7 rfl O_0 (by decide) rfl t_119 dX0_landless_2 ?_
  refine r_ishl (pc := 5) C dX0_landless_5 ?_
  refine r_iconst (pc := 6) C dX0_landless_6 ?_
  refine r_isub (pc := 7) C dX0_landless_7 ?_
  refine r_istore_n (pc := 8) C dX0_landless_8 rfl (by decide) [1, 0] (lv' := [(0, .ref (gA g 0)), (1, .int (iI ((bshl 1 (σ 0 7)) - 1)))]) rfl ?_
  refine r_iconst (pc := 9) C dX0_landless_9 ?_
  refine r_istore_n (pc := 10) C dX0_landless_10 rfl (by decide) [1, 2, 0] (lv' := [(0, .ref (gA g 0)), (1, .int (iI ((bshl 1 (σ 0 7)) - 1))), (2, .int (iI (0)))]) rfl ?_
  have L11 : ∀ (n_ : Nat) (i : Nat) (x11_1 x11_2 : Int), 12 - i < n_ → (i ≤ 12) → x11_1 = lnF (σ 0 7) (σ 6) i → x11_2 = (i : Int) → J g E (pI (lnF (σ 0 7) (σ 6) 12) σ) 4 11 [(0, .ref (gA g 0)), (1, .int (iI (x11_1))), (2, .int (iI (x11_2)))] [] σ := by
    intro n_
    induction n_ with
    | zero => intro i x11_1 x11_2  hm_; exact absurd hm_ (Nat.not_lt_zero _)
    | succ n_ ih11 =>
      intro i x11_1 x11_2  hm11 hi11_0 e11_0 e11_1 
      subst e11_0 e11_1 
      have hh := holder_rng (σ 0 7) (σ 6) i hn.1
      refine r_iload_n (pc := 11) C dX0_landless_11 rfl 2 rfl ?_
      refine r_bipush (pc := 12) C dX0_landless_12 (by decide) ?_
      refine r_icmp_ge (pc := 14) C 42 ⟨by omega, by omega⟩ ⟨by omega, by omega⟩ dX0_landless_14 (by decide) (fun h14 => ?_) (fun h14 => ?_)
      · skip
        refine r_iload_n (pc := 42) C dX0_landless_42 rfl 1 rfl ?_
        exact r_reti (pc := 43) C (by rw [show i = 12 by omega]) (rfl) dX0_landless_43
      · skip
        refine r_aload_n (pc := 17) C dX0_landless_17 rfl 0 rfl ?_
        refine r_iload_n (pc := 18) C dX0_landless_18 rfl 2 rfl ?_
        refine r_cVi (pc := 19) C (c_holderOf_0 g i (by omega) σ hn hM) yX0_holderOf_w O_0 rfl rfl t_272 ⟨by decide, by decide⟩ (Nat.le_of_ble_eq_true rfl) rfl dX0_landless_19 ?_
        refine r_istore_n (pc := 22) C dX0_landless_22 rfl (by decide) [1, 2, 3, 0] (lv' := [(0, .ref (gA g 0)), (1, .int (iI (lnF (σ 0 7) (σ 6) i))), (2, .int (iI ((i : Int)))), (3, .int (iI (holder (σ 0 7) (σ 6) i)))]) rfl ?_
        refine r_iload_n (pc := 23) C dX0_landless_23 rfl 3 rfl ?_
        refine r_iconst (pc := 24) C dX0_landless_24 ?_
        refine r_icmp_eq (pc := 25) C 36 ⟨by omega, by omega⟩ ⟨by omega, by omega⟩ dX0_landless_25 (by decide) (fun h25 => ?_) (fun h25 => ?_)
        · skip
          refine r_iinc (pc := 36) C dX0_landless_36 2 rfl (by decide) [1, 2, 0, 3] (lv' := [(0, .ref (gA g 0)), (1, .int (iI (lnF (σ 0 7) (σ 6) i))), (2, .int (iI ((i : Int) + 1))), (3, .int (iI (holder (σ 0 7) (σ 6) i)))]) rfl ?_
          refine r_goto (pc := 39) C 11 dX0_landless_39 (by decide) ?_
          refine r_lv [0, 1, 2] (lv' := [(0, .ref (gA g 0)), (1, .int (iI (lnF (σ 0 7) (σ 6) i))), (2, .int (iI ((i : Int) + 1)))]) rfl ?_
          exact ih11 (i + 1) _ _ (by omega) (by omega) (by first | rw [lnF, if_pos (by assumption)] | rw [lnF, if_neg (by assumption)]) (by omega)
        · skip
          refine r_iload_n (pc := 28) C dX0_landless_28 rfl 1 rfl ?_
          refine r_iconst (pc := 29) C dX0_landless_29 ?_
          refine r_iload_n (pc := 30) C dX0_landless_30 rfl 3 rfl ?_
          refine r_ishl (pc := 31) C dX0_landless_31 ?_
          refine r_iconst (pc := 32) C dX0_landless_32 ?_
          refine r_ixor (pc := 33) C dX0_landless_33 ?_
          refine r_iand (pc := 34) C dX0_landless_34 ?_
          refine r_istore_n (pc := 35) C dX0_landless_35 rfl (by decide) [1, 0, 2, 3] (lv' := [(0, .ref (gA g 0)), (1, .int (iI (band (lnF (σ 0 7) (σ 6) i) (bxor (bshl 1 (holder (σ 0 7) (σ 6) i)) (-1))))), (2, .int (iI ((i : Int)))), (3, .int (iI (holder (σ 0 7) (σ 6) i)))]) rfl ?_
          refine r_iinc (pc := 36) C dX0_landless_36 2 rfl (by decide) [1, 2, 0, 3] (lv' := [(0, .ref (gA g 0)), (1, .int (iI (band (lnF (σ 0 7) (σ 6) i) (bxor (bshl 1 (holder (σ 0 7) (σ 6) i)) (-1))))), (2, .int (iI ((i : Int) + 1))), (3, .int (iI (holder (σ 0 7) (σ 6) i)))]) rfl ?_
          refine r_goto (pc := 39) C 11 dX0_landless_39 (by decide) ?_
          refine r_lv [0, 1, 2] (lv' := [(0, .ref (gA g 0)), (1, .int (iI (band (lnF (σ 0 7) (σ 6) i) (bxor (bshl 1 (holder (σ 0 7) (σ 6) i)) (-1))))), (2, .int (iI ((i : Int) + 1)))]) rfl ?_
          exact ih11 (i + 1) _ _ (by omega) (by omega) (by first | rw [lnF, if_pos (by assumption)] | rw [lnF, if_neg (by assumption)]) (by omega)
  exact L11 _ 0 _ _ (Nat.lt_succ_self _) (by omega) (rfl) (rfl)
set_option maxHeartbeats 4000000 in
set_option maxRecDepth 100000 in
theorem c_marksOf_0 (g : Gt) (t : Nat) (ht : t < 8) (σ : Sg) : Mt g yX0_marksOf cX0_marksOf 4 (some FieldType.int) 0 [.ref (gA g 0), .int (iI ((t : Int)))] σ (pI (sumF (fun f => σ 6 (12 * t + f)) 12) σ) := by
  refine mt_of (own := RX0) (by decide) rfl (Nat.le_of_ble_eq_true rfl) (fun E C => ?_)
  show J g E (pI (sumF (fun f => σ 6 (12 * t + f)) 12) σ) 4 0 [(0, .ref (gA g 0)), (1, .int (iI ((t : Int))))] [] σ
  refine r_iconst (pc := 0) C dX0_marksOf_0 ?_
  refine r_istore_n (pc := 1) C dX0_marksOf_1 rfl (by decide) [1, 2, 0] (lv' := [(0, .ref (gA g 0)), (1, .int (iI ((t : Int)))), (2, .int (iI (0)))]) rfl ?_
  refine r_iconst (pc := 2) C dX0_marksOf_2 ?_
  refine r_istore_n (pc := 3) C dX0_marksOf_3 rfl (by decide) [1, 2, 3, 0] (lv' := [(0, .ref (gA g 0)), (1, .int (iI ((t : Int)))), (2, .int (iI (0))), (3, .int (iI (0)))]) rfl ?_
  have L4 : ∀ (n_ : Nat) (i : Nat) (x4_2 x4_3 : Int), 12 - i < n_ → (i ≤ 12) → x4_2 = sumF (fun f => σ 6 (12 * t + f)) i → x4_3 = (i : Int) → J g E (pI (sumF (fun f => σ 6 (12 * t + f)) 12) σ) 4 4 [(0, .ref (gA g 0)), (1, .int (iI ((t : Int)))), (2, .int (iI (x4_2))), (3, .int (iI (x4_3)))] [] σ := by
    intro n_
    induction n_ with
    | zero => intro i x4_2 x4_3  hm_; exact absurd hm_ (Nat.not_lt_zero _)
    | succ n_ ih4 =>
      intro i x4_2 x4_3  hm4 hi4_0 e4_0 e4_1 
      subst e4_0 e4_1 
      refine r_iload_n (pc := 4) C dX0_marksOf_4 rfl 3 rfl ?_
      refine r_bipush (pc := 5) C dX0_marksOf_5 (by decide) ?_
      refine r_icmp_ge (pc := 7) C 30 ⟨by omega, by omega⟩ ⟨by omega, by omega⟩ dX0_marksOf_7 (by decide) (fun h7 => ?_) (fun h7 => ?_)
      · skip
        refine r_iload_n (pc := 30) C dX0_marksOf_30 rfl 2 rfl ?_
        exact r_reti (pc := 31) C (by rw [show i = 12 by omega]) (rfl) dX0_marksOf_31
      · skip
        refine r_iload_n (pc := 10) C dX0_marksOf_10 rfl 2 rfl ?_
        refine r_aload_n (pc := 11) C dX0_marksOf_11 rfl 0 rfl ?_
        refine r_getR0 (pc := 12) C 5 (k' := 6) rfl O_0 (by decide) rfl t_114 dX0_marksOf_12 ?_
        refine r_iload_n (pc := 15) C dX0_marksOf_15 rfl 1 rfl ?_
        refine r_bipush (pc := 16) C dX0_marksOf_16 (by decide) ?_
        refine r_imul (pc := 18) C dX0_marksOf_18 ?_
        refine r_iload_n (pc := 19) C dX0_marksOf_19 rfl 3 rfl ?_
        refine r_iadd (pc := 20) C dX0_marksOf_20 ?_
        refine r_iald (pc := 21) C (12 * t + i) A_6 (by omega) (by omega) dX0_marksOf_21 ?_
        refine r_iadd (pc := 22) C dX0_marksOf_22 ?_
        refine r_istore_n (pc := 23) C dX0_marksOf_23 rfl (by decide) [1, 2, 0, 3] (lv' := [(0, .ref (gA g 0)), (1, .int (iI ((t : Int)))), (2, .int (iI ((sumF (fun f => σ 6 (12 * t + f)) i) + (σ 6 (12 * t + i))))), (3, .int (iI ((i : Int))))]) rfl ?_
        refine r_iinc (pc := 24) C dX0_marksOf_24 3 rfl (by decide) [1, 2, 3, 0] (lv' := [(0, .ref (gA g 0)), (1, .int (iI ((t : Int)))), (2, .int (iI ((sumF (fun f => σ 6 (12 * t + f)) i) + (σ 6 (12 * t + i))))), (3, .int (iI ((i : Int) + 1)))]) rfl ?_
        refine r_goto (pc := 27) C 4 dX0_marksOf_27 (by decide) ?_
        exact ih4 (i + 1) _ _ (by omega) (by omega) (rfl) (by omega)
  exact L4 _ 0 _ _ (Nat.lt_succ_self _) (by omega) (rfl) (rfl)
set_option maxHeartbeats 4000000 in
set_option maxRecDepth 100000 in
theorem c_richest_0 (g : Gt) (σ : Sg) (hn : 0 ≤ σ 0 7 ∧ σ 0 7 ≤ 8) (hG : rgG (σ 5)) : Mt g yX0_richest cX0_richest 3 (some FieldType.int) 0 [.ref (gA g 0)] σ (pI (richF (σ 5) (σ 0 7).toNat) σ) := by
  refine mt_of (own := RX0) (by decide) rfl (Nat.le_of_ble_eq_true rfl) (fun E C => ?_)
  show J g E (pI (richF (σ 5) (σ 0 7).toNat) σ) 3 0 [(0, .ref (gA g 0))] [] σ
  refine r_iconst (pc := 0) C dX0_richest_0 ?_
  refine r_istore_n (pc := 1) C dX0_richest_1 rfl (by decide) [1, 0] (lv' := [(0, .ref (gA g 0)), (1, .int (iI ((-1))))]) rfl ?_
  refine r_iconst (pc := 2) C dX0_richest_2 ?_
  refine r_istore_n (pc := 3) C dX0_richest_3 rfl (by decide) [1, 2, 0] (lv' := [(0, .ref (gA g 0)), (1, .int (iI ((-1)))), (2, .int (iI (0)))]) rfl ?_
  have L4 : ∀ (n_ : Nat) (i : Nat) (x4_1 x4_2 : Int), (σ 0 7).toNat - i < n_ → ((i : Int) ≤ σ 0 7) → x4_1 = richF (σ 5) i → x4_2 = (i : Int) → J g E (pI (richF (σ 5) (σ 0 7).toNat) σ) 3 4 [(0, .ref (gA g 0)), (1, .int (iI (x4_1))), (2, .int (iI (x4_2)))] [] σ := by
    intro n_
    induction n_ with
    | zero => intro i x4_1 x4_2  hm_; exact absurd hm_ (Nat.not_lt_zero _)
    | succ n_ ih4 =>
      intro i x4_1 x4_2  hm4 hi4_0 e4_0 e4_1 
      subst e4_0 e4_1 
      have hr := richF_rng (σ 5) i
      refine r_iload_n (pc := 4) C dX0_richest_4 rfl 2 rfl ?_
      refine r_aload_n (pc := 5) C dX0_richest_5 rfl 0 rfl ?_
      refine r_getI0 (pc := 6) C 7 rfl O_0 (by decide) rfl t_119 dX0_richest_6 ?_
      refine r_icmp_ge (pc := 9) C 40 ⟨by omega, by omega⟩ ⟨by omega, by omega⟩ dX0_richest_9 (by decide) (fun h9 => ?_) (fun h9 => ?_)
      · skip
        refine r_iload_n (pc := 40) C dX0_richest_40 rfl 1 rfl ?_
        exact r_reti (pc := 41) C (by rw [show i = (σ 0 7).toNat by omega]) (rfl) dX0_richest_41
      · skip
        refine r_iload_n (pc := 12) C dX0_richest_12 rfl 1 rfl ?_
        refine r_iconst (pc := 13) C dX0_richest_13 ?_
        refine r_icmp_eq (pc := 14) C 32 ⟨by omega, by omega⟩ ⟨by omega, by omega⟩ dX0_richest_14 (by decide) (fun h14 => ?_) (fun h14 => ?_)
        · skip
          refine r_iload_n (pc := 32) C dX0_richest_32 rfl 2 rfl ?_
          refine r_istore_n (pc := 33) C dX0_richest_33 rfl (by decide) [1, 0, 2] (lv' := [(0, .ref (gA g 0)), (1, .int (iI ((i : Int)))), (2, .int (iI ((i : Int))))]) rfl ?_
          refine r_iinc (pc := 34) C dX0_richest_34 2 rfl (by decide) [1, 2, 0] (lv' := [(0, .ref (gA g 0)), (1, .int (iI ((i : Int)))), (2, .int (iI ((i : Int) + 1)))]) rfl ?_
          refine r_goto (pc := 37) C 4 dX0_richest_37 (by decide) ?_
          exact ih4 (i + 1) _ _ (by omega) (by omega) (by first | rw [richF, if_pos (by omega)] | rw [richF, if_neg (by omega)]) (by omega)
        · skip
          refine r_aload_n (pc := 17) C dX0_richest_17 rfl 0 rfl ?_
          refine r_getR0 (pc := 18) C 4 (k' := 5) rfl O_0 (by decide) rfl t_111 dX0_richest_18 ?_
          refine r_iload_n (pc := 21) C dX0_richest_21 rfl 2 rfl ?_
          have hg := hG i (by omega)
          refine r_iald (pc := 22) C i A_5 (by omega) (by omega) dX0_richest_22 ?_
          refine r_aload_n (pc := 23) C dX0_richest_23 rfl 0 rfl ?_
          refine r_getR0 (pc := 24) C 4 (k' := 5) rfl O_0 (by decide) rfl t_111 dX0_richest_24 ?_
          refine r_iload_n (pc := 27) C dX0_richest_27 rfl 1 rfl ?_
          have hg2 := hG (richF (σ 5) i).toNat (by omega)
          refine r_iald (pc := 28) C ((richF (σ 5) i).toNat) A_5 (by omega) (by omega) dX0_richest_28 ?_
          refine r_icmp_le (pc := 29) C 34 ⟨by omega, by omega⟩ ⟨by omega, by omega⟩ dX0_richest_29 (by decide) (fun h29 => ?_) (fun h29 => ?_)
          · skip
            refine r_iinc (pc := 34) C dX0_richest_34 2 rfl (by decide) [1, 2, 0] (lv' := [(0, .ref (gA g 0)), (1, .int (iI (richF (σ 5) i))), (2, .int (iI ((i : Int) + 1)))]) rfl ?_
            refine r_goto (pc := 37) C 4 dX0_richest_37 (by decide) ?_
            exact ih4 (i + 1) _ _ (by omega) (by omega) (by first | rw [richF, if_pos (by omega)] | rw [richF, if_neg (by omega)]) (by omega)
          · skip
            refine r_iload_n (pc := 32) C dX0_richest_32 rfl 2 rfl ?_
            refine r_istore_n (pc := 33) C dX0_richest_33 rfl (by decide) [1, 0, 2] (lv' := [(0, .ref (gA g 0)), (1, .int (iI ((i : Int)))), (2, .int (iI ((i : Int))))]) rfl ?_
            refine r_iinc (pc := 34) C dX0_richest_34 2 rfl (by decide) [1, 2, 0] (lv' := [(0, .ref (gA g 0)), (1, .int (iI ((i : Int)))), (2, .int (iI ((i : Int) + 1)))]) rfl ?_
            refine r_goto (pc := 37) C 4 dX0_richest_37 (by decide) ?_
            exact ih4 (i + 1) _ _ (by omega) (by omega) (by first | rw [richF, if_pos (by omega)] | rw [richF, if_neg (by omega)]) (by omega)
  exact L4 _ 0 _ _ (Nat.lt_succ_self _) (by omega) (rfl) (rfl)
set_option maxHeartbeats 4000000 in
set_option maxRecDepth 100000 in
theorem c_allGoods_0 (g : Gt) (σ : Sg) (hn : 0 ≤ σ 0 7 ∧ σ 0 7 ≤ 8) : Mt g yX0_allGoods cX0_allGoods 3 (some FieldType.int) 0 [.ref (gA g 0)] σ (pI (sumF (σ 5) (σ 0 7).toNat) σ) := by
  refine mt_of (own := RX0) (by decide) rfl (Nat.le_of_ble_eq_true rfl) (fun E C => ?_)
  show J g E (pI (sumF (σ 5) (σ 0 7).toNat) σ) 3 0 [(0, .ref (gA g 0))] [] σ
  refine r_iconst (pc := 0) C dX0_allGoods_0 ?_
  refine r_istore_n (pc := 1) C dX0_allGoods_1 rfl (by decide) [1, 0] (lv' := [(0, .ref (gA g 0)), (1, .int (iI (0)))]) rfl ?_
  refine r_iconst (pc := 2) C dX0_allGoods_2 ?_
  refine r_istore_n (pc := 3) C dX0_allGoods_3 rfl (by decide) [1, 2, 0] (lv' := [(0, .ref (gA g 0)), (1, .int (iI (0))), (2, .int (iI (0)))]) rfl ?_
  have L4 : ∀ (n_ : Nat) (i : Nat) (x4_1 x4_2 : Int), (σ 0 7).toNat - i < n_ → ((i : Int) ≤ σ 0 7) → x4_1 = sumF (σ 5) i → x4_2 = (i : Int) → J g E (pI (sumF (σ 5) (σ 0 7).toNat) σ) 3 4 [(0, .ref (gA g 0)), (1, .int (iI (x4_1))), (2, .int (iI (x4_2)))] [] σ := by
    intro n_
    induction n_ with
    | zero => intro i x4_1 x4_2  hm_; exact absurd hm_ (Nat.not_lt_zero _)
    | succ n_ ih4 =>
      intro i x4_1 x4_2  hm4 hi4_0 e4_0 e4_1 
      subst e4_0 e4_1 
      refine r_iload_n (pc := 4) C dX0_allGoods_4 rfl 2 rfl ?_
      refine r_aload_n (pc := 5) C dX0_allGoods_5 rfl 0 rfl ?_
      refine r_getI0 (pc := 6) C 7 rfl O_0 (by decide) rfl t_119 dX0_allGoods_6 ?_
      refine r_icmp_ge (pc := 9) C 27 ⟨by omega, by omega⟩ ⟨by omega, by omega⟩ dX0_allGoods_9 (by decide) (fun h9 => ?_) (fun h9 => ?_)
      · skip
        refine r_iload_n (pc := 27) C dX0_allGoods_27 rfl 1 rfl ?_
        exact r_reti (pc := 28) C (by rw [show i = (σ 0 7).toNat by omega]) (rfl) dX0_allGoods_28
      · skip
        refine r_iload_n (pc := 12) C dX0_allGoods_12 rfl 1 rfl ?_
        refine r_aload_n (pc := 13) C dX0_allGoods_13 rfl 0 rfl ?_
        refine r_getR0 (pc := 14) C 4 (k' := 5) rfl O_0 (by decide) rfl t_111 dX0_allGoods_14 ?_
        refine r_iload_n (pc := 17) C dX0_allGoods_17 rfl 2 rfl ?_
        refine r_iald (pc := 18) C i A_5 (by omega) (by omega) dX0_allGoods_18 ?_
        refine r_iadd (pc := 19) C dX0_allGoods_19 ?_
        refine r_istore_n (pc := 20) C dX0_allGoods_20 rfl (by decide) [1, 0, 2] (lv' := [(0, .ref (gA g 0)), (1, .int (iI ((sumF (σ 5) i) + (σ 5 i)))), (2, .int (iI ((i : Int))))]) rfl ?_
        refine r_iinc (pc := 21) C dX0_allGoods_21 2 rfl (by decide) [1, 2, 0] (lv' := [(0, .ref (gA g 0)), (1, .int (iI ((sumF (σ 5) i) + (σ 5 i)))), (2, .int (iI ((i : Int) + 1)))]) rfl ?_
        refine r_goto (pc := 24) C 4 dX0_allGoods_24 (by decide) ?_
        exact ih4 (i + 1) _ _ (by omega) (by omega) (rfl) (by omega)
  exact L4 _ 0 _ _ (Nat.lt_succ_self _) (by omega) (rfl) (rfl)
set_option maxHeartbeats 4000000 in
set_option maxRecDepth 100000 in
theorem c_usedSpots_0 (g : Gt) (σ : Sg) (hn : 0 ≤ σ 0 7 ∧ σ 0 7 ≤ 8) (hP : ∀ j, j < 10 → -1 ≤ σ 7 j ∧ σ 7 j < σ 0 7) : Mt g yX0_usedSpots cX0_usedSpots 6 (some FieldType.int) 0 [.ref (gA g 0)] σ (pI (cntF (σ 7) 10) σ) := by
  refine mt_of (own := RX0) (by decide) rfl (Nat.le_of_ble_eq_true rfl) (fun E C => ?_)
  show J g E (pI (cntF (σ 7) 10) σ) 6 0 [(0, .ref (gA g 0))] [] σ
  refine r_iconst (pc := 0) C dX0_usedSpots_0 ?_
  refine r_istore_n (pc := 1) C dX0_usedSpots_1 rfl (by decide) [1, 0] (lv' := [(0, .ref (gA g 0)), (1, .int (iI (0)))]) rfl ?_
  refine r_aload_n (pc := 2) C dX0_usedSpots_2 rfl 0 rfl ?_
  refine r_getR0 (pc := 3) C 6 (k' := 7) rfl O_0 (by decide) rfl t_117 dX0_usedSpots_3 ?_
  refine r_astore_n (pc := 6) C dX0_usedSpots_6 rfl (by decide) [1, 2, 0] (lv' := [(0, .ref (gA g 0)), (1, .int (iI (0))), (2, .ref (gA g 7))]) rfl ?_
  refine r_aload_n (pc := 7) C dX0_usedSpots_7 rfl 2 rfl ?_
  refine r_alen (pc := 8) C A_7 dX0_usedSpots_8 ?_
  refine r_istore_n (pc := 9) C dX0_usedSpots_9 rfl (by decide) [1, 2, 3, 0] (lv' := [(0, .ref (gA g 0)), (1, .int (iI (0))), (2, .ref (gA g 7)), (3, .int (iI (((10 : Nat) : Int))))]) rfl ?_
  refine r_iconst (pc := 10) C dX0_usedSpots_10 ?_
  refine r_istore (pc := 11) C dX0_usedSpots_11 (by decide) [1, 2, 3, 4, 0] (lv' := [(0, .ref (gA g 0)), (1, .int (iI (0))), (2, .ref (gA g 7)), (3, .int (iI (((10 : Nat) : Int)))), (4, .int (iI (0)))]) rfl ?_
  have L13 : ∀ (n_ : Nat) (i : Nat) (x13_1 x13_4 : Int), 10 - i < n_ → (i ≤ 10) → x13_1 = cntF (σ 7) i → x13_4 = (i : Int) → J g E (pI (cntF (σ 7) 10) σ) 6 13 [(0, .ref (gA g 0)), (1, .int (iI (x13_1))), (2, .ref (gA g 7)), (3, .int (iI (((10 : Nat) : Int)))), (4, .int (iI (x13_4)))] [] σ := by
    intro n_
    induction n_ with
    | zero => intro i x13_1 x13_4  hm_; exact absurd hm_ (Nat.not_lt_zero _)
    | succ n_ ih13 =>
      intro i x13_1 x13_4  hm13 hi13_0 e13_0 e13_1 
      subst e13_0 e13_1 
      refine r_iload (pc := 13) C dX0_usedSpots_13 4 rfl ?_
      refine r_iload_n (pc := 15) C dX0_usedSpots_15 rfl 3 rfl ?_
      refine r_icmp_ge (pc := 16) C 40 ⟨by omega, by omega⟩ ⟨by omega, by omega⟩ dX0_usedSpots_16 (by decide) (fun h16 => ?_) (fun h16 => ?_)
      · skip
        refine r_iload_n (pc := 40) C dX0_usedSpots_40 rfl 1 rfl ?_
        exact r_reti (pc := 41) C (by rw [show i = 10 by omega]) (rfl) dX0_usedSpots_41
      · skip
        refine r_aload_n (pc := 19) C dX0_usedSpots_19 rfl 2 rfl ?_
        refine r_iload (pc := 20) C dX0_usedSpots_20 4 rfl ?_
        have hp := hP i (by omega)
        refine r_iald (pc := 22) C i A_7 (by omega) (by omega) dX0_usedSpots_22 ?_
        refine r_istore (pc := 23) C dX0_usedSpots_23 (by decide) [1, 2, 3, 4, 5, 0] (lv' := [(0, .ref (gA g 0)), (1, .int (iI (cntF (σ 7) i))), (2, .ref (gA g 7)), (3, .int (iI (((10 : Nat) : Int)))), (4, .int (iI ((i : Int)))), (5, .int (iI (σ 7 i)))]) rfl ?_
        refine r_iload (pc := 25) C dX0_usedSpots_25 5 rfl ?_
        refine r_iconst (pc := 27) C dX0_usedSpots_27 ?_
        refine r_icmp_eq (pc := 28) C 34 ⟨by omega, by omega⟩ ⟨by omega, by omega⟩ dX0_usedSpots_28 (by decide) (fun h28 => ?_) (fun h28 => ?_)
        · skip
          refine r_iinc (pc := 34) C dX0_usedSpots_34 4 rfl (by decide) [1, 2, 3, 4, 0, 5] (lv' := [(0, .ref (gA g 0)), (1, .int (iI (cntF (σ 7) i))), (2, .ref (gA g 7)), (3, .int (iI (((10 : Nat) : Int)))), (4, .int (iI ((i : Int) + 1))), (5, .int (iI (σ 7 i)))]) rfl ?_
          refine r_goto (pc := 37) C 13 dX0_usedSpots_37 (by decide) ?_
          refine r_lv [0, 1, 2, 3, 4] (lv' := [(0, .ref (gA g 0)), (1, .int (iI (cntF (σ 7) i))), (2, .ref (gA g 7)), (3, .int (iI (((10 : Nat) : Int)))), (4, .int (iI ((i : Int) + 1)))]) rfl ?_
          exact ih13 (i + 1) _ _ (by omega) (by omega) (by first | rw [cntF, if_pos (by assumption)] | rw [cntF, if_neg (by assumption)]) (by omega)
        · skip
          refine r_iinc (pc := 31) C dX0_usedSpots_31 1 rfl (by decide) [1, 0, 2, 3, 4, 5] (lv' := [(0, .ref (gA g 0)), (1, .int (iI ((cntF (σ 7) i) + 1))), (2, .ref (gA g 7)), (3, .int (iI (((10 : Nat) : Int)))), (4, .int (iI ((i : Int)))), (5, .int (iI (σ 7 i)))]) rfl ?_
          refine r_iinc (pc := 34) C dX0_usedSpots_34 4 rfl (by decide) [1, 2, 3, 4, 0, 5] (lv' := [(0, .ref (gA g 0)), (1, .int (iI ((cntF (σ 7) i) + 1))), (2, .ref (gA g 7)), (3, .int (iI (((10 : Nat) : Int)))), (4, .int (iI ((i : Int) + 1))), (5, .int (iI (σ 7 i)))]) rfl ?_
          refine r_goto (pc := 37) C 13 dX0_usedSpots_37 (by decide) ?_
          refine r_lv [0, 1, 2, 3, 4] (lv' := [(0, .ref (gA g 0)), (1, .int (iI ((cntF (σ 7) i) + 1))), (2, .ref (gA g 7)), (3, .int (iI (((10 : Nat) : Int)))), (4, .int (iI ((i : Int) + 1)))]) rfl ?_
          exact ih13 (i + 1) _ _ (by omega) (by omega) (by first | rw [cntF, if_pos (by assumption)] | rw [cntF, if_neg (by assumption)]) (by omega)
  exact L13 _ 0 _ _ (Nat.lt_succ_self _) (by omega) (rfl) (rfl)
set_option maxHeartbeats 4000000 in
set_option maxRecDepth 100000 in
theorem c_blowAway_0 (g : Gt) (f : Nat) (hf : f < 12) (s : Int) (hs : -11 ≤ s ∧ s ≤ 11) (σ : Sg) (hD : rgD (σ 1)) : Mt g yX0_blowAway cX0_blowAway 5 (some FieldType.int) 1 [.ref (gA g 0), .int (iI ((f : Int))), .int (iI (s))] σ (pI (σ 1 f) (us σ 1 (bwD (σ 1) f s))) := by
  have hd := hD f hf
  have h1 : rgD (up (σ 1) f 0) := rgD_up hD (by omega)
  have h2 := h1 (md ((f : Int) + s)) (md_lt _)
  have h3 : ((f : Int) + s) % 12 = ((md ((f : Int) + s) : Nat) : Int) := by unfold md; omega
  have h4 := md_lt ((f : Int) + s)
  refine mt_of (own := RX0) (by decide) rfl (Nat.le_of_ble_eq_true rfl) (fun E C => ?_)
  show J g E (pI (σ 1 f) (us σ 1 (bwD (σ 1) f s))) 5 0 [(0, .ref (gA g 0)), (1, .int (iI ((f : Int)))), (2, .int (iI (s)))] [] σ
  refine r_aload_n (pc := 0) C dX0_blowAway_0 rfl 0 rfl ?_
  refine r_getR0 (pc := 1) C 0 (k' := 1) rfl O_0 (by decide) rfl t_103 dX0_blowAway_1 ?_
  refine r_iload_n (pc := 4) C dX0_blowAway_4 rfl 1 rfl ?_
  refine r_iald (pc := 5) C f A_1 (by omega) (by omega) dX0_blowAway_5 ?_
  refine r_istore_n (pc := 6) C dX0_blowAway_6 rfl (by decide) [1, 2, 3, 0] (lv' := [(0, .ref (gA g 0)), (1, .int (iI ((f : Int)))), (2, .int (iI (s))), (3, .int (iI (σ 1 f)))]) rfl ?_
  refine r_iload_n (pc := 7) C dX0_blowAway_7 rfl 1 rfl ?_
  refine r_iload_n (pc := 8) C dX0_blowAway_8 rfl 2 rfl ?_
  refine r_iadd (pc := 9) C dX0_blowAway_9 ?_
  refine r_bipush (pc := 10) C dX0_blowAway_10 (by decide) ?_
  refine r_cSi (pc := 12) C (c_floorMod g ((f : Int) + s) ⟨by omega, by omega⟩ σ) yJ9_floorMod_7cf53_w rfl t_344 ⟨by decide, by decide⟩ (Nat.le_of_ble_eq_true rfl) rfl dX0_blowAway_12 ?_
  refine r_istore (pc := 15) C dX0_blowAway_15 (by decide) [1, 2, 3, 4, 0] (lv' := [(0, .ref (gA g 0)), (1, .int (iI ((f : Int)))), (2, .int (iI (s))), (3, .int (iI (σ 1 f))), (4, .int (iI (((f : Int) + s) % 12)))]) rfl ?_
  refine r_aload_n (pc := 17) C dX0_blowAway_17 rfl 0 rfl ?_
  refine r_getR0 (pc := 18) C 0 (k' := 1) rfl O_0 (by decide) rfl t_103 dX0_blowAway_18 ?_
  refine r_iload_n (pc := 21) C dX0_blowAway_21 rfl 1 rfl ?_
  refine r_iconst (pc := 22) C dX0_blowAway_22 ?_
  refine r_iast (pc := 23) C f A_1 (by omega) (by omega) dX0_blowAway_23 ?_
  refine r_aload_n (pc := 24) C dX0_blowAway_24 rfl 0 rfl ?_
  refine r_getR0 (pc := 25) C 0 (k' := 1) rfl O_0 (by decide) rfl t_103 dX0_blowAway_25 ?_
  refine r_iload (pc := 28) C dX0_blowAway_28 4 rfl ?_
  refine r_sipush (pc := 30) C dX0_blowAway_30 (by decide) ?_
  refine r_aload_n (pc := 33) C dX0_blowAway_33 rfl 0 rfl ?_
  refine r_getR0 (pc := 34) C 0 (k' := 1) rfl O_0 (by decide) rfl t_103 dX0_blowAway_34 ?_
  refine r_iload (pc := 37) C dX0_blowAway_37 4 rfl ?_
  refine r_iald (pc := 39) C (md ((f : Int) + s)) A_1 (by omega) (by omega) dX0_blowAway_39 ?_
  refine r_top (show (wr σ 1 f 0) 1 (md ((f : Int) + s)) = up (σ 1) f 0 (md ((f : Int) + s)) from by rw [wr_s]) ?_
  refine r_iload_n (pc := 40) C dX0_blowAway_40 rfl 3 rfl ?_
  refine r_iadd (pc := 41) C dX0_blowAway_41 ?_
  refine r_min (pc := 42) C ⟨by omega, by omega⟩ ⟨by omega, by omega⟩ (by decide) (Nat.le_of_ble_eq_true rfl) t_347 dX0_blowAway_42 ?_
  refine r_iast (pc := 45) C (md ((f : Int) + s)) A_1 (by omega) (by omega) dX0_blowAway_45 ?_
  refine r_iload_n (pc := 46) C dX0_blowAway_46 rfl 3 rfl ?_
  exact r_reti (pc := 47) C (rfl) (by unfold wr; rw [us_s, us_us]; rfl) dX0_blowAway_47
set_option maxHeartbeats 4000000 in
set_option maxRecDepth 100000 in
theorem c_draw_0 (g : Gt) (σ : Sg) : Mt g yX0_draw cX0_draw 1 (some FieldType.int) 0 [.ref (gA g 0)] σ (pI (bushr (zz (σ 0 11)) 8) (wr σ 0 11 (zz (σ 0 11)))) := by
  refine mt_of (own := RX0) (by decide) rfl (Nat.le_of_ble_eq_true rfl) (fun E C => ?_)
  show J g E (pI (bushr (zz (σ 0 11)) 8) (wr σ 0 11 (zz (σ 0 11)))) 1 0 [(0, .ref (gA g 0))] [] σ
  refine r_aload_n (pc := 0) C dX0_draw_0 rfl 0 rfl ?_
  refine r_aload_n (pc := 1) C dX0_draw_1 rfl 0 rfl ?_
  refine r_getI0 (pc := 2) C 11 rfl O_0 (by decide) rfl t_130 dX0_draw_2 ?_
  refine r_ldc (pc := 5) C 1103515245 t_538 (by decide) dX0_draw_5 ?_
  refine r_imul (pc := 7) C dX0_draw_7 ?_
  refine r_sipush (pc := 8) C dX0_draw_8 (by decide) ?_
  refine r_iadd (pc := 11) C dX0_draw_11 ?_
  refine r_topI (show _ = iI (zz (σ 0 11)) from (iI_of _).symm) ?_
  skip
  refine r_put0 (pc := 12) C 11 rfl O_0 (by decide) rfl t_130 rfl (by decide +kernel) dX0_draw_12 ?_
  refine r_aload_n (pc := 15) C dX0_draw_15 rfl 0 rfl ?_
  refine r_getI0 (pc := 16) C 11 rfl O_0 (by decide) rfl t_130 dX0_draw_16 ?_
  refine r_top (wr_s2 _ _ _ _) ?_
  refine r_bipush (pc := 19) C dX0_draw_19 (by decide) ?_
  refine r_iushr (pc := 21) C dX0_draw_21 ?_
  exact r_reti (pc := 22) C (rfl) (rfl) dX0_draw_22
set_option maxHeartbeats 4000000 in
set_option maxRecDepth 100000 in
theorem c_isHeldLike (g : Gt) (σ : Sg) (hn : 0 ≤ σ 0 7 ∧ σ 0 7 ≤ 8) (hM : rgM (σ 6)) (hn8 : 0 ≤ σ 8 7 ∧ σ 8 7 ≤ 8) (hM8 : rgM (σ 14)) : Mt g yX0_isHeldLike cX0_isHeldLike 3 (some FieldType.boolean) 1 [.ref (gA g 8), .ref (gA g 0)] σ (pI (b01 (sameH (σ 8 7) (σ 14) (σ 0 7) (σ 6) = true)) σ) := by
  refine mt_of (own := RX0) (by decide) rfl (Nat.le_of_ble_eq_true rfl) (fun E C => ?_)
  show J g E (pI (b01 (sameH (σ 8 7) (σ 14) (σ 0 7) (σ 6) = true)) σ) 3 0 [(0, .ref (gA g 8)), (1, .ref (gA g 0))] [] σ
  refine r_iconst (pc := 0) C dX0_isHeldLike_0 ?_
  refine r_istore_n (pc := 1) C dX0_isHeldLike_1 rfl (by decide) [1, 2, 0] (lv' := [(0, .ref (gA g 8)), (1, .ref (gA g 0)), (2, .int (iI (0)))]) rfl ?_
  have L2 : ∀ (n_ : Nat) (i : Nat) (x2_2 : Int), 12 - i < n_ → (i ≤ 12) → (∀ f, f < i → holder (σ 8 7) (σ 14) f = holder (σ 0 7) (σ 6) f) → x2_2 = (i : Int) → J g E (pI (b01 (sameH (σ 8 7) (σ 14) (σ 0 7) (σ 6) = true)) σ) 3 2 [(0, .ref (gA g 8)), (1, .ref (gA g 0)), (2, .int (iI (x2_2)))] [] σ := by
    intro n_
    induction n_ with
    | zero => intro i x2_2  hm_; exact absurd hm_ (Nat.not_lt_zero _)
    | succ n_ ih2 =>
      intro i x2_2  hm2 hi2_0 hi2_1 e2_0 
      subst e2_0 
      have hh := holder_rng (σ 0 7) (σ 6) i hn.1
      have hh8 := holder_rng (σ 8 7) (σ 14) i hn8.1
      refine r_iload_n (pc := 2) C dX0_isHeldLike_2 rfl 2 rfl ?_
      refine r_bipush (pc := 3) C dX0_isHeldLike_3 (by decide) ?_
      refine r_icmp_ge (pc := 5) C 29 ⟨by omega, by omega⟩ ⟨by omega, by omega⟩ dX0_isHeldLike_5 (by decide) (fun h5 => ?_) (fun h5 => ?_)
      · skip
        refine r_iconst (pc := 29) C dX0_isHeldLike_29 ?_
        exact r_retz (pc := 30) C (Or.inr rfl) (b01_1 (sameH_iff.mpr (fun f hf => hi2_1 f (by omega)))) (rfl) dX0_isHeldLike_30
      · skip
        refine r_aload_n (pc := 8) C dX0_isHeldLike_8 rfl 0 rfl ?_
        refine r_iload_n (pc := 9) C dX0_isHeldLike_9 rfl 2 rfl ?_
        refine r_cVi (pc := 10) C (c_holderOf_8 g i (by omega) σ hn8 hM8) yX0_holderOf_w O_8 rfl rfl t_272 ⟨by decide, by decide⟩ (Nat.le_of_ble_eq_true rfl) rfl dX0_isHeldLike_10 ?_
        refine r_aload_n (pc := 13) C dX0_isHeldLike_13 rfl 1 rfl ?_
        refine r_iload_n (pc := 14) C dX0_isHeldLike_14 rfl 2 rfl ?_
        refine r_cVi (pc := 15) C (c_holderOf_0 g i (by omega) σ hn hM) yX0_holderOf_w O_0 rfl rfl t_272 ⟨by decide, by decide⟩ (Nat.le_of_ble_eq_true rfl) rfl dX0_isHeldLike_15 ?_
        refine r_icmp_eq (pc := 18) C 23 ⟨by omega, by omega⟩ ⟨by omega, by omega⟩ dX0_isHeldLike_18 (by decide) (fun h18 => ?_) (fun h18 => ?_)
        · skip
          refine r_iinc (pc := 23) C dX0_isHeldLike_23 2 rfl (by decide) [1, 2, 0] (lv' := [(0, .ref (gA g 8)), (1, .ref (gA g 0)), (2, .int (iI ((i : Int) + 1)))]) rfl ?_
          refine r_goto (pc := 26) C 2 dX0_isHeldLike_26 (by decide) ?_
          exact ih2 (i + 1) _ (by omega) (by omega) (by exact fun f hf => if q : f = i then by subst q; assumption else hi2_1 f (by omega)) (by omega)
        · skip
          refine r_iconst (pc := 21) C dX0_isHeldLike_21 ?_
          exact r_retz (pc := 22) C (Or.inl rfl) (b01_0 (fun q => h18 (sameH_iff.mp q i (by omega)))) (rfl) dX0_isHeldLike_22
  exact L2 _ 0 _ (Nat.lt_succ_self _) (by omega) (by intro f hf; omega) (rfl)
def bc_8_0 (σ : Sg) : Sg := (us (us (us (us (us (us (us σ 9 (σ 1)) 11 (σ 3)) 12 (σ 4)) 13 (σ 5)) 14 (σ 6)) 15 (σ 7)) 8 (σ 0))
set_option maxHeartbeats 4000000 in
set_option maxRecDepth 100000 in
theorem c_become_8_0 (g : Gt) (σ : Sg) : Mt g yX0_become cX0_become 2 none 1 [.ref (gA g 8), .ref (gA g 0)] σ (pV (bc_8_0 σ)) := by
  refine mt_of (own := RX0) (by decide) rfl (Nat.le_of_ble_eq_true rfl) (fun E C => ?_)
  show J g E (pV (bc_8_0 σ)) 2 0 [(0, .ref (gA g 8)), (1, .ref (gA g 0))] [] σ
  refine r_aload_n (pc := 0) C dX0_become_0 rfl 1 rfl ?_
  refine r_getR0 (pc := 1) C 0 (k' := 1) rfl O_0 (by decide) rfl t_103 dX0_become_1 ?_
  refine r_iconst (pc := 4) C dX0_become_4 ?_
  refine r_aload_n (pc := 5) C dX0_become_5 rfl 0 rfl ?_
  refine r_getR0 (pc := 6) C 0 (k' := 9) rfl O_8 (by decide) rfl t_103 dX0_become_6 ?_
  refine r_iconst (pc := 9) C dX0_become_9 ?_
  refine r_bipush (pc := 10) C dX0_become_10 (by decide) ?_
  refine r_copy (pc := 12) C 0 0 12 A_1 A_9 (by omega) (by omega) (by omega) (by omega) (by omega) (by decide) (Nat.le_of_ble_eq_true rfl) t_425 dX0_become_12 ?_
  refine r_aload_n (pc := 15) C dX0_become_15 rfl 1 rfl ?_
  refine r_getR0 (pc := 16) C 2 (k' := 3) rfl O_0 (by decide) rfl t_107 dX0_become_16 ?_
  refine r_iconst (pc := 19) C dX0_become_19 ?_
  refine r_aload_n (pc := 20) C dX0_become_20 rfl 0 rfl ?_
  refine r_getR0 (pc := 21) C 2 (k' := 11) rfl O_8 (by decide) rfl t_107 dX0_become_21 ?_
  refine r_iconst (pc := 24) C dX0_become_24 ?_
  refine r_bipush (pc := 25) C dX0_become_25 (by decide) ?_
  refine r_copy (pc := 27) C 0 0 8 A_3 A_11 (by omega) (by omega) (by omega) (by omega) (by omega) (by decide) (Nat.le_of_ble_eq_true rfl) t_425 dX0_become_27 ?_
  refine r_aload_n (pc := 30) C dX0_become_30 rfl 1 rfl ?_
  refine r_getR0 (pc := 31) C 3 (k' := 4) rfl O_0 (by decide) rfl t_109 dX0_become_31 ?_
  refine r_iconst (pc := 34) C dX0_become_34 ?_
  refine r_aload_n (pc := 35) C dX0_become_35 rfl 0 rfl ?_
  refine r_getR0 (pc := 36) C 3 (k' := 12) rfl O_8 (by decide) rfl t_109 dX0_become_36 ?_
  refine r_iconst (pc := 39) C dX0_become_39 ?_
  refine r_bipush (pc := 40) C dX0_become_40 (by decide) ?_
  refine r_copy (pc := 42) C 0 0 8 A_4 A_12 (by omega) (by omega) (by omega) (by omega) (by omega) (by decide) (Nat.le_of_ble_eq_true rfl) t_425 dX0_become_42 ?_
  refine r_aload_n (pc := 45) C dX0_become_45 rfl 1 rfl ?_
  refine r_getR0 (pc := 46) C 4 (k' := 5) rfl O_0 (by decide) rfl t_111 dX0_become_46 ?_
  refine r_iconst (pc := 49) C dX0_become_49 ?_
  refine r_aload_n (pc := 50) C dX0_become_50 rfl 0 rfl ?_
  refine r_getR0 (pc := 51) C 4 (k' := 13) rfl O_8 (by decide) rfl t_111 dX0_become_51 ?_
  refine r_iconst (pc := 54) C dX0_become_54 ?_
  refine r_bipush (pc := 55) C dX0_become_55 (by decide) ?_
  refine r_copy (pc := 57) C 0 0 8 A_5 A_13 (by omega) (by omega) (by omega) (by omega) (by omega) (by decide) (Nat.le_of_ble_eq_true rfl) t_425 dX0_become_57 ?_
  refine r_aload_n (pc := 60) C dX0_become_60 rfl 1 rfl ?_
  refine r_getR0 (pc := 61) C 5 (k' := 6) rfl O_0 (by decide) rfl t_114 dX0_become_61 ?_
  refine r_iconst (pc := 64) C dX0_become_64 ?_
  refine r_aload_n (pc := 65) C dX0_become_65 rfl 0 rfl ?_
  refine r_getR0 (pc := 66) C 5 (k' := 14) rfl O_8 (by decide) rfl t_114 dX0_become_66 ?_
  refine r_iconst (pc := 69) C dX0_become_69 ?_
  refine r_bipush (pc := 70) C dX0_become_70 (by decide) ?_
  refine r_copy (pc := 72) C 0 0 96 A_6 A_14 (by omega) (by omega) (by omega) (by omega) (by omega) (by decide) (Nat.le_of_ble_eq_true rfl) t_425 dX0_become_72 ?_
  refine r_aload_n (pc := 75) C dX0_become_75 rfl 1 rfl ?_
  refine r_getR0 (pc := 76) C 6 (k' := 7) rfl O_0 (by decide) rfl t_117 dX0_become_76 ?_
  refine r_iconst (pc := 79) C dX0_become_79 ?_
  refine r_aload_n (pc := 80) C dX0_become_80 rfl 0 rfl ?_
  refine r_getR0 (pc := 81) C 6 (k' := 15) rfl O_8 (by decide) rfl t_117 dX0_become_81 ?_
  refine r_iconst (pc := 84) C dX0_become_84 ?_
  refine r_bipush (pc := 85) C dX0_become_85 (by decide) ?_
  refine r_copy (pc := 87) C 0 0 10 A_7 A_15 (by omega) (by omega) (by omega) (by omega) (by omega) (by decide) (Nat.le_of_ble_eq_true rfl) t_425 dX0_become_87 ?_
  refine r_aload_n (pc := 90) C dX0_become_90 rfl 0 rfl ?_
  refine r_aload_n (pc := 91) C dX0_become_91 rfl 1 rfl ?_
  refine r_getI0 (pc := 92) C 7 rfl O_0 (by decide) rfl t_119 dX0_become_92 ?_
  refine r_top ((us_o2 _ _ _ (by omega)).trans ((us_o2 _ _ _ (by omega)).trans ((us_o2 _ _ _ (by omega)).trans ((us_o2 _ _ _ (by omega)).trans ((us_o2 _ _ _ (by omega)).trans (us_o2 _ _ _ (by omega))))))) ?_
  refine r_put0 (pc := 95) C 7 rfl O_8 (by decide) rfl t_119 rfl (by decide +kernel) dX0_become_95 ?_
  refine r_aload_n (pc := 98) C dX0_become_98 rfl 0 rfl ?_
  refine r_aload_n (pc := 99) C dX0_become_99 rfl 1 rfl ?_
  refine r_getI0 (pc := 100) C 8 rfl O_0 (by decide) rfl t_122 dX0_become_100 ?_
  refine r_top ((wr_o2 _ _ _ _ (by omega)).trans ((us_o2 _ _ _ (by omega)).trans ((us_o2 _ _ _ (by omega)).trans ((us_o2 _ _ _ (by omega)).trans ((us_o2 _ _ _ (by omega)).trans ((us_o2 _ _ _ (by omega)).trans (us_o2 _ _ _ (by omega)))))))) ?_
  refine r_put0 (pc := 103) C 8 rfl O_8 (by decide) rfl t_122 rfl (by decide +kernel) dX0_become_103 ?_
  refine r_aload_n (pc := 106) C dX0_become_106 rfl 0 rfl ?_
  refine r_aload_n (pc := 107) C dX0_become_107 rfl 1 rfl ?_
  refine r_getI0 (pc := 108) C 9 rfl O_0 (by decide) rfl t_125 dX0_become_108 ?_
  refine r_top ((wr_o2 _ _ _ _ (by omega)).trans ((wr_o2 _ _ _ _ (by omega)).trans ((us_o2 _ _ _ (by omega)).trans ((us_o2 _ _ _ (by omega)).trans ((us_o2 _ _ _ (by omega)).trans ((us_o2 _ _ _ (by omega)).trans ((us_o2 _ _ _ (by omega)).trans (us_o2 _ _ _ (by omega))))))))) ?_
  refine r_put0 (pc := 111) C 9 rfl O_8 (by decide) rfl t_125 rfl (by decide +kernel) dX0_become_111 ?_
  refine r_aload_n (pc := 114) C dX0_become_114 rfl 0 rfl ?_
  refine r_aload_n (pc := 115) C dX0_become_115 rfl 1 rfl ?_
  refine r_getI0 (pc := 116) C 10 rfl O_0 (by decide) rfl t_128 dX0_become_116 ?_
  refine r_top ((wr_o2 _ _ _ _ (by omega)).trans ((wr_o2 _ _ _ _ (by omega)).trans ((wr_o2 _ _ _ _ (by omega)).trans ((us_o2 _ _ _ (by omega)).trans ((us_o2 _ _ _ (by omega)).trans ((us_o2 _ _ _ (by omega)).trans ((us_o2 _ _ _ (by omega)).trans ((us_o2 _ _ _ (by omega)).trans (us_o2 _ _ _ (by omega)))))))))) ?_
  refine r_put0 (pc := 119) C 10 rfl O_8 (by decide) rfl t_128 rfl (by decide +kernel) dX0_become_119 ?_
  refine r_aload_n (pc := 122) C dX0_become_122 rfl 0 rfl ?_
  refine r_aload_n (pc := 123) C dX0_become_123 rfl 1 rfl ?_
  refine r_getI0 (pc := 124) C 11 rfl O_0 (by decide) rfl t_130 dX0_become_124 ?_
  refine r_top ((wr_o2 _ _ _ _ (by omega)).trans ((wr_o2 _ _ _ _ (by omega)).trans ((wr_o2 _ _ _ _ (by omega)).trans ((wr_o2 _ _ _ _ (by omega)).trans ((us_o2 _ _ _ (by omega)).trans ((us_o2 _ _ _ (by omega)).trans ((us_o2 _ _ _ (by omega)).trans ((us_o2 _ _ _ (by omega)).trans ((us_o2 _ _ _ (by omega)).trans (us_o2 _ _ _ (by omega))))))))))) ?_
  refine r_put0 (pc := 127) C 11 rfl O_8 (by decide) rfl t_130 rfl (by decide +kernel) dX0_become_127 ?_
  refine r_cong (bc_8_0 σ) ?_ ?_
  · intro k hk j hj
    by_cases h0 : k = 8
    · subst h0
      have hj2 := seen_room (by omega) hj
      rcases (show j = 7 ∨ j = 8 ∨ j = 9 ∨ j = 10 ∨ j = 11 by omega) with rfl | rfl | rfl | rfl | rfl <;> rfl
    by_cases h1 : k = 9
    · subst h1
      have hj2 : j < 12 := hj
      exact cpy_lt _ _ hj2
    by_cases h3 : k = 11
    · subst h3
      have hj2 : j < 8 := hj
      exact cpy_lt _ _ hj2
    by_cases h4 : k = 12
    · subst h4
      have hj2 : j < 8 := hj
      exact cpy_lt _ _ hj2
    by_cases h5 : k = 13
    · subst h5
      have hj2 : j < 8 := hj
      exact cpy_lt _ _ hj2
    by_cases h6 : k = 14
    · subst h6
      have hj2 : j < 96 := hj
      exact cpy_lt _ _ hj2
    by_cases h7 : k = 15
    · subst h7
      have hj2 : j < 10 := hj
      exact cpy_lt _ _ hj2
    simp [bc_8_0, us, wr, h0, h1, h3, h4, h5, h6, h7]
  exact r_retv (pc := 130) C (rfl) dX0_become_130
def bc_16_0 (σ : Sg) : Sg := (us (us (us (us (us (us (us σ 17 (σ 1)) 19 (σ 3)) 20 (σ 4)) 21 (σ 5)) 22 (σ 6)) 23 (σ 7)) 16 (σ 0))
set_option maxHeartbeats 4000000 in
set_option maxRecDepth 100000 in
theorem c_become_16_0 (g : Gt) (σ : Sg) : Mt g yX0_become cX0_become 2 none 1 [.ref (gA g 16), .ref (gA g 0)] σ (pV (bc_16_0 σ)) := by
  refine mt_of (own := RX0) (by decide) rfl (Nat.le_of_ble_eq_true rfl) (fun E C => ?_)
  show J g E (pV (bc_16_0 σ)) 2 0 [(0, .ref (gA g 16)), (1, .ref (gA g 0))] [] σ
  refine r_aload_n (pc := 0) C dX0_become_0 rfl 1 rfl ?_
  refine r_getR0 (pc := 1) C 0 (k' := 1) rfl O_0 (by decide) rfl t_103 dX0_become_1 ?_
  refine r_iconst (pc := 4) C dX0_become_4 ?_
  refine r_aload_n (pc := 5) C dX0_become_5 rfl 0 rfl ?_
  refine r_getR0 (pc := 6) C 0 (k' := 17) rfl O_16 (by decide) rfl t_103 dX0_become_6 ?_
  refine r_iconst (pc := 9) C dX0_become_9 ?_
  refine r_bipush (pc := 10) C dX0_become_10 (by decide) ?_
  refine r_copy (pc := 12) C 0 0 12 A_1 A_17 (by omega) (by omega) (by omega) (by omega) (by omega) (by decide) (Nat.le_of_ble_eq_true rfl) t_425 dX0_become_12 ?_
  refine r_aload_n (pc := 15) C dX0_become_15 rfl 1 rfl ?_
  refine r_getR0 (pc := 16) C 2 (k' := 3) rfl O_0 (by decide) rfl t_107 dX0_become_16 ?_
  refine r_iconst (pc := 19) C dX0_become_19 ?_
  refine r_aload_n (pc := 20) C dX0_become_20 rfl 0 rfl ?_
  refine r_getR0 (pc := 21) C 2 (k' := 19) rfl O_16 (by decide) rfl t_107 dX0_become_21 ?_
  refine r_iconst (pc := 24) C dX0_become_24 ?_
  refine r_bipush (pc := 25) C dX0_become_25 (by decide) ?_
  refine r_copy (pc := 27) C 0 0 8 A_3 A_19 (by omega) (by omega) (by omega) (by omega) (by omega) (by decide) (Nat.le_of_ble_eq_true rfl) t_425 dX0_become_27 ?_
  refine r_aload_n (pc := 30) C dX0_become_30 rfl 1 rfl ?_
  refine r_getR0 (pc := 31) C 3 (k' := 4) rfl O_0 (by decide) rfl t_109 dX0_become_31 ?_
  refine r_iconst (pc := 34) C dX0_become_34 ?_
  refine r_aload_n (pc := 35) C dX0_become_35 rfl 0 rfl ?_
  refine r_getR0 (pc := 36) C 3 (k' := 20) rfl O_16 (by decide) rfl t_109 dX0_become_36 ?_
  refine r_iconst (pc := 39) C dX0_become_39 ?_
  refine r_bipush (pc := 40) C dX0_become_40 (by decide) ?_
  refine r_copy (pc := 42) C 0 0 8 A_4 A_20 (by omega) (by omega) (by omega) (by omega) (by omega) (by decide) (Nat.le_of_ble_eq_true rfl) t_425 dX0_become_42 ?_
  refine r_aload_n (pc := 45) C dX0_become_45 rfl 1 rfl ?_
  refine r_getR0 (pc := 46) C 4 (k' := 5) rfl O_0 (by decide) rfl t_111 dX0_become_46 ?_
  refine r_iconst (pc := 49) C dX0_become_49 ?_
  refine r_aload_n (pc := 50) C dX0_become_50 rfl 0 rfl ?_
  refine r_getR0 (pc := 51) C 4 (k' := 21) rfl O_16 (by decide) rfl t_111 dX0_become_51 ?_
  refine r_iconst (pc := 54) C dX0_become_54 ?_
  refine r_bipush (pc := 55) C dX0_become_55 (by decide) ?_
  refine r_copy (pc := 57) C 0 0 8 A_5 A_21 (by omega) (by omega) (by omega) (by omega) (by omega) (by decide) (Nat.le_of_ble_eq_true rfl) t_425 dX0_become_57 ?_
  refine r_aload_n (pc := 60) C dX0_become_60 rfl 1 rfl ?_
  refine r_getR0 (pc := 61) C 5 (k' := 6) rfl O_0 (by decide) rfl t_114 dX0_become_61 ?_
  refine r_iconst (pc := 64) C dX0_become_64 ?_
  refine r_aload_n (pc := 65) C dX0_become_65 rfl 0 rfl ?_
  refine r_getR0 (pc := 66) C 5 (k' := 22) rfl O_16 (by decide) rfl t_114 dX0_become_66 ?_
  refine r_iconst (pc := 69) C dX0_become_69 ?_
  refine r_bipush (pc := 70) C dX0_become_70 (by decide) ?_
  refine r_copy (pc := 72) C 0 0 96 A_6 A_22 (by omega) (by omega) (by omega) (by omega) (by omega) (by decide) (Nat.le_of_ble_eq_true rfl) t_425 dX0_become_72 ?_
  refine r_aload_n (pc := 75) C dX0_become_75 rfl 1 rfl ?_
  refine r_getR0 (pc := 76) C 6 (k' := 7) rfl O_0 (by decide) rfl t_117 dX0_become_76 ?_
  refine r_iconst (pc := 79) C dX0_become_79 ?_
  refine r_aload_n (pc := 80) C dX0_become_80 rfl 0 rfl ?_
  refine r_getR0 (pc := 81) C 6 (k' := 23) rfl O_16 (by decide) rfl t_117 dX0_become_81 ?_
  refine r_iconst (pc := 84) C dX0_become_84 ?_
  refine r_bipush (pc := 85) C dX0_become_85 (by decide) ?_
  refine r_copy (pc := 87) C 0 0 10 A_7 A_23 (by omega) (by omega) (by omega) (by omega) (by omega) (by decide) (Nat.le_of_ble_eq_true rfl) t_425 dX0_become_87 ?_
  refine r_aload_n (pc := 90) C dX0_become_90 rfl 0 rfl ?_
  refine r_aload_n (pc := 91) C dX0_become_91 rfl 1 rfl ?_
  refine r_getI0 (pc := 92) C 7 rfl O_0 (by decide) rfl t_119 dX0_become_92 ?_
  refine r_top ((us_o2 _ _ _ (by omega)).trans ((us_o2 _ _ _ (by omega)).trans ((us_o2 _ _ _ (by omega)).trans ((us_o2 _ _ _ (by omega)).trans ((us_o2 _ _ _ (by omega)).trans (us_o2 _ _ _ (by omega))))))) ?_
  refine r_put0 (pc := 95) C 7 rfl O_16 (by decide) rfl t_119 rfl (by decide +kernel) dX0_become_95 ?_
  refine r_aload_n (pc := 98) C dX0_become_98 rfl 0 rfl ?_
  refine r_aload_n (pc := 99) C dX0_become_99 rfl 1 rfl ?_
  refine r_getI0 (pc := 100) C 8 rfl O_0 (by decide) rfl t_122 dX0_become_100 ?_
  refine r_top ((wr_o2 _ _ _ _ (by omega)).trans ((us_o2 _ _ _ (by omega)).trans ((us_o2 _ _ _ (by omega)).trans ((us_o2 _ _ _ (by omega)).trans ((us_o2 _ _ _ (by omega)).trans ((us_o2 _ _ _ (by omega)).trans (us_o2 _ _ _ (by omega)))))))) ?_
  refine r_put0 (pc := 103) C 8 rfl O_16 (by decide) rfl t_122 rfl (by decide +kernel) dX0_become_103 ?_
  refine r_aload_n (pc := 106) C dX0_become_106 rfl 0 rfl ?_
  refine r_aload_n (pc := 107) C dX0_become_107 rfl 1 rfl ?_
  refine r_getI0 (pc := 108) C 9 rfl O_0 (by decide) rfl t_125 dX0_become_108 ?_
  refine r_top ((wr_o2 _ _ _ _ (by omega)).trans ((wr_o2 _ _ _ _ (by omega)).trans ((us_o2 _ _ _ (by omega)).trans ((us_o2 _ _ _ (by omega)).trans ((us_o2 _ _ _ (by omega)).trans ((us_o2 _ _ _ (by omega)).trans ((us_o2 _ _ _ (by omega)).trans (us_o2 _ _ _ (by omega))))))))) ?_
  refine r_put0 (pc := 111) C 9 rfl O_16 (by decide) rfl t_125 rfl (by decide +kernel) dX0_become_111 ?_
  refine r_aload_n (pc := 114) C dX0_become_114 rfl 0 rfl ?_
  refine r_aload_n (pc := 115) C dX0_become_115 rfl 1 rfl ?_
  refine r_getI0 (pc := 116) C 10 rfl O_0 (by decide) rfl t_128 dX0_become_116 ?_
  refine r_top ((wr_o2 _ _ _ _ (by omega)).trans ((wr_o2 _ _ _ _ (by omega)).trans ((wr_o2 _ _ _ _ (by omega)).trans ((us_o2 _ _ _ (by omega)).trans ((us_o2 _ _ _ (by omega)).trans ((us_o2 _ _ _ (by omega)).trans ((us_o2 _ _ _ (by omega)).trans ((us_o2 _ _ _ (by omega)).trans (us_o2 _ _ _ (by omega)))))))))) ?_
  refine r_put0 (pc := 119) C 10 rfl O_16 (by decide) rfl t_128 rfl (by decide +kernel) dX0_become_119 ?_
  refine r_aload_n (pc := 122) C dX0_become_122 rfl 0 rfl ?_
  refine r_aload_n (pc := 123) C dX0_become_123 rfl 1 rfl ?_
  refine r_getI0 (pc := 124) C 11 rfl O_0 (by decide) rfl t_130 dX0_become_124 ?_
  refine r_top ((wr_o2 _ _ _ _ (by omega)).trans ((wr_o2 _ _ _ _ (by omega)).trans ((wr_o2 _ _ _ _ (by omega)).trans ((wr_o2 _ _ _ _ (by omega)).trans ((us_o2 _ _ _ (by omega)).trans ((us_o2 _ _ _ (by omega)).trans ((us_o2 _ _ _ (by omega)).trans ((us_o2 _ _ _ (by omega)).trans ((us_o2 _ _ _ (by omega)).trans (us_o2 _ _ _ (by omega))))))))))) ?_
  refine r_put0 (pc := 127) C 11 rfl O_16 (by decide) rfl t_130 rfl (by decide +kernel) dX0_become_127 ?_
  refine r_cong (bc_16_0 σ) ?_ ?_
  · intro k hk j hj
    by_cases h0 : k = 16
    · subst h0
      have hj2 := seen_room (by omega) hj
      rcases (show j = 7 ∨ j = 8 ∨ j = 9 ∨ j = 10 ∨ j = 11 by omega) with rfl | rfl | rfl | rfl | rfl <;> rfl
    by_cases h1 : k = 17
    · subst h1
      have hj2 : j < 12 := hj
      exact cpy_lt _ _ hj2
    by_cases h3 : k = 19
    · subst h3
      have hj2 : j < 8 := hj
      exact cpy_lt _ _ hj2
    by_cases h4 : k = 20
    · subst h4
      have hj2 : j < 8 := hj
      exact cpy_lt _ _ hj2
    by_cases h5 : k = 21
    · subst h5
      have hj2 : j < 8 := hj
      exact cpy_lt _ _ hj2
    by_cases h6 : k = 22
    · subst h6
      have hj2 : j < 96 := hj
      exact cpy_lt _ _ hj2
    by_cases h7 : k = 23
    · subst h7
      have hj2 : j < 10 := hj
      exact cpy_lt _ _ hj2
    simp [bc_16_0, us, wr, h0, h1, h3, h4, h5, h6, h7]
  exact r_retv (pc := 130) C (rfl) dX0_become_130
def bc_0_8 (σ : Sg) : Sg := (us (us (us (us (us (us (us σ 1 (σ 9)) 3 (σ 11)) 4 (σ 12)) 5 (σ 13)) 6 (σ 14)) 7 (σ 15)) 0 (σ 8))
set_option maxHeartbeats 4000000 in
set_option maxRecDepth 100000 in
theorem c_become_0_8 (g : Gt) (σ : Sg) : Mt g yX0_become cX0_become 2 none 1 [.ref (gA g 0), .ref (gA g 8)] σ (pV (bc_0_8 σ)) := by
  refine mt_of (own := RX0) (by decide) rfl (Nat.le_of_ble_eq_true rfl) (fun E C => ?_)
  show J g E (pV (bc_0_8 σ)) 2 0 [(0, .ref (gA g 0)), (1, .ref (gA g 8))] [] σ
  refine r_aload_n (pc := 0) C dX0_become_0 rfl 1 rfl ?_
  refine r_getR0 (pc := 1) C 0 (k' := 9) rfl O_8 (by decide) rfl t_103 dX0_become_1 ?_
  refine r_iconst (pc := 4) C dX0_become_4 ?_
  refine r_aload_n (pc := 5) C dX0_become_5 rfl 0 rfl ?_
  refine r_getR0 (pc := 6) C 0 (k' := 1) rfl O_0 (by decide) rfl t_103 dX0_become_6 ?_
  refine r_iconst (pc := 9) C dX0_become_9 ?_
  refine r_bipush (pc := 10) C dX0_become_10 (by decide) ?_
  refine r_copy (pc := 12) C 0 0 12 A_9 A_1 (by omega) (by omega) (by omega) (by omega) (by omega) (by decide) (Nat.le_of_ble_eq_true rfl) t_425 dX0_become_12 ?_
  refine r_aload_n (pc := 15) C dX0_become_15 rfl 1 rfl ?_
  refine r_getR0 (pc := 16) C 2 (k' := 11) rfl O_8 (by decide) rfl t_107 dX0_become_16 ?_
  refine r_iconst (pc := 19) C dX0_become_19 ?_
  refine r_aload_n (pc := 20) C dX0_become_20 rfl 0 rfl ?_
  refine r_getR0 (pc := 21) C 2 (k' := 3) rfl O_0 (by decide) rfl t_107 dX0_become_21 ?_
  refine r_iconst (pc := 24) C dX0_become_24 ?_
  refine r_bipush (pc := 25) C dX0_become_25 (by decide) ?_
  refine r_copy (pc := 27) C 0 0 8 A_11 A_3 (by omega) (by omega) (by omega) (by omega) (by omega) (by decide) (Nat.le_of_ble_eq_true rfl) t_425 dX0_become_27 ?_
  refine r_aload_n (pc := 30) C dX0_become_30 rfl 1 rfl ?_
  refine r_getR0 (pc := 31) C 3 (k' := 12) rfl O_8 (by decide) rfl t_109 dX0_become_31 ?_
  refine r_iconst (pc := 34) C dX0_become_34 ?_
  refine r_aload_n (pc := 35) C dX0_become_35 rfl 0 rfl ?_
  refine r_getR0 (pc := 36) C 3 (k' := 4) rfl O_0 (by decide) rfl t_109 dX0_become_36 ?_
  refine r_iconst (pc := 39) C dX0_become_39 ?_
  refine r_bipush (pc := 40) C dX0_become_40 (by decide) ?_
  refine r_copy (pc := 42) C 0 0 8 A_12 A_4 (by omega) (by omega) (by omega) (by omega) (by omega) (by decide) (Nat.le_of_ble_eq_true rfl) t_425 dX0_become_42 ?_
  refine r_aload_n (pc := 45) C dX0_become_45 rfl 1 rfl ?_
  refine r_getR0 (pc := 46) C 4 (k' := 13) rfl O_8 (by decide) rfl t_111 dX0_become_46 ?_
  refine r_iconst (pc := 49) C dX0_become_49 ?_
  refine r_aload_n (pc := 50) C dX0_become_50 rfl 0 rfl ?_
  refine r_getR0 (pc := 51) C 4 (k' := 5) rfl O_0 (by decide) rfl t_111 dX0_become_51 ?_
  refine r_iconst (pc := 54) C dX0_become_54 ?_
  refine r_bipush (pc := 55) C dX0_become_55 (by decide) ?_
  refine r_copy (pc := 57) C 0 0 8 A_13 A_5 (by omega) (by omega) (by omega) (by omega) (by omega) (by decide) (Nat.le_of_ble_eq_true rfl) t_425 dX0_become_57 ?_
  refine r_aload_n (pc := 60) C dX0_become_60 rfl 1 rfl ?_
  refine r_getR0 (pc := 61) C 5 (k' := 14) rfl O_8 (by decide) rfl t_114 dX0_become_61 ?_
  refine r_iconst (pc := 64) C dX0_become_64 ?_
  refine r_aload_n (pc := 65) C dX0_become_65 rfl 0 rfl ?_
  refine r_getR0 (pc := 66) C 5 (k' := 6) rfl O_0 (by decide) rfl t_114 dX0_become_66 ?_
  refine r_iconst (pc := 69) C dX0_become_69 ?_
  refine r_bipush (pc := 70) C dX0_become_70 (by decide) ?_
  refine r_copy (pc := 72) C 0 0 96 A_14 A_6 (by omega) (by omega) (by omega) (by omega) (by omega) (by decide) (Nat.le_of_ble_eq_true rfl) t_425 dX0_become_72 ?_
  refine r_aload_n (pc := 75) C dX0_become_75 rfl 1 rfl ?_
  refine r_getR0 (pc := 76) C 6 (k' := 15) rfl O_8 (by decide) rfl t_117 dX0_become_76 ?_
  refine r_iconst (pc := 79) C dX0_become_79 ?_
  refine r_aload_n (pc := 80) C dX0_become_80 rfl 0 rfl ?_
  refine r_getR0 (pc := 81) C 6 (k' := 7) rfl O_0 (by decide) rfl t_117 dX0_become_81 ?_
  refine r_iconst (pc := 84) C dX0_become_84 ?_
  refine r_bipush (pc := 85) C dX0_become_85 (by decide) ?_
  refine r_copy (pc := 87) C 0 0 10 A_15 A_7 (by omega) (by omega) (by omega) (by omega) (by omega) (by decide) (Nat.le_of_ble_eq_true rfl) t_425 dX0_become_87 ?_
  refine r_aload_n (pc := 90) C dX0_become_90 rfl 0 rfl ?_
  refine r_aload_n (pc := 91) C dX0_become_91 rfl 1 rfl ?_
  refine r_getI0 (pc := 92) C 7 rfl O_8 (by decide) rfl t_119 dX0_become_92 ?_
  refine r_top ((us_o2 _ _ _ (by omega)).trans ((us_o2 _ _ _ (by omega)).trans ((us_o2 _ _ _ (by omega)).trans ((us_o2 _ _ _ (by omega)).trans ((us_o2 _ _ _ (by omega)).trans (us_o2 _ _ _ (by omega))))))) ?_
  refine r_put0 (pc := 95) C 7 rfl O_0 (by decide) rfl t_119 rfl (by decide +kernel) dX0_become_95 ?_
  refine r_aload_n (pc := 98) C dX0_become_98 rfl 0 rfl ?_
  refine r_aload_n (pc := 99) C dX0_become_99 rfl 1 rfl ?_
  refine r_getI0 (pc := 100) C 8 rfl O_8 (by decide) rfl t_122 dX0_become_100 ?_
  refine r_top ((wr_o2 _ _ _ _ (by omega)).trans ((us_o2 _ _ _ (by omega)).trans ((us_o2 _ _ _ (by omega)).trans ((us_o2 _ _ _ (by omega)).trans ((us_o2 _ _ _ (by omega)).trans ((us_o2 _ _ _ (by omega)).trans (us_o2 _ _ _ (by omega)))))))) ?_
  refine r_put0 (pc := 103) C 8 rfl O_0 (by decide) rfl t_122 rfl (by decide +kernel) dX0_become_103 ?_
  refine r_aload_n (pc := 106) C dX0_become_106 rfl 0 rfl ?_
  refine r_aload_n (pc := 107) C dX0_become_107 rfl 1 rfl ?_
  refine r_getI0 (pc := 108) C 9 rfl O_8 (by decide) rfl t_125 dX0_become_108 ?_
  refine r_top ((wr_o2 _ _ _ _ (by omega)).trans ((wr_o2 _ _ _ _ (by omega)).trans ((us_o2 _ _ _ (by omega)).trans ((us_o2 _ _ _ (by omega)).trans ((us_o2 _ _ _ (by omega)).trans ((us_o2 _ _ _ (by omega)).trans ((us_o2 _ _ _ (by omega)).trans (us_o2 _ _ _ (by omega))))))))) ?_
  refine r_put0 (pc := 111) C 9 rfl O_0 (by decide) rfl t_125 rfl (by decide +kernel) dX0_become_111 ?_
  refine r_aload_n (pc := 114) C dX0_become_114 rfl 0 rfl ?_
  refine r_aload_n (pc := 115) C dX0_become_115 rfl 1 rfl ?_
  refine r_getI0 (pc := 116) C 10 rfl O_8 (by decide) rfl t_128 dX0_become_116 ?_
  refine r_top ((wr_o2 _ _ _ _ (by omega)).trans ((wr_o2 _ _ _ _ (by omega)).trans ((wr_o2 _ _ _ _ (by omega)).trans ((us_o2 _ _ _ (by omega)).trans ((us_o2 _ _ _ (by omega)).trans ((us_o2 _ _ _ (by omega)).trans ((us_o2 _ _ _ (by omega)).trans ((us_o2 _ _ _ (by omega)).trans (us_o2 _ _ _ (by omega)))))))))) ?_
  refine r_put0 (pc := 119) C 10 rfl O_0 (by decide) rfl t_128 rfl (by decide +kernel) dX0_become_119 ?_
  refine r_aload_n (pc := 122) C dX0_become_122 rfl 0 rfl ?_
  refine r_aload_n (pc := 123) C dX0_become_123 rfl 1 rfl ?_
  refine r_getI0 (pc := 124) C 11 rfl O_8 (by decide) rfl t_130 dX0_become_124 ?_
  refine r_top ((wr_o2 _ _ _ _ (by omega)).trans ((wr_o2 _ _ _ _ (by omega)).trans ((wr_o2 _ _ _ _ (by omega)).trans ((wr_o2 _ _ _ _ (by omega)).trans ((us_o2 _ _ _ (by omega)).trans ((us_o2 _ _ _ (by omega)).trans ((us_o2 _ _ _ (by omega)).trans ((us_o2 _ _ _ (by omega)).trans ((us_o2 _ _ _ (by omega)).trans (us_o2 _ _ _ (by omega))))))))))) ?_
  refine r_put0 (pc := 127) C 11 rfl O_0 (by decide) rfl t_130 rfl (by decide +kernel) dX0_become_127 ?_
  refine r_cong (bc_0_8 σ) ?_ ?_
  · intro k hk j hj
    by_cases h0 : k = 0
    · subst h0
      have hj2 := seen_room (by omega) hj
      rcases (show j = 7 ∨ j = 8 ∨ j = 9 ∨ j = 10 ∨ j = 11 by omega) with rfl | rfl | rfl | rfl | rfl <;> rfl
    by_cases h1 : k = 1
    · subst h1
      have hj2 : j < 12 := hj
      exact cpy_lt _ _ hj2
    by_cases h3 : k = 3
    · subst h3
      have hj2 : j < 8 := hj
      exact cpy_lt _ _ hj2
    by_cases h4 : k = 4
    · subst h4
      have hj2 : j < 8 := hj
      exact cpy_lt _ _ hj2
    by_cases h5 : k = 5
    · subst h5
      have hj2 : j < 8 := hj
      exact cpy_lt _ _ hj2
    by_cases h6 : k = 6
    · subst h6
      have hj2 : j < 96 := hj
      exact cpy_lt _ _ hj2
    by_cases h7 : k = 7
    · subst h7
      have hj2 : j < 10 := hj
      exact cpy_lt _ _ hj2
    simp [bc_0_8, us, wr, h0, h1, h3, h4, h5, h6, h7]
  exact r_retv (pc := 130) C (rfl) dX0_become_130
def bc_0_16 (σ : Sg) : Sg := (us (us (us (us (us (us (us σ 1 (σ 17)) 3 (σ 19)) 4 (σ 20)) 5 (σ 21)) 6 (σ 22)) 7 (σ 23)) 0 (σ 16))
set_option maxHeartbeats 4000000 in
set_option maxRecDepth 100000 in
theorem c_become_0_16 (g : Gt) (σ : Sg) : Mt g yX0_become cX0_become 2 none 1 [.ref (gA g 0), .ref (gA g 16)] σ (pV (bc_0_16 σ)) := by
  refine mt_of (own := RX0) (by decide) rfl (Nat.le_of_ble_eq_true rfl) (fun E C => ?_)
  show J g E (pV (bc_0_16 σ)) 2 0 [(0, .ref (gA g 0)), (1, .ref (gA g 16))] [] σ
  refine r_aload_n (pc := 0) C dX0_become_0 rfl 1 rfl ?_
  refine r_getR0 (pc := 1) C 0 (k' := 17) rfl O_16 (by decide) rfl t_103 dX0_become_1 ?_
  refine r_iconst (pc := 4) C dX0_become_4 ?_
  refine r_aload_n (pc := 5) C dX0_become_5 rfl 0 rfl ?_
  refine r_getR0 (pc := 6) C 0 (k' := 1) rfl O_0 (by decide) rfl t_103 dX0_become_6 ?_
  refine r_iconst (pc := 9) C dX0_become_9 ?_
  refine r_bipush (pc := 10) C dX0_become_10 (by decide) ?_
  refine r_copy (pc := 12) C 0 0 12 A_17 A_1 (by omega) (by omega) (by omega) (by omega) (by omega) (by decide) (Nat.le_of_ble_eq_true rfl) t_425 dX0_become_12 ?_
  refine r_aload_n (pc := 15) C dX0_become_15 rfl 1 rfl ?_
  refine r_getR0 (pc := 16) C 2 (k' := 19) rfl O_16 (by decide) rfl t_107 dX0_become_16 ?_
  refine r_iconst (pc := 19) C dX0_become_19 ?_
  refine r_aload_n (pc := 20) C dX0_become_20 rfl 0 rfl ?_
  refine r_getR0 (pc := 21) C 2 (k' := 3) rfl O_0 (by decide) rfl t_107 dX0_become_21 ?_
  refine r_iconst (pc := 24) C dX0_become_24 ?_
  refine r_bipush (pc := 25) C dX0_become_25 (by decide) ?_
  refine r_copy (pc := 27) C 0 0 8 A_19 A_3 (by omega) (by omega) (by omega) (by omega) (by omega) (by decide) (Nat.le_of_ble_eq_true rfl) t_425 dX0_become_27 ?_
  refine r_aload_n (pc := 30) C dX0_become_30 rfl 1 rfl ?_
  refine r_getR0 (pc := 31) C 3 (k' := 20) rfl O_16 (by decide) rfl t_109 dX0_become_31 ?_
  refine r_iconst (pc := 34) C dX0_become_34 ?_
  refine r_aload_n (pc := 35) C dX0_become_35 rfl 0 rfl ?_
  refine r_getR0 (pc := 36) C 3 (k' := 4) rfl O_0 (by decide) rfl t_109 dX0_become_36 ?_
  refine r_iconst (pc := 39) C dX0_become_39 ?_
  refine r_bipush (pc := 40) C dX0_become_40 (by decide) ?_
  refine r_copy (pc := 42) C 0 0 8 A_20 A_4 (by omega) (by omega) (by omega) (by omega) (by omega) (by decide) (Nat.le_of_ble_eq_true rfl) t_425 dX0_become_42 ?_
  refine r_aload_n (pc := 45) C dX0_become_45 rfl 1 rfl ?_
  refine r_getR0 (pc := 46) C 4 (k' := 21) rfl O_16 (by decide) rfl t_111 dX0_become_46 ?_
  refine r_iconst (pc := 49) C dX0_become_49 ?_
  refine r_aload_n (pc := 50) C dX0_become_50 rfl 0 rfl ?_
  refine r_getR0 (pc := 51) C 4 (k' := 5) rfl O_0 (by decide) rfl t_111 dX0_become_51 ?_
  refine r_iconst (pc := 54) C dX0_become_54 ?_
  refine r_bipush (pc := 55) C dX0_become_55 (by decide) ?_
  refine r_copy (pc := 57) C 0 0 8 A_21 A_5 (by omega) (by omega) (by omega) (by omega) (by omega) (by decide) (Nat.le_of_ble_eq_true rfl) t_425 dX0_become_57 ?_
  refine r_aload_n (pc := 60) C dX0_become_60 rfl 1 rfl ?_
  refine r_getR0 (pc := 61) C 5 (k' := 22) rfl O_16 (by decide) rfl t_114 dX0_become_61 ?_
  refine r_iconst (pc := 64) C dX0_become_64 ?_
  refine r_aload_n (pc := 65) C dX0_become_65 rfl 0 rfl ?_
  refine r_getR0 (pc := 66) C 5 (k' := 6) rfl O_0 (by decide) rfl t_114 dX0_become_66 ?_
  refine r_iconst (pc := 69) C dX0_become_69 ?_
  refine r_bipush (pc := 70) C dX0_become_70 (by decide) ?_
  refine r_copy (pc := 72) C 0 0 96 A_22 A_6 (by omega) (by omega) (by omega) (by omega) (by omega) (by decide) (Nat.le_of_ble_eq_true rfl) t_425 dX0_become_72 ?_
  refine r_aload_n (pc := 75) C dX0_become_75 rfl 1 rfl ?_
  refine r_getR0 (pc := 76) C 6 (k' := 23) rfl O_16 (by decide) rfl t_117 dX0_become_76 ?_
  refine r_iconst (pc := 79) C dX0_become_79 ?_
  refine r_aload_n (pc := 80) C dX0_become_80 rfl 0 rfl ?_
  refine r_getR0 (pc := 81) C 6 (k' := 7) rfl O_0 (by decide) rfl t_117 dX0_become_81 ?_
  refine r_iconst (pc := 84) C dX0_become_84 ?_
  refine r_bipush (pc := 85) C dX0_become_85 (by decide) ?_
  refine r_copy (pc := 87) C 0 0 10 A_23 A_7 (by omega) (by omega) (by omega) (by omega) (by omega) (by decide) (Nat.le_of_ble_eq_true rfl) t_425 dX0_become_87 ?_
  refine r_aload_n (pc := 90) C dX0_become_90 rfl 0 rfl ?_
  refine r_aload_n (pc := 91) C dX0_become_91 rfl 1 rfl ?_
  refine r_getI0 (pc := 92) C 7 rfl O_16 (by decide) rfl t_119 dX0_become_92 ?_
  refine r_top ((us_o2 _ _ _ (by omega)).trans ((us_o2 _ _ _ (by omega)).trans ((us_o2 _ _ _ (by omega)).trans ((us_o2 _ _ _ (by omega)).trans ((us_o2 _ _ _ (by omega)).trans (us_o2 _ _ _ (by omega))))))) ?_
  refine r_put0 (pc := 95) C 7 rfl O_0 (by decide) rfl t_119 rfl (by decide +kernel) dX0_become_95 ?_
  refine r_aload_n (pc := 98) C dX0_become_98 rfl 0 rfl ?_
  refine r_aload_n (pc := 99) C dX0_become_99 rfl 1 rfl ?_
  refine r_getI0 (pc := 100) C 8 rfl O_16 (by decide) rfl t_122 dX0_become_100 ?_
  refine r_top ((wr_o2 _ _ _ _ (by omega)).trans ((us_o2 _ _ _ (by omega)).trans ((us_o2 _ _ _ (by omega)).trans ((us_o2 _ _ _ (by omega)).trans ((us_o2 _ _ _ (by omega)).trans ((us_o2 _ _ _ (by omega)).trans (us_o2 _ _ _ (by omega)))))))) ?_
  refine r_put0 (pc := 103) C 8 rfl O_0 (by decide) rfl t_122 rfl (by decide +kernel) dX0_become_103 ?_
  refine r_aload_n (pc := 106) C dX0_become_106 rfl 0 rfl ?_
  refine r_aload_n (pc := 107) C dX0_become_107 rfl 1 rfl ?_
  refine r_getI0 (pc := 108) C 9 rfl O_16 (by decide) rfl t_125 dX0_become_108 ?_
  refine r_top ((wr_o2 _ _ _ _ (by omega)).trans ((wr_o2 _ _ _ _ (by omega)).trans ((us_o2 _ _ _ (by omega)).trans ((us_o2 _ _ _ (by omega)).trans ((us_o2 _ _ _ (by omega)).trans ((us_o2 _ _ _ (by omega)).trans ((us_o2 _ _ _ (by omega)).trans (us_o2 _ _ _ (by omega))))))))) ?_
  refine r_put0 (pc := 111) C 9 rfl O_0 (by decide) rfl t_125 rfl (by decide +kernel) dX0_become_111 ?_
  refine r_aload_n (pc := 114) C dX0_become_114 rfl 0 rfl ?_
  refine r_aload_n (pc := 115) C dX0_become_115 rfl 1 rfl ?_
  refine r_getI0 (pc := 116) C 10 rfl O_16 (by decide) rfl t_128 dX0_become_116 ?_
  refine r_top ((wr_o2 _ _ _ _ (by omega)).trans ((wr_o2 _ _ _ _ (by omega)).trans ((wr_o2 _ _ _ _ (by omega)).trans ((us_o2 _ _ _ (by omega)).trans ((us_o2 _ _ _ (by omega)).trans ((us_o2 _ _ _ (by omega)).trans ((us_o2 _ _ _ (by omega)).trans ((us_o2 _ _ _ (by omega)).trans (us_o2 _ _ _ (by omega)))))))))) ?_
  refine r_put0 (pc := 119) C 10 rfl O_0 (by decide) rfl t_128 rfl (by decide +kernel) dX0_become_119 ?_
  refine r_aload_n (pc := 122) C dX0_become_122 rfl 0 rfl ?_
  refine r_aload_n (pc := 123) C dX0_become_123 rfl 1 rfl ?_
  refine r_getI0 (pc := 124) C 11 rfl O_16 (by decide) rfl t_130 dX0_become_124 ?_
  refine r_top ((wr_o2 _ _ _ _ (by omega)).trans ((wr_o2 _ _ _ _ (by omega)).trans ((wr_o2 _ _ _ _ (by omega)).trans ((wr_o2 _ _ _ _ (by omega)).trans ((us_o2 _ _ _ (by omega)).trans ((us_o2 _ _ _ (by omega)).trans ((us_o2 _ _ _ (by omega)).trans ((us_o2 _ _ _ (by omega)).trans ((us_o2 _ _ _ (by omega)).trans (us_o2 _ _ _ (by omega))))))))))) ?_
  refine r_put0 (pc := 127) C 11 rfl O_0 (by decide) rfl t_130 rfl (by decide +kernel) dX0_become_127 ?_
  refine r_cong (bc_0_16 σ) ?_ ?_
  · intro k hk j hj
    by_cases h0 : k = 0
    · subst h0
      have hj2 := seen_room (by omega) hj
      rcases (show j = 7 ∨ j = 8 ∨ j = 9 ∨ j = 10 ∨ j = 11 by omega) with rfl | rfl | rfl | rfl | rfl <;> rfl
    by_cases h1 : k = 1
    · subst h1
      have hj2 : j < 12 := hj
      exact cpy_lt _ _ hj2
    by_cases h3 : k = 3
    · subst h3
      have hj2 : j < 8 := hj
      exact cpy_lt _ _ hj2
    by_cases h4 : k = 4
    · subst h4
      have hj2 : j < 8 := hj
      exact cpy_lt _ _ hj2
    by_cases h5 : k = 5
    · subst h5
      have hj2 : j < 8 := hj
      exact cpy_lt _ _ hj2
    by_cases h6 : k = 6
    · subst h6
      have hj2 : j < 96 := hj
      exact cpy_lt _ _ hj2
    by_cases h7 : k = 7
    · subst h7
      have hj2 : j < 10 := hj
      exact cpy_lt _ _ hj2
    simp [bc_0_16, us, wr, h0, h1, h3, h4, h5, h6, h7]
  exact r_retv (pc := 130) C (rfl) dX0_become_130
