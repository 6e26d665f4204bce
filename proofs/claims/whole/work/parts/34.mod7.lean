set_option maxRecDepth 100000 in
theorem bor_add {a : Int} {k : Nat} (hk : k < 12) (h : 0 ≤ a ∧ a < ((2 ^ k : Nat) : Int)) : bor a (bshl 1 (k : Int)) = a + ((2 ^ k : Nat) : Int) := by
  have h1 : ∀ k, k < 12 → ∀ a, a < 2 ^ k → bor ((a : Nat) : Int) (bshl 1 ((k : Nat) : Int)) = ((a : Nat) : Int) + ((2 ^ k : Nat) : Int) := by decide +kernel
  have h2 := h1 k hk a.toNat (by omega)
  rw [show ((a.toNat : Nat) : Int) = a by omega] at h2
  exact h2
theorem setF_val (P : Nat → Bool) : ∀ k, k ≤ 12 → 0 ≤ setF P k ∧ setF P k < ((2 ^ k : Nat) : Int)
  | 0, _ => by
    show 0 ≤ (0 : Int) ∧ (0 : Int) < ((2 ^ 0 : Nat) : Int)
    decide
  | k + 1, h => by
    have ih := setF_val P k (by omega)
    have e : ((2 ^ (k + 1) : Nat) : Int) = 2 * ((2 ^ k : Nat) : Int) := by rw [Nat.pow_succ, Nat.mul_comm]; exact Int.natCast_mul 2 (2 ^ k)
    unfold setF
    split
    · rw [bor_add (by omega) ih]
      omega
    · omega
theorem setF_12 (P : Nat → Bool) : 0 ≤ setF P 12 ∧ setF P 12 ≤ 4095 := by
  have h := setF_val P 12 (by omega)
  have e : ((2 ^ 12 : Nat) : Int) = 4096 := by decide
  omega
def abv (k : Int) : Int := if k = 6 then 1 else if k = 4 then 3 else if k = 3 then 2 else 0
theorem abv_lt {k : Int} (h : 0 < k ∧ k ≤ 6) : 0 ≤ abv k ∧ abv k < k := by
  unfold abv
  split
  · omega
  · split
    · omega
    · split <;> omega
def ofM : Nat → Int → Int → Bool
  | 0, _, _ => false
  | f + 1, k, w => if k = w then true else if k = 0 then false else ofM f (abv k) w
theorem ofM_is {k w : Int} (hk : 0 ≤ k ∧ k ≤ 6) (hw : 0 ≤ w ∧ w ≤ 6) : ofM 7 k w = ofK 7 k w := by
  rcases (show k = 0 ∨ k = 1 ∨ k = 2 ∨ k = 3 ∨ k = 4 ∨ k = 5 ∨ k = 6 by omega) with rfl | rfl | rfl | rfl | rfl | rfl | rfl <;>
  rcases (show w = 0 ∨ w = 1 ∨ w = 2 ∨ w = 3 ∨ w = 4 ∨ w = 5 ∨ w = 6 by omega) with rfl | rfl | rfl | rfl | rfl | rfl | rfl <;> decide
def nrw (b v : Int) : Int := if b = 8 then i8 v else if b = 16 then i16 v else v
def apM (v : Int) (n L : Nat) (B : Nat → Int) : Nat → (Nat → Int)
  | 0 => B
  | m + 1 => up (apM v n L B m) (L + m) (band (bshr v (8 * ((n : Int) - 1 - (m : Int)))) 255)
theorem fd_eq (σ : Sg) (A : Nat → Int) (j : Nat) (a b v : Int) : wr (wr (wr (us σ 49 A) 41 10 a) 49 j v) 41 10 b = wr (us σ 49 (up A j v)) 41 10 b := by
  funext k
  by_cases h1 : k = 41
  · subst h1
    rw [wr_s, wr_s, wr_n _ _ _ (by decide), wr_s, us_n _ _ (by decide), us_n _ _ (by decide), up_up]
  · rw [wr_n _ _ _ h1, wr_n _ _ _ h1]
    by_cases h2 : k = 49
    · subst h2
      rw [wr_s, wr_n _ _ _ h1, us_s, us_s]
    · rw [wr_n _ _ _ h2, wr_n _ _ _ h1, us_n _ _ h2, us_n _ _ h2]
def mapTo2 (o : Nat) (F D : Nat → Int) (i : Nat) : Nat → Int := fun j => if o ≤ j ∧ j < o + i then F j else D j
theorem mapTo2_0 (o : Nat) (F D : Nat → Int) : mapTo2 o F D 0 = D := by
  funext j
  unfold mapTo2
  rw [if_neg (by omega)]
theorem mapTo2_s (o : Nat) (F D : Nat → Int) (i : Nat) : up (mapTo2 o F D i) (o + i) (F (o + i)) = mapTo2 o F D (i + 1) := by
  funext j
  unfold up mapTo2
  by_cases h : j = o + i
  · rw [if_pos h, if_pos (by omega), h]
  · rw [if_neg h]
    by_cases h2 : o ≤ j ∧ j < o + i
    · rw [if_pos h2, if_pos (by omega)]
    · rw [if_neg h2, if_neg (by omega)]
set_option maxHeartbeats 4000000 in
set_option maxRecDepth 100000 in
theorem e_hold (g : Gt) (q x : Int) (h_q : rng q) (h_x : rng x) (ρ σ : Sg) (hS : σ 42 = mkS ρ) (hW : RW ρ 0)  : Mt g yX5_hold cX5_hold 3 (some FieldType.int) 2 [.ref (gA g 41), .int (iI (q)), .int (iI (x))] σ (pM (if (0 ≤ q ∧ q < 10) ∧ (x = -1 ∨ (0 ≤ x ∧ x < ρ 0 7)) then 1 else (-1000001 - ((0 : Nat) : Int))) (if (0 ≤ q ∧ q < 10) ∧ (x = -1 ∨ (0 ≤ x ∧ x < ρ 0 7)) then wr ρ 7 q.toNat x else ρ) (if (0 ≤ q ∧ q < 10) ∧ (x = -1 ∨ (0 ≤ x ∧ x < ρ 0 7)) then σ else finM 0 σ)) := by
  obtain ⟨hn, hfl, hw, hdy, hz, hD_, hK_, hA_, hG_, hM_, hP_⟩ := id hW
  have hD : rgD (ρ 1) := hD_
  have hK : rgK (ρ 3) := hK_
  have hA : rgA (ρ 4) := hA_
  have hG : rgG (ρ 5) := hG_
  have hM : rgM (ρ 6) := hM_
  have hP : ∀ j, j < 10 → -1 ≤ ρ 7 j ∧ ρ 7 j < ρ 0 7 := hP_
  have ho_q := h_q.1; have hp_q := h_q.2
  have ho_x := h_x.1; have hp_x := h_x.2
  refine mt_of (own := RX5) (by decide) rfl (Nat.le_of_ble_eq_true rfl) (fun E C => ?_)
  show J g E (pM (if (0 ≤ q ∧ q < 10) ∧ (x = -1 ∨ (0 ≤ x ∧ x < ρ 0 7)) then 1 else (-1000001 - ((0 : Nat) : Int))) (if (0 ≤ q ∧ q < 10) ∧ (x = -1 ∨ (0 ≤ x ∧ x < ρ 0 7)) then wr ρ 7 q.toNat x else ρ) (if (0 ≤ q ∧ q < 10) ∧ (x = -1 ∨ (0 ≤ x ∧ x < ρ 0 7)) then σ else finM 0 σ)) 3 0 [(0, .ref (gA g 41)), (1, .int (iI (q))), (2, .int (iI (x)))] [] σ
  refine r_iload_n (pc := 0) C dX5_hold_0 rfl 1 rfl ?_
  refine r_cSi (pc := 1) C (c_m_isSpot g q h_q σ) yX5_isSpot_w rfl t_1252 ⟨by decide, by decide⟩ (Nat.le_of_ble_eq_true rfl) rfl dX5_hold_1 ?_
  refine r_ifz_eq (pc := 4) C 20 dX5_hold_4 (by decide) (fun h4 => ?_) (fun h4 => ?_)
  · skip
    refine r_aload_n (pc := 20) C dX5_hold_20 rfl 0 rfl ?_
    refine r_ldc (pc := 21) C (-1000001) t_854 (by decide) dX5_hold_21 ?_
    refine r_cVi (pc := 23) C (c_finds g 0 (by decide) σ) yX5_finds_w O_41 rfl rfl t_855 ⟨by decide, by decide⟩ (Nat.le_of_ble_eq_true rfl) (by rw [show ((-1000001) : Int) = -1000001 - ((0 : Nat) : Int) by decide]; rfl) dX5_hold_23 ?_
    exact r_retM (pc := 26) C (by first | (exfalso; omega; done) | ((try (first | rw [if_pos (by omega)] | rw [if_neg (by omega)])); (try (first | rw [if_pos (by omega)] | rw [if_neg (by omega)])); (try (first | rw [if_pos (by omega)] | rw [if_neg (by omega)])); (try (first | rw [if_pos (by omega)] | rw [if_neg (by omega)])); (try rfl))) ((((wr_n _ _ _ (by omega)).trans hS)).trans (congrArg mkS (by first | (exfalso; omega; done) | ((try (first | rw [if_pos (by omega)] | rw [if_neg (by omega)])); (try (first | rw [if_pos (by omega)] | rw [if_neg (by omega)])); (try (first | rw [if_pos (by omega)] | rw [if_neg (by omega)])); (try (first | rw [if_pos (by omega)] | rw [if_neg (by omega)])); (try rfl))))) (fun k hk => (rfl).trans (congrFun (by first | (exfalso; omega; done) | ((try (first | rw [if_pos (by omega)] | rw [if_neg (by omega)])); (try (first | rw [if_pos (by omega)] | rw [if_neg (by omega)])); (try (first | rw [if_pos (by omega)] | rw [if_neg (by omega)])); (try (first | rw [if_pos (by omega)] | rw [if_neg (by omega)])); (try rfl))) k)) dX5_hold_26
  · skip
    refine r_iload_n (pc := 7) C dX5_hold_7 rfl 2 rfl ?_
    refine r_iconst (pc := 8) C dX5_hold_8 ?_
    refine r_icmp_eq (pc := 9) C 27 h_x ⟨by omega, by omega⟩ dX5_hold_9 (by decide) (fun h9 => ?_) (fun h9 => ?_)
    · skip
      refine r_aload_n (pc := 27) C dX5_hold_27 rfl 0 rfl ?_
      refine r_getR5 (pc := 28) C 0 (k' := 42) rfl O_41 (by decide) rfl t_780 dX5_hold_28 ?_
      refine r_sipush (pc := 31) C dX5_hold_31 (by decide) ?_
      refine r_iload_n (pc := 34) C dX5_hold_34 rfl 1 rfl ?_
      refine r_iadd (pc := 35) C dX5_hold_35 ?_
      refine r_iload_n (pc := 36) C dX5_hold_36 rfl 2 rfl ?_
      refine r_iast (pc := 37) C (137 + q.toNat) A_42 (by omega) (by omega) dX5_hold_37 ?_
      refine r_sg (wrS hS (cidx_P _)) ?_
      refine r_iconst (pc := 38) C dX5_hold_38 ?_
      exact r_retM (pc := 39) C (by first | (exfalso; omega; done) | ((try (first | rw [if_pos (by omega)] | rw [if_neg (by omega)])); (try (first | rw [if_pos (by omega)] | rw [if_neg (by omega)])); (try (first | rw [if_pos (by omega)] | rw [if_neg (by omega)])); (try (first | rw [if_pos (by omega)] | rw [if_neg (by omega)])); (try rfl))) (((us_s _ _ _)).trans (congrArg mkS (by first | (exfalso; omega; done) | ((try (first | rw [if_pos (by omega)] | rw [if_neg (by omega)])); (try (first | rw [if_pos (by omega)] | rw [if_neg (by omega)])); (try (first | rw [if_pos (by omega)] | rw [if_neg (by omega)])); (try (first | rw [if_pos (by omega)] | rw [if_neg (by omega)])); (try rfl))))) (fun k hk => (us_n _ _ hk.1).trans (congrFun (by first | (exfalso; omega; done) | ((try (first | rw [if_pos (by omega)] | rw [if_neg (by omega)])); (try (first | rw [if_pos (by omega)] | rw [if_neg (by omega)])); (try (first | rw [if_pos (by omega)] | rw [if_neg (by omega)])); (try (first | rw [if_pos (by omega)] | rw [if_neg (by omega)])); (try rfl))) k)) dX5_hold_39
    · skip
      refine r_aload_n (pc := 12) C dX5_hold_12 rfl 0 rfl ?_
      refine r_iload_n (pc := 13) C dX5_hold_13 rfl 2 rfl ?_
      refine r_cVi (pc := 14) C (c_m_isTenant g x h_x ρ σ hS hn) yX5_isTenant_w O_41 rfl rfl t_905 ⟨by decide, by decide⟩ (Nat.le_of_ble_eq_true rfl) rfl dX5_hold_14 ?_
      refine r_ifz_ne (pc := 17) C 27 dX5_hold_17 (by decide) (fun h17 => ?_) (fun h17 => ?_)
      · skip
        refine r_aload_n (pc := 27) C dX5_hold_27 rfl 0 rfl ?_
        refine r_getR5 (pc := 28) C 0 (k' := 42) rfl O_41 (by decide) rfl t_780 dX5_hold_28 ?_
        refine r_sipush (pc := 31) C dX5_hold_31 (by decide) ?_
        refine r_iload_n (pc := 34) C dX5_hold_34 rfl 1 rfl ?_
        refine r_iadd (pc := 35) C dX5_hold_35 ?_
        refine r_iload_n (pc := 36) C dX5_hold_36 rfl 2 rfl ?_
        refine r_iast (pc := 37) C (137 + q.toNat) A_42 (by omega) (by omega) dX5_hold_37 ?_
        refine r_sg (wrS hS (cidx_P _)) ?_
        refine r_iconst (pc := 38) C dX5_hold_38 ?_
        exact r_retM (pc := 39) C (by first | (exfalso; omega; done) | ((try (first | rw [if_pos (by omega)] | rw [if_neg (by omega)])); (try (first | rw [if_pos (by omega)] | rw [if_neg (by omega)])); (try (first | rw [if_pos (by omega)] | rw [if_neg (by omega)])); (try (first | rw [if_pos (by omega)] | rw [if_neg (by omega)])); (try rfl))) (((us_s _ _ _)).trans (congrArg mkS (by first | (exfalso; omega; done) | ((try (first | rw [if_pos (by omega)] | rw [if_neg (by omega)])); (try (first | rw [if_pos (by omega)] | rw [if_neg (by omega)])); (try (first | rw [if_pos (by omega)] | rw [if_neg (by omega)])); (try (first | rw [if_pos (by omega)] | rw [if_neg (by omega)])); (try rfl))))) (fun k hk => (us_n _ _ hk.1).trans (congrFun (by first | (exfalso; omega; done) | ((try (first | rw [if_pos (by omega)] | rw [if_neg (by omega)])); (try (first | rw [if_pos (by omega)] | rw [if_neg (by omega)])); (try (first | rw [if_pos (by omega)] | rw [if_neg (by omega)])); (try (first | rw [if_pos (by omega)] | rw [if_neg (by omega)])); (try rfl))) k)) dX5_hold_39
      · skip
        refine r_aload_n (pc := 20) C dX5_hold_20 rfl 0 rfl ?_
        refine r_ldc (pc := 21) C (-1000001) t_854 (by decide) dX5_hold_21 ?_
        refine r_cVi (pc := 23) C (c_finds g 0 (by decide) σ) yX5_finds_w O_41 rfl rfl t_855 ⟨by decide, by decide⟩ (Nat.le_of_ble_eq_true rfl) (by rw [show ((-1000001) : Int) = -1000001 - ((0 : Nat) : Int) by decide]; rfl) dX5_hold_23 ?_
        exact r_retM (pc := 26) C (by first | (exfalso; omega; done) | ((try (first | rw [if_pos (by omega)] | rw [if_neg (by omega)])); (try (first | rw [if_pos (by omega)] | rw [if_neg (by omega)])); (try (first | rw [if_pos (by omega)] | rw [if_neg (by omega)])); (try (first | rw [if_pos (by omega)] | rw [if_neg (by omega)])); (try rfl))) ((((wr_n _ _ _ (by omega)).trans hS)).trans (congrArg mkS (by first | (exfalso; omega; done) | ((try (first | rw [if_pos (by omega)] | rw [if_neg (by omega)])); (try (first | rw [if_pos (by omega)] | rw [if_neg (by omega)])); (try (first | rw [if_pos (by omega)] | rw [if_neg (by omega)])); (try (first | rw [if_pos (by omega)] | rw [if_neg (by omega)])); (try rfl))))) (fun k hk => (rfl).trans (congrFun (by first | (exfalso; omega; done) | ((try (first | rw [if_pos (by omega)] | rw [if_neg (by omega)])); (try (first | rw [if_pos (by omega)] | rw [if_neg (by omega)])); (try (first | rw [if_pos (by omega)] | rw [if_neg (by omega)])); (try (first | rw [if_pos (by omega)] | rw [if_neg (by omega)])); (try rfl))) k)) dX5_hold_26
set_option maxHeartbeats 4000000 in
set_option maxRecDepth 100000 in
theorem e_seed (g : Gt) (v : Int) (h_v : rng v) (ρ σ : Sg) (hS : σ 42 = mkS ρ) (hW : RW ρ 0)  : Mt g yX5_seed cX5_seed 2 (some FieldType.int) 1 [.ref (gA g 41), .int (iI (v))] σ (pM (ρ 0 11) (wr ρ 0 11 v) (σ)) := by
  obtain ⟨hn, hfl, hw, hdy, hz, hD_, hK_, hA_, hG_, hM_, hP_⟩ := id hW
  have hD : rgD (ρ 1) := hD_
  have hK : rgK (ρ 3) := hK_
  have hA : rgA (ρ 4) := hA_
  have hG : rgG (ρ 5) := hG_
  have hM : rgM (ρ 6) := hM_
  have hP : ∀ j, j < 10 → -1 ≤ ρ 7 j ∧ ρ 7 j < ρ 0 7 := hP_
  have ho_v := h_v.1; have hp_v := h_v.2
  refine mt_of (own := RX5) (by decide) rfl (Nat.le_of_ble_eq_true rfl) (fun E C => ?_)
  show J g E (pM (ρ 0 11) (wr ρ 0 11 v) (σ)) 2 0 [(0, .ref (gA g 41)), (1, .int (iI (v)))] [] σ
  refine r_aload_n (pc := 0) C dX5_seed_0 rfl 0 rfl ?_
  refine r_iconst (pc := 1) C dX5_seed_1 ?_
  refine r_iload_n (pc := 2) C dX5_seed_2 rfl 1 rfl ?_
  refine r_cVi (pc := 3) C (c_becomes g 4 0 11 (by omega) rfl v ρ σ hS) yX5_becomes_w O_41 rfl rfl t_850 ⟨by decide, by decide⟩ (Nat.le_of_ble_eq_true rfl) rfl dX5_seed_3 ?_
  exact r_retM (pc := 6) C (by first | (exfalso; omega; done) | ((try (first | rw [if_pos (by omega)] | rw [if_neg (by omega)])); (try (first | rw [if_pos (by omega)] | rw [if_neg (by omega)])); (try (first | rw [if_pos (by omega)] | rw [if_neg (by omega)])); (try (first | rw [if_pos (by omega)] | rw [if_neg (by omega)])); (try rfl))) (((us_s _ _ _)).trans (congrArg mkS (by first | (exfalso; omega; done) | ((try (first | rw [if_pos (by omega)] | rw [if_neg (by omega)])); (try (first | rw [if_pos (by omega)] | rw [if_neg (by omega)])); (try (first | rw [if_pos (by omega)] | rw [if_neg (by omega)])); (try (first | rw [if_pos (by omega)] | rw [if_neg (by omega)])); (try rfl))))) (fun k hk => (us_n _ _ hk.1).trans (congrFun (by first | (exfalso; omega; done) | ((try (first | rw [if_pos (by omega)] | rw [if_neg (by omega)])); (try (first | rw [if_pos (by omega)] | rw [if_neg (by omega)])); (try (first | rw [if_pos (by omega)] | rw [if_neg (by omega)])); (try (first | rw [if_pos (by omega)] | rw [if_neg (by omega)])); (try rfl))) k)) dX5_seed_6
set_option maxHeartbeats 4000000 in
set_option maxRecDepth 100000 in
theorem c_above (g : Gt) (k : Int) (hk : 0 ≤ k ∧ k ≤ 6) (σ : Sg) : Mt g yX5_above cX5_above 1 (some FieldType.int) 0 [.int (iI (k))] σ (pI (abv k) σ) := by
  refine mt_of (own := RX5) (by decide) rfl (Nat.le_of_ble_eq_true rfl) (fun E C => ?_)
  show J g E (pI (abv k) σ) 1 0 [(0, .int (iI (k)))] [] σ
  refine r_iload_n (pc := 0) C dX5_above_0 rfl 0 rfl ?_
  refine r_bipush (pc := 1) C dX5_above_1 (by decide) ?_
  refine r_icmp_ne (pc := 3) C 10 ⟨by omega, by omega⟩ ⟨by omega, by omega⟩ dX5_above_3 (by decide) (fun h3 => ?_) (fun h3 => ?_)
  · skip
    refine r_iload_n (pc := 10) C dX5_above_10 rfl 0 rfl ?_
    refine r_iconst (pc := 11) C dX5_above_11 ?_
    refine r_icmp_ne (pc := 12) C 19 ⟨by omega, by omega⟩ ⟨by omega, by omega⟩ dX5_above_12 (by decide) (fun h12 => ?_) (fun h12 => ?_)
    · skip
      refine r_iload_n (pc := 19) C dX5_above_19 rfl 0 rfl ?_
      refine r_iconst (pc := 20) C dX5_above_20 ?_
      refine r_icmp_ne (pc := 21) C 28 ⟨by omega, by omega⟩ ⟨by omega, by omega⟩ dX5_above_21 (by decide) (fun h21 => ?_) (fun h21 => ?_)
      · skip
        refine r_iconst (pc := 28) C dX5_above_28 ?_
        exact r_reti (pc := 29) C (by unfold abv; (try (first | rw [if_pos (by omega)] | rw [if_neg (by omega)])); (try (first | rw [if_pos (by omega)] | rw [if_neg (by omega)])); (try (first | rw [if_pos (by omega)] | rw [if_neg (by omega)]))) (rfl) dX5_above_29
      · skip
        refine r_iconst (pc := 24) C dX5_above_24 ?_
        refine r_goto (pc := 25) C 29 dX5_above_25 (by decide) ?_
        exact r_reti (pc := 29) C (by unfold abv; (try (first | rw [if_pos (by omega)] | rw [if_neg (by omega)])); (try (first | rw [if_pos (by omega)] | rw [if_neg (by omega)])); (try (first | rw [if_pos (by omega)] | rw [if_neg (by omega)]))) (rfl) dX5_above_29
    · skip
      refine r_iconst (pc := 15) C dX5_above_15 ?_
      refine r_goto (pc := 16) C 29 dX5_above_16 (by decide) ?_
      exact r_reti (pc := 29) C (by unfold abv; (try (first | rw [if_pos (by omega)] | rw [if_neg (by omega)])); (try (first | rw [if_pos (by omega)] | rw [if_neg (by omega)])); (try (first | rw [if_pos (by omega)] | rw [if_neg (by omega)]))) (rfl) dX5_above_29
  · skip
    refine r_iconst (pc := 6) C dX5_above_6 ?_
    refine r_goto (pc := 7) C 29 dX5_above_7 (by decide) ?_
    exact r_reti (pc := 29) C (by unfold abv; (try (first | rw [if_pos (by omega)] | rw [if_neg (by omega)])); (try (first | rw [if_pos (by omega)] | rw [if_neg (by omega)])); (try (first | rw [if_pos (by omega)] | rw [if_neg (by omega)]))) (rfl) dX5_above_29
set_option maxHeartbeats 4000000 in
set_option maxRecDepth 100000 in
theorem e_as (g : Gt) (q w : Int) (h_q : rng q) (h_w : rng w) (ρ σ : Sg) (hS : σ 42 = mkS ρ) (hW : RW ρ 0)  : Mt g yX5_as cX5_as 5 (some FieldType.int) 2 [.ref (gA g 41), .int (iI (q)), .int (iI (w))] σ (pM (if (0 ≤ q ∧ q < 10) ∧ 0 ≤ w ∧ w < 7 then (if 0 ≤ ρ 7 q.toNat ∧ ρ 7 q.toNat < ρ 0 7 then (if ofM 7 (ρ 3 (ρ 7 q.toNat).toNat) w = true then ρ 7 q.toNat else (-1000001 - ((2 : Nat) : Int))) else (-1000001 - ((5 : Nat) : Int))) else (-1000001 - ((0 : Nat) : Int))) (ρ) (if (0 ≤ q ∧ q < 10) ∧ 0 ≤ w ∧ w < 7 then (if 0 ≤ ρ 7 q.toNat ∧ ρ 7 q.toNat < ρ 0 7 then (if ofM 7 (ρ 3 (ρ 7 q.toNat).toNat) w = true then σ else finM 2 σ) else finM 5 σ) else finM 0 σ)) := by
  obtain ⟨hn, hfl, hw, hdy, hz, hD_, hK_, hA_, hG_, hM_, hP_⟩ := id hW
  have hD : rgD (ρ 1) := hD_
  have hK : rgK (ρ 3) := hK_
  have hA : rgA (ρ 4) := hA_
  have hG : rgG (ρ 5) := hG_
  have hM : rgM (ρ 6) := hM_
  have hP : ∀ j, j < 10 → -1 ≤ ρ 7 j ∧ ρ 7 j < ρ 0 7 := hP_
  have ho_q := h_q.1; have hp_q := h_q.2
  have ho_w := h_w.1; have hp_w := h_w.2
  refine mt_of (own := RX5) (by decide) rfl (Nat.le_of_ble_eq_true rfl) (fun E C => ?_)
  show J g E (pM (if (0 ≤ q ∧ q < 10) ∧ 0 ≤ w ∧ w < 7 then (if 0 ≤ ρ 7 q.toNat ∧ ρ 7 q.toNat < ρ 0 7 then (if ofM 7 (ρ 3 (ρ 7 q.toNat).toNat) w = true then ρ 7 q.toNat else (-1000001 - ((2 : Nat) : Int))) else (-1000001 - ((5 : Nat) : Int))) else (-1000001 - ((0 : Nat) : Int))) (ρ) (if (0 ≤ q ∧ q < 10) ∧ 0 ≤ w ∧ w < 7 then (if 0 ≤ ρ 7 q.toNat ∧ ρ 7 q.toNat < ρ 0 7 then (if ofM 7 (ρ 3 (ρ 7 q.toNat).toNat) w = true then σ else finM 2 σ) else finM 5 σ) else finM 0 σ)) 5 0 [(0, .ref (gA g 41)), (1, .int (iI (q))), (2, .int (iI (w)))] [] σ
  refine r_iload_n (pc := 0) C dX5_as_0 rfl 1 rfl ?_
  refine r_cSi (pc := 1) C (c_m_isSpot g q h_q σ) yX5_isSpot_w rfl t_1252 ⟨by decide, by decide⟩ (Nat.le_of_ble_eq_true rfl) rfl dX5_as_1 ?_
  refine r_ifz_eq (pc := 4) C 14 dX5_as_4 (by decide) (fun h4 => ?_) (fun h4 => ?_)
  · skip
    refine r_aload_n (pc := 14) C dX5_as_14 rfl 0 rfl ?_
    refine r_ldc (pc := 15) C (-1000001) t_854 (by decide) dX5_as_15 ?_
    refine r_cVi (pc := 17) C (c_finds g 0 (by decide) σ) yX5_finds_w O_41 rfl rfl t_855 ⟨by decide, by decide⟩ (Nat.le_of_ble_eq_true rfl) (by rw [show ((-1000001) : Int) = -1000001 - ((0 : Nat) : Int) by decide]; rfl) dX5_as_17 ?_
    exact r_retM (pc := 20) C (by first | (exfalso; omega; done) | ((try (first | rw [if_pos (by omega)] | rw [if_neg (by omega)] | rw [if_pos hF] | rw [if_neg hF])); (try (first | rw [if_pos (by omega)] | rw [if_neg (by omega)] | rw [if_pos hF] | rw [if_neg hF])); (try (first | rw [if_pos (by omega)] | rw [if_neg (by omega)] | rw [if_pos hF] | rw [if_neg hF])); (try rfl))) (((wr_n _ _ _ (by omega)).trans hS)) (fun k hk => (rfl).trans (congrFun (by first | (exfalso; omega; done) | ((try (first | rw [if_pos (by omega)] | rw [if_neg (by omega)] | rw [if_pos hF] | rw [if_neg hF])); (try (first | rw [if_pos (by omega)] | rw [if_neg (by omega)] | rw [if_pos hF] | rw [if_neg hF])); (try (first | rw [if_pos (by omega)] | rw [if_neg (by omega)] | rw [if_pos hF] | rw [if_neg hF])); (try rfl))) k)) dX5_as_20
  · skip
    refine r_iload_n (pc := 7) C dX5_as_7 rfl 2 rfl ?_
    refine r_cSi (pc := 8) C (c_m_isKind g w h_w σ) yX5_isKind_w rfl t_892 ⟨by decide, by decide⟩ (Nat.le_of_ble_eq_true rfl) rfl dX5_as_8 ?_
    refine r_ifz_ne (pc := 11) C 21 dX5_as_11 (by decide) (fun h11 => ?_) (fun h11 => ?_)
    · skip
      refine r_aload_n (pc := 21) C dX5_as_21 rfl 0 rfl ?_
      refine r_getR5 (pc := 22) C 0 (k' := 42) rfl O_41 (by decide) rfl t_780 dX5_as_22 ?_
      refine r_sipush (pc := 25) C dX5_as_25 (by decide) ?_
      refine r_iload_n (pc := 28) C dX5_as_28 rfl 1 rfl ?_
      refine r_iadd (pc := 29) C dX5_as_29 ?_
      have hp := hP q.toNat (by omega)
      refine r_iald (pc := 30) C (137 + q.toNat) A_42 (by omega) (by omega) dX5_as_30 ?_
      refine r_top (show _ = ρ 7 q.toNat from (congrFun hS _).trans (mkS_at (cidx_P _))) ?_
      refine r_istore_n (pc := 31) C dX5_as_31 rfl (by decide) [1, 2, 3, 0] (lv' := [(0, .ref (gA g 41)), (1, .int (iI (q))), (2, .int (iI (w))), (3, .int (iI (ρ 7 q.toNat)))]) rfl ?_
      refine r_iload_n (pc := 32) C dX5_as_32 rfl 3 rfl ?_
      refine r_if_ge (pc := 33) C 44 ⟨by omega, by omega⟩ dX5_as_33 (by decide) (fun h33 => ?_) (fun h33 => ?_)
      · skip
        refine r_aload_n (pc := 44) C dX5_as_44 rfl 0 rfl ?_
        refine r_iload_n (pc := 45) C dX5_as_45 rfl 3 rfl ?_
        refine r_iconst (pc := 46) C dX5_as_46 ?_
        have hkk := hK (ρ 7 q.toNat).toNat (by omega)
        refine r_cVi (pc := 47) C (c_its_0 g ((ρ 7 q.toNat).toNat) (by omega) ρ σ hS) yX5_its_w O_41 rfl rfl t_875 ⟨by decide, by decide⟩ (Nat.le_of_ble_eq_true rfl) (by rw [show (((ρ 7 q.toNat).toNat : Nat) : Int) = ρ 7 q.toNat by omega]; rfl) dX5_as_47 ?_
        refine r_istore (pc := 50) C dX5_as_50 (by decide) [1, 2, 3, 4, 0] (lv' := [(0, .ref (gA g 41)), (1, .int (iI (q))), (2, .int (iI (w))), (3, .int (iI (ρ 7 q.toNat))), (4, .int (iI (ρ 3 ((ρ 7 q.toNat).toNat))))]) rfl ?_
        have L52 : ∀ (n_ : Nat) (f : Nat) (k : Int), k.toNat < n_ → ((0 ≤ k ∧ k ≤ 6) ∧ k.toNat < f) → (ofM 7 (ρ 3 (ρ 7 q.toNat).toNat) w = ofM f k w) → J g E (pM (if (0 ≤ q ∧ q < 10) ∧ 0 ≤ w ∧ w < 7 then (if 0 ≤ ρ 7 q.toNat ∧ ρ 7 q.toNat < ρ 0 7 then (if ofM 7 (ρ 3 (ρ 7 q.toNat).toNat) w = true then ρ 7 q.toNat else (-1000001 - ((2 : Nat) : Int))) else (-1000001 - ((5 : Nat) : Int))) else (-1000001 - ((0 : Nat) : Int))) (ρ) (if (0 ≤ q ∧ q < 10) ∧ 0 ≤ w ∧ w < 7 then (if 0 ≤ ρ 7 q.toNat ∧ ρ 7 q.toNat < ρ 0 7 then (if ofM 7 (ρ 3 (ρ 7 q.toNat).toNat) w = true then σ else finM 2 σ) else finM 5 σ) else finM 0 σ)) 5 52 [(0, .ref (gA g 41)), (1, .int (iI (q))), (2, .int (iI (w))), (3, .int (iI (ρ 7 q.toNat))), (4, .int (iI (k)))] [] σ := by
          intro n_
          induction n_ with
          | zero => intro f k   hm_; exact absurd hm_ (Nat.not_lt_zero _)
          | succ n_ ih52 =>
            intro f k   hm52 hi52_0 hi52_1  
            obtain ⟨f1, rfl⟩ : ∃ f1, f = f1 + 1 := ⟨f - 1, by omega⟩
            refine r_iload (pc := 52) C dX5_as_52 4 rfl ?_
            refine r_iload_n (pc := 54) C dX5_as_54 rfl 2 rfl ?_
            refine r_icmp_eq (pc := 55) C 73 ⟨by omega, by omega⟩ h_w dX5_as_55 (by decide) (fun h55 => ?_) (fun h55 => ?_)
            · skip
              have hF : ofM 7 (ρ 3 (ρ 7 q.toNat).toNat) w = true := by rw [hi52_1, ofM, if_pos (by omega)]
              refine r_iload (pc := 73) C dX5_as_73 4 rfl ?_
              refine r_iload_n (pc := 75) C dX5_as_75 rfl 2 rfl ?_
              refine r_icmp_ne (pc := 76) C 83 ⟨by omega, by omega⟩ h_w dX5_as_76 (by decide) (fun h76 => ?_) (fun h76 => ?_)
              · skip
                refine r_aload_n (pc := 83) C dX5_as_83 rfl 0 rfl ?_
                refine r_ldcw (pc := 84) C (-1000003) t_1263 (by decide) dX5_as_84 ?_
                refine r_cVi (pc := 87) C (c_finds g 2 (by decide) σ) yX5_finds_w O_41 rfl rfl t_855 ⟨by decide, by decide⟩ (Nat.le_of_ble_eq_true rfl) (by rw [show ((-1000003) : Int) = -1000001 - ((2 : Nat) : Int) by decide]; rfl) dX5_as_87 ?_
                exact r_retM (pc := 90) C (by first | (exfalso; omega; done) | ((try (first | rw [if_pos (by omega)] | rw [if_neg (by omega)] | rw [if_pos hF] | rw [if_neg hF])); (try (first | rw [if_pos (by omega)] | rw [if_neg (by omega)] | rw [if_pos hF] | rw [if_neg hF])); (try (first | rw [if_pos (by omega)] | rw [if_neg (by omega)] | rw [if_pos hF] | rw [if_neg hF])); (try rfl))) (((wr_n _ _ _ (by omega)).trans hS)) (fun k hk => (rfl).trans (congrFun (by first | (exfalso; omega; done) | ((try (first | rw [if_pos (by omega)] | rw [if_neg (by omega)] | rw [if_pos hF] | rw [if_neg hF])); (try (first | rw [if_pos (by omega)] | rw [if_neg (by omega)] | rw [if_pos hF] | rw [if_neg hF])); (try (first | rw [if_pos (by omega)] | rw [if_neg (by omega)] | rw [if_pos hF] | rw [if_neg hF])); (try rfl))) k)) dX5_as_90
              · skip
                refine r_iload_n (pc := 79) C dX5_as_79 rfl 3 rfl ?_
                refine r_goto (pc := 80) C 90 dX5_as_80 (by decide) ?_
                exact r_retM (pc := 90) C (by first | (exfalso; omega; done) | ((try (first | rw [if_pos (by omega)] | rw [if_neg (by omega)] | rw [if_pos hF] | rw [if_neg hF])); (try (first | rw [if_pos (by omega)] | rw [if_neg (by omega)] | rw [if_pos hF] | rw [if_neg hF])); (try (first | rw [if_pos (by omega)] | rw [if_neg (by omega)] | rw [if_pos hF] | rw [if_neg hF])); (try rfl))) (hS) (fun k hk => (rfl).trans (congrFun (by first | (exfalso; omega; done) | ((try (first | rw [if_pos (by omega)] | rw [if_neg (by omega)] | rw [if_pos hF] | rw [if_neg hF])); (try (first | rw [if_pos (by omega)] | rw [if_neg (by omega)] | rw [if_pos hF] | rw [if_neg hF])); (try (first | rw [if_pos (by omega)] | rw [if_neg (by omega)] | rw [if_pos hF] | rw [if_neg hF])); (try rfl))) k)) dX5_as_90
            · skip
              refine r_iload (pc := 58) C dX5_as_58 4 rfl ?_
              refine r_if_eq (pc := 60) C 73 ⟨by omega, by omega⟩ dX5_as_60 (by decide) (fun h60 => ?_) (fun h60 => ?_)
              · skip
                have hF : ¬ (ofM 7 (ρ 3 (ρ 7 q.toNat).toNat) w = true) := by rw [hi52_1, ofM, if_neg (by omega), if_pos (by omega)]; decide
                refine r_iload (pc := 73) C dX5_as_73 4 rfl ?_
                refine r_iload_n (pc := 75) C dX5_as_75 rfl 2 rfl ?_
                refine r_icmp_ne (pc := 76) C 83 ⟨by omega, by omega⟩ h_w dX5_as_76 (by decide) (fun h76 => ?_) (fun h76 => ?_)
                · skip
                  refine r_aload_n (pc := 83) C dX5_as_83 rfl 0 rfl ?_
                  refine r_ldcw (pc := 84) C (-1000003) t_1263 (by decide) dX5_as_84 ?_
                  refine r_cVi (pc := 87) C (c_finds g 2 (by decide) σ) yX5_finds_w O_41 rfl rfl t_855 ⟨by decide, by decide⟩ (Nat.le_of_ble_eq_true rfl) (by rw [show ((-1000003) : Int) = -1000001 - ((2 : Nat) : Int) by decide]; rfl) dX5_as_87 ?_
                  exact r_retM (pc := 90) C (by first | (exfalso; omega; done) | ((try (first | rw [if_pos (by omega)] | rw [if_neg (by omega)] | rw [if_pos hF] | rw [if_neg hF])); (try (first | rw [if_pos (by omega)] | rw [if_neg (by omega)] | rw [if_pos hF] | rw [if_neg hF])); (try (first | rw [if_pos (by omega)] | rw [if_neg (by omega)] | rw [if_pos hF] | rw [if_neg hF])); (try rfl))) (((wr_n _ _ _ (by omega)).trans hS)) (fun k hk => (rfl).trans (congrFun (by first | (exfalso; omega; done) | ((try (first | rw [if_pos (by omega)] | rw [if_neg (by omega)] | rw [if_pos hF] | rw [if_neg hF])); (try (first | rw [if_pos (by omega)] | rw [if_neg (by omega)] | rw [if_pos hF] | rw [if_neg hF])); (try (first | rw [if_pos (by omega)] | rw [if_neg (by omega)] | rw [if_pos hF] | rw [if_neg hF])); (try rfl))) k)) dX5_as_90
                · skip
                  refine r_iload_n (pc := 79) C dX5_as_79 rfl 3 rfl ?_
                  refine r_goto (pc := 80) C 90 dX5_as_80 (by decide) ?_
                  exact r_retM (pc := 90) C (by first | (exfalso; omega; done) | ((try (first | rw [if_pos (by omega)] | rw [if_neg (by omega)] | rw [if_pos hF] | rw [if_neg hF])); (try (first | rw [if_pos (by omega)] | rw [if_neg (by omega)] | rw [if_pos hF] | rw [if_neg hF])); (try (first | rw [if_pos (by omega)] | rw [if_neg (by omega)] | rw [if_pos hF] | rw [if_neg hF])); (try rfl))) (hS) (fun k hk => (rfl).trans (congrFun (by first | (exfalso; omega; done) | ((try (first | rw [if_pos (by omega)] | rw [if_neg (by omega)] | rw [if_pos hF] | rw [if_neg hF])); (try (first | rw [if_pos (by omega)] | rw [if_neg (by omega)] | rw [if_pos hF] | rw [if_neg hF])); (try (first | rw [if_pos (by omega)] | rw [if_neg (by omega)] | rw [if_pos hF] | rw [if_neg hF])); (try rfl))) k)) dX5_as_90
              · skip
                have hab := abv_lt (k := k) (by omega)
                refine r_iload (pc := 63) C dX5_as_63 4 rfl ?_
                refine r_cSi (pc := 65) C (c_above g k (by omega) σ) yX5_above_w rfl t_1260 ⟨by decide, by decide⟩ (Nat.le_of_ble_eq_true rfl) rfl dX5_as_65 ?_
                refine r_istore (pc := 68) C dX5_as_68 (by decide) [1, 2, 3, 4, 0] (lv' := [(0, .ref (gA g 41)), (1, .int (iI (q))), (2, .int (iI (w))), (3, .int (iI (ρ 7 q.toNat))), (4, .int (iI (abv k)))]) rfl ?_
                refine r_goto (pc := 70) C 52 dX5_as_70 (by decide) ?_
                exact ih52 f1 (abv k) (by omega) (by omega) (by rw [hi52_1, ofM, if_neg (by omega), if_neg (by omega)])
        exact L52 _ 7 (ρ 3 (ρ 7 q.toNat).toNat) (Nat.lt_succ_self _) (by omega) (by rfl)
      · skip
        refine r_aload_n (pc := 36) C dX5_as_36 rfl 0 rfl ?_
        refine r_ldcw (pc := 37) C (-1000006) t_1127 (by decide) dX5_as_37 ?_
        refine r_cVi (pc := 40) C (c_finds g 5 (by decide) σ) yX5_finds_w O_41 rfl rfl t_855 ⟨by decide, by decide⟩ (Nat.le_of_ble_eq_true rfl) (by rw [show ((-1000006) : Int) = -1000001 - ((5 : Nat) : Int) by decide]; rfl) dX5_as_40 ?_
        exact r_retM (pc := 43) C (by first | (exfalso; omega; done) | ((try (first | rw [if_pos (by omega)] | rw [if_neg (by omega)] | rw [if_pos hF] | rw [if_neg hF])); (try (first | rw [if_pos (by omega)] | rw [if_neg (by omega)] | rw [if_pos hF] | rw [if_neg hF])); (try (first | rw [if_pos (by omega)] | rw [if_neg (by omega)] | rw [if_pos hF] | rw [if_neg hF])); (try rfl))) (((wr_n _ _ _ (by omega)).trans hS)) (fun k hk => (rfl).trans (congrFun (by first | (exfalso; omega; done) | ((try (first | rw [if_pos (by omega)] | rw [if_neg (by omega)] | rw [if_pos hF] | rw [if_neg hF])); (try (first | rw [if_pos (by omega)] | rw [if_neg (by omega)] | rw [if_pos hF] | rw [if_neg hF])); (try (first | rw [if_pos (by omega)] | rw [if_neg (by omega)] | rw [if_pos hF] | rw [if_neg hF])); (try rfl))) k)) dX5_as_43
    · skip
      refine r_aload_n (pc := 14) C dX5_as_14 rfl 0 rfl ?_
      refine r_ldc (pc := 15) C (-1000001) t_854 (by decide) dX5_as_15 ?_
      refine r_cVi (pc := 17) C (c_finds g 0 (by decide) σ) yX5_finds_w O_41 rfl rfl t_855 ⟨by decide, by decide⟩ (Nat.le_of_ble_eq_true rfl) (by rw [show ((-1000001) : Int) = -1000001 - ((0 : Nat) : Int) by decide]; rfl) dX5_as_17 ?_
      exact r_retM (pc := 20) C (by first | (exfalso; omega; done) | ((try (first | rw [if_pos (by omega)] | rw [if_neg (by omega)] | rw [if_pos hF] | rw [if_neg hF])); (try (first | rw [if_pos (by omega)] | rw [if_neg (by omega)] | rw [if_pos hF] | rw [if_neg hF])); (try (first | rw [if_pos (by omega)] | rw [if_neg (by omega)] | rw [if_pos hF] | rw [if_neg hF])); (try rfl))) (((wr_n _ _ _ (by omega)).trans hS)) (fun k hk => (rfl).trans (congrFun (by first | (exfalso; omega; done) | ((try (first | rw [if_pos (by omega)] | rw [if_neg (by omega)] | rw [if_pos hF] | rw [if_neg hF])); (try (first | rw [if_pos (by omega)] | rw [if_neg (by omega)] | rw [if_pos hF] | rw [if_neg hF])); (try (first | rw [if_pos (by omega)] | rw [if_neg (by omega)] | rw [if_pos hF] | rw [if_neg hF])); (try rfl))) k)) dX5_as_20
set_option maxHeartbeats 4000000 in
set_option maxRecDepth 100000 in
theorem c_wrong_a (g : Gt) (x : Int) (hx : rng x) (h : ¬ (0 ≤ x ∧ x < 4)) (σ : Sg) : Mt g yX5_wrong cX5_wrong 2 (some FieldType.int) 2 [.ref (gA g 41), .int (iI (x))] σ (pI (-1000001) σ) := by
  refine mt_of (own := RX5) (by decide) rfl (Nat.le_of_ble_eq_true rfl) (fun E C => ?_)
  show J g E (pI (-1000001) σ) 2 0 [(0, .ref (gA g 41)), (1, .int (iI (x)))] [] σ
  refine r_iload_n (pc := 0) C dX5_wrong_0 rfl 1 rfl ?_
  refine r_cSi (pc := 1) C (c_m_isOne g x hx σ) yX5_isOne_w rfl t_1124 ⟨by decide, by decide⟩ (Nat.le_of_ble_eq_true rfl) rfl dX5_wrong_1 ?_
  refine r_ifz_ne (pc := 4) C 12 dX5_wrong_4 (by decide) (fun h4 => ?_) (fun h4 => ?_)
  · skip
    omega
  · skip
    refine r_ldc (pc := 7) C (-1000001) t_854 (by decide) dX5_wrong_7 ?_
    refine r_goto (pc := 9) C 28 dX5_wrong_9 (by decide) ?_
    exact r_reti (pc := 28) C (rfl) (rfl) dX5_wrong_28
set_option maxHeartbeats 4000000 in
set_option maxRecDepth 100000 in
theorem c_wrong_b (g : Gt) (s : Nat) (hs : s < 4) (σ : Sg) (h : σ 50 s = 0) : Mt g yX5_wrong cX5_wrong 2 (some FieldType.int) 2 [.ref (gA g 41), .int (iI ((s : Int)))] σ (pI (-1000006) σ) := by
  refine mt_of (own := RX5) (by decide) rfl (Nat.le_of_ble_eq_true rfl) (fun E C => ?_)
  show J g E (pI (-1000006) σ) 2 0 [(0, .ref (gA g 41)), (1, .int (iI ((s : Int))))] [] σ
  refine r_iload_n (pc := 0) C dX5_wrong_0 rfl 1 rfl ?_
  refine r_cSi (pc := 1) C (c_m_isOne g (s : Int) ⟨by omega, by omega⟩ σ) yX5_isOne_w rfl t_1124 ⟨by decide, by decide⟩ (Nat.le_of_ble_eq_true rfl) rfl dX5_wrong_1 ?_
  refine r_ifz_ne (pc := 4) C 12 dX5_wrong_4 (by decide) (fun h4 => ?_) (fun h4 => ?_)
  · skip
    refine r_aload_n (pc := 12) C dX5_wrong_12 rfl 0 rfl ?_
    refine r_getR5 (pc := 13) C 15 (k' := 50) rfl O_41 (by decide) rfl t_795 dX5_wrong_13 ?_
    refine r_iload_n (pc := 16) C dX5_wrong_16 rfl 1 rfl ?_
    refine r_iald (pc := 17) C s A_50 (by omega) (by omega) dX5_wrong_17 ?_
    refine r_if_ne (pc := 18) C 27 ⟨by omega, by omega⟩ dX5_wrong_18 (by decide) (fun h18 => ?_) (fun h18 => ?_)
    · skip
      omega
    · skip
      refine r_ldcw (pc := 21) C (-1000006) t_1127 (by decide) dX5_wrong_21 ?_
      refine r_goto (pc := 24) C 28 dX5_wrong_24 (by decide) ?_
      exact r_reti (pc := 28) C (rfl) (rfl) dX5_wrong_28
  · skip
    omega
set_option maxHeartbeats 4000000 in
set_option maxRecDepth 100000 in
theorem c_wrong_c (g : Gt) (s : Nat) (hs : s < 4) (σ : Sg) (h : ¬ σ 50 s = 0) (hr : rng (σ 50 s)) : Mt g yX5_wrong cX5_wrong 2 (some FieldType.int) 2 [.ref (gA g 41), .int (iI ((s : Int)))] σ (pI 0 σ) := by
  refine mt_of (own := RX5) (by decide) rfl (Nat.le_of_ble_eq_true rfl) (fun E C => ?_)
  show J g E (pI 0 σ) 2 0 [(0, .ref (gA g 41)), (1, .int (iI ((s : Int))))] [] σ
  refine r_iload_n (pc := 0) C dX5_wrong_0 rfl 1 rfl ?_
  refine r_cSi (pc := 1) C (c_m_isOne g (s : Int) ⟨by omega, by omega⟩ σ) yX5_isOne_w rfl t_1124 ⟨by decide, by decide⟩ (Nat.le_of_ble_eq_true rfl) rfl dX5_wrong_1 ?_
  refine r_ifz_ne (pc := 4) C 12 dX5_wrong_4 (by decide) (fun h4 => ?_) (fun h4 => ?_)
  · skip
    refine r_aload_n (pc := 12) C dX5_wrong_12 rfl 0 rfl ?_
    refine r_getR5 (pc := 13) C 15 (k' := 50) rfl O_41 (by decide) rfl t_795 dX5_wrong_13 ?_
    refine r_iload_n (pc := 16) C dX5_wrong_16 rfl 1 rfl ?_
    refine r_iald (pc := 17) C s A_50 (by omega) (by omega) dX5_wrong_17 ?_
    refine r_if_ne (pc := 18) C 27 hr dX5_wrong_18 (by decide) (fun h18 => ?_) (fun h18 => ?_)
    · skip
      refine r_iconst (pc := 27) C dX5_wrong_27 ?_
      exact r_reti (pc := 28) C (rfl) (rfl) dX5_wrong_28
    · skip
      omega
  · skip
    omega
set_option maxHeartbeats 4000000 in
set_option maxRecDepth 100000 in
theorem c_narrowed (g : Gt) (b v : Int) (hb : b = 8 ∨ b = 16 ∨ b = 32) (σ : Sg) : Mt g yX5_narrowed cX5_narrowed 2 (some FieldType.int) 0 [.int (iI (b)), .int (iI (v))] σ (pI (nrw b v) σ) := by
  refine mt_of (own := RX5) (by decide) rfl (Nat.le_of_ble_eq_true rfl) (fun E C => ?_)
  show J g E (pI (nrw b v) σ) 2 0 [(0, .int (iI (b))), (1, .int (iI (v)))] [] σ
  refine r_iload_n (pc := 0) C dX5_narrowed_0 rfl 0 rfl ?_
  refine r_bipush (pc := 1) C dX5_narrowed_1 (by decide) ?_
  refine r_icmp_ne (pc := 3) C 11 ⟨by omega, by omega⟩ ⟨by omega, by omega⟩ dX5_narrowed_3 (by decide) (fun h3 => ?_) (fun h3 => ?_)
  · skip
    refine r_iload_n (pc := 11) C dX5_narrowed_11 rfl 0 rfl ?_
    refine r_bipush (pc := 12) C dX5_narrowed_12 (by decide) ?_
    refine r_icmp_ne (pc := 14) C 22 ⟨by omega, by omega⟩ ⟨by omega, by omega⟩ dX5_narrowed_14 (by decide) (fun h14 => ?_) (fun h14 => ?_)
    · skip
      refine r_iload_n (pc := 22) C dX5_narrowed_22 rfl 1 rfl ?_
      exact r_reti (pc := 23) C (by unfold nrw; (try (first | rw [if_pos (by omega)] | rw [if_neg (by omega)])); (try (first | rw [if_pos (by omega)] | rw [if_neg (by omega)]))) (rfl) dX5_narrowed_23
    · skip
      refine r_iload_n (pc := 17) C dX5_narrowed_17 rfl 1 rfl ?_
      refine r_i2s (pc := 18) C dX5_narrowed_18 ?_
      refine r_goto (pc := 19) C 23 dX5_narrowed_19 (by decide) ?_
      exact r_reti (pc := 23) C (by unfold nrw; (try (first | rw [if_pos (by omega)] | rw [if_neg (by omega)])); (try (first | rw [if_pos (by omega)] | rw [if_neg (by omega)]))) (rfl) dX5_narrowed_23
  · skip
    refine r_iload_n (pc := 6) C dX5_narrowed_6 rfl 1 rfl ?_
    refine r_i2b (pc := 7) C dX5_narrowed_7 ?_
    refine r_goto (pc := 8) C 23 dX5_narrowed_8 (by decide) ?_
    exact r_reti (pc := 23) C (by unfold nrw; (try (first | rw [if_pos (by omega)] | rw [if_neg (by omega)])); (try (first | rw [if_pos (by omega)] | rw [if_neg (by omega)]))) (rfl) dX5_narrowed_23
set_option maxHeartbeats 4000000 in
set_option maxRecDepth 100000 in
theorem e_write_a (g : Gt) (x i v : Int) (h_x : rng x) (h_i : rng i) (h_v : rng v) (ρ σ : Sg) (hS : σ 42 = mkS ρ) (hW : RW ρ 0) (hx : ¬ (0 ≤ x ∧ x < 4)) : Mt g yX5_write cX5_write 5 (some FieldType.int) 3 [.ref (gA g 41), .int (iI (x)), .int (iI (i)), .int (iI (v))] σ (pM ((-1000001 - ((0 : Nat) : Int))) (ρ) (finM 0 σ)) := by
  obtain ⟨hn, hfl, hw, hdy, hz, hD_, hK_, hA_, hG_, hM_, hP_⟩ := id hW
  have hD : rgD (ρ 1) := hD_
  have hK : rgK (ρ 3) := hK_
  have hA : rgA (ρ 4) := hA_
  have hG : rgG (ρ 5) := hG_
  have hM : rgM (ρ 6) := hM_
  have hP : ∀ j, j < 10 → -1 ≤ ρ 7 j ∧ ρ 7 j < ρ 0 7 := hP_
  have ho_x := h_x.1; have hp_x := h_x.2
  have ho_i := h_i.1; have hp_i := h_i.2
  have ho_v := h_v.1; have hp_v := h_v.2
  refine mt_of (own := RX5) (by decide) rfl (Nat.le_of_ble_eq_true rfl) (fun E C => ?_)
  show J g E (pM ((-1000001 - ((0 : Nat) : Int))) (ρ) (finM 0 σ)) 5 0 [(0, .ref (gA g 41)), (1, .int (iI (x))), (2, .int (iI (i))), (3, .int (iI (v)))] [] σ
  refine r_aload_n (pc := 0) C dX5_write_0 rfl 0 rfl ?_
  refine r_iload_n (pc := 1) C dX5_write_1 rfl 1 rfl ?_
  refine r_cVi (pc := 2) C (c_wrong_a g x h_x hx σ) yX5_wrong_w O_41 rfl rfl t_1120 ⟨by decide, by decide⟩ (Nat.le_of_ble_eq_true rfl) rfl dX5_write_2 ?_
  refine r_istore (pc := 5) C dX5_write_5 (by decide) [1, 2, 3, 4, 0] (lv' := [(0, .ref (gA g 41)), (1, .int (iI (x))), (2, .int (iI (i))), (3, .int (iI (v))), (4, .int (iI ((-1000001))))]) rfl ?_
  refine r_iload (pc := 7) C dX5_write_7 4 rfl ?_
  refine r_if_eq (pc := 9) C 19 ⟨by omega, by omega⟩ dX5_write_9 (by decide) (fun h9 => ?_) (fun h9 => ?_)
  · skip
    omega
  · skip
    refine r_aload_n (pc := 12) C dX5_write_12 rfl 0 rfl ?_
    refine r_iload (pc := 13) C dX5_write_13 4 rfl ?_
    refine r_cVi (pc := 15) C (c_finds g 0 (by decide) σ) yX5_finds_w O_41 rfl rfl t_855 ⟨by decide, by decide⟩ (Nat.le_of_ble_eq_true rfl) (by rw [show ((-1000001) : Int) = -1000001 - ((0 : Nat) : Int) by decide]; rfl) dX5_write_15 ?_
    exact r_retM (pc := 18) C (by first | (exfalso; omega; done) | ((try (first | rw [if_pos (by omega)] | rw [if_neg (by omega)])); (try rfl))) ((((wr_n _ _ _ (by omega)).trans hS)).trans (congrArg mkS (by first | (exfalso; omega; done) | ((try (first | rw [if_pos (by omega)] | rw [if_neg (by omega)])); (try rfl))))) (fun k hk => (rfl).trans (congrFun (by first | (exfalso; omega; done) | ((try (first | rw [if_pos (by omega)] | rw [if_neg (by omega)])); (try rfl))) k)) dX5_write_18
set_option maxHeartbeats 4000000 in
set_option maxRecDepth 100000 in
theorem e_write_b (g : Gt) (x i v : Int) (h_x : rng x) (h_i : rng i) (h_v : rng v) (ρ σ : Sg) (hS : σ 42 = mkS ρ) (hW : RW ρ 0) (hx : 0 ≤ x ∧ x < 4) (hB : σ 50 x.toNat = 0) : Mt g yX5_write cX5_write 5 (some FieldType.int) 3 [.ref (gA g 41), .int (iI (x)), .int (iI (i)), .int (iI (v))] σ (pM ((-1000001 - ((5 : Nat) : Int))) (ρ) (finM 5 σ)) := by
  obtain ⟨hn, hfl, hw, hdy, hz, hD_, hK_, hA_, hG_, hM_, hP_⟩ := id hW
  have hD : rgD (ρ 1) := hD_
  have hK : rgK (ρ 3) := hK_
  have hA : rgA (ρ 4) := hA_
  have hG : rgG (ρ 5) := hG_
  have hM : rgM (ρ 6) := hM_
  have hP : ∀ j, j < 10 → -1 ≤ ρ 7 j ∧ ρ 7 j < ρ 0 7 := hP_
  have ho_x := h_x.1; have hp_x := h_x.2
  have ho_i := h_i.1; have hp_i := h_i.2
  have ho_v := h_v.1; have hp_v := h_v.2
  refine mt_of (own := RX5) (by decide) rfl (Nat.le_of_ble_eq_true rfl) (fun E C => ?_)
  show J g E (pM ((-1000001 - ((5 : Nat) : Int))) (ρ) (finM 5 σ)) 5 0 [(0, .ref (gA g 41)), (1, .int (iI (x))), (2, .int (iI (i))), (3, .int (iI (v)))] [] σ
  refine r_aload_n (pc := 0) C dX5_write_0 rfl 0 rfl ?_
  refine r_iload_n (pc := 1) C dX5_write_1 rfl 1 rfl ?_
  refine r_cVi (pc := 2) C (c_wrong_b g x.toNat (by omega) σ hB) yX5_wrong_w O_41 rfl rfl t_1120 ⟨by decide, by decide⟩ (Nat.le_of_ble_eq_true rfl) (by rw [show ((x.toNat : Nat) : Int) = x by omega]; rfl) dX5_write_2 ?_
  refine r_istore (pc := 5) C dX5_write_5 (by decide) [1, 2, 3, 4, 0] (lv' := [(0, .ref (gA g 41)), (1, .int (iI (x))), (2, .int (iI (i))), (3, .int (iI (v))), (4, .int (iI ((-1000006))))]) rfl ?_
  refine r_iload (pc := 7) C dX5_write_7 4 rfl ?_
  refine r_if_eq (pc := 9) C 19 ⟨by omega, by omega⟩ dX5_write_9 (by decide) (fun h9 => ?_) (fun h9 => ?_)
  · skip
    omega
  · skip
    refine r_aload_n (pc := 12) C dX5_write_12 rfl 0 rfl ?_
    refine r_iload (pc := 13) C dX5_write_13 4 rfl ?_
    refine r_cVi (pc := 15) C (c_finds g 5 (by decide) σ) yX5_finds_w O_41 rfl rfl t_855 ⟨by decide, by decide⟩ (Nat.le_of_ble_eq_true rfl) (by rw [show ((-1000006) : Int) = -1000001 - ((5 : Nat) : Int) by decide]; rfl) dX5_write_15 ?_
    exact r_retM (pc := 18) C (by first | (exfalso; omega; done) | ((try (first | rw [if_pos (by omega)] | rw [if_neg (by omega)])); (try rfl))) ((((wr_n _ _ _ (by omega)).trans hS)).trans (congrArg mkS (by first | (exfalso; omega; done) | ((try (first | rw [if_pos (by omega)] | rw [if_neg (by omega)])); (try rfl))))) (fun k hk => (rfl).trans (congrFun (by first | (exfalso; omega; done) | ((try (first | rw [if_pos (by omega)] | rw [if_neg (by omega)])); (try rfl))) k)) dX5_write_18
set_option maxHeartbeats 4000000 in
set_option maxRecDepth 100000 in
theorem e_write_c (g : Gt) (x i v : Int) (h_x : rng x) (h_i : rng i) (h_v : rng v) (ρ σ : Sg) (hS : σ 42 = mkS ρ) (hW : RW ρ 0) (hx : 0 ≤ x ∧ x < 4) (hB : ¬ σ 50 x.toNat = 0) (h6 : σ 41 6 = 255) (hb : ∀ s, s < 4 → (σ 50 s = 0 ∨ σ 50 s = 8 ∨ σ 50 s = 16 ∨ σ 50 s = 32) ∧ 0 ≤ σ 51 s ∧ σ 51 s ≤ 40)  : Mt g yX5_write cX5_write 5 (some FieldType.int) 3 [.ref (gA g 41), .int (iI (x)), .int (iI (i)), .int (iI (v))] σ (pM (if 0 ≤ i ∧ i ≤ σ 51 x.toNat - 1 then 1 else (-1000001 - ((0 : Nat) : Int))) (ρ) (if 0 ≤ i ∧ i ≤ σ 51 x.toNat - 1 then wr σ 52 (40 * x.toNat + i.toNat) (nrw (σ 50 x.toNat) v) else finM 0 σ)) := by
  obtain ⟨hn, hfl, hw, hdy, hz, hD_, hK_, hA_, hG_, hM_, hP_⟩ := id hW
  have hD : rgD (ρ 1) := hD_
  have hK : rgK (ρ 3) := hK_
  have hA : rgA (ρ 4) := hA_
  have hG : rgG (ρ 5) := hG_
  have hM : rgM (ρ 6) := hM_
  have hP : ∀ j, j < 10 → -1 ≤ ρ 7 j ∧ ρ 7 j < ρ 0 7 := hP_
  have ho_x := h_x.1; have hp_x := h_x.2
  have ho_i := h_i.1; have hp_i := h_i.2
  have ho_v := h_v.1; have hp_v := h_v.2
  have hbx := hb x.toNat (by omega)
  refine mt_of (own := RX5) (by decide) rfl (Nat.le_of_ble_eq_true rfl) (fun E C => ?_)
  show J g E (pM (if 0 ≤ i ∧ i ≤ σ 51 x.toNat - 1 then 1 else (-1000001 - ((0 : Nat) : Int))) (ρ) (if 0 ≤ i ∧ i ≤ σ 51 x.toNat - 1 then wr σ 52 (40 * x.toNat + i.toNat) (nrw (σ 50 x.toNat) v) else finM 0 σ)) 5 0 [(0, .ref (gA g 41)), (1, .int (iI (x))), (2, .int (iI (i))), (3, .int (iI (v)))] [] σ
  refine r_aload_n (pc := 0) C dX5_write_0 rfl 0 rfl ?_
  refine r_iload_n (pc := 1) C dX5_write_1 rfl 1 rfl ?_
  refine r_cVi (pc := 2) C (c_wrong_c g x.toNat (by omega) σ hB ⟨by have := (hb x.toNat (by omega)).1; omega, by have := (hb x.toNat (by omega)).1; omega⟩) yX5_wrong_w O_41 rfl rfl t_1120 ⟨by decide, by decide⟩ (Nat.le_of_ble_eq_true rfl) (by rw [show ((x.toNat : Nat) : Int) = x by omega]; rfl) dX5_write_2 ?_
  refine r_istore (pc := 5) C dX5_write_5 (by decide) [1, 2, 3, 4, 0] (lv' := [(0, .ref (gA g 41)), (1, .int (iI (x))), (2, .int (iI (i))), (3, .int (iI (v))), (4, .int (iI (0)))]) rfl ?_
  refine r_iload (pc := 7) C dX5_write_7 4 rfl ?_
  refine r_if_eq (pc := 9) C 19 ⟨by omega, by omega⟩ dX5_write_9 (by decide) (fun h9 => ?_) (fun h9 => ?_)
  · skip
    refine r_iload_n (pc := 19) C dX5_write_19 rfl 2 rfl ?_
    refine r_i2l (pc := 20) C h_i dX5_write_20 ?_
    refine r_lconst (pc := 21) C (n := 0) dX5_write_21 (by decide) ?_
    refine r_aload_n (pc := 22) C dX5_write_22 rfl 0 rfl ?_
    refine r_getR5 (pc := 23) C 16 (k' := 51) rfl O_41 (by decide) rfl t_796 dX5_write_23 ?_
    refine r_iload_n (pc := 26) C dX5_write_26 rfl 1 rfl ?_
    refine r_iald (pc := 27) C x.toNat A_51 (by omega) (by omega) dX5_write_27 ?_
    refine r_iconst (pc := 28) C dX5_write_28 ?_
    refine r_isub (pc := 29) C dX5_write_29 ?_
    refine r_i2l (pc := 30) C ⟨by omega, by omega⟩ dX5_write_30 ?_
    refine r_cSi (pc := 31) C (c_in g i 0 ((σ 51 x.toNat) - 1) ⟨by have := h_i.1; omega, by have := h_i.2; omega⟩ ⟨by omega, by omega⟩ ⟨by omega, by omega⟩ σ) yX5_in_w rfl t_846 ⟨by decide, by decide⟩ (Nat.le_of_ble_eq_true rfl) rfl dX5_write_31 ?_
    refine r_ifz_ne (pc := 34) C 44 dX5_write_34 (by decide) (fun h34 => ?_) (fun h34 => ?_)
    · skip
      refine r_aload_n (pc := 44) C dX5_write_44 rfl 0 rfl ?_
      refine r_getR5 (pc := 45) C 17 (k' := 52) rfl O_41 (by decide) rfl t_797 dX5_write_45 ?_
      refine r_bipush (pc := 48) C dX5_write_48 (by decide) ?_
      refine r_iload_n (pc := 50) C dX5_write_50 rfl 1 rfl ?_
      refine r_imul (pc := 51) C dX5_write_51 ?_
      refine r_iload_n (pc := 52) C dX5_write_52 rfl 2 rfl ?_
      refine r_iadd (pc := 53) C dX5_write_53 ?_
      refine r_aload_n (pc := 54) C dX5_write_54 rfl 0 rfl ?_
      refine r_getR5 (pc := 55) C 15 (k' := 50) rfl O_41 (by decide) rfl t_795 dX5_write_55 ?_
      refine r_iload_n (pc := 58) C dX5_write_58 rfl 1 rfl ?_
      refine r_iald (pc := 59) C x.toNat A_50 (by omega) (by omega) dX5_write_59 ?_
      refine r_iload_n (pc := 60) C dX5_write_60 rfl 3 rfl ?_
      refine r_cSi (pc := 61) C (c_narrowed g (σ 50 x.toNat) v (by omega) σ) yX5_narrowed_w rfl t_1273 ⟨by decide, by decide⟩ (Nat.le_of_ble_eq_true rfl) rfl dX5_write_61 ?_
      refine r_iast (pc := 64) C (40 * x.toNat + i.toNat) A_52 (by omega) (by omega) dX5_write_64 ?_
      refine r_iconst (pc := 65) C dX5_write_65 ?_
      exact r_retM (pc := 66) C (by first | (exfalso; omega; done) | ((try (first | rw [if_pos (by omega)] | rw [if_neg (by omega)])); (try (first | rw [if_pos (by omega)] | rw [if_neg (by omega)])); (try (first | rw [if_pos (by omega)] | rw [if_neg (by omega)])); (try (first | rw [if_pos (by omega)] | rw [if_neg (by omega)])); (try rfl))) ((((wr_n _ _ _ (by omega)).trans hS)).trans (congrArg mkS (by first | (exfalso; omega; done) | ((try (first | rw [if_pos (by omega)] | rw [if_neg (by omega)])); (try (first | rw [if_pos (by omega)] | rw [if_neg (by omega)])); (try (first | rw [if_pos (by omega)] | rw [if_neg (by omega)])); (try (first | rw [if_pos (by omega)] | rw [if_neg (by omega)])); (try rfl))))) (fun k hk => (rfl).trans (congrFun (by first | (exfalso; omega; done) | ((try (first | rw [if_pos (by omega)] | rw [if_neg (by omega)])); (try (first | rw [if_pos (by omega)] | rw [if_neg (by omega)])); (try (first | rw [if_pos (by omega)] | rw [if_neg (by omega)])); (try (first | rw [if_pos (by omega)] | rw [if_neg (by omega)])); (try rfl))) k)) dX5_write_66
    · skip
      refine r_aload_n (pc := 37) C dX5_write_37 rfl 0 rfl ?_
      refine r_ldc (pc := 38) C (-1000001) t_854 (by decide) dX5_write_38 ?_
      refine r_cVi (pc := 40) C (c_finds g 0 (by decide) σ) yX5_finds_w O_41 rfl rfl t_855 ⟨by decide, by decide⟩ (Nat.le_of_ble_eq_true rfl) (by rw [show ((-1000001) : Int) = -1000001 - ((0 : Nat) : Int) by decide]; rfl) dX5_write_40 ?_
      exact r_retM (pc := 43) C (by first | (exfalso; omega; done) | ((try (first | rw [if_pos (by omega)] | rw [if_neg (by omega)])); (try (first | rw [if_pos (by omega)] | rw [if_neg (by omega)])); (try (first | rw [if_pos (by omega)] | rw [if_neg (by omega)])); (try (first | rw [if_pos (by omega)] | rw [if_neg (by omega)])); (try rfl))) ((((wr_n _ _ _ (by omega)).trans hS)).trans (congrArg mkS (by first | (exfalso; omega; done) | ((try (first | rw [if_pos (by omega)] | rw [if_neg (by omega)])); (try (first | rw [if_pos (by omega)] | rw [if_neg (by omega)])); (try (first | rw [if_pos (by omega)] | rw [if_neg (by omega)])); (try (first | rw [if_pos (by omega)] | rw [if_neg (by omega)])); (try rfl))))) (fun k hk => (rfl).trans (congrFun (by first | (exfalso; omega; done) | ((try (first | rw [if_pos (by omega)] | rw [if_neg (by omega)])); (try (first | rw [if_pos (by omega)] | rw [if_neg (by omega)])); (try (first | rw [if_pos (by omega)] | rw [if_neg (by omega)])); (try (first | rw [if_pos (by omega)] | rw [if_neg (by omega)])); (try rfl))) k)) dX5_write_43
  · skip
    omega
theorem e_write (g : Gt) (x i v : Int) (h_x : rng x) (h_i : rng i) (h_v : rng v) (ρ σ : Sg) (hS : σ 42 = mkS ρ) (hW : RW ρ 0) (h6 : σ 41 6 = 255) (hb : ∀ s, s < 4 → (σ 50 s = 0 ∨ σ 50 s = 8 ∨ σ 50 s = 16 ∨ σ 50 s = 32) ∧ 0 ≤ σ 51 s ∧ σ 51 s ≤ 40)  : Mt g yX5_write cX5_write 5 (some FieldType.int) 3 [.ref (gA g 41), .int (iI (x)), .int (iI (i)), .int (iI (v))] σ (pM (if 0 ≤ x ∧ x < 4 then (if σ 50 x.toNat = 0 then (-1000001 - ((5 : Nat) : Int)) else if 0 ≤ i ∧ i ≤ σ 51 x.toNat - 1 then 1 else (-1000001 - ((0 : Nat) : Int))) else (-1000001 - ((0 : Nat) : Int))) (if 0 ≤ x ∧ x < 4 then (if σ 50 x.toNat = 0 then ρ else ρ) else ρ) (if 0 ≤ x ∧ x < 4 then (if σ 50 x.toNat = 0 then finM 5 σ else if 0 ≤ i ∧ i ≤ σ 51 x.toNat - 1 then wr σ 52 (40 * x.toNat + i.toNat) (nrw (σ 50 x.toNat) v) else finM 0 σ) else finM 0 σ)) := by
  by_cases hx : 0 ≤ x ∧ x < 4
  · by_cases hB : σ 50 x.toNat = 0
    · (repeat rw [if_pos hx]); (repeat rw [if_pos hB])
      exact e_write_b g x i v h_x h_i h_v ρ σ hS hW hx hB
    · (repeat rw [if_pos hx]); (repeat rw [if_neg hB])
      exact e_write_c g x i v h_x h_i h_v ρ σ hS hW hx hB h6 hb 
  · (repeat rw [if_neg hx])
    exact e_write_a g x i v h_x h_i h_v ρ σ hS hW hx
set_option maxHeartbeats 4000000 in
set_option maxRecDepth 100000 in
theorem e_load_a (g : Gt) (x : Int) (h_x : rng x) (ρ σ : Sg) (hS : σ 42 = mkS ρ) (hW : RW ρ 0) (hx : ¬ (0 ≤ x ∧ x < 4)) : Mt g yX5_load cX5_load 4 (some FieldType.int) 3 [.ref (gA g 41), .int (iI (x))] σ (pM ((-1000001 - ((0 : Nat) : Int))) (ρ) (finM 0 σ)) := by
  obtain ⟨hn, hfl, hw, hdy, hz, hD_, hK_, hA_, hG_, hM_, hP_⟩ := id hW
  have hD : rgD (ρ 1) := hD_
  have hK : rgK (ρ 3) := hK_
  have hA : rgA (ρ 4) := hA_
  have hG : rgG (ρ 5) := hG_
  have hM : rgM (ρ 6) := hM_
  have hP : ∀ j, j < 10 → -1 ≤ ρ 7 j ∧ ρ 7 j < ρ 0 7 := hP_
  have ho_x := h_x.1; have hp_x := h_x.2
  refine mt_of (own := RX5) (by decide) rfl (Nat.le_of_ble_eq_true rfl) (fun E C => ?_)
  show J g E (pM ((-1000001 - ((0 : Nat) : Int))) (ρ) (finM 0 σ)) 4 0 [(0, .ref (gA g 41)), (1, .int (iI (x)))] [] σ
  refine r_aload_n (pc := 0) C dX5_load_0 rfl 0 rfl ?_
  refine r_iload_n (pc := 1) C dX5_load_1 rfl 1 rfl ?_
  refine r_cVi (pc := 2) C (c_wrong_a g x h_x hx σ) yX5_wrong_w O_41 rfl rfl t_1120 ⟨by decide, by decide⟩ (Nat.le_of_ble_eq_true rfl) rfl dX5_load_2 ?_
  refine r_istore_n (pc := 5) C dX5_load_5 rfl (by decide) [1, 2, 0] (lv' := [(0, .ref (gA g 41)), (1, .int (iI (x))), (2, .int (iI ((-1000001))))]) rfl ?_
  refine r_iload_n (pc := 6) C dX5_load_6 rfl 2 rfl ?_
  refine r_if_eq (pc := 7) C 16 ⟨by omega, by omega⟩ dX5_load_7 (by decide) (fun h7 => ?_) (fun h7 => ?_)
  · skip
    omega
  · skip
    refine r_aload_n (pc := 10) C dX5_load_10 rfl 0 rfl ?_
    refine r_iload_n (pc := 11) C dX5_load_11 rfl 2 rfl ?_
    refine r_cVi (pc := 12) C (c_finds g 0 (by decide) σ) yX5_finds_w O_41 rfl rfl t_855 ⟨by decide, by decide⟩ (Nat.le_of_ble_eq_true rfl) (by rw [show ((-1000001) : Int) = -1000001 - ((0 : Nat) : Int) by decide]; rfl) dX5_load_12 ?_
    exact r_retM (pc := 15) C (by first | (exfalso; omega; done) | ((try (first | rw [if_pos (by omega)] | rw [if_neg (by omega)])); (try rfl))) ((((wr_n _ _ _ (by omega)).trans hS)).trans (congrArg mkS (by first | (exfalso; omega; done) | ((try (first | rw [if_pos (by omega)] | rw [if_neg (by omega)])); (try rfl))))) (fun k hk => (rfl).trans (congrFun (by first | (exfalso; omega; done) | ((try (first | rw [if_pos (by omega)] | rw [if_neg (by omega)])); (try rfl))) k)) dX5_load_15
set_option maxHeartbeats 4000000 in
set_option maxRecDepth 100000 in
theorem e_load_b (g : Gt) (x : Int) (h_x : rng x) (ρ σ : Sg) (hS : σ 42 = mkS ρ) (hW : RW ρ 0) (hx : 0 ≤ x ∧ x < 4) (hB : σ 50 x.toNat = 0) : Mt g yX5_load cX5_load 4 (some FieldType.int) 3 [.ref (gA g 41), .int (iI (x))] σ (pM ((-1000001 - ((5 : Nat) : Int))) (ρ) (finM 5 σ)) := by
  obtain ⟨hn, hfl, hw, hdy, hz, hD_, hK_, hA_, hG_, hM_, hP_⟩ := id hW
  have hD : rgD (ρ 1) := hD_
  have hK : rgK (ρ 3) := hK_
  have hA : rgA (ρ 4) := hA_
  have hG : rgG (ρ 5) := hG_
  have hM : rgM (ρ 6) := hM_
  have hP : ∀ j, j < 10 → -1 ≤ ρ 7 j ∧ ρ 7 j < ρ 0 7 := hP_
  have ho_x := h_x.1; have hp_x := h_x.2
  refine mt_of (own := RX5) (by decide) rfl (Nat.le_of_ble_eq_true rfl) (fun E C => ?_)
  show J g E (pM ((-1000001 - ((5 : Nat) : Int))) (ρ) (finM 5 σ)) 4 0 [(0, .ref (gA g 41)), (1, .int (iI (x)))] [] σ
  refine r_aload_n (pc := 0) C dX5_load_0 rfl 0 rfl ?_
  refine r_iload_n (pc := 1) C dX5_load_1 rfl 1 rfl ?_
  refine r_cVi (pc := 2) C (c_wrong_b g x.toNat (by omega) σ hB) yX5_wrong_w O_41 rfl rfl t_1120 ⟨by decide, by decide⟩ (Nat.le_of_ble_eq_true rfl) (by rw [show ((x.toNat : Nat) : Int) = x by omega]; rfl) dX5_load_2 ?_
  refine r_istore_n (pc := 5) C dX5_load_5 rfl (by decide) [1, 2, 0] (lv' := [(0, .ref (gA g 41)), (1, .int (iI (x))), (2, .int (iI ((-1000006))))]) rfl ?_
  refine r_iload_n (pc := 6) C dX5_load_6 rfl 2 rfl ?_
  refine r_if_eq (pc := 7) C 16 ⟨by omega, by omega⟩ dX5_load_7 (by decide) (fun h7 => ?_) (fun h7 => ?_)
  · skip
    omega
  · skip
    refine r_aload_n (pc := 10) C dX5_load_10 rfl 0 rfl ?_
    refine r_iload_n (pc := 11) C dX5_load_11 rfl 2 rfl ?_
    refine r_cVi (pc := 12) C (c_finds g 5 (by decide) σ) yX5_finds_w O_41 rfl rfl t_855 ⟨by decide, by decide⟩ (Nat.le_of_ble_eq_true rfl) (by rw [show ((-1000006) : Int) = -1000001 - ((5 : Nat) : Int) by decide]; rfl) dX5_load_12 ?_
    exact r_retM (pc := 15) C (by first | (exfalso; omega; done) | ((try (first | rw [if_pos (by omega)] | rw [if_neg (by omega)])); (try rfl))) ((((wr_n _ _ _ (by omega)).trans hS)).trans (congrArg mkS (by first | (exfalso; omega; done) | ((try (first | rw [if_pos (by omega)] | rw [if_neg (by omega)])); (try rfl))))) (fun k hk => (rfl).trans (congrFun (by first | (exfalso; omega; done) | ((try (first | rw [if_pos (by omega)] | rw [if_neg (by omega)])); (try rfl))) k)) dX5_load_15
set_option maxHeartbeats 4000000 in
set_option maxRecDepth 100000 in
theorem e_load_c (g : Gt) (x : Int) (h_x : rng x) (ρ σ : Sg) (hS : σ 42 = mkS ρ) (hW : RW ρ 0) (hx : 0 ≤ x ∧ x < 4) (hB : ¬ σ 50 x.toNat = 0) (h6 : σ 41 6 = 255) (hb : ∀ s, s < 4 → (σ 50 s = 0 ∨ σ 50 s = 8 ∨ σ 50 s = 16 ∨ σ 50 s = 32) ∧ 0 ≤ σ 51 s ∧ σ 51 s ≤ 40) (hN : ∀ j, j < 160 → rng (σ 52 j)) : Mt g yX5_load cX5_load 4 (some FieldType.int) 3 [.ref (gA g 41), .int (iI (x))] σ (pM (((ldc (fun j => σ 52 (40 * x.toNat + j)) (σ 51 x.toNat) 13 0 : Nat) : Int)) (us ρ 1 (mapTo (fun j => σ 52 (40 * x.toNat + j)) (ρ 1) (ldc (fun j => σ 52 (40 * x.toNat + j)) (σ 51 x.toNat) 13 0))) (σ)) := by
  obtain ⟨hn, hfl, hw, hdy, hz, hD_, hK_, hA_, hG_, hM_, hP_⟩ := id hW
  have hD : rgD (ρ 1) := hD_
  have hK : rgK (ρ 3) := hK_
  have hA : rgA (ρ 4) := hA_
  have hG : rgG (ρ 5) := hG_
  have hM : rgM (ρ 6) := hM_
  have hP : ∀ j, j < 10 → -1 ≤ ρ 7 j ∧ ρ 7 j < ρ 0 7 := hP_
  have ho_x := h_x.1; have hp_x := h_x.2
  have hbx := hb x.toNat (by omega)
  refine mt_of (own := RX5) (by decide) rfl (Nat.le_of_ble_eq_true rfl) (fun E C => ?_)
  show J g E (pM (((ldc (fun j => σ 52 (40 * x.toNat + j)) (σ 51 x.toNat) 13 0 : Nat) : Int)) (us ρ 1 (mapTo (fun j => σ 52 (40 * x.toNat + j)) (ρ 1) (ldc (fun j => σ 52 (40 * x.toNat + j)) (σ 51 x.toNat) 13 0))) (σ)) 4 0 [(0, .ref (gA g 41)), (1, .int (iI (x)))] [] σ
  refine r_aload_n (pc := 0) C dX5_load_0 rfl 0 rfl ?_
  refine r_iload_n (pc := 1) C dX5_load_1 rfl 1 rfl ?_
  refine r_cVi (pc := 2) C (c_wrong_c g x.toNat (by omega) σ hB ⟨by have := (hb x.toNat (by omega)).1; omega, by have := (hb x.toNat (by omega)).1; omega⟩) yX5_wrong_w O_41 rfl rfl t_1120 ⟨by decide, by decide⟩ (Nat.le_of_ble_eq_true rfl) (by rw [show ((x.toNat : Nat) : Int) = x by omega]; rfl) dX5_load_2 ?_
  refine r_istore_n (pc := 5) C dX5_load_5 rfl (by decide) [1, 2, 0] (lv' := [(0, .ref (gA g 41)), (1, .int (iI (x))), (2, .int (iI (0)))]) rfl ?_
  refine r_iload_n (pc := 6) C dX5_load_6 rfl 2 rfl ?_
  refine r_if_eq (pc := 7) C 16 ⟨by omega, by omega⟩ dX5_load_7 (by decide) (fun h7 => ?_) (fun h7 => ?_)
  · skip
    refine r_iconst (pc := 16) C dX5_load_16 ?_
    refine r_istore_n (pc := 17) C dX5_load_17 rfl (by decide) [1, 2, 3, 0] (lv' := [(0, .ref (gA g 41)), (1, .int (iI (x))), (2, .int (iI (0))), (3, .int (iI (0)))]) rfl ?_
    have L18 : ∀ (n_ : Nat) (i : Nat) (x18_3 : Int) (s18 : Sg), 13 - i < n_ → (i ≤ 12) → (ldc (fun j => σ 52 (40 * x.toNat + j)) (σ 51 x.toNat) 13 0 = ldc (fun j => σ 52 (40 * x.toNat + j)) (σ 51 x.toNat) (13 - i) i) → x18_3 = (i : Int) → s18 = (us σ 42 (mkS (us ρ 1 (mapTo (fun j => σ 52 (40 * x.toNat + j)) (ρ 1) i)))) → J g E (pM (((ldc (fun j => σ 52 (40 * x.toNat + j)) (σ 51 x.toNat) 13 0 : Nat) : Int)) (us ρ 1 (mapTo (fun j => σ 52 (40 * x.toNat + j)) (ρ 1) (ldc (fun j => σ 52 (40 * x.toNat + j)) (σ 51 x.toNat) 13 0))) (σ)) 4 18 [(0, .ref (gA g 41)), (1, .int (iI (x))), (2, .int (iI (0))), (3, .int (iI (x18_3)))] [] s18 := by
      intro n_
      induction n_ with
      | zero => intro i x18_3 s18 hm_; exact absurd hm_ (Nat.not_lt_zero _)
      | succ n_ ih18 =>
        intro i x18_3 s18 hm18 hi18_0 hi18_1 e18_0 es18
        subst e18_0 es18
        refine r_iload_n (pc := 18) C dX5_load_18 rfl 3 rfl ?_
        refine r_aload_n (pc := 19) C dX5_load_19 rfl 0 rfl ?_
        refine r_getR5 (pc := 20) C 16 (k' := 51) rfl O_41 (by decide) rfl t_796 dX5_load_20 ?_
        refine r_iload_n (pc := 23) C dX5_load_23 rfl 1 rfl ?_
        refine r_iald (pc := 24) C x.toNat A_51 (by omega) (by omega) dX5_load_24 ?_
        refine r_top (us_o2 (k := 42) (k' := 51) _ _ _ (by omega)) ?_
        refine r_icmp_ge (pc := 25) C 81 ⟨by omega, by omega⟩ ⟨by omega, by omega⟩ dX5_load_25 (by decide) (fun h25 => ?_) (fun h25 => ?_)
        · skip
          have hF : ldc (fun j => σ 52 (40 * x.toNat + j)) (σ 51 x.toNat) 13 0 = i := by rw [hi18_1, show 13 - i = 13 - (i + 1) + 1 by omega, ldc, if_neg (by omega)]
          refine r_iload_n (pc := 81) C dX5_load_81 rfl 3 rfl ?_
          exact r_retM (pc := 82) C (by rw [hF]) (((us_s _ _ _)).trans (by rw [hF])) (fun k hk => us_n _ _ hk.1) dX5_load_82
        · skip
          refine r_iload_n (pc := 28) C dX5_load_28 rfl 3 rfl ?_
          refine r_bipush (pc := 29) C dX5_load_29 (by decide) ?_
          refine r_icmp_ge (pc := 31) C 81 ⟨by omega, by omega⟩ ⟨by omega, by omega⟩ dX5_load_31 (by decide) (fun h31 => ?_) (fun h31 => ?_)
          · skip
            have hF : ldc (fun j => σ 52 (40 * x.toNat + j)) (σ 51 x.toNat) 13 0 = i := by rw [hi18_1, show 13 - i = 13 - (i + 1) + 1 by omega, ldc, if_neg (by omega)]
            refine r_iload_n (pc := 81) C dX5_load_81 rfl 3 rfl ?_
            exact r_retM (pc := 82) C (by rw [hF]) (((us_s _ _ _)).trans (by rw [hF])) (fun k hk => us_n _ _ hk.1) dX5_load_82
          · skip
            refine r_aload_n (pc := 34) C dX5_load_34 rfl 0 rfl ?_
            refine r_getR5 (pc := 35) C 17 (k' := 52) rfl O_41 (by decide) rfl t_797 dX5_load_35 ?_
            refine r_bipush (pc := 38) C dX5_load_38 (by decide) ?_
            refine r_iload_n (pc := 40) C dX5_load_40 rfl 1 rfl ?_
            refine r_imul (pc := 41) C dX5_load_41 ?_
            refine r_iload_n (pc := 42) C dX5_load_42 rfl 3 rfl ?_
            refine r_iadd (pc := 43) C dX5_load_43 ?_
            refine r_iald (pc := 44) C (40 * x.toNat + i) A_52 (by omega) (by omega) dX5_load_44 ?_
            refine r_top (us_o2 (k := 42) (k' := 52) _ _ _ (by omega)) ?_
            have hr := hN (40 * x.toNat + i) (by omega)
            have hr1 := hr.1; have hr2 := hr.2
            refine r_i2l (pc := 45) C ⟨by omega, by omega⟩ dX5_load_45 ?_
            refine r_lconst (pc := 46) C (n := 0) dX5_load_46 (by decide) ?_
            refine r_ldc2 (pc := 47) C 9999 t_849 (by decide) dX5_load_47 ?_
            refine r_cSi (pc := 50) C (c_in g (σ 52 (40 * x.toNat + i)) 0 9999 ⟨by omega, by omega⟩ ⟨by omega, by omega⟩ ⟨by omega, by omega⟩ (us σ 42 (mkS (us ρ 1 (mapTo (fun j => σ 52 (40 * x.toNat + j)) (ρ 1) i))))) yX5_in_w rfl t_846 ⟨by decide, by decide⟩ (Nat.le_of_ble_eq_true rfl) rfl dX5_load_50 ?_
            refine r_ifz_eq (pc := 53) C 81 dX5_load_53 (by decide) (fun h53 => ?_) (fun h53 => ?_)
            · skip
              have hF : ldc (fun j => σ 52 (40 * x.toNat + j)) (σ 51 x.toNat) 13 0 = i := by rw [hi18_1, show 13 - i = 13 - (i + 1) + 1 by omega, ldc, if_neg (by omega)]
              refine r_iload_n (pc := 81) C dX5_load_81 rfl 3 rfl ?_
              exact r_retM (pc := 82) C (by rw [hF]) (((us_s _ _ _)).trans (by rw [hF])) (fun k hk => us_n _ _ hk.1) dX5_load_82
            · skip
              refine r_aload_n (pc := 56) C dX5_load_56 rfl 0 rfl ?_
              refine r_getR5 (pc := 57) C 0 (k' := 42) rfl O_41 (by decide) rfl t_780 dX5_load_57 ?_
              refine r_iconst (pc := 60) C dX5_load_60 ?_
              refine r_iload_n (pc := 61) C dX5_load_61 rfl 3 rfl ?_
              refine r_iadd (pc := 62) C dX5_load_62 ?_
              refine r_aload_n (pc := 63) C dX5_load_63 rfl 0 rfl ?_
              refine r_getR5 (pc := 64) C 17 (k' := 52) rfl O_41 (by decide) rfl t_797 dX5_load_64 ?_
              refine r_bipush (pc := 67) C dX5_load_67 (by decide) ?_
              refine r_iload_n (pc := 69) C dX5_load_69 rfl 1 rfl ?_
              refine r_imul (pc := 70) C dX5_load_70 ?_
              refine r_iload_n (pc := 71) C dX5_load_71 rfl 3 rfl ?_
              refine r_iadd (pc := 72) C dX5_load_72 ?_
              refine r_iald (pc := 73) C (40 * x.toNat + i) A_52 (by omega) (by omega) dX5_load_73 ?_
              refine r_top (us_o2 (k := 42) (k' := 52) _ _ _ (by omega)) ?_
              refine r_iast (pc := 74) C (5 + i) A_42 (by omega) (by omega) dX5_load_74 ?_
              refine r_sg (wrS2 (cidx_D (by omega))) ?_
              refine r_iinc (pc := 75) C dX5_load_75 3 rfl (by decide) [1, 2, 3, 0] (lv' := [(0, .ref (gA g 41)), (1, .int (iI (x))), (2, .int (iI (0))), (3, .int (iI ((i : Int) + 1)))]) rfl ?_
              refine r_goto (pc := 78) C 18 dX5_load_78 (by decide) ?_
              exact ih18 (i + 1) _ _ (by omega) (by omega) (by rw [hi18_1, show 13 - i = 13 - (i + 1) + 1 by omega, ldc, if_pos (by omega)]) (by omega) (congrArg (fun q => us σ 42 (mkS q)) ((wr_us _ _ _ _ _).trans (congrArg (us ρ 1) (mapTo_s (fun j => σ 52 (40 * x.toNat + j)) _ _))))
    exact L18 _ 0 _ _ (Nat.lt_succ_self _) (by omega) (by rfl) (rfl) ((us_idx (by rw [mapTo_0, us_id]; exact hS.symm)).symm)
  · skip
    omega
theorem e_load (g : Gt) (x : Int) (h_x : rng x) (ρ σ : Sg) (hS : σ 42 = mkS ρ) (hW : RW ρ 0) (h6 : σ 41 6 = 255) (hb : ∀ s, s < 4 → (σ 50 s = 0 ∨ σ 50 s = 8 ∨ σ 50 s = 16 ∨ σ 50 s = 32) ∧ 0 ≤ σ 51 s ∧ σ 51 s ≤ 40) (hN : ∀ j, j < 160 → rng (σ 52 j)) : Mt g yX5_load cX5_load 4 (some FieldType.int) 3 [.ref (gA g 41), .int (iI (x))] σ (pM (if 0 ≤ x ∧ x < 4 then (if σ 50 x.toNat = 0 then (-1000001 - ((5 : Nat) : Int)) else ((ldc (fun j => σ 52 (40 * x.toNat + j)) (σ 51 x.toNat) 13 0 : Nat) : Int)) else (-1000001 - ((0 : Nat) : Int))) (if 0 ≤ x ∧ x < 4 then (if σ 50 x.toNat = 0 then ρ else us ρ 1 (mapTo (fun j => σ 52 (40 * x.toNat + j)) (ρ 1) (ldc (fun j => σ 52 (40 * x.toNat + j)) (σ 51 x.toNat) 13 0))) else ρ) (if 0 ≤ x ∧ x < 4 then (if σ 50 x.toNat = 0 then finM 5 σ else σ) else finM 0 σ)) := by
  by_cases hx : 0 ≤ x ∧ x < 4
  · by_cases hB : σ 50 x.toNat = 0
    · (repeat rw [if_pos hx]); (repeat rw [if_pos hB])
      exact e_load_b g x h_x ρ σ hS hW hx hB
    · (repeat rw [if_pos hx]); (repeat rw [if_neg hB])
      exact e_load_c g x h_x ρ σ hS hW hx hB h6 hb hN
  · (repeat rw [if_neg hx])
    exact e_load_a g x h_x ρ σ hS hW hx
set_option maxHeartbeats 4000000 in
set_option maxRecDepth 100000 in
theorem e_judge_a (g : Gt) (x : Int) (h_x : rng x) (ρ σ : Sg) (hS : σ 42 = mkS ρ) (hW : RW ρ 0) (hx : ¬ (0 ≤ x ∧ x < 4)) : Mt g yX5_judge cX5_judge 4 (some FieldType.int) 3 [.ref (gA g 41), .int (iI (x))] σ (pM ((-1000001 - ((0 : Nat) : Int))) (ρ) (finM 0 σ)) := by
  obtain ⟨hn, hfl, hw, hdy, hz, hD_, hK_, hA_, hG_, hM_, hP_⟩ := id hW
  have hD : rgD (ρ 1) := hD_
  have hK : rgK (ρ 3) := hK_
  have hA : rgA (ρ 4) := hA_
  have hG : rgG (ρ 5) := hG_
  have hM : rgM (ρ 6) := hM_
  have hP : ∀ j, j < 10 → -1 ≤ ρ 7 j ∧ ρ 7 j < ρ 0 7 := hP_
  have ho_x := h_x.1; have hp_x := h_x.2
  refine mt_of (own := RX5) (by decide) rfl (Nat.le_of_ble_eq_true rfl) (fun E C => ?_)
  show J g E (pM ((-1000001 - ((0 : Nat) : Int))) (ρ) (finM 0 σ)) 4 0 [(0, .ref (gA g 41)), (1, .int (iI (x)))] [] σ
  refine r_aload_n (pc := 0) C dX5_judge_0 rfl 0 rfl ?_
  refine r_iload_n (pc := 1) C dX5_judge_1 rfl 1 rfl ?_
  refine r_cVi (pc := 2) C (c_wrong_a g x h_x hx σ) yX5_wrong_w O_41 rfl rfl t_1120 ⟨by decide, by decide⟩ (Nat.le_of_ble_eq_true rfl) rfl dX5_judge_2 ?_
  refine r_istore_n (pc := 5) C dX5_judge_5 rfl (by decide) [1, 2, 0] (lv' := [(0, .ref (gA g 41)), (1, .int (iI (x))), (2, .int (iI ((-1000001))))]) rfl ?_
  refine r_iload_n (pc := 6) C dX5_judge_6 rfl 2 rfl ?_
  refine r_if_eq (pc := 7) C 16 ⟨by omega, by omega⟩ dX5_judge_7 (by decide) (fun h7 => ?_) (fun h7 => ?_)
  · skip
    omega
  · skip
    refine r_aload_n (pc := 10) C dX5_judge_10 rfl 0 rfl ?_
    refine r_iload_n (pc := 11) C dX5_judge_11 rfl 2 rfl ?_
    refine r_cVi (pc := 12) C (c_finds g 0 (by decide) σ) yX5_finds_w O_41 rfl rfl t_855 ⟨by decide, by decide⟩ (Nat.le_of_ble_eq_true rfl) (by rw [show ((-1000001) : Int) = -1000001 - ((0 : Nat) : Int) by decide]; rfl) dX5_judge_12 ?_
    exact r_retM (pc := 15) C (by first | (exfalso; omega; done) | ((try (first | rw [if_pos (by omega)] | rw [if_neg (by omega)])); (try rfl))) ((((wr_n _ _ _ (by omega)).trans hS)).trans (congrArg mkS (by first | (exfalso; omega; done) | ((try (first | rw [if_pos (by omega)] | rw [if_neg (by omega)])); (try rfl))))) (fun k hk => (rfl).trans (congrFun (by first | (exfalso; omega; done) | ((try (first | rw [if_pos (by omega)] | rw [if_neg (by omega)])); (try rfl))) k)) dX5_judge_15
set_option maxHeartbeats 4000000 in
set_option maxRecDepth 100000 in
theorem e_judge_b (g : Gt) (x : Int) (h_x : rng x) (ρ σ : Sg) (hS : σ 42 = mkS ρ) (hW : RW ρ 0) (hx : 0 ≤ x ∧ x < 4) (hB : σ 50 x.toNat = 0) : Mt g yX5_judge cX5_judge 4 (some FieldType.int) 3 [.ref (gA g 41), .int (iI (x))] σ (pM ((-1000001 - ((5 : Nat) : Int))) (ρ) (finM 5 σ)) := by
  obtain ⟨hn, hfl, hw, hdy, hz, hD_, hK_, hA_, hG_, hM_, hP_⟩ := id hW
  have hD : rgD (ρ 1) := hD_
  have hK : rgK (ρ 3) := hK_
  have hA : rgA (ρ 4) := hA_
  have hG : rgG (ρ 5) := hG_
  have hM : rgM (ρ 6) := hM_
  have hP : ∀ j, j < 10 → -1 ≤ ρ 7 j ∧ ρ 7 j < ρ 0 7 := hP_
  have ho_x := h_x.1; have hp_x := h_x.2
  refine mt_of (own := RX5) (by decide) rfl (Nat.le_of_ble_eq_true rfl) (fun E C => ?_)
  show J g E (pM ((-1000001 - ((5 : Nat) : Int))) (ρ) (finM 5 σ)) 4 0 [(0, .ref (gA g 41)), (1, .int (iI (x)))] [] σ
  refine r_aload_n (pc := 0) C dX5_judge_0 rfl 0 rfl ?_
  refine r_iload_n (pc := 1) C dX5_judge_1 rfl 1 rfl ?_
  refine r_cVi (pc := 2) C (c_wrong_b g x.toNat (by omega) σ hB) yX5_wrong_w O_41 rfl rfl t_1120 ⟨by decide, by decide⟩ (Nat.le_of_ble_eq_true rfl) (by rw [show ((x.toNat : Nat) : Int) = x by omega]; rfl) dX5_judge_2 ?_
  refine r_istore_n (pc := 5) C dX5_judge_5 rfl (by decide) [1, 2, 0] (lv' := [(0, .ref (gA g 41)), (1, .int (iI (x))), (2, .int (iI ((-1000006))))]) rfl ?_
  refine r_iload_n (pc := 6) C dX5_judge_6 rfl 2 rfl ?_
  refine r_if_eq (pc := 7) C 16 ⟨by omega, by omega⟩ dX5_judge_7 (by decide) (fun h7 => ?_) (fun h7 => ?_)
  · skip
    omega
  · skip
    refine r_aload_n (pc := 10) C dX5_judge_10 rfl 0 rfl ?_
    refine r_iload_n (pc := 11) C dX5_judge_11 rfl 2 rfl ?_
    refine r_cVi (pc := 12) C (c_finds g 5 (by decide) σ) yX5_finds_w O_41 rfl rfl t_855 ⟨by decide, by decide⟩ (Nat.le_of_ble_eq_true rfl) (by rw [show ((-1000006) : Int) = -1000001 - ((5 : Nat) : Int) by decide]; rfl) dX5_judge_12 ?_
    exact r_retM (pc := 15) C (by first | (exfalso; omega; done) | ((try (first | rw [if_pos (by omega)] | rw [if_neg (by omega)])); (try rfl))) ((((wr_n _ _ _ (by omega)).trans hS)).trans (congrArg mkS (by first | (exfalso; omega; done) | ((try (first | rw [if_pos (by omega)] | rw [if_neg (by omega)])); (try rfl))))) (fun k hk => (rfl).trans (congrFun (by first | (exfalso; omega; done) | ((try (first | rw [if_pos (by omega)] | rw [if_neg (by omega)])); (try rfl))) k)) dX5_judge_15
set_option maxHeartbeats 4000000 in
set_option maxRecDepth 100000 in
theorem e_judge_c (g : Gt) (x : Int) (h_x : rng x) (ρ σ : Sg) (hS : σ 42 = mkS ρ) (hW : RW ρ 0) (hx : 0 ≤ x ∧ x < 4) (hB : ¬ σ 50 x.toNat = 0) (h6 : σ 41 6 = 255) (hb : ∀ s, s < 4 → (σ 50 s = 0 ∨ σ 50 s = 8 ∨ σ 50 s = 16 ∨ σ 50 s = 32) ∧ 0 ≤ σ 51 s ∧ σ 51 s ≤ 40) (hN : ∀ j, j < 160 → rng (σ 52 j)) : Mt g yX5_judge cX5_judge 4 (some FieldType.int) 3 [.ref (gA g 41), .int (iI (x))] σ (pM (jdc (fun j => σ 52 (40 * x.toNat + j)) (σ 51 x.toNat) (ρ 0 7) (ρ 6) 41 0) (ρ) (σ)) := by
  obtain ⟨hn, hfl, hw, hdy, hz, hD_, hK_, hA_, hG_, hM_, hP_⟩ := id hW
  have hD : rgD (ρ 1) := hD_
  have hK : rgK (ρ 3) := hK_
  have hA : rgA (ρ 4) := hA_
  have hG : rgG (ρ 5) := hG_
  have hM : rgM (ρ 6) := hM_
  have hP : ∀ j, j < 10 → -1 ≤ ρ 7 j ∧ ρ 7 j < ρ 0 7 := hP_
  have ho_x := h_x.1; have hp_x := h_x.2
  have hbx := hb x.toNat (by omega)
  refine mt_of (own := RX5) (by decide) rfl (Nat.le_of_ble_eq_true rfl) (fun E C => ?_)
  show J g E (pM (jdc (fun j => σ 52 (40 * x.toNat + j)) (σ 51 x.toNat) (ρ 0 7) (ρ 6) 41 0) (ρ) (σ)) 4 0 [(0, .ref (gA g 41)), (1, .int (iI (x)))] [] σ
  refine r_aload_n (pc := 0) C dX5_judge_0 rfl 0 rfl ?_
  refine r_iload_n (pc := 1) C dX5_judge_1 rfl 1 rfl ?_
  refine r_cVi (pc := 2) C (c_wrong_c g x.toNat (by omega) σ hB ⟨by have := (hb x.toNat (by omega)).1; omega, by have := (hb x.toNat (by omega)).1; omega⟩) yX5_wrong_w O_41 rfl rfl t_1120 ⟨by decide, by decide⟩ (Nat.le_of_ble_eq_true rfl) (by rw [show ((x.toNat : Nat) : Int) = x by omega]; rfl) dX5_judge_2 ?_
  refine r_istore_n (pc := 5) C dX5_judge_5 rfl (by decide) [1, 2, 0] (lv' := [(0, .ref (gA g 41)), (1, .int (iI (x))), (2, .int (iI (0)))]) rfl ?_
  refine r_iload_n (pc := 6) C dX5_judge_6 rfl 2 rfl ?_
  refine r_if_eq (pc := 7) C 16 ⟨by omega, by omega⟩ dX5_judge_7 (by decide) (fun h7 => ?_) (fun h7 => ?_)
  · skip
    refine r_iconst (pc := 16) C dX5_judge_16 ?_
    refine r_istore_n (pc := 17) C dX5_judge_17 rfl (by decide) [1, 2, 3, 0] (lv' := [(0, .ref (gA g 41)), (1, .int (iI (x))), (2, .int (iI (0))), (3, .int (iI (0)))]) rfl ?_
    have L18 : ∀ (n_ : Nat) (i : Nat) (x18_3 : Int), 41 - i < n_ → (i ≤ 40) → (jdc (fun j => σ 52 (40 * x.toNat + j)) (σ 51 x.toNat) (ρ 0 7) (ρ 6) 41 0 = jdc (fun j => σ 52 (40 * x.toNat + j)) (σ 51 x.toNat) (ρ 0 7) (ρ 6) (41 - i) i) → x18_3 = (i : Int) → J g E (pM (jdc (fun j => σ 52 (40 * x.toNat + j)) (σ 51 x.toNat) (ρ 0 7) (ρ 6) 41 0) (ρ) (σ)) 4 18 [(0, .ref (gA g 41)), (1, .int (iI (x))), (2, .int (iI (0))), (3, .int (iI (x18_3)))] [] σ := by
      intro n_
      induction n_ with
      | zero => intro i x18_3  hm_; exact absurd hm_ (Nat.not_lt_zero _)
      | succ n_ ih18 =>
        intro i x18_3  hm18 hi18_0 hi18_1 e18_0 
        subst e18_0 
        refine r_iload_n (pc := 18) C dX5_judge_18 rfl 3 rfl ?_
        refine r_aload_n (pc := 19) C dX5_judge_19 rfl 0 rfl ?_
        refine r_getR5 (pc := 20) C 16 (k' := 51) rfl O_41 (by decide) rfl t_796 dX5_judge_20 ?_
        refine r_iload_n (pc := 23) C dX5_judge_23 rfl 1 rfl ?_
        refine r_iald (pc := 24) C x.toNat A_51 (by omega) (by omega) dX5_judge_24 ?_
        refine r_icmp_ge (pc := 25) C 63 ⟨by omega, by omega⟩ ⟨by omega, by omega⟩ dX5_judge_25 (by decide) (fun h25 => ?_) (fun h25 => ?_)
        · skip
          refine r_iconst (pc := 63) C dX5_judge_63 ?_
          exact r_retM (pc := 64) C (by rw [hi18_1, show 41 - i = 41 - (i + 1) + 1 by omega, jdc, if_neg (by omega)]) (hS) (fun k hk => rfl) dX5_judge_64
        · skip
          refine r_iload_n (pc := 28) C dX5_judge_28 rfl 3 rfl ?_
          refine r_bipush (pc := 29) C dX5_judge_29 (by decide) ?_
          refine r_icmp_ge (pc := 31) C 53 ⟨by omega, by omega⟩ ⟨by omega, by omega⟩ dX5_judge_31 (by decide) (fun h31 => ?_) (fun h31 => ?_)
          · skip
            refine r_iconst (pc := 53) C dX5_judge_53 ?_
            refine r_iload_n (pc := 54) C dX5_judge_54 rfl 3 rfl ?_
            refine r_iadd (pc := 55) C dX5_judge_55 ?_
            exact r_retM (pc := 56) C (by rw [hi18_1, show 41 - i = 41 - (i + 1) + 1 by omega, jdc, if_pos (by omega), if_pos (by omega)]) (hS) (fun k hk => rfl) dX5_judge_56
          · skip
            refine r_aload_n (pc := 34) C dX5_judge_34 rfl 0 rfl ?_
            refine r_getR5 (pc := 35) C 17 (k' := 52) rfl O_41 (by decide) rfl t_797 dX5_judge_35 ?_
            refine r_bipush (pc := 38) C dX5_judge_38 (by decide) ?_
            refine r_iload_n (pc := 40) C dX5_judge_40 rfl 1 rfl ?_
            refine r_imul (pc := 41) C dX5_judge_41 ?_
            refine r_iload_n (pc := 42) C dX5_judge_42 rfl 3 rfl ?_
            refine r_iadd (pc := 43) C dX5_judge_43 ?_
            refine r_iald (pc := 44) C (40 * x.toNat + i) A_52 (by omega) (by omega) dX5_judge_44 ?_
            have hr := hN (40 * x.toNat + i) (by omega)
            have hr1 := hr.1; have hr2 := hr.2
            have hh := holder_rng (ρ 0 7) (ρ 6) i hn.1
            refine r_aload_n (pc := 45) C dX5_judge_45 rfl 0 rfl ?_
            refine r_iload_n (pc := 46) C dX5_judge_46 rfl 3 rfl ?_
            refine r_cVi (pc := 47) C (c_m_holderOf g i (by omega) ρ σ hS hn hM) yX5_holderOf_w O_41 rfl rfl t_864 ⟨by decide, by decide⟩ (Nat.le_of_ble_eq_true rfl) rfl dX5_judge_47 ?_
            refine r_icmp_eq (pc := 50) C 57 ⟨by omega, by omega⟩ ⟨by omega, by omega⟩ dX5_judge_50 (by decide) (fun h50 => ?_) (fun h50 => ?_)
            · skip
              refine r_iinc (pc := 57) C dX5_judge_57 3 rfl (by decide) [1, 2, 3, 0] (lv' := [(0, .ref (gA g 41)), (1, .int (iI (x))), (2, .int (iI (0))), (3, .int (iI ((i : Int) + 1)))]) rfl ?_
              refine r_goto (pc := 60) C 18 dX5_judge_60 (by decide) ?_
              exact ih18 (i + 1) _ (by omega) (by omega) (by rw [hi18_1, show 41 - i = 41 - (i + 1) + 1 by omega, jdc, if_pos (by omega), if_neg (by omega)]) (by omega)
            · skip
              refine r_iconst (pc := 53) C dX5_judge_53 ?_
              refine r_iload_n (pc := 54) C dX5_judge_54 rfl 3 rfl ?_
              refine r_iadd (pc := 55) C dX5_judge_55 ?_
              exact r_retM (pc := 56) C (by rw [hi18_1, show 41 - i = 41 - (i + 1) + 1 by omega, jdc, if_pos (by omega), if_pos (by omega)]) (hS) (fun k hk => rfl) dX5_judge_56
    exact L18 _ 0 _ (Nat.lt_succ_self _) (by omega) (by rfl) (rfl)
  · skip
    omega
theorem e_judge (g : Gt) (x : Int) (h_x : rng x) (ρ σ : Sg) (hS : σ 42 = mkS ρ) (hW : RW ρ 0) (h6 : σ 41 6 = 255) (hb : ∀ s, s < 4 → (σ 50 s = 0 ∨ σ 50 s = 8 ∨ σ 50 s = 16 ∨ σ 50 s = 32) ∧ 0 ≤ σ 51 s ∧ σ 51 s ≤ 40) (hN : ∀ j, j < 160 → rng (σ 52 j)) : Mt g yX5_judge cX5_judge 4 (some FieldType.int) 3 [.ref (gA g 41), .int (iI (x))] σ (pM (if 0 ≤ x ∧ x < 4 then (if σ 50 x.toNat = 0 then (-1000001 - ((5 : Nat) : Int)) else jdc (fun j => σ 52 (40 * x.toNat + j)) (σ 51 x.toNat) (ρ 0 7) (ρ 6) 41 0) else (-1000001 - ((0 : Nat) : Int))) (if 0 ≤ x ∧ x < 4 then (if σ 50 x.toNat = 0 then ρ else ρ) else ρ) (if 0 ≤ x ∧ x < 4 then (if σ 50 x.toNat = 0 then finM 5 σ else σ) else finM 0 σ)) := by
  by_cases hx : 0 ≤ x ∧ x < 4
  · by_cases hB : σ 50 x.toNat = 0
    · (repeat rw [if_pos hx]); (repeat rw [if_pos hB])
      exact e_judge_b g x h_x ρ σ hS hW hx hB
    · (repeat rw [if_pos hx]); (repeat rw [if_neg hB])
      exact e_judge_c g x h_x ρ σ hS hW hx hB h6 hb hN
  · (repeat rw [if_neg hx])
    exact e_judge_a g x h_x ρ σ hS hW hx
set_option maxHeartbeats 4000000 in
set_option maxRecDepth 100000 in
theorem e_sheet (g : Gt) (x b n : Int) (h_x : rng x) (h_b : rng b) (h_n : rng n) (ρ σ : Sg) (hS : σ 42 = mkS ρ) (hW : RW ρ 0)  : Mt g yX5_sheet cX5_sheet 5 (some FieldType.int) 2 [.ref (gA g 41), .int (iI (x)), .int (iI (b)), .int (iI (n))] σ (pM (if (0 ≤ x ∧ x < 4) ∧ (b = 0 ∨ b = 8 ∨ b = 16 ∨ b = 32) then (if n < 0 then (-1000001 - ((6 : Nat) : Int)) else if 40 < n then (-1000001 - ((0 : Nat) : Int)) else (if b = 0 then 0 else n)) else (-1000001 - ((0 : Nat) : Int))) (ρ) (if (0 ≤ x ∧ x < 4) ∧ (b = 0 ∨ b = 8 ∨ b = 16 ∨ b = 32) then (if n < 0 then finM 6 σ else if 40 < n then finM 0 σ else us (wr (wr σ 50 x.toNat b) 51 x.toNat (if b = 0 then 0 else n)) 52 (mapTo2 (40 * x.toNat) (fun _ => 0) (σ 52) 40)) else finM 0 σ)) := by
  obtain ⟨hn, hfl, hw, hdy, hz, hD_, hK_, hA_, hG_, hM_, hP_⟩ := id hW
  have hD : rgD (ρ 1) := hD_
  have hK : rgK (ρ 3) := hK_
  have hA : rgA (ρ 4) := hA_
  have hG : rgG (ρ 5) := hG_
  have hM : rgM (ρ 6) := hM_
  have hP : ∀ j, j < 10 → -1 ≤ ρ 7 j ∧ ρ 7 j < ρ 0 7 := hP_
  have ho_x := h_x.1; have hp_x := h_x.2
  have ho_b := h_b.1; have hp_b := h_b.2
  have ho_n := h_n.1; have hp_n := h_n.2
  refine mt_of (own := RX5) (by decide) rfl (Nat.le_of_ble_eq_true rfl) (fun E C => ?_)
  show J g E (pM (if (0 ≤ x ∧ x < 4) ∧ (b = 0 ∨ b = 8 ∨ b = 16 ∨ b = 32) then (if n < 0 then (-1000001 - ((6 : Nat) : Int)) else if 40 < n then (-1000001 - ((0 : Nat) : Int)) else (if b = 0 then 0 else n)) else (-1000001 - ((0 : Nat) : Int))) (ρ) (if (0 ≤ x ∧ x < 4) ∧ (b = 0 ∨ b = 8 ∨ b = 16 ∨ b = 32) then (if n < 0 then finM 6 σ else if 40 < n then finM 0 σ else us (wr (wr σ 50 x.toNat b) 51 x.toNat (if b = 0 then 0 else n)) 52 (mapTo2 (40 * x.toNat) (fun _ => 0) (σ 52) 40)) else finM 0 σ)) 5 0 [(0, .ref (gA g 41)), (1, .int (iI (x))), (2, .int (iI (b))), (3, .int (iI (n)))] [] σ
  refine r_iload_n (pc := 0) C dX5_sheet_0 rfl 1 rfl ?_
  refine r_cSi (pc := 1) C (c_m_isOne g x h_x σ) yX5_isOne_w rfl t_1124 ⟨by decide, by decide⟩ (Nat.le_of_ble_eq_true rfl) rfl dX5_sheet_1 ?_
  refine r_ifz_eq (pc := 4) C 29 dX5_sheet_4 (by decide) (fun h4 => ?_) (fun h4 => ?_)
  · skip
    refine r_aload_n (pc := 29) C dX5_sheet_29 rfl 0 rfl ?_
    refine r_ldc (pc := 30) C (-1000001) t_854 (by decide) dX5_sheet_30 ?_
    refine r_cVi (pc := 32) C (c_finds g 0 (by decide) σ) yX5_finds_w O_41 rfl rfl t_855 ⟨by decide, by decide⟩ (Nat.le_of_ble_eq_true rfl) (by rw [show ((-1000001) : Int) = -1000001 - ((0 : Nat) : Int) by decide]; rfl) dX5_sheet_32 ?_
    exact r_retM (pc := 35) C (by first | (exfalso; omega; done) | ((try (first | rw [if_pos (by omega)] | rw [if_neg (by omega)])); (try (first | rw [if_pos (by omega)] | rw [if_neg (by omega)])); (try (first | rw [if_pos (by omega)] | rw [if_neg (by omega)])); (try (first | rw [if_pos (by omega)] | rw [if_neg (by omega)])); (try rfl))) ((((wr_n _ _ _ (by omega)).trans hS)).trans (congrArg mkS (by first | (exfalso; omega; done) | ((try (first | rw [if_pos (by omega)] | rw [if_neg (by omega)])); (try (first | rw [if_pos (by omega)] | rw [if_neg (by omega)])); (try (first | rw [if_pos (by omega)] | rw [if_neg (by omega)])); (try (first | rw [if_pos (by omega)] | rw [if_neg (by omega)])); (try rfl))))) (fun k hk => (rfl).trans (congrFun (by first | (exfalso; omega; done) | ((try (first | rw [if_pos (by omega)] | rw [if_neg (by omega)])); (try (first | rw [if_pos (by omega)] | rw [if_neg (by omega)])); (try (first | rw [if_pos (by omega)] | rw [if_neg (by omega)])); (try (first | rw [if_pos (by omega)] | rw [if_neg (by omega)])); (try rfl))) k)) dX5_sheet_35
  · skip
    refine r_iload_n (pc := 7) C dX5_sheet_7 rfl 2 rfl ?_
    refine r_if_eq (pc := 8) C 36 h_b dX5_sheet_8 (by decide) (fun h8 => ?_) (fun h8 => ?_)
    · skip
      refine r_iload_n (pc := 36) C dX5_sheet_36 rfl 3 rfl ?_
      refine r_if_ge (pc := 37) C 48 h_n dX5_sheet_37 (by decide) (fun h37 => ?_) (fun h37 => ?_)
      · skip
        refine r_iload_n (pc := 48) C dX5_sheet_48 rfl 3 rfl ?_
        refine r_bipush (pc := 49) C dX5_sheet_49 (by decide) ?_
        refine r_icmp_le (pc := 51) C 61 h_n ⟨by omega, by omega⟩ dX5_sheet_51 (by decide) (fun h51 => ?_) (fun h51 => ?_)
        · skip
          refine r_aload_n (pc := 61) C dX5_sheet_61 rfl 0 rfl ?_
          refine r_getR5 (pc := 62) C 15 (k' := 50) rfl O_41 (by decide) rfl t_795 dX5_sheet_62 ?_
          refine r_iload_n (pc := 65) C dX5_sheet_65 rfl 1 rfl ?_
          refine r_iload_n (pc := 66) C dX5_sheet_66 rfl 2 rfl ?_
          refine r_iast (pc := 67) C x.toNat A_50 (by omega) (by omega) dX5_sheet_67 ?_
          refine r_aload_n (pc := 68) C dX5_sheet_68 rfl 0 rfl ?_
          refine r_getR5 (pc := 69) C 16 (k' := 51) rfl O_41 (by decide) rfl t_796 dX5_sheet_69 ?_
          refine r_iload_n (pc := 72) C dX5_sheet_72 rfl 1 rfl ?_
          refine r_iload_n (pc := 73) C dX5_sheet_73 rfl 2 rfl ?_
          refine r_if_ne (pc := 74) C 81 h_b dX5_sheet_74 (by decide) (fun h74 => ?_) (fun h74 => ?_)
          · skip
            refine r_iload_n (pc := 81) C dX5_sheet_81 rfl 3 rfl ?_
            refine r_iast (pc := 82) C x.toNat A_51 (by omega) (by omega) dX5_sheet_82 ?_
            refine r_iconst (pc := 83) C dX5_sheet_83 ?_
            refine r_istore (pc := 84) C dX5_sheet_84 (by decide) [1, 2, 3, 4, 0] (lv' := [(0, .ref (gA g 41)), (1, .int (iI (x))), (2, .int (iI (b))), (3, .int (iI (n))), (4, .int (iI (0)))]) rfl ?_
            have L86 : ∀ (n_ : Nat) (i : Nat) (x86_4 : Int) (s86 : Sg), 40 - i < n_ → (i ≤ 40) → x86_4 = (i : Int) → s86 = (us (wr (wr σ 50 x.toNat b) 51 x.toNat (if b = 0 then 0 else n)) 52 (mapTo2 (40 * x.toNat) (fun _ => 0) (σ 52) i)) → J g E (pM (if (0 ≤ x ∧ x < 4) ∧ (b = 0 ∨ b = 8 ∨ b = 16 ∨ b = 32) then (if n < 0 then (-1000001 - ((6 : Nat) : Int)) else if 40 < n then (-1000001 - ((0 : Nat) : Int)) else (if b = 0 then 0 else n)) else (-1000001 - ((0 : Nat) : Int))) (ρ) (if (0 ≤ x ∧ x < 4) ∧ (b = 0 ∨ b = 8 ∨ b = 16 ∨ b = 32) then (if n < 0 then finM 6 σ else if 40 < n then finM 0 σ else us (wr (wr σ 50 x.toNat b) 51 x.toNat (if b = 0 then 0 else n)) 52 (mapTo2 (40 * x.toNat) (fun _ => 0) (σ 52) 40)) else finM 0 σ)) 5 86 [(0, .ref (gA g 41)), (1, .int (iI (x))), (2, .int (iI (b))), (3, .int (iI (n))), (4, .int (iI (x86_4)))] [] s86 := by
              intro n_
              induction n_ with
              | zero => intro i x86_4 s86 hm_; exact absurd hm_ (Nat.not_lt_zero _)
              | succ n_ ih86 =>
                intro i x86_4 s86 hm86 hi86_0 e86_0 es86
                subst e86_0 es86
                refine r_iload (pc := 86) C dX5_sheet_86 4 rfl ?_
                refine r_bipush (pc := 88) C dX5_sheet_88 (by decide) ?_
                refine r_icmp_ge (pc := 90) C 112 ⟨by omega, by omega⟩ ⟨by omega, by omega⟩ dX5_sheet_90 (by decide) (fun h90 => ?_) (fun h90 => ?_)
                · skip
                  refine r_aload_n (pc := 112) C dX5_sheet_112 rfl 0 rfl ?_
                  refine r_getR5 (pc := 113) C 16 (k' := 51) rfl O_41 (by decide) rfl t_796 dX5_sheet_113 ?_
                  refine r_iload_n (pc := 116) C dX5_sheet_116 rfl 1 rfl ?_
                  refine r_iald (pc := 117) C x.toNat A_51 (by omega) (by omega) dX5_sheet_117 ?_
                  refine r_top ((us_o2 (k := 52) (k' := 51) _ _ _ (by omega)).trans (wr_s2 _ _ _ _)) ?_
                  exact r_retM (pc := 118) C (((if_pos (by omega)).trans ((if_neg (by omega)).trans (if_neg (by omega)))).symm) (((us_n _ _ (by omega)).trans ((wr_n _ _ _ (by omega)).trans ((wr_n _ _ _ (by omega)).trans hS)))) (fun k hk => by rw [show i = 40 by omega]; exact congrFun (((if_pos (by omega)).trans ((if_neg (by omega)).trans (if_neg (by omega)))).symm) k) dX5_sheet_118
                · skip
                  refine r_aload_n (pc := 93) C dX5_sheet_93 rfl 0 rfl ?_
                  refine r_getR5 (pc := 94) C 17 (k' := 52) rfl O_41 (by decide) rfl t_797 dX5_sheet_94 ?_
                  refine r_bipush (pc := 97) C dX5_sheet_97 (by decide) ?_
                  refine r_iload_n (pc := 99) C dX5_sheet_99 rfl 1 rfl ?_
                  refine r_imul (pc := 100) C dX5_sheet_100 ?_
                  refine r_iload (pc := 101) C dX5_sheet_101 4 rfl ?_
                  refine r_iadd (pc := 103) C dX5_sheet_103 ?_
                  refine r_iconst (pc := 104) C dX5_sheet_104 ?_
                  refine r_iast (pc := 105) C (40 * x.toNat + i) A_52 (by omega) (by omega) dX5_sheet_105 ?_
                  refine r_iinc (pc := 106) C dX5_sheet_106 4 rfl (by decide) [1, 2, 3, 4, 0] (lv' := [(0, .ref (gA g 41)), (1, .int (iI (x))), (2, .int (iI (b))), (3, .int (iI (n))), (4, .int (iI ((i : Int) + 1)))]) rfl ?_
                  refine r_goto (pc := 109) C 86 dX5_sheet_109 (by decide) ?_
                  exact ih86 (i + 1) _ _ (by omega) (by omega) (by omega) ((wr_us _ _ _ _ _).trans (congrArg (us _ 52) (mapTo2_s _ _ _ _)))
            exact L86 _ 0 _ _ (Nat.lt_succ_self _) (by omega) (rfl) (by rw [mapTo2_0]; first | (rw [if_pos (by omega)]; exact (us_idx rfl).symm) | (rw [if_neg (by omega)]; exact (us_idx rfl).symm))
          · skip
            refine r_iconst (pc := 77) C dX5_sheet_77 ?_
            refine r_goto (pc := 78) C 82 dX5_sheet_78 (by decide) ?_
            refine r_iast (pc := 82) C x.toNat A_51 (by omega) (by omega) dX5_sheet_82 ?_
            refine r_iconst (pc := 83) C dX5_sheet_83 ?_
            refine r_istore (pc := 84) C dX5_sheet_84 (by decide) [1, 2, 3, 4, 0] (lv' := [(0, .ref (gA g 41)), (1, .int (iI (x))), (2, .int (iI (b))), (3, .int (iI (n))), (4, .int (iI (0)))]) rfl ?_
            have L86 : ∀ (n_ : Nat) (i : Nat) (x86_4 : Int) (s86 : Sg), 40 - i < n_ → (i ≤ 40) → x86_4 = (i : Int) → s86 = (us (wr (wr σ 50 x.toNat b) 51 x.toNat (if b = 0 then 0 else n)) 52 (mapTo2 (40 * x.toNat) (fun _ => 0) (σ 52) i)) → J g E (pM (if (0 ≤ x ∧ x < 4) ∧ (b = 0 ∨ b = 8 ∨ b = 16 ∨ b = 32) then (if n < 0 then (-1000001 - ((6 : Nat) : Int)) else if 40 < n then (-1000001 - ((0 : Nat) : Int)) else (if b = 0 then 0 else n)) else (-1000001 - ((0 : Nat) : Int))) (ρ) (if (0 ≤ x ∧ x < 4) ∧ (b = 0 ∨ b = 8 ∨ b = 16 ∨ b = 32) then (if n < 0 then finM 6 σ else if 40 < n then finM 0 σ else us (wr (wr σ 50 x.toNat b) 51 x.toNat (if b = 0 then 0 else n)) 52 (mapTo2 (40 * x.toNat) (fun _ => 0) (σ 52) 40)) else finM 0 σ)) 5 86 [(0, .ref (gA g 41)), (1, .int (iI (x))), (2, .int (iI (b))), (3, .int (iI (n))), (4, .int (iI (x86_4)))] [] s86 := by
              intro n_
              induction n_ with
              | zero => intro i x86_4 s86 hm_; exact absurd hm_ (Nat.not_lt_zero _)
              | succ n_ ih86 =>
                intro i x86_4 s86 hm86 hi86_0 e86_0 es86
                subst e86_0 es86
                refine r_iload (pc := 86) C dX5_sheet_86 4 rfl ?_
                refine r_bipush (pc := 88) C dX5_sheet_88 (by decide) ?_
                refine r_icmp_ge (pc := 90) C 112 ⟨by omega, by omega⟩ ⟨by omega, by omega⟩ dX5_sheet_90 (by decide) (fun h90 => ?_) (fun h90 => ?_)
                · skip
                  refine r_aload_n (pc := 112) C dX5_sheet_112 rfl 0 rfl ?_
                  refine r_getR5 (pc := 113) C 16 (k' := 51) rfl O_41 (by decide) rfl t_796 dX5_sheet_113 ?_
                  refine r_iload_n (pc := 116) C dX5_sheet_116 rfl 1 rfl ?_
                  refine r_iald (pc := 117) C x.toNat A_51 (by omega) (by omega) dX5_sheet_117 ?_
                  refine r_top ((us_o2 (k := 52) (k' := 51) _ _ _ (by omega)).trans (wr_s2 _ _ _ _)) ?_
                  exact r_retM (pc := 118) C (((if_pos (by omega)).trans ((if_neg (by omega)).trans (if_neg (by omega)))).symm) (((us_n _ _ (by omega)).trans ((wr_n _ _ _ (by omega)).trans ((wr_n _ _ _ (by omega)).trans hS)))) (fun k hk => by rw [show i = 40 by omega]; exact congrFun (((if_pos (by omega)).trans ((if_neg (by omega)).trans (if_neg (by omega)))).symm) k) dX5_sheet_118
                · skip
                  refine r_aload_n (pc := 93) C dX5_sheet_93 rfl 0 rfl ?_
                  refine r_getR5 (pc := 94) C 17 (k' := 52) rfl O_41 (by decide) rfl t_797 dX5_sheet_94 ?_
                  refine r_bipush (pc := 97) C dX5_sheet_97 (by decide) ?_
                  refine r_iload_n (pc := 99) C dX5_sheet_99 rfl 1 rfl ?_
                  refine r_imul (pc := 100) C dX5_sheet_100 ?_
                  refine r_iload (pc := 101) C dX5_sheet_101 4 rfl ?_
                  refine r_iadd (pc := 103) C dX5_sheet_103 ?_
                  refine r_iconst (pc := 104) C dX5_sheet_104 ?_
                  refine r_iast (pc := 105) C (40 * x.toNat + i) A_52 (by omega) (by omega) dX5_sheet_105 ?_
                  refine r_iinc (pc := 106) C dX5_sheet_106 4 rfl (by decide) [1, 2, 3, 4, 0] (lv' := [(0, .ref (gA g 41)), (1, .int (iI (x))), (2, .int (iI (b))), (3, .int (iI (n))), (4, .int (iI ((i : Int) + 1)))]) rfl ?_
                  refine r_goto (pc := 109) C 86 dX5_sheet_109 (by decide) ?_
                  exact ih86 (i + 1) _ _ (by omega) (by omega) (by omega) ((wr_us _ _ _ _ _).trans (congrArg (us _ 52) (mapTo2_s _ _ _ _)))
            exact L86 _ 0 _ _ (Nat.lt_succ_self _) (by omega) (rfl) (by rw [mapTo2_0]; first | (rw [if_pos (by omega)]; exact (us_idx rfl).symm) | (rw [if_neg (by omega)]; exact (us_idx rfl).symm))
        · skip
          refine r_aload_n (pc := 54) C dX5_sheet_54 rfl 0 rfl ?_
          refine r_ldc (pc := 55) C (-1000001) t_854 (by decide) dX5_sheet_55 ?_
          refine r_cVi (pc := 57) C (c_finds g 0 (by decide) σ) yX5_finds_w O_41 rfl rfl t_855 ⟨by decide, by decide⟩ (Nat.le_of_ble_eq_true rfl) (by rw [show ((-1000001) : Int) = -1000001 - ((0 : Nat) : Int) by decide]; rfl) dX5_sheet_57 ?_
          exact r_retM (pc := 60) C (by first | (exfalso; omega; done) | ((try (first | rw [if_pos (by omega)] | rw [if_neg (by omega)])); (try (first | rw [if_pos (by omega)] | rw [if_neg (by omega)])); (try (first | rw [if_pos (by omega)] | rw [if_neg (by omega)])); (try (first | rw [if_pos (by omega)] | rw [if_neg (by omega)])); (try rfl))) ((((wr_n _ _ _ (by omega)).trans hS)).trans (congrArg mkS (by first | (exfalso; omega; done) | ((try (first | rw [if_pos (by omega)] | rw [if_neg (by omega)])); (try (first | rw [if_pos (by omega)] | rw [if_neg (by omega)])); (try (first | rw [if_pos (by omega)] | rw [if_neg (by omega)])); (try (first | rw [if_pos (by omega)] | rw [if_neg (by omega)])); (try rfl))))) (fun k hk => (rfl).trans (congrFun (by first | (exfalso; omega; done) | ((try (first | rw [if_pos (by omega)] | rw [if_neg (by omega)])); (try (first | rw [if_pos (by omega)] | rw [if_neg (by omega)])); (try (first | rw [if_pos (by omega)] | rw [if_neg (by omega)])); (try (first | rw [if_pos (by omega)] | rw [if_neg (by omega)])); (try rfl))) k)) dX5_sheet_60
      · skip
        refine r_aload_n (pc := 40) C dX5_sheet_40 rfl 0 rfl ?_
        refine r_ldcw (pc := 41) C (-1000007) t_1268 (by decide) dX5_sheet_41 ?_
        refine r_cVi (pc := 44) C (c_finds g 6 (by decide) σ) yX5_finds_w O_41 rfl rfl t_855 ⟨by decide, by decide⟩ (Nat.le_of_ble_eq_true rfl) (by rw [show ((-1000007) : Int) = -1000001 - ((6 : Nat) : Int) by decide]; rfl) dX5_sheet_44 ?_
        exact r_retM (pc := 47) C (by first | (exfalso; omega; done) | ((try (first | rw [if_pos (by omega)] | rw [if_neg (by omega)])); (try (first | rw [if_pos (by omega)] | rw [if_neg (by omega)])); (try (first | rw [if_pos (by omega)] | rw [if_neg (by omega)])); (try (first | rw [if_pos (by omega)] | rw [if_neg (by omega)])); (try rfl))) ((((wr_n _ _ _ (by omega)).trans hS)).trans (congrArg mkS (by first | (exfalso; omega; done) | ((try (first | rw [if_pos (by omega)] | rw [if_neg (by omega)])); (try (first | rw [if_pos (by omega)] | rw [if_neg (by omega)])); (try (first | rw [if_pos (by omega)] | rw [if_neg (by omega)])); (try (first | rw [if_pos (by omega)] | rw [if_neg (by omega)])); (try rfl))))) (fun k hk => (rfl).trans (congrFun (by first | (exfalso; omega; done) | ((try (first | rw [if_pos (by omega)] | rw [if_neg (by omega)])); (try (first | rw [if_pos (by omega)] | rw [if_neg (by omega)])); (try (first | rw [if_pos (by omega)] | rw [if_neg (by omega)])); (try (first | rw [if_pos (by omega)] | rw [if_neg (by omega)])); (try rfl))) k)) dX5_sheet_47
    · skip
      refine r_iload_n (pc := 11) C dX5_sheet_11 rfl 2 rfl ?_
      refine r_bipush (pc := 12) C dX5_sheet_12 (by decide) ?_
      refine r_icmp_eq (pc := 14) C 36 h_b ⟨by omega, by omega⟩ dX5_sheet_14 (by decide) (fun h14 => ?_) (fun h14 => ?_)
      · skip
        refine r_iload_n (pc := 36) C dX5_sheet_36 rfl 3 rfl ?_
        refine r_if_ge (pc := 37) C 48 h_n dX5_sheet_37 (by decide) (fun h37 => ?_) (fun h37 => ?_)
        · skip
          refine r_iload_n (pc := 48) C dX5_sheet_48 rfl 3 rfl ?_
          refine r_bipush (pc := 49) C dX5_sheet_49 (by decide) ?_
          refine r_icmp_le (pc := 51) C 61 h_n ⟨by omega, by omega⟩ dX5_sheet_51 (by decide) (fun h51 => ?_) (fun h51 => ?_)
          · skip
            refine r_aload_n (pc := 61) C dX5_sheet_61 rfl 0 rfl ?_
            refine r_getR5 (pc := 62) C 15 (k' := 50) rfl O_41 (by decide) rfl t_795 dX5_sheet_62 ?_
            refine r_iload_n (pc := 65) C dX5_sheet_65 rfl 1 rfl ?_
            refine r_iload_n (pc := 66) C dX5_sheet_66 rfl 2 rfl ?_
            refine r_iast (pc := 67) C x.toNat A_50 (by omega) (by omega) dX5_sheet_67 ?_
            refine r_aload_n (pc := 68) C dX5_sheet_68 rfl 0 rfl ?_
            refine r_getR5 (pc := 69) C 16 (k' := 51) rfl O_41 (by decide) rfl t_796 dX5_sheet_69 ?_
            refine r_iload_n (pc := 72) C dX5_sheet_72 rfl 1 rfl ?_
            refine r_iload_n (pc := 73) C dX5_sheet_73 rfl 2 rfl ?_
            refine r_if_ne (pc := 74) C 81 h_b dX5_sheet_74 (by decide) (fun h74 => ?_) (fun h74 => ?_)
            · skip
              refine r_iload_n (pc := 81) C dX5_sheet_81 rfl 3 rfl ?_
              refine r_iast (pc := 82) C x.toNat A_51 (by omega) (by omega) dX5_sheet_82 ?_
              refine r_iconst (pc := 83) C dX5_sheet_83 ?_
              refine r_istore (pc := 84) C dX5_sheet_84 (by decide) [1, 2, 3, 4, 0] (lv' := [(0, .ref (gA g 41)), (1, .int (iI (x))), (2, .int (iI (b))), (3, .int (iI (n))), (4, .int (iI (0)))]) rfl ?_
              have L86 : ∀ (n_ : Nat) (i : Nat) (x86_4 : Int) (s86 : Sg), 40 - i < n_ → (i ≤ 40) → x86_4 = (i : Int) → s86 = (us (wr (wr σ 50 x.toNat b) 51 x.toNat (if b = 0 then 0 else n)) 52 (mapTo2 (40 * x.toNat) (fun _ => 0) (σ 52) i)) → J g E (pM (if (0 ≤ x ∧ x < 4) ∧ (b = 0 ∨ b = 8 ∨ b = 16 ∨ b = 32) then (if n < 0 then (-1000001 - ((6 : Nat) : Int)) else if 40 < n then (-1000001 - ((0 : Nat) : Int)) else (if b = 0 then 0 else n)) else (-1000001 - ((0 : Nat) : Int))) (ρ) (if (0 ≤ x ∧ x < 4) ∧ (b = 0 ∨ b = 8 ∨ b = 16 ∨ b = 32) then (if n < 0 then finM 6 σ else if 40 < n then finM 0 σ else us (wr (wr σ 50 x.toNat b) 51 x.toNat (if b = 0 then 0 else n)) 52 (mapTo2 (40 * x.toNat) (fun _ => 0) (σ 52) 40)) else finM 0 σ)) 5 86 [(0, .ref (gA g 41)), (1, .int (iI (x))), (2, .int (iI (b))), (3, .int (iI (n))), (4, .int (iI (x86_4)))] [] s86 := by
                intro n_
                induction n_ with
                | zero => intro i x86_4 s86 hm_; exact absurd hm_ (Nat.not_lt_zero _)
                | succ n_ ih86 =>
                  intro i x86_4 s86 hm86 hi86_0 e86_0 es86
                  subst e86_0 es86
                  refine r_iload (pc := 86) C dX5_sheet_86 4 rfl ?_
                  refine r_bipush (pc := 88) C dX5_sheet_88 (by decide) ?_
                  refine r_icmp_ge (pc := 90) C 112 ⟨by omega, by omega⟩ ⟨by omega, by omega⟩ dX5_sheet_90 (by decide) (fun h90 => ?_) (fun h90 => ?_)
                  · skip
                    refine r_aload_n (pc := 112) C dX5_sheet_112 rfl 0 rfl ?_
                    refine r_getR5 (pc := 113) C 16 (k' := 51) rfl O_41 (by decide) rfl t_796 dX5_sheet_113 ?_
                    refine r_iload_n (pc := 116) C dX5_sheet_116 rfl 1 rfl ?_
                    refine r_iald (pc := 117) C x.toNat A_51 (by omega) (by omega) dX5_sheet_117 ?_
                    refine r_top ((us_o2 (k := 52) (k' := 51) _ _ _ (by omega)).trans (wr_s2 _ _ _ _)) ?_
                    exact r_retM (pc := 118) C (((if_pos (by omega)).trans ((if_neg (by omega)).trans (if_neg (by omega)))).symm) (((us_n _ _ (by omega)).trans ((wr_n _ _ _ (by omega)).trans ((wr_n _ _ _ (by omega)).trans hS)))) (fun k hk => by rw [show i = 40 by omega]; exact congrFun (((if_pos (by omega)).trans ((if_neg (by omega)).trans (if_neg (by omega)))).symm) k) dX5_sheet_118
                  · skip
                    refine r_aload_n (pc := 93) C dX5_sheet_93 rfl 0 rfl ?_
                    refine r_getR5 (pc := 94) C 17 (k' := 52) rfl O_41 (by decide) rfl t_797 dX5_sheet_94 ?_
                    refine r_bipush (pc := 97) C dX5_sheet_97 (by decide) ?_
                    refine r_iload_n (pc := 99) C dX5_sheet_99 rfl 1 rfl ?_
                    refine r_imul (pc := 100) C dX5_sheet_100 ?_
                    refine r_iload (pc := 101) C dX5_sheet_101 4 rfl ?_
                    refine r_iadd (pc := 103) C dX5_sheet_103 ?_
                    refine r_iconst (pc := 104) C dX5_sheet_104 ?_
                    refine r_iast (pc := 105) C (40 * x.toNat + i) A_52 (by omega) (by omega) dX5_sheet_105 ?_
                    refine r_iinc (pc := 106) C dX5_sheet_106 4 rfl (by decide) [1, 2, 3, 4, 0] (lv' := [(0, .ref (gA g 41)), (1, .int (iI (x))), (2, .int (iI (b))), (3, .int (iI (n))), (4, .int (iI ((i : Int) + 1)))]) rfl ?_
                    refine r_goto (pc := 109) C 86 dX5_sheet_109 (by decide) ?_
                    exact ih86 (i + 1) _ _ (by omega) (by omega) (by omega) ((wr_us _ _ _ _ _).trans (congrArg (us _ 52) (mapTo2_s _ _ _ _)))
              exact L86 _ 0 _ _ (Nat.lt_succ_self _) (by omega) (rfl) (by rw [mapTo2_0]; first | (rw [if_pos (by omega)]; exact (us_idx rfl).symm) | (rw [if_neg (by omega)]; exact (us_idx rfl).symm))
            · skip
              refine r_iconst (pc := 77) C dX5_sheet_77 ?_
              refine r_goto (pc := 78) C 82 dX5_sheet_78 (by decide) ?_
              refine r_iast (pc := 82) C x.toNat A_51 (by omega) (by omega) dX5_sheet_82 ?_
              refine r_iconst (pc := 83) C dX5_sheet_83 ?_
              refine r_istore (pc := 84) C dX5_sheet_84 (by decide) [1, 2, 3, 4, 0] (lv' := [(0, .ref (gA g 41)), (1, .int (iI (x))), (2, .int (iI (b))), (3, .int (iI (n))), (4, .int (iI (0)))]) rfl ?_
              have L86 : ∀ (n_ : Nat) (i : Nat) (x86_4 : Int) (s86 : Sg), 40 - i < n_ → (i ≤ 40) → x86_4 = (i : Int) → s86 = (us (wr (wr σ 50 x.toNat b) 51 x.toNat (if b = 0 then 0 else n)) 52 (mapTo2 (40 * x.toNat) (fun _ => 0) (σ 52) i)) → J g E (pM (if (0 ≤ x ∧ x < 4) ∧ (b = 0 ∨ b = 8 ∨ b = 16 ∨ b = 32) then (if n < 0 then (-1000001 - ((6 : Nat) : Int)) else if 40 < n then (-1000001 - ((0 : Nat) : Int)) else (if b = 0 then 0 else n)) else (-1000001 - ((0 : Nat) : Int))) (ρ) (if (0 ≤ x ∧ x < 4) ∧ (b = 0 ∨ b = 8 ∨ b = 16 ∨ b = 32) then (if n < 0 then finM 6 σ else if 40 < n then finM 0 σ else us (wr (wr σ 50 x.toNat b) 51 x.toNat (if b = 0 then 0 else n)) 52 (mapTo2 (40 * x.toNat) (fun _ => 0) (σ 52) 40)) else finM 0 σ)) 5 86 [(0, .ref (gA g 41)), (1, .int (iI (x))), (2, .int (iI (b))), (3, .int (iI (n))), (4, .int (iI (x86_4)))] [] s86 := by
                intro n_
                induction n_ with
                | zero => intro i x86_4 s86 hm_; exact absurd hm_ (Nat.not_lt_zero _)
                | succ n_ ih86 =>
                  intro i x86_4 s86 hm86 hi86_0 e86_0 es86
                  subst e86_0 es86
                  refine r_iload (pc := 86) C dX5_sheet_86 4 rfl ?_
                  refine r_bipush (pc := 88) C dX5_sheet_88 (by decide) ?_
                  refine r_icmp_ge (pc := 90) C 112 ⟨by omega, by omega⟩ ⟨by omega, by omega⟩ dX5_sheet_90 (by decide) (fun h90 => ?_) (fun h90 => ?_)
                  · skip
                    refine r_aload_n (pc := 112) C dX5_sheet_112 rfl 0 rfl ?_
                    refine r_getR5 (pc := 113) C 16 (k' := 51) rfl O_41 (by decide) rfl t_796 dX5_sheet_113 ?_
                    refine r_iload_n (pc := 116) C dX5_sheet_116 rfl 1 rfl ?_
                    refine r_iald (pc := 117) C x.toNat A_51 (by omega) (by omega) dX5_sheet_117 ?_
                    refine r_top ((us_o2 (k := 52) (k' := 51) _ _ _ (by omega)).trans (wr_s2 _ _ _ _)) ?_
                    exact r_retM (pc := 118) C (((if_pos (by omega)).trans ((if_neg (by omega)).trans (if_neg (by omega)))).symm) (((us_n _ _ (by omega)).trans ((wr_n _ _ _ (by omega)).trans ((wr_n _ _ _ (by omega)).trans hS)))) (fun k hk => by rw [show i = 40 by omega]; exact congrFun (((if_pos (by omega)).trans ((if_neg (by omega)).trans (if_neg (by omega)))).symm) k) dX5_sheet_118
                  · skip
                    refine r_aload_n (pc := 93) C dX5_sheet_93 rfl 0 rfl ?_
                    refine r_getR5 (pc := 94) C 17 (k' := 52) rfl O_41 (by decide) rfl t_797 dX5_sheet_94 ?_
                    refine r_bipush (pc := 97) C dX5_sheet_97 (by decide) ?_
                    refine r_iload_n (pc := 99) C dX5_sheet_99 rfl 1 rfl ?_
                    refine r_imul (pc := 100) C dX5_sheet_100 ?_
                    refine r_iload (pc := 101) C dX5_sheet_101 4 rfl ?_
                    refine r_iadd (pc := 103) C dX5_sheet_103 ?_
                    refine r_iconst (pc := 104) C dX5_sheet_104 ?_
                    refine r_iast (pc := 105) C (40 * x.toNat + i) A_52 (by omega) (by omega) dX5_sheet_105 ?_
                    refine r_iinc (pc := 106) C dX5_sheet_106 4 rfl (by decide) [1, 2, 3, 4, 0] (lv' := [(0, .ref (gA g 41)), (1, .int (iI (x))), (2, .int (iI (b))), (3, .int (iI (n))), (4, .int (iI ((i : Int) + 1)))]) rfl ?_
                    refine r_goto (pc := 109) C 86 dX5_sheet_109 (by decide) ?_
                    exact ih86 (i + 1) _ _ (by omega) (by omega) (by omega) ((wr_us _ _ _ _ _).trans (congrArg (us _ 52) (mapTo2_s _ _ _ _)))
              exact L86 _ 0 _ _ (Nat.lt_succ_self _) (by omega) (rfl) (by rw [mapTo2_0]; first | (rw [if_pos (by omega)]; exact (us_idx rfl).symm) | (rw [if_neg (by omega)]; exact (us_idx rfl).symm))
          · skip
            refine r_aload_n (pc := 54) C dX5_sheet_54 rfl 0 rfl ?_
            refine r_ldc (pc := 55) C (-1000001) t_854 (by decide) dX5_sheet_55 ?_
            refine r_cVi (pc := 57) C (c_finds g 0 (by decide) σ) yX5_finds_w O_41 rfl rfl t_855 ⟨by decide, by decide⟩ (Nat.le_of_ble_eq_true rfl) (by rw [show ((-1000001) : Int) = -1000001 - ((0 : Nat) : Int) by decide]; rfl) dX5_sheet_57 ?_
            exact r_retM (pc := 60) C (by first | (exfalso; omega; done) | ((try (first | rw [if_pos (by omega)] | rw [if_neg (by omega)])); (try (first | rw [if_pos (by omega)] | rw [if_neg (by omega)])); (try (first | rw [if_pos (by omega)] | rw [if_neg (by omega)])); (try (first | rw [if_pos (by omega)] | rw [if_neg (by omega)])); (try rfl))) ((((wr_n _ _ _ (by omega)).trans hS)).trans (congrArg mkS (by first | (exfalso; omega; done) | ((try (first | rw [if_pos (by omega)] | rw [if_neg (by omega)])); (try (first | rw [if_pos (by omega)] | rw [if_neg (by omega)])); (try (first | rw [if_pos (by omega)] | rw [if_neg (by omega)])); (try (first | rw [if_pos (by omega)] | rw [if_neg (by omega)])); (try rfl))))) (fun k hk => (rfl).trans (congrFun (by first | (exfalso; omega; done) | ((try (first | rw [if_pos (by omega)] | rw [if_neg (by omega)])); (try (first | rw [if_pos (by omega)] | rw [if_neg (by omega)])); (try (first | rw [if_pos (by omega)] | rw [if_neg (by omega)])); (try (first | rw [if_pos (by omega)] | rw [if_neg (by omega)])); (try rfl))) k)) dX5_sheet_60
        · skip
          refine r_aload_n (pc := 40) C dX5_sheet_40 rfl 0 rfl ?_
          refine r_ldcw (pc := 41) C (-1000007) t_1268 (by decide) dX5_sheet_41 ?_
          refine r_cVi (pc := 44) C (c_finds g 6 (by decide) σ) yX5_finds_w O_41 rfl rfl t_855 ⟨by decide, by decide⟩ (Nat.le_of_ble_eq_true rfl) (by rw [show ((-1000007) : Int) = -1000001 - ((6 : Nat) : Int) by decide]; rfl) dX5_sheet_44 ?_
          exact r_retM (pc := 47) C (by first | (exfalso; omega; done) | ((try (first | rw [if_pos (by omega)] | rw [if_neg (by omega)])); (try (first | rw [if_pos (by omega)] | rw [if_neg (by omega)])); (try (first | rw [if_pos (by omega)] | rw [if_neg (by omega)])); (try (first | rw [if_pos (by omega)] | rw [if_neg (by omega)])); (try rfl))) ((((wr_n _ _ _ (by omega)).trans hS)).trans (congrArg mkS (by first | (exfalso; omega; done) | ((try (first | rw [if_pos (by omega)] | rw [if_neg (by omega)])); (try (first | rw [if_pos (by omega)] | rw [if_neg (by omega)])); (try (first | rw [if_pos (by omega)] | rw [if_neg (by omega)])); (try (first | rw [if_pos (by omega)] | rw [if_neg (by omega)])); (try rfl))))) (fun k hk => (rfl).trans (congrFun (by first | (exfalso; omega; done) | ((try (first | rw [if_pos (by omega)] | rw [if_neg (by omega)])); (try (first | rw [if_pos (by omega)] | rw [if_neg (by omega)])); (try (first | rw [if_pos (by omega)] | rw [if_neg (by omega)])); (try (first | rw [if_pos (by omega)] | rw [if_neg (by omega)])); (try rfl))) k)) dX5_sheet_47
      · skip
        refine r_iload_n (pc := 17) C dX5_sheet_17 rfl 2 rfl ?_
        refine r_bipush (pc := 18) C dX5_sheet_18 (by decide) ?_
        refine r_icmp_eq (pc := 20) C 36 h_b ⟨by omega, by omega⟩ dX5_sheet_20 (by decide) (fun h20 => ?_) (fun h20 => ?_)
        · skip
          refine r_iload_n (pc := 36) C dX5_sheet_36 rfl 3 rfl ?_
          refine r_if_ge (pc := 37) C 48 h_n dX5_sheet_37 (by decide) (fun h37 => ?_) (fun h37 => ?_)
          · skip
            refine r_iload_n (pc := 48) C dX5_sheet_48 rfl 3 rfl ?_
            refine r_bipush (pc := 49) C dX5_sheet_49 (by decide) ?_
            refine r_icmp_le (pc := 51) C 61 h_n ⟨by omega, by omega⟩ dX5_sheet_51 (by decide) (fun h51 => ?_) (fun h51 => ?_)
            · skip
              refine r_aload_n (pc := 61) C dX5_sheet_61 rfl 0 rfl ?_
              refine r_getR5 (pc := 62) C 15 (k' := 50) rfl O_41 (by decide) rfl t_795 dX5_sheet_62 ?_
              refine r_iload_n (pc := 65) C dX5_sheet_65 rfl 1 rfl ?_
              refine r_iload_n (pc := 66) C dX5_sheet_66 rfl 2 rfl ?_
              refine r_iast (pc := 67) C x.toNat A_50 (by omega) (by omega) dX5_sheet_67 ?_
              refine r_aload_n (pc := 68) C dX5_sheet_68 rfl 0 rfl ?_
              refine r_getR5 (pc := 69) C 16 (k' := 51) rfl O_41 (by decide) rfl t_796 dX5_sheet_69 ?_
              refine r_iload_n (pc := 72) C dX5_sheet_72 rfl 1 rfl ?_
              refine r_iload_n (pc := 73) C dX5_sheet_73 rfl 2 rfl ?_
              refine r_if_ne (pc := 74) C 81 h_b dX5_sheet_74 (by decide) (fun h74 => ?_) (fun h74 => ?_)
              · skip
                refine r_iload_n (pc := 81) C dX5_sheet_81 rfl 3 rfl ?_
                refine r_iast (pc := 82) C x.toNat A_51 (by omega) (by omega) dX5_sheet_82 ?_
                refine r_iconst (pc := 83) C dX5_sheet_83 ?_
                refine r_istore (pc := 84) C dX5_sheet_84 (by decide) [1, 2, 3, 4, 0] (lv' := [(0, .ref (gA g 41)), (1, .int (iI (x))), (2, .int (iI (b))), (3, .int (iI (n))), (4, .int (iI (0)))]) rfl ?_
                have L86 : ∀ (n_ : Nat) (i : Nat) (x86_4 : Int) (s86 : Sg), 40 - i < n_ → (i ≤ 40) → x86_4 = (i : Int) → s86 = (us (wr (wr σ 50 x.toNat b) 51 x.toNat (if b = 0 then 0 else n)) 52 (mapTo2 (40 * x.toNat) (fun _ => 0) (σ 52) i)) → J g E (pM (if (0 ≤ x ∧ x < 4) ∧ (b = 0 ∨ b = 8 ∨ b = 16 ∨ b = 32) then (if n < 0 then (-1000001 - ((6 : Nat) : Int)) else if 40 < n then (-1000001 - ((0 : Nat) : Int)) else (if b = 0 then 0 else n)) else (-1000001 - ((0 : Nat) : Int))) (ρ) (if (0 ≤ x ∧ x < 4) ∧ (b = 0 ∨ b = 8 ∨ b = 16 ∨ b = 32) then (if n < 0 then finM 6 σ else if 40 < n then finM 0 σ else us (wr (wr σ 50 x.toNat b) 51 x.toNat (if b = 0 then 0 else n)) 52 (mapTo2 (40 * x.toNat) (fun _ => 0) (σ 52) 40)) else finM 0 σ)) 5 86 [(0, .ref (gA g 41)), (1, .int (iI (x))), (2, .int (iI (b))), (3, .int (iI (n))), (4, .int (iI (x86_4)))] [] s86 := by
                  intro n_
                  induction n_ with
                  | zero => intro i x86_4 s86 hm_; exact absurd hm_ (Nat.not_lt_zero _)
                  | succ n_ ih86 =>
                    intro i x86_4 s86 hm86 hi86_0 e86_0 es86
                    subst e86_0 es86
                    refine r_iload (pc := 86) C dX5_sheet_86 4 rfl ?_
                    refine r_bipush (pc := 88) C dX5_sheet_88 (by decide) ?_
                    refine r_icmp_ge (pc := 90) C 112 ⟨by omega, by omega⟩ ⟨by omega, by omega⟩ dX5_sheet_90 (by decide) (fun h90 => ?_) (fun h90 => ?_)
                    · skip
                      refine r_aload_n (pc := 112) C dX5_sheet_112 rfl 0 rfl ?_
                      refine r_getR5 (pc := 113) C 16 (k' := 51) rfl O_41 (by decide) rfl t_796 dX5_sheet_113 ?_
                      refine r_iload_n (pc := 116) C dX5_sheet_116 rfl 1 rfl ?_
                      refine r_iald (pc := 117) C x.toNat A_51 (by omega) (by omega) dX5_sheet_117 ?_
                      refine r_top ((us_o2 (k := 52) (k' := 51) _ _ _ (by omega)).trans (wr_s2 _ _ _ _)) ?_
                      exact r_retM (pc := 118) C (((if_pos (by omega)).trans ((if_neg (by omega)).trans (if_neg (by omega)))).symm) (((us_n _ _ (by omega)).trans ((wr_n _ _ _ (by omega)).trans ((wr_n _ _ _ (by omega)).trans hS)))) (fun k hk => by rw [show i = 40 by omega]; exact congrFun (((if_pos (by omega)).trans ((if_neg (by omega)).trans (if_neg (by omega)))).symm) k) dX5_sheet_118
                    · skip
                      refine r_aload_n (pc := 93) C dX5_sheet_93 rfl 0 rfl ?_
                      refine r_getR5 (pc := 94) C 17 (k' := 52) rfl O_41 (by decide) rfl t_797 dX5_sheet_94 ?_
                      refine r_bipush (pc := 97) C dX5_sheet_97 (by decide) ?_
                      refine r_iload_n (pc := 99) C dX5_sheet_99 rfl 1 rfl ?_
                      refine r_imul (pc := 100) C dX5_sheet_100 ?_
                      refine r_iload (pc := 101) C dX5_sheet_101 4 rfl ?_
                      refine r_iadd (pc := 103) C dX5_sheet_103 ?_
                      refine r_iconst (pc := 104) C dX5_sheet_104 ?_
                      refine r_iast (pc := 105) C (40 * x.toNat + i) A_52 (by omega) (by omega) dX5_sheet_105 ?_
                      refine r_iinc (pc := 106) C dX5_sheet_106 4 rfl (by decide) [1, 2, 3, 4, 0] (lv' := [(0, .ref (gA g 41)), (1, .int (iI (x))), (2, .int (iI (b))), (3, .int (iI (n))), (4, .int (iI ((i : Int) + 1)))]) rfl ?_
                      refine r_goto (pc := 109) C 86 dX5_sheet_109 (by decide) ?_
                      exact ih86 (i + 1) _ _ (by omega) (by omega) (by omega) ((wr_us _ _ _ _ _).trans (congrArg (us _ 52) (mapTo2_s _ _ _ _)))
                exact L86 _ 0 _ _ (Nat.lt_succ_self _) (by omega) (rfl) (by rw [mapTo2_0]; first | (rw [if_pos (by omega)]; exact (us_idx rfl).symm) | (rw [if_neg (by omega)]; exact (us_idx rfl).symm))
              · skip
                refine r_iconst (pc := 77) C dX5_sheet_77 ?_
                refine r_goto (pc := 78) C 82 dX5_sheet_78 (by decide) ?_
                refine r_iast (pc := 82) C x.toNat A_51 (by omega) (by omega) dX5_sheet_82 ?_
                refine r_iconst (pc := 83) C dX5_sheet_83 ?_
                refine r_istore (pc := 84) C dX5_sheet_84 (by decide) [1, 2, 3, 4, 0] (lv' := [(0, .ref (gA g 41)), (1, .int (iI (x))), (2, .int (iI (b))), (3, .int (iI (n))), (4, .int (iI (0)))]) rfl ?_
                have L86 : ∀ (n_ : Nat) (i : Nat) (x86_4 : Int) (s86 : Sg), 40 - i < n_ → (i ≤ 40) → x86_4 = (i : Int) → s86 = (us (wr (wr σ 50 x.toNat b) 51 x.toNat (if b = 0 then 0 else n)) 52 (mapTo2 (40 * x.toNat) (fun _ => 0) (σ 52) i)) → J g E (pM (if (0 ≤ x ∧ x < 4) ∧ (b = 0 ∨ b = 8 ∨ b = 16 ∨ b = 32) then (if n < 0 then (-1000001 - ((6 : Nat) : Int)) else if 40 < n then (-1000001 - ((0 : Nat) : Int)) else (if b = 0 then 0 else n)) else (-1000001 - ((0 : Nat) : Int))) (ρ) (if (0 ≤ x ∧ x < 4) ∧ (b = 0 ∨ b = 8 ∨ b = 16 ∨ b = 32) then (if n < 0 then finM 6 σ else if 40 < n then finM 0 σ else us (wr (wr σ 50 x.toNat b) 51 x.toNat (if b = 0 then 0 else n)) 52 (mapTo2 (40 * x.toNat) (fun _ => 0) (σ 52) 40)) else finM 0 σ)) 5 86 [(0, .ref (gA g 41)), (1, .int (iI (x))), (2, .int (iI (b))), (3, .int (iI (n))), (4, .int (iI (x86_4)))] [] s86 := by
                  intro n_
                  induction n_ with
                  | zero => intro i x86_4 s86 hm_; exact absurd hm_ (Nat.not_lt_zero _)
                  | succ n_ ih86 =>
                    intro i x86_4 s86 hm86 hi86_0 e86_0 es86
                    subst e86_0 es86
                    refine r_iload (pc := 86) C dX5_sheet_86 4 rfl ?_
                    refine r_bipush (pc := 88) C dX5_sheet_88 (by decide) ?_
                    refine r_icmp_ge (pc := 90) C 112 ⟨by omega, by omega⟩ ⟨by omega, by omega⟩ dX5_sheet_90 (by decide) (fun h90 => ?_) (fun h90 => ?_)
                    · skip
                      refine r_aload_n (pc := 112) C dX5_sheet_112 rfl 0 rfl ?_
                      refine r_getR5 (pc := 113) C 16 (k' := 51) rfl O_41 (by decide) rfl t_796 dX5_sheet_113 ?_
                      refine r_iload_n (pc := 116) C dX5_sheet_116 rfl 1 rfl ?_
                      refine r_iald (pc := 117) C x.toNat A_51 (by omega) (by omega) dX5_sheet_117 ?_
                      refine r_top ((us_o2 (k := 52) (k' := 51) _ _ _ (by omega)).trans (wr_s2 _ _ _ _)) ?_
                      exact r_retM (pc := 118) C (((if_pos (by omega)).trans ((if_neg (by omega)).trans (if_neg (by omega)))).symm) (((us_n _ _ (by omega)).trans ((wr_n _ _ _ (by omega)).trans ((wr_n _ _ _ (by omega)).trans hS)))) (fun k hk => by rw [show i = 40 by omega]; exact congrFun (((if_pos (by omega)).trans ((if_neg (by omega)).trans (if_neg (by omega)))).symm) k) dX5_sheet_118
                    · skip
                      refine r_aload_n (pc := 93) C dX5_sheet_93 rfl 0 rfl ?_
                      refine r_getR5 (pc := 94) C 17 (k' := 52) rfl O_41 (by decide) rfl t_797 dX5_sheet_94 ?_
                      refine r_bipush (pc := 97) C dX5_sheet_97 (by decide) ?_
                      refine r_iload_n (pc := 99) C dX5_sheet_99 rfl 1 rfl ?_
                      refine r_imul (pc := 100) C dX5_sheet_100 ?_
                      refine r_iload (pc := 101) C dX5_sheet_101 4 rfl ?_
                      refine r_iadd (pc := 103) C dX5_sheet_103 ?_
                      refine r_iconst (pc := 104) C dX5_sheet_104 ?_
                      refine r_iast (pc := 105) C (40 * x.toNat + i) A_52 (by omega) (by omega) dX5_sheet_105 ?_
                      refine r_iinc (pc := 106) C dX5_sheet_106 4 rfl (by decide) [1, 2, 3, 4, 0] (lv' := [(0, .ref (gA g 41)), (1, .int (iI (x))), (2, .int (iI (b))), (3, .int (iI (n))), (4, .int (iI ((i : Int) + 1)))]) rfl ?_
                      refine r_goto (pc := 109) C 86 dX5_sheet_109 (by decide) ?_
                      exact ih86 (i + 1) _ _ (by omega) (by omega) (by omega) ((wr_us _ _ _ _ _).trans (congrArg (us _ 52) (mapTo2_s _ _ _ _)))
                exact L86 _ 0 _ _ (Nat.lt_succ_self _) (by omega) (rfl) (by rw [mapTo2_0]; first | (rw [if_pos (by omega)]; exact (us_idx rfl).symm) | (rw [if_neg (by omega)]; exact (us_idx rfl).symm))
            · skip
              refine r_aload_n (pc := 54) C dX5_sheet_54 rfl 0 rfl ?_
              refine r_ldc (pc := 55) C (-1000001) t_854 (by decide) dX5_sheet_55 ?_
              refine r_cVi (pc := 57) C (c_finds g 0 (by decide) σ) yX5_finds_w O_41 rfl rfl t_855 ⟨by decide, by decide⟩ (Nat.le_of_ble_eq_true rfl) (by rw [show ((-1000001) : Int) = -1000001 - ((0 : Nat) : Int) by decide]; rfl) dX5_sheet_57 ?_
              exact r_retM (pc := 60) C (by first | (exfalso; omega; done) | ((try (first | rw [if_pos (by omega)] | rw [if_neg (by omega)])); (try (first | rw [if_pos (by omega)] | rw [if_neg (by omega)])); (try (first | rw [if_pos (by omega)] | rw [if_neg (by omega)])); (try (first | rw [if_pos (by omega)] | rw [if_neg (by omega)])); (try rfl))) ((((wr_n _ _ _ (by omega)).trans hS)).trans (congrArg mkS (by first | (exfalso; omega; done) | ((try (first | rw [if_pos (by omega)] | rw [if_neg (by omega)])); (try (first | rw [if_pos (by omega)] | rw [if_neg (by omega)])); (try (first | rw [if_pos (by omega)] | rw [if_neg (by omega)])); (try (first | rw [if_pos (by omega)] | rw [if_neg (by omega)])); (try rfl))))) (fun k hk => (rfl).trans (congrFun (by first | (exfalso; omega; done) | ((try (first | rw [if_pos (by omega)] | rw [if_neg (by omega)])); (try (first | rw [if_pos (by omega)] | rw [if_neg (by omega)])); (try (first | rw [if_pos (by omega)] | rw [if_neg (by omega)])); (try (first | rw [if_pos (by omega)] | rw [if_neg (by omega)])); (try rfl))) k)) dX5_sheet_60
          · skip
            refine r_aload_n (pc := 40) C dX5_sheet_40 rfl 0 rfl ?_
            refine r_ldcw (pc := 41) C (-1000007) t_1268 (by decide) dX5_sheet_41 ?_
            refine r_cVi (pc := 44) C (c_finds g 6 (by decide) σ) yX5_finds_w O_41 rfl rfl t_855 ⟨by decide, by decide⟩ (Nat.le_of_ble_eq_true rfl) (by rw [show ((-1000007) : Int) = -1000001 - ((6 : Nat) : Int) by decide]; rfl) dX5_sheet_44 ?_
            exact r_retM (pc := 47) C (by first | (exfalso; omega; done) | ((try (first | rw [if_pos (by omega)] | rw [if_neg (by omega)])); (try (first | rw [if_pos (by omega)] | rw [if_neg (by omega)])); (try (first | rw [if_pos (by omega)] | rw [if_neg (by omega)])); (try (first | rw [if_pos (by omega)] | rw [if_neg (by omega)])); (try rfl))) ((((wr_n _ _ _ (by omega)).trans hS)).trans (congrArg mkS (by first | (exfalso; omega; done) | ((try (first | rw [if_pos (by omega)] | rw [if_neg (by omega)])); (try (first | rw [if_pos (by omega)] | rw [if_neg (by omega)])); (try (first | rw [if_pos (by omega)] | rw [if_neg (by omega)])); (try (first | rw [if_pos (by omega)] | rw [if_neg (by omega)])); (try rfl))))) (fun k hk => (rfl).trans (congrFun (by first | (exfalso; omega; done) | ((try (first | rw [if_pos (by omega)] | rw [if_neg (by omega)])); (try (first | rw [if_pos (by omega)] | rw [if_neg (by omega)])); (try (first | rw [if_pos (by omega)] | rw [if_neg (by omega)])); (try (first | rw [if_pos (by omega)] | rw [if_neg (by omega)])); (try rfl))) k)) dX5_sheet_47
        · skip
          refine r_iload_n (pc := 23) C dX5_sheet_23 rfl 2 rfl ?_
          refine r_bipush (pc := 24) C dX5_sheet_24 (by decide) ?_
          refine r_icmp_eq (pc := 26) C 36 h_b ⟨by omega, by omega⟩ dX5_sheet_26 (by decide) (fun h26 => ?_) (fun h26 => ?_)
          · skip
            refine r_iload_n (pc := 36) C dX5_sheet_36 rfl 3 rfl ?_
            refine r_if_ge (pc := 37) C 48 h_n dX5_sheet_37 (by decide) (fun h37 => ?_) (fun h37 => ?_)
            · skip
              refine r_iload_n (pc := 48) C dX5_sheet_48 rfl 3 rfl ?_
              refine r_bipush (pc := 49) C dX5_sheet_49 (by decide) ?_
              refine r_icmp_le (pc := 51) C 61 h_n ⟨by omega, by omega⟩ dX5_sheet_51 (by decide) (fun h51 => ?_) (fun h51 => ?_)
              · skip
                refine r_aload_n (pc := 61) C dX5_sheet_61 rfl 0 rfl ?_
                refine r_getR5 (pc := 62) C 15 (k' := 50) rfl O_41 (by decide) rfl t_795 dX5_sheet_62 ?_
                refine r_iload_n (pc := 65) C dX5_sheet_65 rfl 1 rfl ?_
                refine r_iload_n (pc := 66) C dX5_sheet_66 rfl 2 rfl ?_
                refine r_iast (pc := 67) C x.toNat A_50 (by omega) (by omega) dX5_sheet_67 ?_
                refine r_aload_n (pc := 68) C dX5_sheet_68 rfl 0 rfl ?_
                refine r_getR5 (pc := 69) C 16 (k' := 51) rfl O_41 (by decide) rfl t_796 dX5_sheet_69 ?_
                refine r_iload_n (pc := 72) C dX5_sheet_72 rfl 1 rfl ?_
                refine r_iload_n (pc := 73) C dX5_sheet_73 rfl 2 rfl ?_
                refine r_if_ne (pc := 74) C 81 h_b dX5_sheet_74 (by decide) (fun h74 => ?_) (fun h74 => ?_)
                · skip
                  refine r_iload_n (pc := 81) C dX5_sheet_81 rfl 3 rfl ?_
                  refine r_iast (pc := 82) C x.toNat A_51 (by omega) (by omega) dX5_sheet_82 ?_
                  refine r_iconst (pc := 83) C dX5_sheet_83 ?_
                  refine r_istore (pc := 84) C dX5_sheet_84 (by decide) [1, 2, 3, 4, 0] (lv' := [(0, .ref (gA g 41)), (1, .int (iI (x))), (2, .int (iI (b))), (3, .int (iI (n))), (4, .int (iI (0)))]) rfl ?_
                  have L86 : ∀ (n_ : Nat) (i : Nat) (x86_4 : Int) (s86 : Sg), 40 - i < n_ → (i ≤ 40) → x86_4 = (i : Int) → s86 = (us (wr (wr σ 50 x.toNat b) 51 x.toNat (if b = 0 then 0 else n)) 52 (mapTo2 (40 * x.toNat) (fun _ => 0) (σ 52) i)) → J g E (pM (if (0 ≤ x ∧ x < 4) ∧ (b = 0 ∨ b = 8 ∨ b = 16 ∨ b = 32) then (if n < 0 then (-1000001 - ((6 : Nat) : Int)) else if 40 < n then (-1000001 - ((0 : Nat) : Int)) else (if b = 0 then 0 else n)) else (-1000001 - ((0 : Nat) : Int))) (ρ) (if (0 ≤ x ∧ x < 4) ∧ (b = 0 ∨ b = 8 ∨ b = 16 ∨ b = 32) then (if n < 0 then finM 6 σ else if 40 < n then finM 0 σ else us (wr (wr σ 50 x.toNat b) 51 x.toNat (if b = 0 then 0 else n)) 52 (mapTo2 (40 * x.toNat) (fun _ => 0) (σ 52) 40)) else finM 0 σ)) 5 86 [(0, .ref (gA g 41)), (1, .int (iI (x))), (2, .int (iI (b))), (3, .int (iI (n))), (4, .int (iI (x86_4)))] [] s86 := by
                    intro n_
                    induction n_ with
                    | zero => intro i x86_4 s86 hm_; exact absurd hm_ (Nat.not_lt_zero _)
                    | succ n_ ih86 =>
                      intro i x86_4 s86 hm86 hi86_0 e86_0 es86
                      subst e86_0 es86
                      refine r_iload (pc := 86) C dX5_sheet_86 4 rfl ?_
                      refine r_bipush (pc := 88) C dX5_sheet_88 (by decide) ?_
                      refine r_icmp_ge (pc := 90) C 112 ⟨by omega, by omega⟩ ⟨by omega, by omega⟩ dX5_sheet_90 (by decide) (fun h90 => ?_) (fun h90 => ?_)
                      · skip
                        refine r_aload_n (pc := 112) C dX5_sheet_112 rfl 0 rfl ?_
                        refine r_getR5 (pc := 113) C 16 (k' := 51) rfl O_41 (by decide) rfl t_796 dX5_sheet_113 ?_
                        refine r_iload_n (pc := 116) C dX5_sheet_116 rfl 1 rfl ?_
                        refine r_iald (pc := 117) C x.toNat A_51 (by omega) (by omega) dX5_sheet_117 ?_
                        refine r_top ((us_o2 (k := 52) (k' := 51) _ _ _ (by omega)).trans (wr_s2 _ _ _ _)) ?_
                        exact r_retM (pc := 118) C (((if_pos (by omega)).trans ((if_neg (by omega)).trans (if_neg (by omega)))).symm) (((us_n _ _ (by omega)).trans ((wr_n _ _ _ (by omega)).trans ((wr_n _ _ _ (by omega)).trans hS)))) (fun k hk => by rw [show i = 40 by omega]; exact congrFun (((if_pos (by omega)).trans ((if_neg (by omega)).trans (if_neg (by omega)))).symm) k) dX5_sheet_118
                      · skip
                        refine r_aload_n (pc := 93) C dX5_sheet_93 rfl 0 rfl ?_
                        refine r_getR5 (pc := 94) C 17 (k' := 52) rfl O_41 (by decide) rfl t_797 dX5_sheet_94 ?_
                        refine r_bipush (pc := 97) C dX5_sheet_97 (by decide) ?_
                        refine r_iload_n (pc := 99) C dX5_sheet_99 rfl 1 rfl ?_
                        refine r_imul (pc := 100) C dX5_sheet_100 ?_
                        refine r_iload (pc := 101) C dX5_sheet_101 4 rfl ?_
                        refine r_iadd (pc := 103) C dX5_sheet_103 ?_
                        refine r_iconst (pc := 104) C dX5_sheet_104 ?_
                        refine r_iast (pc := 105) C (40 * x.toNat + i) A_52 (by omega) (by omega) dX5_sheet_105 ?_
                        refine r_iinc (pc := 106) C dX5_sheet_106 4 rfl (by decide) [1, 2, 3, 4, 0] (lv' := [(0, .ref (gA g 41)), (1, .int (iI (x))), (2, .int (iI (b))), (3, .int (iI (n))), (4, .int (iI ((i : Int) + 1)))]) rfl ?_
                        refine r_goto (pc := 109) C 86 dX5_sheet_109 (by decide) ?_
                        exact ih86 (i + 1) _ _ (by omega) (by omega) (by omega) ((wr_us _ _ _ _ _).trans (congrArg (us _ 52) (mapTo2_s _ _ _ _)))
                  exact L86 _ 0 _ _ (Nat.lt_succ_self _) (by omega) (rfl) (by rw [mapTo2_0]; first | (rw [if_pos (by omega)]; exact (us_idx rfl).symm) | (rw [if_neg (by omega)]; exact (us_idx rfl).symm))
                · skip
                  refine r_iconst (pc := 77) C dX5_sheet_77 ?_
                  refine r_goto (pc := 78) C 82 dX5_sheet_78 (by decide) ?_
                  refine r_iast (pc := 82) C x.toNat A_51 (by omega) (by omega) dX5_sheet_82 ?_
                  refine r_iconst (pc := 83) C dX5_sheet_83 ?_
                  refine r_istore (pc := 84) C dX5_sheet_84 (by decide) [1, 2, 3, 4, 0] (lv' := [(0, .ref (gA g 41)), (1, .int (iI (x))), (2, .int (iI (b))), (3, .int (iI (n))), (4, .int (iI (0)))]) rfl ?_
                  have L86 : ∀ (n_ : Nat) (i : Nat) (x86_4 : Int) (s86 : Sg), 40 - i < n_ → (i ≤ 40) → x86_4 = (i : Int) → s86 = (us (wr (wr σ 50 x.toNat b) 51 x.toNat (if b = 0 then 0 else n)) 52 (mapTo2 (40 * x.toNat) (fun _ => 0) (σ 52) i)) → J g E (pM (if (0 ≤ x ∧ x < 4) ∧ (b = 0 ∨ b = 8 ∨ b = 16 ∨ b = 32) then (if n < 0 then (-1000001 - ((6 : Nat) : Int)) else if 40 < n then (-1000001 - ((0 : Nat) : Int)) else (if b = 0 then 0 else n)) else (-1000001 - ((0 : Nat) : Int))) (ρ) (if (0 ≤ x ∧ x < 4) ∧ (b = 0 ∨ b = 8 ∨ b = 16 ∨ b = 32) then (if n < 0 then finM 6 σ else if 40 < n then finM 0 σ else us (wr (wr σ 50 x.toNat b) 51 x.toNat (if b = 0 then 0 else n)) 52 (mapTo2 (40 * x.toNat) (fun _ => 0) (σ 52) 40)) else finM 0 σ)) 5 86 [(0, .ref (gA g 41)), (1, .int (iI (x))), (2, .int (iI (b))), (3, .int (iI (n))), (4, .int (iI (x86_4)))] [] s86 := by
                    intro n_
                    induction n_ with
                    | zero => intro i x86_4 s86 hm_; exact absurd hm_ (Nat.not_lt_zero _)
                    | succ n_ ih86 =>
                      intro i x86_4 s86 hm86 hi86_0 e86_0 es86
                      subst e86_0 es86
                      refine r_iload (pc := 86) C dX5_sheet_86 4 rfl ?_
                      refine r_bipush (pc := 88) C dX5_sheet_88 (by decide) ?_
                      refine r_icmp_ge (pc := 90) C 112 ⟨by omega, by omega⟩ ⟨by omega, by omega⟩ dX5_sheet_90 (by decide) (fun h90 => ?_) (fun h90 => ?_)
                      · skip
                        refine r_aload_n (pc := 112) C dX5_sheet_112 rfl 0 rfl ?_
                        refine r_getR5 (pc := 113) C 16 (k' := 51) rfl O_41 (by decide) rfl t_796 dX5_sheet_113 ?_
                        refine r_iload_n (pc := 116) C dX5_sheet_116 rfl 1 rfl ?_
                        refine r_iald (pc := 117) C x.toNat A_51 (by omega) (by omega) dX5_sheet_117 ?_
                        refine r_top ((us_o2 (k := 52) (k' := 51) _ _ _ (by omega)).trans (wr_s2 _ _ _ _)) ?_
                        exact r_retM (pc := 118) C (((if_pos (by omega)).trans ((if_neg (by omega)).trans (if_neg (by omega)))).symm) (((us_n _ _ (by omega)).trans ((wr_n _ _ _ (by omega)).trans ((wr_n _ _ _ (by omega)).trans hS)))) (fun k hk => by rw [show i = 40 by omega]; exact congrFun (((if_pos (by omega)).trans ((if_neg (by omega)).trans (if_neg (by omega)))).symm) k) dX5_sheet_118
                      · skip
                        refine r_aload_n (pc := 93) C dX5_sheet_93 rfl 0 rfl ?_
                        refine r_getR5 (pc := 94) C 17 (k' := 52) rfl O_41 (by decide) rfl t_797 dX5_sheet_94 ?_
                        refine r_bipush (pc := 97) C dX5_sheet_97 (by decide) ?_
                        refine r_iload_n (pc := 99) C dX5_sheet_99 rfl 1 rfl ?_
                        refine r_imul (pc := 100) C dX5_sheet_100 ?_
                        refine r_iload (pc := 101) C dX5_sheet_101 4 rfl ?_
                        refine r_iadd (pc := 103) C dX5_sheet_103 ?_
                        refine r_iconst (pc := 104) C dX5_sheet_104 ?_
                        refine r_iast (pc := 105) C (40 * x.toNat + i) A_52 (by omega) (by omega) dX5_sheet_105 ?_
                        refine r_iinc (pc := 106) C dX5_sheet_106 4 rfl (by decide) [1, 2, 3, 4, 0] (lv' := [(0, .ref (gA g 41)), (1, .int (iI (x))), (2, .int (iI (b))), (3, .int (iI (n))), (4, .int (iI ((i : Int) + 1)))]) rfl ?_
                        refine r_goto (pc := 109) C 86 dX5_sheet_109 (by decide) ?_
                        exact ih86 (i + 1) _ _ (by omega) (by omega) (by omega) ((wr_us _ _ _ _ _).trans (congrArg (us _ 52) (mapTo2_s _ _ _ _)))
                  exact L86 _ 0 _ _ (Nat.lt_succ_self _) (by omega) (rfl) (by rw [mapTo2_0]; first | (rw [if_pos (by omega)]; exact (us_idx rfl).symm) | (rw [if_neg (by omega)]; exact (us_idx rfl).symm))
              · skip
                refine r_aload_n (pc := 54) C dX5_sheet_54 rfl 0 rfl ?_
                refine r_ldc (pc := 55) C (-1000001) t_854 (by decide) dX5_sheet_55 ?_
                refine r_cVi (pc := 57) C (c_finds g 0 (by decide) σ) yX5_finds_w O_41 rfl rfl t_855 ⟨by decide, by decide⟩ (Nat.le_of_ble_eq_true rfl) (by rw [show ((-1000001) : Int) = -1000001 - ((0 : Nat) : Int) by decide]; rfl) dX5_sheet_57 ?_
                exact r_retM (pc := 60) C (by first | (exfalso; omega; done) | ((try (first | rw [if_pos (by omega)] | rw [if_neg (by omega)])); (try (first | rw [if_pos (by omega)] | rw [if_neg (by omega)])); (try (first | rw [if_pos (by omega)] | rw [if_neg (by omega)])); (try (first | rw [if_pos (by omega)] | rw [if_neg (by omega)])); (try rfl))) ((((wr_n _ _ _ (by omega)).trans hS)).trans (congrArg mkS (by first | (exfalso; omega; done) | ((try (first | rw [if_pos (by omega)] | rw [if_neg (by omega)])); (try (first | rw [if_pos (by omega)] | rw [if_neg (by omega)])); (try (first | rw [if_pos (by omega)] | rw [if_neg (by omega)])); (try (first | rw [if_pos (by omega)] | rw [if_neg (by omega)])); (try rfl))))) (fun k hk => (rfl).trans (congrFun (by first | (exfalso; omega; done) | ((try (first | rw [if_pos (by omega)] | rw [if_neg (by omega)])); (try (first | rw [if_pos (by omega)] | rw [if_neg (by omega)])); (try (first | rw [if_pos (by omega)] | rw [if_neg (by omega)])); (try (first | rw [if_pos (by omega)] | rw [if_neg (by omega)])); (try rfl))) k)) dX5_sheet_60
            · skip
              refine r_aload_n (pc := 40) C dX5_sheet_40 rfl 0 rfl ?_
              refine r_ldcw (pc := 41) C (-1000007) t_1268 (by decide) dX5_sheet_41 ?_
              refine r_cVi (pc := 44) C (c_finds g 6 (by decide) σ) yX5_finds_w O_41 rfl rfl t_855 ⟨by decide, by decide⟩ (Nat.le_of_ble_eq_true rfl) (by rw [show ((-1000007) : Int) = -1000001 - ((6 : Nat) : Int) by decide]; rfl) dX5_sheet_44 ?_
              exact r_retM (pc := 47) C (by first | (exfalso; omega; done) | ((try (first | rw [if_pos (by omega)] | rw [if_neg (by omega)])); (try (first | rw [if_pos (by omega)] | rw [if_neg (by omega)])); (try (first | rw [if_pos (by omega)] | rw [if_neg (by omega)])); (try (first | rw [if_pos (by omega)] | rw [if_neg (by omega)])); (try rfl))) ((((wr_n _ _ _ (by omega)).trans hS)).trans (congrArg mkS (by first | (exfalso; omega; done) | ((try (first | rw [if_pos (by omega)] | rw [if_neg (by omega)])); (try (first | rw [if_pos (by omega)] | rw [if_neg (by omega)])); (try (first | rw [if_pos (by omega)] | rw [if_neg (by omega)])); (try (first | rw [if_pos (by omega)] | rw [if_neg (by omega)])); (try rfl))))) (fun k hk => (rfl).trans (congrFun (by first | (exfalso; omega; done) | ((try (first | rw [if_pos (by omega)] | rw [if_neg (by omega)])); (try (first | rw [if_pos (by omega)] | rw [if_neg (by omega)])); (try (first | rw [if_pos (by omega)] | rw [if_neg (by omega)])); (try (first | rw [if_pos (by omega)] | rw [if_neg (by omega)])); (try rfl))) k)) dX5_sheet_47
          · skip
            refine r_aload_n (pc := 29) C dX5_sheet_29 rfl 0 rfl ?_
            refine r_ldc (pc := 30) C (-1000001) t_854 (by decide) dX5_sheet_30 ?_
            refine r_cVi (pc := 32) C (c_finds g 0 (by decide) σ) yX5_finds_w O_41 rfl rfl t_855 ⟨by decide, by decide⟩ (Nat.le_of_ble_eq_true rfl) (by rw [show ((-1000001) : Int) = -1000001 - ((0 : Nat) : Int) by decide]; rfl) dX5_sheet_32 ?_
            exact r_retM (pc := 35) C (by first | (exfalso; omega; done) | ((try (first | rw [if_pos (by omega)] | rw [if_neg (by omega)])); (try (first | rw [if_pos (by omega)] | rw [if_neg (by omega)])); (try (first | rw [if_pos (by omega)] | rw [if_neg (by omega)])); (try (first | rw [if_pos (by omega)] | rw [if_neg (by omega)])); (try rfl))) ((((wr_n _ _ _ (by omega)).trans hS)).trans (congrArg mkS (by first | (exfalso; omega; done) | ((try (first | rw [if_pos (by omega)] | rw [if_neg (by omega)])); (try (first | rw [if_pos (by omega)] | rw [if_neg (by omega)])); (try (first | rw [if_pos (by omega)] | rw [if_neg (by omega)])); (try (first | rw [if_pos (by omega)] | rw [if_neg (by omega)])); (try rfl))))) (fun k hk => (rfl).trans (congrFun (by first | (exfalso; omega; done) | ((try (first | rw [if_pos (by omega)] | rw [if_neg (by omega)])); (try (first | rw [if_pos (by omega)] | rw [if_neg (by omega)])); (try (first | rw [if_pos (by omega)] | rw [if_neg (by omega)])); (try (first | rw [if_pos (by omega)] | rw [if_neg (by omega)])); (try rfl))) k)) dX5_sheet_35
set_option maxHeartbeats 4000000 in
set_option maxRecDepth 100000 in
theorem e_image (g : Gt) (ρ σ : Sg) (hS : σ 42 = mkS ρ) : Mt g yX5_image cX5_image 2 (some FieldType.int) 0 [.ref (gA g 41)] σ (pM 1 ρ (wr (us σ 43 (mkS ρ)) 41 5 1)) := by
  refine mt_of (own := RX5) (by decide) rfl (Nat.le_of_ble_eq_true rfl) (fun E C => ?_)
  show J g E (pM 1 ρ (wr (us σ 43 (mkS ρ)) 41 5 1)) 2 0 [(0, .ref (gA g 41))] [] σ
  refine r_iconst (pc := 0) C dX5_image_0 ?_
  refine r_istore_n (pc := 1) C dX5_image_1 rfl (by decide) [1, 0] (lv' := [(0, .ref (gA g 41)), (1, .int (iI (0)))]) rfl ?_
  have L2 : ∀ (n_ : Nat) (i : Nat) (x2_1 : Int) (s2 : Sg), 147 - i < n_ → (i ≤ 147) → x2_1 = (i : Int) → s2 = (us σ 43 (mapTo (σ 42) (σ 43) i)) → J g E (pM 1 ρ (wr (us σ 43 (mkS ρ)) 41 5 1)) 2 2 [(0, .ref (gA g 41)), (1, .int (iI (x2_1)))] [] s2 := by
    intro n_
    induction n_ with
    | zero => intro i x2_1 s2 hm_; exact absurd hm_ (Nat.not_lt_zero _)
    | succ n_ ih2 =>
      intro i x2_1 s2 hm2 hi2_0 e2_0 es2
      subst e2_0 es2
      refine r_iload_n (pc := 2) C dX5_image_2 rfl 1 rfl ?_
      refine r_sipush (pc := 3) C dX5_image_3 (by decide) ?_
      refine r_icmp_ge (pc := 6) C 27 ⟨by omega, by omega⟩ ⟨by omega, by omega⟩ dX5_image_6 (by decide) (fun h6 => ?_) (fun h6 => ?_)
      · skip
        refine r_cong (us σ 43 (σ 42)) ?_ ?_
        · intro k hk j hj
          by_cases h0 : k = 43
          · subst h0
            have hj2 : j < 147 := hj
            rw [us_s, us_s, mapTo_lt (show j < i by omega)]
          · rw [us_n _ _ h0, us_n _ _ h0]
        rw [hS]
        skip
        refine r_aload_n (pc := 27) C dX5_image_27 rfl 0 rfl ?_
        refine r_iconst (pc := 28) C dX5_image_28 ?_
        refine r_putZ5 (pc := 29) C 5 (Or.inr rfl) rfl O_41 (by decide) rfl t_785 rfl (by decide +kernel) dX5_image_29 ?_
        refine r_iconst (pc := 32) C dX5_image_32 ?_
        exact r_retM (pc := 33) C (rfl) ((wr_n _ _ _ (by decide)).trans ((us_n _ _ (by decide)).trans hS)) (fun k hk => rfl) dX5_image_33
      · skip
        refine r_aload_n (pc := 9) C dX5_image_9 rfl 0 rfl ?_
        refine r_getR5 (pc := 10) C 1 (k' := 43) rfl O_41 (by decide) rfl t_781 dX5_image_10 ?_
        refine r_iload_n (pc := 13) C dX5_image_13 rfl 1 rfl ?_
        refine r_aload_n (pc := 14) C dX5_image_14 rfl 0 rfl ?_
        refine r_getR5 (pc := 15) C 0 (k' := 42) rfl O_41 (by decide) rfl t_780 dX5_image_15 ?_
        refine r_iload_n (pc := 18) C dX5_image_18 rfl 1 rfl ?_
        refine r_iald (pc := 19) C i A_42 (by omega) (by omega) dX5_image_19 ?_
        refine r_top (us_o2 (k := 43) (k' := 42) _ _ _ (by omega)) ?_
        refine r_iast (pc := 20) C i A_43 (by omega) (by omega) dX5_image_20 ?_
        refine r_iinc (pc := 21) C dX5_image_21 1 rfl (by decide) [1, 0] (lv' := [(0, .ref (gA g 41)), (1, .int (iI ((i : Int) + 1)))]) rfl ?_
        refine r_goto (pc := 24) C 2 dX5_image_24 (by decide) ?_
        exact ih2 (i + 1) _ _ (by omega) (by omega) (by omega) ((wr_us _ _ _ _ _).trans (congrArg (us _ 43) (mapTo_s _ _ _)))
  exact L2 _ 0 _ _ (Nat.lt_succ_self _) (by omega) (rfl) (by rw [mapTo_0, us_id])
set_option maxHeartbeats 4000000 in
set_option maxRecDepth 100000 in
theorem e_undo (g : Gt) (κ : Sg) (ρ σ : Sg) (hS : σ 42 = mkS ρ) (hk3 : σ 43 = mkS κ) (hk : σ 41 5 = 0 ∨ σ 41 5 = 1) : Mt g yX5_undo cX5_undo 2 (some FieldType.int) 1 [.ref (gA g 41)] σ (pM (if σ 41 5 = 0 then (-1000001 - ((3 : Nat) : Int)) else κ 0 10) (if σ 41 5 = 0 then ρ else κ) (if σ 41 5 = 0 then finM 3 σ else σ)) := by
  refine mt_of (own := RX5) (by decide) rfl (Nat.le_of_ble_eq_true rfl) (fun E C => ?_)
  show J g E (pM (if σ 41 5 = 0 then (-1000001 - ((3 : Nat) : Int)) else κ 0 10) (if σ 41 5 = 0 then ρ else κ) (if σ 41 5 = 0 then finM 3 σ else σ)) 2 0 [(0, .ref (gA g 41))] [] σ
  refine r_aload_n (pc := 0) C dX5_undo_0 rfl 0 rfl ?_
  refine r_getI5 (pc := 1) C 5 rfl O_41 (by decide) rfl t_785 dX5_undo_1 ?_
  refine r_if_ne (pc := 4) C 14 ⟨by omega, by omega⟩ dX5_undo_4 (by decide) (fun h4 => ?_) (fun h4 => ?_)
  · skip
    refine r_iconst (pc := 14) C dX5_undo_14 ?_
    refine r_istore_n (pc := 15) C dX5_undo_15 rfl (by decide) [1, 0] (lv' := [(0, .ref (gA g 41)), (1, .int (iI (0)))]) rfl ?_
    have L16 : ∀ (n_ : Nat) (i : Nat) (x16_1 : Int) (s16 : Sg), 147 - i < n_ → (i ≤ 147) → x16_1 = (i : Int) → s16 = (us σ 42 (mapTo (σ 43) (σ 42) i)) → J g E (pM (if σ 41 5 = 0 then (-1000001 - ((3 : Nat) : Int)) else κ 0 10) (if σ 41 5 = 0 then ρ else κ) (if σ 41 5 = 0 then finM 3 σ else σ)) 2 16 [(0, .ref (gA g 41)), (1, .int (iI (x16_1)))] [] s16 := by
      intro n_
      induction n_ with
      | zero => intro i x16_1 s16 hm_; exact absurd hm_ (Nat.not_lt_zero _)
      | succ n_ ih16 =>
        intro i x16_1 s16 hm16 hi16_0 e16_0 es16
        subst e16_0 es16
        refine r_iload_n (pc := 16) C dX5_undo_16 rfl 1 rfl ?_
        refine r_sipush (pc := 17) C dX5_undo_17 (by decide) ?_
        refine r_icmp_ge (pc := 20) C 41 ⟨by omega, by omega⟩ ⟨by omega, by omega⟩ dX5_undo_20 (by decide) (fun h20 => ?_) (fun h20 => ?_)
        · skip
          refine r_cong (us σ 42 (σ 43)) ?_ ?_
          · intro k hk j hj
            by_cases h0 : k = 42
            · subst h0
              have hj2 : j < 147 := hj
              rw [us_s, us_s, mapTo_lt (show j < i by omega)]
            · rw [us_n _ _ h0, us_n _ _ h0]
          rw [hk3]
          skip
          refine r_aload_n (pc := 41) C dX5_undo_41 rfl 0 rfl ?_
          refine r_getR5 (pc := 42) C 0 (k' := 42) rfl O_41 (by decide) rfl t_780 dX5_undo_42 ?_
          refine r_iconst (pc := 45) C dX5_undo_45 ?_
          refine r_iald (pc := 46) C 0 A_42 (by omega) (by omega) dX5_undo_46 ?_
          refine r_top (show _ = κ 0 10 from (congrFun (us_s _ _ _) _).trans (mkS_at rfl)) ?_
          exact r_retM (pc := 47) C (by rw [if_neg (by omega)]) (by rw [if_neg (by omega)]; exact us_s _ _ _) (fun k hk => (us_n _ _ hk.1).trans (congrFun (by rw [if_neg (by omega)]) k)) dX5_undo_47
        · skip
          refine r_aload_n (pc := 23) C dX5_undo_23 rfl 0 rfl ?_
          refine r_getR5 (pc := 24) C 0 (k' := 42) rfl O_41 (by decide) rfl t_780 dX5_undo_24 ?_
          refine r_iload_n (pc := 27) C dX5_undo_27 rfl 1 rfl ?_
          refine r_aload_n (pc := 28) C dX5_undo_28 rfl 0 rfl ?_
          refine r_getR5 (pc := 29) C 1 (k' := 43) rfl O_41 (by decide) rfl t_781 dX5_undo_29 ?_
          refine r_iload_n (pc := 32) C dX5_undo_32 rfl 1 rfl ?_
          refine r_iald (pc := 33) C i A_43 (by omega) (by omega) dX5_undo_33 ?_
          refine r_top (us_o2 (k := 42) (k' := 43) _ _ _ (by omega)) ?_
          refine r_iast (pc := 34) C i A_42 (by omega) (by omega) dX5_undo_34 ?_
          refine r_iinc (pc := 35) C dX5_undo_35 1 rfl (by decide) [1, 0] (lv' := [(0, .ref (gA g 41)), (1, .int (iI ((i : Int) + 1)))]) rfl ?_
          refine r_goto (pc := 38) C 16 dX5_undo_38 (by decide) ?_
          exact ih16 (i + 1) _ _ (by omega) (by omega) (by omega) ((wr_us _ _ _ _ _).trans (congrArg (us _ 42) (mapTo_s _ _ _)))
    exact L16 _ 0 _ _ (Nat.lt_succ_self _) (by omega) (rfl) (by rw [mapTo_0, us_id])
  · skip
    refine r_aload_n (pc := 7) C dX5_undo_7 rfl 0 rfl ?_
    refine r_ldc (pc := 8) C (-1000004) t_1052 (by decide) dX5_undo_8 ?_
    refine r_cVi (pc := 10) C (c_finds g 3 (by decide) σ) yX5_finds_w O_41 rfl rfl t_855 ⟨by decide, by decide⟩ (Nat.le_of_ble_eq_true rfl) (by rw [show ((-1000004) : Int) = -1000001 - ((3 : Nat) : Int) by decide]; rfl) dX5_undo_10 ?_
    exact r_retM (pc := 13) C (by rw [if_pos (by omega)]) (by rw [if_pos (by omega)]; exact (wr_n _ _ _ (by decide)).trans hS) (fun k hk => congrFun (by rw [if_pos (by omega)]) k) dX5_undo_13
set_option maxHeartbeats 4000000 in
set_option maxRecDepth 100000 in
theorem e_tear (g : Gt) (ρ σ : Sg) (hS : σ 42 = mkS ρ) (hk : σ 41 5 = 0 ∨ σ 41 5 = 1) : Mt g yX5_tear cX5_tear 2 (some FieldType.int) 0 [.ref (gA g 41)] σ (pM (if σ 41 5 = 0 then 0 else 1) (ρ) (wr σ 41 5 0)) := by
  refine mt_of (own := RX5) (by decide) rfl (Nat.le_of_ble_eq_true rfl) (fun E C => ?_)
  show J g E (pM (if σ 41 5 = 0 then 0 else 1) (ρ) (wr σ 41 5 0)) 2 0 [(0, .ref (gA g 41))] [] σ
  refine r_aload_n (pc := 0) C dX5_tear_0 rfl 0 rfl ?_
  refine r_getI5 (pc := 1) C 5 rfl O_41 (by decide) rfl t_785 dX5_tear_1 ?_
  refine r_if_eq (pc := 4) C 11 ⟨by omega, by omega⟩ dX5_tear_4 (by decide) (fun h4 => ?_) (fun h4 => ?_)
  · skip
    refine r_iconst (pc := 11) C dX5_tear_11 ?_
    refine r_istore_n (pc := 12) C dX5_tear_12 rfl (by decide) [1, 0] (lv' := [(0, .ref (gA g 41)), (1, .int (iI (0)))]) rfl ?_
    refine r_aload_n (pc := 13) C dX5_tear_13 rfl 0 rfl ?_
    refine r_iconst (pc := 14) C dX5_tear_14 ?_
    refine r_putZ5 (pc := 15) C 5 (Or.inl rfl) rfl O_41 (by decide) rfl t_785 rfl (by decide +kernel) dX5_tear_15 ?_
    refine r_iload_n (pc := 18) C dX5_tear_18 rfl 1 rfl ?_
    exact r_retM (pc := 19) C (by first | (exfalso; omega; done) | ((try (first | rw [if_pos (by omega)] | rw [if_neg (by omega)])); (try (first | rw [if_pos (by omega)] | rw [if_neg (by omega)])); (try (first | rw [if_pos (by omega)] | rw [if_neg (by omega)])); (try (first | rw [if_pos (by omega)] | rw [if_neg (by omega)])); (try rfl))) ((((wr_n _ _ _ (by omega)).trans hS)).trans (congrArg mkS (by first | (exfalso; omega; done) | ((try (first | rw [if_pos (by omega)] | rw [if_neg (by omega)])); (try (first | rw [if_pos (by omega)] | rw [if_neg (by omega)])); (try (first | rw [if_pos (by omega)] | rw [if_neg (by omega)])); (try (first | rw [if_pos (by omega)] | rw [if_neg (by omega)])); (try rfl))))) (fun k hk => (rfl).trans (congrFun (by first | (exfalso; omega; done) | ((try (first | rw [if_pos (by omega)] | rw [if_neg (by omega)])); (try (first | rw [if_pos (by omega)] | rw [if_neg (by omega)])); (try (first | rw [if_pos (by omega)] | rw [if_neg (by omega)])); (try (first | rw [if_pos (by omega)] | rw [if_neg (by omega)])); (try rfl))) k)) dX5_tear_19
  · skip
    refine r_iconst (pc := 7) C dX5_tear_7 ?_
    refine r_goto (pc := 8) C 12 dX5_tear_8 (by decide) ?_
    refine r_istore_n (pc := 12) C dX5_tear_12 rfl (by decide) [1, 0] (lv' := [(0, .ref (gA g 41)), (1, .int (iI (1)))]) rfl ?_
    refine r_aload_n (pc := 13) C dX5_tear_13 rfl 0 rfl ?_
    refine r_iconst (pc := 14) C dX5_tear_14 ?_
    refine r_putZ5 (pc := 15) C 5 (Or.inl rfl) rfl O_41 (by decide) rfl t_785 rfl (by decide +kernel) dX5_tear_15 ?_
    refine r_iload_n (pc := 18) C dX5_tear_18 rfl 1 rfl ?_
    exact r_retM (pc := 19) C (by first | (exfalso; omega; done) | ((try (first | rw [if_pos (by omega)] | rw [if_neg (by omega)])); (try (first | rw [if_pos (by omega)] | rw [if_neg (by omega)])); (try (first | rw [if_pos (by omega)] | rw [if_neg (by omega)])); (try (first | rw [if_pos (by omega)] | rw [if_neg (by omega)])); (try rfl))) ((((wr_n _ _ _ (by omega)).trans hS)).trans (congrArg mkS (by first | (exfalso; omega; done) | ((try (first | rw [if_pos (by omega)] | rw [if_neg (by omega)])); (try (first | rw [if_pos (by omega)] | rw [if_neg (by omega)])); (try (first | rw [if_pos (by omega)] | rw [if_neg (by omega)])); (try (first | rw [if_pos (by omega)] | rw [if_neg (by omega)])); (try rfl))))) (fun k hk => (rfl).trans (congrFun (by first | (exfalso; omega; done) | ((try (first | rw [if_pos (by omega)] | rw [if_neg (by omega)])); (try (first | rw [if_pos (by omega)] | rw [if_neg (by omega)])); (try (first | rw [if_pos (by omega)] | rw [if_neg (by omega)])); (try (first | rw [if_pos (by omega)] | rw [if_neg (by omega)])); (try rfl))) k)) dX5_tear_19
set_option maxHeartbeats 4000000 in
set_option maxRecDepth 100000 in
theorem e_wipe (g : Gt) (ρ σ : Sg) (hS : σ 42 = mkS ρ)  : Mt g yX5_wipe cX5_wipe 2 (some FieldType.int) 0 [.ref (gA g 41)] σ (pM (σ 41 10) (ρ) (wr σ 41 10 0)) := by
  refine mt_of (own := RX5) (by decide) rfl (Nat.le_of_ble_eq_true rfl) (fun E C => ?_)
  show J g E (pM (σ 41 10) (ρ) (wr σ 41 10 0)) 2 0 [(0, .ref (gA g 41))] [] σ
  refine r_aload_n (pc := 0) C dX5_wipe_0 rfl 0 rfl ?_
  refine r_getI5 (pc := 1) C 10 rfl O_41 (by decide) rfl t_790 dX5_wipe_1 ?_
  refine r_istore_n (pc := 4) C dX5_wipe_4 rfl (by decide) [1, 0] (lv' := [(0, .ref (gA g 41)), (1, .int (iI (σ 41 10)))]) rfl ?_
  refine r_aload_n (pc := 5) C dX5_wipe_5 rfl 0 rfl ?_
  refine r_iconst (pc := 6) C dX5_wipe_6 ?_
  refine r_put5 (pc := 7) C 10 rfl O_41 (by decide) rfl t_790 rfl (by decide +kernel) dX5_wipe_7 ?_
  refine r_iload_n (pc := 10) C dX5_wipe_10 rfl 1 rfl ?_
  exact r_retM (pc := 11) C (by first | (exfalso; omega; done) | ((try (first | rw [if_pos (by omega)] | rw [if_neg (by omega)])); (try (first | rw [if_pos (by omega)] | rw [if_neg (by omega)])); (try (first | rw [if_pos (by omega)] | rw [if_neg (by omega)])); (try (first | rw [if_pos (by omega)] | rw [if_neg (by omega)])); (try rfl))) ((((wr_n _ _ _ (by omega)).trans hS)).trans (congrArg mkS (by first | (exfalso; omega; done) | ((try (first | rw [if_pos (by omega)] | rw [if_neg (by omega)])); (try (first | rw [if_pos (by omega)] | rw [if_neg (by omega)])); (try (first | rw [if_pos (by omega)] | rw [if_neg (by omega)])); (try (first | rw [if_pos (by omega)] | rw [if_neg (by omega)])); (try rfl))))) (fun k hk => (rfl).trans (congrFun (by first | (exfalso; omega; done) | ((try (first | rw [if_pos (by omega)] | rw [if_neg (by omega)])); (try (first | rw [if_pos (by omega)] | rw [if_neg (by omega)])); (try (first | rw [if_pos (by omega)] | rw [if_neg (by omega)])); (try (first | rw [if_pos (by omega)] | rw [if_neg (by omega)])); (try rfl))) k)) dX5_wipe_11
set_option maxHeartbeats 4000000 in
set_option maxRecDepth 100000 in
theorem c_heldSpots (g : Gt) (ρ σ : Sg) (hS : σ 42 = mkS ρ) (hP : ∀ j, j < 10 → -1 ≤ ρ 7 j ∧ ρ 7 j ≤ 8) : Mt g yX5_heldSpots cX5_heldSpots 3 (some FieldType.int) 0 [.ref (gA g 41)] σ (pI (cntF (ρ 7) 10) σ) := by
  refine mt_of (own := RX5) (by decide) rfl (Nat.le_of_ble_eq_true rfl) (fun E C => ?_)
  show J g E (pI (cntF (ρ 7) 10) σ) 3 0 [(0, .ref (gA g 41))] [] σ
  refine r_iconst (pc := 0) C dX5_heldSpots_0 ?_
  refine r_istore_n (pc := 1) C dX5_heldSpots_1 rfl (by decide) [1, 0] (lv' := [(0, .ref (gA g 41)), (1, .int (iI (0)))]) rfl ?_
  refine r_iconst (pc := 2) C dX5_heldSpots_2 ?_
  refine r_istore_n (pc := 3) C dX5_heldSpots_3 rfl (by decide) [1, 2, 0] (lv' := [(0, .ref (gA g 41)), (1, .int (iI (0))), (2, .int (iI (0)))]) rfl ?_
  have L4 : ∀ (n_ : Nat) (i : Nat) (x4_1 x4_2 : Int), 10 - i < n_ → (i ≤ 10) → x4_1 = cntF (ρ 7) i → x4_2 = (i : Int) → J g E (pI (cntF (ρ 7) 10) σ) 3 4 [(0, .ref (gA g 41)), (1, .int (iI (x4_1))), (2, .int (iI (x4_2)))] [] σ := by
    intro n_
    induction n_ with
    | zero => intro i x4_1 x4_2  hm_; exact absurd hm_ (Nat.not_lt_zero _)
    | succ n_ ih4 =>
      intro i x4_1 x4_2  hm4 hi4_0 e4_0 e4_1 
      subst e4_0 e4_1 
      refine r_iload_n (pc := 4) C dX5_heldSpots_4 rfl 2 rfl ?_
      refine r_bipush (pc := 5) C dX5_heldSpots_5 (by decide) ?_
      refine r_icmp_ge (pc := 7) C 37 ⟨by omega, by omega⟩ ⟨by omega, by omega⟩ dX5_heldSpots_7 (by decide) (fun h7 => ?_) (fun h7 => ?_)
      · skip
        refine r_iload_n (pc := 37) C dX5_heldSpots_37 rfl 1 rfl ?_
        exact r_reti (pc := 38) C (by rw [show i = 10 by omega]) (rfl) dX5_heldSpots_38
      · skip
        refine r_iload_n (pc := 10) C dX5_heldSpots_10 rfl 1 rfl ?_
        refine r_aload_n (pc := 11) C dX5_heldSpots_11 rfl 0 rfl ?_
        refine r_getR5 (pc := 12) C 0 (k' := 42) rfl O_41 (by decide) rfl t_780 dX5_heldSpots_12 ?_
        refine r_sipush (pc := 15) C dX5_heldSpots_15 (by decide) ?_
        refine r_iload_n (pc := 18) C dX5_heldSpots_18 rfl 2 rfl ?_
        refine r_iadd (pc := 19) C dX5_heldSpots_19 ?_
        have hp := hP i (by omega)
        refine r_iald (pc := 20) C (137 + i) A_42 (by omega) (by omega) dX5_heldSpots_20 ?_
        refine r_top (show _ = ρ 7 i from (congrFun hS _).trans (mkS_at (cidx_P _))) ?_
        refine r_if_lt (pc := 21) C 28 ⟨by omega, by omega⟩ dX5_heldSpots_21 (by decide) (fun h21 => ?_) (fun h21 => ?_)
        · skip
          refine r_iconst (pc := 28) C dX5_heldSpots_28 ?_
          refine r_iadd (pc := 29) C dX5_heldSpots_29 ?_
          refine r_istore_n (pc := 30) C dX5_heldSpots_30 rfl (by decide) [1, 0, 2] (lv' := [(0, .ref (gA g 41)), (1, .int (iI ((cntF (ρ 7) i) + 0))), (2, .int (iI ((i : Int))))]) rfl ?_
          refine r_iinc (pc := 31) C dX5_heldSpots_31 2 rfl (by decide) [1, 2, 0] (lv' := [(0, .ref (gA g 41)), (1, .int (iI ((cntF (ρ 7) i) + 0))), (2, .int (iI ((i : Int) + 1)))]) rfl ?_
          refine r_goto (pc := 34) C 4 dX5_heldSpots_34 (by decide) ?_
          exact ih4 (i + 1) _ _ (by omega) (by omega) (by first | (rw [cntF, if_pos (by omega)]; omega) | (rw [cntF, if_neg (by omega)])) (by omega)
        · skip
          refine r_iconst (pc := 24) C dX5_heldSpots_24 ?_
          refine r_goto (pc := 25) C 29 dX5_heldSpots_25 (by decide) ?_
          refine r_iadd (pc := 29) C dX5_heldSpots_29 ?_
          refine r_istore_n (pc := 30) C dX5_heldSpots_30 rfl (by decide) [1, 0, 2] (lv' := [(0, .ref (gA g 41)), (1, .int (iI ((cntF (ρ 7) i) + 1))), (2, .int (iI ((i : Int))))]) rfl ?_
          refine r_iinc (pc := 31) C dX5_heldSpots_31 2 rfl (by decide) [1, 2, 0] (lv' := [(0, .ref (gA g 41)), (1, .int (iI ((cntF (ρ 7) i) + 1))), (2, .int (iI ((i : Int) + 1)))]) rfl ?_
          refine r_goto (pc := 34) C 4 dX5_heldSpots_34 (by decide) ?_
          exact ih4 (i + 1) _ _ (by omega) (by omega) (by first | (rw [cntF, if_pos (by omega)]; omega) | (rw [cntF, if_neg (by omega)])) (by omega)
  exact L4 _ 0 _ _ (Nat.lt_succ_self _) (by omega) (rfl) (rfl)
set_option maxHeartbeats 4000000 in
set_option maxRecDepth 100000 in
theorem e_count (g : Gt) (w : Int) (h_w : rng w) (ρ σ : Sg) (hS : σ 42 = mkS ρ) (hW : RW ρ 0)  : Mt g yX5_count cX5_count 2 (some FieldType.int) 4 [.ref (gA g 41), .int (iI (w))] σ (pM (if 0 ≤ w ∧ w ≤ 7 then (if w = 0 then ρ 0 10 else if w = 1 then ρ 0 7 else if w = 2 then bitc (setF (fun f => decide (0 ≤ holder (ρ 0 7) (ρ 6) f)) 12) else if w = 3 then sumF (ρ 1) 12 else if w = 4 then sumF (ρ 5) (ρ 0 7).toNat else if w = 5 then σ 41 10 else if w = 6 then ρ 0 11 else cntF (ρ 7) 10) else (-1000001 - ((0 : Nat) : Int))) (ρ) (if 0 ≤ w ∧ w ≤ 7 then σ else finM 0 σ)) := by
  obtain ⟨hn, hfl, hw, hdy, hz, hD_, hK_, hA_, hG_, hM_, hP_⟩ := id hW
  have hD : rgD (ρ 1) := hD_
  have hK : rgK (ρ 3) := hK_
  have hA : rgA (ρ 4) := hA_
  have hG : rgG (ρ 5) := hG_
  have hM : rgM (ρ 6) := hM_
  have hP : ∀ j, j < 10 → -1 ≤ ρ 7 j ∧ ρ 7 j < ρ 0 7 := hP_
  have ho_w := h_w.1; have hp_w := h_w.2
  refine mt_of (own := RX5) (by decide) rfl (Nat.le_of_ble_eq_true rfl) (fun E C => ?_)
  show J g E (pM (if 0 ≤ w ∧ w ≤ 7 then (if w = 0 then ρ 0 10 else if w = 1 then ρ 0 7 else if w = 2 then bitc (setF (fun f => decide (0 ≤ holder (ρ 0 7) (ρ 6) f)) 12) else if w = 3 then sumF (ρ 1) 12 else if w = 4 then sumF (ρ 5) (ρ 0 7).toNat else if w = 5 then σ 41 10 else if w = 6 then ρ 0 11 else cntF (ρ 7) 10) else (-1000001 - ((0 : Nat) : Int))) (ρ) (if 0 ≤ w ∧ w ≤ 7 then σ else finM 0 σ)) 2 0 [(0, .ref (gA g 41)), (1, .int (iI (w)))] [] σ
  refine r_iload_n (pc := 0) C dX5_count_0 rfl 1 rfl ?_
  by_cases hs1_0 : w = 0
  · refine r_tabIn C 0 48 dX5_count_1 hs1_0 ⟨by decide, by decide⟩ (by decide) (by decide) rfl (by decide) ?_
    refine r_aload_n (pc := 48) C dX5_count_48 rfl 0 rfl ?_
    refine r_getR5 (pc := 49) C 0 (k' := 42) rfl O_41 (by decide) rfl t_780 dX5_count_49 ?_
    refine r_iconst (pc := 52) C dX5_count_52 ?_
    refine r_iald (pc := 53) C 0 A_42 (by omega) (by omega) dX5_count_53 ?_
    refine r_top (show _ = ρ 0 10 from (congrFun hS _).trans (mkS_at rfl)) ?_
    exact r_retM (pc := 54) C (by first | (exfalso; omega; done) | ((try (first | rw [if_pos (by omega)] | rw [if_neg (by omega)])); (try (first | rw [if_pos (by omega)] | rw [if_neg (by omega)])); (try (first | rw [if_pos (by omega)] | rw [if_neg (by omega)])); (try (first | rw [if_pos (by omega)] | rw [if_neg (by omega)])); (try (first | rw [if_pos (by omega)] | rw [if_neg (by omega)])); (try (first | rw [if_pos (by omega)] | rw [if_neg (by omega)])); (try (first | rw [if_pos (by omega)] | rw [if_neg (by omega)])); (try (first | rw [if_pos (by omega)] | rw [if_neg (by omega)])); (try (first | rw [if_pos (by omega)] | rw [if_neg (by omega)])); (try rfl))) ((hS).trans (congrArg mkS (by first | (exfalso; omega; done) | ((try (first | rw [if_pos (by omega)] | rw [if_neg (by omega)])); (try (first | rw [if_pos (by omega)] | rw [if_neg (by omega)])); (try (first | rw [if_pos (by omega)] | rw [if_neg (by omega)])); (try (first | rw [if_pos (by omega)] | rw [if_neg (by omega)])); (try (first | rw [if_pos (by omega)] | rw [if_neg (by omega)])); (try (first | rw [if_pos (by omega)] | rw [if_neg (by omega)])); (try (first | rw [if_pos (by omega)] | rw [if_neg (by omega)])); (try (first | rw [if_pos (by omega)] | rw [if_neg (by omega)])); (try (first | rw [if_pos (by omega)] | rw [if_neg (by omega)])); (try rfl))))) (fun k hk => (rfl).trans (congrFun (by first | (exfalso; omega; done) | ((try (first | rw [if_pos (by omega)] | rw [if_neg (by omega)])); (try (first | rw [if_pos (by omega)] | rw [if_neg (by omega)])); (try (first | rw [if_pos (by omega)] | rw [if_neg (by omega)])); (try (first | rw [if_pos (by omega)] | rw [if_neg (by omega)])); (try (first | rw [if_pos (by omega)] | rw [if_neg (by omega)])); (try (first | rw [if_pos (by omega)] | rw [if_neg (by omega)])); (try (first | rw [if_pos (by omega)] | rw [if_neg (by omega)])); (try (first | rw [if_pos (by omega)] | rw [if_neg (by omega)])); (try (first | rw [if_pos (by omega)] | rw [if_neg (by omega)])); (try rfl))) k)) dX5_count_54
  by_cases hs1_1 : w = 1
  · refine r_tabIn C 1 55 dX5_count_1 hs1_1 ⟨by decide, by decide⟩ (by decide) (by decide) rfl (by decide) ?_
    refine r_aload_n (pc := 55) C dX5_count_55 rfl 0 rfl ?_
    refine r_getR5 (pc := 56) C 0 (k' := 42) rfl O_41 (by decide) rfl t_780 dX5_count_56 ?_
    refine r_iconst (pc := 59) C dX5_count_59 ?_
    refine r_iald (pc := 60) C 1 A_42 (by omega) (by omega) dX5_count_60 ?_
    refine r_top (show _ = ρ 0 7 from (congrFun hS _).trans (mkS_at rfl)) ?_
    exact r_retM (pc := 61) C (by first | (exfalso; omega; done) | ((try (first | rw [if_pos (by omega)] | rw [if_neg (by omega)])); (try (first | rw [if_pos (by omega)] | rw [if_neg (by omega)])); (try (first | rw [if_pos (by omega)] | rw [if_neg (by omega)])); (try (first | rw [if_pos (by omega)] | rw [if_neg (by omega)])); (try (first | rw [if_pos (by omega)] | rw [if_neg (by omega)])); (try (first | rw [if_pos (by omega)] | rw [if_neg (by omega)])); (try (first | rw [if_pos (by omega)] | rw [if_neg (by omega)])); (try (first | rw [if_pos (by omega)] | rw [if_neg (by omega)])); (try (first | rw [if_pos (by omega)] | rw [if_neg (by omega)])); (try rfl))) ((hS).trans (congrArg mkS (by first | (exfalso; omega; done) | ((try (first | rw [if_pos (by omega)] | rw [if_neg (by omega)])); (try (first | rw [if_pos (by omega)] | rw [if_neg (by omega)])); (try (first | rw [if_pos (by omega)] | rw [if_neg (by omega)])); (try (first | rw [if_pos (by omega)] | rw [if_neg (by omega)])); (try (first | rw [if_pos (by omega)] | rw [if_neg (by omega)])); (try (first | rw [if_pos (by omega)] | rw [if_neg (by omega)])); (try (first | rw [if_pos (by omega)] | rw [if_neg (by omega)])); (try (first | rw [if_pos (by omega)] | rw [if_neg (by omega)])); (try (first | rw [if_pos (by omega)] | rw [if_neg (by omega)])); (try rfl))))) (fun k hk => (rfl).trans (congrFun (by first | (exfalso; omega; done) | ((try (first | rw [if_pos (by omega)] | rw [if_neg (by omega)])); (try (first | rw [if_pos (by omega)] | rw [if_neg (by omega)])); (try (first | rw [if_pos (by omega)] | rw [if_neg (by omega)])); (try (first | rw [if_pos (by omega)] | rw [if_neg (by omega)])); (try (first | rw [if_pos (by omega)] | rw [if_neg (by omega)])); (try (first | rw [if_pos (by omega)] | rw [if_neg (by omega)])); (try (first | rw [if_pos (by omega)] | rw [if_neg (by omega)])); (try (first | rw [if_pos (by omega)] | rw [if_neg (by omega)])); (try (first | rw [if_pos (by omega)] | rw [if_neg (by omega)])); (try rfl))) k)) dX5_count_61
  by_cases hs1_2 : w = 2
  · refine r_tabIn C 2 62 dX5_count_1 hs1_2 ⟨by decide, by decide⟩ (by decide) (by decide) rfl (by decide) ?_
    refine r_aload_n (pc := 62) C dX5_count_62 rfl 0 rfl ?_
    refine r_cVi (pc := 63) C (c_heldOnes g  ρ σ hS hn hM) yX5_heldOnes_w O_41 rfl rfl t_1004 ⟨by decide, by decide⟩ (Nat.le_of_ble_eq_true rfl) rfl dX5_count_63 ?_
    have hso := setF_12 (fun f => decide (0 ≤ holder (ρ 0 7) (ρ 6) f))
    refine r_cSi (pc := 66) C (c_ones g (setF (fun f => decide (0 ≤ holder (ρ 0 7) (ρ 6) f)) 12) (by omega) σ) yX5_ones_w rfl t_1101 ⟨by decide, by decide⟩ (Nat.le_of_ble_eq_true rfl) rfl dX5_count_66 ?_
    exact r_retM (pc := 69) C (by first | (exfalso; omega; done) | ((try (first | rw [if_pos (by omega)] | rw [if_neg (by omega)])); (try (first | rw [if_pos (by omega)] | rw [if_neg (by omega)])); (try (first | rw [if_pos (by omega)] | rw [if_neg (by omega)])); (try (first | rw [if_pos (by omega)] | rw [if_neg (by omega)])); (try (first | rw [if_pos (by omega)] | rw [if_neg (by omega)])); (try (first | rw [if_pos (by omega)] | rw [if_neg (by omega)])); (try (first | rw [if_pos (by omega)] | rw [if_neg (by omega)])); (try (first | rw [if_pos (by omega)] | rw [if_neg (by omega)])); (try (first | rw [if_pos (by omega)] | rw [if_neg (by omega)])); (try rfl))) ((hS).trans (congrArg mkS (by first | (exfalso; omega; done) | ((try (first | rw [if_pos (by omega)] | rw [if_neg (by omega)])); (try (first | rw [if_pos (by omega)] | rw [if_neg (by omega)])); (try (first | rw [if_pos (by omega)] | rw [if_neg (by omega)])); (try (first | rw [if_pos (by omega)] | rw [if_neg (by omega)])); (try (first | rw [if_pos (by omega)] | rw [if_neg (by omega)])); (try (first | rw [if_pos (by omega)] | rw [if_neg (by omega)])); (try (first | rw [if_pos (by omega)] | rw [if_neg (by omega)])); (try (first | rw [if_pos (by omega)] | rw [if_neg (by omega)])); (try (first | rw [if_pos (by omega)] | rw [if_neg (by omega)])); (try rfl))))) (fun k hk => (rfl).trans (congrFun (by first | (exfalso; omega; done) | ((try (first | rw [if_pos (by omega)] | rw [if_neg (by omega)])); (try (first | rw [if_pos (by omega)] | rw [if_neg (by omega)])); (try (first | rw [if_pos (by omega)] | rw [if_neg (by omega)])); (try (first | rw [if_pos (by omega)] | rw [if_neg (by omega)])); (try (first | rw [if_pos (by omega)] | rw [if_neg (by omega)])); (try (first | rw [if_pos (by omega)] | rw [if_neg (by omega)])); (try (first | rw [if_pos (by omega)] | rw [if_neg (by omega)])); (try (first | rw [if_pos (by omega)] | rw [if_neg (by omega)])); (try (first | rw [if_pos (by omega)] | rw [if_neg (by omega)])); (try rfl))) k)) dX5_count_69
  by_cases hs1_3 : w = 3
  · refine r_tabIn C 3 70 dX5_count_1 hs1_3 ⟨by decide, by decide⟩ (by decide) (by decide) rfl (by decide) ?_
    refine r_aload_n (pc := 70) C dX5_count_70 rfl 0 rfl ?_
    refine r_cVi (pc := 71) C (c_dustAll g  ρ σ hS ) yX5_dustAll_w O_41 rfl rfl t_992 ⟨by decide, by decide⟩ (Nat.le_of_ble_eq_true rfl) rfl dX5_count_71 ?_
    exact r_retM (pc := 74) C (by first | (exfalso; omega; done) | ((try (first | rw [if_pos (by omega)] | rw [if_neg (by omega)])); (try (first | rw [if_pos (by omega)] | rw [if_neg (by omega)])); (try (first | rw [if_pos (by omega)] | rw [if_neg (by omega)])); (try (first | rw [if_pos (by omega)] | rw [if_neg (by omega)])); (try (first | rw [if_pos (by omega)] | rw [if_neg (by omega)])); (try (first | rw [if_pos (by omega)] | rw [if_neg (by omega)])); (try (first | rw [if_pos (by omega)] | rw [if_neg (by omega)])); (try (first | rw [if_pos (by omega)] | rw [if_neg (by omega)])); (try (first | rw [if_pos (by omega)] | rw [if_neg (by omega)])); (try rfl))) ((hS).trans (congrArg mkS (by first | (exfalso; omega; done) | ((try (first | rw [if_pos (by omega)] | rw [if_neg (by omega)])); (try (first | rw [if_pos (by omega)] | rw [if_neg (by omega)])); (try (first | rw [if_pos (by omega)] | rw [if_neg (by omega)])); (try (first | rw [if_pos (by omega)] | rw [if_neg (by omega)])); (try (first | rw [if_pos (by omega)] | rw [if_neg (by omega)])); (try (first | rw [if_pos (by omega)] | rw [if_neg (by omega)])); (try (first | rw [if_pos (by omega)] | rw [if_neg (by omega)])); (try (first | rw [if_pos (by omega)] | rw [if_neg (by omega)])); (try (first | rw [if_pos (by omega)] | rw [if_neg (by omega)])); (try rfl))))) (fun k hk => (rfl).trans (congrFun (by first | (exfalso; omega; done) | ((try (first | rw [if_pos (by omega)] | rw [if_neg (by omega)])); (try (first | rw [if_pos (by omega)] | rw [if_neg (by omega)])); (try (first | rw [if_pos (by omega)] | rw [if_neg (by omega)])); (try (first | rw [if_pos (by omega)] | rw [if_neg (by omega)])); (try (first | rw [if_pos (by omega)] | rw [if_neg (by omega)])); (try (first | rw [if_pos (by omega)] | rw [if_neg (by omega)])); (try (first | rw [if_pos (by omega)] | rw [if_neg (by omega)])); (try (first | rw [if_pos (by omega)] | rw [if_neg (by omega)])); (try (first | rw [if_pos (by omega)] | rw [if_neg (by omega)])); (try rfl))) k)) dX5_count_74
  by_cases hs1_4 : w = 4
  · refine r_tabIn C 4 75 dX5_count_1 hs1_4 ⟨by decide, by decide⟩ (by decide) (by decide) rfl (by decide) ?_
    refine r_aload_n (pc := 75) C dX5_count_75 rfl 0 rfl ?_
    refine r_cVi (pc := 76) C (c_goodsAll g  ρ σ hS hn) yX5_goodsAll_w O_41 rfl rfl t_1000 ⟨by decide, by decide⟩ (Nat.le_of_ble_eq_true rfl) rfl dX5_count_76 ?_
    exact r_retM (pc := 79) C (by first | (exfalso; omega; done) | ((try (first | rw [if_pos (by omega)] | rw [if_neg (by omega)])); (try (first | rw [if_pos (by omega)] | rw [if_neg (by omega)])); (try (first | rw [if_pos (by omega)] | rw [if_neg (by omega)])); (try (first | rw [if_pos (by omega)] | rw [if_neg (by omega)])); (try (first | rw [if_pos (by omega)] | rw [if_neg (by omega)])); (try (first | rw [if_pos (by omega)] | rw [if_neg (by omega)])); (try (first | rw [if_pos (by omega)] | rw [if_neg (by omega)])); (try (first | rw [if_pos (by omega)] | rw [if_neg (by omega)])); (try (first | rw [if_pos (by omega)] | rw [if_neg (by omega)])); (try rfl))) ((hS).trans (congrArg mkS (by first | (exfalso; omega; done) | ((try (first | rw [if_pos (by omega)] | rw [if_neg (by omega)])); (try (first | rw [if_pos (by omega)] | rw [if_neg (by omega)])); (try (first | rw [if_pos (by omega)] | rw [if_neg (by omega)])); (try (first | rw [if_pos (by omega)] | rw [if_neg (by omega)])); (try (first | rw [if_pos (by omega)] | rw [if_neg (by omega)])); (try (first | rw [if_pos (by omega)] | rw [if_neg (by omega)])); (try (first | rw [if_pos (by omega)] | rw [if_neg (by omega)])); (try (first | rw [if_pos (by omega)] | rw [if_neg (by omega)])); (try (first | rw [if_pos (by omega)] | rw [if_neg (by omega)])); (try rfl))))) (fun k hk => (rfl).trans (congrFun (by first | (exfalso; omega; done) | ((try (first | rw [if_pos (by omega)] | rw [if_neg (by omega)])); (try (first | rw [if_pos (by omega)] | rw [if_neg (by omega)])); (try (first | rw [if_pos (by omega)] | rw [if_neg (by omega)])); (try (first | rw [if_pos (by omega)] | rw [if_neg (by omega)])); (try (first | rw [if_pos (by omega)] | rw [if_neg (by omega)])); (try (first | rw [if_pos (by omega)] | rw [if_neg (by omega)])); (try (first | rw [if_pos (by omega)] | rw [if_neg (by omega)])); (try (first | rw [if_pos (by omega)] | rw [if_neg (by omega)])); (try (first | rw [if_pos (by omega)] | rw [if_neg (by omega)])); (try rfl))) k)) dX5_count_79
  by_cases hs1_5 : w = 5
  · refine r_tabIn C 5 80 dX5_count_1 hs1_5 ⟨by decide, by decide⟩ (by decide) (by decide) rfl (by decide) ?_
    refine r_aload_n (pc := 80) C dX5_count_80 rfl 0 rfl ?_
    refine r_getI5 (pc := 81) C 10 rfl O_41 (by decide) rfl t_790 dX5_count_81 ?_
    exact r_retM (pc := 84) C (by first | (exfalso; omega; done) | ((try (first | rw [if_pos (by omega)] | rw [if_neg (by omega)])); (try (first | rw [if_pos (by omega)] | rw [if_neg (by omega)])); (try (first | rw [if_pos (by omega)] | rw [if_neg (by omega)])); (try (first | rw [if_pos (by omega)] | rw [if_neg (by omega)])); (try (first | rw [if_pos (by omega)] | rw [if_neg (by omega)])); (try (first | rw [if_pos (by omega)] | rw [if_neg (by omega)])); (try (first | rw [if_pos (by omega)] | rw [if_neg (by omega)])); (try (first | rw [if_pos (by omega)] | rw [if_neg (by omega)])); (try (first | rw [if_pos (by omega)] | rw [if_neg (by omega)])); (try rfl))) ((hS).trans (congrArg mkS (by first | (exfalso; omega; done) | ((try (first | rw [if_pos (by omega)] | rw [if_neg (by omega)])); (try (first | rw [if_pos (by omega)] | rw [if_neg (by omega)])); (try (first | rw [if_pos (by omega)] | rw [if_neg (by omega)])); (try (first | rw [if_pos (by omega)] | rw [if_neg (by omega)])); (try (first | rw [if_pos (by omega)] | rw [if_neg (by omega)])); (try (first | rw [if_pos (by omega)] | rw [if_neg (by omega)])); (try (first | rw [if_pos (by omega)] | rw [if_neg (by omega)])); (try (first | rw [if_pos (by omega)] | rw [if_neg (by omega)])); (try (first | rw [if_pos (by omega)] | rw [if_neg (by omega)])); (try rfl))))) (fun k hk => (rfl).trans (congrFun (by first | (exfalso; omega; done) | ((try (first | rw [if_pos (by omega)] | rw [if_neg (by omega)])); (try (first | rw [if_pos (by omega)] | rw [if_neg (by omega)])); (try (first | rw [if_pos (by omega)] | rw [if_neg (by omega)])); (try (first | rw [if_pos (by omega)] | rw [if_neg (by omega)])); (try (first | rw [if_pos (by omega)] | rw [if_neg (by omega)])); (try (first | rw [if_pos (by omega)] | rw [if_neg (by omega)])); (try (first | rw [if_pos (by omega)] | rw [if_neg (by omega)])); (try (first | rw [if_pos (by omega)] | rw [if_neg (by omega)])); (try (first | rw [if_pos (by omega)] | rw [if_neg (by omega)])); (try rfl))) k)) dX5_count_84
  by_cases hs1_6 : w = 6
  · refine r_tabIn C 6 85 dX5_count_1 hs1_6 ⟨by decide, by decide⟩ (by decide) (by decide) rfl (by decide) ?_
    refine r_aload_n (pc := 85) C dX5_count_85 rfl 0 rfl ?_
    refine r_getR5 (pc := 86) C 0 (k' := 42) rfl O_41 (by decide) rfl t_780 dX5_count_86 ?_
    refine r_iconst (pc := 89) C dX5_count_89 ?_
    refine r_iald (pc := 90) C 4 A_42 (by omega) (by omega) dX5_count_90 ?_
    refine r_top (show _ = ρ 0 11 from (congrFun hS _).trans (mkS_at rfl)) ?_
    exact r_retM (pc := 91) C (by first | (exfalso; omega; done) | ((try (first | rw [if_pos (by omega)] | rw [if_neg (by omega)])); (try (first | rw [if_pos (by omega)] | rw [if_neg (by omega)])); (try (first | rw [if_pos (by omega)] | rw [if_neg (by omega)])); (try (first | rw [if_pos (by omega)] | rw [if_neg (by omega)])); (try (first | rw [if_pos (by omega)] | rw [if_neg (by omega)])); (try (first | rw [if_pos (by omega)] | rw [if_neg (by omega)])); (try (first | rw [if_pos (by omega)] | rw [if_neg (by omega)])); (try (first | rw [if_pos (by omega)] | rw [if_neg (by omega)])); (try (first | rw [if_pos (by omega)] | rw [if_neg (by omega)])); (try rfl))) ((hS).trans (congrArg mkS (by first | (exfalso; omega; done) | ((try (first | rw [if_pos (by omega)] | rw [if_neg (by omega)])); (try (first | rw [if_pos (by omega)] | rw [if_neg (by omega)])); (try (first | rw [if_pos (by omega)] | rw [if_neg (by omega)])); (try (first | rw [if_pos (by omega)] | rw [if_neg (by omega)])); (try (first | rw [if_pos (by omega)] | rw [if_neg (by omega)])); (try (first | rw [if_pos (by omega)] | rw [if_neg (by omega)])); (try (first | rw [if_pos (by omega)] | rw [if_neg (by omega)])); (try (first | rw [if_pos (by omega)] | rw [if_neg (by omega)])); (try (first | rw [if_pos (by omega)] | rw [if_neg (by omega)])); (try rfl))))) (fun k hk => (rfl).trans (congrFun (by first | (exfalso; omega; done) | ((try (first | rw [if_pos (by omega)] | rw [if_neg (by omega)])); (try (first | rw [if_pos (by omega)] | rw [if_neg (by omega)])); (try (first | rw [if_pos (by omega)] | rw [if_neg (by omega)])); (try (first | rw [if_pos (by omega)] | rw [if_neg (by omega)])); (try (first | rw [if_pos (by omega)] | rw [if_neg (by omega)])); (try (first | rw [if_pos (by omega)] | rw [if_neg (by omega)])); (try (first | rw [if_pos (by omega)] | rw [if_neg (by omega)])); (try (first | rw [if_pos (by omega)] | rw [if_neg (by omega)])); (try (first | rw [if_pos (by omega)] | rw [if_neg (by omega)])); (try rfl))) k)) dX5_count_91
  by_cases hs1_7 : w = 7
  · refine r_tabIn C 7 92 dX5_count_1 hs1_7 ⟨by decide, by decide⟩ (by decide) (by decide) rfl (by decide) ?_
    refine r_aload_n (pc := 92) C dX5_count_92 rfl 0 rfl ?_
    refine r_cVi (pc := 93) C (c_heldSpots g ρ σ hS (fun j hj => by have := hP j hj; omega)) yX5_heldSpots_w O_41 rfl rfl t_1304 ⟨by decide, by decide⟩ (Nat.le_of_ble_eq_true rfl) rfl dX5_count_93 ?_
    exact r_retM (pc := 96) C (by first | (exfalso; omega; done) | ((try (first | rw [if_pos (by omega)] | rw [if_neg (by omega)])); (try (first | rw [if_pos (by omega)] | rw [if_neg (by omega)])); (try (first | rw [if_pos (by omega)] | rw [if_neg (by omega)])); (try (first | rw [if_pos (by omega)] | rw [if_neg (by omega)])); (try (first | rw [if_pos (by omega)] | rw [if_neg (by omega)])); (try (first | rw [if_pos (by omega)] | rw [if_neg (by omega)])); (try (first | rw [if_pos (by omega)] | rw [if_neg (by omega)])); (try (first | rw [if_pos (by omega)] | rw [if_neg (by omega)])); (try (first | rw [if_pos (by omega)] | rw [if_neg (by omega)])); (try rfl))) ((hS).trans (congrArg mkS (by first | (exfalso; omega; done) | ((try (first | rw [if_pos (by omega)] | rw [if_neg (by omega)])); (try (first | rw [if_pos (by omega)] | rw [if_neg (by omega)])); (try (first | rw [if_pos (by omega)] | rw [if_neg (by omega)])); (try (first | rw [if_pos (by omega)] | rw [if_neg (by omega)])); (try (first | rw [if_pos (by omega)] | rw [if_neg (by omega)])); (try (first | rw [if_pos (by omega)] | rw [if_neg (by omega)])); (try (first | rw [if_pos (by omega)] | rw [if_neg (by omega)])); (try (first | rw [if_pos (by omega)] | rw [if_neg (by omega)])); (try (first | rw [if_pos (by omega)] | rw [if_neg (by omega)])); (try rfl))))) (fun k hk => (rfl).trans (congrFun (by first | (exfalso; omega; done) | ((try (first | rw [if_pos (by omega)] | rw [if_neg (by omega)])); (try (first | rw [if_pos (by omega)] | rw [if_neg (by omega)])); (try (first | rw [if_pos (by omega)] | rw [if_neg (by omega)])); (try (first | rw [if_pos (by omega)] | rw [if_neg (by omega)])); (try (first | rw [if_pos (by omega)] | rw [if_neg (by omega)])); (try (first | rw [if_pos (by omega)] | rw [if_neg (by omega)])); (try (first | rw [if_pos (by omega)] | rw [if_neg (by omega)])); (try (first | rw [if_pos (by omega)] | rw [if_neg (by omega)])); (try (first | rw [if_pos (by omega)] | rw [if_neg (by omega)])); (try rfl))) k)) dX5_count_96
  refine r_tabOut (pc := 1) C 97 dX5_count_1 h_w (by omega) (by decide) ?_
  refine r_aload_n (pc := 97) C dX5_count_97 rfl 0 rfl ?_
  refine r_ldc (pc := 98) C (-1000001) t_854 (by decide) dX5_count_98 ?_
  refine r_cVi (pc := 100) C (c_finds g 0 (by decide) σ) yX5_finds_w O_41 rfl rfl t_855 ⟨by decide, by decide⟩ (Nat.le_of_ble_eq_true rfl) (by rw [show ((-1000001) : Int) = -1000001 - ((0 : Nat) : Int) by decide]; rfl) dX5_count_100 ?_
  exact r_retM (pc := 103) C (by first | (exfalso; omega; done) | ((try (first | rw [if_pos (by omega)] | rw [if_neg (by omega)])); (try (first | rw [if_pos (by omega)] | rw [if_neg (by omega)])); (try (first | rw [if_pos (by omega)] | rw [if_neg (by omega)])); (try (first | rw [if_pos (by omega)] | rw [if_neg (by omega)])); (try (first | rw [if_pos (by omega)] | rw [if_neg (by omega)])); (try (first | rw [if_pos (by omega)] | rw [if_neg (by omega)])); (try (first | rw [if_pos (by omega)] | rw [if_neg (by omega)])); (try (first | rw [if_pos (by omega)] | rw [if_neg (by omega)])); (try (first | rw [if_pos (by omega)] | rw [if_neg (by omega)])); (try rfl))) ((((wr_n _ _ _ (by omega)).trans hS)).trans (congrArg mkS (by first | (exfalso; omega; done) | ((try (first | rw [if_pos (by omega)] | rw [if_neg (by omega)])); (try (first | rw [if_pos (by omega)] | rw [if_neg (by omega)])); (try (first | rw [if_pos (by omega)] | rw [if_neg (by omega)])); (try (first | rw [if_pos (by omega)] | rw [if_neg (by omega)])); (try (first | rw [if_pos (by omega)] | rw [if_neg (by omega)])); (try (first | rw [if_pos (by omega)] | rw [if_neg (by omega)])); (try (first | rw [if_pos (by omega)] | rw [if_neg (by omega)])); (try (first | rw [if_pos (by omega)] | rw [if_neg (by omega)])); (try (first | rw [if_pos (by omega)] | rw [if_neg (by omega)])); (try rfl))))) (fun k hk => (rfl).trans (congrFun (by first | (exfalso; omega; done) | ((try (first | rw [if_pos (by omega)] | rw [if_neg (by omega)])); (try (first | rw [if_pos (by omega)] | rw [if_neg (by omega)])); (try (first | rw [if_pos (by omega)] | rw [if_neg (by omega)])); (try (first | rw [if_pos (by omega)] | rw [if_neg (by omega)])); (try (first | rw [if_pos (by omega)] | rw [if_neg (by omega)])); (try (first | rw [if_pos (by omega)] | rw [if_neg (by omega)])); (try (first | rw [if_pos (by omega)] | rw [if_neg (by omega)])); (try (first | rw [if_pos (by omega)] | rw [if_neg (by omega)])); (try (first | rw [if_pos (by omega)] | rw [if_neg (by omega)])); (try rfl))) k)) dX5_count_103
set_option maxHeartbeats 4000000 in
set_option maxRecDepth 100000 in
theorem e_status (g : Gt) (w : Int) (h_w : rng w) (ρ σ : Sg) (hS : σ 42 = mkS ρ)  : Mt g yX5_status cX5_status 4 (some FieldType.int) 2 [.ref (gA g 41), .int (iI (w))] σ (pM (if -1 ≤ w ∧ w ≤ 6 then sumF (fun j => if w < 0 ∨ (j : Int) = w then σ 46 j else 0) 7 else (-1000001 - ((0 : Nat) : Int))) (ρ) (if -1 ≤ w ∧ w ≤ 6 then σ else finM 0 σ)) := by
  have ho_w := h_w.1; have hp_w := h_w.2
  refine mt_of (own := RX5) (by decide) rfl (Nat.le_of_ble_eq_true rfl) (fun E C => ?_)
  show J g E (pM (if -1 ≤ w ∧ w ≤ 6 then sumF (fun j => if w < 0 ∨ (j : Int) = w then σ 46 j else 0) 7 else (-1000001 - ((0 : Nat) : Int))) (ρ) (if -1 ≤ w ∧ w ≤ 6 then σ else finM 0 σ)) 4 0 [(0, .ref (gA g 41)), (1, .int (iI (w)))] [] σ
  refine r_iload_n (pc := 0) C dX5_status_0 rfl 1 rfl ?_
  refine r_i2l (pc := 1) C h_w dX5_status_1 ?_
  refine r_ldc2 (pc := 2) C (-1) t_1312 (by decide) dX5_status_2 ?_
  refine r_ldc2 (pc := 5) C 6 t_895 (by decide) dX5_status_5 ?_
  refine r_cSi (pc := 8) C (c_in g w (-1) 6 ⟨by have := h_w.1; omega, by have := h_w.2; omega⟩ ⟨by omega, by omega⟩ ⟨by omega, by omega⟩ σ) yX5_in_w rfl t_846 ⟨by decide, by decide⟩ (Nat.le_of_ble_eq_true rfl) rfl dX5_status_8 ?_
  refine r_ifz_ne (pc := 11) C 21 dX5_status_11 (by decide) (fun h11 => ?_) (fun h11 => ?_)
  · skip
    refine r_iconst (pc := 21) C dX5_status_21 ?_
    refine r_istore_n (pc := 22) C dX5_status_22 rfl (by decide) [1, 2, 0] (lv' := [(0, .ref (gA g 41)), (1, .int (iI (w))), (2, .int (iI (0)))]) rfl ?_
    refine r_iconst (pc := 23) C dX5_status_23 ?_
    refine r_istore_n (pc := 24) C dX5_status_24 rfl (by decide) [1, 2, 3, 0] (lv' := [(0, .ref (gA g 41)), (1, .int (iI (w))), (2, .int (iI (0))), (3, .int (iI (0)))]) rfl ?_
    have L25 : ∀ (n_ : Nat) (i : Nat) (x25_2 x25_3 : Int), 7 - i < n_ → (i ≤ 7) → x25_2 = sumF (fun j => if w < 0 ∨ (j : Int) = w then σ 46 j else 0) i → x25_3 = (i : Int) → J g E (pM (if -1 ≤ w ∧ w ≤ 6 then sumF (fun j => if w < 0 ∨ (j : Int) = w then σ 46 j else 0) 7 else (-1000001 - ((0 : Nat) : Int))) (ρ) (if -1 ≤ w ∧ w ≤ 6 then σ else finM 0 σ)) 4 25 [(0, .ref (gA g 41)), (1, .int (iI (w))), (2, .int (iI (x25_2))), (3, .int (iI (x25_3)))] [] σ := by
      intro n_
      induction n_ with
      | zero => intro i x25_2 x25_3  hm_; exact absurd hm_ (Nat.not_lt_zero _)
      | succ n_ ih25 =>
        intro i x25_2 x25_3  hm25 hi25_0 e25_0 e25_1 
        subst e25_0 e25_1 
        refine r_iload_n (pc := 25) C dX5_status_25 rfl 3 rfl ?_
        refine r_bipush (pc := 26) C dX5_status_26 (by decide) ?_
        refine r_icmp_ge (pc := 28) C 59 ⟨by omega, by omega⟩ ⟨by omega, by omega⟩ dX5_status_28 (by decide) (fun h28 => ?_) (fun h28 => ?_)
        · skip
          refine r_iload_n (pc := 59) C dX5_status_59 rfl 2 rfl ?_
          exact r_retM (pc := 60) C (by rw [if_pos (by omega), show i = 7 by omega]) ((hS).trans (congrArg mkS (by first | (exfalso; omega; done) | ((try (first | rw [if_pos (by omega)] | rw [if_neg (by omega)])); (try (first | rw [if_pos (by omega)] | rw [if_neg (by omega)])); (try (first | rw [if_pos (by omega)] | rw [if_neg (by omega)])); (try (first | rw [if_pos (by omega)] | rw [if_neg (by omega)])); (try rfl))))) (fun k hk => (rfl).trans (congrFun (by first | (exfalso; omega; done) | ((try (first | rw [if_pos (by omega)] | rw [if_neg (by omega)])); (try (first | rw [if_pos (by omega)] | rw [if_neg (by omega)])); (try (first | rw [if_pos (by omega)] | rw [if_neg (by omega)])); (try (first | rw [if_pos (by omega)] | rw [if_neg (by omega)])); (try rfl))) k)) dX5_status_60
        · skip
          refine r_iload_n (pc := 31) C dX5_status_31 rfl 2 rfl ?_
          refine r_iload_n (pc := 32) C dX5_status_32 rfl 1 rfl ?_
          refine r_if_lt (pc := 33) C 41 h_w dX5_status_33 (by decide) (fun h33 => ?_) (fun h33 => ?_)
          · skip
            refine r_aload_n (pc := 41) C dX5_status_41 rfl 0 rfl ?_
            refine r_getR5 (pc := 42) C 4 (k' := 46) rfl O_41 (by decide) rfl t_784 dX5_status_42 ?_
            refine r_iload_n (pc := 45) C dX5_status_45 rfl 3 rfl ?_
            refine r_iald (pc := 46) C i A_46 (by omega) (by omega) dX5_status_46 ?_
            refine r_goto (pc := 47) C 51 dX5_status_47 (by decide) ?_
            refine r_iadd (pc := 51) C dX5_status_51 ?_
            refine r_istore_n (pc := 52) C dX5_status_52 rfl (by decide) [1, 2, 0, 3] (lv' := [(0, .ref (gA g 41)), (1, .int (iI (w))), (2, .int (iI ((sumF (fun j => if w < 0 ∨ (j : Int) = w then σ 46 j else 0) i) + (σ 46 i)))), (3, .int (iI ((i : Int))))]) rfl ?_
            refine r_iinc (pc := 53) C dX5_status_53 3 rfl (by decide) [1, 2, 3, 0] (lv' := [(0, .ref (gA g 41)), (1, .int (iI (w))), (2, .int (iI ((sumF (fun j => if w < 0 ∨ (j : Int) = w then σ 46 j else 0) i) + (σ 46 i)))), (3, .int (iI ((i : Int) + 1)))]) rfl ?_
            refine r_goto (pc := 56) C 25 dX5_status_56 (by decide) ?_
            exact ih25 (i + 1) _ _ (by omega) (by omega) (congrArg (sumF (fun j => if w < 0 ∨ (j : Int) = w then σ 46 j else 0) i + ·) (by first | exact (if_pos (by omega)).symm | exact (if_neg (by omega)).symm)) (by omega)
          · skip
            refine r_iload_n (pc := 36) C dX5_status_36 rfl 3 rfl ?_
            refine r_iload_n (pc := 37) C dX5_status_37 rfl 1 rfl ?_
            refine r_icmp_ne (pc := 38) C 50 ⟨by omega, by omega⟩ h_w dX5_status_38 (by decide) (fun h38 => ?_) (fun h38 => ?_)
            · skip
              refine r_iconst (pc := 50) C dX5_status_50 ?_
              refine r_iadd (pc := 51) C dX5_status_51 ?_
              refine r_istore_n (pc := 52) C dX5_status_52 rfl (by decide) [1, 2, 0, 3] (lv' := [(0, .ref (gA g 41)), (1, .int (iI (w))), (2, .int (iI ((sumF (fun j => if w < 0 ∨ (j : Int) = w then σ 46 j else 0) i) + 0))), (3, .int (iI ((i : Int))))]) rfl ?_
              refine r_iinc (pc := 53) C dX5_status_53 3 rfl (by decide) [1, 2, 3, 0] (lv' := [(0, .ref (gA g 41)), (1, .int (iI (w))), (2, .int (iI ((sumF (fun j => if w < 0 ∨ (j : Int) = w then σ 46 j else 0) i) + 0))), (3, .int (iI ((i : Int) + 1)))]) rfl ?_
              refine r_goto (pc := 56) C 25 dX5_status_56 (by decide) ?_
              exact ih25 (i + 1) _ _ (by omega) (by omega) (congrArg (sumF (fun j => if w < 0 ∨ (j : Int) = w then σ 46 j else 0) i + ·) (by first | exact (if_pos (by omega)).symm | exact (if_neg (by omega)).symm)) (by omega)
            · skip
              refine r_aload_n (pc := 41) C dX5_status_41 rfl 0 rfl ?_
              refine r_getR5 (pc := 42) C 4 (k' := 46) rfl O_41 (by decide) rfl t_784 dX5_status_42 ?_
              refine r_iload_n (pc := 45) C dX5_status_45 rfl 3 rfl ?_
              refine r_iald (pc := 46) C i A_46 (by omega) (by omega) dX5_status_46 ?_
              refine r_goto (pc := 47) C 51 dX5_status_47 (by decide) ?_
              refine r_iadd (pc := 51) C dX5_status_51 ?_
              refine r_istore_n (pc := 52) C dX5_status_52 rfl (by decide) [1, 2, 0, 3] (lv' := [(0, .ref (gA g 41)), (1, .int (iI (w))), (2, .int (iI ((sumF (fun j => if w < 0 ∨ (j : Int) = w then σ 46 j else 0) i) + (σ 46 i)))), (3, .int (iI ((i : Int))))]) rfl ?_
              refine r_iinc (pc := 53) C dX5_status_53 3 rfl (by decide) [1, 2, 3, 0] (lv' := [(0, .ref (gA g 41)), (1, .int (iI (w))), (2, .int (iI ((sumF (fun j => if w < 0 ∨ (j : Int) = w then σ 46 j else 0) i) + (σ 46 i)))), (3, .int (iI ((i : Int) + 1)))]) rfl ?_
              refine r_goto (pc := 56) C 25 dX5_status_56 (by decide) ?_
              exact ih25 (i + 1) _ _ (by omega) (by omega) (congrArg (sumF (fun j => if w < 0 ∨ (j : Int) = w then σ 46 j else 0) i + ·) (by first | exact (if_pos (by omega)).symm | exact (if_neg (by omega)).symm)) (by omega)
    exact L25 _ 0 _ _ (Nat.lt_succ_self _) (by omega) (rfl) (rfl)
  · skip
    refine r_aload_n (pc := 14) C dX5_status_14 rfl 0 rfl ?_
    refine r_ldc (pc := 15) C (-1000001) t_854 (by decide) dX5_status_15 ?_
    refine r_cVi (pc := 17) C (c_finds g 0 (by decide) σ) yX5_finds_w O_41 rfl rfl t_855 ⟨by decide, by decide⟩ (Nat.le_of_ble_eq_true rfl) (by rw [show ((-1000001) : Int) = -1000001 - ((0 : Nat) : Int) by decide]; rfl) dX5_status_17 ?_
    exact r_retM (pc := 20) C (by first | (exfalso; omega; done) | ((try (first | rw [if_pos (by omega)] | rw [if_neg (by omega)])); (try (first | rw [if_pos (by omega)] | rw [if_neg (by omega)])); (try (first | rw [if_pos (by omega)] | rw [if_neg (by omega)])); (try (first | rw [if_pos (by omega)] | rw [if_neg (by omega)])); (try rfl))) ((((wr_n _ _ _ (by omega)).trans hS)).trans (congrArg mkS (by first | (exfalso; omega; done) | ((try (first | rw [if_pos (by omega)] | rw [if_neg (by omega)])); (try (first | rw [if_pos (by omega)] | rw [if_neg (by omega)])); (try (first | rw [if_pos (by omega)] | rw [if_neg (by omega)])); (try (first | rw [if_pos (by omega)] | rw [if_neg (by omega)])); (try rfl))))) (fun k hk => (rfl).trans (congrFun (by first | (exfalso; omega; done) | ((try (first | rw [if_pos (by omega)] | rw [if_neg (by omega)])); (try (first | rw [if_pos (by omega)] | rw [if_neg (by omega)])); (try (first | rw [if_pos (by omega)] | rw [if_neg (by omega)])); (try (first | rw [if_pos (by omega)] | rw [if_neg (by omega)])); (try rfl))) k)) dX5_status_20
set_option maxHeartbeats 4000000 in
set_option maxRecDepth 100000 in
theorem e_feed (g : Gt) (v n : Int) (h_v : rng v) (h_n : rng n) (ρ σ : Sg) (hS : σ 42 = mkS ρ) (hl : 0 ≤ σ 41 10 ∧ σ 41 10 ≤ 120) : Mt g yX5_feed cX5_feed 4 (some FieldType.int) 2 [.ref (gA g 41), .int (iI (v)), .int (iI (n))] σ (pM (if 1 ≤ n ∧ n ≤ 4 then (if 120 - n < σ 41 10 then (-1000001 - ((1 : Nat) : Int)) else σ 41 10 + (n.toNat : Int)) else (-1000001 - ((0 : Nat) : Int))) (ρ) (if 1 ≤ n ∧ n ≤ 4 then (if 120 - n < σ 41 10 then finM 1 σ else wr (us σ 49 (apM v n.toNat (σ 41 10).toNat (σ 49) n.toNat)) 41 10 (σ 41 10 + (n.toNat : Int))) else finM 0 σ)) := by
  have ho_v := h_v.1; have hp_v := h_v.2
  have ho_n := h_n.1; have hp_n := h_n.2
  refine mt_of (own := RX5) (by decide) rfl (Nat.le_of_ble_eq_true rfl) (fun E C => ?_)
  show J g E (pM (if 1 ≤ n ∧ n ≤ 4 then (if 120 - n < σ 41 10 then (-1000001 - ((1 : Nat) : Int)) else σ 41 10 + (n.toNat : Int)) else (-1000001 - ((0 : Nat) : Int))) (ρ) (if 1 ≤ n ∧ n ≤ 4 then (if 120 - n < σ 41 10 then finM 1 σ else wr (us σ 49 (apM v n.toNat (σ 41 10).toNat (σ 49) n.toNat)) 41 10 (σ 41 10 + (n.toNat : Int))) else finM 0 σ)) 4 0 [(0, .ref (gA g 41)), (1, .int (iI (v))), (2, .int (iI (n)))] [] σ
  refine r_iload_n (pc := 0) C dX5_feed_0 rfl 2 rfl ?_
  refine r_i2l (pc := 1) C h_n dX5_feed_1 ?_
  refine r_lconst (pc := 2) C (n := 1) dX5_feed_2 (by decide) ?_
  refine r_ldc2 (pc := 3) C 4 t_1162 (by decide) dX5_feed_3 ?_
  refine r_cSi (pc := 6) C (c_in g n 1 4 ⟨by have := h_n.1; omega, by have := h_n.2; omega⟩ ⟨by omega, by omega⟩ ⟨by omega, by omega⟩ σ) yX5_in_w rfl t_846 ⟨by decide, by decide⟩ (Nat.le_of_ble_eq_true rfl) rfl dX5_feed_6 ?_
  refine r_ifz_ne (pc := 9) C 19 dX5_feed_9 (by decide) (fun h9 => ?_) (fun h9 => ?_)
  · skip
    refine r_aload_n (pc := 19) C dX5_feed_19 rfl 0 rfl ?_
    refine r_getI5 (pc := 20) C 10 rfl O_41 (by decide) rfl t_790 dX5_feed_20 ?_
    refine r_iload_n (pc := 23) C dX5_feed_23 rfl 2 rfl ?_
    refine r_iadd (pc := 24) C dX5_feed_24 ?_
    refine r_bipush (pc := 25) C dX5_feed_25 (by decide) ?_
    refine r_icmp_le (pc := 27) C 37 ⟨by omega, by omega⟩ ⟨by omega, by omega⟩ dX5_feed_27 (by decide) (fun h27 => ?_) (fun h27 => ?_)
    · skip
      refine r_iload_n (pc := 37) C dX5_feed_37 rfl 2 rfl ?_
      refine r_iconst (pc := 38) C dX5_feed_38 ?_
      refine r_isub (pc := 39) C dX5_feed_39 ?_
      refine r_istore_n (pc := 40) C dX5_feed_40 rfl (by decide) [1, 2, 3, 0] (lv' := [(0, .ref (gA g 41)), (1, .int (iI (v))), (2, .int (iI (n))), (3, .int (iI (n - 1)))]) rfl ?_
      have L41 : ∀ (n_ : Nat) (m : Nat) (x41_3 : Int) (s41 : Sg), n.toNat - m < n_ → (m ≤ n.toNat) → x41_3 = n - 1 - (m : Int) → s41 = (wr (us σ 49 (apM v n.toNat (σ 41 10).toNat (σ 49) m)) 41 10 (σ 41 10 + (m : Int))) → J g E (pM (if 1 ≤ n ∧ n ≤ 4 then (if 120 - n < σ 41 10 then (-1000001 - ((1 : Nat) : Int)) else σ 41 10 + (n.toNat : Int)) else (-1000001 - ((0 : Nat) : Int))) (ρ) (if 1 ≤ n ∧ n ≤ 4 then (if 120 - n < σ 41 10 then finM 1 σ else wr (us σ 49 (apM v n.toNat (σ 41 10).toNat (σ 49) n.toNat)) 41 10 (σ 41 10 + (n.toNat : Int))) else finM 0 σ)) 4 41 [(0, .ref (gA g 41)), (1, .int (iI (v))), (2, .int (iI (n))), (3, .int (iI (x41_3)))] [] s41 := by
        intro n_
        induction n_ with
        | zero => intro m x41_3 s41 hm_; exact absurd hm_ (Nat.not_lt_zero _)
        | succ n_ ih41 =>
          intro m x41_3 s41 hm41 hi41_0 e41_0 es41
          subst e41_0 es41
          refine r_iload_n (pc := 41) C dX5_feed_41 rfl 3 rfl ?_
          refine r_if_lt (pc := 42) C 80 ⟨by omega, by omega⟩ dX5_feed_42 (by decide) (fun h42 => ?_) (fun h42 => ?_)
          · skip
            refine r_aload_n (pc := 80) C dX5_feed_80 rfl 0 rfl ?_
            refine r_getI5 (pc := 81) C 10 rfl O_41 (by decide) rfl t_790 dX5_feed_81 ?_
            refine r_top (wr_s2 _ _ _ _) ?_
            exact r_retM (pc := 84) C (by rw [if_pos (by omega), if_neg (by omega)]; omega) (((wr_n _ _ _ (by omega)).trans ((us_n _ _ (by omega)).trans hS))) (fun k hk => congrFun (by rw [if_pos (by omega), if_neg (by omega), show m = n.toNat by omega]) k) dX5_feed_84
          · skip
            refine r_aload_n (pc := 45) C dX5_feed_45 rfl 0 rfl ?_
            refine r_getR5 (pc := 46) C 9 (k' := 49) rfl O_41 (by decide) rfl t_789 dX5_feed_46 ?_
            refine r_aload_n (pc := 49) C dX5_feed_49 rfl 0 rfl ?_
            refine r_getI5 (pc := 50) C 10 rfl O_41 (by decide) rfl t_790 dX5_feed_50 ?_
            refine r_top (wr_s2 _ _ _ _) ?_
            refine r_iload_n (pc := 53) C dX5_feed_53 rfl 1 rfl ?_
            refine r_bipush (pc := 54) C dX5_feed_54 (by decide) ?_
            refine r_iload_n (pc := 56) C dX5_feed_56 rfl 3 rfl ?_
            refine r_imul (pc := 57) C dX5_feed_57 ?_
            refine r_ishr (pc := 58) C dX5_feed_58 ?_
            refine r_sipush (pc := 59) C dX5_feed_59 (by decide) ?_
            refine r_iand (pc := 62) C dX5_feed_62 ?_
            refine r_iast (pc := 63) C ((σ 41 10).toNat + m) A_49 (by omega) (by omega) dX5_feed_63 ?_
            refine r_aload_n (pc := 64) C dX5_feed_64 rfl 0 rfl ?_
            refine r_dup (pc := 65) C rfl dX5_feed_65 ?_
            refine r_getI5 (pc := 66) C 10 rfl O_41 (by decide) rfl t_790 dX5_feed_66 ?_
            refine r_top ((wr_o2 (k := 49) (k' := 41) _ _ _ _ (by omega)).trans (wr_s2 _ _ _ _)) ?_
            refine r_iconst (pc := 69) C dX5_feed_69 ?_
            refine r_iadd (pc := 70) C dX5_feed_70 ?_
            refine r_put5 (pc := 71) C 10 rfl O_41 (by decide) rfl t_790 rfl (by decide +kernel) dX5_feed_71 ?_
            refine r_iinc (pc := 74) C dX5_feed_74 3 rfl (by decide) [1, 2, 3, 0] (lv' := [(0, .ref (gA g 41)), (1, .int (iI (v))), (2, .int (iI (n))), (3, .int (iI ((n - 1 - (m : Int)) + (-1))))]) rfl ?_
            refine r_goto (pc := 77) C 41 dX5_feed_77 (by decide) ?_
            exact ih41 (m + 1) _ _ (by omega) (by omega) (by omega) ((fd_eq _ _ _ _ _ _).trans (by rw [apM, show n = ((n.toNat : Nat) : Int) by omega]; exact congrArg (wr _ 41 10) (by omega)))
      exact L41 _ 0 _ _ (Nat.lt_succ_self _) (by omega) (by omega) (by show σ = wr (us σ 49 (σ 49)) 41 10 (σ 41 10 + ((0 : Nat) : Int)); rw [us_id, show σ 41 10 + ((0 : Nat) : Int) = σ 41 10 by omega, wr_idd])
    · skip
      refine r_aload_n (pc := 30) C dX5_feed_30 rfl 0 rfl ?_
      refine r_ldc (pc := 31) C (-1000002) t_896 (by decide) dX5_feed_31 ?_
      refine r_cVi (pc := 33) C (c_finds g 1 (by decide) σ) yX5_finds_w O_41 rfl rfl t_855 ⟨by decide, by decide⟩ (Nat.le_of_ble_eq_true rfl) (by rw [show ((-1000002) : Int) = -1000001 - ((1 : Nat) : Int) by decide]; rfl) dX5_feed_33 ?_
      exact r_retM (pc := 36) C (by first | (exfalso; omega; done) | ((try (first | rw [if_pos (by omega)] | rw [if_neg (by omega)])); (try (first | rw [if_pos (by omega)] | rw [if_neg (by omega)])); (try (first | rw [if_pos (by omega)] | rw [if_neg (by omega)])); (try (first | rw [if_pos (by omega)] | rw [if_neg (by omega)])); (try rfl))) ((((wr_n _ _ _ (by omega)).trans hS)).trans (congrArg mkS (by first | (exfalso; omega; done) | ((try (first | rw [if_pos (by omega)] | rw [if_neg (by omega)])); (try (first | rw [if_pos (by omega)] | rw [if_neg (by omega)])); (try (first | rw [if_pos (by omega)] | rw [if_neg (by omega)])); (try (first | rw [if_pos (by omega)] | rw [if_neg (by omega)])); (try rfl))))) (fun k hk => (rfl).trans (congrFun (by first | (exfalso; omega; done) | ((try (first | rw [if_pos (by omega)] | rw [if_neg (by omega)])); (try (first | rw [if_pos (by omega)] | rw [if_neg (by omega)])); (try (first | rw [if_pos (by omega)] | rw [if_neg (by omega)])); (try (first | rw [if_pos (by omega)] | rw [if_neg (by omega)])); (try rfl))) k)) dX5_feed_36
  · skip
    refine r_aload_n (pc := 12) C dX5_feed_12 rfl 0 rfl ?_
    refine r_ldc (pc := 13) C (-1000001) t_854 (by decide) dX5_feed_13 ?_
    refine r_cVi (pc := 15) C (c_finds g 0 (by decide) σ) yX5_finds_w O_41 rfl rfl t_855 ⟨by decide, by decide⟩ (Nat.le_of_ble_eq_true rfl) (by rw [show ((-1000001) : Int) = -1000001 - ((0 : Nat) : Int) by decide]; rfl) dX5_feed_15 ?_
    exact r_retM (pc := 18) C (by first | (exfalso; omega; done) | ((try (first | rw [if_pos (by omega)] | rw [if_neg (by omega)])); (try (first | rw [if_pos (by omega)] | rw [if_neg (by omega)])); (try (first | rw [if_pos (by omega)] | rw [if_neg (by omega)])); (try (first | rw [if_pos (by omega)] | rw [if_neg (by omega)])); (try rfl))) ((((wr_n _ _ _ (by omega)).trans hS)).trans (congrArg mkS (by first | (exfalso; omega; done) | ((try (first | rw [if_pos (by omega)] | rw [if_neg (by omega)])); (try (first | rw [if_pos (by omega)] | rw [if_neg (by omega)])); (try (first | rw [if_pos (by omega)] | rw [if_neg (by omega)])); (try (first | rw [if_pos (by omega)] | rw [if_neg (by omega)])); (try rfl))))) (fun k hk => (rfl).trans (congrFun (by first | (exfalso; omega; done) | ((try (first | rw [if_pos (by omega)] | rw [if_neg (by omega)])); (try (first | rw [if_pos (by omega)] | rw [if_neg (by omega)])); (try (first | rw [if_pos (by omega)] | rw [if_neg (by omega)])); (try (first | rw [if_pos (by omega)] | rw [if_neg (by omega)])); (try rfl))) k)) dX5_feed_18
