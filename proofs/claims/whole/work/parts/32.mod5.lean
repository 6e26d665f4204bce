theorem wr_idd (σ : Sg) (k j : Nat) : wr σ k j (σ k j) = σ := by
  unfold wr
  rw [up_id, us_id]
theorem wr_back (σ : Sg) (k j : Nat) (x : Int) : wr (wr σ k j x) k j (σ k j) = σ := by rw [wr_wr, wr_idd]
def dcR (m : Int) (τ : Sg) (n : Nat) : T3 := daysC (τ 0 7) (τ 0 8) (τ 0 9) (τ 3) (τ 4) m n (τ 1, τ 5, τ 6)
theorem dcR_rng {m : Int} {τ : Sg} (h : RM_ τ) (n : Nat) : rgD (dcR m τ n).1 ∧ rgG (dcR m τ n).2.1 ∧ rgM (dcR m τ n).2.2 := by
  obtain ⟨hn, hfl, hw, hD, hK, hA, hG, hM⟩ := h
  exact daysC_rng hn hfl hA hD hG hM n
def vR (ρ : Sg) (k j n t : Nat) (c : Int) : Int := (dcR 255 (wr ρ k j c) n).2.1 t
theorem RMw4 {ρ : Sg} (h : RM_ ρ) {t : Nat} {c : Int} (hc : 0 ≤ c ∧ c ≤ 11) : RM_ (wr ρ 4 t c) := by
  obtain ⟨hn, hfl, hw, hD, hK, hA, hG, hM⟩ := h
  exact ⟨hn, hfl, hw, hD, hK, rgA_up hA hc, hG, hM⟩
theorem RMw3 {ρ : Sg} (h : RM_ ρ) {t : Nat} {c : Int} (hc : 0 ≤ c ∧ c ≤ 6) : RM_ (wr ρ 3 t c) := by
  obtain ⟨hn, hfl, hw, hD, hK, hA, hG, hM⟩ := h
  exact ⟨hn, hfl, hw, hD, rgK_up hK hc, hA, hG, hM⟩
theorem RMw9 {ρ : Sg} (h : RM_ ρ) {c : Int} (hc : -3 ≤ c ∧ c ≤ 3) : RM_ (wr ρ 0 9 c) := by
  obtain ⟨hn, hfl, hw, hD, hK, hA, hG, hM⟩ := h
  exact ⟨hn, hfl, hc, hD, hK, hA, hG, hM⟩
theorem RMw8 {ρ : Sg} (h : RM_ ρ) {c : Int} (hc : 0 ≤ c ∧ c ≤ 99) : RM_ (wr ρ 0 8 c) := by
  obtain ⟨hn, hfl, hw, hD, hK, hA, hG, hM⟩ := h
  exact ⟨hn, hc, hw, hD, hK, hA, hG, hM⟩
theorem RMsw {ρ : Sg} (h : RM_ ρ) {x y : Nat} (hx : x < 8) (hy : y < 8) : RM_ (wr (wr ρ 4 x (ρ 4 y)) 4 y (ρ 4 x)) := by
  obtain ⟨hn, hfl, hw, hD, hK, hA, hG, hM⟩ := h
  exact ⟨hn, hfl, hw, hD, hK, rgA_up (rgA_up hA (hA y hy)) (hA x hx), hG, hM⟩
theorem vR_rng {ρ : Sg} {k j n t : Nat} {c : Int} (h : RM_ (wr ρ k j c)) (ht : t < 8) : 0 ≤ vR ρ k j n t c ∧ vR ρ k j n t c ≤ 99999 := (dcR_rng h n).2.1 t ht
/-- who holds, otherwise than told -/
def oth (n : Int) (M H : Nat → Int) : Nat → Int
  | 0 => 0
  | i + 1 => if oth n M H i = 0 ∧ holder n M i = H i then 0 else 1
theorem oth_or (n : Int) (M H : Nat → Int) : ∀ i, oth n M H i = 0 ∨ oth n M H i = 1
  | 0 => Or.inl rfl
  | i + 1 => by
    unfold oth
    split
    · exact Or.inl rfl
    · exact Or.inr rfl
theorem oth_all (n : Int) (M H : Nat → Int) : ∀ i, oth n M H i = if (List.range i).all (fun f => decide (holder n M f = H f)) = true then 0 else 1
  | 0 => rfl
  | i + 1 => by
    have ih := oth_all n M H i
    unfold oth
    rw [List.range_succ, List.all_append, ih]
    by_cases h : (List.range i).all (fun f => decide (holder n M f = H f)) = true
    · rw [h, if_pos rfl, Bool.true_and]
      by_cases h2 : holder n M i = H i
      · rw [if_pos ⟨rfl, h2⟩, if_pos (by simp [h2])]
      · rw [if_neg (fun q => h2 q.2), if_neg (by simp [h2])]
    · rw [if_neg h, if_neg (fun q => by have := q.1; omega)]
      rw [Bool.not_eq_true] at h
      rw [h, Bool.false_and, if_neg (by decide)]
theorem oth_cong {n : Int} {M H H2 : Nat → Int} (h : ∀ f, f < 12 → H f = H2 f) : ∀ i, i ≤ 12 → oth n M H i = oth n M H2 i
  | 0, _ => rfl
  | i + 1, hi => by
    have ih := oth_cong (n := n) (M := M) h i (by omega)
    unfold oth
    rw [ih, h i (by omega)]
theorem oth_same {n n2 : Int} {M M2 H : Nat → Int} (h : ∀ f, f < 12 → H f = holder n2 M2 f) : oth n M H 12 = if sameH n M n2 M2 = true then 0 else 1 := by
  rw [oth_cong (H2 := fun f => holder n2 M2 f) h 12 (by omega), oth_all]
  rfl
theorem sameH_refl (n : Int) (M : Nat → Int) : sameH n M n M = true := by
  unfold sameH
  rw [List.all_eq_true]
  intro f _
  exact decide_eq_true rfl
set_option maxHeartbeats 4000000 in
set_option maxRecDepth 100000 in
theorem e_ahead (g : Gt) (x n : Int) (h_x : rng x) (h_n : rng n) (ρ σ : Sg) (hS : σ 42 = mkS ρ) (hW : RW ρ 0) (h6 : σ 41 6 = 255) : Mt g yX5_ahead cX5_ahead 3 (some FieldType.int) 6 [.ref (gA g 41), .int (iI (x)), .int (iI (n))] σ (pM (if (0 ≤ x ∧ x < 12) ∧ 0 ≤ n ∧ n ≤ 60 then (dstN (ρ 0 7) (ρ 0 8) (ρ 0 9) (ρ 3) (ρ 4) 255 n.toNat (ρ 1)) x.toNat else (-1000001 - ((0 : Nat) : Int))) (ρ) (if (0 ≤ x ∧ x < 12) ∧ 0 ≤ n ∧ n ≤ 60 then σ else finM 0 σ)) := by
  obtain ⟨hn, hfl, hw, hdy, hz, hD_, hK_, hA_, hG_, hM_, hP_⟩ := id hW
  have hD : rgD (ρ 1) := hD_
  have hK : rgK (ρ 3) := hK_
  have hA : rgA (ρ 4) := hA_
  have hG : rgG (ρ 5) := hG_
  have hM : rgM (ρ 6) := hM_
  have hP : ∀ j, j < 10 → -1 ≤ ρ 7 j ∧ ρ 7 j < ρ 0 7 := hP_
  have ho_x := h_x.1; have hp_x := h_x.2
  have ho_n := h_n.1; have hp_n := h_n.2
  refine mt_of (own := RX5) (by decide) rfl (Nat.le_of_ble_eq_true rfl) (fun E C => ?_)
  show J g E (pM (if (0 ≤ x ∧ x < 12) ∧ 0 ≤ n ∧ n ≤ 60 then (dstN (ρ 0 7) (ρ 0 8) (ρ 0 9) (ρ 3) (ρ 4) 255 n.toNat (ρ 1)) x.toNat else (-1000001 - ((0 : Nat) : Int))) (ρ) (if (0 ≤ x ∧ x < 12) ∧ 0 ≤ n ∧ n ≤ 60 then σ else finM 0 σ)) 3 0 [(0, .ref (gA g 41)), (1, .int (iI (x))), (2, .int (iI (n)))] [] σ
  refine r_iload_n (pc := 0) C dX5_ahead_0 rfl 1 rfl ?_
  refine r_cSi (pc := 1) C (c_m_isSurface g x h_x σ) yX5_isSurface_w rfl t_842 ⟨by decide, by decide⟩ (Nat.le_of_ble_eq_true rfl) rfl dX5_ahead_1 ?_
  refine r_ifz_eq (pc := 4) C 14 dX5_ahead_4 (by decide) (fun h4 => ?_) (fun h4 => ?_)
  · skip
    refine r_aload_n (pc := 14) C dX5_ahead_14 rfl 0 rfl ?_
    refine r_ldc (pc := 15) C (-1000001) t_854 (by decide) dX5_ahead_15 ?_
    refine r_cVi (pc := 17) C (c_finds g 0 (by decide) σ) yX5_finds_w O_41 rfl rfl t_855 ⟨by decide, by decide⟩ (Nat.le_of_ble_eq_true rfl) (by rw [show ((-1000001) : Int) = -1000001 - ((0 : Nat) : Int) by decide]; rfl) dX5_ahead_17 ?_
    exact r_retM (pc := 20) C (by first | (exfalso; omega; done) | ((try (first | rw [if_pos (by omega)] | rw [if_neg (by omega)])); (try (first | rw [if_pos (by omega)] | rw [if_neg (by omega)])); (try (first | rw [if_pos (by omega)] | rw [if_neg (by omega)])); (try (first | rw [if_pos (by omega)] | rw [if_neg (by omega)])); (try rfl))) ((((wr_n _ _ _ (by omega)).trans hS)).trans (congrArg mkS (by first | (exfalso; omega; done) | ((try (first | rw [if_pos (by omega)] | rw [if_neg (by omega)])); (try (first | rw [if_pos (by omega)] | rw [if_neg (by omega)])); (try (first | rw [if_pos (by omega)] | rw [if_neg (by omega)])); (try (first | rw [if_pos (by omega)] | rw [if_neg (by omega)])); (try rfl))))) (fun k hk => (rfl).trans (congrFun (by first | (exfalso; omega; done) | ((try (first | rw [if_pos (by omega)] | rw [if_neg (by omega)])); (try (first | rw [if_pos (by omega)] | rw [if_neg (by omega)])); (try (first | rw [if_pos (by omega)] | rw [if_neg (by omega)])); (try (first | rw [if_pos (by omega)] | rw [if_neg (by omega)])); (try rfl))) k)) dX5_ahead_20
  · skip
    refine r_iload_n (pc := 7) C dX5_ahead_7 rfl 2 rfl ?_
    refine r_cSi (pc := 8) C (c_m_isAhead g n h_n σ) yX5_isAhead_w rfl t_1020 ⟨by decide, by decide⟩ (Nat.le_of_ble_eq_true rfl) rfl dX5_ahead_8 ?_
    refine r_ifz_ne (pc := 11) C 21 dX5_ahead_11 (by decide) (fun h11 => ?_) (fun h11 => ?_)
    · skip
      refine r_aload_n (pc := 21) C dX5_ahead_21 rfl 0 rfl ?_
      refine r_cVv (pc := 22) C (c_laysAside g σ) yX5_laysAside_w O_41 rfl rfl t_1024 ⟨by decide, by decide⟩ (Nat.le_of_ble_eq_true rfl) rfl dX5_ahead_22 ?_
      refine r_aload_n (pc := 25) C dX5_ahead_25 rfl 0 rfl ?_
      refine r_iload_n (pc := 26) C dX5_ahead_26 rfl 2 rfl ?_
      refine r_cVd (pc := 27) C (c_goesOn g 255 ⟨by decide, by decide⟩ n.toNat (by omega) ρ (us σ 45 (σ 42)) ((us_n _ _ (by omega)).trans hS) (RM_of hW) ((us_o2 _ _ _ (by decide)).trans (h6))) yX5_goesOn_w O_41 rfl rfl t_968 ⟨by decide, by decide⟩ (Nat.le_of_ble_eq_true rfl) (by rw [show ((n.toNat : Nat) : Int) = n by omega]; rfl) dX5_ahead_27 (fun s27 hm27_ hT27 => ?_)
      refine r_aload_n (pc := 30) C dX5_ahead_30 rfl 0 rfl ?_
      refine r_aload_n (pc := 31) C dX5_ahead_31 rfl 0 rfl ?_
      refine r_getR5 (pc := 32) C 0 (k' := 42) rfl O_41 (by decide) rfl t_780 dX5_ahead_32 ?_
      refine r_iconst (pc := 35) C dX5_ahead_35 ?_
      refine r_iload_n (pc := 36) C dX5_ahead_36 rfl 1 rfl ?_
      refine r_iadd (pc := 37) C dX5_ahead_37 ?_
      refine r_iald (pc := 38) C (5 + x.toNat) A_42 (by omega) (by omega) dX5_ahead_38 ?_
      refine r_top (show _ = (dsM 255 n.toNat ρ) 1 x.toNat from (congrFun hm27_ _).trans (mkS_at (cidx_D (by omega)))) ?_
      refine r_cVi (pc := 39) C (c_takesBack g ((dsM 255 n.toNat ρ) 1 x.toNat) s27) yX5_takesBack_w O_41 rfl rfl t_1028 ⟨by decide, by decide⟩ (Nat.le_of_ble_eq_true rfl) rfl dX5_ahead_39 ?_
      exact r_retM (pc := 42) C (by rw [if_pos (by omega), dsM_D]) ((((us_s _ _ _).trans ((hT27 45 (by decide) (by decide)).trans ((us_s _ _ _).trans hS)))).trans (congrArg mkS (by first | (exfalso; omega; done) | ((try (first | rw [if_pos (by omega)] | rw [if_neg (by omega)])); (try (first | rw [if_pos (by omega)] | rw [if_neg (by omega)])); (try (first | rw [if_pos (by omega)] | rw [if_neg (by omega)])); (try (first | rw [if_pos (by omega)] | rw [if_neg (by omega)])); (try rfl))))) (fun k hk => ((us_n _ _ hk.1).trans ((hT27 k hk.1 hk.2.2.2.1).trans (us_n _ _ hk.2.2.1))).trans (congrFun (by first | (exfalso; omega; done) | ((try (first | rw [if_pos (by omega)] | rw [if_neg (by omega)])); (try (first | rw [if_pos (by omega)] | rw [if_neg (by omega)])); (try (first | rw [if_pos (by omega)] | rw [if_neg (by omega)])); (try (first | rw [if_pos (by omega)] | rw [if_neg (by omega)])); (try rfl))) k)) dX5_ahead_42
    · skip
      refine r_aload_n (pc := 14) C dX5_ahead_14 rfl 0 rfl ?_
      refine r_ldc (pc := 15) C (-1000001) t_854 (by decide) dX5_ahead_15 ?_
      refine r_cVi (pc := 17) C (c_finds g 0 (by decide) σ) yX5_finds_w O_41 rfl rfl t_855 ⟨by decide, by decide⟩ (Nat.le_of_ble_eq_true rfl) (by rw [show ((-1000001) : Int) = -1000001 - ((0 : Nat) : Int) by decide]; rfl) dX5_ahead_17 ?_
      exact r_retM (pc := 20) C (by first | (exfalso; omega; done) | ((try (first | rw [if_pos (by omega)] | rw [if_neg (by omega)])); (try (first | rw [if_pos (by omega)] | rw [if_neg (by omega)])); (try (first | rw [if_pos (by omega)] | rw [if_neg (by omega)])); (try (first | rw [if_pos (by omega)] | rw [if_neg (by omega)])); (try rfl))) ((((wr_n _ _ _ (by omega)).trans hS)).trans (congrArg mkS (by first | (exfalso; omega; done) | ((try (first | rw [if_pos (by omega)] | rw [if_neg (by omega)])); (try (first | rw [if_pos (by omega)] | rw [if_neg (by omega)])); (try (first | rw [if_pos (by omega)] | rw [if_neg (by omega)])); (try (first | rw [if_pos (by omega)] | rw [if_neg (by omega)])); (try rfl))))) (fun k hk => (rfl).trans (congrFun (by first | (exfalso; omega; done) | ((try (first | rw [if_pos (by omega)] | rw [if_neg (by omega)])); (try (first | rw [if_pos (by omega)] | rw [if_neg (by omega)])); (try (first | rw [if_pos (by omega)] | rw [if_neg (by omega)])); (try (first | rw [if_pos (by omega)] | rw [if_neg (by omega)])); (try rfl))) k)) dX5_ahead_20
set_option maxHeartbeats 4000000 in
set_option maxRecDepth 100000 in
theorem c_goodsBehind (g : Gt) (t n : Nat) (ht : t < 8) (hn2 : n ≤ 60) (ρ σ : Sg) (hS : σ 42 = mkS ρ) (hR : RM_ ρ) (h6 : σ 41 6 = 255) : Mt g yX5_goodsBehind cX5_goodsBehind 3 (some FieldType.int) 6 [.ref (gA g 41), .int (iI ((t : Int))), .int (iI ((n : Int)))] σ (pM ((dcR 255 ρ n).2.1 t) ρ σ) := by
  refine mt_of (own := RX5) (by decide) rfl (Nat.le_of_ble_eq_true rfl) (fun E C => ?_)
  show J g E (pM ((dcR 255 ρ n).2.1 t) ρ σ) 3 0 [(0, .ref (gA g 41)), (1, .int (iI ((t : Int)))), (2, .int (iI ((n : Int))))] [] σ
  refine r_aload_n (pc := 0) C dX5_goodsBehind_0 rfl 0 rfl ?_
  refine r_cVv (pc := 1) C (c_laysAside g σ) yX5_laysAside_w O_41 rfl rfl t_1024 ⟨by decide, by decide⟩ (Nat.le_of_ble_eq_true rfl) rfl dX5_goodsBehind_1 ?_
  refine r_aload_n (pc := 4) C dX5_goodsBehind_4 rfl 0 rfl ?_
  refine r_iload_n (pc := 5) C dX5_goodsBehind_5 rfl 2 rfl ?_
  refine r_cVd (pc := 6) C (c_goesOn g 255 ⟨by decide, by decide⟩ n (by omega) ρ (us σ 45 (σ 42)) ((us_n _ _ (by omega)).trans hS) hR ((us_o2 _ _ _ (by decide)).trans (h6))) yX5_goesOn_w O_41 rfl rfl t_968 ⟨by decide, by decide⟩ (Nat.le_of_ble_eq_true rfl) rfl dX5_goodsBehind_6 (fun s6 hm6_ hT6 => ?_)
  refine r_aload_n (pc := 9) C dX5_goodsBehind_9 rfl 0 rfl ?_
  refine r_aload_n (pc := 10) C dX5_goodsBehind_10 rfl 0 rfl ?_
  refine r_iload_n (pc := 11) C dX5_goodsBehind_11 rfl 1 rfl ?_
  refine r_iconst (pc := 12) C dX5_goodsBehind_12 ?_
  refine r_cVi (pc := 13) C (c_its_2 g t (by omega) (dsM 255 n ρ) s6 hm6_) yX5_its_w O_41 rfl rfl t_875 ⟨by decide, by decide⟩ (Nat.le_of_ble_eq_true rfl) rfl dX5_goodsBehind_13 ?_
  refine r_cVi (pc := 16) C (c_takesBack g ((dsM 255 n ρ) 5 t) s6) yX5_takesBack_w O_41 rfl rfl t_1028 ⟨by decide, by decide⟩ (Nat.le_of_ble_eq_true rfl) rfl dX5_goodsBehind_16 ?_
  exact r_retM (pc := 19) C (congrFun (dsM_G 255 ρ n) t) (((us_s _ _ _).trans ((hT6 45 (by decide) (by decide)).trans ((us_s _ _ _).trans hS)))) (fun k hk => (us_n _ _ hk.1).trans ((hT6 k hk.1 hk.2.2.2.1).trans (us_n _ _ hk.2.2.1))) dX5_goodsBehind_19
set_option maxHeartbeats 4000000 in
set_option maxRecDepth 100000 in
theorem e_goods (g : Gt) (x n : Int) (h_x : rng x) (h_n : rng n) (ρ σ : Sg) (hS : σ 42 = mkS ρ) (hW : RW ρ 0) (h6 : σ 41 6 = 255) : Mt g yX5_goods cX5_goods 3 (some FieldType.int) 7 [.ref (gA g 41), .int (iI (x)), .int (iI (n))] σ (pM (if (0 ≤ x ∧ x < ρ 0 7) ∧ 0 ≤ n ∧ n ≤ 60 then (daysC (ρ 0 7) (ρ 0 8) (ρ 0 9) (ρ 3) (ρ 4) 255 n.toNat (ρ 1, ρ 5, ρ 6)).2.1 x.toNat else (-1000001 - ((0 : Nat) : Int))) (ρ) (if (0 ≤ x ∧ x < ρ 0 7) ∧ 0 ≤ n ∧ n ≤ 60 then σ else finM 0 σ)) := by
  obtain ⟨hn, hfl, hw, hdy, hz, hD_, hK_, hA_, hG_, hM_, hP_⟩ := id hW
  have hD : rgD (ρ 1) := hD_
  have hK : rgK (ρ 3) := hK_
  have hA : rgA (ρ 4) := hA_
  have hG : rgG (ρ 5) := hG_
  have hM : rgM (ρ 6) := hM_
  have hP : ∀ j, j < 10 → -1 ≤ ρ 7 j ∧ ρ 7 j < ρ 0 7 := hP_
  have ho_x := h_x.1; have hp_x := h_x.2
  have ho_n := h_n.1; have hp_n := h_n.2
  refine mt_of (own := RX5) (by decide) rfl (Nat.le_of_ble_eq_true rfl) (fun E C => ?_)
  show J g E (pM (if (0 ≤ x ∧ x < ρ 0 7) ∧ 0 ≤ n ∧ n ≤ 60 then (daysC (ρ 0 7) (ρ 0 8) (ρ 0 9) (ρ 3) (ρ 4) 255 n.toNat (ρ 1, ρ 5, ρ 6)).2.1 x.toNat else (-1000001 - ((0 : Nat) : Int))) (ρ) (if (0 ≤ x ∧ x < ρ 0 7) ∧ 0 ≤ n ∧ n ≤ 60 then σ else finM 0 σ)) 3 0 [(0, .ref (gA g 41)), (1, .int (iI (x))), (2, .int (iI (n)))] [] σ
  refine r_aload_n (pc := 0) C dX5_goods_0 rfl 0 rfl ?_
  refine r_iload_n (pc := 1) C dX5_goods_1 rfl 1 rfl ?_
  refine r_cVi (pc := 2) C (c_m_isTenant g x h_x ρ σ hS hn) yX5_isTenant_w O_41 rfl rfl t_905 ⟨by decide, by decide⟩ (Nat.le_of_ble_eq_true rfl) rfl dX5_goods_2 ?_
  refine r_ifz_eq (pc := 5) C 24 dX5_goods_5 (by decide) (fun h5 => ?_) (fun h5 => ?_)
  · skip
    refine r_aload_n (pc := 24) C dX5_goods_24 rfl 0 rfl ?_
    refine r_ldc (pc := 25) C (-1000001) t_854 (by decide) dX5_goods_25 ?_
    refine r_cVi (pc := 27) C (c_finds g 0 (by decide) σ) yX5_finds_w O_41 rfl rfl t_855 ⟨by decide, by decide⟩ (Nat.le_of_ble_eq_true rfl) (by rw [show ((-1000001) : Int) = -1000001 - ((0 : Nat) : Int) by decide]; rfl) dX5_goods_27 ?_
    exact r_retM (pc := 30) C (by first | (exfalso; omega; done) | ((try (first | rw [if_pos (by omega)] | rw [if_neg (by omega)])); (try (first | rw [if_pos (by omega)] | rw [if_neg (by omega)])); (try (first | rw [if_pos (by omega)] | rw [if_neg (by omega)])); (try (first | rw [if_pos (by omega)] | rw [if_neg (by omega)])); (try rfl))) ((((wr_n _ _ _ (by omega)).trans hS)).trans (congrArg mkS (by first | (exfalso; omega; done) | ((try (first | rw [if_pos (by omega)] | rw [if_neg (by omega)])); (try (first | rw [if_pos (by omega)] | rw [if_neg (by omega)])); (try (first | rw [if_pos (by omega)] | rw [if_neg (by omega)])); (try (first | rw [if_pos (by omega)] | rw [if_neg (by omega)])); (try rfl))))) (fun k hk => (rfl).trans (congrFun (by first | (exfalso; omega; done) | ((try (first | rw [if_pos (by omega)] | rw [if_neg (by omega)])); (try (first | rw [if_pos (by omega)] | rw [if_neg (by omega)])); (try (first | rw [if_pos (by omega)] | rw [if_neg (by omega)])); (try (first | rw [if_pos (by omega)] | rw [if_neg (by omega)])); (try rfl))) k)) dX5_goods_30
  · skip
    refine r_iload_n (pc := 8) C dX5_goods_8 rfl 2 rfl ?_
    refine r_cSi (pc := 9) C (c_m_isAhead g n h_n σ) yX5_isAhead_w rfl t_1020 ⟨by decide, by decide⟩ (Nat.le_of_ble_eq_true rfl) rfl dX5_goods_9 ?_
    refine r_ifz_eq (pc := 12) C 24 dX5_goods_12 (by decide) (fun h12 => ?_) (fun h12 => ?_)
    · skip
      refine r_aload_n (pc := 24) C dX5_goods_24 rfl 0 rfl ?_
      refine r_ldc (pc := 25) C (-1000001) t_854 (by decide) dX5_goods_25 ?_
      refine r_cVi (pc := 27) C (c_finds g 0 (by decide) σ) yX5_finds_w O_41 rfl rfl t_855 ⟨by decide, by decide⟩ (Nat.le_of_ble_eq_true rfl) (by rw [show ((-1000001) : Int) = -1000001 - ((0 : Nat) : Int) by decide]; rfl) dX5_goods_27 ?_
      exact r_retM (pc := 30) C (by first | (exfalso; omega; done) | ((try (first | rw [if_pos (by omega)] | rw [if_neg (by omega)])); (try (first | rw [if_pos (by omega)] | rw [if_neg (by omega)])); (try (first | rw [if_pos (by omega)] | rw [if_neg (by omega)])); (try (first | rw [if_pos (by omega)] | rw [if_neg (by omega)])); (try rfl))) ((((wr_n _ _ _ (by omega)).trans hS)).trans (congrArg mkS (by first | (exfalso; omega; done) | ((try (first | rw [if_pos (by omega)] | rw [if_neg (by omega)])); (try (first | rw [if_pos (by omega)] | rw [if_neg (by omega)])); (try (first | rw [if_pos (by omega)] | rw [if_neg (by omega)])); (try (first | rw [if_pos (by omega)] | rw [if_neg (by omega)])); (try rfl))))) (fun k hk => (rfl).trans (congrFun (by first | (exfalso; omega; done) | ((try (first | rw [if_pos (by omega)] | rw [if_neg (by omega)])); (try (first | rw [if_pos (by omega)] | rw [if_neg (by omega)])); (try (first | rw [if_pos (by omega)] | rw [if_neg (by omega)])); (try (first | rw [if_pos (by omega)] | rw [if_neg (by omega)])); (try rfl))) k)) dX5_goods_30
    · skip
      refine r_aload_n (pc := 15) C dX5_goods_15 rfl 0 rfl ?_
      refine r_iload_n (pc := 16) C dX5_goods_16 rfl 1 rfl ?_
      refine r_iload_n (pc := 17) C dX5_goods_17 rfl 2 rfl ?_
      refine r_cVm (pc := 18) C (c_goodsBehind g x.toNat n.toNat (by omega) (by omega) ρ σ hS (RM_of hW) h6) yX5_goodsBehind_w O_41 rfl rfl t_1036 ⟨by decide, by decide⟩ (Nat.le_of_ble_eq_true rfl) (by rw [show ((x.toNat : Nat) : Int) = x by omega, show ((n.toNat : Nat) : Int) = n by omega]; rfl) dX5_goods_18 (fun s18 hm18_ hT18 => ?_)
      refine r_goto (pc := 21) C 30 dX5_goods_21 (by decide) ?_
      exact r_retM (pc := 30) C (by first | (exfalso; omega; done) | ((try (first | rw [if_pos (by omega)] | rw [if_neg (by omega)])); (try (first | rw [if_pos (by omega)] | rw [if_neg (by omega)])); (try (first | rw [if_pos (by omega)] | rw [if_neg (by omega)])); (try (first | rw [if_pos (by omega)] | rw [if_neg (by omega)])); (try rfl))) ((hm18_).trans (congrArg mkS (by first | (exfalso; omega; done) | ((try (first | rw [if_pos (by omega)] | rw [if_neg (by omega)])); (try (first | rw [if_pos (by omega)] | rw [if_neg (by omega)])); (try (first | rw [if_pos (by omega)] | rw [if_neg (by omega)])); (try (first | rw [if_pos (by omega)] | rw [if_neg (by omega)])); (try rfl))))) (fun k hk => (hT18 k hk).trans (congrFun (by first | (exfalso; omega; done) | ((try (first | rw [if_pos (by omega)] | rw [if_neg (by omega)])); (try (first | rw [if_pos (by omega)] | rw [if_neg (by omega)])); (try (first | rw [if_pos (by omega)] | rw [if_neg (by omega)])); (try (first | rw [if_pos (by omega)] | rw [if_neg (by omega)])); (try rfl))) k)) dX5_goods_30
set_option maxHeartbeats 4000000 in
set_option maxRecDepth 100000 in
theorem e_holder (g : Gt) (x n : Int) (h_x : rng x) (h_n : rng n) (ρ σ : Sg) (hS : σ 42 = mkS ρ) (hW : RW ρ 0) (h6 : σ 41 6 = 255) : Mt g yX5_holder cX5_holder 3 (some FieldType.int) 6 [.ref (gA g 41), .int (iI (x)), .int (iI (n))] σ (pM (if (0 ≤ x ∧ x < 12) ∧ 0 ≤ n ∧ n ≤ 60 then holder (ρ 0 7) (daysC (ρ 0 7) (ρ 0 8) (ρ 0 9) (ρ 3) (ρ 4) 255 n.toNat (ρ 1, ρ 5, ρ 6)).2.2 x.toNat else (-1000001 - ((0 : Nat) : Int))) (ρ) (if (0 ≤ x ∧ x < 12) ∧ 0 ≤ n ∧ n ≤ 60 then σ else finM 0 σ)) := by
  obtain ⟨hn, hfl, hw, hdy, hz, hD_, hK_, hA_, hG_, hM_, hP_⟩ := id hW
  have hD : rgD (ρ 1) := hD_
  have hK : rgK (ρ 3) := hK_
  have hA : rgA (ρ 4) := hA_
  have hG : rgG (ρ 5) := hG_
  have hM : rgM (ρ 6) := hM_
  have hP : ∀ j, j < 10 → -1 ≤ ρ 7 j ∧ ρ 7 j < ρ 0 7 := hP_
  have ho_x := h_x.1; have hp_x := h_x.2
  have ho_n := h_n.1; have hp_n := h_n.2
  refine mt_of (own := RX5) (by decide) rfl (Nat.le_of_ble_eq_true rfl) (fun E C => ?_)
  show J g E (pM (if (0 ≤ x ∧ x < 12) ∧ 0 ≤ n ∧ n ≤ 60 then holder (ρ 0 7) (daysC (ρ 0 7) (ρ 0 8) (ρ 0 9) (ρ 3) (ρ 4) 255 n.toNat (ρ 1, ρ 5, ρ 6)).2.2 x.toNat else (-1000001 - ((0 : Nat) : Int))) (ρ) (if (0 ≤ x ∧ x < 12) ∧ 0 ≤ n ∧ n ≤ 60 then σ else finM 0 σ)) 3 0 [(0, .ref (gA g 41)), (1, .int (iI (x))), (2, .int (iI (n)))] [] σ
  refine r_iload_n (pc := 0) C dX5_holder_0 rfl 1 rfl ?_
  refine r_cSi (pc := 1) C (c_m_isSurface g x h_x σ) yX5_isSurface_w rfl t_842 ⟨by decide, by decide⟩ (Nat.le_of_ble_eq_true rfl) rfl dX5_holder_1 ?_
  refine r_ifz_eq (pc := 4) C 14 dX5_holder_4 (by decide) (fun h4 => ?_) (fun h4 => ?_)
  · skip
    refine r_aload_n (pc := 14) C dX5_holder_14 rfl 0 rfl ?_
    refine r_ldc (pc := 15) C (-1000001) t_854 (by decide) dX5_holder_15 ?_
    refine r_cVi (pc := 17) C (c_finds g 0 (by decide) σ) yX5_finds_w O_41 rfl rfl t_855 ⟨by decide, by decide⟩ (Nat.le_of_ble_eq_true rfl) (by rw [show ((-1000001) : Int) = -1000001 - ((0 : Nat) : Int) by decide]; rfl) dX5_holder_17 ?_
    exact r_retM (pc := 20) C (by first | (exfalso; omega; done) | ((try (first | rw [if_pos (by omega)] | rw [if_neg (by omega)])); (try (first | rw [if_pos (by omega)] | rw [if_neg (by omega)])); (try (first | rw [if_pos (by omega)] | rw [if_neg (by omega)])); (try (first | rw [if_pos (by omega)] | rw [if_neg (by omega)])); (try rfl))) ((((wr_n _ _ _ (by omega)).trans hS)).trans (congrArg mkS (by first | (exfalso; omega; done) | ((try (first | rw [if_pos (by omega)] | rw [if_neg (by omega)])); (try (first | rw [if_pos (by omega)] | rw [if_neg (by omega)])); (try (first | rw [if_pos (by omega)] | rw [if_neg (by omega)])); (try (first | rw [if_pos (by omega)] | rw [if_neg (by omega)])); (try rfl))))) (fun k hk => (rfl).trans (congrFun (by first | (exfalso; omega; done) | ((try (first | rw [if_pos (by omega)] | rw [if_neg (by omega)])); (try (first | rw [if_pos (by omega)] | rw [if_neg (by omega)])); (try (first | rw [if_pos (by omega)] | rw [if_neg (by omega)])); (try (first | rw [if_pos (by omega)] | rw [if_neg (by omega)])); (try rfl))) k)) dX5_holder_20
  · skip
    refine r_iload_n (pc := 7) C dX5_holder_7 rfl 2 rfl ?_
    refine r_cSi (pc := 8) C (c_m_isAhead g n h_n σ) yX5_isAhead_w rfl t_1020 ⟨by decide, by decide⟩ (Nat.le_of_ble_eq_true rfl) rfl dX5_holder_8 ?_
    refine r_ifz_ne (pc := 11) C 21 dX5_holder_11 (by decide) (fun h11 => ?_) (fun h11 => ?_)
    · skip
      refine r_aload_n (pc := 21) C dX5_holder_21 rfl 0 rfl ?_
      refine r_cVv (pc := 22) C (c_laysAside g σ) yX5_laysAside_w O_41 rfl rfl t_1024 ⟨by decide, by decide⟩ (Nat.le_of_ble_eq_true rfl) rfl dX5_holder_22 ?_
      refine r_aload_n (pc := 25) C dX5_holder_25 rfl 0 rfl ?_
      refine r_iload_n (pc := 26) C dX5_holder_26 rfl 2 rfl ?_
      refine r_cVd (pc := 27) C (c_goesOn g 255 ⟨by decide, by decide⟩ n.toNat (by omega) ρ (us σ 45 (σ 42)) ((us_n _ _ (by omega)).trans hS) (RM_of hW) ((us_o2 _ _ _ (by decide)).trans (h6))) yX5_goesOn_w O_41 rfl rfl t_968 ⟨by decide, by decide⟩ (Nat.le_of_ble_eq_true rfl) (by rw [show ((n.toNat : Nat) : Int) = n by omega]; rfl) dX5_holder_27 (fun s27 hm27_ hT27 => ?_)
      refine r_aload_n (pc := 30) C dX5_holder_30 rfl 0 rfl ?_
      refine r_aload_n (pc := 31) C dX5_holder_31 rfl 0 rfl ?_
      refine r_iload_n (pc := 32) C dX5_holder_32 rfl 1 rfl ?_
      refine r_cVi (pc := 33) C (c_m_holderOf g x.toNat (by omega) (dsM 255 n.toNat ρ) s27 hm27_ ((dsM_RM (RM_of hW) n.toNat).1) ((dsM_RM (RM_of hW) n.toNat).2.2.2.2.2.2.2)) yX5_holderOf_w O_41 rfl rfl t_864 ⟨by decide, by decide⟩ (Nat.le_of_ble_eq_true rfl) (by rw [show ((x.toNat : Nat) : Int) = x by omega]; rfl) dX5_holder_33 ?_
      refine r_cVi (pc := 36) C (c_takesBack g (holder ((dsM 255 n.toNat ρ) 0 7) ((dsM 255 n.toNat ρ) 6) x.toNat) s27) yX5_takesBack_w O_41 rfl rfl t_1028 ⟨by decide, by decide⟩ (Nat.le_of_ble_eq_true rfl) rfl dX5_holder_36 ?_
      exact r_retM (pc := 39) C (by rw [if_pos (by omega), dsM_M, (dsM_K _ _ _).2.2.1]) ((((us_s _ _ _).trans ((hT27 45 (by decide) (by decide)).trans ((us_s _ _ _).trans hS)))).trans (congrArg mkS (by first | (exfalso; omega; done) | ((try (first | rw [if_pos (by omega)] | rw [if_neg (by omega)])); (try (first | rw [if_pos (by omega)] | rw [if_neg (by omega)])); (try (first | rw [if_pos (by omega)] | rw [if_neg (by omega)])); (try (first | rw [if_pos (by omega)] | rw [if_neg (by omega)])); (try rfl))))) (fun k hk => ((us_n _ _ hk.1).trans ((hT27 k hk.1 hk.2.2.2.1).trans (us_n _ _ hk.2.2.1))).trans (congrFun (by first | (exfalso; omega; done) | ((try (first | rw [if_pos (by omega)] | rw [if_neg (by omega)])); (try (first | rw [if_pos (by omega)] | rw [if_neg (by omega)])); (try (first | rw [if_pos (by omega)] | rw [if_neg (by omega)])); (try (first | rw [if_pos (by omega)] | rw [if_neg (by omega)])); (try rfl))) k)) dX5_holder_39
    · skip
      refine r_aload_n (pc := 14) C dX5_holder_14 rfl 0 rfl ?_
      refine r_ldc (pc := 15) C (-1000001) t_854 (by decide) dX5_holder_15 ?_
      refine r_cVi (pc := 17) C (c_finds g 0 (by decide) σ) yX5_finds_w O_41 rfl rfl t_855 ⟨by decide, by decide⟩ (Nat.le_of_ble_eq_true rfl) (by rw [show ((-1000001) : Int) = -1000001 - ((0 : Nat) : Int) by decide]; rfl) dX5_holder_17 ?_
      exact r_retM (pc := 20) C (by first | (exfalso; omega; done) | ((try (first | rw [if_pos (by omega)] | rw [if_neg (by omega)])); (try (first | rw [if_pos (by omega)] | rw [if_neg (by omega)])); (try (first | rw [if_pos (by omega)] | rw [if_neg (by omega)])); (try (first | rw [if_pos (by omega)] | rw [if_neg (by omega)])); (try rfl))) ((((wr_n _ _ _ (by omega)).trans hS)).trans (congrArg mkS (by first | (exfalso; omega; done) | ((try (first | rw [if_pos (by omega)] | rw [if_neg (by omega)])); (try (first | rw [if_pos (by omega)] | rw [if_neg (by omega)])); (try (first | rw [if_pos (by omega)] | rw [if_neg (by omega)])); (try (first | rw [if_pos (by omega)] | rw [if_neg (by omega)])); (try rfl))))) (fun k hk => (rfl).trans (congrFun (by first | (exfalso; omega; done) | ((try (first | rw [if_pos (by omega)] | rw [if_neg (by omega)])); (try (first | rw [if_pos (by omega)] | rw [if_neg (by omega)])); (try (first | rw [if_pos (by omega)] | rw [if_neg (by omega)])); (try (first | rw [if_pos (by omega)] | rw [if_neg (by omega)])); (try rfl))) k)) dX5_holder_20
set_option maxHeartbeats 4000000 in
set_option maxRecDepth 100000 in
theorem c_orNone_hi (g : Gt) (v : Int) (hv : 60 < v ∧ v ≤ 100) (σ : Sg) : Mt g yX5_orNone cX5_orNone 2 (some FieldType.int) 1 [.ref (gA g 41), .int (iI (v))] σ (pI (-1000001 - ((3 : Nat) : Int)) (finM 3 σ)) := by
  refine mt_of (own := RX5) (by decide) rfl (Nat.le_of_ble_eq_true rfl) (fun E C => ?_)
  show J g E (pI (-1000001 - ((3 : Nat) : Int)) (finM 3 σ)) 2 0 [(0, .ref (gA g 41)), (1, .int (iI (v)))] [] σ
  refine r_iload_n (pc := 0) C dX5_orNone_0 rfl 1 rfl ?_
  refine r_bipush (pc := 1) C dX5_orNone_1 (by decide) ?_
  refine r_icmp_le (pc := 3) C 15 ⟨by omega, by omega⟩ ⟨by omega, by omega⟩ dX5_orNone_3 (by decide) (fun h3 => ?_) (fun h3 => ?_)
  · skip
    omega
  · skip
    refine r_aload_n (pc := 6) C dX5_orNone_6 rfl 0 rfl ?_
    refine r_ldc (pc := 7) C (-1000004) t_1052 (by decide) dX5_orNone_7 ?_
    refine r_cVi (pc := 9) C (c_finds g 3 (by decide) σ) yX5_finds_w O_41 rfl rfl t_855 ⟨by decide, by decide⟩ (Nat.le_of_ble_eq_true rfl) (by rw [show ((-1000004) : Int) = -1000001 - ((3 : Nat) : Int) by decide]; rfl) dX5_orNone_9 ?_
    refine r_goto (pc := 12) C 16 dX5_orNone_12 (by decide) ?_
    exact r_reti (pc := 16) C (rfl) (rfl) dX5_orNone_16
set_option maxHeartbeats 4000000 in
set_option maxRecDepth 100000 in
theorem c_orNone_lo (g : Gt) (v : Int) (hv : 0 ≤ v ∧ v ≤ 60) (σ : Sg) : Mt g yX5_orNone cX5_orNone 2 (some FieldType.int) 1 [.ref (gA g 41), .int (iI (v))] σ (pI v (σ)) := by
  refine mt_of (own := RX5) (by decide) rfl (Nat.le_of_ble_eq_true rfl) (fun E C => ?_)
  show J g E (pI v (σ)) 2 0 [(0, .ref (gA g 41)), (1, .int (iI (v)))] [] σ
  refine r_iload_n (pc := 0) C dX5_orNone_0 rfl 1 rfl ?_
  refine r_bipush (pc := 1) C dX5_orNone_1 (by decide) ?_
  refine r_icmp_le (pc := 3) C 15 ⟨by omega, by omega⟩ ⟨by omega, by omega⟩ dX5_orNone_3 (by decide) (fun h3 => ?_) (fun h3 => ?_)
  · skip
    refine r_iload_n (pc := 15) C dX5_orNone_15 rfl 1 rfl ?_
    exact r_reti (pc := 16) C (rfl) (rfl) dX5_orNone_16
  · skip
    omega
set_option maxHeartbeats 4000000 in
set_option maxRecDepth 100000 in
theorem e_when (g : Gt) (x f : Int) (h_x : rng x) (h_f : rng f) (ρ σ : Sg) (hS : σ 42 = mkS ρ) (hW : RW ρ 0) (h6 : σ 41 6 = 255) : Mt g yX5_when cX5_when 4 (some FieldType.int) 6 [.ref (gA g 41), .int (iI (x)), .int (iI (f))] σ (pM (if (0 ≤ x ∧ x < ρ 0 7) ∧ 0 ≤ f ∧ f < 12 then (if firstF (fun i => decide (holder (ρ 0 7) (daysC (ρ 0 7) (ρ 0 8) (ρ 0 9) (ρ 3) (ρ 4) 255 i (ρ 1, ρ 5, ρ 6)).2.2 f.toNat = x)) 61 0 = -1 then (-1000001 - ((3 : Nat) : Int)) else firstF (fun i => decide (holder (ρ 0 7) (daysC (ρ 0 7) (ρ 0 8) (ρ 0 9) (ρ 3) (ρ 4) 255 i (ρ 1, ρ 5, ρ 6)).2.2 f.toNat = x)) 61 0) else (-1000001 - ((0 : Nat) : Int))) (ρ) (if (0 ≤ x ∧ x < ρ 0 7) ∧ 0 ≤ f ∧ f < 12 then (if firstF (fun i => decide (holder (ρ 0 7) (daysC (ρ 0 7) (ρ 0 8) (ρ 0 9) (ρ 3) (ρ 4) 255 i (ρ 1, ρ 5, ρ 6)).2.2 f.toNat = x)) 61 0 = -1 then finM 3 σ else σ) else finM 0 σ)) := by
  obtain ⟨hn, hfl, hw, hdy, hz, hD_, hK_, hA_, hG_, hM_, hP_⟩ := id hW
  have hD : rgD (ρ 1) := hD_
  have hK : rgK (ρ 3) := hK_
  have hA : rgA (ρ 4) := hA_
  have hG : rgG (ρ 5) := hG_
  have hM : rgM (ρ 6) := hM_
  have hP : ∀ j, j < 10 → -1 ≤ ρ 7 j ∧ ρ 7 j < ρ 0 7 := hP_
  have ho_x := h_x.1; have hp_x := h_x.2
  have ho_f := h_f.1; have hp_f := h_f.2
  refine mt_of (own := RX5) (by decide) rfl (Nat.le_of_ble_eq_true rfl) (fun E C => ?_)
  show J g E (pM (if (0 ≤ x ∧ x < ρ 0 7) ∧ 0 ≤ f ∧ f < 12 then (if firstF (fun i => decide (holder (ρ 0 7) (daysC (ρ 0 7) (ρ 0 8) (ρ 0 9) (ρ 3) (ρ 4) 255 i (ρ 1, ρ 5, ρ 6)).2.2 f.toNat = x)) 61 0 = -1 then (-1000001 - ((3 : Nat) : Int)) else firstF (fun i => decide (holder (ρ 0 7) (daysC (ρ 0 7) (ρ 0 8) (ρ 0 9) (ρ 3) (ρ 4) 255 i (ρ 1, ρ 5, ρ 6)).2.2 f.toNat = x)) 61 0) else (-1000001 - ((0 : Nat) : Int))) (ρ) (if (0 ≤ x ∧ x < ρ 0 7) ∧ 0 ≤ f ∧ f < 12 then (if firstF (fun i => decide (holder (ρ 0 7) (daysC (ρ 0 7) (ρ 0 8) (ρ 0 9) (ρ 3) (ρ 4) 255 i (ρ 1, ρ 5, ρ 6)).2.2 f.toNat = x)) 61 0 = -1 then finM 3 σ else σ) else finM 0 σ)) 4 0 [(0, .ref (gA g 41)), (1, .int (iI (x))), (2, .int (iI (f)))] [] σ
  refine r_aload_n (pc := 0) C dX5_when_0 rfl 0 rfl ?_
  refine r_iload_n (pc := 1) C dX5_when_1 rfl 1 rfl ?_
  refine r_cVi (pc := 2) C (c_m_isTenant g x h_x ρ σ hS hn) yX5_isTenant_w O_41 rfl rfl t_905 ⟨by decide, by decide⟩ (Nat.le_of_ble_eq_true rfl) rfl dX5_when_2 ?_
  refine r_ifz_eq (pc := 5) C 15 dX5_when_5 (by decide) (fun h5 => ?_) (fun h5 => ?_)
  · skip
    refine r_aload_n (pc := 15) C dX5_when_15 rfl 0 rfl ?_
    refine r_ldc (pc := 16) C (-1000001) t_854 (by decide) dX5_when_16 ?_
    refine r_cVi (pc := 18) C (c_finds g 0 (by decide) σ) yX5_finds_w O_41 rfl rfl t_855 ⟨by decide, by decide⟩ (Nat.le_of_ble_eq_true rfl) (by rw [show ((-1000001) : Int) = -1000001 - ((0 : Nat) : Int) by decide]; rfl) dX5_when_18 ?_
    exact r_retM (pc := 21) C (by first | (exfalso; omega; done) | ((try (first | rw [if_pos (by omega)] | rw [if_neg (by omega)])); (try (first | rw [if_pos (by omega)] | rw [if_neg (by omega)])); (try (first | rw [if_pos (by omega)] | rw [if_neg (by omega)])); (try (first | rw [if_pos (by omega)] | rw [if_neg (by omega)])); (try rfl))) ((((wr_n _ _ _ (by omega)).trans hS)).trans (congrArg mkS (by first | (exfalso; omega; done) | ((try (first | rw [if_pos (by omega)] | rw [if_neg (by omega)])); (try (first | rw [if_pos (by omega)] | rw [if_neg (by omega)])); (try (first | rw [if_pos (by omega)] | rw [if_neg (by omega)])); (try (first | rw [if_pos (by omega)] | rw [if_neg (by omega)])); (try rfl))))) (fun k hk => (rfl).trans (congrFun (by first | (exfalso; omega; done) | ((try (first | rw [if_pos (by omega)] | rw [if_neg (by omega)])); (try (first | rw [if_pos (by omega)] | rw [if_neg (by omega)])); (try (first | rw [if_pos (by omega)] | rw [if_neg (by omega)])); (try (first | rw [if_pos (by omega)] | rw [if_neg (by omega)])); (try rfl))) k)) dX5_when_21
  · skip
    refine r_iload_n (pc := 8) C dX5_when_8 rfl 2 rfl ?_
    refine r_cSi (pc := 9) C (c_m_isSurface g f h_f σ) yX5_isSurface_w rfl t_842 ⟨by decide, by decide⟩ (Nat.le_of_ble_eq_true rfl) rfl dX5_when_9 ?_
    refine r_ifz_ne (pc := 12) C 22 dX5_when_12 (by decide) (fun h12 => ?_) (fun h12 => ?_)
    · skip
      refine r_aload_n (pc := 22) C dX5_when_22 rfl 0 rfl ?_
      refine r_cVv (pc := 23) C (c_laysAside g σ) yX5_laysAside_w O_41 rfl rfl t_1024 ⟨by decide, by decide⟩ (Nat.le_of_ble_eq_true rfl) rfl dX5_when_23 ?_
      refine r_iconst (pc := 26) C dX5_when_26 ?_
      refine r_istore_n (pc := 27) C dX5_when_27 rfl (by decide) [1, 2, 3, 0] (lv' := [(0, .ref (gA g 41)), (1, .int (iI (x))), (2, .int (iI (f))), (3, .int (iI (0)))]) rfl ?_
      have L28 : ∀ (n_ : Nat) (i : Nat) (x28_3 : Int) (s28 : Sg), 61 - i < n_ → (i ≤ 61) → (s28 42 = mkS (dsM 255 i ρ)) → (s28 45 = mkS ρ) → (∀ c, (c ≠ 42 ∧ c ≠ 44 ∧ c ≠ 45 ∧ c ≠ 47 ∧ c ≠ 48 ∧ c ≠ 53) → s28 c = σ c) → (firstF (fun i => decide (holder (ρ 0 7) (daysC (ρ 0 7) (ρ 0 8) (ρ 0 9) (ρ 3) (ρ 4) 255 i (ρ 1, ρ 5, ρ 6)).2.2 f.toNat = x)) 61 0 = firstF (fun i => decide (holder (ρ 0 7) (daysC (ρ 0 7) (ρ 0 8) (ρ 0 9) (ρ 3) (ρ 4) 255 i (ρ 1, ρ 5, ρ 6)).2.2 f.toNat = x)) (61 - i) i) → x28_3 = (i : Int) → J g E (pM (if (0 ≤ x ∧ x < ρ 0 7) ∧ 0 ≤ f ∧ f < 12 then (if firstF (fun i => decide (holder (ρ 0 7) (daysC (ρ 0 7) (ρ 0 8) (ρ 0 9) (ρ 3) (ρ 4) 255 i (ρ 1, ρ 5, ρ 6)).2.2 f.toNat = x)) 61 0 = -1 then (-1000001 - ((3 : Nat) : Int)) else firstF (fun i => decide (holder (ρ 0 7) (daysC (ρ 0 7) (ρ 0 8) (ρ 0 9) (ρ 3) (ρ 4) 255 i (ρ 1, ρ 5, ρ 6)).2.2 f.toNat = x)) 61 0) else (-1000001 - ((0 : Nat) : Int))) (ρ) (if (0 ≤ x ∧ x < ρ 0 7) ∧ 0 ≤ f ∧ f < 12 then (if firstF (fun i => decide (holder (ρ 0 7) (daysC (ρ 0 7) (ρ 0 8) (ρ 0 9) (ρ 3) (ρ 4) 255 i (ρ 1, ρ 5, ρ 6)).2.2 f.toNat = x)) 61 0 = -1 then finM 3 σ else σ) else finM 0 σ)) 4 28 [(0, .ref (gA g 41)), (1, .int (iI (x))), (2, .int (iI (f))), (3, .int (iI (x28_3)))] [] s28 := by
        intro n_
        induction n_ with
        | zero => intro i x28_3 s28 hm_; exact absurd hm_ (Nat.not_lt_zero _)
        | succ n_ ih28 =>
          intro i x28_3 s28 hm28 hi28_0 hi28_1 hi28_2 hi28_3 hi28_4 e28_0 
          subst e28_0 
          have hh := holder_rng (ρ 0 7) (daysC (ρ 0 7) (ρ 0 8) (ρ 0 9) (ρ 3) (ρ 4) 255 i (ρ 1, ρ 5, ρ 6)).2.2 f.toNat hn.1
          refine r_iload_n (pc := 28) C dX5_when_28 rfl 3 rfl ?_
          refine r_bipush (pc := 29) C dX5_when_29 (by decide) ?_
          refine r_icmp_gt (pc := 31) C 53 ⟨by omega, by omega⟩ ⟨by omega, by omega⟩ dX5_when_31 (by decide) (fun h31 => ?_) (fun h31 => ?_)
          · skip
            have hF : firstF (fun i => decide (holder (ρ 0 7) (daysC (ρ 0 7) (ρ 0 8) (ρ 0 9) (ρ 3) (ρ 4) 255 i (ρ 1, ρ 5, ρ 6)).2.2 f.toNat = x)) 61 0 = -1 := by rw [hi28_4, show 61 - i = 0 by omega, firstF]
            refine r_aload_n (pc := 53) C dX5_when_53 rfl 0 rfl ?_
            refine r_aload_n (pc := 54) C dX5_when_54 rfl 0 rfl ?_
            refine r_iload_n (pc := 55) C dX5_when_55 rfl 3 rfl ?_
            refine r_cVi (pc := 56) C (c_takesBack g (i : Int) s28) yX5_takesBack_w O_41 rfl rfl t_1028 ⟨by decide, by decide⟩ (Nat.le_of_ble_eq_true rfl) rfl dX5_when_56 ?_
            refine r_cVi (pc := 59) C (c_orNone_hi g (i : Int) (by omega) (us s28 42 (s28 45))) yX5_orNone_w O_41 rfl rfl t_1048 ⟨by decide, by decide⟩ (Nat.le_of_ble_eq_true rfl) rfl dX5_when_59 ?_
            exact r_retM (pc := 62) C (by rw [if_pos (by omega), if_pos hF]) (((wr_n _ _ _ (by omega)).trans ((us_s _ _ _).trans (hi28_2)))) (fun k hk => (finM_c 3 (fun k hk => (us_n _ _ hk.1).trans (hi28_3 k hk)) k hk).trans (congrFun (by rw [if_pos (by omega), if_pos hF]) k)) dX5_when_62
          · skip
            refine r_aload_n (pc := 34) C dX5_when_34 rfl 0 rfl ?_
            refine r_iload_n (pc := 35) C dX5_when_35 rfl 2 rfl ?_
            refine r_cVi (pc := 36) C (c_m_holderOf g f.toNat (by omega) (dsM 255 i ρ) s28 hi28_1 ((dsM_RM (RM_of hW) i).1) ((dsM_RM (RM_of hW) i).2.2.2.2.2.2.2)) yX5_holderOf_w O_41 rfl rfl t_864 ⟨by decide, by decide⟩ (Nat.le_of_ble_eq_true rfl) (by rw [show ((f.toNat : Nat) : Int) = f by omega]; rfl) dX5_when_36 ?_
            refine r_top (show _ = holder (ρ 0 7) (daysC (ρ 0 7) (ρ 0 8) (ρ 0 9) (ρ 3) (ρ 4) 255 i (ρ 1, ρ 5, ρ 6)).2.2 f.toNat by rw [dsM_M, (dsM_K _ _ _).2.2.1]) ?_
            skip
            refine r_iload_n (pc := 39) C dX5_when_39 rfl 1 rfl ?_
            refine r_icmp_eq (pc := 40) C 53 ⟨by omega, by omega⟩ h_x dX5_when_40 (by decide) (fun h40 => ?_) (fun h40 => ?_)
            · skip
              have hF : firstF (fun i => decide (holder (ρ 0 7) (daysC (ρ 0 7) (ρ 0 8) (ρ 0 9) (ρ 3) (ρ 4) 255 i (ρ 1, ρ 5, ρ 6)).2.2 f.toNat = x)) 61 0 = (i : Int) := by rw [hi28_4, show 61 - i = 61 - (i + 1) + 1 by omega, firstF, if_pos (by simpa using h40)]
              refine r_aload_n (pc := 53) C dX5_when_53 rfl 0 rfl ?_
              refine r_aload_n (pc := 54) C dX5_when_54 rfl 0 rfl ?_
              refine r_iload_n (pc := 55) C dX5_when_55 rfl 3 rfl ?_
              refine r_cVi (pc := 56) C (c_takesBack g (i : Int) s28) yX5_takesBack_w O_41 rfl rfl t_1028 ⟨by decide, by decide⟩ (Nat.le_of_ble_eq_true rfl) rfl dX5_when_56 ?_
              refine r_cVi (pc := 59) C (c_orNone_lo g (i : Int) (by omega) (us s28 42 (s28 45))) yX5_orNone_w O_41 rfl rfl t_1048 ⟨by decide, by decide⟩ (Nat.le_of_ble_eq_true rfl) rfl dX5_when_59 ?_
              exact r_retM (pc := 62) C (by rw [if_pos (by omega), if_neg (by omega), hF]) (((us_s _ _ _).trans (hi28_2))) (fun k hk => ((us_n _ _ hk.1).trans (hi28_3 k hk)).trans (congrFun (by rw [if_pos (by omega), if_neg (by omega)]) k)) dX5_when_62
            · skip
              refine r_aload_n (pc := 43) C dX5_when_43 rfl 0 rfl ?_
              refine r_cVd (pc := 44) C (c_day g 255 ⟨by decide, by decide⟩ (dsM 255 i ρ) s28 hi28_1 (dsM_RM (RM_of hW) i) ((congrFun (hi28_3 41 (by decide)) 6).trans h6)) yX5_day_w O_41 rfl rfl t_972 ⟨by decide, by decide⟩ (Nat.le_of_ble_eq_true rfl) rfl dX5_when_44 (fun s44 hm44_ hT44 => ?_)
              refine r_iinc (pc := 47) C dX5_when_47 3 rfl (by decide) [1, 2, 3, 0] (lv' := [(0, .ref (gA g 41)), (1, .int (iI (x))), (2, .int (iI (f))), (3, .int (iI ((i : Int) + 1)))]) rfl ?_
              refine r_goto (pc := 50) C 28 dX5_when_50 (by decide) ?_
              exact ih28 (i + 1) _ _ (by omega) (by omega) (by exact hm44_) (by exact (hT44 45 (by decide) (by decide)).trans hi28_2) (by exact fun c hc => (hT44 c hc.1 hc.2.2.2.1).trans (hi28_3 c hc)) (by rw [hi28_4, show 61 - i = 61 - (i + 1) + 1 by omega, firstF, if_neg (by simpa using h40)]) (by omega)
      exact L28 _ 0 _ _ (Nat.lt_succ_self _) (by omega) (by exact (us_n _ _ (by decide)).trans hS) (by exact (us_s _ _ _).trans hS) (by exact fun c hc => us_n _ _ hc.2.2.1) (by rfl) (rfl)
    · skip
      refine r_aload_n (pc := 15) C dX5_when_15 rfl 0 rfl ?_
      refine r_ldc (pc := 16) C (-1000001) t_854 (by decide) dX5_when_16 ?_
      refine r_cVi (pc := 18) C (c_finds g 0 (by decide) σ) yX5_finds_w O_41 rfl rfl t_855 ⟨by decide, by decide⟩ (Nat.le_of_ble_eq_true rfl) (by rw [show ((-1000001) : Int) = -1000001 - ((0 : Nat) : Int) by decide]; rfl) dX5_when_18 ?_
      exact r_retM (pc := 21) C (by first | (exfalso; omega; done) | ((try (first | rw [if_pos (by omega)] | rw [if_neg (by omega)])); (try (first | rw [if_pos (by omega)] | rw [if_neg (by omega)])); (try (first | rw [if_pos (by omega)] | rw [if_neg (by omega)])); (try (first | rw [if_pos (by omega)] | rw [if_neg (by omega)])); (try rfl))) ((((wr_n _ _ _ (by omega)).trans hS)).trans (congrArg mkS (by first | (exfalso; omega; done) | ((try (first | rw [if_pos (by omega)] | rw [if_neg (by omega)])); (try (first | rw [if_pos (by omega)] | rw [if_neg (by omega)])); (try (first | rw [if_pos (by omega)] | rw [if_neg (by omega)])); (try (first | rw [if_pos (by omega)] | rw [if_neg (by omega)])); (try rfl))))) (fun k hk => (rfl).trans (congrFun (by first | (exfalso; omega; done) | ((try (first | rw [if_pos (by omega)] | rw [if_neg (by omega)])); (try (first | rw [if_pos (by omega)] | rw [if_neg (by omega)])); (try (first | rw [if_pos (by omega)] | rw [if_neg (by omega)])); (try (first | rw [if_pos (by omega)] | rw [if_neg (by omega)])); (try rfl))) k)) dX5_when_21
set_option maxHeartbeats 4000000 in
set_option maxRecDepth 100000 in
theorem e_rich (g : Gt) (x v : Int) (h_x : rng x) (h_v : rng v) (ρ σ : Sg) (hS : σ 42 = mkS ρ) (hW : RW ρ 0) (h6 : σ 41 6 = 255) : Mt g yX5_rich cX5_rich 4 (some FieldType.int) 6 [.ref (gA g 41), .int (iI (x)), .int (iI (v))] σ (pM (if (0 ≤ x ∧ x < ρ 0 7) ∧ 0 ≤ v ∧ v ≤ 99999 then (if firstF (fun i => decide (v ≤ (daysC (ρ 0 7) (ρ 0 8) (ρ 0 9) (ρ 3) (ρ 4) 255 i (ρ 1, ρ 5, ρ 6)).2.1 x.toNat)) 61 0 = -1 then (-1000001 - ((3 : Nat) : Int)) else firstF (fun i => decide (v ≤ (daysC (ρ 0 7) (ρ 0 8) (ρ 0 9) (ρ 3) (ρ 4) 255 i (ρ 1, ρ 5, ρ 6)).2.1 x.toNat)) 61 0) else (-1000001 - ((0 : Nat) : Int))) (ρ) (if (0 ≤ x ∧ x < ρ 0 7) ∧ 0 ≤ v ∧ v ≤ 99999 then (if firstF (fun i => decide (v ≤ (daysC (ρ 0 7) (ρ 0 8) (ρ 0 9) (ρ 3) (ρ 4) 255 i (ρ 1, ρ 5, ρ 6)).2.1 x.toNat)) 61 0 = -1 then finM 3 σ else σ) else finM 0 σ)) := by
  obtain ⟨hn, hfl, hw, hdy, hz, hD_, hK_, hA_, hG_, hM_, hP_⟩ := id hW
  have hD : rgD (ρ 1) := hD_
  have hK : rgK (ρ 3) := hK_
  have hA : rgA (ρ 4) := hA_
  have hG : rgG (ρ 5) := hG_
  have hM : rgM (ρ 6) := hM_
  have hP : ∀ j, j < 10 → -1 ≤ ρ 7 j ∧ ρ 7 j < ρ 0 7 := hP_
  have ho_x := h_x.1; have hp_x := h_x.2
  have ho_v := h_v.1; have hp_v := h_v.2
  refine mt_of (own := RX5) (by decide) rfl (Nat.le_of_ble_eq_true rfl) (fun E C => ?_)
  show J g E (pM (if (0 ≤ x ∧ x < ρ 0 7) ∧ 0 ≤ v ∧ v ≤ 99999 then (if firstF (fun i => decide (v ≤ (daysC (ρ 0 7) (ρ 0 8) (ρ 0 9) (ρ 3) (ρ 4) 255 i (ρ 1, ρ 5, ρ 6)).2.1 x.toNat)) 61 0 = -1 then (-1000001 - ((3 : Nat) : Int)) else firstF (fun i => decide (v ≤ (daysC (ρ 0 7) (ρ 0 8) (ρ 0 9) (ρ 3) (ρ 4) 255 i (ρ 1, ρ 5, ρ 6)).2.1 x.toNat)) 61 0) else (-1000001 - ((0 : Nat) : Int))) (ρ) (if (0 ≤ x ∧ x < ρ 0 7) ∧ 0 ≤ v ∧ v ≤ 99999 then (if firstF (fun i => decide (v ≤ (daysC (ρ 0 7) (ρ 0 8) (ρ 0 9) (ρ 3) (ρ 4) 255 i (ρ 1, ρ 5, ρ 6)).2.1 x.toNat)) 61 0 = -1 then finM 3 σ else σ) else finM 0 σ)) 4 0 [(0, .ref (gA g 41)), (1, .int (iI (x))), (2, .int (iI (v)))] [] σ
  refine r_aload_n (pc := 0) C dX5_rich_0 rfl 0 rfl ?_
  refine r_iload_n (pc := 1) C dX5_rich_1 rfl 1 rfl ?_
  refine r_cVi (pc := 2) C (c_m_isTenant g x h_x ρ σ hS hn) yX5_isTenant_w O_41 rfl rfl t_905 ⟨by decide, by decide⟩ (Nat.le_of_ble_eq_true rfl) rfl dX5_rich_2 ?_
  refine r_ifz_eq (pc := 5) C 20 dX5_rich_5 (by decide) (fun h5 => ?_) (fun h5 => ?_)
  · skip
    refine r_aload_n (pc := 20) C dX5_rich_20 rfl 0 rfl ?_
    refine r_ldc (pc := 21) C (-1000001) t_854 (by decide) dX5_rich_21 ?_
    refine r_cVi (pc := 23) C (c_finds g 0 (by decide) σ) yX5_finds_w O_41 rfl rfl t_855 ⟨by decide, by decide⟩ (Nat.le_of_ble_eq_true rfl) (by rw [show ((-1000001) : Int) = -1000001 - ((0 : Nat) : Int) by decide]; rfl) dX5_rich_23 ?_
    exact r_retM (pc := 26) C (by first | (exfalso; omega; done) | ((try (first | rw [if_pos (by omega)] | rw [if_neg (by omega)])); (try (first | rw [if_pos (by omega)] | rw [if_neg (by omega)])); (try (first | rw [if_pos (by omega)] | rw [if_neg (by omega)])); (try (first | rw [if_pos (by omega)] | rw [if_neg (by omega)])); (try rfl))) ((((wr_n _ _ _ (by omega)).trans hS)).trans (congrArg mkS (by first | (exfalso; omega; done) | ((try (first | rw [if_pos (by omega)] | rw [if_neg (by omega)])); (try (first | rw [if_pos (by omega)] | rw [if_neg (by omega)])); (try (first | rw [if_pos (by omega)] | rw [if_neg (by omega)])); (try (first | rw [if_pos (by omega)] | rw [if_neg (by omega)])); (try rfl))))) (fun k hk => (rfl).trans (congrFun (by first | (exfalso; omega; done) | ((try (first | rw [if_pos (by omega)] | rw [if_neg (by omega)])); (try (first | rw [if_pos (by omega)] | rw [if_neg (by omega)])); (try (first | rw [if_pos (by omega)] | rw [if_neg (by omega)])); (try (first | rw [if_pos (by omega)] | rw [if_neg (by omega)])); (try rfl))) k)) dX5_rich_26
  · skip
    refine r_iload_n (pc := 8) C dX5_rich_8 rfl 2 rfl ?_
    refine r_i2l (pc := 9) C h_v dX5_rich_9 ?_
    refine r_lconst (pc := 10) C (n := 0) dX5_rich_10 (by decide) ?_
    refine r_ldc2 (pc := 11) C 99999 t_929 (by decide) dX5_rich_11 ?_
    refine r_cSi (pc := 14) C (c_in g v 0 99999 ⟨by have := h_v.1; omega, by have := h_v.2; omega⟩ ⟨by omega, by omega⟩ ⟨by omega, by omega⟩ σ) yX5_in_w rfl t_846 ⟨by decide, by decide⟩ (Nat.le_of_ble_eq_true rfl) rfl dX5_rich_14 ?_
    refine r_ifz_ne (pc := 17) C 27 dX5_rich_17 (by decide) (fun h17 => ?_) (fun h17 => ?_)
    · skip
      refine r_aload_n (pc := 27) C dX5_rich_27 rfl 0 rfl ?_
      refine r_cVv (pc := 28) C (c_laysAside g σ) yX5_laysAside_w O_41 rfl rfl t_1024 ⟨by decide, by decide⟩ (Nat.le_of_ble_eq_true rfl) rfl dX5_rich_28 ?_
      refine r_iconst (pc := 31) C dX5_rich_31 ?_
      refine r_istore_n (pc := 32) C dX5_rich_32 rfl (by decide) [1, 2, 3, 0] (lv' := [(0, .ref (gA g 41)), (1, .int (iI (x))), (2, .int (iI (v))), (3, .int (iI (0)))]) rfl ?_
      have L33 : ∀ (n_ : Nat) (i : Nat) (x33_3 : Int) (s33 : Sg), 61 - i < n_ → (i ≤ 61) → (s33 42 = mkS (dsM 255 i ρ)) → (s33 45 = mkS ρ) → (∀ c, (c ≠ 42 ∧ c ≠ 44 ∧ c ≠ 45 ∧ c ≠ 47 ∧ c ≠ 48 ∧ c ≠ 53) → s33 c = σ c) → (firstF (fun i => decide (v ≤ (daysC (ρ 0 7) (ρ 0 8) (ρ 0 9) (ρ 3) (ρ 4) 255 i (ρ 1, ρ 5, ρ 6)).2.1 x.toNat)) 61 0 = firstF (fun i => decide (v ≤ (daysC (ρ 0 7) (ρ 0 8) (ρ 0 9) (ρ 3) (ρ 4) 255 i (ρ 1, ρ 5, ρ 6)).2.1 x.toNat)) (61 - i) i) → x33_3 = (i : Int) → J g E (pM (if (0 ≤ x ∧ x < ρ 0 7) ∧ 0 ≤ v ∧ v ≤ 99999 then (if firstF (fun i => decide (v ≤ (daysC (ρ 0 7) (ρ 0 8) (ρ 0 9) (ρ 3) (ρ 4) 255 i (ρ 1, ρ 5, ρ 6)).2.1 x.toNat)) 61 0 = -1 then (-1000001 - ((3 : Nat) : Int)) else firstF (fun i => decide (v ≤ (daysC (ρ 0 7) (ρ 0 8) (ρ 0 9) (ρ 3) (ρ 4) 255 i (ρ 1, ρ 5, ρ 6)).2.1 x.toNat)) 61 0) else (-1000001 - ((0 : Nat) : Int))) (ρ) (if (0 ≤ x ∧ x < ρ 0 7) ∧ 0 ≤ v ∧ v ≤ 99999 then (if firstF (fun i => decide (v ≤ (daysC (ρ 0 7) (ρ 0 8) (ρ 0 9) (ρ 3) (ρ 4) 255 i (ρ 1, ρ 5, ρ 6)).2.1 x.toNat)) 61 0 = -1 then finM 3 σ else σ) else finM 0 σ)) 4 33 [(0, .ref (gA g 41)), (1, .int (iI (x))), (2, .int (iI (v))), (3, .int (iI (x33_3)))] [] s33 := by
        intro n_
        induction n_ with
        | zero => intro i x33_3 s33 hm_; exact absurd hm_ (Nat.not_lt_zero _)
        | succ n_ ih33 =>
          intro i x33_3 s33 hm33 hi33_0 hi33_1 hi33_2 hi33_3 hi33_4 e33_0 
          subst e33_0 
          refine r_iload_n (pc := 33) C dX5_rich_33 rfl 3 rfl ?_
          refine r_bipush (pc := 34) C dX5_rich_34 (by decide) ?_
          refine r_icmp_gt (pc := 36) C 59 ⟨by omega, by omega⟩ ⟨by omega, by omega⟩ dX5_rich_36 (by decide) (fun h36 => ?_) (fun h36 => ?_)
          · skip
            have hF : firstF (fun i => decide (v ≤ (daysC (ρ 0 7) (ρ 0 8) (ρ 0 9) (ρ 3) (ρ 4) 255 i (ρ 1, ρ 5, ρ 6)).2.1 x.toNat)) 61 0 = -1 := by rw [hi33_4, show 61 - i = 0 by omega, firstF]
            refine r_aload_n (pc := 59) C dX5_rich_59 rfl 0 rfl ?_
            refine r_aload_n (pc := 60) C dX5_rich_60 rfl 0 rfl ?_
            refine r_iload_n (pc := 61) C dX5_rich_61 rfl 3 rfl ?_
            refine r_cVi (pc := 62) C (c_takesBack g (i : Int) s33) yX5_takesBack_w O_41 rfl rfl t_1028 ⟨by decide, by decide⟩ (Nat.le_of_ble_eq_true rfl) rfl dX5_rich_62 ?_
            refine r_cVi (pc := 65) C (c_orNone_hi g (i : Int) (by omega) (us s33 42 (s33 45))) yX5_orNone_w O_41 rfl rfl t_1048 ⟨by decide, by decide⟩ (Nat.le_of_ble_eq_true rfl) rfl dX5_rich_65 ?_
            exact r_retM (pc := 68) C (by rw [if_pos (by omega), if_pos hF]) (((wr_n _ _ _ (by omega)).trans ((us_s _ _ _).trans (hi33_2)))) (fun k hk => (finM_c 3 (fun k hk => (us_n _ _ hk.1).trans (hi33_3 k hk)) k hk).trans (congrFun (by rw [if_pos (by omega), if_pos hF]) k)) dX5_rich_68
          · skip
            refine r_aload_n (pc := 39) C dX5_rich_39 rfl 0 rfl ?_
            refine r_iload_n (pc := 40) C dX5_rich_40 rfl 1 rfl ?_
            refine r_iconst (pc := 41) C dX5_rich_41 ?_
            refine r_cVi (pc := 42) C (c_its_2 g x.toNat (by omega) (dsM 255 i ρ) s33 hi33_1) yX5_its_w O_41 rfl rfl t_875 ⟨by decide, by decide⟩ (Nat.le_of_ble_eq_true rfl) (by rw [show ((x.toNat : Nat) : Int) = x by omega]; rfl) dX5_rich_42 ?_
            have hg : rgG (dsM 255 i ρ 5) := (dsM_RM (RM_of hW) i).2.2.2.2.2.2.1
            have hg1 := hg x.toNat (by omega)
            rw [dsM_G] at hg1
            refine r_top (show _ = (daysC (ρ 0 7) (ρ 0 8) (ρ 0 9) (ρ 3) (ρ 4) 255 i (ρ 1, ρ 5, ρ 6)).2.1 x.toNat by rw [dsM_G]) ?_
            skip
            refine r_iload_n (pc := 45) C dX5_rich_45 rfl 2 rfl ?_
            refine r_icmp_ge (pc := 46) C 59 ⟨by omega, by omega⟩ h_v dX5_rich_46 (by decide) (fun h46 => ?_) (fun h46 => ?_)
            · skip
              have hF : firstF (fun i => decide (v ≤ (daysC (ρ 0 7) (ρ 0 8) (ρ 0 9) (ρ 3) (ρ 4) 255 i (ρ 1, ρ 5, ρ 6)).2.1 x.toNat)) 61 0 = (i : Int) := by rw [hi33_4, show 61 - i = 61 - (i + 1) + 1 by omega, firstF, if_pos (by simp; omega)]
              refine r_aload_n (pc := 59) C dX5_rich_59 rfl 0 rfl ?_
              refine r_aload_n (pc := 60) C dX5_rich_60 rfl 0 rfl ?_
              refine r_iload_n (pc := 61) C dX5_rich_61 rfl 3 rfl ?_
              refine r_cVi (pc := 62) C (c_takesBack g (i : Int) s33) yX5_takesBack_w O_41 rfl rfl t_1028 ⟨by decide, by decide⟩ (Nat.le_of_ble_eq_true rfl) rfl dX5_rich_62 ?_
              refine r_cVi (pc := 65) C (c_orNone_lo g (i : Int) (by omega) (us s33 42 (s33 45))) yX5_orNone_w O_41 rfl rfl t_1048 ⟨by decide, by decide⟩ (Nat.le_of_ble_eq_true rfl) rfl dX5_rich_65 ?_
              exact r_retM (pc := 68) C (by rw [if_pos (by omega), if_neg (by omega), hF]) (((us_s _ _ _).trans (hi33_2))) (fun k hk => ((us_n _ _ hk.1).trans (hi33_3 k hk)).trans (congrFun (by rw [if_pos (by omega), if_neg (by omega)]) k)) dX5_rich_68
            · skip
              refine r_aload_n (pc := 49) C dX5_rich_49 rfl 0 rfl ?_
              refine r_cVd (pc := 50) C (c_day g 255 ⟨by decide, by decide⟩ (dsM 255 i ρ) s33 hi33_1 (dsM_RM (RM_of hW) i) ((congrFun (hi33_3 41 (by decide)) 6).trans h6)) yX5_day_w O_41 rfl rfl t_972 ⟨by decide, by decide⟩ (Nat.le_of_ble_eq_true rfl) rfl dX5_rich_50 (fun s50 hm50_ hT50 => ?_)
              refine r_iinc (pc := 53) C dX5_rich_53 3 rfl (by decide) [1, 2, 3, 0] (lv' := [(0, .ref (gA g 41)), (1, .int (iI (x))), (2, .int (iI (v))), (3, .int (iI ((i : Int) + 1)))]) rfl ?_
              refine r_goto (pc := 56) C 33 dX5_rich_56 (by decide) ?_
              exact ih33 (i + 1) _ _ (by omega) (by omega) (by exact hm50_) (by exact (hT50 45 (by decide) (by decide)).trans hi33_2) (by exact fun c hc => (hT50 c hc.1 hc.2.2.2.1).trans (hi33_3 c hc)) (by rw [hi33_4, show 61 - i = 61 - (i + 1) + 1 by omega, firstF, if_neg (by simp; omega)]) (by omega)
      exact L33 _ 0 _ _ (Nat.lt_succ_self _) (by omega) (by exact (us_n _ _ (by decide)).trans hS) (by exact (us_s _ _ _).trans hS) (by exact fun c hc => us_n _ _ hc.2.2.1) (by rfl) (rfl)
    · skip
      refine r_aload_n (pc := 20) C dX5_rich_20 rfl 0 rfl ?_
      refine r_ldc (pc := 21) C (-1000001) t_854 (by decide) dX5_rich_21 ?_
      refine r_cVi (pc := 23) C (c_finds g 0 (by decide) σ) yX5_finds_w O_41 rfl rfl t_855 ⟨by decide, by decide⟩ (Nat.le_of_ble_eq_true rfl) (by rw [show ((-1000001) : Int) = -1000001 - ((0 : Nat) : Int) by decide]; rfl) dX5_rich_23 ?_
      exact r_retM (pc := 26) C (by first | (exfalso; omega; done) | ((try (first | rw [if_pos (by omega)] | rw [if_neg (by omega)])); (try (first | rw [if_pos (by omega)] | rw [if_neg (by omega)])); (try (first | rw [if_pos (by omega)] | rw [if_neg (by omega)])); (try (first | rw [if_pos (by omega)] | rw [if_neg (by omega)])); (try rfl))) ((((wr_n _ _ _ (by omega)).trans hS)).trans (congrArg mkS (by first | (exfalso; omega; done) | ((try (first | rw [if_pos (by omega)] | rw [if_neg (by omega)])); (try (first | rw [if_pos (by omega)] | rw [if_neg (by omega)])); (try (first | rw [if_pos (by omega)] | rw [if_neg (by omega)])); (try (first | rw [if_pos (by omega)] | rw [if_neg (by omega)])); (try rfl))))) (fun k hk => (rfl).trans (congrFun (by first | (exfalso; omega; done) | ((try (first | rw [if_pos (by omega)] | rw [if_neg (by omega)])); (try (first | rw [if_pos (by omega)] | rw [if_neg (by omega)])); (try (first | rw [if_pos (by omega)] | rw [if_neg (by omega)])); (try (first | rw [if_pos (by omega)] | rw [if_neg (by omega)])); (try rfl))) k)) dX5_rich_26
set_option maxHeartbeats 4000000 in
set_option maxRecDepth 100000 in
theorem c_isOtherwise (g : Gt) (ρ σ : Sg) (hS : σ 42 = mkS ρ) (hn : 0 ≤ ρ 0 7 ∧ ρ 0 7 ≤ 8) (hM : rgM (ρ 6)) (hh : ∀ f, f < 12 → -1 ≤ σ 48 f ∧ σ 48 f ≤ 8) : Mt g yX5_isOtherwise cX5_isOtherwise 3 (some FieldType.boolean) 2 [.ref (gA g 41)] σ (pI (oth (ρ 0 7) (ρ 6) (σ 48) 12) σ) := by
  refine mt_of (own := RX5) (by decide) rfl (Nat.le_of_ble_eq_true rfl) (fun E C => ?_)
  show J g E (pI (oth (ρ 0 7) (ρ 6) (σ 48) 12) σ) 3 0 [(0, .ref (gA g 41))] [] σ
  refine r_iconst (pc := 0) C dX5_isOtherwise_0 ?_
  refine r_istore_n (pc := 1) C dX5_isOtherwise_1 rfl (by decide) [1, 0] (lv' := [(0, .ref (gA g 41)), (1, .int (iI (0)))]) rfl ?_
  refine r_iconst (pc := 2) C dX5_isOtherwise_2 ?_
  refine r_istore_n (pc := 3) C dX5_isOtherwise_3 rfl (by decide) [1, 2, 0] (lv' := [(0, .ref (gA g 41)), (1, .int (iI (0))), (2, .int (iI (0)))]) rfl ?_
  have L4 : ∀ (n_ : Nat) (i : Nat) (x4_1 x4_2 : Int), 12 - i < n_ → (i ≤ 12) → x4_1 = oth (ρ 0 7) (ρ 6) (σ 48) i → x4_2 = (i : Int) → J g E (pI (oth (ρ 0 7) (ρ 6) (σ 48) 12) σ) 3 4 [(0, .ref (gA g 41)), (1, .int (iI (x4_1))), (2, .int (iI (x4_2)))] [] σ := by
    intro n_
    induction n_ with
    | zero => intro i x4_1 x4_2  hm_; exact absurd hm_ (Nat.not_lt_zero _)
    | succ n_ ih4 =>
      intro i x4_1 x4_2  hm4 hi4_0 e4_0 e4_1 
      subst e4_0 e4_1 
      have ho := oth_or (ρ 0 7) (ρ 6) (σ 48) i
      have hq := holder_rng (ρ 0 7) (ρ 6) i hn.1
      refine r_iload_n (pc := 4) C dX5_isOtherwise_4 rfl 2 rfl ?_
      refine r_bipush (pc := 5) C dX5_isOtherwise_5 (by decide) ?_
      refine r_icmp_ge (pc := 7) C 40 ⟨by omega, by omega⟩ ⟨by omega, by omega⟩ dX5_isOtherwise_7 (by decide) (fun h7 => ?_) (fun h7 => ?_)
      · skip
        refine r_iload_n (pc := 40) C dX5_isOtherwise_40 rfl 1 rfl ?_
        exact r_retz (pc := 41) C (oth_or _ _ _ _) (by rw [show i = 12 by omega]) rfl dX5_isOtherwise_41
      · skip
        refine r_iload_n (pc := 10) C dX5_isOtherwise_10 rfl 1 rfl ?_
        refine r_if_ne (pc := 11) C 28 ⟨by omega, by omega⟩ dX5_isOtherwise_11 (by decide) (fun h11 => ?_) (fun h11 => ?_)
        · skip
          refine r_iconst (pc := 28) C dX5_isOtherwise_28 ?_
          refine r_goto (pc := 29) C 33 dX5_isOtherwise_29 (by decide) ?_
          refine r_istore_n (pc := 33) C dX5_isOtherwise_33 rfl (by decide) [1, 0, 2] (lv' := [(0, .ref (gA g 41)), (1, .int (iI (1))), (2, .int (iI ((i : Int))))]) rfl ?_
          refine r_iinc (pc := 34) C dX5_isOtherwise_34 2 rfl (by decide) [1, 2, 0] (lv' := [(0, .ref (gA g 41)), (1, .int (iI (1))), (2, .int (iI ((i : Int) + 1)))]) rfl ?_
          refine r_goto (pc := 37) C 4 dX5_isOtherwise_37 (by decide) ?_
          exact ih4 (i + 1) _ _ (by omega) (by omega) (by first | (exfalso; omega) | rw [oth, if_pos (by omega)] | rw [oth, if_neg (by omega)]) (by omega)
        · skip
          refine r_aload_n (pc := 14) C dX5_isOtherwise_14 rfl 0 rfl ?_
          refine r_iload_n (pc := 15) C dX5_isOtherwise_15 rfl 2 rfl ?_
          refine r_cVi (pc := 16) C (c_m_holderOf g i (by omega) ρ σ hS hn hM) yX5_holderOf_w O_41 rfl rfl t_864 ⟨by decide, by decide⟩ (Nat.le_of_ble_eq_true rfl) rfl dX5_isOtherwise_16 ?_
          refine r_aload_n (pc := 19) C dX5_isOtherwise_19 rfl 0 rfl ?_
          refine r_getR5 (pc := 20) C 8 (k' := 48) rfl O_41 (by decide) rfl t_788 dX5_isOtherwise_20 ?_
          refine r_iload_n (pc := 23) C dX5_isOtherwise_23 rfl 2 rfl ?_
          have hhi := hh i (by omega)
          refine r_iald (pc := 24) C i A_48 (by omega) (by omega) dX5_isOtherwise_24 ?_
          refine r_icmp_eq (pc := 25) C 32 ⟨by omega, by omega⟩ ⟨by omega, by omega⟩ dX5_isOtherwise_25 (by decide) (fun h25 => ?_) (fun h25 => ?_)
          · skip
            refine r_iconst (pc := 32) C dX5_isOtherwise_32 ?_
            refine r_istore_n (pc := 33) C dX5_isOtherwise_33 rfl (by decide) [1, 0, 2] (lv' := [(0, .ref (gA g 41)), (1, .int (iI (0))), (2, .int (iI ((i : Int))))]) rfl ?_
            refine r_iinc (pc := 34) C dX5_isOtherwise_34 2 rfl (by decide) [1, 2, 0] (lv' := [(0, .ref (gA g 41)), (1, .int (iI (0))), (2, .int (iI ((i : Int) + 1)))]) rfl ?_
            refine r_goto (pc := 37) C 4 dX5_isOtherwise_37 (by decide) ?_
            exact ih4 (i + 1) _ _ (by omega) (by omega) (by first | (exfalso; omega) | rw [oth, if_pos (by omega)] | rw [oth, if_neg (by omega)]) (by omega)
          · skip
            refine r_iconst (pc := 28) C dX5_isOtherwise_28 ?_
            refine r_goto (pc := 29) C 33 dX5_isOtherwise_29 (by decide) ?_
            refine r_istore_n (pc := 33) C dX5_isOtherwise_33 rfl (by decide) [1, 0, 2] (lv' := [(0, .ref (gA g 41)), (1, .int (iI (1))), (2, .int (iI ((i : Int))))]) rfl ?_
            refine r_iinc (pc := 34) C dX5_isOtherwise_34 2 rfl (by decide) [1, 2, 0] (lv' := [(0, .ref (gA g 41)), (1, .int (iI (1))), (2, .int (iI ((i : Int) + 1)))]) rfl ?_
            refine r_goto (pc := 37) C 4 dX5_isOtherwise_37 (by decide) ?_
            exact ih4 (i + 1) _ _ (by omega) (by omega) (by first | (exfalso; omega) | rw [oth, if_pos (by omega)] | rw [oth, if_neg (by omega)]) (by omega)
  exact L4 _ 0 _ _ (Nat.lt_succ_self _) (by omega) (rfl) (rfl)
set_option maxHeartbeats 4000000 in
set_option maxRecDepth 100000 in
theorem e_clash (g : Gt) (ρ σ : Sg) (hS : σ 42 = mkS ρ) (hW : RW ρ 0) (h6 : σ 41 6 = 255) : Mt g yX5_clash cX5_clash 2 (some FieldType.int) 6 [.ref (gA g 41)] σ (pM (if firstF (fun i => !sameH (ρ 0 7) (daysC (ρ 0 7) (ρ 0 8) (ρ 0 9) (ρ 3) (ρ 4) 255 i (ρ 1, ρ 5, ρ 6)).2.2 (ρ 0 7) (ρ 6)) 60 1 = -1 then (-1000001 - ((3 : Nat) : Int)) else firstF (fun i => !sameH (ρ 0 7) (daysC (ρ 0 7) (ρ 0 8) (ρ 0 9) (ρ 3) (ρ 4) 255 i (ρ 1, ρ 5, ρ 6)).2.2 (ρ 0 7) (ρ 6)) 60 1) (ρ) (if firstF (fun i => !sameH (ρ 0 7) (daysC (ρ 0 7) (ρ 0 8) (ρ 0 9) (ρ 3) (ρ 4) 255 i (ρ 1, ρ 5, ρ 6)).2.2 (ρ 0 7) (ρ 6)) 60 1 = -1 then finM 3 σ else σ)) := by
  obtain ⟨hn, hfl, hw, hdy, hz, hD_, hK_, hA_, hG_, hM_, hP_⟩ := id hW
  have hD : rgD (ρ 1) := hD_
  have hK : rgK (ρ 3) := hK_
  have hA : rgA (ρ 4) := hA_
  have hG : rgG (ρ 5) := hG_
  have hM : rgM (ρ 6) := hM_
  have hP : ∀ j, j < 10 → -1 ≤ ρ 7 j ∧ ρ 7 j < ρ 0 7 := hP_
  refine mt_of (own := RX5) (by decide) rfl (Nat.le_of_ble_eq_true rfl) (fun E C => ?_)
  show J g E (pM (if firstF (fun i => !sameH (ρ 0 7) (daysC (ρ 0 7) (ρ 0 8) (ρ 0 9) (ρ 3) (ρ 4) 255 i (ρ 1, ρ 5, ρ 6)).2.2 (ρ 0 7) (ρ 6)) 60 1 = -1 then (-1000001 - ((3 : Nat) : Int)) else firstF (fun i => !sameH (ρ 0 7) (daysC (ρ 0 7) (ρ 0 8) (ρ 0 9) (ρ 3) (ρ 4) 255 i (ρ 1, ρ 5, ρ 6)).2.2 (ρ 0 7) (ρ 6)) 60 1) (ρ) (if firstF (fun i => !sameH (ρ 0 7) (daysC (ρ 0 7) (ρ 0 8) (ρ 0 9) (ρ 3) (ρ 4) 255 i (ρ 1, ρ 5, ρ 6)).2.2 (ρ 0 7) (ρ 6)) 60 1 = -1 then finM 3 σ else σ)) 2 0 [(0, .ref (gA g 41))] [] σ
  refine r_iconst (pc := 0) C dX5_clash_0 ?_
  refine r_istore_n (pc := 1) C dX5_clash_1 rfl (by decide) [1, 0] (lv' := [(0, .ref (gA g 41)), (1, .int (iI (0)))]) rfl ?_
  have L2 : ∀ (n_ : Nat) (j : Nat) (x2_1 : Int) (s2 : Sg), 12 - j < n_ → (j ≤ 12) → x2_1 = (j : Int) → s2 = (us σ 48 (mapTo (fun f => holder (ρ 0 7) (ρ 6) f) (σ 48) j)) → J g E (pM (if firstF (fun i => !sameH (ρ 0 7) (daysC (ρ 0 7) (ρ 0 8) (ρ 0 9) (ρ 3) (ρ 4) 255 i (ρ 1, ρ 5, ρ 6)).2.2 (ρ 0 7) (ρ 6)) 60 1 = -1 then (-1000001 - ((3 : Nat) : Int)) else firstF (fun i => !sameH (ρ 0 7) (daysC (ρ 0 7) (ρ 0 8) (ρ 0 9) (ρ 3) (ρ 4) 255 i (ρ 1, ρ 5, ρ 6)).2.2 (ρ 0 7) (ρ 6)) 60 1) (ρ) (if firstF (fun i => !sameH (ρ 0 7) (daysC (ρ 0 7) (ρ 0 8) (ρ 0 9) (ρ 3) (ρ 4) 255 i (ρ 1, ρ 5, ρ 6)).2.2 (ρ 0 7) (ρ 6)) 60 1 = -1 then finM 3 σ else σ)) 2 2 [(0, .ref (gA g 41)), (1, .int (iI (x2_1)))] [] s2 := by
    intro n_
    induction n_ with
    | zero => intro j x2_1 s2 hm_; exact absurd hm_ (Nat.not_lt_zero _)
    | succ n_ ih2 =>
      intro j x2_1 s2 hm2 hi2_0 e2_0 es2
      subst e2_0 es2
      refine r_iload_n (pc := 2) C dX5_clash_2 rfl 1 rfl ?_
      refine r_bipush (pc := 3) C dX5_clash_3 (by decide) ?_
      refine r_icmp_ge (pc := 5) C 25 ⟨by omega, by omega⟩ ⟨by omega, by omega⟩ dX5_clash_5 (by decide) (fun h5 => ?_) (fun h5 => ?_)
      · skip
        refine r_aload_n (pc := 25) C dX5_clash_25 rfl 0 rfl ?_
        refine r_cVv (pc := 26) C (c_laysAside g (us σ 48 (mapTo (fun f => holder (ρ 0 7) (ρ 6) f) (σ 48) j))) yX5_laysAside_w O_41 rfl rfl t_1024 ⟨by decide, by decide⟩ (Nat.le_of_ble_eq_true rfl) rfl dX5_clash_26 ?_
        refine r_iconst (pc := 29) C dX5_clash_29 ?_
        refine r_istore_n (pc := 30) C dX5_clash_30 rfl (by decide) [1, 0] (lv' := [(0, .ref (gA g 41)), (1, .int (iI (0)))]) rfl ?_
        have L31 : ∀ (n_ : Nat) (i : Nat) (x31_1 : Int) (s31 : Sg), 61 - i < n_ → (i ≤ 61) → (s31 42 = mkS (dsM 255 i ρ)) → (s31 45 = mkS ρ) → (∀ c, (c ≠ 42 ∧ c ≠ 44 ∧ c ≠ 45 ∧ c ≠ 47 ∧ c ≠ 48 ∧ c ≠ 53) → s31 c = σ c) → (firstF (fun i => !sameH (ρ 0 7) (daysC (ρ 0 7) (ρ 0 8) (ρ 0 9) (ρ 3) (ρ 4) 255 i (ρ 1, ρ 5, ρ 6)).2.2 (ρ 0 7) (ρ 6)) 60 1 = firstF (fun i => !sameH (ρ 0 7) (daysC (ρ 0 7) (ρ 0 8) (ρ 0 9) (ρ 3) (ρ 4) 255 i (ρ 1, ρ 5, ρ 6)).2.2 (ρ 0 7) (ρ 6)) (61 - i) i) → (s31 48 = mapTo (fun f => holder (ρ 0 7) (ρ 6) f) (σ 48) 12) → x31_1 = (i : Int) → J g E (pM (if firstF (fun i => !sameH (ρ 0 7) (daysC (ρ 0 7) (ρ 0 8) (ρ 0 9) (ρ 3) (ρ 4) 255 i (ρ 1, ρ 5, ρ 6)).2.2 (ρ 0 7) (ρ 6)) 60 1 = -1 then (-1000001 - ((3 : Nat) : Int)) else firstF (fun i => !sameH (ρ 0 7) (daysC (ρ 0 7) (ρ 0 8) (ρ 0 9) (ρ 3) (ρ 4) 255 i (ρ 1, ρ 5, ρ 6)).2.2 (ρ 0 7) (ρ 6)) 60 1) (ρ) (if firstF (fun i => !sameH (ρ 0 7) (daysC (ρ 0 7) (ρ 0 8) (ρ 0 9) (ρ 3) (ρ 4) 255 i (ρ 1, ρ 5, ρ 6)).2.2 (ρ 0 7) (ρ 6)) 60 1 = -1 then finM 3 σ else σ)) 2 31 [(0, .ref (gA g 41)), (1, .int (iI (x31_1)))] [] s31 := by
          intro n_
          induction n_ with
          | zero => intro i x31_1 s31 hm_; exact absurd hm_ (Nat.not_lt_zero _)
          | succ n_ ih31 =>
            intro i x31_1 s31 hm31 hi31_0 hi31_1 hi31_2 hi31_3 hi31_4 hi31_5 e31_0 
            subst e31_0 
            have ho := oth_same (n := ρ 0 7) (M := (daysC (ρ 0 7) (ρ 0 8) (ρ 0 9) (ρ 3) (ρ 4) 255 i (ρ 1, ρ 5, ρ 6)).2.2) (n2 := ρ 0 7) (M2 := ρ 6) (H := mapTo (fun f => holder (ρ 0 7) (ρ 6) f) (σ 48) 12) (fun f hf => mapTo_lt hf)
            have ho2 := oth_or (ρ 0 7) (daysC (ρ 0 7) (ρ 0 8) (ρ 0 9) (ρ 3) (ρ 4) 255 i (ρ 1, ρ 5, ρ 6)).2.2 (mapTo (fun f => holder (ρ 0 7) (ρ 6) f) (σ 48) 12) 12
            refine r_iload_n (pc := 31) C dX5_clash_31 rfl 1 rfl ?_
            refine r_bipush (pc := 32) C dX5_clash_32 (by decide) ?_
            refine r_icmp_gt (pc := 34) C 54 ⟨by omega, by omega⟩ ⟨by omega, by omega⟩ dX5_clash_34 (by decide) (fun h34 => ?_) (fun h34 => ?_)
            · skip
              skip
              have hF : firstF (fun i => !sameH (ρ 0 7) (daysC (ρ 0 7) (ρ 0 8) (ρ 0 9) (ρ 3) (ρ 4) 255 i (ρ 1, ρ 5, ρ 6)).2.2 (ρ 0 7) (ρ 6)) 60 1 = -1 := by rw [hi31_4, show 61 - i = 0 by omega, firstF]
              refine r_aload_n (pc := 54) C dX5_clash_54 rfl 0 rfl ?_
              refine r_aload_n (pc := 55) C dX5_clash_55 rfl 0 rfl ?_
              refine r_iload_n (pc := 56) C dX5_clash_56 rfl 1 rfl ?_
              refine r_cVi (pc := 57) C (c_takesBack g (i : Int) s31) yX5_takesBack_w O_41 rfl rfl t_1028 ⟨by decide, by decide⟩ (Nat.le_of_ble_eq_true rfl) rfl dX5_clash_57 ?_
              refine r_cVi (pc := 60) C (c_orNone_hi g (i : Int) (by omega) (us s31 42 (s31 45))) yX5_orNone_w O_41 rfl rfl t_1048 ⟨by decide, by decide⟩ (Nat.le_of_ble_eq_true rfl) rfl dX5_clash_60 ?_
              exact r_retM (pc := 63) C (by rw [if_pos hF]) (((wr_n _ _ _ (by omega)).trans ((us_s _ _ _).trans (hi31_2)))) (fun k hk => (finM_c 3 (fun k hk => (us_n _ _ hk.1).trans (hi31_3 k hk)) k hk).trans (congrFun (by rw [if_pos hF]) k)) dX5_clash_63
            · skip
              refine r_aload_n (pc := 37) C dX5_clash_37 rfl 0 rfl ?_
              refine r_cVi (pc := 38) C (c_isOtherwise g (dsM 255 i ρ) s31 hi31_1 ((dsM_RM (RM_of hW) i).1) ((dsM_RM (RM_of hW) i).2.2.2.2.2.2.2) (fun f hf => by rw [hi31_5, mapTo_lt hf]; have := holder_rng (ρ 0 7) (ρ 6) f hn.1; omega)) yX5_isOtherwise_w O_41 rfl rfl t_1057 ⟨by decide, by decide⟩ (Nat.le_of_ble_eq_true rfl) rfl dX5_clash_38 ?_
              refine r_top (show _ = oth (ρ 0 7) (daysC (ρ 0 7) (ρ 0 8) (ρ 0 9) (ρ 3) (ρ 4) 255 i (ρ 1, ρ 5, ρ 6)).2.2 (mapTo (fun f => holder (ρ 0 7) (ρ 6) f) (σ 48) 12) 12 by rw [hi31_5, dsM_M, (dsM_K _ _ _).2.2.1]) ?_
              refine r_if_ne (pc := 41) C 54 ⟨by omega, by omega⟩ dX5_clash_41 (by decide) (fun h41 => ?_) (fun h41 => ?_)
              · skip
                have hsm : sameH (ρ 0 7) (daysC (ρ 0 7) (ρ 0 8) (ρ 0 9) (ρ 3) (ρ 4) 255 i (ρ 1, ρ 5, ρ 6)).2.2 (ρ 0 7) (ρ 6) = false := by revert ho; split <;> intro ho <;> (first | assumption | (exfalso; omega) | (rename_i hx; simpa using hx))
                have hF : firstF (fun i => !sameH (ρ 0 7) (daysC (ρ 0 7) (ρ 0 8) (ρ 0 9) (ρ 3) (ρ 4) 255 i (ρ 1, ρ 5, ρ 6)).2.2 (ρ 0 7) (ρ 6)) 60 1 = (i : Int) := by rw [hi31_4, show 61 - i = 61 - (i + 1) + 1 by omega, firstF, if_pos (by simpa using hsm)]
                refine r_aload_n (pc := 54) C dX5_clash_54 rfl 0 rfl ?_
                refine r_aload_n (pc := 55) C dX5_clash_55 rfl 0 rfl ?_
                refine r_iload_n (pc := 56) C dX5_clash_56 rfl 1 rfl ?_
                refine r_cVi (pc := 57) C (c_takesBack g (i : Int) s31) yX5_takesBack_w O_41 rfl rfl t_1028 ⟨by decide, by decide⟩ (Nat.le_of_ble_eq_true rfl) rfl dX5_clash_57 ?_
                refine r_cVi (pc := 60) C (c_orNone_lo g (i : Int) (by omega) (us s31 42 (s31 45))) yX5_orNone_w O_41 rfl rfl t_1048 ⟨by decide, by decide⟩ (Nat.le_of_ble_eq_true rfl) rfl dX5_clash_60 ?_
                exact r_retM (pc := 63) C (by rw [if_neg (by omega), hF]) (((us_s _ _ _).trans (hi31_2))) (fun k hk => ((us_n _ _ hk.1).trans (hi31_3 k hk)).trans (congrFun (by rw [if_neg (by omega)]) k)) dX5_clash_63
              · skip
                have hsm : sameH (ρ 0 7) (daysC (ρ 0 7) (ρ 0 8) (ρ 0 9) (ρ 3) (ρ 4) 255 i (ρ 1, ρ 5, ρ 6)).2.2 (ρ 0 7) (ρ 6) = true := by revert ho; split <;> intro ho <;> (first | assumption | (exfalso; omega) | (rename_i hx; simpa using hx))
                refine r_aload_n (pc := 44) C dX5_clash_44 rfl 0 rfl ?_
                refine r_cVd (pc := 45) C (c_day g 255 ⟨by decide, by decide⟩ (dsM 255 i ρ) s31 hi31_1 (dsM_RM (RM_of hW) i) ((congrFun (hi31_3 41 (by decide)) 6).trans h6)) yX5_day_w O_41 rfl rfl t_972 ⟨by decide, by decide⟩ (Nat.le_of_ble_eq_true rfl) rfl dX5_clash_45 (fun s45 hm45_ hT45 => ?_)
                refine r_iinc (pc := 48) C dX5_clash_48 1 rfl (by decide) [1, 0] (lv' := [(0, .ref (gA g 41)), (1, .int (iI ((i : Int) + 1)))]) rfl ?_
                refine r_goto (pc := 51) C 31 dX5_clash_51 (by decide) ?_
                exact ih31 (i + 1) _ _ (by omega) (by omega) (by exact hm45_) (by exact (hT45 45 (by decide) (by decide)).trans hi31_2) (by exact fun c hc => (hT45 c hc.1 hc.2.2.2.1).trans (hi31_3 c hc)) (by rw [hi31_4, show 61 - i = 61 - (i + 1) + 1 by omega, firstF, if_neg (by simpa using hsm)]) (by exact (hT45 48 (by decide) (by decide)).trans hi31_5) (by omega)
        exact L31 _ 0 _ _ (Nat.lt_succ_self _) (by omega) (by exact (us_n _ _ (by decide)).trans ((us_n _ _ (by decide)).trans hS)) (by exact (us_s _ _ _).trans ((us_n _ _ (by decide)).trans hS)) (by exact fun c hc => (us_n _ _ hc.2.2.1).trans (us_n _ _ hc.2.2.2.2.1)) (by exact (if_neg (by show ¬ ((!sameH (ρ 0 7) ((daysC (ρ 0 7) (ρ 0 8) (ρ 0 9) (ρ 3) (ρ 4) 255 0 (ρ 1, ρ 5, ρ 6))).2.2 (ρ 0 7) (ρ 6)) = true); rw [show ((daysC (ρ 0 7) (ρ 0 8) (ρ 0 9) (ρ 3) (ρ 4) 255 0 (ρ 1, ρ 5, ρ 6))).2.2 = ρ 6 from rfl, sameH_refl]; decide)).symm) (by rw [show j = 12 by omega]; exact (us_n _ _ (by decide)).trans (us_s _ _ _)) (rfl)
      · skip
        refine r_aload_n (pc := 8) C dX5_clash_8 rfl 0 rfl ?_
        refine r_getR5 (pc := 9) C 8 (k' := 48) rfl O_41 (by decide) rfl t_788 dX5_clash_9 ?_
        refine r_iload_n (pc := 12) C dX5_clash_12 rfl 1 rfl ?_
        refine r_aload_n (pc := 13) C dX5_clash_13 rfl 0 rfl ?_
        refine r_iload_n (pc := 14) C dX5_clash_14 rfl 1 rfl ?_
        refine r_cVi (pc := 15) C (c_m_holderOf g j (by omega) ρ (us σ 48 (mapTo (fun f => holder (ρ 0 7) (ρ 6) f) (σ 48) j)) ((us_n _ _ (by omega)).trans hS) hn hM) yX5_holderOf_w O_41 rfl rfl t_864 ⟨by decide, by decide⟩ (Nat.le_of_ble_eq_true rfl) rfl dX5_clash_15 ?_
        refine r_iast (pc := 18) C j A_48 (by omega) (by omega) dX5_clash_18 ?_
        refine r_iinc (pc := 19) C dX5_clash_19 1 rfl (by decide) [1, 0] (lv' := [(0, .ref (gA g 41)), (1, .int (iI ((j : Int) + 1)))]) rfl ?_
        refine r_goto (pc := 22) C 2 dX5_clash_22 (by decide) ?_
        exact ih2 (j + 1) _ _ (by omega) (by omega) (by omega) ((wr_us _ _ _ _ _).trans (congrArg (us _ 48) (mapTo_s (fun f => holder (ρ 0 7) (ρ 6) f) _ _)))
  exact L2 _ 0 _ _ (Nat.lt_succ_self _) (by omega) (rfl) (by rw [mapTo_0, us_id])
