set_option maxHeartbeats 4000000 in
set_option maxRecDepth 100000 in
theorem d_ahead (g : Gt) (x n : Int) (h_x : rng x) (h_n : rng n) (σ : Sg) (hW : RW σ 0)  : Mt g yX4_ahead cX4_ahead 3 (some FieldType.int) 4 [.ref (gA g 40), .int (iI (x)), .int (iI (n))] σ (pT (if (0 ≤ x ∧ x < 12) ∧ 0 ≤ n ∧ n ≤ 60 then (dstN (σ 0 7) (σ 0 8) (σ 0 9) (σ 3) (σ 4) 255 n.toNat (σ 1)) x.toNat else (-1000001 - ((0 : Nat) : Int))) (if (0 ≤ x ∧ x < 12) ∧ 0 ≤ n ∧ n ≤ 60 then σ else fin 0 σ)) := by
  obtain ⟨hn, hfl, hw, hdy, hz, hD_, hK_, hA_, hG_, hM_, hP_⟩ := id hW
  have hD : rgD (σ 1) := hD_
  have hK : rgK (σ 3) := hK_
  have hA : rgA (σ 4) := hA_
  have hG : rgG (σ 5) := hG_
  have hM : rgM (σ 6) := hM_
  have hP : ∀ j, j < 10 → -1 ≤ σ 7 j ∧ σ 7 j < σ 0 7 := hP_
  have ho_x := h_x.1; have hp_x := h_x.2
  have ho_n := h_n.1; have hp_n := h_n.2
  refine mt_of (own := RX4) (by decide) rfl (Nat.le_of_ble_eq_true rfl) (fun E C => ?_)
  show J g E (pT (if (0 ≤ x ∧ x < 12) ∧ 0 ≤ n ∧ n ≤ 60 then (dstN (σ 0 7) (σ 0 8) (σ 0 9) (σ 3) (σ 4) 255 n.toNat (σ 1)) x.toNat else (-1000001 - ((0 : Nat) : Int))) (if (0 ≤ x ∧ x < 12) ∧ 0 ≤ n ∧ n ≤ 60 then σ else fin 0 σ)) 3 0 [(0, .ref (gA g 40)), (1, .int (iI (x))), (2, .int (iI (n)))] [] σ
  refine r_iload_n (pc := 0) C dX4_ahead_0 rfl 1 rfl ?_
  refine r_cSi (pc := 1) C (c_isSurface g x h_x σ) yX4_isSurface_w rfl t_245 ⟨by decide, by decide⟩ (Nat.le_of_ble_eq_true rfl) rfl dX4_ahead_1 ?_
  refine r_ifz_eq (pc := 4) C 17 dX4_ahead_4 (by decide) (fun h4 => ?_) (fun h4 => ?_)
  · skip
    refine r_aload_n (pc := 17) C dX4_ahead_17 rfl 0 rfl ?_
    refine r_iconst (pc := 18) C dX4_ahead_18 ?_
    refine r_cVi (pc := 19) C (c_finding g 0 (by decide) σ) yX4_finding_w O_40 rfl rfl t_251 ⟨by decide, by decide⟩ (Nat.le_of_ble_eq_true rfl) rfl dX4_ahead_19 ?_
    exact r_retT (pc := 22) C (by first | (exfalso; omega; done) | ((try (first | rw [if_pos (by omega)] | rw [if_neg (by omega)])); (try (first | rw [if_pos (by omega)] | rw [if_neg (by omega)])); (try (first | rw [if_pos (by omega)] | rw [if_neg (by omega)])); (try (first | rw [if_pos (by omega)] | rw [if_neg (by omega)])); (try rfl))) (fun k _ => congrFun (by first | (exfalso; omega; done) | ((try (first | rw [if_pos (by omega)] | rw [if_neg (by omega)])); (try (first | rw [if_pos (by omega)] | rw [if_neg (by omega)])); (try (first | rw [if_pos (by omega)] | rw [if_neg (by omega)])); (try (first | rw [if_pos (by omega)] | rw [if_neg (by omega)])); (try rfl))) k) dX4_ahead_22
  · skip
    refine r_iload_n (pc := 7) C dX4_ahead_7 rfl 2 rfl ?_
    refine r_iconst (pc := 8) C dX4_ahead_8 ?_
    refine r_bipush (pc := 9) C dX4_ahead_9 (by decide) ?_
    refine r_cSi (pc := 11) C (c_isWithin g n 0 60 h_n ⟨by omega, by omega⟩ ⟨by omega, by omega⟩ σ) yX4_isWithin_w rfl t_248 ⟨by decide, by decide⟩ (Nat.le_of_ble_eq_true rfl) rfl dX4_ahead_11 ?_
    refine r_ifz_ne (pc := 14) C 23 dX4_ahead_14 (by decide) (fun h14 => ?_) (fun h14 => ?_)
    · skip
      refine r_aload_n (pc := 23) C dX4_ahead_23 rfl 0 rfl ?_
      refine r_getR4 (pc := 24) C 1 (k' := 8) rfl O_40 (by decide) rfl t_217 dX4_ahead_24 ?_
      refine r_aload_n (pc := 27) C dX4_ahead_27 rfl 0 rfl ?_
      refine r_getR4 (pc := 28) C 0 (k' := 0) rfl O_40 (by decide) rfl t_216 dX4_ahead_28 ?_
      refine r_cVv (pc := 31) C (c_become_8_0 g σ) yX0_become_w O_8 rfl rfl t_421 ⟨by decide, by decide⟩ (Nat.le_of_ble_eq_true rfl) rfl dX4_ahead_31 ?_
      refine r_aload_n (pc := 34) C dX4_ahead_34 rfl 0 rfl ?_
      refine r_getR4 (pc := 35) C 1 (k' := 8) rfl O_40 (by decide) rfl t_217 dX4_ahead_35 ?_
      refine r_iload_n (pc := 38) C dX4_ahead_38 rfl 2 rfl ?_
      refine r_sipush (pc := 39) C dX4_ahead_39 (by decide) ?_
      refine r_cVv (pc := 42) C (c_settleDays_8 g n.toNat (by omega) 255 ⟨by omega, by omega⟩ (bc_8_0 σ) (bc_RW hW)) yX0_settleDays_w O_8 rfl rfl t_428 ⟨by decide, by decide⟩ (Nat.le_of_ble_eq_true rfl) (by rw [show ((n.toNat : Nat) : Int) = n by omega]; rfl) dX4_ahead_42 ?_
      refine r_aload_n (pc := 45) C dX4_ahead_45 rfl 0 rfl ?_
      refine r_getR4 (pc := 46) C 1 (k' := 8) rfl O_40 (by decide) rfl t_217 dX4_ahead_46 ?_
      refine r_getR0 (pc := 49) C 0 (k' := 9) rfl O_8 (by decide) rfl t_104 dX4_ahead_49 ?_
      refine r_iload_n (pc := 52) C dX4_ahead_52 rfl 1 rfl ?_
      refine r_iald (pc := 53) C x.toNat A_9 (by omega) (by omega) dX4_ahead_53 ?_
      exact r_retT (pc := 54) C (by rw [if_pos (by omega), stS_8_D]; rfl) (fun k hk => by rw [if_pos (by omega)]; exact (fun k hk => (tr_st _ _ hk _).trans (tr_bc _ hk)) k hk) dX4_ahead_54
    · skip
      refine r_aload_n (pc := 17) C dX4_ahead_17 rfl 0 rfl ?_
      refine r_iconst (pc := 18) C dX4_ahead_18 ?_
      refine r_cVi (pc := 19) C (c_finding g 0 (by decide) σ) yX4_finding_w O_40 rfl rfl t_251 ⟨by decide, by decide⟩ (Nat.le_of_ble_eq_true rfl) rfl dX4_ahead_19 ?_
      exact r_retT (pc := 22) C (by first | (exfalso; omega; done) | ((try (first | rw [if_pos (by omega)] | rw [if_neg (by omega)])); (try (first | rw [if_pos (by omega)] | rw [if_neg (by omega)])); (try (first | rw [if_pos (by omega)] | rw [if_neg (by omega)])); (try (first | rw [if_pos (by omega)] | rw [if_neg (by omega)])); (try rfl))) (fun k _ => congrFun (by first | (exfalso; omega; done) | ((try (first | rw [if_pos (by omega)] | rw [if_neg (by omega)])); (try (first | rw [if_pos (by omega)] | rw [if_neg (by omega)])); (try (first | rw [if_pos (by omega)] | rw [if_neg (by omega)])); (try (first | rw [if_pos (by omega)] | rw [if_neg (by omega)])); (try rfl))) k) dX4_ahead_22
set_option maxHeartbeats 4000000 in
set_option maxRecDepth 100000 in
theorem d_goods (g : Gt) (x n : Int) (h_x : rng x) (h_n : rng n) (σ : Sg) (hW : RW σ 0)  : Mt g yX4_goods cX4_goods 3 (some FieldType.int) 5 [.ref (gA g 40), .int (iI (x)), .int (iI (n))] σ (pT (if (0 ≤ x ∧ x < σ 0 7) ∧ 0 ≤ n ∧ n ≤ 60 then (daysC (σ 0 7) (σ 0 8) (σ 0 9) (σ 3) (σ 4) 255 n.toNat (σ 1, σ 5, σ 6)).2.1 x.toNat else (-1000001 - ((0 : Nat) : Int))) (if (0 ≤ x ∧ x < σ 0 7) ∧ 0 ≤ n ∧ n ≤ 60 then σ else fin 0 σ)) := by
  obtain ⟨hn, hfl, hw, hdy, hz, hD_, hK_, hA_, hG_, hM_, hP_⟩ := id hW
  have hD : rgD (σ 1) := hD_
  have hK : rgK (σ 3) := hK_
  have hA : rgA (σ 4) := hA_
  have hG : rgG (σ 5) := hG_
  have hM : rgM (σ 6) := hM_
  have hP : ∀ j, j < 10 → -1 ≤ σ 7 j ∧ σ 7 j < σ 0 7 := hP_
  have ho_x := h_x.1; have hp_x := h_x.2
  have ho_n := h_n.1; have hp_n := h_n.2
  refine mt_of (own := RX4) (by decide) rfl (Nat.le_of_ble_eq_true rfl) (fun E C => ?_)
  show J g E (pT (if (0 ≤ x ∧ x < σ 0 7) ∧ 0 ≤ n ∧ n ≤ 60 then (daysC (σ 0 7) (σ 0 8) (σ 0 9) (σ 3) (σ 4) 255 n.toNat (σ 1, σ 5, σ 6)).2.1 x.toNat else (-1000001 - ((0 : Nat) : Int))) (if (0 ≤ x ∧ x < σ 0 7) ∧ 0 ≤ n ∧ n ≤ 60 then σ else fin 0 σ)) 3 0 [(0, .ref (gA g 40)), (1, .int (iI (x))), (2, .int (iI (n)))] [] σ
  refine r_aload_n (pc := 0) C dX4_goods_0 rfl 0 rfl ?_
  refine r_iload_n (pc := 1) C dX4_goods_1 rfl 1 rfl ?_
  refine r_cVi (pc := 2) C (c_isTenant g x h_x σ (by omega)) yX4_isTenant_w O_40 rfl rfl t_292 ⟨by decide, by decide⟩ (Nat.le_of_ble_eq_true rfl) rfl dX4_goods_2 ?_
  refine r_ifz_eq (pc := 5) C 18 dX4_goods_5 (by decide) (fun h5 => ?_) (fun h5 => ?_)
  · skip
    refine r_aload_n (pc := 18) C dX4_goods_18 rfl 0 rfl ?_
    refine r_iconst (pc := 19) C dX4_goods_19 ?_
    refine r_cVi (pc := 20) C (c_finding g 0 (by decide) σ) yX4_finding_w O_40 rfl rfl t_251 ⟨by decide, by decide⟩ (Nat.le_of_ble_eq_true rfl) rfl dX4_goods_20 ?_
    exact r_retT (pc := 23) C (by first | (exfalso; omega; done) | ((try (first | rw [if_pos (by omega)] | rw [if_neg (by omega)])); (try (first | rw [if_pos (by omega)] | rw [if_neg (by omega)])); (try (first | rw [if_pos (by omega)] | rw [if_neg (by omega)])); (try (first | rw [if_pos (by omega)] | rw [if_neg (by omega)])); (try rfl))) (fun k _ => congrFun (by first | (exfalso; omega; done) | ((try (first | rw [if_pos (by omega)] | rw [if_neg (by omega)])); (try (first | rw [if_pos (by omega)] | rw [if_neg (by omega)])); (try (first | rw [if_pos (by omega)] | rw [if_neg (by omega)])); (try (first | rw [if_pos (by omega)] | rw [if_neg (by omega)])); (try rfl))) k) dX4_goods_23
  · skip
    refine r_iload_n (pc := 8) C dX4_goods_8 rfl 2 rfl ?_
    refine r_iconst (pc := 9) C dX4_goods_9 ?_
    refine r_bipush (pc := 10) C dX4_goods_10 (by decide) ?_
    refine r_cSi (pc := 12) C (c_isWithin g n 0 60 h_n ⟨by omega, by omega⟩ ⟨by omega, by omega⟩ σ) yX4_isWithin_w rfl t_248 ⟨by decide, by decide⟩ (Nat.le_of_ble_eq_true rfl) rfl dX4_goods_12 ?_
    refine r_ifz_ne (pc := 15) C 24 dX4_goods_15 (by decide) (fun h15 => ?_) (fun h15 => ?_)
    · skip
      refine r_aload_n (pc := 24) C dX4_goods_24 rfl 0 rfl ?_
      refine r_getR4 (pc := 25) C 1 (k' := 8) rfl O_40 (by decide) rfl t_217 dX4_goods_25 ?_
      refine r_aload_n (pc := 28) C dX4_goods_28 rfl 0 rfl ?_
      refine r_getR4 (pc := 29) C 0 (k' := 0) rfl O_40 (by decide) rfl t_216 dX4_goods_29 ?_
      refine r_cVv (pc := 32) C (c_become_8_0 g σ) yX0_become_w O_8 rfl rfl t_421 ⟨by decide, by decide⟩ (Nat.le_of_ble_eq_true rfl) rfl dX4_goods_32 ?_
      refine r_aload_n (pc := 35) C dX4_goods_35 rfl 0 rfl ?_
      refine r_getR4 (pc := 36) C 1 (k' := 8) rfl O_40 (by decide) rfl t_217 dX4_goods_36 ?_
      refine r_iload_n (pc := 39) C dX4_goods_39 rfl 2 rfl ?_
      refine r_cVv (pc := 40) C (c_passDays_8 g n.toNat (by omega) (bc_8_0 σ) (bc_RW hW)) yX0_passDays_w O_8 rfl rfl t_354 ⟨by decide, by decide⟩ (Nat.le_of_ble_eq_true rfl) (by rw [show ((n.toNat : Nat) : Int) = n by omega]; rfl) dX4_goods_40 ?_
      refine r_aload_n (pc := 43) C dX4_goods_43 rfl 0 rfl ?_
      refine r_getR4 (pc := 44) C 1 (k' := 8) rfl O_40 (by decide) rfl t_217 dX4_goods_44 ?_
      refine r_getR0 (pc := 47) C 4 (k' := 13) rfl O_8 (by decide) rfl t_112 dX4_goods_47 ?_
      refine r_iload_n (pc := 50) C dX4_goods_50 rfl 1 rfl ?_
      refine r_iald (pc := 51) C x.toNat A_13 (by omega) (by omega) dX4_goods_51 ?_
      exact r_retT (pc := 52) C (by rw [if_pos (by omega), dsS_8_G]; rfl) (fun k hk => by rw [if_pos (by omega)]; exact (fun k hk => (tr_ds _ hk _).trans (tr_bc _ hk)) k hk) dX4_goods_52
    · skip
      refine r_aload_n (pc := 18) C dX4_goods_18 rfl 0 rfl ?_
      refine r_iconst (pc := 19) C dX4_goods_19 ?_
      refine r_cVi (pc := 20) C (c_finding g 0 (by decide) σ) yX4_finding_w O_40 rfl rfl t_251 ⟨by decide, by decide⟩ (Nat.le_of_ble_eq_true rfl) rfl dX4_goods_20 ?_
      exact r_retT (pc := 23) C (by first | (exfalso; omega; done) | ((try (first | rw [if_pos (by omega)] | rw [if_neg (by omega)])); (try (first | rw [if_pos (by omega)] | rw [if_neg (by omega)])); (try (first | rw [if_pos (by omega)] | rw [if_neg (by omega)])); (try (first | rw [if_pos (by omega)] | rw [if_neg (by omega)])); (try rfl))) (fun k _ => congrFun (by first | (exfalso; omega; done) | ((try (first | rw [if_pos (by omega)] | rw [if_neg (by omega)])); (try (first | rw [if_pos (by omega)] | rw [if_neg (by omega)])); (try (first | rw [if_pos (by omega)] | rw [if_neg (by omega)])); (try (first | rw [if_pos (by omega)] | rw [if_neg (by omega)])); (try rfl))) k) dX4_goods_23
set_option maxHeartbeats 4000000 in
set_option maxRecDepth 100000 in
theorem d_holder (g : Gt) (x n : Int) (h_x : rng x) (h_n : rng n) (σ : Sg) (hW : RW σ 0)  : Mt g yX4_holder cX4_holder 3 (some FieldType.int) 5 [.ref (gA g 40), .int (iI (x)), .int (iI (n))] σ (pT (if (0 ≤ x ∧ x < 12) ∧ 0 ≤ n ∧ n ≤ 60 then holder (σ 0 7) (daysC (σ 0 7) (σ 0 8) (σ 0 9) (σ 3) (σ 4) 255 n.toNat (σ 1, σ 5, σ 6)).2.2 x.toNat else (-1000001 - ((0 : Nat) : Int))) (if (0 ≤ x ∧ x < 12) ∧ 0 ≤ n ∧ n ≤ 60 then σ else fin 0 σ)) := by
  obtain ⟨hn, hfl, hw, hdy, hz, hD_, hK_, hA_, hG_, hM_, hP_⟩ := id hW
  have hD : rgD (σ 1) := hD_
  have hK : rgK (σ 3) := hK_
  have hA : rgA (σ 4) := hA_
  have hG : rgG (σ 5) := hG_
  have hM : rgM (σ 6) := hM_
  have hP : ∀ j, j < 10 → -1 ≤ σ 7 j ∧ σ 7 j < σ 0 7 := hP_
  have ho_x := h_x.1; have hp_x := h_x.2
  have ho_n := h_n.1; have hp_n := h_n.2
  refine mt_of (own := RX4) (by decide) rfl (Nat.le_of_ble_eq_true rfl) (fun E C => ?_)
  show J g E (pT (if (0 ≤ x ∧ x < 12) ∧ 0 ≤ n ∧ n ≤ 60 then holder (σ 0 7) (daysC (σ 0 7) (σ 0 8) (σ 0 9) (σ 3) (σ 4) 255 n.toNat (σ 1, σ 5, σ 6)).2.2 x.toNat else (-1000001 - ((0 : Nat) : Int))) (if (0 ≤ x ∧ x < 12) ∧ 0 ≤ n ∧ n ≤ 60 then σ else fin 0 σ)) 3 0 [(0, .ref (gA g 40)), (1, .int (iI (x))), (2, .int (iI (n)))] [] σ
  refine r_iload_n (pc := 0) C dX4_holder_0 rfl 1 rfl ?_
  refine r_cSi (pc := 1) C (c_isSurface g x h_x σ) yX4_isSurface_w rfl t_245 ⟨by decide, by decide⟩ (Nat.le_of_ble_eq_true rfl) rfl dX4_holder_1 ?_
  refine r_ifz_eq (pc := 4) C 17 dX4_holder_4 (by decide) (fun h4 => ?_) (fun h4 => ?_)
  · skip
    refine r_aload_n (pc := 17) C dX4_holder_17 rfl 0 rfl ?_
    refine r_iconst (pc := 18) C dX4_holder_18 ?_
    refine r_cVi (pc := 19) C (c_finding g 0 (by decide) σ) yX4_finding_w O_40 rfl rfl t_251 ⟨by decide, by decide⟩ (Nat.le_of_ble_eq_true rfl) rfl dX4_holder_19 ?_
    exact r_retT (pc := 22) C (by first | (exfalso; omega; done) | ((try (first | rw [if_pos (by omega)] | rw [if_neg (by omega)])); (try (first | rw [if_pos (by omega)] | rw [if_neg (by omega)])); (try (first | rw [if_pos (by omega)] | rw [if_neg (by omega)])); (try (first | rw [if_pos (by omega)] | rw [if_neg (by omega)])); (try rfl))) (fun k _ => congrFun (by first | (exfalso; omega; done) | ((try (first | rw [if_pos (by omega)] | rw [if_neg (by omega)])); (try (first | rw [if_pos (by omega)] | rw [if_neg (by omega)])); (try (first | rw [if_pos (by omega)] | rw [if_neg (by omega)])); (try (first | rw [if_pos (by omega)] | rw [if_neg (by omega)])); (try rfl))) k) dX4_holder_22
  · skip
    refine r_iload_n (pc := 7) C dX4_holder_7 rfl 2 rfl ?_
    refine r_iconst (pc := 8) C dX4_holder_8 ?_
    refine r_bipush (pc := 9) C dX4_holder_9 (by decide) ?_
    refine r_cSi (pc := 11) C (c_isWithin g n 0 60 h_n ⟨by omega, by omega⟩ ⟨by omega, by omega⟩ σ) yX4_isWithin_w rfl t_248 ⟨by decide, by decide⟩ (Nat.le_of_ble_eq_true rfl) rfl dX4_holder_11 ?_
    refine r_ifz_ne (pc := 14) C 23 dX4_holder_14 (by decide) (fun h14 => ?_) (fun h14 => ?_)
    · skip
      refine r_aload_n (pc := 23) C dX4_holder_23 rfl 0 rfl ?_
      refine r_getR4 (pc := 24) C 1 (k' := 8) rfl O_40 (by decide) rfl t_217 dX4_holder_24 ?_
      refine r_aload_n (pc := 27) C dX4_holder_27 rfl 0 rfl ?_
      refine r_getR4 (pc := 28) C 0 (k' := 0) rfl O_40 (by decide) rfl t_216 dX4_holder_28 ?_
      refine r_cVv (pc := 31) C (c_become_8_0 g σ) yX0_become_w O_8 rfl rfl t_421 ⟨by decide, by decide⟩ (Nat.le_of_ble_eq_true rfl) rfl dX4_holder_31 ?_
      refine r_aload_n (pc := 34) C dX4_holder_34 rfl 0 rfl ?_
      refine r_getR4 (pc := 35) C 1 (k' := 8) rfl O_40 (by decide) rfl t_217 dX4_holder_35 ?_
      refine r_iload_n (pc := 38) C dX4_holder_38 rfl 2 rfl ?_
      refine r_cVv (pc := 39) C (c_passDays_8 g n.toNat (by omega) (bc_8_0 σ) (bc_RW hW)) yX0_passDays_w O_8 rfl rfl t_354 ⟨by decide, by decide⟩ (Nat.le_of_ble_eq_true rfl) (by rw [show ((n.toNat : Nat) : Int) = n by omega]; rfl) dX4_holder_39 ?_
      have hWd := dsS_RW_8 (bc_RW hW) n.toNat
      refine r_aload_n (pc := 42) C dX4_holder_42 rfl 0 rfl ?_
      refine r_getR4 (pc := 43) C 1 (k' := 8) rfl O_40 (by decide) rfl t_217 dX4_holder_43 ?_
      refine r_iload_n (pc := 46) C dX4_holder_46 rfl 1 rfl ?_
      refine r_cVi (pc := 47) C (c_holderOf_8 g x.toNat (by omega) (dsS_8 n.toNat (bc_8_0 σ)) hWd.1 hWd.2.2.2.2.2.2.2.2.2.1) yX0_holderOf_w O_8 rfl rfl t_260 ⟨by decide, by decide⟩ (Nat.le_of_ble_eq_true rfl) (by rw [show ((x.toNat : Nat) : Int) = x by omega]; rfl) dX4_holder_47 ?_
      exact r_retT (pc := 50) C (by rw [if_pos (by omega), dsS_8_M, (dsS_8_K _ _).2.2.1]; rfl) (fun k hk => by rw [if_pos (by omega)]; exact (fun k hk => (tr_ds _ hk _).trans (tr_bc _ hk)) k hk) dX4_holder_50
    · skip
      refine r_aload_n (pc := 17) C dX4_holder_17 rfl 0 rfl ?_
      refine r_iconst (pc := 18) C dX4_holder_18 ?_
      refine r_cVi (pc := 19) C (c_finding g 0 (by decide) σ) yX4_finding_w O_40 rfl rfl t_251 ⟨by decide, by decide⟩ (Nat.le_of_ble_eq_true rfl) rfl dX4_holder_19 ?_
      exact r_retT (pc := 22) C (by first | (exfalso; omega; done) | ((try (first | rw [if_pos (by omega)] | rw [if_neg (by omega)])); (try (first | rw [if_pos (by omega)] | rw [if_neg (by omega)])); (try (first | rw [if_pos (by omega)] | rw [if_neg (by omega)])); (try (first | rw [if_pos (by omega)] | rw [if_neg (by omega)])); (try rfl))) (fun k _ => congrFun (by first | (exfalso; omega; done) | ((try (first | rw [if_pos (by omega)] | rw [if_neg (by omega)])); (try (first | rw [if_pos (by omega)] | rw [if_neg (by omega)])); (try (first | rw [if_pos (by omega)] | rw [if_neg (by omega)])); (try (first | rw [if_pos (by omega)] | rw [if_neg (by omega)])); (try rfl))) k) dX4_holder_22
set_option maxHeartbeats 4000000 in
set_option maxRecDepth 100000 in
theorem d_when (g : Gt) (x f : Int) (h_x : rng x) (h_f : rng f) (σ : Sg) (hW : RW σ 0)  : Mt g yX4_when cX4_when 4 (some FieldType.int) 5 [.ref (gA g 40), .int (iI (x)), .int (iI (f))] σ (pT (if (0 ≤ x ∧ x < σ 0 7) ∧ 0 ≤ f ∧ f < 12 then (if firstF (fun i => decide (holder (σ 0 7) (daysC (σ 0 7) (σ 0 8) (σ 0 9) (σ 3) (σ 4) 255 i (σ 1, σ 5, σ 6)).2.2 f.toNat = x)) 61 0 = -1 then (-1000001 - ((3 : Nat) : Int)) else firstF (fun i => decide (holder (σ 0 7) (daysC (σ 0 7) (σ 0 8) (σ 0 9) (σ 3) (σ 4) 255 i (σ 1, σ 5, σ 6)).2.2 f.toNat = x)) 61 0) else (-1000001 - ((0 : Nat) : Int))) (if (0 ≤ x ∧ x < σ 0 7) ∧ 0 ≤ f ∧ f < 12 then (if firstF (fun i => decide (holder (σ 0 7) (daysC (σ 0 7) (σ 0 8) (σ 0 9) (σ 3) (σ 4) 255 i (σ 1, σ 5, σ 6)).2.2 f.toNat = x)) 61 0 = -1 then fin 3 σ else σ) else fin 0 σ)) := by
  obtain ⟨hn, hfl, hw, hdy, hz, hD_, hK_, hA_, hG_, hM_, hP_⟩ := id hW
  have hD : rgD (σ 1) := hD_
  have hK : rgK (σ 3) := hK_
  have hA : rgA (σ 4) := hA_
  have hG : rgG (σ 5) := hG_
  have hM : rgM (σ 6) := hM_
  have hP : ∀ j, j < 10 → -1 ≤ σ 7 j ∧ σ 7 j < σ 0 7 := hP_
  have ho_x := h_x.1; have hp_x := h_x.2
  have ho_f := h_f.1; have hp_f := h_f.2
  refine mt_of (own := RX4) (by decide) rfl (Nat.le_of_ble_eq_true rfl) (fun E C => ?_)
  show J g E (pT (if (0 ≤ x ∧ x < σ 0 7) ∧ 0 ≤ f ∧ f < 12 then (if firstF (fun i => decide (holder (σ 0 7) (daysC (σ 0 7) (σ 0 8) (σ 0 9) (σ 3) (σ 4) 255 i (σ 1, σ 5, σ 6)).2.2 f.toNat = x)) 61 0 = -1 then (-1000001 - ((3 : Nat) : Int)) else firstF (fun i => decide (holder (σ 0 7) (daysC (σ 0 7) (σ 0 8) (σ 0 9) (σ 3) (σ 4) 255 i (σ 1, σ 5, σ 6)).2.2 f.toNat = x)) 61 0) else (-1000001 - ((0 : Nat) : Int))) (if (0 ≤ x ∧ x < σ 0 7) ∧ 0 ≤ f ∧ f < 12 then (if firstF (fun i => decide (holder (σ 0 7) (daysC (σ 0 7) (σ 0 8) (σ 0 9) (σ 3) (σ 4) 255 i (σ 1, σ 5, σ 6)).2.2 f.toNat = x)) 61 0 = -1 then fin 3 σ else σ) else fin 0 σ)) 4 0 [(0, .ref (gA g 40)), (1, .int (iI (x))), (2, .int (iI (f)))] [] σ
  refine r_aload_n (pc := 0) C dX4_when_0 rfl 0 rfl ?_
  refine r_iload_n (pc := 1) C dX4_when_1 rfl 1 rfl ?_
  refine r_cVi (pc := 2) C (c_isTenant g x h_x σ (by omega)) yX4_isTenant_w O_40 rfl rfl t_292 ⟨by decide, by decide⟩ (Nat.le_of_ble_eq_true rfl) rfl dX4_when_2 ?_
  refine r_ifz_eq (pc := 5) C 15 dX4_when_5 (by decide) (fun h5 => ?_) (fun h5 => ?_)
  · skip
    refine r_aload_n (pc := 15) C dX4_when_15 rfl 0 rfl ?_
    refine r_iconst (pc := 16) C dX4_when_16 ?_
    refine r_cVi (pc := 17) C (c_finding g 0 (by decide) σ) yX4_finding_w O_40 rfl rfl t_251 ⟨by decide, by decide⟩ (Nat.le_of_ble_eq_true rfl) rfl dX4_when_17 ?_
    exact r_retT (pc := 20) C (by first | (exfalso; omega; done) | ((try (first | rw [if_pos (by omega)] | rw [if_neg (by omega)])); (try (first | rw [if_pos (by omega)] | rw [if_neg (by omega)])); (try (first | rw [if_pos (by omega)] | rw [if_neg (by omega)])); (try (first | rw [if_pos (by omega)] | rw [if_neg (by omega)])); (try rfl))) (fun k _ => congrFun (by first | (exfalso; omega; done) | ((try (first | rw [if_pos (by omega)] | rw [if_neg (by omega)])); (try (first | rw [if_pos (by omega)] | rw [if_neg (by omega)])); (try (first | rw [if_pos (by omega)] | rw [if_neg (by omega)])); (try (first | rw [if_pos (by omega)] | rw [if_neg (by omega)])); (try rfl))) k) dX4_when_20
  · skip
    refine r_iload_n (pc := 8) C dX4_when_8 rfl 2 rfl ?_
    refine r_cSi (pc := 9) C (c_isSurface g f h_f σ) yX4_isSurface_w rfl t_245 ⟨by decide, by decide⟩ (Nat.le_of_ble_eq_true rfl) rfl dX4_when_9 ?_
    refine r_ifz_ne (pc := 12) C 21 dX4_when_12 (by decide) (fun h12 => ?_) (fun h12 => ?_)
    · skip
      refine r_aload_n (pc := 21) C dX4_when_21 rfl 0 rfl ?_
      refine r_getR4 (pc := 22) C 1 (k' := 8) rfl O_40 (by decide) rfl t_217 dX4_when_22 ?_
      refine r_aload_n (pc := 25) C dX4_when_25 rfl 0 rfl ?_
      refine r_getR4 (pc := 26) C 0 (k' := 0) rfl O_40 (by decide) rfl t_216 dX4_when_26 ?_
      refine r_cVv (pc := 29) C (c_become_8_0 g σ) yX0_become_w O_8 rfl rfl t_421 ⟨by decide, by decide⟩ (Nat.le_of_ble_eq_true rfl) rfl dX4_when_29 ?_
      refine r_iconst (pc := 32) C dX4_when_32 ?_
      refine r_istore_n (pc := 33) C dX4_when_33 rfl (by decide) [1, 2, 3, 0] (lv' := [(0, .ref (gA g 40)), (1, .int (iI (x))), (2, .int (iI (f))), (3, .int (iI (0)))]) rfl ?_
      have L34 : ∀ (n_ : Nat) (i : Nat) (x34_3 : Int) (s34 : Sg), 61 - i < n_ → (i ≤ 61) → (firstF (fun i => decide (holder (σ 0 7) (daysC (σ 0 7) (σ 0 8) (σ 0 9) (σ 3) (σ 4) 255 i (σ 1, σ 5, σ 6)).2.2 f.toNat = x)) 61 0 = firstF (fun i => decide (holder (σ 0 7) (daysC (σ 0 7) (σ 0 8) (σ 0 9) (σ 3) (σ 4) 255 i (σ 1, σ 5, σ 6)).2.2 f.toNat = x)) (61 - i) i) → x34_3 = (i : Int) → s34 = dsS_8 i (bc_8_0 σ) → J g E (pT (if (0 ≤ x ∧ x < σ 0 7) ∧ 0 ≤ f ∧ f < 12 then (if firstF (fun i => decide (holder (σ 0 7) (daysC (σ 0 7) (σ 0 8) (σ 0 9) (σ 3) (σ 4) 255 i (σ 1, σ 5, σ 6)).2.2 f.toNat = x)) 61 0 = -1 then (-1000001 - ((3 : Nat) : Int)) else firstF (fun i => decide (holder (σ 0 7) (daysC (σ 0 7) (σ 0 8) (σ 0 9) (σ 3) (σ 4) 255 i (σ 1, σ 5, σ 6)).2.2 f.toNat = x)) 61 0) else (-1000001 - ((0 : Nat) : Int))) (if (0 ≤ x ∧ x < σ 0 7) ∧ 0 ≤ f ∧ f < 12 then (if firstF (fun i => decide (holder (σ 0 7) (daysC (σ 0 7) (σ 0 8) (σ 0 9) (σ 3) (σ 4) 255 i (σ 1, σ 5, σ 6)).2.2 f.toNat = x)) 61 0 = -1 then fin 3 σ else σ) else fin 0 σ)) 4 34 [(0, .ref (gA g 40)), (1, .int (iI (x))), (2, .int (iI (f))), (3, .int (iI (x34_3)))] [] s34 := by
        intro n_
        induction n_ with
        | zero => intro i x34_3 s34 hm_; exact absurd hm_ (Nat.not_lt_zero _)
        | succ n_ ih34 =>
          intro i x34_3 s34 hm34 hi34_0 hi34_1 e34_0 es34
          subst e34_0 es34
          have hWd := dsS_RW_8 (bc_RW hW) i
          have hh := holder_rng (σ 0 7) (daysC (σ 0 7) (σ 0 8) (σ 0 9) (σ 3) (σ 4) 255 i (σ 1, σ 5, σ 6)).2.2 f.toNat hn.1
          refine r_iload_n (pc := 34) C dX4_when_34 rfl 3 rfl ?_
          refine r_bipush (pc := 35) C dX4_when_35 (by decide) ?_
          refine r_icmp_gt (pc := 37) C 67 ⟨by omega, by omega⟩ ⟨by omega, by omega⟩ dX4_when_37 (by decide) (fun h37 => ?_) (fun h37 => ?_)
          · skip
            have hF : firstF (fun i => decide (holder (σ 0 7) (daysC (σ 0 7) (σ 0 8) (σ 0 9) (σ 3) (σ 4) 255 i (σ 1, σ 5, σ 6)).2.2 f.toNat = x)) 61 0 = -1 := by rw [hi34_1, show 61 - i = 0 by omega, firstF]
            refine r_aload_n (pc := 67) C dX4_when_67 rfl 0 rfl ?_
            refine r_iconst (pc := 68) C dX4_when_68 ?_
            refine r_cVi (pc := 69) C (c_finding g 3 (by decide) (dsS_8 i (bc_8_0 σ))) yX4_finding_w O_40 rfl rfl t_251 ⟨by decide, by decide⟩ (Nat.le_of_ble_eq_true rfl) rfl dX4_when_69 ?_
            exact r_retT (pc := 72) C (by rw [if_pos (by omega), if_pos hF]) (fun k hk => by rw [if_pos (by omega), if_pos hF]; exact tr_fin 3 (fun k hk => (tr_ds _ hk _).trans (tr_bc _ hk)) k hk) dX4_when_72
          · skip
            refine r_aload_n (pc := 40) C dX4_when_40 rfl 0 rfl ?_
            refine r_getR4 (pc := 41) C 1 (k' := 8) rfl O_40 (by decide) rfl t_217 dX4_when_41 ?_
            refine r_iload_n (pc := 44) C dX4_when_44 rfl 2 rfl ?_
            refine r_cVi (pc := 45) C (c_holderOf_8 g f.toNat (by omega) (dsS_8 i (bc_8_0 σ)) hWd.1 hWd.2.2.2.2.2.2.2.2.2.1) yX0_holderOf_w O_8 rfl rfl t_260 ⟨by decide, by decide⟩ (Nat.le_of_ble_eq_true rfl) (by rw [show ((f.toNat : Nat) : Int) = f by omega]; rfl) dX4_when_45 ?_
            refine r_top (show _ = holder (σ 0 7) (daysC (σ 0 7) (σ 0 8) (σ 0 9) (σ 3) (σ 4) 255 i (σ 1, σ 5, σ 6)).2.2 f.toNat by rw [dsS_8_M, (dsS_8_K _ _).2.2.1]; rfl) ?_
            skip
            refine r_iload_n (pc := 48) C dX4_when_48 rfl 1 rfl ?_
            refine r_icmp_ne (pc := 49) C 54 ⟨by omega, by omega⟩ h_x dX4_when_49 (by decide) (fun h49 => ?_) (fun h49 => ?_)
            · skip
              refine r_aload_n (pc := 54) C dX4_when_54 rfl 0 rfl ?_
              refine r_getR4 (pc := 55) C 1 (k' := 8) rfl O_40 (by decide) rfl t_217 dX4_when_55 ?_
              refine r_cVv (pc := 58) C (c_passDay_8 g (dsS_8 i (bc_8_0 σ)) hWd) yX0_passDay_w O_8 rfl rfl t_444 ⟨by decide, by decide⟩ (Nat.le_of_ble_eq_true rfl) rfl dX4_when_58 ?_
              refine r_iinc (pc := 61) C dX4_when_61 3 rfl (by decide) [1, 2, 3, 0] (lv' := [(0, .ref (gA g 40)), (1, .int (iI (x))), (2, .int (iI (f))), (3, .int (iI ((i : Int) + 1)))]) rfl ?_
              refine r_goto (pc := 64) C 34 dX4_when_64 (by decide) ?_
              exact ih34 (i + 1) _ _ (by omega) (by omega) (by rw [hi34_1, show 61 - i = 61 - (i + 1) + 1 by omega, firstF, if_neg (by simpa using h49)]) (by omega) (rfl)
            · skip
              have hF : firstF (fun i => decide (holder (σ 0 7) (daysC (σ 0 7) (σ 0 8) (σ 0 9) (σ 3) (σ 4) 255 i (σ 1, σ 5, σ 6)).2.2 f.toNat = x)) 61 0 = (i : Int) := by rw [hi34_1, show 61 - i = 61 - (i + 1) + 1 by omega, firstF, if_pos (by simpa using h49)]
              refine r_iload_n (pc := 52) C dX4_when_52 rfl 3 rfl ?_
              exact r_retT (pc := 53) C (by rw [if_pos (by omega), if_neg (by omega), hF]) (fun k hk => by rw [if_pos (by omega), if_neg (by omega)]; exact (fun k hk => (tr_ds _ hk _).trans (tr_bc _ hk)) k hk) dX4_when_53
      exact L34 _ 0 _ _ (Nat.lt_succ_self _) (by omega) (by rfl) (rfl) (rfl)
    · skip
      refine r_aload_n (pc := 15) C dX4_when_15 rfl 0 rfl ?_
      refine r_iconst (pc := 16) C dX4_when_16 ?_
      refine r_cVi (pc := 17) C (c_finding g 0 (by decide) σ) yX4_finding_w O_40 rfl rfl t_251 ⟨by decide, by decide⟩ (Nat.le_of_ble_eq_true rfl) rfl dX4_when_17 ?_
      exact r_retT (pc := 20) C (by first | (exfalso; omega; done) | ((try (first | rw [if_pos (by omega)] | rw [if_neg (by omega)])); (try (first | rw [if_pos (by omega)] | rw [if_neg (by omega)])); (try (first | rw [if_pos (by omega)] | rw [if_neg (by omega)])); (try (first | rw [if_pos (by omega)] | rw [if_neg (by omega)])); (try rfl))) (fun k _ => congrFun (by first | (exfalso; omega; done) | ((try (first | rw [if_pos (by omega)] | rw [if_neg (by omega)])); (try (first | rw [if_pos (by omega)] | rw [if_neg (by omega)])); (try (first | rw [if_pos (by omega)] | rw [if_neg (by omega)])); (try (first | rw [if_pos (by omega)] | rw [if_neg (by omega)])); (try rfl))) k) dX4_when_20
set_option maxHeartbeats 4000000 in
set_option maxRecDepth 100000 in
theorem d_clash (g : Gt) (σ : Sg) (hW : RW σ 0)  : Mt g yX4_clash cX4_clash 2 (some FieldType.int) 5 [.ref (gA g 40)] σ (pT (if firstF (fun i => !sameH (σ 0 7) (daysC (σ 0 7) (σ 0 8) (σ 0 9) (σ 3) (σ 4) 255 i (σ 1, σ 5, σ 6)).2.2 (σ 0 7) (σ 6)) 60 1 = -1 then (-1000001 - ((3 : Nat) : Int)) else firstF (fun i => !sameH (σ 0 7) (daysC (σ 0 7) (σ 0 8) (σ 0 9) (σ 3) (σ 4) 255 i (σ 1, σ 5, σ 6)).2.2 (σ 0 7) (σ 6)) 60 1) (if firstF (fun i => !sameH (σ 0 7) (daysC (σ 0 7) (σ 0 8) (σ 0 9) (σ 3) (σ 4) 255 i (σ 1, σ 5, σ 6)).2.2 (σ 0 7) (σ 6)) 60 1 = -1 then fin 3 σ else σ)) := by
  obtain ⟨hn, hfl, hw, hdy, hz, hD_, hK_, hA_, hG_, hM_, hP_⟩ := id hW
  have hD : rgD (σ 1) := hD_
  have hK : rgK (σ 3) := hK_
  have hA : rgA (σ 4) := hA_
  have hG : rgG (σ 5) := hG_
  have hM : rgM (σ 6) := hM_
  have hP : ∀ j, j < 10 → -1 ≤ σ 7 j ∧ σ 7 j < σ 0 7 := hP_
  refine mt_of (own := RX4) (by decide) rfl (Nat.le_of_ble_eq_true rfl) (fun E C => ?_)
  show J g E (pT (if firstF (fun i => !sameH (σ 0 7) (daysC (σ 0 7) (σ 0 8) (σ 0 9) (σ 3) (σ 4) 255 i (σ 1, σ 5, σ 6)).2.2 (σ 0 7) (σ 6)) 60 1 = -1 then (-1000001 - ((3 : Nat) : Int)) else firstF (fun i => !sameH (σ 0 7) (daysC (σ 0 7) (σ 0 8) (σ 0 9) (σ 3) (σ 4) 255 i (σ 1, σ 5, σ 6)).2.2 (σ 0 7) (σ 6)) 60 1) (if firstF (fun i => !sameH (σ 0 7) (daysC (σ 0 7) (σ 0 8) (σ 0 9) (σ 3) (σ 4) 255 i (σ 1, σ 5, σ 6)).2.2 (σ 0 7) (σ 6)) 60 1 = -1 then fin 3 σ else σ)) 2 0 [(0, .ref (gA g 40))] [] σ
  refine r_aload_n (pc := 0) C dX4_clash_0 rfl 0 rfl ?_
  refine r_getR4 (pc := 1) C 1 (k' := 8) rfl O_40 (by decide) rfl t_217 dX4_clash_1 ?_
  refine r_aload_n (pc := 4) C dX4_clash_4 rfl 0 rfl ?_
  refine r_getR4 (pc := 5) C 0 (k' := 0) rfl O_40 (by decide) rfl t_216 dX4_clash_5 ?_
  refine r_cVv (pc := 8) C (c_become_8_0 g σ) yX0_become_w O_8 rfl rfl t_421 ⟨by decide, by decide⟩ (Nat.le_of_ble_eq_true rfl) rfl dX4_clash_8 ?_
  refine r_iconst (pc := 11) C dX4_clash_11 ?_
  refine r_istore_n (pc := 12) C dX4_clash_12 rfl (by decide) [1, 0] (lv' := [(0, .ref (gA g 40)), (1, .int (iI (1)))]) rfl ?_
  have L13 : ∀ (n_ : Nat) (i : Nat) (x13_1 : Int) (s13 : Sg), 60 - i < n_ → (i ≤ 60) → (firstF (fun i => !sameH (σ 0 7) (daysC (σ 0 7) (σ 0 8) (σ 0 9) (σ 3) (σ 4) 255 i (σ 1, σ 5, σ 6)).2.2 (σ 0 7) (σ 6)) 60 1 = firstF (fun i => !sameH (σ 0 7) (daysC (σ 0 7) (σ 0 8) (σ 0 9) (σ 3) (σ 4) 255 i (σ 1, σ 5, σ 6)).2.2 (σ 0 7) (σ 6)) (60 - i) (i + 1)) → x13_1 = (i : Int) + 1 → s13 = dsS_8 i (bc_8_0 σ) → J g E (pT (if firstF (fun i => !sameH (σ 0 7) (daysC (σ 0 7) (σ 0 8) (σ 0 9) (σ 3) (σ 4) 255 i (σ 1, σ 5, σ 6)).2.2 (σ 0 7) (σ 6)) 60 1 = -1 then (-1000001 - ((3 : Nat) : Int)) else firstF (fun i => !sameH (σ 0 7) (daysC (σ 0 7) (σ 0 8) (σ 0 9) (σ 3) (σ 4) 255 i (σ 1, σ 5, σ 6)).2.2 (σ 0 7) (σ 6)) 60 1) (if firstF (fun i => !sameH (σ 0 7) (daysC (σ 0 7) (σ 0 8) (σ 0 9) (σ 3) (σ 4) 255 i (σ 1, σ 5, σ 6)).2.2 (σ 0 7) (σ 6)) 60 1 = -1 then fin 3 σ else σ)) 2 13 [(0, .ref (gA g 40)), (1, .int (iI (x13_1)))] [] s13 := by
    intro n_
    induction n_ with
    | zero => intro i x13_1 s13 hm_; exact absurd hm_ (Nat.not_lt_zero _)
    | succ n_ ih13 =>
      intro i x13_1 s13 hm13 hi13_0 hi13_1 e13_0 es13
      subst e13_0 es13
      have hWd := dsS_RW_8 (bc_RW hW) i
      have hWe := dsS_RW_8 (bc_RW hW) (i + 1)
      refine r_iload_n (pc := 13) C dX4_clash_13 rfl 1 rfl ?_
      refine r_bipush (pc := 14) C dX4_clash_14 (by decide) ?_
      refine r_icmp_gt (pc := 16) C 48 ⟨by omega, by omega⟩ ⟨by omega, by omega⟩ dX4_clash_16 (by decide) (fun h16 => ?_) (fun h16 => ?_)
      · skip
        have hF : firstF (fun i => !sameH (σ 0 7) (daysC (σ 0 7) (σ 0 8) (σ 0 9) (σ 3) (σ 4) 255 i (σ 1, σ 5, σ 6)).2.2 (σ 0 7) (σ 6)) 60 1 = -1 := by rw [hi13_1, show 60 - i = 0 by omega, firstF]
        refine r_aload_n (pc := 48) C dX4_clash_48 rfl 0 rfl ?_
        refine r_iconst (pc := 49) C dX4_clash_49 ?_
        refine r_cVi (pc := 50) C (c_finding g 3 (by decide) (dsS_8 i (bc_8_0 σ))) yX4_finding_w O_40 rfl rfl t_251 ⟨by decide, by decide⟩ (Nat.le_of_ble_eq_true rfl) rfl dX4_clash_50 ?_
        exact r_retT (pc := 53) C (by rw [if_pos hF]) (fun k hk => by rw [if_pos hF]; exact tr_fin 3 (fun k hk => (tr_ds _ hk _).trans (tr_bc _ hk)) k hk) dX4_clash_53
      · skip
        refine r_aload_n (pc := 19) C dX4_clash_19 rfl 0 rfl ?_
        refine r_getR4 (pc := 20) C 1 (k' := 8) rfl O_40 (by decide) rfl t_217 dX4_clash_20 ?_
        refine r_cVv (pc := 23) C (c_passDay_8 g (dsS_8 i (bc_8_0 σ)) hWd) yX0_passDay_w O_8 rfl rfl t_444 ⟨by decide, by decide⟩ (Nat.le_of_ble_eq_true rfl) rfl dX4_clash_23 ?_
        refine r_aload_n (pc := 26) C dX4_clash_26 rfl 0 rfl ?_
        refine r_getR4 (pc := 27) C 1 (k' := 8) rfl O_40 (by decide) rfl t_217 dX4_clash_27 ?_
        refine r_aload_n (pc := 30) C dX4_clash_30 rfl 0 rfl ?_
        refine r_getR4 (pc := 31) C 0 (k' := 0) rfl O_40 (by decide) rfl t_216 dX4_clash_31 ?_
        refine r_cVi (pc := 34) C (c_isHeldLike g (dsS_8 (i + 1) (bc_8_0 σ)) (show 0 ≤ dsS_8 (i + 1) (bc_8_0 σ) 0 7 ∧ dsS_8 (i + 1) (bc_8_0 σ) 0 7 ≤ 8 by rw [tr_ds _ (by omega)]; exact hn) (show rgM (dsS_8 (i + 1) (bc_8_0 σ) 6) by rw [tr_ds _ (by omega)]; exact hM) hWe.1 hWe.2.2.2.2.2.2.2.2.2.1) yX0_isHeldLike_w O_8 rfl rfl t_449 ⟨by decide, by decide⟩ (Nat.le_of_ble_eq_true rfl) rfl dX4_clash_34 ?_
        have hsm : sameH (dsS_8 (i + 1) (bc_8_0 σ) 8 7) (dsS_8 (i + 1) (bc_8_0 σ) 14) (dsS_8 (i + 1) (bc_8_0 σ) 0 7) (dsS_8 (i + 1) (bc_8_0 σ) 6) = sameH (σ 0 7) (daysC (σ 0 7) (σ 0 8) (σ 0 9) (σ 3) (σ 4) 255 (i + 1) (σ 1, σ 5, σ 6)).2.2 (σ 0 7) (σ 6) := by rw [dsS_8_M, (dsS_8_K _ _).2.2.1, tr_ds _ (by omega), tr_ds _ (by omega)]; rfl
        refine r_ifz_ne (pc := 37) C 42 dX4_clash_37 (by decide) (fun h37 => ?_) (fun h37 => ?_)
        · skip
          refine r_iinc (pc := 42) C dX4_clash_42 1 rfl (by decide) [1, 0] (lv' := [(0, .ref (gA g 40)), (1, .int (iI (((i : Int) + 1) + 1)))]) rfl ?_
          refine r_goto (pc := 45) C 13 dX4_clash_45 (by decide) ?_
          exact ih13 (i + 1) _ _ (by omega) (by omega) (by rw [hi13_1, show 60 - i = 60 - (i + 1) + 1 by omega, firstF, if_neg (by rw [← hsm]; simpa using h37)]) (by omega) (rfl)
        · skip
          have hF : firstF (fun i => !sameH (σ 0 7) (daysC (σ 0 7) (σ 0 8) (σ 0 9) (σ 3) (σ 4) 255 i (σ 1, σ 5, σ 6)).2.2 (σ 0 7) (σ 6)) 60 1 = ((i + 1 : Nat) : Int) := by rw [hi13_1, show 60 - i = 60 - (i + 1) + 1 by omega, firstF, if_pos (by rw [← hsm]; simpa using h37)]
          refine r_iload_n (pc := 40) C dX4_clash_40 rfl 1 rfl ?_
          exact r_retT (pc := 41) C (by rw [if_neg (by omega), hF]; omega) (fun k hk => by rw [if_neg (by omega)]; exact (fun k hk => (tr_ds _ hk _).trans (tr_bc _ hk)) k hk) dX4_clash_41
  exact L13 _ 0 _ _ (Nat.lt_succ_self _) (by omega) (by rfl) (by omega) (rfl)
set_option maxHeartbeats 4000000 in
set_option maxRecDepth 100000 in
theorem d_rich (g : Gt) (x v : Int) (h_x : rng x) (h_v : rng v) (σ : Sg) (hW : RW σ 0)  : Mt g yX4_rich cX4_rich 4 (some FieldType.int) 5 [.ref (gA g 40), .int (iI (x)), .int (iI (v))] σ (pT (if (0 ≤ x ∧ x < σ 0 7) ∧ 0 ≤ v ∧ v ≤ 99999 then (if firstF (fun i => decide (v ≤ (daysC (σ 0 7) (σ 0 8) (σ 0 9) (σ 3) (σ 4) 255 i (σ 1, σ 5, σ 6)).2.1 x.toNat)) 61 0 = -1 then (-1000001 - ((3 : Nat) : Int)) else firstF (fun i => decide (v ≤ (daysC (σ 0 7) (σ 0 8) (σ 0 9) (σ 3) (σ 4) 255 i (σ 1, σ 5, σ 6)).2.1 x.toNat)) 61 0) else (-1000001 - ((0 : Nat) : Int))) (if (0 ≤ x ∧ x < σ 0 7) ∧ 0 ≤ v ∧ v ≤ 99999 then (if firstF (fun i => decide (v ≤ (daysC (σ 0 7) (σ 0 8) (σ 0 9) (σ 3) (σ 4) 255 i (σ 1, σ 5, σ 6)).2.1 x.toNat)) 61 0 = -1 then fin 3 σ else σ) else fin 0 σ)) := by
  obtain ⟨hn, hfl, hw, hdy, hz, hD_, hK_, hA_, hG_, hM_, hP_⟩ := id hW
  have hD : rgD (σ 1) := hD_
  have hK : rgK (σ 3) := hK_
  have hA : rgA (σ 4) := hA_
  have hG : rgG (σ 5) := hG_
  have hM : rgM (σ 6) := hM_
  have hP : ∀ j, j < 10 → -1 ≤ σ 7 j ∧ σ 7 j < σ 0 7 := hP_
  have ho_x := h_x.1; have hp_x := h_x.2
  have ho_v := h_v.1; have hp_v := h_v.2
  refine mt_of (own := RX4) (by decide) rfl (Nat.le_of_ble_eq_true rfl) (fun E C => ?_)
  show J g E (pT (if (0 ≤ x ∧ x < σ 0 7) ∧ 0 ≤ v ∧ v ≤ 99999 then (if firstF (fun i => decide (v ≤ (daysC (σ 0 7) (σ 0 8) (σ 0 9) (σ 3) (σ 4) 255 i (σ 1, σ 5, σ 6)).2.1 x.toNat)) 61 0 = -1 then (-1000001 - ((3 : Nat) : Int)) else firstF (fun i => decide (v ≤ (daysC (σ 0 7) (σ 0 8) (σ 0 9) (σ 3) (σ 4) 255 i (σ 1, σ 5, σ 6)).2.1 x.toNat)) 61 0) else (-1000001 - ((0 : Nat) : Int))) (if (0 ≤ x ∧ x < σ 0 7) ∧ 0 ≤ v ∧ v ≤ 99999 then (if firstF (fun i => decide (v ≤ (daysC (σ 0 7) (σ 0 8) (σ 0 9) (σ 3) (σ 4) 255 i (σ 1, σ 5, σ 6)).2.1 x.toNat)) 61 0 = -1 then fin 3 σ else σ) else fin 0 σ)) 4 0 [(0, .ref (gA g 40)), (1, .int (iI (x))), (2, .int (iI (v)))] [] σ
  refine r_aload_n (pc := 0) C dX4_rich_0 rfl 0 rfl ?_
  refine r_iload_n (pc := 1) C dX4_rich_1 rfl 1 rfl ?_
  refine r_cVi (pc := 2) C (c_isTenant g x h_x σ (by omega)) yX4_isTenant_w O_40 rfl rfl t_292 ⟨by decide, by decide⟩ (Nat.le_of_ble_eq_true rfl) rfl dX4_rich_2 ?_
  refine r_ifz_eq (pc := 5) C 18 dX4_rich_5 (by decide) (fun h5 => ?_) (fun h5 => ?_)
  · skip
    refine r_aload_n (pc := 18) C dX4_rich_18 rfl 0 rfl ?_
    refine r_iconst (pc := 19) C dX4_rich_19 ?_
    refine r_cVi (pc := 20) C (c_finding g 0 (by decide) σ) yX4_finding_w O_40 rfl rfl t_251 ⟨by decide, by decide⟩ (Nat.le_of_ble_eq_true rfl) rfl dX4_rich_20 ?_
    exact r_retT (pc := 23) C (by first | (exfalso; omega; done) | ((try (first | rw [if_pos (by omega)] | rw [if_neg (by omega)])); (try (first | rw [if_pos (by omega)] | rw [if_neg (by omega)])); (try (first | rw [if_pos (by omega)] | rw [if_neg (by omega)])); (try (first | rw [if_pos (by omega)] | rw [if_neg (by omega)])); (try rfl))) (fun k _ => congrFun (by first | (exfalso; omega; done) | ((try (first | rw [if_pos (by omega)] | rw [if_neg (by omega)])); (try (first | rw [if_pos (by omega)] | rw [if_neg (by omega)])); (try (first | rw [if_pos (by omega)] | rw [if_neg (by omega)])); (try (first | rw [if_pos (by omega)] | rw [if_neg (by omega)])); (try rfl))) k) dX4_rich_23
  · skip
    refine r_iload_n (pc := 8) C dX4_rich_8 rfl 2 rfl ?_
    refine r_iconst (pc := 9) C dX4_rich_9 ?_
    refine r_ldc (pc := 10) C 99999 t_319 (by decide) dX4_rich_10 ?_
    refine r_cSi (pc := 12) C (c_isWithin g v 0 99999 h_v ⟨by omega, by omega⟩ ⟨by omega, by omega⟩ σ) yX4_isWithin_w rfl t_248 ⟨by decide, by decide⟩ (Nat.le_of_ble_eq_true rfl) rfl dX4_rich_12 ?_
    refine r_ifz_ne (pc := 15) C 24 dX4_rich_15 (by decide) (fun h15 => ?_) (fun h15 => ?_)
    · skip
      refine r_aload_n (pc := 24) C dX4_rich_24 rfl 0 rfl ?_
      refine r_getR4 (pc := 25) C 1 (k' := 8) rfl O_40 (by decide) rfl t_217 dX4_rich_25 ?_
      refine r_aload_n (pc := 28) C dX4_rich_28 rfl 0 rfl ?_
      refine r_getR4 (pc := 29) C 0 (k' := 0) rfl O_40 (by decide) rfl t_216 dX4_rich_29 ?_
      refine r_cVv (pc := 32) C (c_become_8_0 g σ) yX0_become_w O_8 rfl rfl t_421 ⟨by decide, by decide⟩ (Nat.le_of_ble_eq_true rfl) rfl dX4_rich_32 ?_
      refine r_iconst (pc := 35) C dX4_rich_35 ?_
      refine r_istore_n (pc := 36) C dX4_rich_36 rfl (by decide) [1, 2, 3, 0] (lv' := [(0, .ref (gA g 40)), (1, .int (iI (x))), (2, .int (iI (v))), (3, .int (iI (0)))]) rfl ?_
      have L37 : ∀ (n_ : Nat) (i : Nat) (x37_3 : Int) (s37 : Sg), 61 - i < n_ → (i ≤ 61) → (firstF (fun i => decide (v ≤ (daysC (σ 0 7) (σ 0 8) (σ 0 9) (σ 3) (σ 4) 255 i (σ 1, σ 5, σ 6)).2.1 x.toNat)) 61 0 = firstF (fun i => decide (v ≤ (daysC (σ 0 7) (σ 0 8) (σ 0 9) (σ 3) (σ 4) 255 i (σ 1, σ 5, σ 6)).2.1 x.toNat)) (61 - i) i) → x37_3 = (i : Int) → s37 = dsS_8 i (bc_8_0 σ) → J g E (pT (if (0 ≤ x ∧ x < σ 0 7) ∧ 0 ≤ v ∧ v ≤ 99999 then (if firstF (fun i => decide (v ≤ (daysC (σ 0 7) (σ 0 8) (σ 0 9) (σ 3) (σ 4) 255 i (σ 1, σ 5, σ 6)).2.1 x.toNat)) 61 0 = -1 then (-1000001 - ((3 : Nat) : Int)) else firstF (fun i => decide (v ≤ (daysC (σ 0 7) (σ 0 8) (σ 0 9) (σ 3) (σ 4) 255 i (σ 1, σ 5, σ 6)).2.1 x.toNat)) 61 0) else (-1000001 - ((0 : Nat) : Int))) (if (0 ≤ x ∧ x < σ 0 7) ∧ 0 ≤ v ∧ v ≤ 99999 then (if firstF (fun i => decide (v ≤ (daysC (σ 0 7) (σ 0 8) (σ 0 9) (σ 3) (σ 4) 255 i (σ 1, σ 5, σ 6)).2.1 x.toNat)) 61 0 = -1 then fin 3 σ else σ) else fin 0 σ)) 4 37 [(0, .ref (gA g 40)), (1, .int (iI (x))), (2, .int (iI (v))), (3, .int (iI (x37_3)))] [] s37 := by
        intro n_
        induction n_ with
        | zero => intro i x37_3 s37 hm_; exact absurd hm_ (Nat.not_lt_zero _)
        | succ n_ ih37 =>
          intro i x37_3 s37 hm37 hi37_0 hi37_1 e37_0 es37
          subst e37_0 es37
          have hWd := dsS_RW_8 (bc_RW hW) i
          refine r_iload_n (pc := 37) C dX4_rich_37 rfl 3 rfl ?_
          refine r_bipush (pc := 38) C dX4_rich_38 (by decide) ?_
          refine r_icmp_gt (pc := 40) C 71 ⟨by omega, by omega⟩ ⟨by omega, by omega⟩ dX4_rich_40 (by decide) (fun h40 => ?_) (fun h40 => ?_)
          · skip
            have hF : firstF (fun i => decide (v ≤ (daysC (σ 0 7) (σ 0 8) (σ 0 9) (σ 3) (σ 4) 255 i (σ 1, σ 5, σ 6)).2.1 x.toNat)) 61 0 = -1 := by rw [hi37_1, show 61 - i = 0 by omega, firstF]
            refine r_aload_n (pc := 71) C dX4_rich_71 rfl 0 rfl ?_
            refine r_iconst (pc := 72) C dX4_rich_72 ?_
            refine r_cVi (pc := 73) C (c_finding g 3 (by decide) (dsS_8 i (bc_8_0 σ))) yX4_finding_w O_40 rfl rfl t_251 ⟨by decide, by decide⟩ (Nat.le_of_ble_eq_true rfl) rfl dX4_rich_73 ?_
            exact r_retT (pc := 76) C (by rw [if_pos (by omega), if_pos hF]) (fun k hk => by rw [if_pos (by omega), if_pos hF]; exact tr_fin 3 (fun k hk => (tr_ds _ hk _).trans (tr_bc _ hk)) k hk) dX4_rich_76
          · skip
            refine r_aload_n (pc := 43) C dX4_rich_43 rfl 0 rfl ?_
            refine r_getR4 (pc := 44) C 1 (k' := 8) rfl O_40 (by decide) rfl t_217 dX4_rich_44 ?_
            refine r_getR0 (pc := 47) C 4 (k' := 13) rfl O_8 (by decide) rfl t_112 dX4_rich_47 ?_
            refine r_iload_n (pc := 50) C dX4_rich_50 rfl 1 rfl ?_
            refine r_iald (pc := 51) C x.toNat A_13 (by omega) (by omega) dX4_rich_51 ?_
            have hg : rgG (dsS_8 i (bc_8_0 σ) 13) := hWd.2.2.2.2.2.2.2.2.1
            have hg1 := hg x.toNat (by omega)
            rw [dsS_8_G] at hg1
            have hg2 : 0 ≤ (daysC (σ 0 7) (σ 0 8) (σ 0 9) (σ 3) (σ 4) 255 i (σ 1, σ 5, σ 6)).2.1 x.toNat ∧ (daysC (σ 0 7) (σ 0 8) (σ 0 9) (σ 3) (σ 4) 255 i (σ 1, σ 5, σ 6)).2.1 x.toNat ≤ 99999 := hg1
            refine r_top (show _ = (daysC (σ 0 7) (σ 0 8) (σ 0 9) (σ 3) (σ 4) 255 i (σ 1, σ 5, σ 6)).2.1 x.toNat by rw [dsS_8_G]; rfl) ?_
            skip
            refine r_iload_n (pc := 52) C dX4_rich_52 rfl 2 rfl ?_
            refine r_icmp_lt (pc := 53) C 58 ⟨by omega, by omega⟩ h_v dX4_rich_53 (by decide) (fun h53 => ?_) (fun h53 => ?_)
            · skip
              refine r_aload_n (pc := 58) C dX4_rich_58 rfl 0 rfl ?_
              refine r_getR4 (pc := 59) C 1 (k' := 8) rfl O_40 (by decide) rfl t_217 dX4_rich_59 ?_
              refine r_cVv (pc := 62) C (c_passDay_8 g (dsS_8 i (bc_8_0 σ)) hWd) yX0_passDay_w O_8 rfl rfl t_444 ⟨by decide, by decide⟩ (Nat.le_of_ble_eq_true rfl) rfl dX4_rich_62 ?_
              refine r_iinc (pc := 65) C dX4_rich_65 3 rfl (by decide) [1, 2, 3, 0] (lv' := [(0, .ref (gA g 40)), (1, .int (iI (x))), (2, .int (iI (v))), (3, .int (iI ((i : Int) + 1)))]) rfl ?_
              refine r_goto (pc := 68) C 37 dX4_rich_68 (by decide) ?_
              exact ih37 (i + 1) _ _ (by omega) (by omega) (by rw [hi37_1, show 61 - i = 61 - (i + 1) + 1 by omega, firstF, if_neg (by simp; omega)]) (by omega) (rfl)
            · skip
              have hF : firstF (fun i => decide (v ≤ (daysC (σ 0 7) (σ 0 8) (σ 0 9) (σ 3) (σ 4) 255 i (σ 1, σ 5, σ 6)).2.1 x.toNat)) 61 0 = (i : Int) := by rw [hi37_1, show 61 - i = 61 - (i + 1) + 1 by omega, firstF, if_pos (by simp; omega)]
              refine r_iload_n (pc := 56) C dX4_rich_56 rfl 3 rfl ?_
              exact r_retT (pc := 57) C (by rw [if_pos (by omega), if_neg (by omega), hF]) (fun k hk => by rw [if_pos (by omega), if_neg (by omega)]; exact (fun k hk => (tr_ds _ hk _).trans (tr_bc _ hk)) k hk) dX4_rich_57
      exact L37 _ 0 _ _ (Nat.lt_succ_self _) (by omega) (by rfl) (rfl) (rfl)
    · skip
      refine r_aload_n (pc := 18) C dX4_rich_18 rfl 0 rfl ?_
      refine r_iconst (pc := 19) C dX4_rich_19 ?_
      refine r_cVi (pc := 20) C (c_finding g 0 (by decide) σ) yX4_finding_w O_40 rfl rfl t_251 ⟨by decide, by decide⟩ (Nat.le_of_ble_eq_true rfl) rfl dX4_rich_20 ?_
      exact r_retT (pc := 23) C (by first | (exfalso; omega; done) | ((try (first | rw [if_pos (by omega)] | rw [if_neg (by omega)])); (try (first | rw [if_pos (by omega)] | rw [if_neg (by omega)])); (try (first | rw [if_pos (by omega)] | rw [if_neg (by omega)])); (try (first | rw [if_pos (by omega)] | rw [if_neg (by omega)])); (try rfl))) (fun k _ => congrFun (by first | (exfalso; omega; done) | ((try (first | rw [if_pos (by omega)] | rw [if_neg (by omega)])); (try (first | rw [if_pos (by omega)] | rw [if_neg (by omega)])); (try (first | rw [if_pos (by omega)] | rw [if_neg (by omega)])); (try (first | rw [if_pos (by omega)] | rw [if_neg (by omega)])); (try rfl))) k) dX4_rich_23
