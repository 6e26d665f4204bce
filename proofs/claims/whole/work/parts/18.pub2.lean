set_option maxHeartbeats 4000000 in
set_option maxRecDepth 100000 in
theorem c_append (g : Gt) (v : Int) (n : Nat) (hn : 1 ≤ n ∧ n ≤ 4) (σ : Sg) (hl : 0 ≤ σ 24 1 ∧ σ 24 1 + (n : Int) ≤ 120) : Mt g yX2_append cX2_append 4 none 0 [.ref (gA g 24), .int (iI (v)), .int (iI ((n : Int)))] σ (pV (wr (us σ 25 (apF v n (σ 24 1).toNat (σ 25) n)) 24 1 (σ 24 1 + (n : Int)))) := by
  refine mt_of (own := RX2) (by decide) rfl (Nat.le_of_ble_eq_true rfl) (fun E C => ?_)
  show J g E (pV (wr (us σ 25 (apF v n (σ 24 1).toNat (σ 25) n)) 24 1 (σ 24 1 + (n : Int)))) 4 0 [(0, .ref (gA g 24)), (1, .int (iI (v))), (2, .int (iI ((n : Int))))] [] σ
  refine r_iload_n (pc := 0) C dX2_append_0 rfl 2 rfl ?_
  refine r_iconst (pc := 1) C dX2_append_1 ?_
  refine r_isub (pc := 2) C dX2_append_2 ?_
  refine r_istore_n (pc := 3) C dX2_append_3 rfl (by decide) [1, 2, 3, 0] (lv' := [(0, .ref (gA g 24)), (1, .int (iI (v))), (2, .int (iI ((n : Int)))), (3, .int (iI ((n : Int) - 1)))]) rfl ?_
  have L4 : ∀ (n_ : Nat) (m : Nat) (x4_3 : Int) (s4 : Sg), n - m < n_ → (m ≤ n) → x4_3 = (n : Int) - 1 - (m : Int) → s4 = (wr (us σ 25 (apF v n (σ 24 1).toNat (σ 25) m)) 24 1 (σ 24 1 + (m : Int))) → J g E (pV (wr (us σ 25 (apF v n (σ 24 1).toNat (σ 25) n)) 24 1 (σ 24 1 + (n : Int)))) 4 4 [(0, .ref (gA g 24)), (1, .int (iI (v))), (2, .int (iI ((n : Int)))), (3, .int (iI (x4_3)))] [] s4 := by
    intro n_
    induction n_ with
    | zero => intro m x4_3 s4 hm_; exact absurd hm_ (Nat.not_lt_zero _)
    | succ n_ ih4 =>
      intro m x4_3 s4 hm4 hi4_0 e4_0 es4
      subst e4_0 es4
      refine r_iload_n (pc := 4) C dX2_append_4 rfl 3 rfl ?_
      refine r_if_lt (pc := 5) C 43 ⟨by omega, by omega⟩ dX2_append_5 (by decide) (fun h5 => ?_) (fun h5 => ?_)
      · skip
        exact r_retv (pc := 43) C (by rw [show m = n by omega]) dX2_append_43
      · skip
        refine r_aload_n (pc := 8) C dX2_append_8 rfl 0 rfl ?_
        refine r_getR2 (pc := 9) C 0 (k' := 25) rfl O_24 (by decide) rfl t_164 dX2_append_9 ?_
        refine r_aload_n (pc := 12) C dX2_append_12 rfl 0 rfl ?_
        refine r_getI2 (pc := 13) C 1 rfl O_24 (by decide) rfl t_166 dX2_append_13 ?_
        refine r_top (wr_s2 _ _ _ _) ?_
        refine r_iload_n (pc := 16) C dX2_append_16 rfl 1 rfl ?_
        refine r_bipush (pc := 17) C dX2_append_17 (by decide) ?_
        refine r_iload_n (pc := 19) C dX2_append_19 rfl 3 rfl ?_
        refine r_imul (pc := 20) C dX2_append_20 ?_
        refine r_iushr (pc := 21) C dX2_append_21 ?_
        refine r_sipush (pc := 22) C dX2_append_22 (by decide) ?_
        refine r_iand (pc := 25) C dX2_append_25 ?_
        refine r_iast (pc := 26) C ((σ 24 1).toNat + m) A_25 (by omega) (by omega) dX2_append_26 ?_
        refine r_aload_n (pc := 27) C dX2_append_27 rfl 0 rfl ?_
        refine r_dup (pc := 28) C rfl dX2_append_28 ?_
        refine r_getI2 (pc := 29) C 1 rfl O_24 (by decide) rfl t_166 dX2_append_29 ?_
        refine r_top ((wr_o2 _ _ _ _ (by omega)).trans (wr_s2 _ _ _ _)) ?_
        refine r_iconst (pc := 32) C dX2_append_32 ?_
        refine r_iadd (pc := 33) C dX2_append_33 ?_
        refine r_put2 (pc := 34) C 1 rfl O_24 (by decide) rfl t_166 rfl (by decide +kernel) dX2_append_34 ?_
        refine r_iinc (pc := 37) C dX2_append_37 3 rfl (by decide) [1, 2, 3, 0] (lv' := [(0, .ref (gA g 24)), (1, .int (iI (v))), (2, .int (iI ((n : Int)))), (3, .int (iI (((n : Int) - 1 - (m : Int)) + (-1))))]) rfl ?_
        refine r_goto (pc := 40) C 4 dX2_append_40 (by decide) ?_
        exact ih4 (m + 1) _ _ (by omega) (by omega) (by omega) (by rw [wr_swap _ _ _ _ _ (by decide), wr_wr, wr_swap _ _ _ _ _ (by decide), wr_us, show σ 24 1 + ((m + 1 : Nat) : Int) = σ 24 1 + (m : Int) + 1 by omega]; rfl)
  exact L4 _ 0 _ _ (Nat.lt_succ_self _) (by omega) (by omega) (by rw [show σ 24 1 + ((0 : Nat) : Int) = σ 24 1 by omega]; show _ = wr (us σ 25 (σ 25)) 24 1 (σ 24 1); rw [us_id]; unfold wr; rw [up_id, us_id])
set_option maxHeartbeats 4000000 in
set_option maxRecDepth 100000 in
theorem d_feed (g : Gt) (v n : Int) (h_v : rng v) (h_n : rng n) (σ : Sg) (hl : 0 ≤ σ 24 1 ∧ σ 24 1 ≤ 120) : Mt g yX4_feed cX4_feed 3 (some FieldType.int) 1 [.ref (gA g 40), .int (iI (v)), .int (iI (n))] σ (pT (if 1 ≤ n ∧ n ≤ 4 then (if 120 - n < σ 24 1 then (-1000001 - ((1 : Nat) : Int)) else σ 24 1 + (n.toNat : Int)) else (-1000001 - ((0 : Nat) : Int))) (if 1 ≤ n ∧ n ≤ 4 then (if 120 - n < σ 24 1 then fin 1 σ else wr (us σ 25 (apF v n.toNat (σ 24 1).toNat (σ 25) n.toNat)) 24 1 (σ 24 1 + (n.toNat : Int))) else fin 0 σ)) := by
  have ho_v := h_v.1; have hp_v := h_v.2
  have ho_n := h_n.1; have hp_n := h_n.2
  refine mt_of (own := RX4) (by decide) rfl (Nat.le_of_ble_eq_true rfl) (fun E C => ?_)
  show J g E (pT (if 1 ≤ n ∧ n ≤ 4 then (if 120 - n < σ 24 1 then (-1000001 - ((1 : Nat) : Int)) else σ 24 1 + (n.toNat : Int)) else (-1000001 - ((0 : Nat) : Int))) (if 1 ≤ n ∧ n ≤ 4 then (if 120 - n < σ 24 1 then fin 1 σ else wr (us σ 25 (apF v n.toNat (σ 24 1).toNat (σ 25) n.toNat)) 24 1 (σ 24 1 + (n.toNat : Int))) else fin 0 σ)) 3 0 [(0, .ref (gA g 40)), (1, .int (iI (v))), (2, .int (iI (n)))] [] σ
  refine r_iload_n (pc := 0) C dX4_feed_0 rfl 2 rfl ?_
  refine r_iconst (pc := 1) C dX4_feed_1 ?_
  refine r_iconst (pc := 2) C dX4_feed_2 ?_
  refine r_cSi (pc := 3) C (c_isWithin g n 1 4 h_n ⟨by omega, by omega⟩ ⟨by omega, by omega⟩ σ) yX4_isWithin_w rfl t_248 ⟨by decide, by decide⟩ (Nat.le_of_ble_eq_true rfl) rfl dX4_feed_3 ?_
  refine r_ifz_ne (pc := 6) C 15 dX4_feed_6 (by decide) (fun h6 => ?_) (fun h6 => ?_)
  · skip
    refine r_aload_n (pc := 15) C dX4_feed_15 rfl 0 rfl ?_
    refine r_getR4 (pc := 16) C 4 (k' := 24) rfl O_40 (by decide) rfl t_220 dX4_feed_16 ?_
    refine r_getI2 (pc := 19) C 1 rfl O_24 (by decide) rfl t_168 dX4_feed_19 ?_
    refine r_bipush (pc := 22) C dX4_feed_22 (by decide) ?_
    refine r_iload_n (pc := 24) C dX4_feed_24 rfl 2 rfl ?_
    refine r_isub (pc := 25) C dX4_feed_25 ?_
    refine r_icmp_le (pc := 26) C 35 ⟨by omega, by omega⟩ ⟨by omega, by omega⟩ dX4_feed_26 (by decide) (fun h26 => ?_) (fun h26 => ?_)
    · skip
      refine r_aload_n (pc := 35) C dX4_feed_35 rfl 0 rfl ?_
      refine r_getR4 (pc := 36) C 4 (k' := 24) rfl O_40 (by decide) rfl t_220 dX4_feed_36 ?_
      refine r_iload_n (pc := 39) C dX4_feed_39 rfl 1 rfl ?_
      refine r_iload_n (pc := 40) C dX4_feed_40 rfl 2 rfl ?_
      refine r_cVv (pc := 41) C (c_append g v n.toNat (by omega) σ (by omega)) yX2_append_w O_24 rfl rfl t_554 ⟨by decide, by decide⟩ (Nat.le_of_ble_eq_true rfl) (by rw [show ((n.toNat : Nat) : Int) = n by omega]; rfl) dX4_feed_41 ?_
      refine r_aload_n (pc := 44) C dX4_feed_44 rfl 0 rfl ?_
      refine r_getR4 (pc := 45) C 4 (k' := 24) rfl O_40 (by decide) rfl t_220 dX4_feed_45 ?_
      refine r_getI2 (pc := 48) C 1 rfl O_24 (by decide) rfl t_168 dX4_feed_48 ?_
      refine r_top (wr_s2 _ _ _ _) ?_
      exact r_retT (pc := 51) C (by first | (exfalso; omega; done) | ((try (first | rw [if_pos (by omega)] | rw [if_neg (by omega)])); (try (first | rw [if_pos (by omega)] | rw [if_neg (by omega)])); (try (first | rw [if_pos (by omega)] | rw [if_neg (by omega)])); (try (first | rw [if_pos (by omega)] | rw [if_neg (by omega)])); (try rfl))) (fun k _ => congrFun (by first | (exfalso; omega; done) | ((try (first | rw [if_pos (by omega)] | rw [if_neg (by omega)])); (try (first | rw [if_pos (by omega)] | rw [if_neg (by omega)])); (try (first | rw [if_pos (by omega)] | rw [if_neg (by omega)])); (try (first | rw [if_pos (by omega)] | rw [if_neg (by omega)])); (try rfl))) k) dX4_feed_51
    · skip
      refine r_aload_n (pc := 29) C dX4_feed_29 rfl 0 rfl ?_
      refine r_iconst (pc := 30) C dX4_feed_30 ?_
      refine r_cVi (pc := 31) C (c_finding g 1 (by decide) σ) yX4_finding_w O_40 rfl rfl t_251 ⟨by decide, by decide⟩ (Nat.le_of_ble_eq_true rfl) rfl dX4_feed_31 ?_
      exact r_retT (pc := 34) C (by first | (exfalso; omega; done) | ((try (first | rw [if_pos (by omega)] | rw [if_neg (by omega)])); (try (first | rw [if_pos (by omega)] | rw [if_neg (by omega)])); (try (first | rw [if_pos (by omega)] | rw [if_neg (by omega)])); (try (first | rw [if_pos (by omega)] | rw [if_neg (by omega)])); (try rfl))) (fun k _ => congrFun (by first | (exfalso; omega; done) | ((try (first | rw [if_pos (by omega)] | rw [if_neg (by omega)])); (try (first | rw [if_pos (by omega)] | rw [if_neg (by omega)])); (try (first | rw [if_pos (by omega)] | rw [if_neg (by omega)])); (try (first | rw [if_pos (by omega)] | rw [if_neg (by omega)])); (try rfl))) k) dX4_feed_34
  · skip
    refine r_aload_n (pc := 9) C dX4_feed_9 rfl 0 rfl ?_
    refine r_iconst (pc := 10) C dX4_feed_10 ?_
    refine r_cVi (pc := 11) C (c_finding g 0 (by decide) σ) yX4_finding_w O_40 rfl rfl t_251 ⟨by decide, by decide⟩ (Nat.le_of_ble_eq_true rfl) rfl dX4_feed_11 ?_
    exact r_retT (pc := 14) C (by first | (exfalso; omega; done) | ((try (first | rw [if_pos (by omega)] | rw [if_neg (by omega)])); (try (first | rw [if_pos (by omega)] | rw [if_neg (by omega)])); (try (first | rw [if_pos (by omega)] | rw [if_neg (by omega)])); (try (first | rw [if_pos (by omega)] | rw [if_neg (by omega)])); (try rfl))) (fun k _ => congrFun (by first | (exfalso; omega; done) | ((try (first | rw [if_pos (by omega)] | rw [if_neg (by omega)])); (try (first | rw [if_pos (by omega)] | rw [if_neg (by omega)])); (try (first | rw [if_pos (by omega)] | rw [if_neg (by omega)])); (try (first | rw [if_pos (by omega)] | rw [if_neg (by omega)])); (try rfl))) k) dX4_feed_14
def rnS (s : Nat) (b n : Int) (σ : Sg) : Sg := (us (wr (wr σ (31 + 2 * s) 1 b) (31 + 2 * s) 2 (if b = 0 then 0 else n)) (32 + 2 * s) (mapTo (fun _ => 0) (σ (32 + 2 * s)) 40))
theorem wr_ot (σ : Sg) {k k' j : Nat} {x : Int} (h : k' ≠ k) : σ k' = wr σ k j x k' := (wr_n σ j x h).symm
theorem rn_eq (σ : Sg) (s : Nat) (b x y : Int) (h : x = y) : wr (wr σ (31 + 2 * s) 1 b) (31 + 2 * s) 2 x = us (wr (wr σ (31 + 2 * s) 1 b) (31 + 2 * s) 2 y) (32 + 2 * s) (mapTo (fun _ => 0) (σ (32 + 2 * s)) 0) := by
  rw [h, mapTo_0]
  refine (us_idx ?_).symm
  rw [wr_n _ _ _ (by omega), wr_n _ _ _ (by omega)]
set_option maxHeartbeats 4000000 in
set_option maxRecDepth 100000 in
theorem c_renew (g : Gt) (s : Nat) (hs : s < 4) (b n : Int) (hb : rng b) (hn : rng n) (σ : Sg) : Mt g yX1_renew cX1_renew 4 (some FieldType.int) 0 [.ref (gA g (31 + 2 * s)), .int (iI (b)), .int (iI (n))] σ (pI (if b = 0 then 0 else n) (rnS s b n σ)) := by
  refine mt_of (own := RX1) (by decide) rfl (Nat.le_of_ble_eq_true rfl) (fun E C => ?_)
  show J g E (pI (if b = 0 then 0 else n) (rnS s b n σ)) 4 0 [(0, .ref (gA g (31 + 2 * s))), (1, .int (iI (b))), (2, .int (iI (n)))] [] σ
  refine r_aload_n (pc := 0) C dX1_renew_0 rfl 0 rfl ?_
  refine r_iload_n (pc := 1) C dX1_renew_1 rfl 1 rfl ?_
  refine r_put1 (pc := 2) C 1 (Rb_sh (by omega)) (O_sh (by omega)) (by decide) rfl t_205 rfl (by decide +kernel) dX1_renew_2 ?_
  refine r_aload_n (pc := 5) C dX1_renew_5 rfl 0 rfl ?_
  refine r_iload_n (pc := 6) C dX1_renew_6 rfl 1 rfl ?_
  refine r_if_ne (pc := 7) C 14 hb dX1_renew_7 (by decide) (fun h7 => ?_) (fun h7 => ?_)
  · skip
    refine r_iload_n (pc := 14) C dX1_renew_14 rfl 2 rfl ?_
    refine r_put1 (pc := 15) C 2 (Rl_sh (by omega)) (O_sh (by omega)) (by decide) rfl t_207 rfl (by decide +kernel) dX1_renew_15 ?_
    refine r_iconst (pc := 18) C dX1_renew_18 ?_
    refine r_istore_n (pc := 19) C dX1_renew_19 rfl (by decide) [1, 2, 3, 0] (lv' := [(0, .ref (gA g (31 + 2 * s))), (1, .int (iI (b))), (2, .int (iI (n))), (3, .int (iI (0)))]) rfl ?_
    have L20 : ∀ (n_ : Nat) (i : Nat) (x20_3 : Int) (s20 : Sg), 40 - i < n_ → (i ≤ 40) → x20_3 = (i : Int) → s20 = (us (wr (wr σ (31 + 2 * s) 1 b) (31 + 2 * s) 2 (if b = 0 then 0 else n)) (32 + 2 * s) (mapTo (fun _ => 0) (σ (32 + 2 * s)) i)) → J g E (pI (if b = 0 then 0 else n) (rnS s b n σ)) 4 20 [(0, .ref (gA g (31 + 2 * s))), (1, .int (iI (b))), (2, .int (iI (n))), (3, .int (iI (x20_3)))] [] s20 := by
      intro n_
      induction n_ with
      | zero => intro i x20_3 s20 hm_; exact absurd hm_ (Nat.not_lt_zero _)
      | succ n_ ih20 =>
        intro i x20_3 s20 hm20 hi20_0 e20_0 es20
        subst e20_0 es20
        refine r_iload_n (pc := 20) C dX1_renew_20 rfl 3 rfl ?_
        refine r_bipush (pc := 21) C dX1_renew_21 (by decide) ?_
        refine r_icmp_ge (pc := 23) C 39 ⟨by omega, by omega⟩ ⟨by omega, by omega⟩ dX1_renew_23 (by decide) (fun h23 => ?_) (fun h23 => ?_)
        · skip
          refine r_aload_n (pc := 39) C dX1_renew_39 rfl 0 rfl ?_
          refine r_getI1 (pc := 40) C 2 (Rl_sh (by omega)) (O_sh (by omega)) (by decide) rfl t_207 dX1_renew_40 ?_
          refine r_top ((us_o2 _ _ _ (by omega)).trans (wr_s2 _ _ _ _)) ?_
          exact r_reti (pc := 43) C (rfl) (by rw [show i = 40 by omega]; rfl) dX1_renew_43
        · skip
          refine r_aload_n (pc := 26) C dX1_renew_26 rfl 0 rfl ?_
          refine r_getR1 (pc := 27) C 0 (k' := (32 + 2 * s)) (Rn_sh (by omega)) (O_sh (by omega)) (by decide) rfl t_203 dX1_renew_27 ?_
          refine r_iload_n (pc := 30) C dX1_renew_30 rfl 3 rfl ?_
          refine r_iconst (pc := 31) C dX1_renew_31 ?_
          refine r_iast (pc := 32) C i (A_sh (by omega)) (by omega) (by omega) dX1_renew_32 ?_
          refine r_iinc (pc := 33) C dX1_renew_33 3 rfl (by decide) [1, 2, 3, 0] (lv' := [(0, .ref (gA g (31 + 2 * s))), (1, .int (iI (b))), (2, .int (iI (n))), (3, .int (iI ((i : Int) + 1)))]) rfl ?_
          refine r_goto (pc := 36) C 20 dX1_renew_36 (by decide) ?_
          exact ih20 (i + 1) _ _ (by omega) (by omega) (by omega) ((wr_us _ _ _ _ _).trans (congrArg (us _ (32 + 2 * s)) (mapTo_s (fun _ => 0) _ _)))
    exact L20 _ 0 _ _ (Nat.lt_succ_self _) (by omega) (rfl) (rn_eq σ s b _ _ (by first | rw [if_pos (by omega)] | rw [if_neg (by omega)]))
  · skip
    refine r_iconst (pc := 10) C dX1_renew_10 ?_
    refine r_goto (pc := 11) C 15 dX1_renew_11 (by decide) ?_
    refine r_put1 (pc := 15) C 2 (Rl_sh (by omega)) (O_sh (by omega)) (by decide) rfl t_207 rfl (by decide +kernel) dX1_renew_15 ?_
    refine r_iconst (pc := 18) C dX1_renew_18 ?_
    refine r_istore_n (pc := 19) C dX1_renew_19 rfl (by decide) [1, 2, 3, 0] (lv' := [(0, .ref (gA g (31 + 2 * s))), (1, .int (iI (b))), (2, .int (iI (n))), (3, .int (iI (0)))]) rfl ?_
    have L20 : ∀ (n_ : Nat) (i : Nat) (x20_3 : Int) (s20 : Sg), 40 - i < n_ → (i ≤ 40) → x20_3 = (i : Int) → s20 = (us (wr (wr σ (31 + 2 * s) 1 b) (31 + 2 * s) 2 (if b = 0 then 0 else n)) (32 + 2 * s) (mapTo (fun _ => 0) (σ (32 + 2 * s)) i)) → J g E (pI (if b = 0 then 0 else n) (rnS s b n σ)) 4 20 [(0, .ref (gA g (31 + 2 * s))), (1, .int (iI (b))), (2, .int (iI (n))), (3, .int (iI (x20_3)))] [] s20 := by
      intro n_
      induction n_ with
      | zero => intro i x20_3 s20 hm_; exact absurd hm_ (Nat.not_lt_zero _)
      | succ n_ ih20 =>
        intro i x20_3 s20 hm20 hi20_0 e20_0 es20
        subst e20_0 es20
        refine r_iload_n (pc := 20) C dX1_renew_20 rfl 3 rfl ?_
        refine r_bipush (pc := 21) C dX1_renew_21 (by decide) ?_
        refine r_icmp_ge (pc := 23) C 39 ⟨by omega, by omega⟩ ⟨by omega, by omega⟩ dX1_renew_23 (by decide) (fun h23 => ?_) (fun h23 => ?_)
        · skip
          refine r_aload_n (pc := 39) C dX1_renew_39 rfl 0 rfl ?_
          refine r_getI1 (pc := 40) C 2 (Rl_sh (by omega)) (O_sh (by omega)) (by decide) rfl t_207 dX1_renew_40 ?_
          refine r_top ((us_o2 _ _ _ (by omega)).trans (wr_s2 _ _ _ _)) ?_
          exact r_reti (pc := 43) C (rfl) (by rw [show i = 40 by omega]; rfl) dX1_renew_43
        · skip
          refine r_aload_n (pc := 26) C dX1_renew_26 rfl 0 rfl ?_
          refine r_getR1 (pc := 27) C 0 (k' := (32 + 2 * s)) (Rn_sh (by omega)) (O_sh (by omega)) (by decide) rfl t_203 dX1_renew_27 ?_
          refine r_iload_n (pc := 30) C dX1_renew_30 rfl 3 rfl ?_
          refine r_iconst (pc := 31) C dX1_renew_31 ?_
          refine r_iast (pc := 32) C i (A_sh (by omega)) (by omega) (by omega) dX1_renew_32 ?_
          refine r_iinc (pc := 33) C dX1_renew_33 3 rfl (by decide) [1, 2, 3, 0] (lv' := [(0, .ref (gA g (31 + 2 * s))), (1, .int (iI (b))), (2, .int (iI (n))), (3, .int (iI ((i : Int) + 1)))]) rfl ?_
          refine r_goto (pc := 36) C 20 dX1_renew_36 (by decide) ?_
          exact ih20 (i + 1) _ _ (by omega) (by omega) (by omega) ((wr_us _ _ _ _ _).trans (congrArg (us _ (32 + 2 * s)) (mapTo_s (fun _ => 0) _ _)))
    exact L20 _ 0 _ _ (Nat.lt_succ_self _) (by omega) (rfl) (rn_eq σ s b _ _ (by first | rw [if_pos (by omega)] | rw [if_neg (by omega)]))
set_option maxHeartbeats 4000000 in
set_option maxRecDepth 100000 in
theorem d_sheet (g : Gt) (x b n : Int) (h_x : rng x) (h_b : rng b) (h_n : rng n) (σ : Sg)  : Mt g yX4_sheet cX4_sheet 4 (some FieldType.int) 1 [.ref (gA g 40), .int (iI (x)), .int (iI (b)), .int (iI (n))] σ (pT (if (0 ≤ x ∧ x < 4) ∧ (b = 0 ∨ b = 8 ∨ b = 16 ∨ b = 32) then (if n < 0 then (-1000001 - ((6 : Nat) : Int)) else if 40 < n then (-1000001 - ((0 : Nat) : Int)) else if b = 0 then 0 else n) else (-1000001 - ((0 : Nat) : Int))) (if (0 ≤ x ∧ x < 4) ∧ (b = 0 ∨ b = 8 ∨ b = 16 ∨ b = 32) then (if n < 0 then fin 6 σ else if 40 < n then fin 0 σ else rnS x.toNat b n σ) else fin 0 σ)) := by
  have ho_x := h_x.1; have hp_x := h_x.2
  have ho_b := h_b.1; have hp_b := h_b.2
  have ho_n := h_n.1; have hp_n := h_n.2
  refine mt_of (own := RX4) (by decide) rfl (Nat.le_of_ble_eq_true rfl) (fun E C => ?_)
  show J g E (pT (if (0 ≤ x ∧ x < 4) ∧ (b = 0 ∨ b = 8 ∨ b = 16 ∨ b = 32) then (if n < 0 then (-1000001 - ((6 : Nat) : Int)) else if 40 < n then (-1000001 - ((0 : Nat) : Int)) else if b = 0 then 0 else n) else (-1000001 - ((0 : Nat) : Int))) (if (0 ≤ x ∧ x < 4) ∧ (b = 0 ∨ b = 8 ∨ b = 16 ∨ b = 32) then (if n < 0 then fin 6 σ else if 40 < n then fin 0 σ else rnS x.toNat b n σ) else fin 0 σ)) 4 0 [(0, .ref (gA g 40)), (1, .int (iI (x))), (2, .int (iI (b))), (3, .int (iI (n)))] [] σ
  refine r_iload_n (pc := 0) C dX4_sheet_0 rfl 1 rfl ?_
  refine r_cSi (pc := 1) C (c_isSheet g x h_x σ) yX4_isSheet_w rfl t_515 ⟨by decide, by decide⟩ (Nat.le_of_ble_eq_true rfl) rfl dX4_sheet_1 ?_
  refine r_ifz_eq (pc := 4) C 29 dX4_sheet_4 (by decide) (fun h4 => ?_) (fun h4 => ?_)
  · skip
    refine r_aload_n (pc := 29) C dX4_sheet_29 rfl 0 rfl ?_
    refine r_iconst (pc := 30) C dX4_sheet_30 ?_
    refine r_cVi (pc := 31) C (c_finding g 0 (by decide) σ) yX4_finding_w O_40 rfl rfl t_251 ⟨by decide, by decide⟩ (Nat.le_of_ble_eq_true rfl) rfl dX4_sheet_31 ?_
    exact r_retT (pc := 34) C (by first | (exfalso; omega; done) | ((try (first | rw [if_pos (by omega)] | rw [if_neg (by omega)])); (try (first | rw [if_pos (by omega)] | rw [if_neg (by omega)])); (try (first | rw [if_pos (by omega)] | rw [if_neg (by omega)])); (try (first | rw [if_pos (by omega)] | rw [if_neg (by omega)])); (try rfl))) (fun k _ => congrFun (by first | (exfalso; omega; done) | ((try (first | rw [if_pos (by omega)] | rw [if_neg (by omega)])); (try (first | rw [if_pos (by omega)] | rw [if_neg (by omega)])); (try (first | rw [if_pos (by omega)] | rw [if_neg (by omega)])); (try (first | rw [if_pos (by omega)] | rw [if_neg (by omega)])); (try rfl))) k) dX4_sheet_34
  · skip
    refine r_iload_n (pc := 7) C dX4_sheet_7 rfl 2 rfl ?_
    refine r_if_eq (pc := 8) C 35 h_b dX4_sheet_8 (by decide) (fun h8 => ?_) (fun h8 => ?_)
    · skip
      refine r_iload_n (pc := 35) C dX4_sheet_35 rfl 3 rfl ?_
      refine r_if_ge (pc := 36) C 46 h_n dX4_sheet_36 (by decide) (fun h36 => ?_) (fun h36 => ?_)
      · skip
        refine r_iload_n (pc := 46) C dX4_sheet_46 rfl 3 rfl ?_
        refine r_bipush (pc := 47) C dX4_sheet_47 (by decide) ?_
        refine r_icmp_le (pc := 49) C 58 h_n ⟨by omega, by omega⟩ dX4_sheet_49 (by decide) (fun h49 => ?_) (fun h49 => ?_)
        · skip
          refine r_aload_n (pc := 58) C dX4_sheet_58 rfl 0 rfl ?_
          refine r_getR4 (pc := 59) C 6 (k' := 30) rfl O_40 (by decide) rfl t_222 dX4_sheet_59 ?_
          refine r_iload_n (pc := 62) C dX4_sheet_62 rfl 1 rfl ?_
          refine r_aald (pc := 63) C x.toNat (by omega) (by omega) dX4_sheet_63 ?_
          refine r_iload_n (pc := 64) C dX4_sheet_64 rfl 2 rfl ?_
          refine r_iload_n (pc := 65) C dX4_sheet_65 rfl 3 rfl ?_
          refine r_cVi (pc := 66) C (c_renew g x.toNat (by omega) b n h_b h_n σ) yX1_renew_w (O_sh (by omega)) rfl rfl t_720 ⟨by decide, by decide⟩ (Nat.le_of_ble_eq_true rfl) rfl dX4_sheet_66 ?_
          exact r_retT (pc := 69) C (by first | (exfalso; omega; done) | ((try (first | rw [if_pos (by omega)] | rw [if_neg (by omega)])); (try (first | rw [if_pos (by omega)] | rw [if_neg (by omega)])); (try (first | rw [if_pos (by omega)] | rw [if_neg (by omega)])); (try (first | rw [if_pos (by omega)] | rw [if_neg (by omega)])); (try rfl))) (fun k _ => congrFun (by first | (exfalso; omega; done) | ((try (first | rw [if_pos (by omega)] | rw [if_neg (by omega)])); (try (first | rw [if_pos (by omega)] | rw [if_neg (by omega)])); (try (first | rw [if_pos (by omega)] | rw [if_neg (by omega)])); (try (first | rw [if_pos (by omega)] | rw [if_neg (by omega)])); (try rfl))) k) dX4_sheet_69
        · skip
          refine r_aload_n (pc := 52) C dX4_sheet_52 rfl 0 rfl ?_
          refine r_iconst (pc := 53) C dX4_sheet_53 ?_
          refine r_cVi (pc := 54) C (c_finding g 0 (by decide) σ) yX4_finding_w O_40 rfl rfl t_251 ⟨by decide, by decide⟩ (Nat.le_of_ble_eq_true rfl) rfl dX4_sheet_54 ?_
          exact r_retT (pc := 57) C (by first | (exfalso; omega; done) | ((try (first | rw [if_pos (by omega)] | rw [if_neg (by omega)])); (try (first | rw [if_pos (by omega)] | rw [if_neg (by omega)])); (try (first | rw [if_pos (by omega)] | rw [if_neg (by omega)])); (try (first | rw [if_pos (by omega)] | rw [if_neg (by omega)])); (try rfl))) (fun k _ => congrFun (by first | (exfalso; omega; done) | ((try (first | rw [if_pos (by omega)] | rw [if_neg (by omega)])); (try (first | rw [if_pos (by omega)] | rw [if_neg (by omega)])); (try (first | rw [if_pos (by omega)] | rw [if_neg (by omega)])); (try (first | rw [if_pos (by omega)] | rw [if_neg (by omega)])); (try rfl))) k) dX4_sheet_57
      · skip
        refine r_aload_n (pc := 39) C dX4_sheet_39 rfl 0 rfl ?_
        refine r_bipush (pc := 40) C dX4_sheet_40 (by decide) ?_
        refine r_cVi (pc := 42) C (c_finding g 6 (by decide) σ) yX4_finding_w O_40 rfl rfl t_251 ⟨by decide, by decide⟩ (Nat.le_of_ble_eq_true rfl) rfl dX4_sheet_42 ?_
        exact r_retT (pc := 45) C (by first | (exfalso; omega; done) | ((try (first | rw [if_pos (by omega)] | rw [if_neg (by omega)])); (try (first | rw [if_pos (by omega)] | rw [if_neg (by omega)])); (try (first | rw [if_pos (by omega)] | rw [if_neg (by omega)])); (try (first | rw [if_pos (by omega)] | rw [if_neg (by omega)])); (try rfl))) (fun k _ => congrFun (by first | (exfalso; omega; done) | ((try (first | rw [if_pos (by omega)] | rw [if_neg (by omega)])); (try (first | rw [if_pos (by omega)] | rw [if_neg (by omega)])); (try (first | rw [if_pos (by omega)] | rw [if_neg (by omega)])); (try (first | rw [if_pos (by omega)] | rw [if_neg (by omega)])); (try rfl))) k) dX4_sheet_45
    · skip
      refine r_iload_n (pc := 11) C dX4_sheet_11 rfl 2 rfl ?_
      refine r_bipush (pc := 12) C dX4_sheet_12 (by decide) ?_
      refine r_icmp_eq (pc := 14) C 35 h_b ⟨by omega, by omega⟩ dX4_sheet_14 (by decide) (fun h14 => ?_) (fun h14 => ?_)
      · skip
        refine r_iload_n (pc := 35) C dX4_sheet_35 rfl 3 rfl ?_
        refine r_if_ge (pc := 36) C 46 h_n dX4_sheet_36 (by decide) (fun h36 => ?_) (fun h36 => ?_)
        · skip
          refine r_iload_n (pc := 46) C dX4_sheet_46 rfl 3 rfl ?_
          refine r_bipush (pc := 47) C dX4_sheet_47 (by decide) ?_
          refine r_icmp_le (pc := 49) C 58 h_n ⟨by omega, by omega⟩ dX4_sheet_49 (by decide) (fun h49 => ?_) (fun h49 => ?_)
          · skip
            refine r_aload_n (pc := 58) C dX4_sheet_58 rfl 0 rfl ?_
            refine r_getR4 (pc := 59) C 6 (k' := 30) rfl O_40 (by decide) rfl t_222 dX4_sheet_59 ?_
            refine r_iload_n (pc := 62) C dX4_sheet_62 rfl 1 rfl ?_
            refine r_aald (pc := 63) C x.toNat (by omega) (by omega) dX4_sheet_63 ?_
            refine r_iload_n (pc := 64) C dX4_sheet_64 rfl 2 rfl ?_
            refine r_iload_n (pc := 65) C dX4_sheet_65 rfl 3 rfl ?_
            refine r_cVi (pc := 66) C (c_renew g x.toNat (by omega) b n h_b h_n σ) yX1_renew_w (O_sh (by omega)) rfl rfl t_720 ⟨by decide, by decide⟩ (Nat.le_of_ble_eq_true rfl) rfl dX4_sheet_66 ?_
            exact r_retT (pc := 69) C (by first | (exfalso; omega; done) | ((try (first | rw [if_pos (by omega)] | rw [if_neg (by omega)])); (try (first | rw [if_pos (by omega)] | rw [if_neg (by omega)])); (try (first | rw [if_pos (by omega)] | rw [if_neg (by omega)])); (try (first | rw [if_pos (by omega)] | rw [if_neg (by omega)])); (try rfl))) (fun k _ => congrFun (by first | (exfalso; omega; done) | ((try (first | rw [if_pos (by omega)] | rw [if_neg (by omega)])); (try (first | rw [if_pos (by omega)] | rw [if_neg (by omega)])); (try (first | rw [if_pos (by omega)] | rw [if_neg (by omega)])); (try (first | rw [if_pos (by omega)] | rw [if_neg (by omega)])); (try rfl))) k) dX4_sheet_69
          · skip
            refine r_aload_n (pc := 52) C dX4_sheet_52 rfl 0 rfl ?_
            refine r_iconst (pc := 53) C dX4_sheet_53 ?_
            refine r_cVi (pc := 54) C (c_finding g 0 (by decide) σ) yX4_finding_w O_40 rfl rfl t_251 ⟨by decide, by decide⟩ (Nat.le_of_ble_eq_true rfl) rfl dX4_sheet_54 ?_
            exact r_retT (pc := 57) C (by first | (exfalso; omega; done) | ((try (first | rw [if_pos (by omega)] | rw [if_neg (by omega)])); (try (first | rw [if_pos (by omega)] | rw [if_neg (by omega)])); (try (first | rw [if_pos (by omega)] | rw [if_neg (by omega)])); (try (first | rw [if_pos (by omega)] | rw [if_neg (by omega)])); (try rfl))) (fun k _ => congrFun (by first | (exfalso; omega; done) | ((try (first | rw [if_pos (by omega)] | rw [if_neg (by omega)])); (try (first | rw [if_pos (by omega)] | rw [if_neg (by omega)])); (try (first | rw [if_pos (by omega)] | rw [if_neg (by omega)])); (try (first | rw [if_pos (by omega)] | rw [if_neg (by omega)])); (try rfl))) k) dX4_sheet_57
        · skip
          refine r_aload_n (pc := 39) C dX4_sheet_39 rfl 0 rfl ?_
          refine r_bipush (pc := 40) C dX4_sheet_40 (by decide) ?_
          refine r_cVi (pc := 42) C (c_finding g 6 (by decide) σ) yX4_finding_w O_40 rfl rfl t_251 ⟨by decide, by decide⟩ (Nat.le_of_ble_eq_true rfl) rfl dX4_sheet_42 ?_
          exact r_retT (pc := 45) C (by first | (exfalso; omega; done) | ((try (first | rw [if_pos (by omega)] | rw [if_neg (by omega)])); (try (first | rw [if_pos (by omega)] | rw [if_neg (by omega)])); (try (first | rw [if_pos (by omega)] | rw [if_neg (by omega)])); (try (first | rw [if_pos (by omega)] | rw [if_neg (by omega)])); (try rfl))) (fun k _ => congrFun (by first | (exfalso; omega; done) | ((try (first | rw [if_pos (by omega)] | rw [if_neg (by omega)])); (try (first | rw [if_pos (by omega)] | rw [if_neg (by omega)])); (try (first | rw [if_pos (by omega)] | rw [if_neg (by omega)])); (try (first | rw [if_pos (by omega)] | rw [if_neg (by omega)])); (try rfl))) k) dX4_sheet_45
      · skip
        refine r_iload_n (pc := 17) C dX4_sheet_17 rfl 2 rfl ?_
        refine r_bipush (pc := 18) C dX4_sheet_18 (by decide) ?_
        refine r_icmp_eq (pc := 20) C 35 h_b ⟨by omega, by omega⟩ dX4_sheet_20 (by decide) (fun h20 => ?_) (fun h20 => ?_)
        · skip
          refine r_iload_n (pc := 35) C dX4_sheet_35 rfl 3 rfl ?_
          refine r_if_ge (pc := 36) C 46 h_n dX4_sheet_36 (by decide) (fun h36 => ?_) (fun h36 => ?_)
          · skip
            refine r_iload_n (pc := 46) C dX4_sheet_46 rfl 3 rfl ?_
            refine r_bipush (pc := 47) C dX4_sheet_47 (by decide) ?_
            refine r_icmp_le (pc := 49) C 58 h_n ⟨by omega, by omega⟩ dX4_sheet_49 (by decide) (fun h49 => ?_) (fun h49 => ?_)
            · skip
              refine r_aload_n (pc := 58) C dX4_sheet_58 rfl 0 rfl ?_
              refine r_getR4 (pc := 59) C 6 (k' := 30) rfl O_40 (by decide) rfl t_222 dX4_sheet_59 ?_
              refine r_iload_n (pc := 62) C dX4_sheet_62 rfl 1 rfl ?_
              refine r_aald (pc := 63) C x.toNat (by omega) (by omega) dX4_sheet_63 ?_
              refine r_iload_n (pc := 64) C dX4_sheet_64 rfl 2 rfl ?_
              refine r_iload_n (pc := 65) C dX4_sheet_65 rfl 3 rfl ?_
              refine r_cVi (pc := 66) C (c_renew g x.toNat (by omega) b n h_b h_n σ) yX1_renew_w (O_sh (by omega)) rfl rfl t_720 ⟨by decide, by decide⟩ (Nat.le_of_ble_eq_true rfl) rfl dX4_sheet_66 ?_
              exact r_retT (pc := 69) C (by first | (exfalso; omega; done) | ((try (first | rw [if_pos (by omega)] | rw [if_neg (by omega)])); (try (first | rw [if_pos (by omega)] | rw [if_neg (by omega)])); (try (first | rw [if_pos (by omega)] | rw [if_neg (by omega)])); (try (first | rw [if_pos (by omega)] | rw [if_neg (by omega)])); (try rfl))) (fun k _ => congrFun (by first | (exfalso; omega; done) | ((try (first | rw [if_pos (by omega)] | rw [if_neg (by omega)])); (try (first | rw [if_pos (by omega)] | rw [if_neg (by omega)])); (try (first | rw [if_pos (by omega)] | rw [if_neg (by omega)])); (try (first | rw [if_pos (by omega)] | rw [if_neg (by omega)])); (try rfl))) k) dX4_sheet_69
            · skip
              refine r_aload_n (pc := 52) C dX4_sheet_52 rfl 0 rfl ?_
              refine r_iconst (pc := 53) C dX4_sheet_53 ?_
              refine r_cVi (pc := 54) C (c_finding g 0 (by decide) σ) yX4_finding_w O_40 rfl rfl t_251 ⟨by decide, by decide⟩ (Nat.le_of_ble_eq_true rfl) rfl dX4_sheet_54 ?_
              exact r_retT (pc := 57) C (by first | (exfalso; omega; done) | ((try (first | rw [if_pos (by omega)] | rw [if_neg (by omega)])); (try (first | rw [if_pos (by omega)] | rw [if_neg (by omega)])); (try (first | rw [if_pos (by omega)] | rw [if_neg (by omega)])); (try (first | rw [if_pos (by omega)] | rw [if_neg (by omega)])); (try rfl))) (fun k _ => congrFun (by first | (exfalso; omega; done) | ((try (first | rw [if_pos (by omega)] | rw [if_neg (by omega)])); (try (first | rw [if_pos (by omega)] | rw [if_neg (by omega)])); (try (first | rw [if_pos (by omega)] | rw [if_neg (by omega)])); (try (first | rw [if_pos (by omega)] | rw [if_neg (by omega)])); (try rfl))) k) dX4_sheet_57
          · skip
            refine r_aload_n (pc := 39) C dX4_sheet_39 rfl 0 rfl ?_
            refine r_bipush (pc := 40) C dX4_sheet_40 (by decide) ?_
            refine r_cVi (pc := 42) C (c_finding g 6 (by decide) σ) yX4_finding_w O_40 rfl rfl t_251 ⟨by decide, by decide⟩ (Nat.le_of_ble_eq_true rfl) rfl dX4_sheet_42 ?_
            exact r_retT (pc := 45) C (by first | (exfalso; omega; done) | ((try (first | rw [if_pos (by omega)] | rw [if_neg (by omega)])); (try (first | rw [if_pos (by omega)] | rw [if_neg (by omega)])); (try (first | rw [if_pos (by omega)] | rw [if_neg (by omega)])); (try (first | rw [if_pos (by omega)] | rw [if_neg (by omega)])); (try rfl))) (fun k _ => congrFun (by first | (exfalso; omega; done) | ((try (first | rw [if_pos (by omega)] | rw [if_neg (by omega)])); (try (first | rw [if_pos (by omega)] | rw [if_neg (by omega)])); (try (first | rw [if_pos (by omega)] | rw [if_neg (by omega)])); (try (first | rw [if_pos (by omega)] | rw [if_neg (by omega)])); (try rfl))) k) dX4_sheet_45
        · skip
          refine r_iload_n (pc := 23) C dX4_sheet_23 rfl 2 rfl ?_
          refine r_bipush (pc := 24) C dX4_sheet_24 (by decide) ?_
          refine r_icmp_eq (pc := 26) C 35 h_b ⟨by omega, by omega⟩ dX4_sheet_26 (by decide) (fun h26 => ?_) (fun h26 => ?_)
          · skip
            refine r_iload_n (pc := 35) C dX4_sheet_35 rfl 3 rfl ?_
            refine r_if_ge (pc := 36) C 46 h_n dX4_sheet_36 (by decide) (fun h36 => ?_) (fun h36 => ?_)
            · skip
              refine r_iload_n (pc := 46) C dX4_sheet_46 rfl 3 rfl ?_
              refine r_bipush (pc := 47) C dX4_sheet_47 (by decide) ?_
              refine r_icmp_le (pc := 49) C 58 h_n ⟨by omega, by omega⟩ dX4_sheet_49 (by decide) (fun h49 => ?_) (fun h49 => ?_)
              · skip
                refine r_aload_n (pc := 58) C dX4_sheet_58 rfl 0 rfl ?_
                refine r_getR4 (pc := 59) C 6 (k' := 30) rfl O_40 (by decide) rfl t_222 dX4_sheet_59 ?_
                refine r_iload_n (pc := 62) C dX4_sheet_62 rfl 1 rfl ?_
                refine r_aald (pc := 63) C x.toNat (by omega) (by omega) dX4_sheet_63 ?_
                refine r_iload_n (pc := 64) C dX4_sheet_64 rfl 2 rfl ?_
                refine r_iload_n (pc := 65) C dX4_sheet_65 rfl 3 rfl ?_
                refine r_cVi (pc := 66) C (c_renew g x.toNat (by omega) b n h_b h_n σ) yX1_renew_w (O_sh (by omega)) rfl rfl t_720 ⟨by decide, by decide⟩ (Nat.le_of_ble_eq_true rfl) rfl dX4_sheet_66 ?_
                exact r_retT (pc := 69) C (by first | (exfalso; omega; done) | ((try (first | rw [if_pos (by omega)] | rw [if_neg (by omega)])); (try (first | rw [if_pos (by omega)] | rw [if_neg (by omega)])); (try (first | rw [if_pos (by omega)] | rw [if_neg (by omega)])); (try (first | rw [if_pos (by omega)] | rw [if_neg (by omega)])); (try rfl))) (fun k _ => congrFun (by first | (exfalso; omega; done) | ((try (first | rw [if_pos (by omega)] | rw [if_neg (by omega)])); (try (first | rw [if_pos (by omega)] | rw [if_neg (by omega)])); (try (first | rw [if_pos (by omega)] | rw [if_neg (by omega)])); (try (first | rw [if_pos (by omega)] | rw [if_neg (by omega)])); (try rfl))) k) dX4_sheet_69
              · skip
                refine r_aload_n (pc := 52) C dX4_sheet_52 rfl 0 rfl ?_
                refine r_iconst (pc := 53) C dX4_sheet_53 ?_
                refine r_cVi (pc := 54) C (c_finding g 0 (by decide) σ) yX4_finding_w O_40 rfl rfl t_251 ⟨by decide, by decide⟩ (Nat.le_of_ble_eq_true rfl) rfl dX4_sheet_54 ?_
                exact r_retT (pc := 57) C (by first | (exfalso; omega; done) | ((try (first | rw [if_pos (by omega)] | rw [if_neg (by omega)])); (try (first | rw [if_pos (by omega)] | rw [if_neg (by omega)])); (try (first | rw [if_pos (by omega)] | rw [if_neg (by omega)])); (try (first | rw [if_pos (by omega)] | rw [if_neg (by omega)])); (try rfl))) (fun k _ => congrFun (by first | (exfalso; omega; done) | ((try (first | rw [if_pos (by omega)] | rw [if_neg (by omega)])); (try (first | rw [if_pos (by omega)] | rw [if_neg (by omega)])); (try (first | rw [if_pos (by omega)] | rw [if_neg (by omega)])); (try (first | rw [if_pos (by omega)] | rw [if_neg (by omega)])); (try rfl))) k) dX4_sheet_57
            · skip
              refine r_aload_n (pc := 39) C dX4_sheet_39 rfl 0 rfl ?_
              refine r_bipush (pc := 40) C dX4_sheet_40 (by decide) ?_
              refine r_cVi (pc := 42) C (c_finding g 6 (by decide) σ) yX4_finding_w O_40 rfl rfl t_251 ⟨by decide, by decide⟩ (Nat.le_of_ble_eq_true rfl) rfl dX4_sheet_42 ?_
              exact r_retT (pc := 45) C (by first | (exfalso; omega; done) | ((try (first | rw [if_pos (by omega)] | rw [if_neg (by omega)])); (try (first | rw [if_pos (by omega)] | rw [if_neg (by omega)])); (try (first | rw [if_pos (by omega)] | rw [if_neg (by omega)])); (try (first | rw [if_pos (by omega)] | rw [if_neg (by omega)])); (try rfl))) (fun k _ => congrFun (by first | (exfalso; omega; done) | ((try (first | rw [if_pos (by omega)] | rw [if_neg (by omega)])); (try (first | rw [if_pos (by omega)] | rw [if_neg (by omega)])); (try (first | rw [if_pos (by omega)] | rw [if_neg (by omega)])); (try (first | rw [if_pos (by omega)] | rw [if_neg (by omega)])); (try rfl))) k) dX4_sheet_45
          · skip
            refine r_aload_n (pc := 29) C dX4_sheet_29 rfl 0 rfl ?_
            refine r_iconst (pc := 30) C dX4_sheet_30 ?_
            refine r_cVi (pc := 31) C (c_finding g 0 (by decide) σ) yX4_finding_w O_40 rfl rfl t_251 ⟨by decide, by decide⟩ (Nat.le_of_ble_eq_true rfl) rfl dX4_sheet_31 ?_
            exact r_retT (pc := 34) C (by first | (exfalso; omega; done) | ((try (first | rw [if_pos (by omega)] | rw [if_neg (by omega)])); (try (first | rw [if_pos (by omega)] | rw [if_neg (by omega)])); (try (first | rw [if_pos (by omega)] | rw [if_neg (by omega)])); (try (first | rw [if_pos (by omega)] | rw [if_neg (by omega)])); (try rfl))) (fun k _ => congrFun (by first | (exfalso; omega; done) | ((try (first | rw [if_pos (by omega)] | rw [if_neg (by omega)])); (try (first | rw [if_pos (by omega)] | rw [if_neg (by omega)])); (try (first | rw [if_pos (by omega)] | rw [if_neg (by omega)])); (try (first | rw [if_pos (by omega)] | rw [if_neg (by omega)])); (try rfl))) k) dX4_sheet_34
set_option maxHeartbeats 4000000 in
set_option maxRecDepth 100000 in
theorem c_sput (g : Gt) (s : Nat) (hs : s < 4) (j : Nat) (hj : j < 40) (v : Int) (σ : Sg) : Mt g yX1_put cX1_put 4 none 0 [.ref (gA g (31 + 2 * s)), .int (iI ((j : Int))), .int (iI (v))] σ (pV (wr σ (32 + 2 * s) j (bshr (bshl v (32 - σ (31 + 2 * s) 1)) (32 - σ (31 + 2 * s) 1)))) := by
  refine mt_of (own := RX1) (by decide) rfl (Nat.le_of_ble_eq_true rfl) (fun E C => ?_)
  show J g E (pV (wr σ (32 + 2 * s) j (bshr (bshl v (32 - σ (31 + 2 * s) 1)) (32 - σ (31 + 2 * s) 1)))) 4 0 [(0, .ref (gA g (31 + 2 * s))), (1, .int (iI ((j : Int)))), (2, .int (iI (v)))] [] σ
  refine r_bipush (pc := 0) C dX1_put_0 (by decide) ?_
  refine r_aload_n (pc := 2) C dX1_put_2 rfl 0 rfl ?_
  refine r_getI1 (pc := 3) C 1 (Rb_sh (by omega)) (O_sh (by omega)) (by decide) rfl t_205 dX1_put_3 ?_
  refine r_isub (pc := 6) C dX1_put_6 ?_
  refine r_istore_n (pc := 7) C dX1_put_7 rfl (by decide) [1, 2, 3, 0] (lv' := [(0, .ref (gA g (31 + 2 * s))), (1, .int (iI ((j : Int)))), (2, .int (iI (v))), (3, .int (iI (32 - (σ (31 + 2 * s) 1))))]) rfl ?_
  refine r_aload_n (pc := 8) C dX1_put_8 rfl 0 rfl ?_
  refine r_getR1 (pc := 9) C 0 (k' := (32 + 2 * s)) (Rn_sh (by omega)) (O_sh (by omega)) (by decide) rfl t_203 dX1_put_9 ?_
  refine r_iload_n (pc := 12) C dX1_put_12 rfl 1 rfl ?_
  refine r_iload_n (pc := 13) C dX1_put_13 rfl 2 rfl ?_
  refine r_iload_n (pc := 14) C dX1_put_14 rfl 3 rfl ?_
  refine r_ishl (pc := 15) C dX1_put_15 ?_
  refine r_iload_n (pc := 16) C dX1_put_16 rfl 3 rfl ?_
  refine r_ishr (pc := 17) C dX1_put_17 ?_
  refine r_iast (pc := 18) C j (A_sh (by omega)) (by omega) (by omega) dX1_put_18 ?_
  exact r_retv (pc := 19) C (rfl) dX1_put_19
set_option maxHeartbeats 4000000 in
set_option maxRecDepth 100000 in
theorem d_write (g : Gt) (x i v : Int) (h_x : rng x) (h_i : rng i) (h_v : rng v) (σ : Sg) (hb : ∀ s, s < 4 → (σ (31 + 2 * s) 1 = 0 ∨ σ (31 + 2 * s) 1 = 8 ∨ σ (31 + 2 * s) 1 = 16 ∨ σ (31 + 2 * s) 1 = 32) ∧ 0 ≤ σ (31 + 2 * s) 2 ∧ σ (31 + 2 * s) 2 ≤ 40) : Mt g yX4_write cX4_write 4 (some FieldType.int) 1 [.ref (gA g 40), .int (iI (x)), .int (iI (i)), .int (iI (v))] σ (pT (if 0 ≤ x ∧ x < 4 then (if σ (31 + 2 * x.toNat) 1 = 0 then (-1000001 - ((5 : Nat) : Int)) else if 0 ≤ i ∧ i ≤ σ (31 + 2 * x.toNat) 2 - 1 then 1 else (-1000001 - ((0 : Nat) : Int))) else (-1000001 - ((0 : Nat) : Int))) (if 0 ≤ x ∧ x < 4 then (if σ (31 + 2 * x.toNat) 1 = 0 then fin 5 σ else if 0 ≤ i ∧ i ≤ σ (31 + 2 * x.toNat) 2 - 1 then wr σ (32 + 2 * x.toNat) i.toNat (bshr (bshl v (32 - σ (31 + 2 * x.toNat) 1)) (32 - σ (31 + 2 * x.toNat) 1)) else fin 0 σ) else fin 0 σ)) := by
  have ho_x := h_x.1; have hp_x := h_x.2
  have ho_i := h_i.1; have hp_i := h_i.2
  have ho_v := h_v.1; have hp_v := h_v.2
  refine mt_of (own := RX4) (by decide) rfl (Nat.le_of_ble_eq_true rfl) (fun E C => ?_)
  show J g E (pT (if 0 ≤ x ∧ x < 4 then (if σ (31 + 2 * x.toNat) 1 = 0 then (-1000001 - ((5 : Nat) : Int)) else if 0 ≤ i ∧ i ≤ σ (31 + 2 * x.toNat) 2 - 1 then 1 else (-1000001 - ((0 : Nat) : Int))) else (-1000001 - ((0 : Nat) : Int))) (if 0 ≤ x ∧ x < 4 then (if σ (31 + 2 * x.toNat) 1 = 0 then fin 5 σ else if 0 ≤ i ∧ i ≤ σ (31 + 2 * x.toNat) 2 - 1 then wr σ (32 + 2 * x.toNat) i.toNat (bshr (bshl v (32 - σ (31 + 2 * x.toNat) 1)) (32 - σ (31 + 2 * x.toNat) 1)) else fin 0 σ) else fin 0 σ)) 4 0 [(0, .ref (gA g 40)), (1, .int (iI (x))), (2, .int (iI (i))), (3, .int (iI (v)))] [] σ
  refine r_iload_n (pc := 0) C dX4_write_0 rfl 1 rfl ?_
  refine r_cSi (pc := 1) C (c_isSheet g x h_x σ) yX4_isSheet_w rfl t_515 ⟨by decide, by decide⟩ (Nat.le_of_ble_eq_true rfl) rfl dX4_write_1 ?_
  refine r_ifz_ne (pc := 4) C 13 dX4_write_4 (by decide) (fun h4 => ?_) (fun h4 => ?_)
  · skip
    have hbx := hb x.toNat (by omega)
    refine r_aload_n (pc := 13) C dX4_write_13 rfl 0 rfl ?_
    refine r_getR4 (pc := 14) C 6 (k' := 30) rfl O_40 (by decide) rfl t_222 dX4_write_14 ?_
    refine r_iload_n (pc := 17) C dX4_write_17 rfl 1 rfl ?_
    refine r_aald (pc := 18) C x.toNat (by omega) (by omega) dX4_write_18 ?_
    refine r_getI1 (pc := 19) C 1 (Rb_sh (by omega)) (O_sh (by omega)) (by decide) rfl t_206 dX4_write_19 ?_
    refine r_if_ne (pc := 22) C 31 ⟨by omega, by omega⟩ dX4_write_22 (by decide) (fun h22 => ?_) (fun h22 => ?_)
    · skip
      refine r_iload_n (pc := 31) C dX4_write_31 rfl 2 rfl ?_
      refine r_iconst (pc := 32) C dX4_write_32 ?_
      refine r_aload_n (pc := 33) C dX4_write_33 rfl 0 rfl ?_
      refine r_getR4 (pc := 34) C 6 (k' := 30) rfl O_40 (by decide) rfl t_222 dX4_write_34 ?_
      refine r_iload_n (pc := 37) C dX4_write_37 rfl 1 rfl ?_
      refine r_aald (pc := 38) C x.toNat (by omega) (by omega) dX4_write_38 ?_
      refine r_getI1 (pc := 39) C 2 (Rl_sh (by omega)) (O_sh (by omega)) (by decide) rfl t_208 dX4_write_39 ?_
      refine r_iconst (pc := 42) C dX4_write_42 ?_
      refine r_isub (pc := 43) C dX4_write_43 ?_
      refine r_cSi (pc := 44) C (c_isWithin g i 0 ((σ (31 + 2 * x.toNat) 2) - 1) h_i ⟨by omega, by omega⟩ ⟨by omega, by omega⟩ σ) yX4_isWithin_w rfl t_248 ⟨by decide, by decide⟩ (Nat.le_of_ble_eq_true rfl) rfl dX4_write_44 ?_
      refine r_ifz_ne (pc := 47) C 56 dX4_write_47 (by decide) (fun h47 => ?_) (fun h47 => ?_)
      · skip
        refine r_aload_n (pc := 56) C dX4_write_56 rfl 0 rfl ?_
        refine r_getR4 (pc := 57) C 6 (k' := 30) rfl O_40 (by decide) rfl t_222 dX4_write_57 ?_
        refine r_iload_n (pc := 60) C dX4_write_60 rfl 1 rfl ?_
        refine r_aald (pc := 61) C x.toNat (by omega) (by omega) dX4_write_61 ?_
        refine r_iload_n (pc := 62) C dX4_write_62 rfl 2 rfl ?_
        refine r_iload_n (pc := 63) C dX4_write_63 rfl 3 rfl ?_
        refine r_cVv (pc := 64) C (c_sput g x.toNat (by omega) i.toNat (by omega) v σ) yX1_put_w (O_sh (by omega)) rfl rfl t_728 ⟨by decide, by decide⟩ (Nat.le_of_ble_eq_true rfl) (by rw [show ((i.toNat : Nat) : Int) = i by omega]; rfl) dX4_write_64 ?_
        refine r_iconst (pc := 67) C dX4_write_67 ?_
        exact r_retT (pc := 68) C (by first | (exfalso; omega; done) | ((try (first | rw [if_pos (by omega)] | rw [if_neg (by omega)])); (try (first | rw [if_pos (by omega)] | rw [if_neg (by omega)])); (try (first | rw [if_pos (by omega)] | rw [if_neg (by omega)])); (try (first | rw [if_pos (by omega)] | rw [if_neg (by omega)])); (try rfl))) (fun k _ => congrFun (by first | (exfalso; omega; done) | ((try (first | rw [if_pos (by omega)] | rw [if_neg (by omega)])); (try (first | rw [if_pos (by omega)] | rw [if_neg (by omega)])); (try (first | rw [if_pos (by omega)] | rw [if_neg (by omega)])); (try (first | rw [if_pos (by omega)] | rw [if_neg (by omega)])); (try rfl))) k) dX4_write_68
      · skip
        refine r_aload_n (pc := 50) C dX4_write_50 rfl 0 rfl ?_
        refine r_iconst (pc := 51) C dX4_write_51 ?_
        refine r_cVi (pc := 52) C (c_finding g 0 (by decide) σ) yX4_finding_w O_40 rfl rfl t_251 ⟨by decide, by decide⟩ (Nat.le_of_ble_eq_true rfl) rfl dX4_write_52 ?_
        exact r_retT (pc := 55) C (by first | (exfalso; omega; done) | ((try (first | rw [if_pos (by omega)] | rw [if_neg (by omega)])); (try (first | rw [if_pos (by omega)] | rw [if_neg (by omega)])); (try (first | rw [if_pos (by omega)] | rw [if_neg (by omega)])); (try (first | rw [if_pos (by omega)] | rw [if_neg (by omega)])); (try rfl))) (fun k _ => congrFun (by first | (exfalso; omega; done) | ((try (first | rw [if_pos (by omega)] | rw [if_neg (by omega)])); (try (first | rw [if_pos (by omega)] | rw [if_neg (by omega)])); (try (first | rw [if_pos (by omega)] | rw [if_neg (by omega)])); (try (first | rw [if_pos (by omega)] | rw [if_neg (by omega)])); (try rfl))) k) dX4_write_55
    · skip
      refine r_aload_n (pc := 25) C dX4_write_25 rfl 0 rfl ?_
      refine r_iconst (pc := 26) C dX4_write_26 ?_
      refine r_cVi (pc := 27) C (c_finding g 5 (by decide) σ) yX4_finding_w O_40 rfl rfl t_251 ⟨by decide, by decide⟩ (Nat.le_of_ble_eq_true rfl) rfl dX4_write_27 ?_
      exact r_retT (pc := 30) C (by first | (exfalso; omega; done) | ((try (first | rw [if_pos (by omega)] | rw [if_neg (by omega)])); (try (first | rw [if_pos (by omega)] | rw [if_neg (by omega)])); (try (first | rw [if_pos (by omega)] | rw [if_neg (by omega)])); (try (first | rw [if_pos (by omega)] | rw [if_neg (by omega)])); (try rfl))) (fun k _ => congrFun (by first | (exfalso; omega; done) | ((try (first | rw [if_pos (by omega)] | rw [if_neg (by omega)])); (try (first | rw [if_pos (by omega)] | rw [if_neg (by omega)])); (try (first | rw [if_pos (by omega)] | rw [if_neg (by omega)])); (try (first | rw [if_pos (by omega)] | rw [if_neg (by omega)])); (try rfl))) k) dX4_write_30
  · skip
    refine r_aload_n (pc := 7) C dX4_write_7 rfl 0 rfl ?_
    refine r_iconst (pc := 8) C dX4_write_8 ?_
    refine r_cVi (pc := 9) C (c_finding g 0 (by decide) σ) yX4_finding_w O_40 rfl rfl t_251 ⟨by decide, by decide⟩ (Nat.le_of_ble_eq_true rfl) rfl dX4_write_9 ?_
    exact r_retT (pc := 12) C (by first | (exfalso; omega; done) | ((try (first | rw [if_pos (by omega)] | rw [if_neg (by omega)])); (try (first | rw [if_pos (by omega)] | rw [if_neg (by omega)])); (try (first | rw [if_pos (by omega)] | rw [if_neg (by omega)])); (try (first | rw [if_pos (by omega)] | rw [if_neg (by omega)])); (try rfl))) (fun k _ => congrFun (by first | (exfalso; omega; done) | ((try (first | rw [if_pos (by omega)] | rw [if_neg (by omega)])); (try (first | rw [if_pos (by omega)] | rw [if_neg (by omega)])); (try (first | rw [if_pos (by omega)] | rw [if_neg (by omega)])); (try (first | rw [if_pos (by omega)] | rw [if_neg (by omega)])); (try rfl))) k) dX4_write_12
set_option maxHeartbeats 4000000 in
set_option maxRecDepth 100000 in
theorem c_has (g : Gt) (s : Nat) (hs : s < 4) (f n : Int) (hf : rng f) (hn : rng n) (σ : Sg) (hl : 0 ≤ σ (31 + 2 * s) 2 ∧ σ (31 + 2 * s) 2 ≤ 40) : Mt g yX1_has cX1_has 3 (some FieldType.boolean) 0 [.ref (gA g (31 + 2 * s)), .int (iI (f)), .int (iI (n))] σ (pI (b01 (0 ≤ f ∧ 0 ≤ n ∧ f ≤ σ (31 + 2 * s) 2 ∧ n ≤ σ (31 + 2 * s) 2 - f)) σ) := by
  have hf1 := hf.1; have hf2 := hf.2
  refine mt_of (own := RX1) (by decide) rfl (Nat.le_of_ble_eq_true rfl) (fun E C => ?_)
  show J g E (pI (b01 (0 ≤ f ∧ 0 ≤ n ∧ f ≤ σ (31 + 2 * s) 2 ∧ n ≤ σ (31 + 2 * s) 2 - f)) σ) 3 0 [(0, .ref (gA g (31 + 2 * s))), (1, .int (iI (f))), (2, .int (iI (n)))] [] σ
  refine r_iload_n (pc := 0) C dX1_has_0 rfl 1 rfl ?_
  refine r_if_lt (pc := 1) C 30 hf dX1_has_1 (by decide) (fun h1 => ?_) (fun h1 => ?_)
  · skip
    refine r_iconst (pc := 30) C dX1_has_30 ?_
    exact r_retz (pc := 31) C (Or.inl rfl) (b01_0 (by omega)) (rfl) dX1_has_31
  · skip
    refine r_iload_n (pc := 4) C dX1_has_4 rfl 2 rfl ?_
    refine r_if_lt (pc := 5) C 30 hn dX1_has_5 (by decide) (fun h5 => ?_) (fun h5 => ?_)
    · skip
      refine r_iconst (pc := 30) C dX1_has_30 ?_
      exact r_retz (pc := 31) C (Or.inl rfl) (b01_0 (by omega)) (rfl) dX1_has_31
    · skip
      refine r_iload_n (pc := 8) C dX1_has_8 rfl 1 rfl ?_
      refine r_aload_n (pc := 9) C dX1_has_9 rfl 0 rfl ?_
      refine r_getI1 (pc := 10) C 2 (Rl_sh (by omega)) (O_sh (by omega)) (by decide) rfl t_207 dX1_has_10 ?_
      refine r_icmp_gt (pc := 13) C 30 hf ⟨by omega, by omega⟩ dX1_has_13 (by decide) (fun h13 => ?_) (fun h13 => ?_)
      · skip
        refine r_iconst (pc := 30) C dX1_has_30 ?_
        exact r_retz (pc := 31) C (Or.inl rfl) (b01_0 (by omega)) (rfl) dX1_has_31
      · skip
        refine r_iload_n (pc := 16) C dX1_has_16 rfl 2 rfl ?_
        refine r_aload_n (pc := 17) C dX1_has_17 rfl 0 rfl ?_
        refine r_getI1 (pc := 18) C 2 (Rl_sh (by omega)) (O_sh (by omega)) (by decide) rfl t_207 dX1_has_18 ?_
        refine r_iload_n (pc := 21) C dX1_has_21 rfl 1 rfl ?_
        refine r_isub (pc := 22) C dX1_has_22 ?_
        refine r_icmp_gt (pc := 23) C 30 hn ⟨by omega, by omega⟩ dX1_has_23 (by decide) (fun h23 => ?_) (fun h23 => ?_)
        · skip
          refine r_iconst (pc := 30) C dX1_has_30 ?_
          exact r_retz (pc := 31) C (Or.inl rfl) (b01_0 (by omega)) (rfl) dX1_has_31
        · skip
          refine r_iconst (pc := 26) C dX1_has_26 ?_
          refine r_goto (pc := 27) C 31 dX1_has_27 (by decide) ?_
          exact r_retz (pc := 31) C (Or.inr rfl) (b01_1 (by omega)) (rfl) dX1_has_31
set_option maxHeartbeats 4000000 in
set_option maxRecDepth 100000 in
theorem d_copy (g : Gt) (x f t o n : Int) (h_x : rng x) (h_f : rng f) (h_t : rng t) (h_o : rng o) (h_n : rng n) (σ : Sg) (hb : ∀ s, s < 4 → (σ (31 + 2 * s) 1 = 0 ∨ σ (31 + 2 * s) 1 = 8 ∨ σ (31 + 2 * s) 1 = 16 ∨ σ (31 + 2 * s) 1 = 32) ∧ 0 ≤ σ (31 + 2 * s) 2 ∧ σ (31 + 2 * s) 2 ≤ 40) : Mt g yX4_copy cX4_copy 6 (some FieldType.int) 1 [.ref (gA g 40), .int (iI (x)), .int (iI (f)), .int (iI (t)), .int (iI (o)), .int (iI (n))] σ (pT (if (0 ≤ x ∧ x < 4) ∧ 0 ≤ t ∧ t < 4 then (if σ (31 + 2 * x.toNat) 1 = 0 ∨ σ (31 + 2 * t.toNat) 1 = 0 then (-1000001 - ((5 : Nat) : Int)) else if σ (31 + 2 * x.toNat) 1 = σ (31 + 2 * t.toNat) 1 then (if (0 ≤ f ∧ 0 ≤ n ∧ f ≤ σ (31 + 2 * x.toNat) 2 ∧ n ≤ σ (31 + 2 * x.toNat) 2 - f) ∧ 0 ≤ o ∧ 0 ≤ n ∧ o ≤ σ (31 + 2 * t.toNat) 2 ∧ n ≤ σ (31 + 2 * t.toNat) 2 - o then n else (-1000001 - ((0 : Nat) : Int))) else (-1000001 - ((2 : Nat) : Int))) else (-1000001 - ((0 : Nat) : Int))) (if (0 ≤ x ∧ x < 4) ∧ 0 ≤ t ∧ t < 4 then (if σ (31 + 2 * x.toNat) 1 = 0 ∨ σ (31 + 2 * t.toNat) 1 = 0 then fin 5 σ else if σ (31 + 2 * x.toNat) 1 = σ (31 + 2 * t.toNat) 1 then (if (0 ≤ f ∧ 0 ≤ n ∧ f ≤ σ (31 + 2 * x.toNat) 2 ∧ n ≤ σ (31 + 2 * x.toNat) 2 - f) ∧ 0 ≤ o ∧ 0 ≤ n ∧ o ≤ σ (31 + 2 * t.toNat) 2 ∧ n ≤ σ (31 + 2 * t.toNat) 2 - o then us σ (32 + 2 * t.toNat) (cpy (σ (32 + 2 * x.toNat)) (σ (32 + 2 * t.toNat)) f.toNat o.toNat n.toNat) else fin 0 σ) else fin 2 σ) else fin 0 σ)) := by
  have ho_x := h_x.1; have hp_x := h_x.2
  have ho_f := h_f.1; have hp_f := h_f.2
  have ho_t := h_t.1; have hp_t := h_t.2
  have ho_o := h_o.1; have hp_o := h_o.2
  have ho_n := h_n.1; have hp_n := h_n.2
  refine mt_of (own := RX4) (by decide) rfl (Nat.le_of_ble_eq_true rfl) (fun E C => ?_)
  show J g E (pT (if (0 ≤ x ∧ x < 4) ∧ 0 ≤ t ∧ t < 4 then (if σ (31 + 2 * x.toNat) 1 = 0 ∨ σ (31 + 2 * t.toNat) 1 = 0 then (-1000001 - ((5 : Nat) : Int)) else if σ (31 + 2 * x.toNat) 1 = σ (31 + 2 * t.toNat) 1 then (if (0 ≤ f ∧ 0 ≤ n ∧ f ≤ σ (31 + 2 * x.toNat) 2 ∧ n ≤ σ (31 + 2 * x.toNat) 2 - f) ∧ 0 ≤ o ∧ 0 ≤ n ∧ o ≤ σ (31 + 2 * t.toNat) 2 ∧ n ≤ σ (31 + 2 * t.toNat) 2 - o then n else (-1000001 - ((0 : Nat) : Int))) else (-1000001 - ((2 : Nat) : Int))) else (-1000001 - ((0 : Nat) : Int))) (if (0 ≤ x ∧ x < 4) ∧ 0 ≤ t ∧ t < 4 then (if σ (31 + 2 * x.toNat) 1 = 0 ∨ σ (31 + 2 * t.toNat) 1 = 0 then fin 5 σ else if σ (31 + 2 * x.toNat) 1 = σ (31 + 2 * t.toNat) 1 then (if (0 ≤ f ∧ 0 ≤ n ∧ f ≤ σ (31 + 2 * x.toNat) 2 ∧ n ≤ σ (31 + 2 * x.toNat) 2 - f) ∧ 0 ≤ o ∧ 0 ≤ n ∧ o ≤ σ (31 + 2 * t.toNat) 2 ∧ n ≤ σ (31 + 2 * t.toNat) 2 - o then us σ (32 + 2 * t.toNat) (cpy (σ (32 + 2 * x.toNat)) (σ (32 + 2 * t.toNat)) f.toNat o.toNat n.toNat) else fin 0 σ) else fin 2 σ) else fin 0 σ)) 6 0 [(0, .ref (gA g 40)), (1, .int (iI (x))), (2, .int (iI (f))), (3, .int (iI (t))), (4, .int (iI (o))), (5, .int (iI (n)))] [] σ
  refine r_iload_n (pc := 0) C dX4_copy_0 rfl 1 rfl ?_
  refine r_cSi (pc := 1) C (c_isSheet g x h_x σ) yX4_isSheet_w rfl t_515 ⟨by decide, by decide⟩ (Nat.le_of_ble_eq_true rfl) rfl dX4_copy_1 ?_
  refine r_ifz_eq (pc := 4) C 14 dX4_copy_4 (by decide) (fun h4 => ?_) (fun h4 => ?_)
  · skip
    refine r_aload_n (pc := 14) C dX4_copy_14 rfl 0 rfl ?_
    refine r_iconst (pc := 15) C dX4_copy_15 ?_
    refine r_cVi (pc := 16) C (c_finding g 0 (by decide) σ) yX4_finding_w O_40 rfl rfl t_251 ⟨by decide, by decide⟩ (Nat.le_of_ble_eq_true rfl) rfl dX4_copy_16 ?_
    exact r_retT (pc := 19) C (by first | (exfalso; omega; done) | ((try (first | rw [if_pos (by omega)] | rw [if_neg (by omega)])); (try (first | rw [if_pos (by omega)] | rw [if_neg (by omega)])); (try (first | rw [if_pos (by omega)] | rw [if_neg (by omega)])); (try (first | rw [if_pos (by omega)] | rw [if_neg (by omega)])); (try rfl))) (fun k _ => congrFun (by first | (exfalso; omega; done) | ((try (first | rw [if_pos (by omega)] | rw [if_neg (by omega)])); (try (first | rw [if_pos (by omega)] | rw [if_neg (by omega)])); (try (first | rw [if_pos (by omega)] | rw [if_neg (by omega)])); (try (first | rw [if_pos (by omega)] | rw [if_neg (by omega)])); (try rfl))) k) dX4_copy_19
  · skip
    refine r_iload_n (pc := 7) C dX4_copy_7 rfl 3 rfl ?_
    refine r_cSi (pc := 8) C (c_isSheet g t h_t σ) yX4_isSheet_w rfl t_515 ⟨by decide, by decide⟩ (Nat.le_of_ble_eq_true rfl) rfl dX4_copy_8 ?_
    refine r_ifz_ne (pc := 11) C 20 dX4_copy_11 (by decide) (fun h11 => ?_) (fun h11 => ?_)
    · skip
      have hbx := hb x.toNat (by omega)
      have hbt := hb t.toNat (by omega)
      refine r_aload_n (pc := 20) C dX4_copy_20 rfl 0 rfl ?_
      refine r_getR4 (pc := 21) C 6 (k' := 30) rfl O_40 (by decide) rfl t_222 dX4_copy_21 ?_
      refine r_iload_n (pc := 24) C dX4_copy_24 rfl 1 rfl ?_
      refine r_aald (pc := 25) C x.toNat (by omega) (by omega) dX4_copy_25 ?_
      refine r_getI1 (pc := 26) C 1 (Rb_sh (by omega)) (O_sh (by omega)) (by decide) rfl t_206 dX4_copy_26 ?_
      refine r_if_eq (pc := 29) C 44 ⟨by omega, by omega⟩ dX4_copy_29 (by decide) (fun h29 => ?_) (fun h29 => ?_)
      · skip
        refine r_aload_n (pc := 44) C dX4_copy_44 rfl 0 rfl ?_
        refine r_iconst (pc := 45) C dX4_copy_45 ?_
        refine r_cVi (pc := 46) C (c_finding g 5 (by decide) σ) yX4_finding_w O_40 rfl rfl t_251 ⟨by decide, by decide⟩ (Nat.le_of_ble_eq_true rfl) rfl dX4_copy_46 ?_
        exact r_retT (pc := 49) C (by first | (exfalso; omega; done) | ((try (first | rw [if_pos (by omega)] | rw [if_neg (by omega)])); (try (first | rw [if_pos (by omega)] | rw [if_neg (by omega)])); (try (first | rw [if_pos (by omega)] | rw [if_neg (by omega)])); (try (first | rw [if_pos (by omega)] | rw [if_neg (by omega)])); (try rfl))) (fun k _ => congrFun (by first | (exfalso; omega; done) | ((try (first | rw [if_pos (by omega)] | rw [if_neg (by omega)])); (try (first | rw [if_pos (by omega)] | rw [if_neg (by omega)])); (try (first | rw [if_pos (by omega)] | rw [if_neg (by omega)])); (try (first | rw [if_pos (by omega)] | rw [if_neg (by omega)])); (try rfl))) k) dX4_copy_49
      · skip
        refine r_aload_n (pc := 32) C dX4_copy_32 rfl 0 rfl ?_
        refine r_getR4 (pc := 33) C 6 (k' := 30) rfl O_40 (by decide) rfl t_222 dX4_copy_33 ?_
        refine r_iload_n (pc := 36) C dX4_copy_36 rfl 3 rfl ?_
        refine r_aald (pc := 37) C t.toNat (by omega) (by omega) dX4_copy_37 ?_
        refine r_getI1 (pc := 38) C 1 (Rb_sh (by omega)) (O_sh (by omega)) (by decide) rfl t_206 dX4_copy_38 ?_
        refine r_if_ne (pc := 41) C 50 ⟨by omega, by omega⟩ dX4_copy_41 (by decide) (fun h41 => ?_) (fun h41 => ?_)
        · skip
          refine r_aload_n (pc := 50) C dX4_copy_50 rfl 0 rfl ?_
          refine r_getR4 (pc := 51) C 6 (k' := 30) rfl O_40 (by decide) rfl t_222 dX4_copy_51 ?_
          refine r_iload_n (pc := 54) C dX4_copy_54 rfl 1 rfl ?_
          refine r_aald (pc := 55) C x.toNat (by omega) (by omega) dX4_copy_55 ?_
          refine r_getI1 (pc := 56) C 1 (Rb_sh (by omega)) (O_sh (by omega)) (by decide) rfl t_206 dX4_copy_56 ?_
          refine r_aload_n (pc := 59) C dX4_copy_59 rfl 0 rfl ?_
          refine r_getR4 (pc := 60) C 6 (k' := 30) rfl O_40 (by decide) rfl t_222 dX4_copy_60 ?_
          refine r_iload_n (pc := 63) C dX4_copy_63 rfl 3 rfl ?_
          refine r_aald (pc := 64) C t.toNat (by omega) (by omega) dX4_copy_64 ?_
          refine r_getI1 (pc := 65) C 1 (Rb_sh (by omega)) (O_sh (by omega)) (by decide) rfl t_206 dX4_copy_65 ?_
          refine r_icmp_eq (pc := 68) C 77 ⟨by omega, by omega⟩ ⟨by omega, by omega⟩ dX4_copy_68 (by decide) (fun h68 => ?_) (fun h68 => ?_)
          · skip
            refine r_aload_n (pc := 77) C dX4_copy_77 rfl 0 rfl ?_
            refine r_getR4 (pc := 78) C 6 (k' := 30) rfl O_40 (by decide) rfl t_222 dX4_copy_78 ?_
            refine r_iload_n (pc := 81) C dX4_copy_81 rfl 1 rfl ?_
            refine r_aald (pc := 82) C x.toNat (by omega) (by omega) dX4_copy_82 ?_
            refine r_iload_n (pc := 83) C dX4_copy_83 rfl 2 rfl ?_
            refine r_iload (pc := 84) C dX4_copy_84 5 rfl ?_
            refine r_cVi (pc := 86) C (c_has g x.toNat (by omega) f n h_f h_n σ (by omega)) yX1_has_w (O_sh (by omega)) rfl rfl t_736 ⟨by decide, by decide⟩ (Nat.le_of_ble_eq_true rfl) rfl dX4_copy_86 ?_
            refine r_ifz_eq (pc := 89) C 108 dX4_copy_89 (by decide) (fun h89 => ?_) (fun h89 => ?_)
            · skip
              refine r_aload_n (pc := 108) C dX4_copy_108 rfl 0 rfl ?_
              refine r_iconst (pc := 109) C dX4_copy_109 ?_
              refine r_cVi (pc := 110) C (c_finding g 0 (by decide) σ) yX4_finding_w O_40 rfl rfl t_251 ⟨by decide, by decide⟩ (Nat.le_of_ble_eq_true rfl) rfl dX4_copy_110 ?_
              exact r_retT (pc := 113) C (by first | (exfalso; omega; done) | ((try (first | rw [if_pos (by omega)] | rw [if_neg (by omega)])); (try (first | rw [if_pos (by omega)] | rw [if_neg (by omega)])); (try (first | rw [if_pos (by omega)] | rw [if_neg (by omega)])); (try (first | rw [if_pos (by omega)] | rw [if_neg (by omega)])); (try rfl))) (fun k _ => congrFun (by first | (exfalso; omega; done) | ((try (first | rw [if_pos (by omega)] | rw [if_neg (by omega)])); (try (first | rw [if_pos (by omega)] | rw [if_neg (by omega)])); (try (first | rw [if_pos (by omega)] | rw [if_neg (by omega)])); (try (first | rw [if_pos (by omega)] | rw [if_neg (by omega)])); (try rfl))) k) dX4_copy_113
            · skip
              refine r_aload_n (pc := 92) C dX4_copy_92 rfl 0 rfl ?_
              refine r_getR4 (pc := 93) C 6 (k' := 30) rfl O_40 (by decide) rfl t_222 dX4_copy_93 ?_
              refine r_iload_n (pc := 96) C dX4_copy_96 rfl 3 rfl ?_
              refine r_aald (pc := 97) C t.toNat (by omega) (by omega) dX4_copy_97 ?_
              refine r_iload (pc := 98) C dX4_copy_98 4 rfl ?_
              refine r_iload (pc := 100) C dX4_copy_100 5 rfl ?_
              refine r_cVi (pc := 102) C (c_has g t.toNat (by omega) o n h_o h_n σ (by omega)) yX1_has_w (O_sh (by omega)) rfl rfl t_736 ⟨by decide, by decide⟩ (Nat.le_of_ble_eq_true rfl) rfl dX4_copy_102 ?_
              refine r_ifz_ne (pc := 105) C 114 dX4_copy_105 (by decide) (fun h105 => ?_) (fun h105 => ?_)
              · skip
                refine r_aload_n (pc := 114) C dX4_copy_114 rfl 0 rfl ?_
                refine r_getR4 (pc := 115) C 6 (k' := 30) rfl O_40 (by decide) rfl t_222 dX4_copy_115 ?_
                refine r_iload_n (pc := 118) C dX4_copy_118 rfl 1 rfl ?_
                refine r_aald (pc := 119) C x.toNat (by omega) (by omega) dX4_copy_119 ?_
                refine r_getR1 (pc := 120) C 0 (k' := (32 + 2 * x.toNat)) (Rn_sh (by omega)) (O_sh (by omega)) (by decide) rfl t_204 dX4_copy_120 ?_
                refine r_iload_n (pc := 123) C dX4_copy_123 rfl 2 rfl ?_
                refine r_aload_n (pc := 124) C dX4_copy_124 rfl 0 rfl ?_
                refine r_getR4 (pc := 125) C 6 (k' := 30) rfl O_40 (by decide) rfl t_222 dX4_copy_125 ?_
                refine r_iload_n (pc := 128) C dX4_copy_128 rfl 3 rfl ?_
                refine r_aald (pc := 129) C t.toNat (by omega) (by omega) dX4_copy_129 ?_
                refine r_getR1 (pc := 130) C 0 (k' := (32 + 2 * t.toNat)) (Rn_sh (by omega)) (O_sh (by omega)) (by decide) rfl t_204 dX4_copy_130 ?_
                refine r_iload (pc := 133) C dX4_copy_133 4 rfl ?_
                refine r_iload (pc := 135) C dX4_copy_135 5 rfl ?_
                refine r_copy (pc := 137) C f.toNat o.toNat n.toNat (A_sh (by omega)) (A_sh (by omega)) (by omega) (by omega) (by omega) (by omega) (by omega) (by decide) (Nat.le_of_ble_eq_true rfl) t_740 dX4_copy_137 ?_
                refine r_iload (pc := 140) C dX4_copy_140 5 rfl ?_
                exact r_retT (pc := 142) C (by first | (exfalso; omega; done) | ((try (first | rw [if_pos (by omega)] | rw [if_neg (by omega)])); (try (first | rw [if_pos (by omega)] | rw [if_neg (by omega)])); (try (first | rw [if_pos (by omega)] | rw [if_neg (by omega)])); (try (first | rw [if_pos (by omega)] | rw [if_neg (by omega)])); (try rfl))) (fun k _ => congrFun (by first | (exfalso; omega; done) | ((try (first | rw [if_pos (by omega)] | rw [if_neg (by omega)])); (try (first | rw [if_pos (by omega)] | rw [if_neg (by omega)])); (try (first | rw [if_pos (by omega)] | rw [if_neg (by omega)])); (try (first | rw [if_pos (by omega)] | rw [if_neg (by omega)])); (try rfl))) k) dX4_copy_142
              · skip
                refine r_aload_n (pc := 108) C dX4_copy_108 rfl 0 rfl ?_
                refine r_iconst (pc := 109) C dX4_copy_109 ?_
                refine r_cVi (pc := 110) C (c_finding g 0 (by decide) σ) yX4_finding_w O_40 rfl rfl t_251 ⟨by decide, by decide⟩ (Nat.le_of_ble_eq_true rfl) rfl dX4_copy_110 ?_
                exact r_retT (pc := 113) C (by first | (exfalso; omega; done) | ((try (first | rw [if_pos (by omega)] | rw [if_neg (by omega)])); (try (first | rw [if_pos (by omega)] | rw [if_neg (by omega)])); (try (first | rw [if_pos (by omega)] | rw [if_neg (by omega)])); (try (first | rw [if_pos (by omega)] | rw [if_neg (by omega)])); (try rfl))) (fun k _ => congrFun (by first | (exfalso; omega; done) | ((try (first | rw [if_pos (by omega)] | rw [if_neg (by omega)])); (try (first | rw [if_pos (by omega)] | rw [if_neg (by omega)])); (try (first | rw [if_pos (by omega)] | rw [if_neg (by omega)])); (try (first | rw [if_pos (by omega)] | rw [if_neg (by omega)])); (try rfl))) k) dX4_copy_113
          · skip
            refine r_aload_n (pc := 71) C dX4_copy_71 rfl 0 rfl ?_
            refine r_iconst (pc := 72) C dX4_copy_72 ?_
            refine r_cVi (pc := 73) C (c_finding g 2 (by decide) σ) yX4_finding_w O_40 rfl rfl t_251 ⟨by decide, by decide⟩ (Nat.le_of_ble_eq_true rfl) rfl dX4_copy_73 ?_
            exact r_retT (pc := 76) C (by first | (exfalso; omega; done) | ((try (first | rw [if_pos (by omega)] | rw [if_neg (by omega)])); (try (first | rw [if_pos (by omega)] | rw [if_neg (by omega)])); (try (first | rw [if_pos (by omega)] | rw [if_neg (by omega)])); (try (first | rw [if_pos (by omega)] | rw [if_neg (by omega)])); (try rfl))) (fun k _ => congrFun (by first | (exfalso; omega; done) | ((try (first | rw [if_pos (by omega)] | rw [if_neg (by omega)])); (try (first | rw [if_pos (by omega)] | rw [if_neg (by omega)])); (try (first | rw [if_pos (by omega)] | rw [if_neg (by omega)])); (try (first | rw [if_pos (by omega)] | rw [if_neg (by omega)])); (try rfl))) k) dX4_copy_76
        · skip
          refine r_aload_n (pc := 44) C dX4_copy_44 rfl 0 rfl ?_
          refine r_iconst (pc := 45) C dX4_copy_45 ?_
          refine r_cVi (pc := 46) C (c_finding g 5 (by decide) σ) yX4_finding_w O_40 rfl rfl t_251 ⟨by decide, by decide⟩ (Nat.le_of_ble_eq_true rfl) rfl dX4_copy_46 ?_
          exact r_retT (pc := 49) C (by first | (exfalso; omega; done) | ((try (first | rw [if_pos (by omega)] | rw [if_neg (by omega)])); (try (first | rw [if_pos (by omega)] | rw [if_neg (by omega)])); (try (first | rw [if_pos (by omega)] | rw [if_neg (by omega)])); (try (first | rw [if_pos (by omega)] | rw [if_neg (by omega)])); (try rfl))) (fun k _ => congrFun (by first | (exfalso; omega; done) | ((try (first | rw [if_pos (by omega)] | rw [if_neg (by omega)])); (try (first | rw [if_pos (by omega)] | rw [if_neg (by omega)])); (try (first | rw [if_pos (by omega)] | rw [if_neg (by omega)])); (try (first | rw [if_pos (by omega)] | rw [if_neg (by omega)])); (try rfl))) k) dX4_copy_49
    · skip
      refine r_aload_n (pc := 14) C dX4_copy_14 rfl 0 rfl ?_
      refine r_iconst (pc := 15) C dX4_copy_15 ?_
      refine r_cVi (pc := 16) C (c_finding g 0 (by decide) σ) yX4_finding_w O_40 rfl rfl t_251 ⟨by decide, by decide⟩ (Nat.le_of_ble_eq_true rfl) rfl dX4_copy_16 ?_
      exact r_retT (pc := 19) C (by first | (exfalso; omega; done) | ((try (first | rw [if_pos (by omega)] | rw [if_neg (by omega)])); (try (first | rw [if_pos (by omega)] | rw [if_neg (by omega)])); (try (first | rw [if_pos (by omega)] | rw [if_neg (by omega)])); (try (first | rw [if_pos (by omega)] | rw [if_neg (by omega)])); (try rfl))) (fun k _ => congrFun (by first | (exfalso; omega; done) | ((try (first | rw [if_pos (by omega)] | rw [if_neg (by omega)])); (try (first | rw [if_pos (by omega)] | rw [if_neg (by omega)])); (try (first | rw [if_pos (by omega)] | rw [if_neg (by omega)])); (try (first | rw [if_pos (by omega)] | rw [if_neg (by omega)])); (try rfl))) k) dX4_copy_19
set_option maxHeartbeats 4000000 in
set_option maxRecDepth 100000 in
theorem d_load (g : Gt) (x : Int) (h_x : rng x) (σ : Sg) (hb : ∀ s, s < 4 → (σ (31 + 2 * s) 1 = 0 ∨ σ (31 + 2 * s) 1 = 8 ∨ σ (31 + 2 * s) 1 = 16 ∨ σ (31 + 2 * s) 1 = 32) ∧ 0 ≤ σ (31 + 2 * s) 2 ∧ σ (31 + 2 * s) 2 ≤ 40) (hN : ∀ s, s < 4 → ∀ j, j < 40 → rng (σ (32 + 2 * s) j)) : Mt g yX4_load cX4_load 4 (some FieldType.int) 1 [.ref (gA g 40), .int (iI (x))] σ (pT (if 0 ≤ x ∧ x < 4 then (if σ (31 + 2 * x.toNat) 1 = 0 then (-1000001 - ((5 : Nat) : Int)) else ((ldc (σ (32 + 2 * x.toNat)) (σ (31 + 2 * x.toNat) 2) 13 0 : Nat) : Int)) else (-1000001 - ((0 : Nat) : Int))) (if 0 ≤ x ∧ x < 4 then (if σ (31 + 2 * x.toNat) 1 = 0 then fin 5 σ else us σ 1 (mapTo (σ (32 + 2 * x.toNat)) (σ 1) (ldc (σ (32 + 2 * x.toNat)) (σ (31 + 2 * x.toNat) 2) 13 0))) else fin 0 σ)) := by
  have ho_x := h_x.1; have hp_x := h_x.2
  refine mt_of (own := RX4) (by decide) rfl (Nat.le_of_ble_eq_true rfl) (fun E C => ?_)
  show J g E (pT (if 0 ≤ x ∧ x < 4 then (if σ (31 + 2 * x.toNat) 1 = 0 then (-1000001 - ((5 : Nat) : Int)) else ((ldc (σ (32 + 2 * x.toNat)) (σ (31 + 2 * x.toNat) 2) 13 0 : Nat) : Int)) else (-1000001 - ((0 : Nat) : Int))) (if 0 ≤ x ∧ x < 4 then (if σ (31 + 2 * x.toNat) 1 = 0 then fin 5 σ else us σ 1 (mapTo (σ (32 + 2 * x.toNat)) (σ 1) (ldc (σ (32 + 2 * x.toNat)) (σ (31 + 2 * x.toNat) 2) 13 0))) else fin 0 σ)) 4 0 [(0, .ref (gA g 40)), (1, .int (iI (x)))] [] σ
  refine r_iload_n (pc := 0) C dX4_load_0 rfl 1 rfl ?_
  refine r_cSi (pc := 1) C (c_isSheet g x h_x σ) yX4_isSheet_w rfl t_515 ⟨by decide, by decide⟩ (Nat.le_of_ble_eq_true rfl) rfl dX4_load_1 ?_
  refine r_ifz_ne (pc := 4) C 13 dX4_load_4 (by decide) (fun h4 => ?_) (fun h4 => ?_)
  · skip
    have hbx := hb x.toNat (by omega)
    refine r_aload_n (pc := 13) C dX4_load_13 rfl 0 rfl ?_
    refine r_getR4 (pc := 14) C 6 (k' := 30) rfl O_40 (by decide) rfl t_222 dX4_load_14 ?_
    refine r_iload_n (pc := 17) C dX4_load_17 rfl 1 rfl ?_
    refine r_aald (pc := 18) C x.toNat (by omega) (by omega) dX4_load_18 ?_
    refine r_astore_n (pc := 19) C dX4_load_19 rfl (by decide) [1, 2, 0] (lv' := [(0, .ref (gA g 40)), (1, .int (iI (x))), (2, .ref (gA g (31 + 2 * x.toNat)))]) rfl ?_
    refine r_aload_n (pc := 20) C dX4_load_20 rfl 2 rfl ?_
    refine r_getI1 (pc := 21) C 1 (Rb_sh (by omega)) (O_sh (by omega)) (by decide) rfl t_206 dX4_load_21 ?_
    refine r_if_ne (pc := 24) C 33 ⟨by omega, by omega⟩ dX4_load_24 (by decide) (fun h24 => ?_) (fun h24 => ?_)
    · skip
      refine r_iconst (pc := 33) C dX4_load_33 ?_
      refine r_istore_n (pc := 34) C dX4_load_34 rfl (by decide) [1, 2, 3, 0] (lv' := [(0, .ref (gA g 40)), (1, .int (iI (x))), (2, .ref (gA g (31 + 2 * x.toNat))), (3, .int (iI (0)))]) rfl ?_
      have L35 : ∀ (n_ : Nat) (i : Nat) (x35_3 : Int) (s35 : Sg), 13 - i < n_ → (i ≤ 12) → (ldc (σ (32 + 2 * x.toNat)) (σ (31 + 2 * x.toNat) 2) 13 0 = ldc (σ (32 + 2 * x.toNat)) (σ (31 + 2 * x.toNat) 2) (13 - i) i) → x35_3 = (i : Int) → s35 = (us σ 1 (mapTo (σ (32 + 2 * x.toNat)) (σ 1) i)) → J g E (pT (if 0 ≤ x ∧ x < 4 then (if σ (31 + 2 * x.toNat) 1 = 0 then (-1000001 - ((5 : Nat) : Int)) else ((ldc (σ (32 + 2 * x.toNat)) (σ (31 + 2 * x.toNat) 2) 13 0 : Nat) : Int)) else (-1000001 - ((0 : Nat) : Int))) (if 0 ≤ x ∧ x < 4 then (if σ (31 + 2 * x.toNat) 1 = 0 then fin 5 σ else us σ 1 (mapTo (σ (32 + 2 * x.toNat)) (σ 1) (ldc (σ (32 + 2 * x.toNat)) (σ (31 + 2 * x.toNat) 2) 13 0))) else fin 0 σ)) 4 35 [(0, .ref (gA g 40)), (1, .int (iI (x))), (2, .ref (gA g (31 + 2 * x.toNat))), (3, .int (iI (x35_3)))] [] s35 := by
        intro n_
        induction n_ with
        | zero => intro i x35_3 s35 hm_; exact absurd hm_ (Nat.not_lt_zero _)
        | succ n_ ih35 =>
          intro i x35_3 s35 hm35 hi35_0 hi35_1 e35_0 es35
          subst e35_0 es35
          refine r_iload_n (pc := 35) C dX4_load_35 rfl 3 rfl ?_
          refine r_aload_n (pc := 36) C dX4_load_36 rfl 2 rfl ?_
          refine r_getI1 (pc := 37) C 2 (Rl_sh (by omega)) (O_sh (by omega)) (by decide) rfl t_208 dX4_load_37 ?_
          refine r_top (us_o2 _ _ _ (by omega)) ?_
          refine r_icmp_ge (pc := 40) C 86 ⟨by omega, by omega⟩ ⟨by omega, by omega⟩ dX4_load_40 (by decide) (fun h40 => ?_) (fun h40 => ?_)
          · skip
            have he : ldc (σ (32 + 2 * x.toNat)) (σ (31 + 2 * x.toNat) 2) 13 0 = i := by rw [hi35_1, show 13 - i = 13 - (i + 1) + 1 by omega, ldc, if_neg (by omega)]
            refine r_iload_n (pc := 86) C dX4_load_86 rfl 3 rfl ?_
            exact r_retT (pc := 87) C (by rw [if_pos (by omega), if_neg (by omega), he]) (fun k _ => congrFun (by rw [if_pos (by omega), if_neg (by omega), he]) k) dX4_load_87
          · skip
            refine r_iload_n (pc := 43) C dX4_load_43 rfl 3 rfl ?_
            refine r_bipush (pc := 44) C dX4_load_44 (by decide) ?_
            refine r_icmp_ge (pc := 46) C 86 ⟨by omega, by omega⟩ ⟨by omega, by omega⟩ dX4_load_46 (by decide) (fun h46 => ?_) (fun h46 => ?_)
            · skip
              have he : ldc (σ (32 + 2 * x.toNat)) (σ (31 + 2 * x.toNat) 2) 13 0 = i := by rw [hi35_1, show 13 - i = 13 - (i + 1) + 1 by omega, ldc, if_neg (by omega)]
              refine r_iload_n (pc := 86) C dX4_load_86 rfl 3 rfl ?_
              exact r_retT (pc := 87) C (by rw [if_pos (by omega), if_neg (by omega), he]) (fun k _ => congrFun (by rw [if_pos (by omega), if_neg (by omega), he]) k) dX4_load_87
            · skip
              refine r_aload_n (pc := 49) C dX4_load_49 rfl 2 rfl ?_
              refine r_getR1 (pc := 50) C 0 (k' := (32 + 2 * x.toNat)) (Rn_sh (by omega)) (O_sh (by omega)) (by decide) rfl t_204 dX4_load_50 ?_
              refine r_iload_n (pc := 53) C dX4_load_53 rfl 3 rfl ?_
              refine r_iald (pc := 54) C i (A_sh (by omega)) (by omega) (by omega) dX4_load_54 ?_
              refine r_top (us_o2 _ _ _ (by omega)) ?_
              have hnr := hN x.toNat (by omega) i (by omega)
              have hn1 := hnr.1; have hn2 := hnr.2
              refine r_iconst (pc := 55) C dX4_load_55 ?_
              refine r_sipush (pc := 56) C dX4_load_56 (by decide) ?_
              refine r_cSi (pc := 59) C (c_isWithin g (σ (32 + 2 * x.toNat) i) 0 9999 ⟨by omega, by omega⟩ ⟨by omega, by omega⟩ ⟨by omega, by omega⟩ (us σ 1 (mapTo (σ (32 + 2 * x.toNat)) (σ 1) i))) yX4_isWithin_w rfl t_248 ⟨by decide, by decide⟩ (Nat.le_of_ble_eq_true rfl) rfl dX4_load_59 ?_
              refine r_ifz_eq (pc := 62) C 86 dX4_load_62 (by decide) (fun h62 => ?_) (fun h62 => ?_)
              · skip
                have he : ldc (σ (32 + 2 * x.toNat)) (σ (31 + 2 * x.toNat) 2) 13 0 = i := by rw [hi35_1, show 13 - i = 13 - (i + 1) + 1 by omega, ldc, if_neg (by omega)]
                refine r_iload_n (pc := 86) C dX4_load_86 rfl 3 rfl ?_
                exact r_retT (pc := 87) C (by rw [if_pos (by omega), if_neg (by omega), he]) (fun k _ => congrFun (by rw [if_pos (by omega), if_neg (by omega), he]) k) dX4_load_87
              · skip
                refine r_aload_n (pc := 65) C dX4_load_65 rfl 0 rfl ?_
                refine r_getR4 (pc := 66) C 0 (k' := 0) rfl O_40 (by decide) rfl t_216 dX4_load_66 ?_
                refine r_getR0 (pc := 69) C 0 (k' := 1) rfl O_0 (by decide) rfl t_104 dX4_load_69 ?_
                refine r_iload_n (pc := 72) C dX4_load_72 rfl 3 rfl ?_
                refine r_aload_n (pc := 73) C dX4_load_73 rfl 2 rfl ?_
                refine r_getR1 (pc := 74) C 0 (k' := (32 + 2 * x.toNat)) (Rn_sh (by omega)) (O_sh (by omega)) (by decide) rfl t_204 dX4_load_74 ?_
                refine r_iload_n (pc := 77) C dX4_load_77 rfl 3 rfl ?_
                refine r_iald (pc := 78) C i (A_sh (by omega)) (by omega) (by omega) dX4_load_78 ?_
                refine r_top (us_o2 _ _ _ (by omega)) ?_
                refine r_iast (pc := 79) C i A_1 (by omega) (by omega) dX4_load_79 ?_
                refine r_iinc (pc := 80) C dX4_load_80 3 rfl (by decide) [1, 2, 3, 0] (lv' := [(0, .ref (gA g 40)), (1, .int (iI (x))), (2, .ref (gA g (31 + 2 * x.toNat))), (3, .int (iI ((i : Int) + 1)))]) rfl ?_
                refine r_goto (pc := 83) C 35 dX4_load_83 (by decide) ?_
                exact ih35 (i + 1) _ _ (by omega) (by omega) (by rw [hi35_1, show 13 - i = 13 - (i + 1) + 1 by omega, ldc, if_pos (by omega)]) (by omega) ((wr_us _ _ _ _ _).trans (congrArg (us _ 1) (mapTo_s _ _ _)))
      exact L35 _ 0 _ _ (Nat.lt_succ_self _) (by omega) (by rfl) (rfl) (by rw [mapTo_0, us_id])
    · skip
      refine r_aload_n (pc := 27) C dX4_load_27 rfl 0 rfl ?_
      refine r_iconst (pc := 28) C dX4_load_28 ?_
      refine r_cVi (pc := 29) C (c_finding g 5 (by decide) σ) yX4_finding_w O_40 rfl rfl t_251 ⟨by decide, by decide⟩ (Nat.le_of_ble_eq_true rfl) rfl dX4_load_29 ?_
      exact r_retT (pc := 32) C (by first | (exfalso; omega; done) | ((try (first | rw [if_pos (by omega)] | rw [if_neg (by omega)])); (try (first | rw [if_pos (by omega)] | rw [if_neg (by omega)])); (try (first | rw [if_pos (by omega)] | rw [if_neg (by omega)])); (try (first | rw [if_pos (by omega)] | rw [if_neg (by omega)])); (try rfl))) (fun k _ => congrFun (by first | (exfalso; omega; done) | ((try (first | rw [if_pos (by omega)] | rw [if_neg (by omega)])); (try (first | rw [if_pos (by omega)] | rw [if_neg (by omega)])); (try (first | rw [if_pos (by omega)] | rw [if_neg (by omega)])); (try (first | rw [if_pos (by omega)] | rw [if_neg (by omega)])); (try rfl))) k) dX4_load_32
  · skip
    refine r_aload_n (pc := 7) C dX4_load_7 rfl 0 rfl ?_
    refine r_iconst (pc := 8) C dX4_load_8 ?_
    refine r_cVi (pc := 9) C (c_finding g 0 (by decide) σ) yX4_finding_w O_40 rfl rfl t_251 ⟨by decide, by decide⟩ (Nat.le_of_ble_eq_true rfl) rfl dX4_load_9 ?_
    exact r_retT (pc := 12) C (by first | (exfalso; omega; done) | ((try (first | rw [if_pos (by omega)] | rw [if_neg (by omega)])); (try (first | rw [if_pos (by omega)] | rw [if_neg (by omega)])); (try (first | rw [if_pos (by omega)] | rw [if_neg (by omega)])); (try (first | rw [if_pos (by omega)] | rw [if_neg (by omega)])); (try rfl))) (fun k _ => congrFun (by first | (exfalso; omega; done) | ((try (first | rw [if_pos (by omega)] | rw [if_neg (by omega)])); (try (first | rw [if_pos (by omega)] | rw [if_neg (by omega)])); (try (first | rw [if_pos (by omega)] | rw [if_neg (by omega)])); (try (first | rw [if_pos (by omega)] | rw [if_neg (by omega)])); (try rfl))) k) dX4_load_12
set_option maxHeartbeats 4000000 in
set_option maxRecDepth 100000 in
theorem d_judge (g : Gt) (x : Int) (h_x : rng x) (σ : Sg) (hW : RW σ 0) (hb : ∀ s, s < 4 → (σ (31 + 2 * s) 1 = 0 ∨ σ (31 + 2 * s) 1 = 8 ∨ σ (31 + 2 * s) 1 = 16 ∨ σ (31 + 2 * s) 1 = 32) ∧ 0 ≤ σ (31 + 2 * s) 2 ∧ σ (31 + 2 * s) 2 ≤ 40) (hN : ∀ s, s < 4 → ∀ j, j < 40 → rng (σ (32 + 2 * s) j)) : Mt g yX4_judge cX4_judge 4 (some FieldType.int) 1 [.ref (gA g 40), .int (iI (x))] σ (pT (if 0 ≤ x ∧ x < 4 then (if σ (31 + 2 * x.toNat) 1 = 0 then (-1000001 - ((5 : Nat) : Int)) else jdc (σ (32 + 2 * x.toNat)) (σ (31 + 2 * x.toNat) 2) (σ 0 7) (σ 6) 41 0) else (-1000001 - ((0 : Nat) : Int))) (if 0 ≤ x ∧ x < 4 then (if σ (31 + 2 * x.toNat) 1 = 0 then fin 5 σ else σ) else fin 0 σ)) := by
  obtain ⟨hn, hfl, hw, hdy, hz, hD_, hK_, hA_, hG_, hM_, hP_⟩ := id hW
  have hD : rgD (σ 1) := hD_
  have hK : rgK (σ 3) := hK_
  have hA : rgA (σ 4) := hA_
  have hG : rgG (σ 5) := hG_
  have hM : rgM (σ 6) := hM_
  have hP : ∀ j, j < 10 → -1 ≤ σ 7 j ∧ σ 7 j < σ 0 7 := hP_
  have ho_x := h_x.1; have hp_x := h_x.2
  refine mt_of (own := RX4) (by decide) rfl (Nat.le_of_ble_eq_true rfl) (fun E C => ?_)
  show J g E (pT (if 0 ≤ x ∧ x < 4 then (if σ (31 + 2 * x.toNat) 1 = 0 then (-1000001 - ((5 : Nat) : Int)) else jdc (σ (32 + 2 * x.toNat)) (σ (31 + 2 * x.toNat) 2) (σ 0 7) (σ 6) 41 0) else (-1000001 - ((0 : Nat) : Int))) (if 0 ≤ x ∧ x < 4 then (if σ (31 + 2 * x.toNat) 1 = 0 then fin 5 σ else σ) else fin 0 σ)) 4 0 [(0, .ref (gA g 40)), (1, .int (iI (x)))] [] σ
  refine r_iload_n (pc := 0) C dX4_judge_0 rfl 1 rfl ?_
  refine r_cSi (pc := 1) C (c_isSheet g x h_x σ) yX4_isSheet_w rfl t_515 ⟨by decide, by decide⟩ (Nat.le_of_ble_eq_true rfl) rfl dX4_judge_1 ?_
  refine r_ifz_ne (pc := 4) C 13 dX4_judge_4 (by decide) (fun h4 => ?_) (fun h4 => ?_)
  · skip
    have hbx := hb x.toNat (by omega)
    refine r_aload_n (pc := 13) C dX4_judge_13 rfl 0 rfl ?_
    refine r_getR4 (pc := 14) C 6 (k' := 30) rfl O_40 (by decide) rfl t_222 dX4_judge_14 ?_
    refine r_iload_n (pc := 17) C dX4_judge_17 rfl 1 rfl ?_
    refine r_aald (pc := 18) C x.toNat (by omega) (by omega) dX4_judge_18 ?_
    refine r_astore_n (pc := 19) C dX4_judge_19 rfl (by decide) [1, 2, 0] (lv' := [(0, .ref (gA g 40)), (1, .int (iI (x))), (2, .ref (gA g (31 + 2 * x.toNat)))]) rfl ?_
    refine r_aload_n (pc := 20) C dX4_judge_20 rfl 2 rfl ?_
    refine r_getI1 (pc := 21) C 1 (Rb_sh (by omega)) (O_sh (by omega)) (by decide) rfl t_206 dX4_judge_21 ?_
    refine r_if_ne (pc := 24) C 33 ⟨by omega, by omega⟩ dX4_judge_24 (by decide) (fun h24 => ?_) (fun h24 => ?_)
    · skip
      refine r_iconst (pc := 33) C dX4_judge_33 ?_
      refine r_istore_n (pc := 34) C dX4_judge_34 rfl (by decide) [1, 2, 3, 0] (lv' := [(0, .ref (gA g 40)), (1, .int (iI (x))), (2, .ref (gA g (31 + 2 * x.toNat))), (3, .int (iI (0)))]) rfl ?_
      have L35 : ∀ (n_ : Nat) (i : Nat) (x35_3 : Int), 41 - i < n_ → (i ≤ 40) → (jdc (σ (32 + 2 * x.toNat)) (σ (31 + 2 * x.toNat) 2) (σ 0 7) (σ 6) 41 0 = jdc (σ (32 + 2 * x.toNat)) (σ (31 + 2 * x.toNat) 2) (σ 0 7) (σ 6) (41 - i) i) → x35_3 = (i : Int) → J g E (pT (if 0 ≤ x ∧ x < 4 then (if σ (31 + 2 * x.toNat) 1 = 0 then (-1000001 - ((5 : Nat) : Int)) else jdc (σ (32 + 2 * x.toNat)) (σ (31 + 2 * x.toNat) 2) (σ 0 7) (σ 6) 41 0) else (-1000001 - ((0 : Nat) : Int))) (if 0 ≤ x ∧ x < 4 then (if σ (31 + 2 * x.toNat) 1 = 0 then fin 5 σ else σ) else fin 0 σ)) 4 35 [(0, .ref (gA g 40)), (1, .int (iI (x))), (2, .ref (gA g (31 + 2 * x.toNat))), (3, .int (iI (x35_3)))] [] σ := by
        intro n_
        induction n_ with
        | zero => intro i x35_3  hm_; exact absurd hm_ (Nat.not_lt_zero _)
        | succ n_ ih35 =>
          intro i x35_3  hm35 hi35_0 hi35_1 e35_0 
          subst e35_0 
          have hh := holder_rng (σ 0 7) (σ 6) i hn.1
          refine r_iload_n (pc := 35) C dX4_judge_35 rfl 3 rfl ?_
          refine r_aload_n (pc := 36) C dX4_judge_36 rfl 2 rfl ?_
          refine r_getI1 (pc := 37) C 2 (Rl_sh (by omega)) (O_sh (by omega)) (by decide) rfl t_208 dX4_judge_37 ?_
          refine r_icmp_ge (pc := 40) C 76 ⟨by omega, by omega⟩ ⟨by omega, by omega⟩ dX4_judge_40 (by decide) (fun h40 => ?_) (fun h40 => ?_)
          · skip
            refine r_iconst (pc := 76) C dX4_judge_76 ?_
            exact r_retT (pc := 77) C (by rw [if_pos (by omega), if_neg (by omega), hi35_1]; (first | rw [show 41 - i = 41 - (i + 1) + 1 by omega, jdc, if_pos (by omega), if_pos (by omega)] | rw [show 41 - i = 41 - (i + 1) + 1 by omega, jdc, if_neg (by omega)])) (fun k _ => congrFun (by rw [if_pos (by omega), if_neg (by omega)]) k) dX4_judge_77
          · skip
            refine r_iload_n (pc := 43) C dX4_judge_43 rfl 3 rfl ?_
            refine r_bipush (pc := 44) C dX4_judge_44 (by decide) ?_
            refine r_icmp_ge (pc := 46) C 66 ⟨by omega, by omega⟩ ⟨by omega, by omega⟩ dX4_judge_46 (by decide) (fun h46 => ?_) (fun h46 => ?_)
            · skip
              refine r_iconst (pc := 66) C dX4_judge_66 ?_
              refine r_iload_n (pc := 67) C dX4_judge_67 rfl 3 rfl ?_
              refine r_iadd (pc := 68) C dX4_judge_68 ?_
              exact r_retT (pc := 69) C (by rw [if_pos (by omega), if_neg (by omega), hi35_1]; (first | rw [show 41 - i = 41 - (i + 1) + 1 by omega, jdc, if_pos (by omega), if_pos (by omega)] | rw [show 41 - i = 41 - (i + 1) + 1 by omega, jdc, if_neg (by omega)])) (fun k _ => congrFun (by rw [if_pos (by omega), if_neg (by omega)]) k) dX4_judge_69
            · skip
              refine r_aload_n (pc := 49) C dX4_judge_49 rfl 2 rfl ?_
              refine r_getR1 (pc := 50) C 0 (k' := (32 + 2 * x.toNat)) (Rn_sh (by omega)) (O_sh (by omega)) (by decide) rfl t_204 dX4_judge_50 ?_
              refine r_iload_n (pc := 53) C dX4_judge_53 rfl 3 rfl ?_
              refine r_iald (pc := 54) C i (A_sh (by omega)) (by omega) (by omega) dX4_judge_54 ?_
              have hnr := hN x.toNat (by omega) i (by omega)
              have hn1 := hnr.1; have hn2 := hnr.2
              refine r_aload_n (pc := 55) C dX4_judge_55 rfl 0 rfl ?_
              refine r_getR4 (pc := 56) C 0 (k' := 0) rfl O_40 (by decide) rfl t_216 dX4_judge_56 ?_
              refine r_iload_n (pc := 59) C dX4_judge_59 rfl 3 rfl ?_
              refine r_cVi (pc := 60) C (c_holderOf_0 g i (by omega) σ hn hM) yX0_holderOf_w O_0 rfl rfl t_260 ⟨by decide, by decide⟩ (Nat.le_of_ble_eq_true rfl) rfl dX4_judge_60 ?_
              refine r_icmp_eq (pc := 63) C 70 ⟨by omega, by omega⟩ ⟨by omega, by omega⟩ dX4_judge_63 (by decide) (fun h63 => ?_) (fun h63 => ?_)
              · skip
                refine r_iinc (pc := 70) C dX4_judge_70 3 rfl (by decide) [1, 2, 3, 0] (lv' := [(0, .ref (gA g 40)), (1, .int (iI (x))), (2, .ref (gA g (31 + 2 * x.toNat))), (3, .int (iI ((i : Int) + 1)))]) rfl ?_
                refine r_goto (pc := 73) C 35 dX4_judge_73 (by decide) ?_
                exact ih35 (i + 1) _ (by omega) (by omega) (by rw [hi35_1, show 41 - i = 41 - (i + 1) + 1 by omega, jdc, if_pos (by omega), if_neg (by omega)]) (by omega)
              · skip
                refine r_iconst (pc := 66) C dX4_judge_66 ?_
                refine r_iload_n (pc := 67) C dX4_judge_67 rfl 3 rfl ?_
                refine r_iadd (pc := 68) C dX4_judge_68 ?_
                exact r_retT (pc := 69) C (by rw [if_pos (by omega), if_neg (by omega), hi35_1]; (first | rw [show 41 - i = 41 - (i + 1) + 1 by omega, jdc, if_pos (by omega), if_pos (by omega)] | rw [show 41 - i = 41 - (i + 1) + 1 by omega, jdc, if_neg (by omega)])) (fun k _ => congrFun (by rw [if_pos (by omega), if_neg (by omega)]) k) dX4_judge_69
      exact L35 _ 0 _ (Nat.lt_succ_self _) (by omega) (by rfl) (rfl)
    · skip
      refine r_aload_n (pc := 27) C dX4_judge_27 rfl 0 rfl ?_
      refine r_iconst (pc := 28) C dX4_judge_28 ?_
      refine r_cVi (pc := 29) C (c_finding g 5 (by decide) σ) yX4_finding_w O_40 rfl rfl t_251 ⟨by decide, by decide⟩ (Nat.le_of_ble_eq_true rfl) rfl dX4_judge_29 ?_
      exact r_retT (pc := 32) C (by first | (exfalso; omega; done) | ((try (first | rw [if_pos (by omega)] | rw [if_neg (by omega)])); (try (first | rw [if_pos (by omega)] | rw [if_neg (by omega)])); (try (first | rw [if_pos (by omega)] | rw [if_neg (by omega)])); (try (first | rw [if_pos (by omega)] | rw [if_neg (by omega)])); (try rfl))) (fun k _ => congrFun (by first | (exfalso; omega; done) | ((try (first | rw [if_pos (by omega)] | rw [if_neg (by omega)])); (try (first | rw [if_pos (by omega)] | rw [if_neg (by omega)])); (try (first | rw [if_pos (by omega)] | rw [if_neg (by omega)])); (try (first | rw [if_pos (by omega)] | rw [if_neg (by omega)])); (try rfl))) k) dX4_judge_32
  · skip
    refine r_aload_n (pc := 7) C dX4_judge_7 rfl 0 rfl ?_
    refine r_iconst (pc := 8) C dX4_judge_8 ?_
    refine r_cVi (pc := 9) C (c_finding g 0 (by decide) σ) yX4_finding_w O_40 rfl rfl t_251 ⟨by decide, by decide⟩ (Nat.le_of_ble_eq_true rfl) rfl dX4_judge_9 ?_
    exact r_retT (pc := 12) C (by first | (exfalso; omega; done) | ((try (first | rw [if_pos (by omega)] | rw [if_neg (by omega)])); (try (first | rw [if_pos (by omega)] | rw [if_neg (by omega)])); (try (first | rw [if_pos (by omega)] | rw [if_neg (by omega)])); (try (first | rw [if_pos (by omega)] | rw [if_neg (by omega)])); (try rfl))) (fun k _ => congrFun (by first | (exfalso; omega; done) | ((try (first | rw [if_pos (by omega)] | rw [if_neg (by omega)])); (try (first | rw [if_pos (by omega)] | rw [if_neg (by omega)])); (try (first | rw [if_pos (by omega)] | rw [if_neg (by omega)])); (try (first | rw [if_pos (by omega)] | rw [if_neg (by omega)])); (try rfl))) k) dX4_judge_12
