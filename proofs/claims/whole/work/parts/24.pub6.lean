set_option maxHeartbeats 4000000 in
set_option maxRecDepth 100000 in
theorem d_sneezes (g : Gt) (n : Int) (h_n : rng n) (σ : Sg) (hW : RW σ 0)  : Mt g yX4_sneezes cX4_sneezes 3 (some FieldType.int) 4 [.ref (gA g 40), .int (iI (n))] σ (pT (if 1 ≤ n ∧ n ≤ 20 then (if 99999 - n < σ 0 10 then (-1000001 - ((4 : Nat) : Int)) else sumF (snS n.toNat σ 1) 12) else (-1000001 - ((0 : Nat) : Int))) (if 1 ≤ n ∧ n ≤ 20 then (if 99999 - n < σ 0 10 then fin 4 σ else snS n.toNat σ) else fin 0 σ)) := by
  obtain ⟨hn, hfl, hw, hdy, hz, hD_, hK_, hA_, hG_, hM_, hP_⟩ := id hW
  have hD : rgD (σ 1) := hD_
  have hK : rgK (σ 3) := hK_
  have hA : rgA (σ 4) := hA_
  have hG : rgG (σ 5) := hG_
  have hM : rgM (σ 6) := hM_
  have hP : ∀ j, j < 10 → -1 ≤ σ 7 j ∧ σ 7 j < σ 0 7 := hP_
  have ho_n := h_n.1; have hp_n := h_n.2
  refine mt_of (own := RX4) (by decide) rfl (Nat.le_of_ble_eq_true rfl) (fun E C => ?_)
  show J g E (pT (if 1 ≤ n ∧ n ≤ 20 then (if 99999 - n < σ 0 10 then (-1000001 - ((4 : Nat) : Int)) else sumF (snS n.toNat σ 1) 12) else (-1000001 - ((0 : Nat) : Int))) (if 1 ≤ n ∧ n ≤ 20 then (if 99999 - n < σ 0 10 then fin 4 σ else snS n.toNat σ) else fin 0 σ)) 3 0 [(0, .ref (gA g 40)), (1, .int (iI (n)))] [] σ
  refine r_iload_n (pc := 0) C dX4_sneezes_0 rfl 1 rfl ?_
  refine r_iconst (pc := 1) C dX4_sneezes_1 ?_
  refine r_bipush (pc := 2) C dX4_sneezes_2 (by decide) ?_
  refine r_cSi (pc := 4) C (c_isWithin g n 1 20 h_n ⟨by omega, by omega⟩ ⟨by omega, by omega⟩ σ) yX4_isWithin_w rfl t_248 ⟨by decide, by decide⟩ (Nat.le_of_ble_eq_true rfl) rfl dX4_sneezes_4 ?_
  refine r_ifz_ne (pc := 7) C 16 dX4_sneezes_7 (by decide) (fun h7 => ?_) (fun h7 => ?_)
  · skip
    refine r_aload_n (pc := 16) C dX4_sneezes_16 rfl 0 rfl ?_
    refine r_getR4 (pc := 17) C 0 (k' := 0) rfl O_40 (by decide) rfl t_216 dX4_sneezes_17 ?_
    refine r_getI0 (pc := 20) C 10 rfl O_0 (by decide) rfl t_129 dX4_sneezes_20 ?_
    refine r_ldc (pc := 23) C 99999 t_319 (by decide) dX4_sneezes_23 ?_
    refine r_iload_n (pc := 25) C dX4_sneezes_25 rfl 1 rfl ?_
    refine r_isub (pc := 26) C dX4_sneezes_26 ?_
    refine r_icmp_le (pc := 27) C 36 ⟨by omega, by omega⟩ ⟨by omega, by omega⟩ dX4_sneezes_27 (by decide) (fun h27 => ?_) (fun h27 => ?_)
    · skip
      refine r_iconst (pc := 36) C dX4_sneezes_36 ?_
      refine r_istore_n (pc := 37) C dX4_sneezes_37 rfl (by decide) [1, 2, 0] (lv' := [(0, .ref (gA g 40)), (1, .int (iI (n))), (2, .int (iI (0)))]) rfl ?_
      have L38 : ∀ (n_ : Nat) (i : Nat) (x38_2 : Int) (s38 : Sg), n.toNat - i < n_ → ((i : Int) ≤ n) → x38_2 = (i : Int) → s38 = snS i σ → J g E (pT (if 1 ≤ n ∧ n ≤ 20 then (if 99999 - n < σ 0 10 then (-1000001 - ((4 : Nat) : Int)) else sumF (snS n.toNat σ 1) 12) else (-1000001 - ((0 : Nat) : Int))) (if 1 ≤ n ∧ n ≤ 20 then (if 99999 - n < σ 0 10 then fin 4 σ else snS n.toNat σ) else fin 0 σ)) 3 38 [(0, .ref (gA g 40)), (1, .int (iI (n))), (2, .int (iI (x38_2)))] [] s38 := by
        intro n_
        induction n_ with
        | zero => intro i x38_2 s38 hm_; exact absurd hm_ (Nat.not_lt_zero _)
        | succ n_ ih38 =>
          intro i x38_2 s38 hm38 hi38_0 e38_0 es38
          subst e38_0 es38
          have hWi := snS_RW hW i
          have hWj := snd_RW hWi
          have hDi : rgD (snS i σ 1) := hWi.2.2.2.2.2.1
          refine r_iload_n (pc := 38) C dX4_sneezes_38 rfl 2 rfl ?_
          refine r_iload_n (pc := 39) C dX4_sneezes_39 rfl 1 rfl ?_
          refine r_icmp_ge (pc := 40) C 75 ⟨by omega, by omega⟩ h_n dX4_sneezes_40 (by decide) (fun h40 => ?_) (fun h40 => ?_)
          · skip
            refine r_aload_n (pc := 75) C dX4_sneezes_75 rfl 0 rfl ?_
            refine r_getR4 (pc := 76) C 0 (k' := 0) rfl O_40 (by decide) rfl t_216 dX4_sneezes_76 ?_
            refine r_cVi (pc := 79) C (c_allDust_0 g (snS i σ)) yX0_allDust_w O_0 rfl rfl t_389 ⟨by decide, by decide⟩ (Nat.le_of_ble_eq_true rfl) rfl dX4_sneezes_79 ?_
            exact r_retT (pc := 82) C (by rw [if_pos (by omega), if_neg (by omega), show i = n.toNat by omega]) (fun k _ => congrFun (by rw [if_pos (by omega), if_neg (by omega), show i = n.toNat by omega]) k) dX4_sneezes_82
          · skip
            refine r_aload_n (pc := 43) C dX4_sneezes_43 rfl 0 rfl ?_
            refine r_getR4 (pc := 44) C 0 (k' := 0) rfl O_40 (by decide) rfl t_216 dX4_sneezes_44 ?_
            refine r_aload_n (pc := 47) C dX4_sneezes_47 rfl 0 rfl ?_
            refine r_getR4 (pc := 48) C 0 (k' := 0) rfl O_40 (by decide) rfl t_216 dX4_sneezes_48 ?_
            refine r_cVi (pc := 51) C (c_draw_0 g (snS i σ)) yX0_draw_w O_0 rfl rfl t_534 ⟨by decide, by decide⟩ (Nat.le_of_ble_eq_true rfl) rfl dX4_sneezes_51 ?_
            have hbu := bushr_8 (zz (snS i σ 0 11))
            refine r_bipush (pc := 54) C dX4_sneezes_54 (by decide) ?_
            refine r_irem (pc := 56) C (by omega) (by omega) (by omega) (by omega) dX4_sneezes_56 ?_
            refine r_iconst (pc := 57) C dX4_sneezes_57 ?_
            refine r_cVi (pc := 58) C (c_blowAway_0 g (((bushr (zz ((snS i σ) 0 11)) 8) % 12).toNat) (by omega) 1 ⟨by omega, by omega⟩ (wr (snS i σ) 0 11 (zz ((snS i σ) 0 11))) hDi) yX0_blowAway_w O_0 rfl rfl t_340 ⟨by decide, by decide⟩ (Nat.le_of_ble_eq_true rfl) (by rw [show ((((bushr (zz ((snS i σ) 0 11)) 8) % 12).toNat : Nat) : Int) = (bushr (zz ((snS i σ) 0 11)) 8) % 12 by omega]; rfl) dX4_sneezes_58 ?_
            refine r_pop (pc := 61) C rfl dX4_sneezes_61 ?_
            refine r_aload_n (pc := 62) C dX4_sneezes_62 rfl 0 rfl ?_
            refine r_getR4 (pc := 63) C 0 (k' := 0) rfl O_40 (by decide) rfl t_216 dX4_sneezes_63 ?_
            refine r_cVv (pc := 66) C (c_passDay_0 g (us (wr (snS i σ) 0 11 (zz ((snS i σ) 0 11))) 1 (bwD ((snS i σ) 1) (((bushr (zz ((snS i σ) 0 11)) 8) % 12).toNat) 1)) hWj) yX0_passDay_w O_0 rfl rfl t_444 ⟨by decide, by decide⟩ (Nat.le_of_ble_eq_true rfl) rfl dX4_sneezes_66 ?_
            refine r_iinc (pc := 69) C dX4_sneezes_69 2 rfl (by decide) [1, 2, 0] (lv' := [(0, .ref (gA g 40)), (1, .int (iI (n))), (2, .int (iI ((i : Int) + 1)))]) rfl ?_
            refine r_goto (pc := 72) C 38 dX4_sneezes_72 (by decide) ?_
            exact ih38 (i + 1) _ _ (by omega) (by omega) (by omega) (rfl)
      exact L38 _ 0 _ _ (Nat.lt_succ_self _) (by omega) (rfl) (rfl)
    · skip
      refine r_aload_n (pc := 30) C dX4_sneezes_30 rfl 0 rfl ?_
      refine r_iconst (pc := 31) C dX4_sneezes_31 ?_
      refine r_cVi (pc := 32) C (c_finding g 4 (by decide) σ) yX4_finding_w O_40 rfl rfl t_251 ⟨by decide, by decide⟩ (Nat.le_of_ble_eq_true rfl) rfl dX4_sneezes_32 ?_
      exact r_retT (pc := 35) C (by first | (exfalso; omega; done) | ((try (first | rw [if_pos (by omega)] | rw [if_neg (by omega)])); (try (first | rw [if_pos (by omega)] | rw [if_neg (by omega)])); (try (first | rw [if_pos (by omega)] | rw [if_neg (by omega)])); (try (first | rw [if_pos (by omega)] | rw [if_neg (by omega)])); (try rfl))) (fun k _ => congrFun (by first | (exfalso; omega; done) | ((try (first | rw [if_pos (by omega)] | rw [if_neg (by omega)])); (try (first | rw [if_pos (by omega)] | rw [if_neg (by omega)])); (try (first | rw [if_pos (by omega)] | rw [if_neg (by omega)])); (try (first | rw [if_pos (by omega)] | rw [if_neg (by omega)])); (try rfl))) k) dX4_sneezes_35
  · skip
    refine r_aload_n (pc := 10) C dX4_sneezes_10 rfl 0 rfl ?_
    refine r_iconst (pc := 11) C dX4_sneezes_11 ?_
    refine r_cVi (pc := 12) C (c_finding g 0 (by decide) σ) yX4_finding_w O_40 rfl rfl t_251 ⟨by decide, by decide⟩ (Nat.le_of_ble_eq_true rfl) rfl dX4_sneezes_12 ?_
    exact r_retT (pc := 15) C (by first | (exfalso; omega; done) | ((try (first | rw [if_pos (by omega)] | rw [if_neg (by omega)])); (try (first | rw [if_pos (by omega)] | rw [if_neg (by omega)])); (try (first | rw [if_pos (by omega)] | rw [if_neg (by omega)])); (try (first | rw [if_pos (by omega)] | rw [if_neg (by omega)])); (try rfl))) (fun k _ => congrFun (by first | (exfalso; omega; done) | ((try (first | rw [if_pos (by omega)] | rw [if_neg (by omega)])); (try (first | rw [if_pos (by omega)] | rw [if_neg (by omega)])); (try (first | rw [if_pos (by omega)] | rw [if_neg (by omega)])); (try (first | rw [if_pos (by omega)] | rw [if_neg (by omega)])); (try rfl))) k) dX4_sneezes_15
theorem gdF_step (x : Int) {e : Nat} (h : 2 ≤ e) : gdF x e = if x % (e : Int) ≠ 0 ∨ 12 % (e : Int) ≠ 0 then gdF x (e - 1) else (e : Int) := by
  obtain ⟨f, rfl⟩ : ∃ f, e = f + 2 := ⟨e - 2, by omega⟩
  rw [gdF, show ((f + 2 : Nat) : Int) = (f : Int) + 2 by omega]
  rfl
set_option maxHeartbeats 4000000 in
set_option maxRecDepth 100000 in
theorem c_gd (g : Gt) (x : Int) (hx : 0 ≤ x ∧ x ≤ 12) (σ : Sg) : Mt g yX4_greatestDivisor cX4_greatestDivisor 3 (some FieldType.int) 0 [.int (iI (x)), .int (iI (12))] σ (pI (gdF x 12) σ) := by
  refine mt_of (own := RX4) (by decide) rfl (Nat.le_of_ble_eq_true rfl) (fun E C => ?_)
  show J g E (pI (gdF x 12) σ) 3 0 [(0, .int (iI (x))), (1, .int (iI (12)))] [] σ
  refine r_iload_n (pc := 0) C dX4_greatestDivisor_0 rfl 1 rfl ?_
  refine r_istore_n (pc := 1) C dX4_greatestDivisor_1 rfl (by decide) [1, 2, 0] (lv' := [(0, .int (iI (x))), (1, .int (iI (12))), (2, .int (iI (12)))]) rfl ?_
  have L2 : ∀ (n_ : Nat) (e : Nat) (x2_2 : Int), e < n_ → (1 ≤ e ∧ e ≤ 12) → (gdF x 12 = gdF x e) → x2_2 = (e : Int) → J g E (pI (gdF x 12) σ) 3 2 [(0, .int (iI (x))), (1, .int (iI (12))), (2, .int (iI (x2_2)))] [] σ := by
    intro n_
    induction n_ with
    | zero => intro e x2_2  hm_; exact absurd hm_ (Nat.not_lt_zero _)
    | succ n_ ih2 =>
      intro e x2_2  hm2 hi2_0 hi2_1 e2_0 
      subst e2_0 
      refine r_iload_n (pc := 2) C dX4_greatestDivisor_2 rfl 2 rfl ?_
      refine r_iconst (pc := 3) C dX4_greatestDivisor_3 ?_
      refine r_icmp_le (pc := 4) C 25 ⟨by omega, by omega⟩ ⟨by omega, by omega⟩ dX4_greatestDivisor_4 (by decide) (fun h4 => ?_) (fun h4 => ?_)
      · skip
        refine r_iload_n (pc := 25) C dX4_greatestDivisor_25 rfl 2 rfl ?_
        exact r_reti (pc := 26) C (by rw [hi2_1]; first | (rw [show e = 1 by omega]; rfl) | (rw [gdF_step x (by omega), if_neg (by omega)])) (rfl) dX4_greatestDivisor_26
      · skip
        refine r_iload_n (pc := 7) C dX4_greatestDivisor_7 rfl 0 rfl ?_
        refine r_iload_n (pc := 8) C dX4_greatestDivisor_8 rfl 2 rfl ?_
        refine r_irem (pc := 9) C (by omega) (by omega) (by omega) (by omega) dX4_greatestDivisor_9 ?_
        have hm1 := Int.emod_nonneg x (show (e : Int) ≠ 0 by omega)
        have hm2 := Int.emod_lt_of_pos x (show (0 : Int) < (e : Int) by omega)
        refine r_if_ne (pc := 10) C 19 ⟨by omega, by omega⟩ dX4_greatestDivisor_10 (by decide) (fun h10 => ?_) (fun h10 => ?_)
        · skip
          refine r_iinc (pc := 19) C dX4_greatestDivisor_19 2 rfl (by decide) [1, 2, 0] (lv' := [(0, .int (iI (x))), (1, .int (iI (12))), (2, .int (iI ((e : Int) + (-1))))]) rfl ?_
          refine r_goto (pc := 22) C 2 dX4_greatestDivisor_22 (by decide) ?_
          exact ih2 (e - 1) _ (by omega) (by omega) (by rw [hi2_1, gdF_step x (by omega), if_pos (by omega)]) (by omega)
        · skip
          refine r_iload_n (pc := 13) C dX4_greatestDivisor_13 rfl 1 rfl ?_
          refine r_iload_n (pc := 14) C dX4_greatestDivisor_14 rfl 2 rfl ?_
          refine r_irem (pc := 15) C (by omega) (by omega) (by omega) (by omega) dX4_greatestDivisor_15 ?_
          have hm3 := Int.emod_nonneg 12 (show (e : Int) ≠ 0 by omega)
          have hm4 := Int.emod_lt_of_pos 12 (show (0 : Int) < (e : Int) by omega)
          refine r_if_eq (pc := 16) C 25 ⟨by omega, by omega⟩ dX4_greatestDivisor_16 (by decide) (fun h16 => ?_) (fun h16 => ?_)
          · skip
            refine r_iload_n (pc := 25) C dX4_greatestDivisor_25 rfl 2 rfl ?_
            exact r_reti (pc := 26) C (by rw [hi2_1]; first | (rw [show e = 1 by omega]; rfl) | (rw [gdF_step x (by omega), if_neg (by omega)])) (rfl) dX4_greatestDivisor_26
          · skip
            refine r_iinc (pc := 19) C dX4_greatestDivisor_19 2 rfl (by decide) [1, 2, 0] (lv' := [(0, .int (iI (x))), (1, .int (iI (12))), (2, .int (iI ((e : Int) + (-1))))]) rfl ?_
            refine r_goto (pc := 22) C 2 dX4_greatestDivisor_22 (by decide) ?_
            exact ih2 (e - 1) _ (by omega) (by omega) (by rw [hi2_1, gdF_step x (by omega), if_pos (by omega)]) (by omega)
  exact L2 _ 12 _ (Nat.lt_succ_self _) (by omega) (by rfl) (rfl)
set_option maxHeartbeats 4000000 in
set_option maxRecDepth 100000 in
theorem d_odds (g : Gt) (n w : Int) (h_n : rng n) (h_w : rng w) (σ : Sg) (hW : RW σ 0) : Mt g yX4_odds cX4_odds 9 (some FieldType.long) 3 [.ref (gA g 40), .int (iI (n)), .int (iI (w))] σ (pL (if (0 ≤ n ∧ n ≤ 14) ∧ 0 ≤ w ∧ w ≤ 1 then pwr (if w = 0 then (12 - bitc (band 4095 (bxor (setF (fun f => decide (holder (σ 0 7) (σ 6) f = -1)) 12) (-1)))) / gdF (12 - bitc (band 4095 (bxor (setF (fun f => decide (holder (σ 0 7) (σ 6) f = -1)) 12) (-1)))) 12 else 12 / gdF (12 - bitc (band 4095 (bxor (setF (fun f => decide (holder (σ 0 7) (σ 6) f = -1)) 12) (-1)))) 12) n.toNat else (-1000001 - ((0 : Nat) : Int))) (if (0 ≤ n ∧ n ≤ 14) ∧ 0 ≤ w ∧ w ≤ 1 then σ else fin 0 σ)) := by
  obtain ⟨hn, hfl, hw, hdy, hz, hD_, hK_, hA_, hG_, hM_, hP_⟩ := id hW
  have hD : rgD (σ 1) := hD_
  have hK : rgK (σ 3) := hK_
  have hA : rgA (σ 4) := hA_
  have hG : rgG (σ 5) := hG_
  have hM : rgM (σ 6) := hM_
  have hP : ∀ j, j < 10 → -1 ≤ σ 7 j ∧ σ 7 j < σ 0 7 := hP_
  have hf1 := bitc_12 (band_4095 (bxor (setF (fun f => decide (holder (σ 0 7) (σ 6) f = -1)) 12) (-1)))
  have hf2 := gdF_rng (12 - bitc (band 4095 (bxor (setF (fun f => decide (holder (σ 0 7) (σ 6) f = -1)) 12) (-1)))) 12 (by omega)
  refine mt_of (own := RX4) (by decide) rfl (Nat.le_of_ble_eq_true rfl) (fun E C => ?_)
  show J g E (pL (if (0 ≤ n ∧ n ≤ 14) ∧ 0 ≤ w ∧ w ≤ 1 then pwr (if w = 0 then (12 - bitc (band 4095 (bxor (setF (fun f => decide (holder (σ 0 7) (σ 6) f = -1)) 12) (-1)))) / gdF (12 - bitc (band 4095 (bxor (setF (fun f => decide (holder (σ 0 7) (σ 6) f = -1)) 12) (-1)))) 12 else 12 / gdF (12 - bitc (band 4095 (bxor (setF (fun f => decide (holder (σ 0 7) (σ 6) f = -1)) 12) (-1)))) 12) n.toNat else (-1000001 - ((0 : Nat) : Int))) (if (0 ≤ n ∧ n ≤ 14) ∧ 0 ≤ w ∧ w ≤ 1 then σ else fin 0 σ)) 9 0 [(0, .ref (gA g 40)), (1, .int (iI (n))), (2, .int (iI (w)))] [] σ
  refine r_iload_n (pc := 0) C dX4_odds_0 rfl 1 rfl ?_
  refine r_iconst (pc := 1) C dX4_odds_1 ?_
  refine r_bipush (pc := 2) C dX4_odds_2 (by decide) ?_
  refine r_cSi (pc := 4) C (c_isWithin g n 0 14 h_n ⟨by omega, by omega⟩ ⟨by omega, by omega⟩ σ) yX4_isWithin_w rfl t_248 ⟨by decide, by decide⟩ (Nat.le_of_ble_eq_true rfl) rfl dX4_odds_4 ?_
  refine r_ifz_eq (pc := 7) C 19 dX4_odds_7 (by decide) (fun h7 => ?_) (fun h7 => ?_)
  · skip
    refine r_aload_n (pc := 19) C dX4_odds_19 rfl 0 rfl ?_
    refine r_iconst (pc := 20) C dX4_odds_20 ?_
    refine r_cVi (pc := 21) C (c_finding g 0 (by decide) σ) yX4_finding_w O_40 rfl rfl t_251 ⟨by decide, by decide⟩ (Nat.le_of_ble_eq_true rfl) rfl dX4_odds_21 ?_
    refine r_i2l (pc := 24) C ⟨by omega, by omega⟩ dX4_odds_24 ?_
    exact r_retl (pc := 25) C (by first | (exfalso; omega; done) | ((first | rw [if_pos (by omega)] | rw [if_neg (by omega)]); (try rfl))) (by first | (exfalso; omega; done) | ((first | rw [if_pos (by omega)] | rw [if_neg (by omega)]); (try rfl))) dX4_odds_25
  · skip
    refine r_iload_n (pc := 10) C dX4_odds_10 rfl 2 rfl ?_
    refine r_iconst (pc := 11) C dX4_odds_11 ?_
    refine r_iconst (pc := 12) C dX4_odds_12 ?_
    refine r_cSi (pc := 13) C (c_isWithin g w 0 1 h_w ⟨by omega, by omega⟩ ⟨by omega, by omega⟩ σ) yX4_isWithin_w rfl t_248 ⟨by decide, by decide⟩ (Nat.le_of_ble_eq_true rfl) rfl dX4_odds_13 ?_
    refine r_ifz_ne (pc := 16) C 26 dX4_odds_16 (by decide) (fun h16 => ?_) (fun h16 => ?_)
    · skip
      refine r_bipush (pc := 26) C dX4_odds_26 (by decide) ?_
      refine r_aload_n (pc := 28) C dX4_odds_28 rfl 0 rfl ?_
      refine r_getR4 (pc := 29) C 0 (k' := 0) rfl O_40 (by decide) rfl t_216 dX4_odds_29 ?_
      refine r_cVi (pc := 32) C (c_heldSurfaces_0 g σ hn hM) yX0_heldSurfaces_w O_0 rfl rfl t_404 ⟨by decide, by decide⟩ (Nat.le_of_ble_eq_true rfl) rfl dX4_odds_32 ?_
      refine r_cSi (pc := 35) C (c_bitCount g (band 4095 (bxor (setF (fun f => decide (holder (σ 0 7) (σ 6) f = -1)) 12) (-1))) σ) yJ6_bitCount_0f7a4_w rfl t_497 ⟨by decide, by decide⟩ (Nat.le_of_ble_eq_true rfl) rfl dX4_odds_35 ?_
      refine r_isub (pc := 38) C dX4_odds_38 ?_
      refine r_istore_n (pc := 39) C dX4_odds_39 rfl (by decide) [1, 2, 3, 0] (lv' := [(0, .ref (gA g 40)), (1, .int (iI (n))), (2, .int (iI (w))), (3, .int (iI (12 - (bitc (band 4095 (bxor (setF (fun f => decide (holder (σ 0 7) (σ 6) f = -1)) 12) (-1)))))))]) rfl ?_
      refine r_iload_n (pc := 40) C dX4_odds_40 rfl 3 rfl ?_
      refine r_bipush (pc := 41) C dX4_odds_41 (by decide) ?_
      refine r_cSi (pc := 43) C (c_gd g (12 - (bitc (band 4095 (bxor (setF (fun f => decide (holder (σ 0 7) (σ 6) f = -1)) 12) (-1))))) (by omega) σ) yX4_greatestDivisor_w rfl t_543 ⟨by decide, by decide⟩ (Nat.le_of_ble_eq_true rfl) rfl dX4_odds_43 ?_
      refine r_istore (pc := 46) C dX4_odds_46 (by decide) [1, 2, 3, 4, 0] (lv' := [(0, .ref (gA g 40)), (1, .int (iI (n))), (2, .int (iI (w))), (3, .int (iI (12 - (bitc (band 4095 (bxor (setF (fun f => decide (holder (σ 0 7) (σ 6) f = -1)) 12) (-1))))))), (4, .int (iI (gdF (12 - (bitc (band 4095 (bxor (setF (fun f => decide (holder (σ 0 7) (σ 6) f = -1)) 12) (-1))))) 12)))]) rfl ?_
      refine r_iload_n (pc := 48) C dX4_odds_48 rfl 2 rfl ?_
      refine r_if_ne (pc := 49) C 59 h_w dX4_odds_49 (by decide) (fun h49 => ?_) (fun h49 => ?_)
      · skip
        refine r_bipush (pc := 59) C dX4_odds_59 (by decide) ?_
        refine r_iload (pc := 61) C dX4_odds_61 4 rfl ?_
        refine r_idiv (pc := 63) C (by omega) (by omega) (by omega) (by omega) dX4_odds_63 ?_
        refine r_top (show _ = (if w = 0 then (12 - bitc (band 4095 (bxor (setF (fun f => decide (holder (σ 0 7) (σ 6) f = -1)) 12) (-1)))) / gdF (12 - bitc (band 4095 (bxor (setF (fun f => decide (holder (σ 0 7) (σ 6) f = -1)) 12) (-1)))) 12 else 12 / gdF (12 - bitc (band 4095 (bxor (setF (fun f => decide (holder (σ 0 7) (σ 6) f = -1)) 12) (-1)))) 12) by first | rw [if_pos (by omega)] | rw [if_neg (by omega)]) ?_
        skip
        have hq1 : 0 ≤ (12 - bitc (band 4095 (bxor (setF (fun f => decide (holder (σ 0 7) (σ 6) f = -1)) 12) (-1)))) / gdF (12 - bitc (band 4095 (bxor (setF (fun f => decide (holder (σ 0 7) (σ 6) f = -1)) 12) (-1)))) 12 ∧ (12 - bitc (band 4095 (bxor (setF (fun f => decide (holder (σ 0 7) (σ 6) f = -1)) 12) (-1)))) / gdF (12 - bitc (band 4095 (bxor (setF (fun f => decide (holder (σ 0 7) (σ 6) f = -1)) 12) (-1)))) 12 ≤ 12 := ⟨Int.ediv_nonneg (by omega) (by omega), by have := Int.ediv_le_self (a := (12 - bitc (band 4095 (bxor (setF (fun f => decide (holder (σ 0 7) (σ 6) f = -1)) 12) (-1))))) (gdF (12 - bitc (band 4095 (bxor (setF (fun f => decide (holder (σ 0 7) (σ 6) f = -1)) 12) (-1)))) 12) (by omega); omega⟩
        have hq2 : 0 ≤ 12 / gdF (12 - bitc (band 4095 (bxor (setF (fun f => decide (holder (σ 0 7) (σ 6) f = -1)) 12) (-1)))) 12 ∧ 12 / gdF (12 - bitc (band 4095 (bxor (setF (fun f => decide (holder (σ 0 7) (σ 6) f = -1)) 12) (-1)))) 12 ≤ 12 := ⟨Int.ediv_nonneg (by omega) (by omega), Int.ediv_le_self (a := 12) (gdF (12 - bitc (band 4095 (bxor (setF (fun f => decide (holder (σ 0 7) (σ 6) f = -1)) 12) (-1)))) 12) (by omega)⟩
        have hpt : 0 ≤ (if w = 0 then (12 - bitc (band 4095 (bxor (setF (fun f => decide (holder (σ 0 7) (σ 6) f = -1)) 12) (-1)))) / gdF (12 - bitc (band 4095 (bxor (setF (fun f => decide (holder (σ 0 7) (σ 6) f = -1)) 12) (-1)))) 12 else 12 / gdF (12 - bitc (band 4095 (bxor (setF (fun f => decide (holder (σ 0 7) (σ 6) f = -1)) 12) (-1)))) 12) ∧ (if w = 0 then (12 - bitc (band 4095 (bxor (setF (fun f => decide (holder (σ 0 7) (σ 6) f = -1)) 12) (-1)))) / gdF (12 - bitc (band 4095 (bxor (setF (fun f => decide (holder (σ 0 7) (σ 6) f = -1)) 12) (-1)))) 12 else 12 / gdF (12 - bitc (band 4095 (bxor (setF (fun f => decide (holder (σ 0 7) (σ 6) f = -1)) 12) (-1)))) 12) ≤ 12 := by split <;> assumption
        refine r_istore (pc := 64) C dX4_odds_64 (by decide) [1, 2, 3, 4, 5, 0] (lv' := [(0, .ref (gA g 40)), (1, .int (iI (n))), (2, .int (iI (w))), (3, .int (iI (12 - (bitc (band 4095 (bxor (setF (fun f => decide (holder (σ 0 7) (σ 6) f = -1)) 12) (-1))))))), (4, .int (iI (gdF (12 - (bitc (band 4095 (bxor (setF (fun f => decide (holder (σ 0 7) (σ 6) f = -1)) 12) (-1))))) 12))), (5, .int (iI ((if w = 0 then (12 - bitc (band 4095 (bxor (setF (fun f => decide (holder (σ 0 7) (σ 6) f = -1)) 12) (-1)))) / gdF (12 - bitc (band 4095 (bxor (setF (fun f => decide (holder (σ 0 7) (σ 6) f = -1)) 12) (-1)))) 12 else 12 / gdF (12 - bitc (band 4095 (bxor (setF (fun f => decide (holder (σ 0 7) (σ 6) f = -1)) 12) (-1)))) 12))))]) rfl ?_
        refine r_lconst (pc := 66) C (n := 1) dX4_odds_66 (by decide) ?_
        refine r_lstore (pc := 67) C dX4_odds_67 (by decide) [1, 2, 3, 4, 5, 6, 0] (lv' := [(0, .ref (gA g 40)), (1, .int (iI (n))), (2, .int (iI (w))), (3, .int (iI (12 - (bitc (band 4095 (bxor (setF (fun f => decide (holder (σ 0 7) (σ 6) f = -1)) 12) (-1))))))), (4, .int (iI (gdF (12 - (bitc (band 4095 (bxor (setF (fun f => decide (holder (σ 0 7) (σ 6) f = -1)) 12) (-1))))) 12))), (5, .int (iI ((if w = 0 then (12 - bitc (band 4095 (bxor (setF (fun f => decide (holder (σ 0 7) (σ 6) f = -1)) 12) (-1)))) / gdF (12 - bitc (band 4095 (bxor (setF (fun f => decide (holder (σ 0 7) (σ 6) f = -1)) 12) (-1)))) 12 else 12 / gdF (12 - bitc (band 4095 (bxor (setF (fun f => decide (holder (σ 0 7) (σ 6) f = -1)) 12) (-1)))) 12)))), (6, .long (iL (1)))]) rfl ?_
        refine r_iconst (pc := 69) C dX4_odds_69 ?_
        refine r_istore (pc := 70) C dX4_odds_70 (by decide) [1, 2, 3, 4, 5, 6, 7, 0] (lv' := [(0, .ref (gA g 40)), (1, .int (iI (n))), (2, .int (iI (w))), (3, .int (iI (12 - (bitc (band 4095 (bxor (setF (fun f => decide (holder (σ 0 7) (σ 6) f = -1)) 12) (-1))))))), (4, .int (iI (gdF (12 - (bitc (band 4095 (bxor (setF (fun f => decide (holder (σ 0 7) (σ 6) f = -1)) 12) (-1))))) 12))), (5, .int (iI ((if w = 0 then (12 - bitc (band 4095 (bxor (setF (fun f => decide (holder (σ 0 7) (σ 6) f = -1)) 12) (-1)))) / gdF (12 - bitc (band 4095 (bxor (setF (fun f => decide (holder (σ 0 7) (σ 6) f = -1)) 12) (-1)))) 12 else 12 / gdF (12 - bitc (band 4095 (bxor (setF (fun f => decide (holder (σ 0 7) (σ 6) f = -1)) 12) (-1)))) 12)))), (6, .long (iL (1))), (8, .int (iI (0)))]) rfl ?_
        have L72 : ∀ (n_ : Nat) (i : Nat) (x72_6 x72_8 : Int), n.toNat - i < n_ → ((i : Int) ≤ n) → x72_6 = pwr (if w = 0 then (12 - bitc (band 4095 (bxor (setF (fun f => decide (holder (σ 0 7) (σ 6) f = -1)) 12) (-1)))) / gdF (12 - bitc (band 4095 (bxor (setF (fun f => decide (holder (σ 0 7) (σ 6) f = -1)) 12) (-1)))) 12 else 12 / gdF (12 - bitc (band 4095 (bxor (setF (fun f => decide (holder (σ 0 7) (σ 6) f = -1)) 12) (-1)))) 12) i → x72_8 = (i : Int) → J g E (pL (if (0 ≤ n ∧ n ≤ 14) ∧ 0 ≤ w ∧ w ≤ 1 then pwr (if w = 0 then (12 - bitc (band 4095 (bxor (setF (fun f => decide (holder (σ 0 7) (σ 6) f = -1)) 12) (-1)))) / gdF (12 - bitc (band 4095 (bxor (setF (fun f => decide (holder (σ 0 7) (σ 6) f = -1)) 12) (-1)))) 12 else 12 / gdF (12 - bitc (band 4095 (bxor (setF (fun f => decide (holder (σ 0 7) (σ 6) f = -1)) 12) (-1)))) 12) n.toNat else (-1000001 - ((0 : Nat) : Int))) (if (0 ≤ n ∧ n ≤ 14) ∧ 0 ≤ w ∧ w ≤ 1 then σ else fin 0 σ)) 9 72 [(0, .ref (gA g 40)), (1, .int (iI (n))), (2, .int (iI (w))), (3, .int (iI (12 - (bitc (band 4095 (bxor (setF (fun f => decide (holder (σ 0 7) (σ 6) f = -1)) 12) (-1))))))), (4, .int (iI (gdF (12 - (bitc (band 4095 (bxor (setF (fun f => decide (holder (σ 0 7) (σ 6) f = -1)) 12) (-1))))) 12))), (5, .int (iI ((if w = 0 then (12 - bitc (band 4095 (bxor (setF (fun f => decide (holder (σ 0 7) (σ 6) f = -1)) 12) (-1)))) / gdF (12 - bitc (band 4095 (bxor (setF (fun f => decide (holder (σ 0 7) (σ 6) f = -1)) 12) (-1)))) 12 else 12 / gdF (12 - bitc (band 4095 (bxor (setF (fun f => decide (holder (σ 0 7) (σ 6) f = -1)) 12) (-1)))) 12)))), (6, .long (iL (x72_6))), (8, .int (iI (x72_8)))] [] σ := by
          intro n_
          induction n_ with
          | zero => intro i x72_6 x72_8  hm_; exact absurd hm_ (Nat.not_lt_zero _)
          | succ n_ ih72 =>
            intro i x72_6 x72_8  hm72 hi72_0 e72_0 e72_1 
            subst e72_0 e72_1 
            refine r_iload (pc := 72) C dX4_odds_72 7 rfl ?_
            refine r_iload_n (pc := 74) C dX4_odds_74 rfl 1 rfl ?_
            refine r_icmp_ge (pc := 75) C 92 ⟨by omega, by omega⟩ h_n dX4_odds_75 (by decide) (fun h75 => ?_) (fun h75 => ?_)
            · skip
              refine r_lload (pc := 92) C dX4_odds_92 6 rfl ?_
              exact r_retl (pc := 94) C (by rw [show i = n.toNat by omega]; exact (if_pos (by omega)).symm) ((if_pos (by omega)).symm) dX4_odds_94
            · skip
              refine r_lload (pc := 78) C dX4_odds_78 6 rfl ?_
              refine r_iload (pc := 80) C dX4_odds_80 5 rfl ?_
              refine r_i2l (pc := 82) C ⟨by omega, by omega⟩ dX4_odds_82 ?_
              refine r_lmul (pc := 83) C dX4_odds_83 ?_
              refine r_lstore (pc := 84) C dX4_odds_84 (by decide) [1, 2, 3, 4, 5, 6, 0, 7] (lv' := [(0, .ref (gA g 40)), (1, .int (iI (n))), (2, .int (iI (w))), (3, .int (iI (12 - (bitc (band 4095 (bxor (setF (fun f => decide (holder (σ 0 7) (σ 6) f = -1)) 12) (-1))))))), (4, .int (iI (gdF (12 - (bitc (band 4095 (bxor (setF (fun f => decide (holder (σ 0 7) (σ 6) f = -1)) 12) (-1))))) 12))), (5, .int (iI ((if w = 0 then (12 - bitc (band 4095 (bxor (setF (fun f => decide (holder (σ 0 7) (σ 6) f = -1)) 12) (-1)))) / gdF (12 - bitc (band 4095 (bxor (setF (fun f => decide (holder (σ 0 7) (σ 6) f = -1)) 12) (-1)))) 12 else 12 / gdF (12 - bitc (band 4095 (bxor (setF (fun f => decide (holder (σ 0 7) (σ 6) f = -1)) 12) (-1)))) 12)))), (6, .long (iL ((pwr (if w = 0 then (12 - bitc (band 4095 (bxor (setF (fun f => decide (holder (σ 0 7) (σ 6) f = -1)) 12) (-1)))) / gdF (12 - bitc (band 4095 (bxor (setF (fun f => decide (holder (σ 0 7) (σ 6) f = -1)) 12) (-1)))) 12 else 12 / gdF (12 - bitc (band 4095 (bxor (setF (fun f => decide (holder (σ 0 7) (σ 6) f = -1)) 12) (-1)))) 12) i) * (if w = 0 then (12 - bitc (band 4095 (bxor (setF (fun f => decide (holder (σ 0 7) (σ 6) f = -1)) 12) (-1)))) / gdF (12 - bitc (band 4095 (bxor (setF (fun f => decide (holder (σ 0 7) (σ 6) f = -1)) 12) (-1)))) 12 else 12 / gdF (12 - bitc (band 4095 (bxor (setF (fun f => decide (holder (σ 0 7) (σ 6) f = -1)) 12) (-1)))) 12)))), (8, .int (iI ((i : Int))))]) rfl ?_
              refine r_iinc (pc := 86) C dX4_odds_86 7 rfl (by decide) [1, 2, 3, 4, 5, 6, 7, 0] (lv' := [(0, .ref (gA g 40)), (1, .int (iI (n))), (2, .int (iI (w))), (3, .int (iI (12 - (bitc (band 4095 (bxor (setF (fun f => decide (holder (σ 0 7) (σ 6) f = -1)) 12) (-1))))))), (4, .int (iI (gdF (12 - (bitc (band 4095 (bxor (setF (fun f => decide (holder (σ 0 7) (σ 6) f = -1)) 12) (-1))))) 12))), (5, .int (iI ((if w = 0 then (12 - bitc (band 4095 (bxor (setF (fun f => decide (holder (σ 0 7) (σ 6) f = -1)) 12) (-1)))) / gdF (12 - bitc (band 4095 (bxor (setF (fun f => decide (holder (σ 0 7) (σ 6) f = -1)) 12) (-1)))) 12 else 12 / gdF (12 - bitc (band 4095 (bxor (setF (fun f => decide (holder (σ 0 7) (σ 6) f = -1)) 12) (-1)))) 12)))), (6, .long (iL ((pwr (if w = 0 then (12 - bitc (band 4095 (bxor (setF (fun f => decide (holder (σ 0 7) (σ 6) f = -1)) 12) (-1)))) / gdF (12 - bitc (band 4095 (bxor (setF (fun f => decide (holder (σ 0 7) (σ 6) f = -1)) 12) (-1)))) 12 else 12 / gdF (12 - bitc (band 4095 (bxor (setF (fun f => decide (holder (σ 0 7) (σ 6) f = -1)) 12) (-1)))) 12) i) * (if w = 0 then (12 - bitc (band 4095 (bxor (setF (fun f => decide (holder (σ 0 7) (σ 6) f = -1)) 12) (-1)))) / gdF (12 - bitc (band 4095 (bxor (setF (fun f => decide (holder (σ 0 7) (σ 6) f = -1)) 12) (-1)))) 12 else 12 / gdF (12 - bitc (band 4095 (bxor (setF (fun f => decide (holder (σ 0 7) (σ 6) f = -1)) 12) (-1)))) 12)))), (8, .int (iI ((i : Int) + 1)))]) rfl ?_
              refine r_goto (pc := 89) C 72 dX4_odds_89 (by decide) ?_
              exact ih72 (i + 1) _ _ (by omega) (by omega) (rfl) (by omega)
        exact L72 _ 0 _ _ (Nat.lt_succ_self _) (by omega) (rfl) (rfl)
      · skip
        refine r_iload_n (pc := 52) C dX4_odds_52 rfl 3 rfl ?_
        refine r_iload (pc := 53) C dX4_odds_53 4 rfl ?_
        refine r_idiv (pc := 55) C (by omega) (by omega) (by omega) (by omega) dX4_odds_55 ?_
        refine r_goto (pc := 56) C 64 dX4_odds_56 (by decide) ?_
        refine r_top (show _ = (if w = 0 then (12 - bitc (band 4095 (bxor (setF (fun f => decide (holder (σ 0 7) (σ 6) f = -1)) 12) (-1)))) / gdF (12 - bitc (band 4095 (bxor (setF (fun f => decide (holder (σ 0 7) (σ 6) f = -1)) 12) (-1)))) 12 else 12 / gdF (12 - bitc (band 4095 (bxor (setF (fun f => decide (holder (σ 0 7) (σ 6) f = -1)) 12) (-1)))) 12) by first | rw [if_pos (by omega)] | rw [if_neg (by omega)]) ?_
        skip
        have hq1 : 0 ≤ (12 - bitc (band 4095 (bxor (setF (fun f => decide (holder (σ 0 7) (σ 6) f = -1)) 12) (-1)))) / gdF (12 - bitc (band 4095 (bxor (setF (fun f => decide (holder (σ 0 7) (σ 6) f = -1)) 12) (-1)))) 12 ∧ (12 - bitc (band 4095 (bxor (setF (fun f => decide (holder (σ 0 7) (σ 6) f = -1)) 12) (-1)))) / gdF (12 - bitc (band 4095 (bxor (setF (fun f => decide (holder (σ 0 7) (σ 6) f = -1)) 12) (-1)))) 12 ≤ 12 := ⟨Int.ediv_nonneg (by omega) (by omega), by have := Int.ediv_le_self (a := (12 - bitc (band 4095 (bxor (setF (fun f => decide (holder (σ 0 7) (σ 6) f = -1)) 12) (-1))))) (gdF (12 - bitc (band 4095 (bxor (setF (fun f => decide (holder (σ 0 7) (σ 6) f = -1)) 12) (-1)))) 12) (by omega); omega⟩
        have hq2 : 0 ≤ 12 / gdF (12 - bitc (band 4095 (bxor (setF (fun f => decide (holder (σ 0 7) (σ 6) f = -1)) 12) (-1)))) 12 ∧ 12 / gdF (12 - bitc (band 4095 (bxor (setF (fun f => decide (holder (σ 0 7) (σ 6) f = -1)) 12) (-1)))) 12 ≤ 12 := ⟨Int.ediv_nonneg (by omega) (by omega), Int.ediv_le_self (a := 12) (gdF (12 - bitc (band 4095 (bxor (setF (fun f => decide (holder (σ 0 7) (σ 6) f = -1)) 12) (-1)))) 12) (by omega)⟩
        have hpt : 0 ≤ (if w = 0 then (12 - bitc (band 4095 (bxor (setF (fun f => decide (holder (σ 0 7) (σ 6) f = -1)) 12) (-1)))) / gdF (12 - bitc (band 4095 (bxor (setF (fun f => decide (holder (σ 0 7) (σ 6) f = -1)) 12) (-1)))) 12 else 12 / gdF (12 - bitc (band 4095 (bxor (setF (fun f => decide (holder (σ 0 7) (σ 6) f = -1)) 12) (-1)))) 12) ∧ (if w = 0 then (12 - bitc (band 4095 (bxor (setF (fun f => decide (holder (σ 0 7) (σ 6) f = -1)) 12) (-1)))) / gdF (12 - bitc (band 4095 (bxor (setF (fun f => decide (holder (σ 0 7) (σ 6) f = -1)) 12) (-1)))) 12 else 12 / gdF (12 - bitc (band 4095 (bxor (setF (fun f => decide (holder (σ 0 7) (σ 6) f = -1)) 12) (-1)))) 12) ≤ 12 := by split <;> assumption
        refine r_istore (pc := 64) C dX4_odds_64 (by decide) [1, 2, 3, 4, 5, 0] (lv' := [(0, .ref (gA g 40)), (1, .int (iI (n))), (2, .int (iI (w))), (3, .int (iI (12 - (bitc (band 4095 (bxor (setF (fun f => decide (holder (σ 0 7) (σ 6) f = -1)) 12) (-1))))))), (4, .int (iI (gdF (12 - (bitc (band 4095 (bxor (setF (fun f => decide (holder (σ 0 7) (σ 6) f = -1)) 12) (-1))))) 12))), (5, .int (iI ((if w = 0 then (12 - bitc (band 4095 (bxor (setF (fun f => decide (holder (σ 0 7) (σ 6) f = -1)) 12) (-1)))) / gdF (12 - bitc (band 4095 (bxor (setF (fun f => decide (holder (σ 0 7) (σ 6) f = -1)) 12) (-1)))) 12 else 12 / gdF (12 - bitc (band 4095 (bxor (setF (fun f => decide (holder (σ 0 7) (σ 6) f = -1)) 12) (-1)))) 12))))]) rfl ?_
        refine r_lconst (pc := 66) C (n := 1) dX4_odds_66 (by decide) ?_
        refine r_lstore (pc := 67) C dX4_odds_67 (by decide) [1, 2, 3, 4, 5, 6, 0] (lv' := [(0, .ref (gA g 40)), (1, .int (iI (n))), (2, .int (iI (w))), (3, .int (iI (12 - (bitc (band 4095 (bxor (setF (fun f => decide (holder (σ 0 7) (σ 6) f = -1)) 12) (-1))))))), (4, .int (iI (gdF (12 - (bitc (band 4095 (bxor (setF (fun f => decide (holder (σ 0 7) (σ 6) f = -1)) 12) (-1))))) 12))), (5, .int (iI ((if w = 0 then (12 - bitc (band 4095 (bxor (setF (fun f => decide (holder (σ 0 7) (σ 6) f = -1)) 12) (-1)))) / gdF (12 - bitc (band 4095 (bxor (setF (fun f => decide (holder (σ 0 7) (σ 6) f = -1)) 12) (-1)))) 12 else 12 / gdF (12 - bitc (band 4095 (bxor (setF (fun f => decide (holder (σ 0 7) (σ 6) f = -1)) 12) (-1)))) 12)))), (6, .long (iL (1)))]) rfl ?_
        refine r_iconst (pc := 69) C dX4_odds_69 ?_
        refine r_istore (pc := 70) C dX4_odds_70 (by decide) [1, 2, 3, 4, 5, 6, 7, 0] (lv' := [(0, .ref (gA g 40)), (1, .int (iI (n))), (2, .int (iI (w))), (3, .int (iI (12 - (bitc (band 4095 (bxor (setF (fun f => decide (holder (σ 0 7) (σ 6) f = -1)) 12) (-1))))))), (4, .int (iI (gdF (12 - (bitc (band 4095 (bxor (setF (fun f => decide (holder (σ 0 7) (σ 6) f = -1)) 12) (-1))))) 12))), (5, .int (iI ((if w = 0 then (12 - bitc (band 4095 (bxor (setF (fun f => decide (holder (σ 0 7) (σ 6) f = -1)) 12) (-1)))) / gdF (12 - bitc (band 4095 (bxor (setF (fun f => decide (holder (σ 0 7) (σ 6) f = -1)) 12) (-1)))) 12 else 12 / gdF (12 - bitc (band 4095 (bxor (setF (fun f => decide (holder (σ 0 7) (σ 6) f = -1)) 12) (-1)))) 12)))), (6, .long (iL (1))), (8, .int (iI (0)))]) rfl ?_
        have L72 : ∀ (n_ : Nat) (i : Nat) (x72_6 x72_8 : Int), n.toNat - i < n_ → ((i : Int) ≤ n) → x72_6 = pwr (if w = 0 then (12 - bitc (band 4095 (bxor (setF (fun f => decide (holder (σ 0 7) (σ 6) f = -1)) 12) (-1)))) / gdF (12 - bitc (band 4095 (bxor (setF (fun f => decide (holder (σ 0 7) (σ 6) f = -1)) 12) (-1)))) 12 else 12 / gdF (12 - bitc (band 4095 (bxor (setF (fun f => decide (holder (σ 0 7) (σ 6) f = -1)) 12) (-1)))) 12) i → x72_8 = (i : Int) → J g E (pL (if (0 ≤ n ∧ n ≤ 14) ∧ 0 ≤ w ∧ w ≤ 1 then pwr (if w = 0 then (12 - bitc (band 4095 (bxor (setF (fun f => decide (holder (σ 0 7) (σ 6) f = -1)) 12) (-1)))) / gdF (12 - bitc (band 4095 (bxor (setF (fun f => decide (holder (σ 0 7) (σ 6) f = -1)) 12) (-1)))) 12 else 12 / gdF (12 - bitc (band 4095 (bxor (setF (fun f => decide (holder (σ 0 7) (σ 6) f = -1)) 12) (-1)))) 12) n.toNat else (-1000001 - ((0 : Nat) : Int))) (if (0 ≤ n ∧ n ≤ 14) ∧ 0 ≤ w ∧ w ≤ 1 then σ else fin 0 σ)) 9 72 [(0, .ref (gA g 40)), (1, .int (iI (n))), (2, .int (iI (w))), (3, .int (iI (12 - (bitc (band 4095 (bxor (setF (fun f => decide (holder (σ 0 7) (σ 6) f = -1)) 12) (-1))))))), (4, .int (iI (gdF (12 - (bitc (band 4095 (bxor (setF (fun f => decide (holder (σ 0 7) (σ 6) f = -1)) 12) (-1))))) 12))), (5, .int (iI ((if w = 0 then (12 - bitc (band 4095 (bxor (setF (fun f => decide (holder (σ 0 7) (σ 6) f = -1)) 12) (-1)))) / gdF (12 - bitc (band 4095 (bxor (setF (fun f => decide (holder (σ 0 7) (σ 6) f = -1)) 12) (-1)))) 12 else 12 / gdF (12 - bitc (band 4095 (bxor (setF (fun f => decide (holder (σ 0 7) (σ 6) f = -1)) 12) (-1)))) 12)))), (6, .long (iL (x72_6))), (8, .int (iI (x72_8)))] [] σ := by
          intro n_
          induction n_ with
          | zero => intro i x72_6 x72_8  hm_; exact absurd hm_ (Nat.not_lt_zero _)
          | succ n_ ih72 =>
            intro i x72_6 x72_8  hm72 hi72_0 e72_0 e72_1 
            subst e72_0 e72_1 
            refine r_iload (pc := 72) C dX4_odds_72 7 rfl ?_
            refine r_iload_n (pc := 74) C dX4_odds_74 rfl 1 rfl ?_
            refine r_icmp_ge (pc := 75) C 92 ⟨by omega, by omega⟩ h_n dX4_odds_75 (by decide) (fun h75 => ?_) (fun h75 => ?_)
            · skip
              refine r_lload (pc := 92) C dX4_odds_92 6 rfl ?_
              exact r_retl (pc := 94) C (by rw [show i = n.toNat by omega]; exact (if_pos (by omega)).symm) ((if_pos (by omega)).symm) dX4_odds_94
            · skip
              refine r_lload (pc := 78) C dX4_odds_78 6 rfl ?_
              refine r_iload (pc := 80) C dX4_odds_80 5 rfl ?_
              refine r_i2l (pc := 82) C ⟨by omega, by omega⟩ dX4_odds_82 ?_
              refine r_lmul (pc := 83) C dX4_odds_83 ?_
              refine r_lstore (pc := 84) C dX4_odds_84 (by decide) [1, 2, 3, 4, 5, 6, 0, 7] (lv' := [(0, .ref (gA g 40)), (1, .int (iI (n))), (2, .int (iI (w))), (3, .int (iI (12 - (bitc (band 4095 (bxor (setF (fun f => decide (holder (σ 0 7) (σ 6) f = -1)) 12) (-1))))))), (4, .int (iI (gdF (12 - (bitc (band 4095 (bxor (setF (fun f => decide (holder (σ 0 7) (σ 6) f = -1)) 12) (-1))))) 12))), (5, .int (iI ((if w = 0 then (12 - bitc (band 4095 (bxor (setF (fun f => decide (holder (σ 0 7) (σ 6) f = -1)) 12) (-1)))) / gdF (12 - bitc (band 4095 (bxor (setF (fun f => decide (holder (σ 0 7) (σ 6) f = -1)) 12) (-1)))) 12 else 12 / gdF (12 - bitc (band 4095 (bxor (setF (fun f => decide (holder (σ 0 7) (σ 6) f = -1)) 12) (-1)))) 12)))), (6, .long (iL ((pwr (if w = 0 then (12 - bitc (band 4095 (bxor (setF (fun f => decide (holder (σ 0 7) (σ 6) f = -1)) 12) (-1)))) / gdF (12 - bitc (band 4095 (bxor (setF (fun f => decide (holder (σ 0 7) (σ 6) f = -1)) 12) (-1)))) 12 else 12 / gdF (12 - bitc (band 4095 (bxor (setF (fun f => decide (holder (σ 0 7) (σ 6) f = -1)) 12) (-1)))) 12) i) * (if w = 0 then (12 - bitc (band 4095 (bxor (setF (fun f => decide (holder (σ 0 7) (σ 6) f = -1)) 12) (-1)))) / gdF (12 - bitc (band 4095 (bxor (setF (fun f => decide (holder (σ 0 7) (σ 6) f = -1)) 12) (-1)))) 12 else 12 / gdF (12 - bitc (band 4095 (bxor (setF (fun f => decide (holder (σ 0 7) (σ 6) f = -1)) 12) (-1)))) 12)))), (8, .int (iI ((i : Int))))]) rfl ?_
              refine r_iinc (pc := 86) C dX4_odds_86 7 rfl (by decide) [1, 2, 3, 4, 5, 6, 7, 0] (lv' := [(0, .ref (gA g 40)), (1, .int (iI (n))), (2, .int (iI (w))), (3, .int (iI (12 - (bitc (band 4095 (bxor (setF (fun f => decide (holder (σ 0 7) (σ 6) f = -1)) 12) (-1))))))), (4, .int (iI (gdF (12 - (bitc (band 4095 (bxor (setF (fun f => decide (holder (σ 0 7) (σ 6) f = -1)) 12) (-1))))) 12))), (5, .int (iI ((if w = 0 then (12 - bitc (band 4095 (bxor (setF (fun f => decide (holder (σ 0 7) (σ 6) f = -1)) 12) (-1)))) / gdF (12 - bitc (band 4095 (bxor (setF (fun f => decide (holder (σ 0 7) (σ 6) f = -1)) 12) (-1)))) 12 else 12 / gdF (12 - bitc (band 4095 (bxor (setF (fun f => decide (holder (σ 0 7) (σ 6) f = -1)) 12) (-1)))) 12)))), (6, .long (iL ((pwr (if w = 0 then (12 - bitc (band 4095 (bxor (setF (fun f => decide (holder (σ 0 7) (σ 6) f = -1)) 12) (-1)))) / gdF (12 - bitc (band 4095 (bxor (setF (fun f => decide (holder (σ 0 7) (σ 6) f = -1)) 12) (-1)))) 12 else 12 / gdF (12 - bitc (band 4095 (bxor (setF (fun f => decide (holder (σ 0 7) (σ 6) f = -1)) 12) (-1)))) 12) i) * (if w = 0 then (12 - bitc (band 4095 (bxor (setF (fun f => decide (holder (σ 0 7) (σ 6) f = -1)) 12) (-1)))) / gdF (12 - bitc (band 4095 (bxor (setF (fun f => decide (holder (σ 0 7) (σ 6) f = -1)) 12) (-1)))) 12 else 12 / gdF (12 - bitc (band 4095 (bxor (setF (fun f => decide (holder (σ 0 7) (σ 6) f = -1)) 12) (-1)))) 12)))), (8, .int (iI ((i : Int) + 1)))]) rfl ?_
              refine r_goto (pc := 89) C 72 dX4_odds_89 (by decide) ?_
              exact ih72 (i + 1) _ _ (by omega) (by omega) (rfl) (by omega)
        exact L72 _ 0 _ _ (Nat.lt_succ_self _) (by omega) (rfl) (rfl)
    · skip
      refine r_aload_n (pc := 19) C dX4_odds_19 rfl 0 rfl ?_
      refine r_iconst (pc := 20) C dX4_odds_20 ?_
      refine r_cVi (pc := 21) C (c_finding g 0 (by decide) σ) yX4_finding_w O_40 rfl rfl t_251 ⟨by decide, by decide⟩ (Nat.le_of_ble_eq_true rfl) rfl dX4_odds_21 ?_
      refine r_i2l (pc := 24) C ⟨by omega, by omega⟩ dX4_odds_24 ?_
      exact r_retl (pc := 25) C (by first | (exfalso; omega; done) | ((first | rw [if_pos (by omega)] | rw [if_neg (by omega)]); (try rfl))) (by first | (exfalso; omega; done) | ((first | rw [if_pos (by omega)] | rw [if_neg (by omega)]); (try rfl))) dX4_odds_25
