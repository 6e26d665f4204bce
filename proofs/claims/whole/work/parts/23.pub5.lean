def brz (V : Int → Int) (v : Int) (al : Nat) (z : Nat) : Int := firstF (fun q => decide (bitc (q : Int) = (z : Int)) && decide (V (q : Int) ≤ v)) al 0
set_option maxHeartbeats 4000000 in
set_option maxRecDepth 100000 in
theorem d_brooms (g : Gt) (v n : Int) (h_v : rng v) (h_n : rng n) (σ : Sg) (hW : RW σ 0)  : Mt g yX4_brooms cX4_brooms 6 (some FieldType.int) 5 [.ref (gA g 40), .int (iI (v)), .int (iI (n))] σ (pT (if (0 ≤ v ∧ v ≤ 99999) ∧ 0 ≤ n ∧ n ≤ 20 then (if v < (vSet (σ 0 7) (σ 0 8) (σ 0 9) (σ 3) (σ 4) (σ 1) n.toNat) (bshl 1 (σ 0 7) - 1) then (-1000001 - ((3 : Nat) : Int)) else if brm (brz (vSet (σ 0 7) (σ 0 8) (σ 0 9) (σ 3) (σ 4) (σ 1) n.toNat) v (bshl 1 (σ 0 7) - 1).toNat) (σ 0 7).toNat 0 = -1 then (bshl 1 (σ 0 7) - 1) else brm (brz (vSet (σ 0 7) (σ 0 8) (σ 0 9) (σ 3) (σ 4) (σ 1) n.toNat) v (bshl 1 (σ 0 7) - 1).toNat) (σ 0 7).toNat 0) else (-1000001 - ((0 : Nat) : Int))) (if (0 ≤ v ∧ v ≤ 99999) ∧ 0 ≤ n ∧ n ≤ 20 then (if v < (vSet (σ 0 7) (σ 0 8) (σ 0 9) (σ 3) (σ 4) (σ 1) n.toNat) (bshl 1 (σ 0 7) - 1) then fin 3 σ else σ) else fin 0 σ)) := by
  obtain ⟨hn, hfl, hw, hdy, hz, hD_, hK_, hA_, hG_, hM_, hP_⟩ := id hW
  have hD : rgD (σ 1) := hD_
  have hK : rgK (σ 3) := hK_
  have hA : rgA (σ 4) := hA_
  have hG : rgG (σ 5) := hG_
  have hM : rgM (σ 6) := hM_
  have hP : ∀ j, j < 10 → -1 ≤ σ 7 j ∧ σ 7 j < σ 0 7 := hP_
  have ho_v := h_v.1; have hp_v := h_v.2
  have ho_n := h_n.1; have hp_n := h_n.2
  have hb1 := bsh1 hn
  have hV : ∀ m : Int, 0 ≤ (vSet (σ 0 7) (σ 0 8) (σ 0 9) (σ 3) (σ 4) (σ 1) n.toNat) m ∧ (vSet (σ 0 7) (σ 0 8) (σ 0 9) (σ 3) (σ 4) (σ 1) n.toNat) m ≤ 119988 := fun m => dstS_rng hn hfl hA hD n.toNat
  have hWs := hW
  refine mt_of (own := RX4) (by decide) rfl (Nat.le_of_ble_eq_true rfl) (fun E C => ?_)
  show J g E (pT (if (0 ≤ v ∧ v ≤ 99999) ∧ 0 ≤ n ∧ n ≤ 20 then (if v < (vSet (σ 0 7) (σ 0 8) (σ 0 9) (σ 3) (σ 4) (σ 1) n.toNat) (bshl 1 (σ 0 7) - 1) then (-1000001 - ((3 : Nat) : Int)) else if brm (brz (vSet (σ 0 7) (σ 0 8) (σ 0 9) (σ 3) (σ 4) (σ 1) n.toNat) v (bshl 1 (σ 0 7) - 1).toNat) (σ 0 7).toNat 0 = -1 then (bshl 1 (σ 0 7) - 1) else brm (brz (vSet (σ 0 7) (σ 0 8) (σ 0 9) (σ 3) (σ 4) (σ 1) n.toNat) v (bshl 1 (σ 0 7) - 1).toNat) (σ 0 7).toNat 0) else (-1000001 - ((0 : Nat) : Int))) (if (0 ≤ v ∧ v ≤ 99999) ∧ 0 ≤ n ∧ n ≤ 20 then (if v < (vSet (σ 0 7) (σ 0 8) (σ 0 9) (σ 3) (σ 4) (σ 1) n.toNat) (bshl 1 (σ 0 7) - 1) then fin 3 σ else σ) else fin 0 σ)) 6 0 [(0, .ref (gA g 40)), (1, .int (iI (v))), (2, .int (iI (n)))] [] σ
  refine r_iload_n (pc := 0) C dX4_brooms_0 rfl 1 rfl ?_
  refine r_iconst (pc := 1) C dX4_brooms_1 ?_
  refine r_ldc (pc := 2) C 99999 t_319 (by decide) dX4_brooms_2 ?_
  refine r_cSi (pc := 4) C (c_isWithin g v 0 99999 h_v ⟨by omega, by omega⟩ ⟨by omega, by omega⟩ σ) yX4_isWithin_w rfl t_248 ⟨by decide, by decide⟩ (Nat.le_of_ble_eq_true rfl) rfl dX4_brooms_4 ?_
  refine r_ifz_eq (pc := 7) C 20 dX4_brooms_7 (by decide) (fun h7 => ?_) (fun h7 => ?_)
  · skip
    refine r_aload_n (pc := 20) C dX4_brooms_20 rfl 0 rfl ?_
    refine r_iconst (pc := 21) C dX4_brooms_21 ?_
    refine r_cVi (pc := 22) C (c_finding g 0 (by decide) σ) yX4_finding_w O_40 rfl rfl t_251 ⟨by decide, by decide⟩ (Nat.le_of_ble_eq_true rfl) rfl dX4_brooms_22 ?_
    exact r_retT (pc := 25) C (by first | (exfalso; omega; done) | ((try (first | rw [if_pos (by omega)] | rw [if_neg (by omega)])); (try (first | rw [if_pos (by omega)] | rw [if_neg (by omega)])); (try (first | rw [if_pos (by omega)] | rw [if_neg (by omega)])); (try (first | rw [if_pos (by omega)] | rw [if_neg (by omega)])); (try rfl))) (fun k _ => congrFun (by first | (exfalso; omega; done) | ((try (first | rw [if_pos (by omega)] | rw [if_neg (by omega)])); (try (first | rw [if_pos (by omega)] | rw [if_neg (by omega)])); (try (first | rw [if_pos (by omega)] | rw [if_neg (by omega)])); (try (first | rw [if_pos (by omega)] | rw [if_neg (by omega)])); (try rfl))) k) dX4_brooms_25
  · skip
    refine r_iload_n (pc := 10) C dX4_brooms_10 rfl 2 rfl ?_
    refine r_iconst (pc := 11) C dX4_brooms_11 ?_
    refine r_bipush (pc := 12) C dX4_brooms_12 (by decide) ?_
    refine r_cSi (pc := 14) C (c_isWithin g n 0 20 h_n ⟨by omega, by omega⟩ ⟨by omega, by omega⟩ σ) yX4_isWithin_w rfl t_248 ⟨by decide, by decide⟩ (Nat.le_of_ble_eq_true rfl) rfl dX4_brooms_14 ?_
    refine r_ifz_ne (pc := 17) C 26 dX4_brooms_17 (by decide) (fun h17 => ?_) (fun h17 => ?_)
    · skip
      refine r_iconst (pc := 26) C dX4_brooms_26 ?_
      refine r_aload_n (pc := 27) C dX4_brooms_27 rfl 0 rfl ?_
      refine r_getR4 (pc := 28) C 0 (k' := 0) rfl O_40 (by decide) rfl t_216 dX4_brooms_28 ?_
      refine r_getI0 (pc := 31) C 7 rfl O_0 (by decide) rfl t_120 dX4_brooms_31 ?_
      refine r_ishl (pc := 34) C dX4_brooms_34 ?_
      refine r_iconst (pc := 35) C dX4_brooms_35 ?_
      refine r_isub (pc := 36) C dX4_brooms_36 ?_
      refine r_istore_n (pc := 37) C dX4_brooms_37 rfl (by decide) [1, 2, 3, 0] (lv' := [(0, .ref (gA g 40)), (1, .int (iI (v))), (2, .int (iI (n))), (3, .int (iI ((bshl 1 (σ 0 7)) - 1)))]) rfl ?_
      refine r_aload_n (pc := 38) C dX4_brooms_38 rfl 0 rfl ?_
      refine r_iload_n (pc := 39) C dX4_brooms_39 rfl 3 rfl ?_
      refine r_iload_n (pc := 40) C dX4_brooms_40 rfl 2 rfl ?_
      refine r_cVt (pc := 41) C (c_dustSweptBy g ((bshl 1 (σ 0 7)) - 1) ⟨by omega, by omega⟩ n.toNat (by omega) σ hWs) yX4_dustSweptBy_w O_40 rfl rfl t_493 ⟨by decide, by decide⟩ (Nat.le_of_ble_eq_true rfl) (by rw [show ((n.toNat : Nat) : Int) = n by omega]; rfl) dX4_brooms_41 (fun s41 hT41 => ?_)
      have hVa := hV (bshl 1 (σ 0 7) - 1)
      refine r_top (show _ = (vSet (σ 0 7) (σ 0 8) (σ 0 9) (σ 3) (σ 4) (σ 1) n.toNat) (bshl 1 (σ 0 7) - 1) from rfl) ?_
      skip
      refine r_iload_n (pc := 44) C dX4_brooms_44 rfl 1 rfl ?_
      refine r_icmp_le (pc := 45) C 54 ⟨by omega, by omega⟩ h_v dX4_brooms_45 (by decide) (fun h45 => ?_) (fun h45 => ?_)
      · skip
        refine r_iconst (pc := 54) C dX4_brooms_54 ?_
        refine r_istore (pc := 55) C dX4_brooms_55 (by decide) [1, 2, 3, 4, 0] (lv' := [(0, .ref (gA g 40)), (1, .int (iI (v))), (2, .int (iI (n))), (3, .int (iI ((bshl 1 (σ 0 7)) - 1))), (4, .int (iI (0)))]) rfl ?_
        have L57 : ∀ (n_ : Nat) (z : Nat) (x57_4 : Int) (s57 : Sg), (σ 0 7).toNat - z < n_ → ((z : Int) ≤ σ 0 7) → (∀ k, (k < 8 ∨ 16 ≤ k) → s57 k = σ k) → (brm (brz (vSet (σ 0 7) (σ 0 8) (σ 0 9) (σ 3) (σ 4) (σ 1) n.toNat) v (bshl 1 (σ 0 7) - 1).toNat) (σ 0 7).toNat 0 = brm (brz (vSet (σ 0 7) (σ 0 8) (σ 0 9) (σ 3) (σ 4) (σ 1) n.toNat) v (bshl 1 (σ 0 7) - 1).toNat) ((σ 0 7).toNat - z) z) → x57_4 = (z : Int) → J g E (pT (if (0 ≤ v ∧ v ≤ 99999) ∧ 0 ≤ n ∧ n ≤ 20 then (if v < (vSet (σ 0 7) (σ 0 8) (σ 0 9) (σ 3) (σ 4) (σ 1) n.toNat) (bshl 1 (σ 0 7) - 1) then (-1000001 - ((3 : Nat) : Int)) else if brm (brz (vSet (σ 0 7) (σ 0 8) (σ 0 9) (σ 3) (σ 4) (σ 1) n.toNat) v (bshl 1 (σ 0 7) - 1).toNat) (σ 0 7).toNat 0 = -1 then (bshl 1 (σ 0 7) - 1) else brm (brz (vSet (σ 0 7) (σ 0 8) (σ 0 9) (σ 3) (σ 4) (σ 1) n.toNat) v (bshl 1 (σ 0 7) - 1).toNat) (σ 0 7).toNat 0) else (-1000001 - ((0 : Nat) : Int))) (if (0 ≤ v ∧ v ≤ 99999) ∧ 0 ≤ n ∧ n ≤ 20 then (if v < (vSet (σ 0 7) (σ 0 8) (σ 0 9) (σ 3) (σ 4) (σ 1) n.toNat) (bshl 1 (σ 0 7) - 1) then fin 3 σ else σ) else fin 0 σ)) 6 57 [(0, .ref (gA g 40)), (1, .int (iI (v))), (2, .int (iI (n))), (3, .int (iI ((bshl 1 (σ 0 7)) - 1))), (4, .int (iI (x57_4)))] [] s57 := by
          intro n_
          induction n_ with
          | zero => intro z x57_4 s57 hm_; exact absurd hm_ (Nat.not_lt_zero _)
          | succ n_ ih57 =>
            intro z x57_4 s57 hm57 hi57_0 hi57_1 hi57_2 e57_0 
            subst e57_0 
            refine r_iload (pc := 57) C dX4_brooms_57 4 rfl ?_
            refine r_aload_n (pc := 59) C dX4_brooms_59 rfl 0 rfl ?_
            refine r_getR4 (pc := 60) C 0 (k' := 0) rfl O_40 (by decide) rfl t_216 dX4_brooms_60 ?_
            refine r_getI0 (pc := 63) C 7 rfl O_0 (by decide) rfl t_120 dX4_brooms_63 ?_
            refine r_top (show s57 0 7 = σ 0 7 from by rw [hi57_1 0 (by omega)]) ?_
            refine r_icmp_ge (pc := 66) C 114 ⟨by omega, by omega⟩ ⟨by omega, by omega⟩ dX4_brooms_66 (by decide) (fun h66 => ?_) (fun h66 => ?_)
            · skip
              have hF : brm (brz (vSet (σ 0 7) (σ 0 8) (σ 0 9) (σ 3) (σ 4) (σ 1) n.toNat) v (bshl 1 (σ 0 7) - 1).toNat) (σ 0 7).toNat 0 = -1 := by rw [hi57_2, show (σ 0 7).toNat - z = 0 by omega, brm]
              refine r_iload_n (pc := 114) C dX4_brooms_114 rfl 3 rfl ?_
              exact r_retT (pc := 115) C (by rw [if_pos (by omega), if_neg (by omega), if_pos hF]) (fun k hk => by rw [if_pos (by omega), if_neg (by omega)]; exact hi57_1 k hk) dX4_brooms_115
            · skip
              refine r_iconst (pc := 69) C dX4_brooms_69 ?_
              refine r_istore (pc := 70) C dX4_brooms_70 (by decide) [1, 2, 3, 4, 5, 0] (lv' := [(0, .ref (gA g 40)), (1, .int (iI (v))), (2, .int (iI (n))), (3, .int (iI ((bshl 1 (σ 0 7)) - 1))), (4, .int (iI ((z : Int)))), (5, .int (iI (0)))]) rfl ?_
              have L72 : ∀ (n_ : Nat) (j : Nat) (x72_5 : Int) (s72 : Sg), (bshl 1 (σ 0 7) - 1).toNat - j < n_ → ((j : Int) ≤ (bshl 1 (σ 0 7) - 1)) → (∀ k, (k < 8 ∨ 16 ≤ k) → s72 k = σ k) → (firstF (fun q : Nat => decide (bitc (q : Int) = (z : Int)) && decide ((vSet (σ 0 7) (σ 0 8) (σ 0 9) (σ 3) (σ 4) (σ 1) n.toNat) (q : Int) ≤ v)) (bshl 1 (σ 0 7) - 1).toNat 0 = firstF (fun q : Nat => decide (bitc (q : Int) = (z : Int)) && decide ((vSet (σ 0 7) (σ 0 8) (σ 0 9) (σ 3) (σ 4) (σ 1) n.toNat) (q : Int) ≤ v)) ((bshl 1 (σ 0 7) - 1).toNat - j) j) → x72_5 = (j : Int) → J g E (pT (if (0 ≤ v ∧ v ≤ 99999) ∧ 0 ≤ n ∧ n ≤ 20 then (if v < (vSet (σ 0 7) (σ 0 8) (σ 0 9) (σ 3) (σ 4) (σ 1) n.toNat) (bshl 1 (σ 0 7) - 1) then (-1000001 - ((3 : Nat) : Int)) else if brm (brz (vSet (σ 0 7) (σ 0 8) (σ 0 9) (σ 3) (σ 4) (σ 1) n.toNat) v (bshl 1 (σ 0 7) - 1).toNat) (σ 0 7).toNat 0 = -1 then (bshl 1 (σ 0 7) - 1) else brm (brz (vSet (σ 0 7) (σ 0 8) (σ 0 9) (σ 3) (σ 4) (σ 1) n.toNat) v (bshl 1 (σ 0 7) - 1).toNat) (σ 0 7).toNat 0) else (-1000001 - ((0 : Nat) : Int))) (if (0 ≤ v ∧ v ≤ 99999) ∧ 0 ≤ n ∧ n ≤ 20 then (if v < (vSet (σ 0 7) (σ 0 8) (σ 0 9) (σ 3) (σ 4) (σ 1) n.toNat) (bshl 1 (σ 0 7) - 1) then fin 3 σ else σ) else fin 0 σ)) 6 72 [(0, .ref (gA g 40)), (1, .int (iI (v))), (2, .int (iI (n))), (3, .int (iI ((bshl 1 (σ 0 7)) - 1))), (4, .int (iI ((z : Int)))), (5, .int (iI (x72_5)))] [] s72 := by
                intro n_
                induction n_ with
                | zero => intro j x72_5 s72 hm_; exact absurd hm_ (Nat.not_lt_zero _)
                | succ n_ ih72 =>
                  intro j x72_5 s72 hm72 hi72_0 hi72_1 hi72_2 e72_0 
                  subst e72_0 
                  have hWs := RW_cong hi72_1 hW
                  have hVj := hV (j : Int)
                  refine r_iload (pc := 72) C dX4_brooms_72 5 rfl ?_
                  refine r_iload_n (pc := 74) C dX4_brooms_74 rfl 3 rfl ?_
                  refine r_icmp_ge (pc := 75) C 108 ⟨by omega, by omega⟩ ⟨by omega, by omega⟩ dX4_brooms_75 (by decide) (fun h75 => ?_) (fun h75 => ?_)
                  · skip
                    refine r_iinc (pc := 108) C dX4_brooms_108 4 rfl (by decide) [1, 2, 3, 4, 0, 5] (lv' := [(0, .ref (gA g 40)), (1, .int (iI (v))), (2, .int (iI (n))), (3, .int (iI ((bshl 1 (σ 0 7)) - 1))), (4, .int (iI ((z : Int) + 1))), (5, .int (iI ((j : Int))))]) rfl ?_
                    refine r_goto (pc := 111) C 57 dX4_brooms_111 (by decide) ?_
                    refine r_lv [0, 1, 2, 3, 4] (lv' := [(0, .ref (gA g 40)), (1, .int (iI (v))), (2, .int (iI (n))), (3, .int (iI ((bshl 1 (σ 0 7)) - 1))), (4, .int (iI ((z : Int) + 1)))]) rfl ?_
                    exact ih57 (z + 1) _ _ (by omega) (by omega) (by exact hi72_1) (by rw [hi57_2, show (σ 0 7).toNat - z = (σ 0 7).toNat - (z + 1) + 1 by omega, brm, if_pos (show (brz (vSet (σ 0 7) (σ 0 8) (σ 0 9) (σ 3) (σ 4) (σ 1) n.toNat) v (bshl 1 (σ 0 7) - 1).toNat) z = -1 by unfold brz; rw [hi72_2, show (bshl 1 (σ 0 7) - 1).toNat - j = 0 by omega, firstF])]) (by omega)
                  · skip
                    refine r_iload (pc := 78) C dX4_brooms_78 5 rfl ?_
                    refine r_cSi (pc := 80) C (c_bitCount g (j : Int) s72) yJ6_bitCount_0f7a4_w rfl t_497 ⟨by decide, by decide⟩ (Nat.le_of_ble_eq_true rfl) rfl dX4_brooms_80 ?_
                    refine r_iload (pc := 83) C dX4_brooms_83 4 rfl ?_
                    refine r_icmp_ne (pc := 85) C 102 (bitc_rng _) ⟨by omega, by omega⟩ dX4_brooms_85 (by decide) (fun h85 => ?_) (fun h85 => ?_)
                    · skip
                      refine r_iinc (pc := 102) C dX4_brooms_102 5 rfl (by decide) [1, 2, 3, 4, 5, 0] (lv' := [(0, .ref (gA g 40)), (1, .int (iI (v))), (2, .int (iI (n))), (3, .int (iI ((bshl 1 (σ 0 7)) - 1))), (4, .int (iI ((z : Int)))), (5, .int (iI ((j : Int) + 1)))]) rfl ?_
                      refine r_goto (pc := 105) C 72 dX4_brooms_105 (by decide) ?_
                      exact ih72 (j + 1) _ _ (by omega) (by omega) (by first | exact hi72_1 | exact fun k hk => (hT92 k hk).trans (hi72_1 k hk)) (by rw [hi72_2, show (bshl 1 (σ 0 7) - 1).toNat - j = (bshl 1 (σ 0 7) - 1).toNat - (j + 1) + 1 by omega, firstF, if_neg (by simp; omega)]) (by omega)
                    · skip
                      refine r_aload_n (pc := 88) C dX4_brooms_88 rfl 0 rfl ?_
                      refine r_iload (pc := 89) C dX4_brooms_89 5 rfl ?_
                      refine r_iload_n (pc := 91) C dX4_brooms_91 rfl 2 rfl ?_
                      refine r_cVt (pc := 92) C (c_dustSweptBy g (j : Int) ⟨by omega, by omega⟩ n.toNat (by omega) s72 hWs) yX4_dustSweptBy_w O_40 rfl rfl t_493 ⟨by decide, by decide⟩ (Nat.le_of_ble_eq_true rfl) (by rw [show ((n.toNat : Nat) : Int) = n by omega]; rfl) dX4_brooms_92 (fun s92 hT92 => ?_)
                      refine r_top (show _ = (vSet (σ 0 7) (σ 0 8) (σ 0 9) (σ 3) (σ 4) (σ 1) n.toNat) (j : Int) by rw [hi72_1 0 (by omega), hi72_1 1 (by omega), hi72_1 3 (by omega), hi72_1 4 (by omega)]; rfl) ?_
                      skip
                      refine r_iload_n (pc := 95) C dX4_brooms_95 rfl 1 rfl ?_
                      refine r_icmp_gt (pc := 96) C 102 ⟨by omega, by omega⟩ h_v dX4_brooms_96 (by decide) (fun h96 => ?_) (fun h96 => ?_)
                      · skip
                        refine r_iinc (pc := 102) C dX4_brooms_102 5 rfl (by decide) [1, 2, 3, 4, 5, 0] (lv' := [(0, .ref (gA g 40)), (1, .int (iI (v))), (2, .int (iI (n))), (3, .int (iI ((bshl 1 (σ 0 7)) - 1))), (4, .int (iI ((z : Int)))), (5, .int (iI ((j : Int) + 1)))]) rfl ?_
                        refine r_goto (pc := 105) C 72 dX4_brooms_105 (by decide) ?_
                        exact ih72 (j + 1) _ _ (by omega) (by omega) (by first | exact hi72_1 | exact fun k hk => (hT92 k hk).trans (hi72_1 k hk)) (by rw [hi72_2, show (bshl 1 (σ 0 7) - 1).toNat - j = (bshl 1 (σ 0 7) - 1).toNat - (j + 1) + 1 by omega, firstF, if_neg (by simp; omega)]) (by omega)
                      · skip
                        have hq : firstF (fun q : Nat => decide (bitc (q : Int) = (z : Int)) && decide ((vSet (σ 0 7) (σ 0 8) (σ 0 9) (σ 3) (σ 4) (σ 1) n.toNat) (q : Int) ≤ v)) (bshl 1 (σ 0 7) - 1).toNat 0 = (j : Int) := by rw [hi72_2, show (bshl 1 (σ 0 7) - 1).toNat - j = (bshl 1 (σ 0 7) - 1).toNat - (j + 1) + 1 by omega, firstF, if_pos (by simp; omega)]
                        have hz2 : (brz (vSet (σ 0 7) (σ 0 8) (σ 0 9) (σ 3) (σ 4) (σ 1) n.toNat) v (bshl 1 (σ 0 7) - 1).toNat) z = (j : Int) := by unfold brz; exact hq
                        have hF : brm (brz (vSet (σ 0 7) (σ 0 8) (σ 0 9) (σ 3) (σ 4) (σ 1) n.toNat) v (bshl 1 (σ 0 7) - 1).toNat) (σ 0 7).toNat 0 = (j : Int) := by rw [hi57_2, show (σ 0 7).toNat - z = (σ 0 7).toNat - (z + 1) + 1 by omega, brm, if_neg (by omega), hz2]
                        refine r_iload (pc := 99) C dX4_brooms_99 5 rfl ?_
                        exact r_retT (pc := 101) C (by rw [if_pos (by omega), if_neg (by omega), if_neg (by omega), hF]) (fun k hk => by rw [if_pos (by omega), if_neg (by omega)]; exact (hT92 k hk).trans (hi72_1 k hk)) dX4_brooms_101
              exact L72 _ 0 _ _ (Nat.lt_succ_self _) (by omega) (by exact hi57_1) (by rfl) (rfl)
        exact L57 _ 0 _ _ (Nat.lt_succ_self _) (by omega) (by exact hT41) (by rfl) (rfl)
      · skip
        refine r_aload_n (pc := 48) C dX4_brooms_48 rfl 0 rfl ?_
        refine r_iconst (pc := 49) C dX4_brooms_49 ?_
        refine r_cVi (pc := 50) C (c_finding g 3 (by decide) s41) yX4_finding_w O_40 rfl rfl t_251 ⟨by decide, by decide⟩ (Nat.le_of_ble_eq_true rfl) rfl dX4_brooms_50 ?_
        exact r_retT (pc := 53) C (by rw [if_pos (by omega), if_pos (by omega)]) (fun k hk => by rw [if_pos (by omega), if_pos (by omega)]; exact tr_fin 3 hT41 k hk) dX4_brooms_53
    · skip
      refine r_aload_n (pc := 20) C dX4_brooms_20 rfl 0 rfl ?_
      refine r_iconst (pc := 21) C dX4_brooms_21 ?_
      refine r_cVi (pc := 22) C (c_finding g 0 (by decide) σ) yX4_finding_w O_40 rfl rfl t_251 ⟨by decide, by decide⟩ (Nat.le_of_ble_eq_true rfl) rfl dX4_brooms_22 ?_
      exact r_retT (pc := 25) C (by first | (exfalso; omega; done) | ((try (first | rw [if_pos (by omega)] | rw [if_neg (by omega)])); (try (first | rw [if_pos (by omega)] | rw [if_neg (by omega)])); (try (first | rw [if_pos (by omega)] | rw [if_neg (by omega)])); (try (first | rw [if_pos (by omega)] | rw [if_neg (by omega)])); (try rfl))) (fun k _ => congrFun (by first | (exfalso; omega; done) | ((try (first | rw [if_pos (by omega)] | rw [if_neg (by omega)])); (try (first | rw [if_pos (by omega)] | rw [if_neg (by omega)])); (try (first | rw [if_pos (by omega)] | rw [if_neg (by omega)])); (try (first | rw [if_pos (by omega)] | rw [if_neg (by omega)])); (try rfl))) k) dX4_brooms_25
set_option maxHeartbeats 4000000 in
set_option maxRecDepth 100000 in
theorem c_hasGoodsAsTold (g : Gt) (s t : Nat) (hs : s < 4) (ht : t < 8) (σ : Sg) (hW : RW σ 8) (hl : 0 ≤ σ (31 + 2 * s) 2 ∧ σ (31 + 2 * s) 2 ≤ 40) (hN : ∀ j, j < 40 → rng (σ (32 + 2 * s) j)) : Mt g yX4_hasGoodsAsTold cX4_hasGoodsAsTold 5 (some FieldType.boolean) 4 [.ref (gA g 40), .int (iI ((t : Int))), .ref (gA g (31 + 2 * s))] σ (pT (b01 (tld (σ (32 + 2 * s)) (σ (31 + 2 * s) 2) (fun i => dsS_8 i σ 13 t) 41 0 = true)) σ) := by
  refine mt_of (own := RX4) (by decide) rfl (Nat.le_of_ble_eq_true rfl) (fun E C => ?_)
  show J g E (pT (b01 (tld (σ (32 + 2 * s)) (σ (31 + 2 * s) 2) (fun i => dsS_8 i σ 13 t) 41 0 = true)) σ) 5 0 [(0, .ref (gA g 40)), (1, .int (iI ((t : Int)))), (2, .ref (gA g (31 + 2 * s)))] [] σ
  refine r_iconst (pc := 0) C dX4_hasGoodsAsTold_0 ?_
  refine r_istore_n (pc := 1) C dX4_hasGoodsAsTold_1 rfl (by decide) [1, 2, 3, 0] (lv' := [(0, .ref (gA g 40)), (1, .int (iI ((t : Int)))), (2, .ref (gA g (31 + 2 * s))), (3, .int (iI (0)))]) rfl ?_
  have L2 : ∀ (n_ : Nat) (i : Nat) (x2_3 : Int) (s2 : Sg), 41 - i < n_ → (i ≤ 40) → (tld (σ (32 + 2 * s)) (σ (31 + 2 * s) 2) (fun i => dsS_8 i σ 13 t) 41 0 = tld (σ (32 + 2 * s)) (σ (31 + 2 * s) 2) (fun i => dsS_8 i σ 13 t) (41 - i) i) → x2_3 = (i : Int) → s2 = dsS_8 (i - 1) σ → J g E (pT (b01 (tld (σ (32 + 2 * s)) (σ (31 + 2 * s) 2) (fun i => dsS_8 i σ 13 t) 41 0 = true)) σ) 5 2 [(0, .ref (gA g 40)), (1, .int (iI ((t : Int)))), (2, .ref (gA g (31 + 2 * s))), (3, .int (iI (x2_3)))] [] s2 := by
    intro n_
    induction n_ with
    | zero => intro i x2_3 s2 hm_; exact absurd hm_ (Nat.not_lt_zero _)
    | succ n_ ih2 =>
      intro i x2_3 s2 hm2 hi2_0 hi2_1 e2_0 es2
      subst e2_0 es2
      have hWd := dsS_RW_8 hW (i - 1)
      have hWe : rgG (dsS_8 i σ 13) := (dsS_RW_8 hW i).2.2.2.2.2.2.2.2.1
      have hge := hWe t ht
      refine r_iload_n (pc := 2) C dX4_hasGoodsAsTold_2 rfl 3 rfl ?_
      refine r_aload_n (pc := 3) C dX4_hasGoodsAsTold_3 rfl 2 rfl ?_
      refine r_getI1 (pc := 4) C 2 (Rl_sh (by omega)) (O_sh (by omega)) (by decide) rfl t_208 dX4_hasGoodsAsTold_4 ?_
      refine r_top (show (dsS_8 (i - 1) σ) (31 + 2 * s) 2 = σ (31 + 2 * s) 2 from by rw [tr_ds _ (by omega)]) ?_
      refine r_icmp_ge (pc := 7) C 57 ⟨by omega, by omega⟩ ⟨by omega, by omega⟩ dX4_hasGoodsAsTold_7 (by decide) (fun h7 => ?_) (fun h7 => ?_)
      · skip
        refine r_iconst (pc := 57) C dX4_hasGoodsAsTold_57 ?_
        exact r_retTz (pc := 58) C (Or.inr rfl) (b01_1 (by rw [hi2_1, show 41 - i = 41 - (i + 1) + 1 by omega, tld, if_neg (by omega)])) (fun k hk => tr_ds _ hk _) dX4_hasGoodsAsTold_58
      · skip
        refine r_iload_n (pc := 10) C dX4_hasGoodsAsTold_10 rfl 3 rfl ?_
        refine r_if_le (pc := 11) C 21 ⟨by omega, by omega⟩ dX4_hasGoodsAsTold_11 (by decide) (fun h11 => ?_) (fun h11 => ?_)
        · skip
          refine r_aload_n (pc := 21) C dX4_hasGoodsAsTold_21 rfl 2 rfl ?_
          refine r_getR1 (pc := 22) C 0 (k' := (32 + 2 * s)) (Rn_sh (by omega)) (O_sh (by omega)) (by decide) rfl t_204 dX4_hasGoodsAsTold_22 ?_
          refine r_iload_n (pc := 25) C dX4_hasGoodsAsTold_25 rfl 3 rfl ?_
          refine r_iald (pc := 26) C i (A_sh (by omega)) (by omega) (by omega) dX4_hasGoodsAsTold_26 ?_
          refine r_top (show (dsS_8 (i - 1) σ) (32 + 2 * s) i = σ (32 + 2 * s) i from by first | rw [tr_ds _ (by omega)] | rw [tr_dy _ (by omega), tr_ds _ (by omega)]) ?_
          have hr := hN i (by omega)
          have hr1 := hr.1; have hr2 := hr.2
          refine r_istore (pc := 27) C dX4_hasGoodsAsTold_27 (by decide) [1, 2, 3, 4, 0] (lv' := [(0, .ref (gA g 40)), (1, .int (iI ((t : Int)))), (2, .ref (gA g (31 + 2 * s))), (3, .int (iI ((i : Int)))), (4, .int (iI (σ (32 + 2 * s) i)))]) rfl ?_
          refine r_iload (pc := 29) C dX4_hasGoodsAsTold_29 4 rfl ?_
          refine r_iconst (pc := 31) C dX4_hasGoodsAsTold_31 ?_
          refine r_icmp_eq (pc := 32) C 51 ⟨by omega, by omega⟩ ⟨by omega, by omega⟩ dX4_hasGoodsAsTold_32 (by decide) (fun h32 => ?_) (fun h32 => ?_)
          · skip
            refine r_iinc (pc := 51) C dX4_hasGoodsAsTold_51 3 rfl (by decide) [1, 2, 3, 0, 4] (lv' := [(0, .ref (gA g 40)), (1, .int (iI ((t : Int)))), (2, .ref (gA g (31 + 2 * s))), (3, .int (iI ((i : Int) + 1))), (4, .int (iI (σ (32 + 2 * s) i)))]) rfl ?_
            refine r_goto (pc := 54) C 2 dX4_hasGoodsAsTold_54 (by decide) ?_
            refine r_lv [0, 1, 2, 3] (lv' := [(0, .ref (gA g 40)), (1, .int (iI ((t : Int)))), (2, .ref (gA g (31 + 2 * s))), (3, .int (iI ((i : Int) + 1)))]) rfl ?_
            exact ih2 (i + 1) _ _ (by omega) (by omega) (by rw [hi2_1, show 41 - i = 41 - (i + 1) + 1 by omega, tld, if_pos (by omega), if_pos (by omega)]) (by omega) (by first | (rw [show i + 1 - 1 = (i - 1) + 1 by omega]; rfl) | (rw [show i = 0 by omega]))
          · skip
            refine r_iload (pc := 35) C dX4_hasGoodsAsTold_35 4 rfl ?_
            refine r_aload_n (pc := 37) C dX4_hasGoodsAsTold_37 rfl 0 rfl ?_
            refine r_getR4 (pc := 38) C 1 (k' := 8) rfl O_40 (by decide) rfl t_217 dX4_hasGoodsAsTold_38 ?_
            refine r_getR0 (pc := 41) C 4 (k' := 13) rfl O_8 (by decide) rfl t_112 dX4_hasGoodsAsTold_41 ?_
            refine r_iload_n (pc := 44) C dX4_hasGoodsAsTold_44 rfl 1 rfl ?_
            refine r_iald (pc := 45) C t A_13 (by omega) (by omega) dX4_hasGoodsAsTold_45 ?_
            refine r_top (show (dsS_8 (i - 1) σ) 13 t = dsS_8 i σ 13 t from by first | (show dsS_8 (i - 1 + 1) σ 13 t = _; rw [show i - 1 + 1 = i by omega]; done) | (rw [show i - 1 = i by omega])) ?_
            refine r_icmp_eq (pc := 46) C 51 ⟨by omega, by omega⟩ ⟨by omega, by omega⟩ dX4_hasGoodsAsTold_46 (by decide) (fun h46 => ?_) (fun h46 => ?_)
            · skip
              refine r_iinc (pc := 51) C dX4_hasGoodsAsTold_51 3 rfl (by decide) [1, 2, 3, 0, 4] (lv' := [(0, .ref (gA g 40)), (1, .int (iI ((t : Int)))), (2, .ref (gA g (31 + 2 * s))), (3, .int (iI ((i : Int) + 1))), (4, .int (iI (σ (32 + 2 * s) i)))]) rfl ?_
              refine r_goto (pc := 54) C 2 dX4_hasGoodsAsTold_54 (by decide) ?_
              refine r_lv [0, 1, 2, 3] (lv' := [(0, .ref (gA g 40)), (1, .int (iI ((t : Int)))), (2, .ref (gA g (31 + 2 * s))), (3, .int (iI ((i : Int) + 1)))]) rfl ?_
              exact ih2 (i + 1) _ _ (by omega) (by omega) (by rw [hi2_1, show 41 - i = 41 - (i + 1) + 1 by omega, tld, if_pos (by omega), if_pos (by omega)]) (by omega) (by first | (rw [show i + 1 - 1 = (i - 1) + 1 by omega]; rfl) | (rw [show i = 0 by omega]))
            · skip
              refine r_iconst (pc := 49) C dX4_hasGoodsAsTold_49 ?_
              exact r_retTz (pc := 50) C (Or.inl rfl) (b01_0 (by rw [hi2_1, show 41 - i = 41 - (i + 1) + 1 by omega, tld, if_pos (by omega), if_neg (by omega)]; decide)) (fun k hk => by first | exact (tr_dy _ hk).trans (tr_ds _ hk _) | exact tr_ds _ hk _) dX4_hasGoodsAsTold_50
        · skip
          refine r_aload_n (pc := 14) C dX4_hasGoodsAsTold_14 rfl 0 rfl ?_
          refine r_getR4 (pc := 15) C 1 (k' := 8) rfl O_40 (by decide) rfl t_217 dX4_hasGoodsAsTold_15 ?_
          refine r_cVv (pc := 18) C (c_passDay_8 g (dsS_8 (i - 1) σ) hWd) yX0_passDay_w O_8 rfl rfl t_444 ⟨by decide, by decide⟩ (Nat.le_of_ble_eq_true rfl) rfl dX4_hasGoodsAsTold_18 ?_
          refine r_aload_n (pc := 21) C dX4_hasGoodsAsTold_21 rfl 2 rfl ?_
          refine r_getR1 (pc := 22) C 0 (k' := (32 + 2 * s)) (Rn_sh (by omega)) (O_sh (by omega)) (by decide) rfl t_204 dX4_hasGoodsAsTold_22 ?_
          refine r_iload_n (pc := 25) C dX4_hasGoodsAsTold_25 rfl 3 rfl ?_
          refine r_iald (pc := 26) C i (A_sh (by omega)) (by omega) (by omega) dX4_hasGoodsAsTold_26 ?_
          refine r_top (show (dyS_8 (dsS_8 (i - 1) σ)) (32 + 2 * s) i = σ (32 + 2 * s) i from by first | rw [tr_ds _ (by omega)] | rw [tr_dy _ (by omega), tr_ds _ (by omega)]) ?_
          have hr := hN i (by omega)
          have hr1 := hr.1; have hr2 := hr.2
          refine r_istore (pc := 27) C dX4_hasGoodsAsTold_27 (by decide) [1, 2, 3, 4, 0] (lv' := [(0, .ref (gA g 40)), (1, .int (iI ((t : Int)))), (2, .ref (gA g (31 + 2 * s))), (3, .int (iI ((i : Int)))), (4, .int (iI (σ (32 + 2 * s) i)))]) rfl ?_
          refine r_iload (pc := 29) C dX4_hasGoodsAsTold_29 4 rfl ?_
          refine r_iconst (pc := 31) C dX4_hasGoodsAsTold_31 ?_
          refine r_icmp_eq (pc := 32) C 51 ⟨by omega, by omega⟩ ⟨by omega, by omega⟩ dX4_hasGoodsAsTold_32 (by decide) (fun h32 => ?_) (fun h32 => ?_)
          · skip
            refine r_iinc (pc := 51) C dX4_hasGoodsAsTold_51 3 rfl (by decide) [1, 2, 3, 0, 4] (lv' := [(0, .ref (gA g 40)), (1, .int (iI ((t : Int)))), (2, .ref (gA g (31 + 2 * s))), (3, .int (iI ((i : Int) + 1))), (4, .int (iI (σ (32 + 2 * s) i)))]) rfl ?_
            refine r_goto (pc := 54) C 2 dX4_hasGoodsAsTold_54 (by decide) ?_
            refine r_lv [0, 1, 2, 3] (lv' := [(0, .ref (gA g 40)), (1, .int (iI ((t : Int)))), (2, .ref (gA g (31 + 2 * s))), (3, .int (iI ((i : Int) + 1)))]) rfl ?_
            exact ih2 (i + 1) _ _ (by omega) (by omega) (by rw [hi2_1, show 41 - i = 41 - (i + 1) + 1 by omega, tld, if_pos (by omega), if_pos (by omega)]) (by omega) (by first | (rw [show i + 1 - 1 = (i - 1) + 1 by omega]; rfl) | (rw [show i = 0 by omega]))
          · skip
            refine r_iload (pc := 35) C dX4_hasGoodsAsTold_35 4 rfl ?_
            refine r_aload_n (pc := 37) C dX4_hasGoodsAsTold_37 rfl 0 rfl ?_
            refine r_getR4 (pc := 38) C 1 (k' := 8) rfl O_40 (by decide) rfl t_217 dX4_hasGoodsAsTold_38 ?_
            refine r_getR0 (pc := 41) C 4 (k' := 13) rfl O_8 (by decide) rfl t_112 dX4_hasGoodsAsTold_41 ?_
            refine r_iload_n (pc := 44) C dX4_hasGoodsAsTold_44 rfl 1 rfl ?_
            refine r_iald (pc := 45) C t A_13 (by omega) (by omega) dX4_hasGoodsAsTold_45 ?_
            refine r_top (show (dyS_8 (dsS_8 (i - 1) σ)) 13 t = dsS_8 i σ 13 t from by first | (show dsS_8 (i - 1 + 1) σ 13 t = _; rw [show i - 1 + 1 = i by omega]; done) | (rw [show i - 1 = i by omega])) ?_
            refine r_icmp_eq (pc := 46) C 51 ⟨by omega, by omega⟩ ⟨by omega, by omega⟩ dX4_hasGoodsAsTold_46 (by decide) (fun h46 => ?_) (fun h46 => ?_)
            · skip
              refine r_iinc (pc := 51) C dX4_hasGoodsAsTold_51 3 rfl (by decide) [1, 2, 3, 0, 4] (lv' := [(0, .ref (gA g 40)), (1, .int (iI ((t : Int)))), (2, .ref (gA g (31 + 2 * s))), (3, .int (iI ((i : Int) + 1))), (4, .int (iI (σ (32 + 2 * s) i)))]) rfl ?_
              refine r_goto (pc := 54) C 2 dX4_hasGoodsAsTold_54 (by decide) ?_
              refine r_lv [0, 1, 2, 3] (lv' := [(0, .ref (gA g 40)), (1, .int (iI ((t : Int)))), (2, .ref (gA g (31 + 2 * s))), (3, .int (iI ((i : Int) + 1)))]) rfl ?_
              exact ih2 (i + 1) _ _ (by omega) (by omega) (by rw [hi2_1, show 41 - i = 41 - (i + 1) + 1 by omega, tld, if_pos (by omega), if_pos (by omega)]) (by omega) (by first | (rw [show i + 1 - 1 = (i - 1) + 1 by omega]; rfl) | (rw [show i = 0 by omega]))
            · skip
              refine r_iconst (pc := 49) C dX4_hasGoodsAsTold_49 ?_
              exact r_retTz (pc := 50) C (Or.inl rfl) (b01_0 (by rw [hi2_1, show 41 - i = 41 - (i + 1) + 1 by omega, tld, if_pos (by omega), if_neg (by omega)]; decide)) (fun k hk => by first | exact (tr_dy _ hk).trans (tr_ds _ hk _) | exact tr_ds _ hk _) dX4_hasGoodsAsTold_50
  exact L2 _ 0 _ _ (Nat.lt_succ_self _) (by omega) (by rfl) (rfl) (rfl)
def tlG (n fl w : Int) (K A : Nat → Int) (q : T3) (t : Nat) (N : Nat → Int) (len : Int) : Bool := tld N len (fun i => (daysC n fl w K A 255 i q).2.1 t) 41 0
set_option maxHeartbeats 4000000 in
set_option maxRecDepth 100000 in
theorem c_allThatFit_0 (g : Gt) (s t : Nat) (hs : s < 4) (σ : Sg) (hW : RW σ 0) (ht : (t : Int) < σ 0 7) (hl : 0 ≤ σ (31 + 2 * s) 2 ∧ σ (31 + 2 * s) 2 ≤ 40) (hN : ∀ j, j < 40 → rng (σ (32 + 2 * s) j)) : Mt g yX4_allThatFit cX4_allThatFit 7 (some FieldType.int) 5 [.ref (gA g 40), .int (iI ((s : Int))), .int (iI ((t : Int))), .int (iI (0)), .int (iI (12))] σ (pT (setF (fun c => tlG (σ 0 7) (σ 0 8) (σ 0 9) (σ 3) (up (σ 4) t (c : Int)) (σ 1, σ 5, σ 6) t (σ (32 + 2 * s)) (σ (31 + 2 * s) 2)) 12) σ) := by
  have hn8 := hW.1
  refine mt_of (own := RX4) (by decide) rfl (Nat.le_of_ble_eq_true rfl) (fun E C => ?_)
  show J g E (pT (setF (fun c => tlG (σ 0 7) (σ 0 8) (σ 0 9) (σ 3) (up (σ 4) t (c : Int)) (σ 1, σ 5, σ 6) t (σ (32 + 2 * s)) (σ (31 + 2 * s) 2)) 12) σ) 7 0 [(0, .ref (gA g 40)), (1, .int (iI ((s : Int)))), (2, .int (iI ((t : Int)))), (3, .int (iI (0))), (4, .int (iI (12)))] [] σ
  refine r_iconst (pc := 0) C dX4_allThatFit_0 ?_
  refine r_istore (pc := 1) C dX4_allThatFit_1 (by decide) [1, 2, 3, 4, 5, 0] (lv' := [(0, .ref (gA g 40)), (1, .int (iI ((s : Int)))), (2, .int (iI ((t : Int)))), (3, .int (iI (0))), (4, .int (iI (12))), (5, .int (iI (0)))]) rfl ?_
  refine r_iconst (pc := 3) C dX4_allThatFit_3 ?_
  refine r_istore (pc := 4) C dX4_allThatFit_4 (by decide) [1, 2, 3, 4, 5, 6, 0] (lv' := [(0, .ref (gA g 40)), (1, .int (iI ((s : Int)))), (2, .int (iI ((t : Int)))), (3, .int (iI (0))), (4, .int (iI (12))), (5, .int (iI (0))), (6, .int (iI (0)))]) rfl ?_
  have L6 : ∀ (n_ : Nat) (i : Nat) (x6_5 x6_6 : Int) (s6 : Sg), 12 - i < n_ → (i ≤ 12) → (∀ k, (k < 8 ∨ 16 ≤ k) → s6 k = σ k) → x6_5 = setF (fun c => tlG (σ 0 7) (σ 0 8) (σ 0 9) (σ 3) (up (σ 4) t (c : Int)) (σ 1, σ 5, σ 6) t (σ (32 + 2 * s)) (σ (31 + 2 * s) 2)) i → x6_6 = (i : Int) → J g E (pT (setF (fun c => tlG (σ 0 7) (σ 0 8) (σ 0 9) (σ 3) (up (σ 4) t (c : Int)) (σ 1, σ 5, σ 6) t (σ (32 + 2 * s)) (σ (31 + 2 * s) 2)) 12) σ) 7 6 [(0, .ref (gA g 40)), (1, .int (iI ((s : Int)))), (2, .int (iI ((t : Int)))), (3, .int (iI (0))), (4, .int (iI (12))), (5, .int (iI (x6_5))), (6, .int (iI (x6_6)))] [] s6 := by
    intro n_
    induction n_ with
    | zero => intro i x6_5 x6_6 s6 hm_; exact absurd hm_ (Nat.not_lt_zero _)
    | succ n_ ih6 =>
      intro i x6_5 x6_6 s6 hm6 hi6_0 hi6_1 e6_0 e6_1 
      subst e6_0 e6_1 
      have hWs := RW_cong hi6_1 hW
      refine r_iload (pc := 6) C dX4_allThatFit_6 6 rfl ?_
      refine r_iload (pc := 8) C dX4_allThatFit_8 4 rfl ?_
      refine r_icmp_ge (pc := 10) C 50 ⟨by omega, by omega⟩ ⟨by omega, by omega⟩ dX4_allThatFit_10 (by decide) (fun h10 => ?_) (fun h10 => ?_)
      · skip
        refine r_iload (pc := 50) C dX4_allThatFit_50 5 rfl ?_
        exact r_retT (pc := 52) C (by rw [show i = 12 by omega]) (hi6_1) dX4_allThatFit_52
      · skip
        refine r_aload_n (pc := 13) C dX4_allThatFit_13 rfl 0 rfl ?_
        refine r_iload_n (pc := 14) C dX4_allThatFit_14 rfl 2 rfl ?_
        refine r_iload_n (pc := 15) C dX4_allThatFit_15 rfl 3 rfl ?_
        refine r_iload (pc := 16) C dX4_allThatFit_16 6 rfl ?_
        refine r_cVv (pc := 18) C (c_tryOut_0 g t (by omega) (i : Int) s6) yX4_tryOut_w O_40 rfl rfl t_465 ⟨by decide, by decide⟩ (Nat.le_of_ble_eq_true rfl) rfl dX4_allThatFit_18 ?_
        have hWd : RW (wr (bc_8_0 s6) 12 t (i : Int)) 8 := RWt0 (by omega) hWs
        have hTX : ∀ k, (k < 8 ∨ 16 ≤ k) → (wr (bc_8_0 s6) 12 t (i : Int)) k = σ k := fun k hk => (tr_wr _ hk (by omega)).trans ((tr_bc _ hk).trans (hi6_1 k hk))
        have hlz : 0 ≤ (wr (bc_8_0 s6) 12 t (i : Int)) (31 + 2 * s) 2 ∧ (wr (bc_8_0 s6) 12 t (i : Int)) (31 + 2 * s) 2 ≤ 40 := by rw [hTX _ (by omega)]; exact hl
        have hNz : ∀ j, j < 40 → rng ((wr (bc_8_0 s6) 12 t (i : Int)) (32 + 2 * s) j) := by rw [hTX _ (by omega)]; exact hN
        have hsm : tld ((wr (bc_8_0 s6) 12 t (i : Int)) (32 + 2 * s)) ((wr (bc_8_0 s6) 12 t (i : Int)) (31 + 2 * s) 2) (fun e_ => dsS_8 e_ (wr (bc_8_0 s6) 12 t (i : Int)) 13 t) 41 0 = tlG (σ 0 7) (σ 0 8) (σ 0 9) (σ 3) (up (σ 4) t (i : Int)) (σ 1, σ 5, σ 6) t (σ (32 + 2 * s)) (σ (31 + 2 * s) 2) := by
          rw [hTX _ (by omega), hTX _ (by omega)]
          unfold tlG
          congr 1
          funext e
          rw [dsS_8_G]
          show (daysC (s6 0 7) (s6 0 8) (s6 0 9) (s6 3) (up (s6 4) t (i : Int)) 255 e (s6 1, s6 5, s6 6)).2.1 t = _
          rw [hi6_1 0 (by omega), hi6_1 1 (by omega), hi6_1 3 (by omega), hi6_1 4 (by omega), hi6_1 5 (by omega), hi6_1 6 (by omega)]
        refine r_aload_n (pc := 21) C dX4_allThatFit_21 rfl 0 rfl ?_
        refine r_iload_n (pc := 22) C dX4_allThatFit_22 rfl 2 rfl ?_
        refine r_aload_n (pc := 23) C dX4_allThatFit_23 rfl 0 rfl ?_
        refine r_getR4 (pc := 24) C 6 (k' := 30) rfl O_40 (by decide) rfl t_222 dX4_allThatFit_24 ?_
        refine r_iload_n (pc := 27) C dX4_allThatFit_27 rfl 1 rfl ?_
        refine r_aald (pc := 28) C s (by omega) (by omega) dX4_allThatFit_28 ?_
        refine r_cVt (pc := 29) C (c_hasGoodsAsTold g s t (by omega) (by omega) (wr (bc_8_0 s6) 12 t (i : Int)) hWd hlz hNz) yX4_hasGoodsAsTold_w O_40 rfl rfl t_522 ⟨by decide, by decide⟩ (Nat.le_of_ble_eq_true rfl) rfl dX4_allThatFit_29 (fun s29 hT29 => ?_)
        have hTT := fun k hk => (hT29 k hk).trans (hTX k hk)
        refine r_ifz_eq (pc := 32) C 44 dX4_allThatFit_32 (by decide) (fun h32 => ?_) (fun h32 => ?_)
        · skip
          refine r_iinc (pc := 44) C dX4_allThatFit_44 6 rfl (by decide) [1, 2, 3, 4, 5, 6, 0] (lv' := [(0, .ref (gA g 40)), (1, .int (iI ((s : Int)))), (2, .int (iI ((t : Int)))), (3, .int (iI (0))), (4, .int (iI (12))), (5, .int (iI (setF (fun c => tlG (σ 0 7) (σ 0 8) (σ 0 9) (σ 3) (up (σ 4) t (c : Int)) (σ 1, σ 5, σ 6) t (σ (32 + 2 * s)) (σ (31 + 2 * s) 2)) i))), (6, .int (iI ((i : Int) + 1)))]) rfl ?_
          refine r_goto (pc := 47) C 6 dX4_allThatFit_47 (by decide) ?_
          exact ih6 (i + 1) _ _ _ (by omega) (by omega) (by exact hTT) (by first | (rw [setF, if_pos (hsm.symm.trans h32)]; done) | (rw [setF, if_neg (fun q => h32 (hsm.trans q))]; done)) (by omega)
        · skip
          refine r_iload (pc := 35) C dX4_allThatFit_35 5 rfl ?_
          refine r_iconst (pc := 37) C dX4_allThatFit_37 ?_
          refine r_iload (pc := 38) C dX4_allThatFit_38 6 rfl ?_
          refine r_ishl (pc := 40) C dX4_allThatFit_40 ?_
          refine r_ior (pc := 41) C dX4_allThatFit_41 ?_
          refine r_istore (pc := 42) C dX4_allThatFit_42 (by decide) [1, 2, 3, 4, 5, 0, 6] (lv' := [(0, .ref (gA g 40)), (1, .int (iI ((s : Int)))), (2, .int (iI ((t : Int)))), (3, .int (iI (0))), (4, .int (iI (12))), (5, .int (iI (bor (setF (fun c => tlG (σ 0 7) (σ 0 8) (σ 0 9) (σ 3) (up (σ 4) t (c : Int)) (σ 1, σ 5, σ 6) t (σ (32 + 2 * s)) (σ (31 + 2 * s) 2)) i) (bshl 1 (i : Int))))), (6, .int (iI ((i : Int))))]) rfl ?_
          refine r_iinc (pc := 44) C dX4_allThatFit_44 6 rfl (by decide) [1, 2, 3, 4, 5, 6, 0] (lv' := [(0, .ref (gA g 40)), (1, .int (iI ((s : Int)))), (2, .int (iI ((t : Int)))), (3, .int (iI (0))), (4, .int (iI (12))), (5, .int (iI (bor (setF (fun c => tlG (σ 0 7) (σ 0 8) (σ 0 9) (σ 3) (up (σ 4) t (c : Int)) (σ 1, σ 5, σ 6) t (σ (32 + 2 * s)) (σ (31 + 2 * s) 2)) i) (bshl 1 (i : Int))))), (6, .int (iI ((i : Int) + 1)))]) rfl ?_
          refine r_goto (pc := 47) C 6 dX4_allThatFit_47 (by decide) ?_
          exact ih6 (i + 1) _ _ _ (by omega) (by omega) (by exact hTT) (by first | (rw [setF, if_pos (hsm.symm.trans h32)]; done) | (rw [setF, if_neg (fun q => h32 (hsm.trans q))]; done)) (by omega)
  exact L6 _ 0 _ _ _ (Nat.lt_succ_self _) (by omega) (by exact fun k _ => rfl) (rfl) (rfl)
set_option maxHeartbeats 4000000 in
set_option maxRecDepth 100000 in
theorem c_allThatFit_1 (g : Gt) (s t : Nat) (hs : s < 4) (σ : Sg) (hW : RW σ 0) (ht : (t : Int) < σ 0 7) (hl : 0 ≤ σ (31 + 2 * s) 2 ∧ σ (31 + 2 * s) 2 ≤ 40) (hN : ∀ j, j < 40 → rng (σ (32 + 2 * s) j)) : Mt g yX4_allThatFit cX4_allThatFit 7 (some FieldType.int) 5 [.ref (gA g 40), .int (iI ((s : Int))), .int (iI ((t : Int))), .int (iI (1)), .int (iI (7))] σ (pT (setF (fun c => tlG (σ 0 7) (σ 0 8) (σ 0 9) (up (σ 3) t (c : Int)) (σ 4) (σ 1, σ 5, σ 6) t (σ (32 + 2 * s)) (σ (31 + 2 * s) 2)) 7) σ) := by
  have hn8 := hW.1
  refine mt_of (own := RX4) (by decide) rfl (Nat.le_of_ble_eq_true rfl) (fun E C => ?_)
  show J g E (pT (setF (fun c => tlG (σ 0 7) (σ 0 8) (σ 0 9) (up (σ 3) t (c : Int)) (σ 4) (σ 1, σ 5, σ 6) t (σ (32 + 2 * s)) (σ (31 + 2 * s) 2)) 7) σ) 7 0 [(0, .ref (gA g 40)), (1, .int (iI ((s : Int)))), (2, .int (iI ((t : Int)))), (3, .int (iI (1))), (4, .int (iI (7)))] [] σ
  refine r_iconst (pc := 0) C dX4_allThatFit_0 ?_
  refine r_istore (pc := 1) C dX4_allThatFit_1 (by decide) [1, 2, 3, 4, 5, 0] (lv' := [(0, .ref (gA g 40)), (1, .int (iI ((s : Int)))), (2, .int (iI ((t : Int)))), (3, .int (iI (1))), (4, .int (iI (7))), (5, .int (iI (0)))]) rfl ?_
  refine r_iconst (pc := 3) C dX4_allThatFit_3 ?_
  refine r_istore (pc := 4) C dX4_allThatFit_4 (by decide) [1, 2, 3, 4, 5, 6, 0] (lv' := [(0, .ref (gA g 40)), (1, .int (iI ((s : Int)))), (2, .int (iI ((t : Int)))), (3, .int (iI (1))), (4, .int (iI (7))), (5, .int (iI (0))), (6, .int (iI (0)))]) rfl ?_
  have L6 : ∀ (n_ : Nat) (i : Nat) (x6_5 x6_6 : Int) (s6 : Sg), 7 - i < n_ → (i ≤ 7) → (∀ k, (k < 8 ∨ 16 ≤ k) → s6 k = σ k) → x6_5 = setF (fun c => tlG (σ 0 7) (σ 0 8) (σ 0 9) (up (σ 3) t (c : Int)) (σ 4) (σ 1, σ 5, σ 6) t (σ (32 + 2 * s)) (σ (31 + 2 * s) 2)) i → x6_6 = (i : Int) → J g E (pT (setF (fun c => tlG (σ 0 7) (σ 0 8) (σ 0 9) (up (σ 3) t (c : Int)) (σ 4) (σ 1, σ 5, σ 6) t (σ (32 + 2 * s)) (σ (31 + 2 * s) 2)) 7) σ) 7 6 [(0, .ref (gA g 40)), (1, .int (iI ((s : Int)))), (2, .int (iI ((t : Int)))), (3, .int (iI (1))), (4, .int (iI (7))), (5, .int (iI (x6_5))), (6, .int (iI (x6_6)))] [] s6 := by
    intro n_
    induction n_ with
    | zero => intro i x6_5 x6_6 s6 hm_; exact absurd hm_ (Nat.not_lt_zero _)
    | succ n_ ih6 =>
      intro i x6_5 x6_6 s6 hm6 hi6_0 hi6_1 e6_0 e6_1 
      subst e6_0 e6_1 
      have hWs := RW_cong hi6_1 hW
      refine r_iload (pc := 6) C dX4_allThatFit_6 6 rfl ?_
      refine r_iload (pc := 8) C dX4_allThatFit_8 4 rfl ?_
      refine r_icmp_ge (pc := 10) C 50 ⟨by omega, by omega⟩ ⟨by omega, by omega⟩ dX4_allThatFit_10 (by decide) (fun h10 => ?_) (fun h10 => ?_)
      · skip
        refine r_iload (pc := 50) C dX4_allThatFit_50 5 rfl ?_
        exact r_retT (pc := 52) C (by rw [show i = 7 by omega]) (hi6_1) dX4_allThatFit_52
      · skip
        refine r_aload_n (pc := 13) C dX4_allThatFit_13 rfl 0 rfl ?_
        refine r_iload_n (pc := 14) C dX4_allThatFit_14 rfl 2 rfl ?_
        refine r_iload_n (pc := 15) C dX4_allThatFit_15 rfl 3 rfl ?_
        refine r_iload (pc := 16) C dX4_allThatFit_16 6 rfl ?_
        refine r_cVv (pc := 18) C (c_tryOut_1 g t (by omega) (i : Int) s6) yX4_tryOut_w O_40 rfl rfl t_465 ⟨by decide, by decide⟩ (Nat.le_of_ble_eq_true rfl) rfl dX4_allThatFit_18 ?_
        have hWd : RW (wr (bc_8_0 s6) 11 t (i : Int)) 8 := RWt1 (by omega) hWs
        have hTX : ∀ k, (k < 8 ∨ 16 ≤ k) → (wr (bc_8_0 s6) 11 t (i : Int)) k = σ k := fun k hk => (tr_wr _ hk (by omega)).trans ((tr_bc _ hk).trans (hi6_1 k hk))
        have hlz : 0 ≤ (wr (bc_8_0 s6) 11 t (i : Int)) (31 + 2 * s) 2 ∧ (wr (bc_8_0 s6) 11 t (i : Int)) (31 + 2 * s) 2 ≤ 40 := by rw [hTX _ (by omega)]; exact hl
        have hNz : ∀ j, j < 40 → rng ((wr (bc_8_0 s6) 11 t (i : Int)) (32 + 2 * s) j) := by rw [hTX _ (by omega)]; exact hN
        have hsm : tld ((wr (bc_8_0 s6) 11 t (i : Int)) (32 + 2 * s)) ((wr (bc_8_0 s6) 11 t (i : Int)) (31 + 2 * s) 2) (fun e_ => dsS_8 e_ (wr (bc_8_0 s6) 11 t (i : Int)) 13 t) 41 0 = tlG (σ 0 7) (σ 0 8) (σ 0 9) (up (σ 3) t (i : Int)) (σ 4) (σ 1, σ 5, σ 6) t (σ (32 + 2 * s)) (σ (31 + 2 * s) 2) := by
          rw [hTX _ (by omega), hTX _ (by omega)]
          unfold tlG
          congr 1
          funext e
          rw [dsS_8_G]
          show (daysC (s6 0 7) (s6 0 8) (s6 0 9) (up (s6 3) t (i : Int)) (s6 4) 255 e (s6 1, s6 5, s6 6)).2.1 t = _
          rw [hi6_1 0 (by omega), hi6_1 1 (by omega), hi6_1 3 (by omega), hi6_1 4 (by omega), hi6_1 5 (by omega), hi6_1 6 (by omega)]
        refine r_aload_n (pc := 21) C dX4_allThatFit_21 rfl 0 rfl ?_
        refine r_iload_n (pc := 22) C dX4_allThatFit_22 rfl 2 rfl ?_
        refine r_aload_n (pc := 23) C dX4_allThatFit_23 rfl 0 rfl ?_
        refine r_getR4 (pc := 24) C 6 (k' := 30) rfl O_40 (by decide) rfl t_222 dX4_allThatFit_24 ?_
        refine r_iload_n (pc := 27) C dX4_allThatFit_27 rfl 1 rfl ?_
        refine r_aald (pc := 28) C s (by omega) (by omega) dX4_allThatFit_28 ?_
        refine r_cVt (pc := 29) C (c_hasGoodsAsTold g s t (by omega) (by omega) (wr (bc_8_0 s6) 11 t (i : Int)) hWd hlz hNz) yX4_hasGoodsAsTold_w O_40 rfl rfl t_522 ⟨by decide, by decide⟩ (Nat.le_of_ble_eq_true rfl) rfl dX4_allThatFit_29 (fun s29 hT29 => ?_)
        have hTT := fun k hk => (hT29 k hk).trans (hTX k hk)
        refine r_ifz_eq (pc := 32) C 44 dX4_allThatFit_32 (by decide) (fun h32 => ?_) (fun h32 => ?_)
        · skip
          refine r_iinc (pc := 44) C dX4_allThatFit_44 6 rfl (by decide) [1, 2, 3, 4, 5, 6, 0] (lv' := [(0, .ref (gA g 40)), (1, .int (iI ((s : Int)))), (2, .int (iI ((t : Int)))), (3, .int (iI (1))), (4, .int (iI (7))), (5, .int (iI (setF (fun c => tlG (σ 0 7) (σ 0 8) (σ 0 9) (up (σ 3) t (c : Int)) (σ 4) (σ 1, σ 5, σ 6) t (σ (32 + 2 * s)) (σ (31 + 2 * s) 2)) i))), (6, .int (iI ((i : Int) + 1)))]) rfl ?_
          refine r_goto (pc := 47) C 6 dX4_allThatFit_47 (by decide) ?_
          exact ih6 (i + 1) _ _ _ (by omega) (by omega) (by exact hTT) (by first | (rw [setF, if_pos (hsm.symm.trans h32)]; done) | (rw [setF, if_neg (fun q => h32 (hsm.trans q))]; done)) (by omega)
        · skip
          refine r_iload (pc := 35) C dX4_allThatFit_35 5 rfl ?_
          refine r_iconst (pc := 37) C dX4_allThatFit_37 ?_
          refine r_iload (pc := 38) C dX4_allThatFit_38 6 rfl ?_
          refine r_ishl (pc := 40) C dX4_allThatFit_40 ?_
          refine r_ior (pc := 41) C dX4_allThatFit_41 ?_
          refine r_istore (pc := 42) C dX4_allThatFit_42 (by decide) [1, 2, 3, 4, 5, 0, 6] (lv' := [(0, .ref (gA g 40)), (1, .int (iI ((s : Int)))), (2, .int (iI ((t : Int)))), (3, .int (iI (1))), (4, .int (iI (7))), (5, .int (iI (bor (setF (fun c => tlG (σ 0 7) (σ 0 8) (σ 0 9) (up (σ 3) t (c : Int)) (σ 4) (σ 1, σ 5, σ 6) t (σ (32 + 2 * s)) (σ (31 + 2 * s) 2)) i) (bshl 1 (i : Int))))), (6, .int (iI ((i : Int))))]) rfl ?_
          refine r_iinc (pc := 44) C dX4_allThatFit_44 6 rfl (by decide) [1, 2, 3, 4, 5, 6, 0] (lv' := [(0, .ref (gA g 40)), (1, .int (iI ((s : Int)))), (2, .int (iI ((t : Int)))), (3, .int (iI (1))), (4, .int (iI (7))), (5, .int (iI (bor (setF (fun c => tlG (σ 0 7) (σ 0 8) (σ 0 9) (up (σ 3) t (c : Int)) (σ 4) (σ 1, σ 5, σ 6) t (σ (32 + 2 * s)) (σ (31 + 2 * s) 2)) i) (bshl 1 (i : Int))))), (6, .int (iI ((i : Int) + 1)))]) rfl ?_
          refine r_goto (pc := 47) C 6 dX4_allThatFit_47 (by decide) ?_
          exact ih6 (i + 1) _ _ _ (by omega) (by omega) (by exact hTT) (by first | (rw [setF, if_pos (hsm.symm.trans h32)]; done) | (rw [setF, if_neg (fun q => h32 (hsm.trans q))]; done)) (by omega)
  exact L6 _ 0 _ _ _ (Nat.lt_succ_self _) (by omega) (by exact fun k _ => rfl) (rfl) (rfl)
set_option maxHeartbeats 4000000 in
set_option maxRecDepth 100000 in
theorem c_refuseTold (g : Gt) (x y : Int) (h_x : rng x) (h_y : rng y) (σ : Sg) (hn : 0 ≤ σ 0 7 ∧ σ 0 7 ≤ 8) (hb : ∀ s, s < 4 → (σ (31 + 2 * s) 1 = 0 ∨ σ (31 + 2 * s) 1 = 8 ∨ σ (31 + 2 * s) 1 = 16 ∨ σ (31 + 2 * s) 1 = 32) ∧ 0 ≤ σ (31 + 2 * s) 2 ∧ σ (31 + 2 * s) 2 ≤ 40) : Mt g yX4_refuseTold cX4_refuseTold 3 (some FieldType.int) 1 [.ref (gA g 40), .int (iI (x)), .int (iI (y))] σ (pI (if 0 ≤ x ∧ x < 4 then (if σ (31 + 2 * x.toNat) 1 = 0 then (-1000001 - ((5 : Nat) : Int)) else if 0 ≤ y ∧ y < σ 0 7 then 0 else (-1000001 - ((0 : Nat) : Int))) else (-1000001 - ((0 : Nat) : Int))) (if 0 ≤ x ∧ x < 4 then (if σ (31 + 2 * x.toNat) 1 = 0 then fin 5 σ else if 0 ≤ y ∧ y < σ 0 7 then σ else fin 0 σ) else fin 0 σ)) := by
  refine mt_of (own := RX4) (by decide) rfl (Nat.le_of_ble_eq_true rfl) (fun E C => ?_)
  show J g E (pI (if 0 ≤ x ∧ x < 4 then (if σ (31 + 2 * x.toNat) 1 = 0 then (-1000001 - ((5 : Nat) : Int)) else if 0 ≤ y ∧ y < σ 0 7 then 0 else (-1000001 - ((0 : Nat) : Int))) else (-1000001 - ((0 : Nat) : Int))) (if 0 ≤ x ∧ x < 4 then (if σ (31 + 2 * x.toNat) 1 = 0 then fin 5 σ else if 0 ≤ y ∧ y < σ 0 7 then σ else fin 0 σ) else fin 0 σ)) 3 0 [(0, .ref (gA g 40)), (1, .int (iI (x))), (2, .int (iI (y)))] [] σ
  refine r_iload_n (pc := 0) C dX4_refuseTold_0 rfl 1 rfl ?_
  refine r_cSi (pc := 1) C (c_isSheet g x h_x σ) yX4_isSheet_w rfl t_515 ⟨by decide, by decide⟩ (Nat.le_of_ble_eq_true rfl) rfl dX4_refuseTold_1 ?_
  refine r_ifz_ne (pc := 4) C 13 dX4_refuseTold_4 (by decide) (fun h4 => ?_) (fun h4 => ?_)
  · skip
    have hbx := hb x.toNat (by omega)
    refine r_aload_n (pc := 13) C dX4_refuseTold_13 rfl 0 rfl ?_
    refine r_getR4 (pc := 14) C 6 (k' := 30) rfl O_40 (by decide) rfl t_222 dX4_refuseTold_14 ?_
    refine r_iload_n (pc := 17) C dX4_refuseTold_17 rfl 1 rfl ?_
    refine r_aald (pc := 18) C x.toNat (by omega) (by omega) dX4_refuseTold_18 ?_
    refine r_getI1 (pc := 19) C 1 (Rb_sh (by omega)) (O_sh (by omega)) (by decide) rfl t_206 dX4_refuseTold_19 ?_
    refine r_if_ne (pc := 22) C 31 ⟨by omega, by omega⟩ dX4_refuseTold_22 (by decide) (fun h22 => ?_) (fun h22 => ?_)
    · skip
      refine r_aload_n (pc := 31) C dX4_refuseTold_31 rfl 0 rfl ?_
      refine r_iload_n (pc := 32) C dX4_refuseTold_32 rfl 2 rfl ?_
      refine r_cVi (pc := 33) C (c_isTenant g y h_y σ (by omega)) yX4_isTenant_w O_40 rfl rfl t_292 ⟨by decide, by decide⟩ (Nat.le_of_ble_eq_true rfl) rfl dX4_refuseTold_33 ?_
      refine r_ifz_eq (pc := 36) C 43 dX4_refuseTold_36 (by decide) (fun h36 => ?_) (fun h36 => ?_)
      · skip
        refine r_aload_n (pc := 43) C dX4_refuseTold_43 rfl 0 rfl ?_
        refine r_iconst (pc := 44) C dX4_refuseTold_44 ?_
        refine r_cVi (pc := 45) C (c_finding g 0 (by decide) σ) yX4_finding_w O_40 rfl rfl t_251 ⟨by decide, by decide⟩ (Nat.le_of_ble_eq_true rfl) rfl dX4_refuseTold_45 ?_
        exact r_reti (pc := 48) C (by first | (exfalso; omega; done) | ((try (first | rw [if_pos (by omega)] | rw [if_neg (by omega)])); (try (first | rw [if_pos (by omega)] | rw [if_neg (by omega)])); (try (first | rw [if_pos (by omega)] | rw [if_neg (by omega)])); (try (first | rw [if_pos (by omega)] | rw [if_neg (by omega)])); (try rfl))) (by first | (exfalso; omega; done) | ((try (first | rw [if_pos (by omega)] | rw [if_neg (by omega)])); (try (first | rw [if_pos (by omega)] | rw [if_neg (by omega)])); (try (first | rw [if_pos (by omega)] | rw [if_neg (by omega)])); (try (first | rw [if_pos (by omega)] | rw [if_neg (by omega)])); (try rfl))) dX4_refuseTold_48
      · skip
        refine r_iconst (pc := 39) C dX4_refuseTold_39 ?_
        refine r_goto (pc := 40) C 48 dX4_refuseTold_40 (by decide) ?_
        exact r_reti (pc := 48) C (by first | (exfalso; omega; done) | ((try (first | rw [if_pos (by omega)] | rw [if_neg (by omega)])); (try (first | rw [if_pos (by omega)] | rw [if_neg (by omega)])); (try (first | rw [if_pos (by omega)] | rw [if_neg (by omega)])); (try (first | rw [if_pos (by omega)] | rw [if_neg (by omega)])); (try rfl))) (by first | (exfalso; omega; done) | ((try (first | rw [if_pos (by omega)] | rw [if_neg (by omega)])); (try (first | rw [if_pos (by omega)] | rw [if_neg (by omega)])); (try (first | rw [if_pos (by omega)] | rw [if_neg (by omega)])); (try (first | rw [if_pos (by omega)] | rw [if_neg (by omega)])); (try rfl))) dX4_refuseTold_48
    · skip
      refine r_aload_n (pc := 25) C dX4_refuseTold_25 rfl 0 rfl ?_
      refine r_iconst (pc := 26) C dX4_refuseTold_26 ?_
      refine r_cVi (pc := 27) C (c_finding g 5 (by decide) σ) yX4_finding_w O_40 rfl rfl t_251 ⟨by decide, by decide⟩ (Nat.le_of_ble_eq_true rfl) rfl dX4_refuseTold_27 ?_
      exact r_reti (pc := 30) C (by first | (exfalso; omega; done) | ((try (first | rw [if_pos (by omega)] | rw [if_neg (by omega)])); (try (first | rw [if_pos (by omega)] | rw [if_neg (by omega)])); (try (first | rw [if_pos (by omega)] | rw [if_neg (by omega)])); (try (first | rw [if_pos (by omega)] | rw [if_neg (by omega)])); (try rfl))) (by first | (exfalso; omega; done) | ((try (first | rw [if_pos (by omega)] | rw [if_neg (by omega)])); (try (first | rw [if_pos (by omega)] | rw [if_neg (by omega)])); (try (first | rw [if_pos (by omega)] | rw [if_neg (by omega)])); (try (first | rw [if_pos (by omega)] | rw [if_neg (by omega)])); (try rfl))) dX4_refuseTold_30
  · skip
    refine r_aload_n (pc := 7) C dX4_refuseTold_7 rfl 0 rfl ?_
    refine r_iconst (pc := 8) C dX4_refuseTold_8 ?_
    refine r_cVi (pc := 9) C (c_finding g 0 (by decide) σ) yX4_finding_w O_40 rfl rfl t_251 ⟨by decide, by decide⟩ (Nat.le_of_ble_eq_true rfl) rfl dX4_refuseTold_9 ?_
    exact r_reti (pc := 12) C (by first | (exfalso; omega; done) | ((try (first | rw [if_pos (by omega)] | rw [if_neg (by omega)])); (try (first | rw [if_pos (by omega)] | rw [if_neg (by omega)])); (try (first | rw [if_pos (by omega)] | rw [if_neg (by omega)])); (try (first | rw [if_pos (by omega)] | rw [if_neg (by omega)])); (try rfl))) (by first | (exfalso; omega; done) | ((try (first | rw [if_pos (by omega)] | rw [if_neg (by omega)])); (try (first | rw [if_pos (by omega)] | rw [if_neg (by omega)])); (try (first | rw [if_pos (by omega)] | rw [if_neg (by omega)])); (try (first | rw [if_pos (by omega)] | rw [if_neg (by omega)])); (try rfl))) dX4_refuseTold_12
set_option maxHeartbeats 4000000 in
set_option maxRecDepth 100000 in
theorem d_fits (g : Gt) (x y : Int) (h_x : rng x) (h_y : rng y) (σ : Sg) (hW : RW σ 0) (hb : ∀ s, s < 4 → (σ (31 + 2 * s) 1 = 0 ∨ σ (31 + 2 * s) 1 = 8 ∨ σ (31 + 2 * s) 1 = 16 ∨ σ (31 + 2 * s) 1 = 32) ∧ 0 ≤ σ (31 + 2 * s) 2 ∧ σ (31 + 2 * s) 2 ≤ 40) (hN : ∀ s, s < 4 → ∀ j, j < 40 → rng (σ (32 + 2 * s) j)) : Mt g yX4_fits cX4_fits 4 (some FieldType.int) 6 [.ref (gA g 40), .int (iI (x)), .int (iI (y))] σ (pT (if 0 ≤ x ∧ x < 4 then (if σ (31 + 2 * x.toNat) 1 = 0 then (-1000001 - ((5 : Nat) : Int)) else if 0 ≤ y ∧ y < σ 0 7 then setF (fun c => tlG (σ 0 7) (σ 0 8) (σ 0 9) (σ 3) (up (σ 4) y.toNat (c : Int)) (σ 1, σ 5, σ 6) y.toNat (σ (32 + 2 * x.toNat)) (σ (31 + 2 * x.toNat) 2)) 12 else (-1000001 - ((0 : Nat) : Int))) else (-1000001 - ((0 : Nat) : Int))) (if 0 ≤ x ∧ x < 4 then (if σ (31 + 2 * x.toNat) 1 = 0 then fin 5 σ else if 0 ≤ y ∧ y < σ 0 7 then σ else fin 0 σ) else fin 0 σ)) := by
  obtain ⟨hn, hfl, hw, hdy, hz, hD_, hK_, hA_, hG_, hM_, hP_⟩ := id hW
  have hD : rgD (σ 1) := hD_
  have hK : rgK (σ 3) := hK_
  have hA : rgA (σ 4) := hA_
  have hG : rgG (σ 5) := hG_
  have hM : rgM (σ 6) := hM_
  have hP : ∀ j, j < 10 → -1 ≤ σ 7 j ∧ σ 7 j < σ 0 7 := hP_
  have ho_x := h_x.1; have hp_x := h_x.2
  have ho_y := h_y.1; have hp_y := h_y.2
  refine mt_of (own := RX4) (by decide) rfl (Nat.le_of_ble_eq_true rfl) (fun E C => ?_)
  show J g E (pT (if 0 ≤ x ∧ x < 4 then (if σ (31 + 2 * x.toNat) 1 = 0 then (-1000001 - ((5 : Nat) : Int)) else if 0 ≤ y ∧ y < σ 0 7 then setF (fun c => tlG (σ 0 7) (σ 0 8) (σ 0 9) (σ 3) (up (σ 4) y.toNat (c : Int)) (σ 1, σ 5, σ 6) y.toNat (σ (32 + 2 * x.toNat)) (σ (31 + 2 * x.toNat) 2)) 12 else (-1000001 - ((0 : Nat) : Int))) else (-1000001 - ((0 : Nat) : Int))) (if 0 ≤ x ∧ x < 4 then (if σ (31 + 2 * x.toNat) 1 = 0 then fin 5 σ else if 0 ≤ y ∧ y < σ 0 7 then σ else fin 0 σ) else fin 0 σ)) 4 0 [(0, .ref (gA g 40)), (1, .int (iI (x))), (2, .int (iI (y)))] [] σ
  refine r_aload_n (pc := 0) C dX4_fits_0 rfl 0 rfl ?_
  refine r_iload_n (pc := 1) C dX4_fits_1 rfl 1 rfl ?_
  refine r_iload_n (pc := 2) C dX4_fits_2 rfl 2 rfl ?_
  refine r_cVi (pc := 3) C (c_refuseTold g x y h_x h_y σ hn hb) yX4_refuseTold_w O_40 rfl rfl t_511 ⟨by decide, by decide⟩ (Nat.le_of_ble_eq_true rfl) rfl dX4_fits_3 ?_
  refine r_istore_n (pc := 6) C dX4_fits_6 rfl (by decide) [1, 2, 3, 0] (lv' := [(0, .ref (gA g 40)), (1, .int (iI (x))), (2, .int (iI (y))), (3, .int (iI ((if 0 ≤ x ∧ x < 4 then (if σ (31 + 2 * x.toNat) 1 = 0 then (-1000001 - ((5 : Nat) : Int)) else if 0 ≤ y ∧ y < σ 0 7 then 0 else (-1000001 - ((0 : Nat) : Int))) else (-1000001 - ((0 : Nat) : Int))))))]) rfl ?_
  refine r_iload_n (pc := 7) C dX4_fits_7 rfl 3 rfl ?_
  refine r_if_eq (pc := 8) C 15 ⟨by first | (split; split; omega; split; omega; omega; omega), by first | (split; split; omega; split; omega; omega; omega)⟩ dX4_fits_8 (by decide) (fun h8 => ?_) (fun h8 => ?_)
  · skip
    have hyes : (0 ≤ x ∧ x < 4) ∧ ¬ σ (31 + 2 * x.toNat) 1 = 0 ∧ 0 ≤ y ∧ y < σ 0 7 := by
      by_cases q1 : 0 ≤ x ∧ x < 4
      · rw [if_pos q1] at h8
        by_cases q2 : σ (31 + 2 * x.toNat) 1 = 0
        · rw [if_pos q2] at h8
          omega
        · rw [if_neg q2] at h8
          by_cases q3 : 0 ≤ y ∧ y < σ 0 7
          · exact ⟨q1, q2, q3⟩
          · rw [if_neg q3] at h8
            omega
      · rw [if_neg q1] at h8
        omega
    have hlz := (hb x.toNat (by omega)).2
    have hNz := hN x.toNat (by omega)
    refine r_sg (show _ = σ by rw [if_pos hyes.1, if_neg hyes.2.1, if_pos hyes.2.2]) ?_
    refine r_aload_n (pc := 15) C dX4_fits_15 rfl 0 rfl ?_
    refine r_iload_n (pc := 16) C dX4_fits_16 rfl 1 rfl ?_
    refine r_iload_n (pc := 17) C dX4_fits_17 rfl 2 rfl ?_
    refine r_iconst (pc := 18) C dX4_fits_18 ?_
    refine r_bipush (pc := 19) C dX4_fits_19 (by decide) ?_
    refine r_cVt (pc := 21) C (c_allThatFit_0 g x.toNat y.toNat (by omega) σ hW (by omega) hlz hNz) yX4_allThatFit_w O_40 rfl rfl t_518 ⟨by decide, by decide⟩ (Nat.le_of_ble_eq_true rfl) (by rw [show ((x.toNat : Nat) : Int) = x by omega, show ((y.toNat : Nat) : Int) = y by omega]; rfl) dX4_fits_21 (fun s21 hT21 => ?_)
    exact r_retT (pc := 24) C (by rw [if_pos hyes.1, if_neg hyes.2.1, if_pos hyes.2.2]) (fun k hk => by rw [if_pos hyes.1, if_neg hyes.2.1, if_pos hyes.2.2]; exact hT21 k hk) dX4_fits_24
  · skip
    have hno : ¬ ((0 ≤ x ∧ x < 4) ∧ ¬ σ (31 + 2 * x.toNat) 1 = 0 ∧ 0 ≤ y ∧ y < σ 0 7) := fun q => h8 (by rw [if_pos q.1, if_neg q.2.1, if_pos q.2.2])
    refine r_iload_n (pc := 11) C dX4_fits_11 rfl 3 rfl ?_
    refine r_goto (pc := 12) C 24 dX4_fits_12 (by decide) ?_
    exact r_retT (pc := 24) C (by by_cases q1 : 0 ≤ x ∧ x < 4 <;> by_cases q2 : σ (31 + 2 * x.toNat) 1 = 0 <;> by_cases q3 : 0 ≤ y ∧ y < σ 0 7 <;> simp only [if_pos, if_neg, q1, q2, q3, if_true, if_false, not_true, not_false_eq_true, and_self, true_and, false_and, and_true, and_false] at hno ⊢) (fun k hk => rfl) dX4_fits_24
set_option maxHeartbeats 4000000 in
set_option maxRecDepth 100000 in
theorem d_kinds (g : Gt) (x y : Int) (h_x : rng x) (h_y : rng y) (σ : Sg) (hW : RW σ 0) (hb : ∀ s, s < 4 → (σ (31 + 2 * s) 1 = 0 ∨ σ (31 + 2 * s) 1 = 8 ∨ σ (31 + 2 * s) 1 = 16 ∨ σ (31 + 2 * s) 1 = 32) ∧ 0 ≤ σ (31 + 2 * s) 2 ∧ σ (31 + 2 * s) 2 ≤ 40) (hN : ∀ s, s < 4 → ∀ j, j < 40 → rng (σ (32 + 2 * s) j)) : Mt g yX4_kinds cX4_kinds 4 (some FieldType.int) 6 [.ref (gA g 40), .int (iI (x)), .int (iI (y))] σ (pT (if 0 ≤ x ∧ x < 4 then (if σ (31 + 2 * x.toNat) 1 = 0 then (-1000001 - ((5 : Nat) : Int)) else if 0 ≤ y ∧ y < σ 0 7 then setF (fun c => tlG (σ 0 7) (σ 0 8) (σ 0 9) (up (σ 3) y.toNat (c : Int)) (σ 4) (σ 1, σ 5, σ 6) y.toNat (σ (32 + 2 * x.toNat)) (σ (31 + 2 * x.toNat) 2)) 7 else (-1000001 - ((0 : Nat) : Int))) else (-1000001 - ((0 : Nat) : Int))) (if 0 ≤ x ∧ x < 4 then (if σ (31 + 2 * x.toNat) 1 = 0 then fin 5 σ else if 0 ≤ y ∧ y < σ 0 7 then σ else fin 0 σ) else fin 0 σ)) := by
  obtain ⟨hn, hfl, hw, hdy, hz, hD_, hK_, hA_, hG_, hM_, hP_⟩ := id hW
  have hD : rgD (σ 1) := hD_
  have hK : rgK (σ 3) := hK_
  have hA : rgA (σ 4) := hA_
  have hG : rgG (σ 5) := hG_
  have hM : rgM (σ 6) := hM_
  have hP : ∀ j, j < 10 → -1 ≤ σ 7 j ∧ σ 7 j < σ 0 7 := hP_
  have ho_x := h_x.1; have hp_x := h_x.2
  have ho_y := h_y.1; have hp_y := h_y.2
  refine mt_of (own := RX4) (by decide) rfl (Nat.le_of_ble_eq_true rfl) (fun E C => ?_)
  show J g E (pT (if 0 ≤ x ∧ x < 4 then (if σ (31 + 2 * x.toNat) 1 = 0 then (-1000001 - ((5 : Nat) : Int)) else if 0 ≤ y ∧ y < σ 0 7 then setF (fun c => tlG (σ 0 7) (σ 0 8) (σ 0 9) (up (σ 3) y.toNat (c : Int)) (σ 4) (σ 1, σ 5, σ 6) y.toNat (σ (32 + 2 * x.toNat)) (σ (31 + 2 * x.toNat) 2)) 7 else (-1000001 - ((0 : Nat) : Int))) else (-1000001 - ((0 : Nat) : Int))) (if 0 ≤ x ∧ x < 4 then (if σ (31 + 2 * x.toNat) 1 = 0 then fin 5 σ else if 0 ≤ y ∧ y < σ 0 7 then σ else fin 0 σ) else fin 0 σ)) 4 0 [(0, .ref (gA g 40)), (1, .int (iI (x))), (2, .int (iI (y)))] [] σ
  refine r_aload_n (pc := 0) C dX4_kinds_0 rfl 0 rfl ?_
  refine r_iload_n (pc := 1) C dX4_kinds_1 rfl 1 rfl ?_
  refine r_iload_n (pc := 2) C dX4_kinds_2 rfl 2 rfl ?_
  refine r_cVi (pc := 3) C (c_refuseTold g x y h_x h_y σ hn hb) yX4_refuseTold_w O_40 rfl rfl t_511 ⟨by decide, by decide⟩ (Nat.le_of_ble_eq_true rfl) rfl dX4_kinds_3 ?_
  refine r_istore_n (pc := 6) C dX4_kinds_6 rfl (by decide) [1, 2, 3, 0] (lv' := [(0, .ref (gA g 40)), (1, .int (iI (x))), (2, .int (iI (y))), (3, .int (iI ((if 0 ≤ x ∧ x < 4 then (if σ (31 + 2 * x.toNat) 1 = 0 then (-1000001 - ((5 : Nat) : Int)) else if 0 ≤ y ∧ y < σ 0 7 then 0 else (-1000001 - ((0 : Nat) : Int))) else (-1000001 - ((0 : Nat) : Int))))))]) rfl ?_
  refine r_iload_n (pc := 7) C dX4_kinds_7 rfl 3 rfl ?_
  refine r_if_eq (pc := 8) C 15 ⟨by first | (split; split; omega; split; omega; omega; omega), by first | (split; split; omega; split; omega; omega; omega)⟩ dX4_kinds_8 (by decide) (fun h8 => ?_) (fun h8 => ?_)
  · skip
    have hyes : (0 ≤ x ∧ x < 4) ∧ ¬ σ (31 + 2 * x.toNat) 1 = 0 ∧ 0 ≤ y ∧ y < σ 0 7 := by
      by_cases q1 : 0 ≤ x ∧ x < 4
      · rw [if_pos q1] at h8
        by_cases q2 : σ (31 + 2 * x.toNat) 1 = 0
        · rw [if_pos q2] at h8
          omega
        · rw [if_neg q2] at h8
          by_cases q3 : 0 ≤ y ∧ y < σ 0 7
          · exact ⟨q1, q2, q3⟩
          · rw [if_neg q3] at h8
            omega
      · rw [if_neg q1] at h8
        omega
    have hlz := (hb x.toNat (by omega)).2
    have hNz := hN x.toNat (by omega)
    refine r_sg (show _ = σ by rw [if_pos hyes.1, if_neg hyes.2.1, if_pos hyes.2.2]) ?_
    refine r_aload_n (pc := 15) C dX4_kinds_15 rfl 0 rfl ?_
    refine r_iload_n (pc := 16) C dX4_kinds_16 rfl 1 rfl ?_
    refine r_iload_n (pc := 17) C dX4_kinds_17 rfl 2 rfl ?_
    refine r_iconst (pc := 18) C dX4_kinds_18 ?_
    refine r_bipush (pc := 19) C dX4_kinds_19 (by decide) ?_
    refine r_cVt (pc := 21) C (c_allThatFit_1 g x.toNat y.toNat (by omega) σ hW (by omega) hlz hNz) yX4_allThatFit_w O_40 rfl rfl t_518 ⟨by decide, by decide⟩ (Nat.le_of_ble_eq_true rfl) (by rw [show ((x.toNat : Nat) : Int) = x by omega, show ((y.toNat : Nat) : Int) = y by omega]; rfl) dX4_kinds_21 (fun s21 hT21 => ?_)
    exact r_retT (pc := 24) C (by rw [if_pos hyes.1, if_neg hyes.2.1, if_pos hyes.2.2]) (fun k hk => by rw [if_pos hyes.1, if_neg hyes.2.1, if_pos hyes.2.2]; exact hT21 k hk) dX4_kinds_24
  · skip
    have hno : ¬ ((0 ≤ x ∧ x < 4) ∧ ¬ σ (31 + 2 * x.toNat) 1 = 0 ∧ 0 ≤ y ∧ y < σ 0 7) := fun q => h8 (by rw [if_pos q.1, if_neg q.2.1, if_pos q.2.2])
    refine r_iload_n (pc := 11) C dX4_kinds_11 rfl 3 rfl ?_
    refine r_goto (pc := 12) C 24 dX4_kinds_12 (by decide) ?_
    exact r_retT (pc := 24) C (by by_cases q1 : 0 ≤ x ∧ x < 4 <;> by_cases q2 : σ (31 + 2 * x.toNat) 1 = 0 <;> by_cases q3 : 0 ≤ y ∧ y < σ 0 7 <;> simp only [if_pos, if_neg, q1, q2, q3, if_true, if_false, not_true, not_false_eq_true, and_self, true_and, false_and, and_true, and_false] at hno ⊢) (fun k hk => rfl) dX4_kinds_24
