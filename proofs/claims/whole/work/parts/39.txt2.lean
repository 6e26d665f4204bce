theorem bfT_rng (B : Nat → Int) : ∀ i, 0 ≤ bfT B i ∧ bfT B i ≤ 5
  | 0 => by
    show 0 ≤ (0 : Int) ∧ (0 : Int) ≤ 5
    omega
  | i + 1 => tyB_rng (B i)
def splS (σ : Sg) (i : Nat) : Sg := us (us (us (us σ 26 (up (up (σ 26) 4 0) 3 ((cnT (σ 25) i : Nat) : Int))) 27 (tkA (σ 25) (fun i => tyB (σ 25 i)) (σ 27) i)) 28 (tkA (σ 25) (fun i => (i : Int)) (σ 28) i)) 29 (tkA (σ 25) (fun i => vaF (σ 25) (σ 24 1).toNat (tyB (σ 25 i)) i) (σ 29) i)
def adT (σ : Sg) (c : Nat) (t s v : Int) : Sg := wr (wr (wr (wr σ 27 c t) 28 c s) 29 c v) 26 3 ((c : Int) + 1)
def splE (σ : Sg) : Sg := adT (splS σ (σ 24 1).toNat) (cnT (σ 25) (σ 24 1).toNat) 6 (σ 24 1) 0
theorem up_cm (f : Nat → Int) {a b : Nat} (x y : Int) (h : a ≠ b) : up (up f a x) b y = up (up f b y) a x := by
  funext j
  unfold up
  by_cases h1 : j = b
  · subst h1
    rw [if_pos rfl, if_neg (fun q => h q.symm), if_pos rfl]
  · rw [if_neg h1, if_neg h1]
theorem spl_0 (σ : Sg) : wr (wr σ 26 3 0) 26 4 0 = splS σ 0 := by
  have e : wr (wr σ 26 3 0) 26 4 0 = us σ 26 (up (up (σ 26) 4 0) 3 ((cnT (σ 25) 0 : Nat) : Int)) := by
    unfold wr
    rw [us_s, us_us, up_cm _ _ _ (by decide)]
    rfl
  rw [e]
  unfold splS
  exact ((us_idx rfl).trans ((us_idx rfl).trans (us_idx rfl))).symm
theorem spl_a (σ : Sg) (i c : Nat) (hc : c = cnT (σ 25) i) (hst : isSt (σ 25) i = true) : adT (splS σ i) c (tyB (σ 25 i)) (i : Int) (vaF (σ 25) (σ 24 1).toNat (tyB (σ 25 i)) i) = splS σ (i + 1) := by
  subst hc
  unfold adT splS
  rw [cnT, tkA, tkA, tkA, if_pos hst, if_pos hst, if_pos hst, if_pos hst]
  funext k
  by_cases h1 : k = 26
  · subst h1
    show up (up (up (σ 26) 4 0) 3 _) 3 _ = up (up (σ 26) 4 0) 3 _
    rw [up_up]
    rfl
  · by_cases h2 : k = 27
    · subst h2
      rfl
    · by_cases h3 : k = 28
      · subst h3
        rfl
      · by_cases h4 : k = 29
        · subst h4
          rfl
        · rw [wr_n _ _ _ h1, wr_n _ _ _ h4, wr_n _ _ _ h3, wr_n _ _ _ h2, us_n _ _ h4, us_n _ _ h3, us_n _ _ h2, us_n _ _ h1, us_n _ _ h4, us_n _ _ h3, us_n _ _ h2, us_n _ _ h1]
theorem spl_n (σ : Sg) (i : Nat) (hst : ¬ isSt (σ 25) i = true) : splS σ i = splS σ (i + 1) := by
  unfold splS
  rw [cnT, tkA, tkA, tkA, if_neg hst, if_neg hst, if_neg hst, if_neg hst]
set_option maxHeartbeats 4000000 in
set_option maxRecDepth 100000 in
theorem c_add (g : Gt) (c : Nat) (hc : c ≤ 120) (t s v : Int) (σ : Sg) (h : σ 26 3 = (c : Int)) : Mt g yX3_add cX3_add 4 none 0 [.ref (gA g 26), .int (iI (t)), .int (iI (s)), .int (iI (v))] σ (pV (adT σ c t s v)) := by
  refine mt_of (own := RX3) (by decide) rfl (Nat.le_of_ble_eq_true rfl) (fun E C => ?_)
  show J g E (pV (adT σ c t s v)) 4 0 [(0, .ref (gA g 26)), (1, .int (iI (t))), (2, .int (iI (s))), (3, .int (iI (v)))] [] σ
  refine r_aload_n (pc := 0) C dX3_add_0 rfl 0 rfl ?_
  refine r_getR3 (pc := 1) C 0 (k' := 27) rfl O_26 (by decide) rfl t_180 dX3_add_1 ?_
  refine r_aload_n (pc := 4) C dX3_add_4 rfl 0 rfl ?_
  refine r_getI3 (pc := 5) C 3 rfl O_26 (by decide) rfl t_183 dX3_add_5 ?_
  refine r_top (show σ 26 3 = (c : Int) from h) ?_
  refine r_iload_n (pc := 8) C dX3_add_8 rfl 1 rfl ?_
  refine r_iast (pc := 9) C c A_27 (by omega) (by omega) dX3_add_9 ?_
  refine r_aload_n (pc := 10) C dX3_add_10 rfl 0 rfl ?_
  refine r_getR3 (pc := 11) C 1 (k' := 28) rfl O_26 (by decide) rfl t_181 dX3_add_11 ?_
  refine r_aload_n (pc := 14) C dX3_add_14 rfl 0 rfl ?_
  refine r_getI3 (pc := 15) C 3 rfl O_26 (by decide) rfl t_183 dX3_add_15 ?_
  refine r_top (wr_o2 (k := 27) (k' := 26) _ _ _ _ (by omega)) ?_
  refine r_top (show σ 26 3 = (c : Int) from h) ?_
  refine r_iload_n (pc := 18) C dX3_add_18 rfl 2 rfl ?_
  refine r_iast (pc := 19) C c A_28 (by omega) (by omega) dX3_add_19 ?_
  refine r_aload_n (pc := 20) C dX3_add_20 rfl 0 rfl ?_
  refine r_getR3 (pc := 21) C 2 (k' := 29) rfl O_26 (by decide) rfl t_182 dX3_add_21 ?_
  refine r_aload_n (pc := 24) C dX3_add_24 rfl 0 rfl ?_
  refine r_getI3 (pc := 25) C 3 rfl O_26 (by decide) rfl t_183 dX3_add_25 ?_
  refine r_top ((wr_o2 (k := 28) (k' := 26) _ _ _ _ (by omega)).trans (wr_o2 (k := 27) (k' := 26) _ _ _ _ (by omega))) ?_
  refine r_top (show σ 26 3 = (c : Int) from h) ?_
  refine r_iload_n (pc := 28) C dX3_add_28 rfl 3 rfl ?_
  refine r_iast (pc := 29) C c A_29 (by omega) (by omega) dX3_add_29 ?_
  refine r_aload_n (pc := 30) C dX3_add_30 rfl 0 rfl ?_
  refine r_dup (pc := 31) C rfl dX3_add_31 ?_
  refine r_getI3 (pc := 32) C 3 rfl O_26 (by decide) rfl t_183 dX3_add_32 ?_
  refine r_top ((wr_o2 (k := 29) (k' := 26) _ _ _ _ (by omega)).trans ((wr_o2 (k := 28) (k' := 26) _ _ _ _ (by omega)).trans (wr_o2 (k := 27) (k' := 26) _ _ _ _ (by omega)))) ?_
  refine r_top (show σ 26 3 = (c : Int) from h) ?_
  refine r_iconst (pc := 35) C dX3_add_35 ?_
  refine r_iadd (pc := 36) C dX3_add_36 ?_
  refine r_put3 (pc := 37) C 3 rfl O_26 (by decide) rfl t_183 rfl (by decide +kernel) dX3_add_37 ?_
  exact r_retv (pc := 40) C (rfl) dX3_add_40
set_option maxHeartbeats 4000000 in
set_option maxRecDepth 100000 in
theorem c_split (g : Gt) (σ : Sg) (hl : 0 ≤ σ 24 1 ∧ σ 24 1 ≤ 120) (hB : ∀ j, j < 120 → 0 ≤ σ 25 j ∧ σ 25 j ≤ 255) : Mt g yX3_split cX3_split 6 none 7 [.ref (gA g 26), .ref (gA g 24)] σ (pV (splE σ)) := by
  refine mt_of (own := RX3) (by decide) rfl (Nat.le_of_ble_eq_true rfl) (fun E C => ?_)
  show J g E (pV (splE σ)) 6 0 [(0, .ref (gA g 26)), (1, .ref (gA g 24))] [] σ
  refine r_aload_n (pc := 0) C dX3_split_0 rfl 0 rfl ?_
  refine r_iconst (pc := 1) C dX3_split_1 ?_
  refine r_put3 (pc := 2) C 3 rfl O_26 (by decide) rfl t_183 rfl (by decide +kernel) dX3_split_2 ?_
  refine r_aload_n (pc := 5) C dX3_split_5 rfl 0 rfl ?_
  refine r_iconst (pc := 6) C dX3_split_6 ?_
  refine r_put3 (pc := 7) C 4 rfl O_26 (by decide) rfl t_184 rfl (by decide +kernel) dX3_split_7 ?_
  refine r_iconst (pc := 10) C dX3_split_10 ?_
  refine r_istore_n (pc := 11) C dX3_split_11 rfl (by decide) [1, 2, 0] (lv' := [(0, .ref (gA g 26)), (1, .ref (gA g 24)), (2, .int (iI (0)))]) rfl ?_
  refine r_iconst (pc := 12) C dX3_split_12 ?_
  refine r_istore_n (pc := 13) C dX3_split_13 rfl (by decide) [1, 2, 3, 0] (lv' := [(0, .ref (gA g 26)), (1, .ref (gA g 24)), (2, .int (iI (0))), (3, .int (iI (0)))]) rfl ?_
  have L14 : ∀ (n_ : Nat) (i : Nat) (x14_2 x14_3 : Int) (s14 : Sg), (σ 24 1).toNat - i < n_ → ((i : Int) ≤ σ 24 1) → x14_2 = bfT (σ 25) i → x14_3 = (i : Int) → s14 = (splS σ i) → J g E (pV (splE σ)) 6 14 [(0, .ref (gA g 26)), (1, .ref (gA g 24)), (2, .int (iI (x14_2))), (3, .int (iI (x14_3)))] [] s14 := by
    intro n_
    induction n_ with
    | zero => intro i x14_2 x14_3 s14 hm_; exact absurd hm_ (Nat.not_lt_zero _)
    | succ n_ ih14 =>
      intro i x14_2 x14_3 s14 hm14 hi14_0 e14_0 e14_1 es14
      subst e14_0 e14_1 es14
      have hcn := cnT_le (σ 25) i
      have hbf := bfT_rng (σ 25) i
      refine r_iload_n (pc := 14) C dX3_split_14 rfl 3 rfl ?_
      refine r_aload_n (pc := 15) C dX3_split_15 rfl 1 rfl ?_
      refine r_getI2 (pc := 16) C 1 rfl O_24 (by decide) rfl t_167 dX3_split_16 ?_
      refine r_top (show (splS σ i) 24 1 = σ 24 1 from rfl) ?_
      refine r_icmp_ge (pc := 19) C 91 ⟨by omega, by omega⟩ ⟨by omega, by omega⟩ dX3_split_19 (by decide) (fun h19 => ?_) (fun h19 => ?_)
      · skip
        refine r_aload_n (pc := 91) C dX3_split_91 rfl 0 rfl ?_
        refine r_bipush (pc := 92) C dX3_split_92 (by decide) ?_
        refine r_aload_n (pc := 94) C dX3_split_94 rfl 1 rfl ?_
        refine r_getI2 (pc := 95) C 1 rfl O_24 (by decide) rfl t_167 dX3_split_95 ?_
        refine r_top (show (splS σ i) 24 1 = σ 24 1 from rfl) ?_
        refine r_iconst (pc := 98) C dX3_split_98 ?_
        refine r_cVv (pc := 99) C (c_add g (cnT (σ 25) i) (by omega) 6 (σ 24 1) 0 (splS σ i) rfl) yX3_add_w O_26 rfl rfl t_657 ⟨by decide, by decide⟩ (Nat.le_of_ble_eq_true rfl) rfl dX3_split_99 ?_
        exact r_retv (pc := 102) C (by unfold splE; rw [show i = (σ 24 1).toNat by omega]) dX3_split_102
      · skip
        refine r_aload_n (pc := 22) C dX3_split_22 rfl 1 rfl ?_
        refine r_getR2 (pc := 23) C 0 (k' := 25) rfl O_24 (by decide) rfl t_165 dX3_split_23 ?_
        refine r_iload_n (pc := 26) C dX3_split_26 rfl 3 rfl ?_
        have hbi := hB i (by omega)
        refine r_iald (pc := 27) C i A_25 (by omega) (by omega) dX3_split_27 ?_
        refine r_top (show (splS σ i) 25 i = σ 25 i from rfl) ?_
        have htr := tyB_rng (σ 25 i)
        refine r_cSi (pc := 28) C (c_typeOf g (σ 25 i) ⟨by omega, by omega⟩ (splS σ i)) yX3_typeOf_w rfl t_570 ⟨by decide, by decide⟩ (Nat.le_of_ble_eq_true rfl) rfl dX3_split_28 ?_
        refine r_istore (pc := 31) C dX3_split_31 (by decide) [1, 2, 3, 4, 0] (lv' := [(0, .ref (gA g 26)), (1, .ref (gA g 24)), (2, .int (iI (bfT (σ 25) i))), (3, .int (iI ((i : Int)))), (4, .int (iI (tyB (σ 25 i))))]) rfl ?_
        refine r_iload (pc := 33) C dX3_split_33 4 rfl ?_
        refine r_iload_n (pc := 35) C dX3_split_35 rfl 2 rfl ?_
        refine r_icmp_ne (pc := 36) C 55 ⟨by omega, by omega⟩ ⟨by omega, by omega⟩ dX3_split_36 (by decide) (fun h36 => ?_) (fun h36 => ?_)
        · skip
          refine r_iconst (pc := 55) C dX3_split_55 ?_
          refine r_istore (pc := 56) C dX3_split_56 (by decide) [1, 2, 3, 4, 5, 0] (lv' := [(0, .ref (gA g 26)), (1, .ref (gA g 24)), (2, .int (iI (bfT (σ 25) i))), (3, .int (iI ((i : Int)))), (4, .int (iI (tyB (σ 25 i)))), (5, .int (iI (0)))]) rfl ?_
          refine r_iload (pc := 58) C dX3_split_58 4 rfl ?_
          refine r_if_eq (pc := 60) C 82 ⟨by omega, by omega⟩ dX3_split_60 (by decide) (fun h60 => ?_) (fun h60 => ?_)
          · skip
            have hst : ¬ isSt (σ 25) i = true := fun h => by have h2 := of_decide_eq_true h; omega
            refine r_iload (pc := 82) C dX3_split_82 4 rfl ?_
            refine r_istore_n (pc := 84) C dX3_split_84 rfl (by decide) [1, 2, 0, 3, 4, 5] (lv' := [(0, .ref (gA g 26)), (1, .ref (gA g 24)), (2, .int (iI (tyB (σ 25 i)))), (3, .int (iI ((i : Int)))), (4, .int (iI (tyB (σ 25 i)))), (5, .int (iI (0)))]) rfl ?_
            refine r_iinc (pc := 85) C dX3_split_85 3 rfl (by decide) [1, 2, 3, 0, 4, 5] (lv' := [(0, .ref (gA g 26)), (1, .ref (gA g 24)), (2, .int (iI (tyB (σ 25 i)))), (3, .int (iI ((i : Int) + 1))), (4, .int (iI (tyB (σ 25 i)))), (5, .int (iI (0)))]) rfl ?_
            refine r_goto (pc := 88) C 14 dX3_split_88 (by decide) ?_
            refine r_lv [0, 1, 2, 3] (lv' := [(0, .ref (gA g 26)), (1, .ref (gA g 24)), (2, .int (iI (tyB (σ 25 i)))), (3, .int (iI ((i : Int) + 1)))]) rfl ?_
            exact ih14 (i + 1) _ _ _ (by omega) (by omega) (rfl) (by omega) (by first | (exfalso; omega; done) | exact spl_n σ i hst | exact spl_a σ i _ rfl hst)
          · skip
            refine r_iload (pc := 63) C dX3_split_63 5 rfl ?_
            refine r_if_ne (pc := 65) C 82 ⟨by omega, by omega⟩ dX3_split_65 (by decide) (fun h65 => ?_) (fun h65 => ?_)
            · skip
              have hst : ¬ isSt (σ 25) i = true := fun h => by have h2 := of_decide_eq_true h; omega
              refine r_iload (pc := 82) C dX3_split_82 4 rfl ?_
              refine r_istore_n (pc := 84) C dX3_split_84 rfl (by decide) [1, 2, 0, 3, 4, 5] (lv' := [(0, .ref (gA g 26)), (1, .ref (gA g 24)), (2, .int (iI (tyB (σ 25 i)))), (3, .int (iI ((i : Int)))), (4, .int (iI (tyB (σ 25 i)))), (5, .int (iI (0)))]) rfl ?_
              refine r_iinc (pc := 85) C dX3_split_85 3 rfl (by decide) [1, 2, 3, 0, 4, 5] (lv' := [(0, .ref (gA g 26)), (1, .ref (gA g 24)), (2, .int (iI (tyB (σ 25 i)))), (3, .int (iI ((i : Int) + 1))), (4, .int (iI (tyB (σ 25 i)))), (5, .int (iI (0)))]) rfl ?_
              refine r_goto (pc := 88) C 14 dX3_split_88 (by decide) ?_
              refine r_lv [0, 1, 2, 3] (lv' := [(0, .ref (gA g 26)), (1, .ref (gA g 24)), (2, .int (iI (tyB (σ 25 i)))), (3, .int (iI ((i : Int) + 1)))]) rfl ?_
              exact ih14 (i + 1) _ _ _ (by omega) (by omega) (rfl) (by omega) (by first | (exfalso; omega; done) | exact spl_n σ i hst | exact spl_a σ i _ rfl hst)
            · skip
              refine r_aload_n (pc := 68) C dX3_split_68 rfl 0 rfl ?_
              refine r_iload (pc := 69) C dX3_split_69 4 rfl ?_
              refine r_iload_n (pc := 71) C dX3_split_71 rfl 3 rfl ?_
              refine r_aload_n (pc := 72) C dX3_split_72 rfl 1 rfl ?_
              refine r_iload (pc := 73) C dX3_split_73 4 rfl ?_
              refine r_iload_n (pc := 75) C dX3_split_75 rfl 3 rfl ?_
              refine r_cSi (pc := 76) C (c_valueAt g (tyB (σ 25 i)) i (splS σ i) hl hB (show (i : Int) < σ 24 1 by omega) rfl) yX3_valueAt_w rfl t_573 ⟨by decide, by decide⟩ (Nat.le_of_ble_eq_true rfl) rfl dX3_split_76 ?_
              refine r_top (show _ = vaF (σ 25) (σ 24 1).toNat (tyB (σ 25 i)) i from rfl) ?_
              refine r_cVv (pc := 79) C (c_add g (cnT (σ 25) i) (by omega) (tyB (σ 25 i)) (i : Int) (vaF (σ 25) (σ 24 1).toNat (tyB (σ 25 i)) i) (splS σ i) rfl) yX3_add_w O_26 rfl rfl t_657 ⟨by decide, by decide⟩ (Nat.le_of_ble_eq_true rfl) rfl dX3_split_79 ?_
              have hst : isSt (σ 25) i = true := decide_eq_true (by omega)
              refine r_iload (pc := 82) C dX3_split_82 4 rfl ?_
              refine r_istore_n (pc := 84) C dX3_split_84 rfl (by decide) [1, 2, 0, 3, 4, 5] (lv' := [(0, .ref (gA g 26)), (1, .ref (gA g 24)), (2, .int (iI (tyB (σ 25 i)))), (3, .int (iI ((i : Int)))), (4, .int (iI (tyB (σ 25 i)))), (5, .int (iI (0)))]) rfl ?_
              refine r_iinc (pc := 85) C dX3_split_85 3 rfl (by decide) [1, 2, 3, 0, 4, 5] (lv' := [(0, .ref (gA g 26)), (1, .ref (gA g 24)), (2, .int (iI (tyB (σ 25 i)))), (3, .int (iI ((i : Int) + 1))), (4, .int (iI (tyB (σ 25 i)))), (5, .int (iI (0)))]) rfl ?_
              refine r_goto (pc := 88) C 14 dX3_split_88 (by decide) ?_
              refine r_lv [0, 1, 2, 3] (lv' := [(0, .ref (gA g 26)), (1, .ref (gA g 24)), (2, .int (iI (tyB (σ 25 i)))), (3, .int (iI ((i : Int) + 1)))]) rfl ?_
              exact ih14 (i + 1) _ _ _ (by omega) (by omega) (rfl) (by omega) (by first | (exfalso; omega; done) | exact spl_n σ i hst | exact spl_a σ i _ rfl hst)
        · skip
          refine r_iload (pc := 39) C dX3_split_39 4 rfl ?_
          refine r_iconst (pc := 41) C dX3_split_41 ?_
          refine r_icmp_eq (pc := 42) C 51 ⟨by omega, by omega⟩ ⟨by omega, by omega⟩ dX3_split_42 (by decide) (fun h42 => ?_) (fun h42 => ?_)
          · skip
            refine r_iconst (pc := 51) C dX3_split_51 ?_
            refine r_goto (pc := 52) C 56 dX3_split_52 (by decide) ?_
            refine r_istore (pc := 56) C dX3_split_56 (by decide) [1, 2, 3, 4, 5, 0] (lv' := [(0, .ref (gA g 26)), (1, .ref (gA g 24)), (2, .int (iI (bfT (σ 25) i))), (3, .int (iI ((i : Int)))), (4, .int (iI (tyB (σ 25 i)))), (5, .int (iI (1)))]) rfl ?_
            refine r_iload (pc := 58) C dX3_split_58 4 rfl ?_
            refine r_if_eq (pc := 60) C 82 ⟨by omega, by omega⟩ dX3_split_60 (by decide) (fun h60 => ?_) (fun h60 => ?_)
            · skip
              have hst : ¬ isSt (σ 25) i = true := fun h => by have h2 := of_decide_eq_true h; omega
              refine r_iload (pc := 82) C dX3_split_82 4 rfl ?_
              refine r_istore_n (pc := 84) C dX3_split_84 rfl (by decide) [1, 2, 0, 3, 4, 5] (lv' := [(0, .ref (gA g 26)), (1, .ref (gA g 24)), (2, .int (iI (tyB (σ 25 i)))), (3, .int (iI ((i : Int)))), (4, .int (iI (tyB (σ 25 i)))), (5, .int (iI (1)))]) rfl ?_
              refine r_iinc (pc := 85) C dX3_split_85 3 rfl (by decide) [1, 2, 3, 0, 4, 5] (lv' := [(0, .ref (gA g 26)), (1, .ref (gA g 24)), (2, .int (iI (tyB (σ 25 i)))), (3, .int (iI ((i : Int) + 1))), (4, .int (iI (tyB (σ 25 i)))), (5, .int (iI (1)))]) rfl ?_
              refine r_goto (pc := 88) C 14 dX3_split_88 (by decide) ?_
              refine r_lv [0, 1, 2, 3] (lv' := [(0, .ref (gA g 26)), (1, .ref (gA g 24)), (2, .int (iI (tyB (σ 25 i)))), (3, .int (iI ((i : Int) + 1)))]) rfl ?_
              exact ih14 (i + 1) _ _ _ (by omega) (by omega) (rfl) (by omega) (by first | (exfalso; omega; done) | exact spl_n σ i hst | exact spl_a σ i _ rfl hst)
            · skip
              refine r_iload (pc := 63) C dX3_split_63 5 rfl ?_
              refine r_if_ne (pc := 65) C 82 ⟨by omega, by omega⟩ dX3_split_65 (by decide) (fun h65 => ?_) (fun h65 => ?_)
              · skip
                have hst : ¬ isSt (σ 25) i = true := fun h => by have h2 := of_decide_eq_true h; omega
                refine r_iload (pc := 82) C dX3_split_82 4 rfl ?_
                refine r_istore_n (pc := 84) C dX3_split_84 rfl (by decide) [1, 2, 0, 3, 4, 5] (lv' := [(0, .ref (gA g 26)), (1, .ref (gA g 24)), (2, .int (iI (tyB (σ 25 i)))), (3, .int (iI ((i : Int)))), (4, .int (iI (tyB (σ 25 i)))), (5, .int (iI (1)))]) rfl ?_
                refine r_iinc (pc := 85) C dX3_split_85 3 rfl (by decide) [1, 2, 3, 0, 4, 5] (lv' := [(0, .ref (gA g 26)), (1, .ref (gA g 24)), (2, .int (iI (tyB (σ 25 i)))), (3, .int (iI ((i : Int) + 1))), (4, .int (iI (tyB (σ 25 i)))), (5, .int (iI (1)))]) rfl ?_
                refine r_goto (pc := 88) C 14 dX3_split_88 (by decide) ?_
                refine r_lv [0, 1, 2, 3] (lv' := [(0, .ref (gA g 26)), (1, .ref (gA g 24)), (2, .int (iI (tyB (σ 25 i)))), (3, .int (iI ((i : Int) + 1)))]) rfl ?_
                exact ih14 (i + 1) _ _ _ (by omega) (by omega) (rfl) (by omega) (by first | (exfalso; omega; done) | exact spl_n σ i hst | exact spl_a σ i _ rfl hst)
              · skip
                refine r_aload_n (pc := 68) C dX3_split_68 rfl 0 rfl ?_
                refine r_iload (pc := 69) C dX3_split_69 4 rfl ?_
                refine r_iload_n (pc := 71) C dX3_split_71 rfl 3 rfl ?_
                refine r_aload_n (pc := 72) C dX3_split_72 rfl 1 rfl ?_
                refine r_iload (pc := 73) C dX3_split_73 4 rfl ?_
                refine r_iload_n (pc := 75) C dX3_split_75 rfl 3 rfl ?_
                refine r_cSi (pc := 76) C (c_valueAt g (tyB (σ 25 i)) i (splS σ i) hl hB (show (i : Int) < σ 24 1 by omega) rfl) yX3_valueAt_w rfl t_573 ⟨by decide, by decide⟩ (Nat.le_of_ble_eq_true rfl) rfl dX3_split_76 ?_
                refine r_top (show _ = vaF (σ 25) (σ 24 1).toNat (tyB (σ 25 i)) i from rfl) ?_
                refine r_cVv (pc := 79) C (c_add g (cnT (σ 25) i) (by omega) (tyB (σ 25 i)) (i : Int) (vaF (σ 25) (σ 24 1).toNat (tyB (σ 25 i)) i) (splS σ i) rfl) yX3_add_w O_26 rfl rfl t_657 ⟨by decide, by decide⟩ (Nat.le_of_ble_eq_true rfl) rfl dX3_split_79 ?_
                have hst : isSt (σ 25) i = true := decide_eq_true (by omega)
                refine r_iload (pc := 82) C dX3_split_82 4 rfl ?_
                refine r_istore_n (pc := 84) C dX3_split_84 rfl (by decide) [1, 2, 0, 3, 4, 5] (lv' := [(0, .ref (gA g 26)), (1, .ref (gA g 24)), (2, .int (iI (tyB (σ 25 i)))), (3, .int (iI ((i : Int)))), (4, .int (iI (tyB (σ 25 i)))), (5, .int (iI (1)))]) rfl ?_
                refine r_iinc (pc := 85) C dX3_split_85 3 rfl (by decide) [1, 2, 3, 0, 4, 5] (lv' := [(0, .ref (gA g 26)), (1, .ref (gA g 24)), (2, .int (iI (tyB (σ 25 i)))), (3, .int (iI ((i : Int) + 1))), (4, .int (iI (tyB (σ 25 i)))), (5, .int (iI (1)))]) rfl ?_
                refine r_goto (pc := 88) C 14 dX3_split_88 (by decide) ?_
                refine r_lv [0, 1, 2, 3] (lv' := [(0, .ref (gA g 26)), (1, .ref (gA g 24)), (2, .int (iI (tyB (σ 25 i)))), (3, .int (iI ((i : Int) + 1)))]) rfl ?_
                exact ih14 (i + 1) _ _ _ (by omega) (by omega) (rfl) (by omega) (by first | (exfalso; omega; done) | exact spl_n σ i hst | exact spl_a σ i _ rfl hst)
          · skip
            refine r_iload (pc := 45) C dX3_split_45 4 rfl ?_
            refine r_iconst (pc := 47) C dX3_split_47 ?_
            refine r_icmp_ne (pc := 48) C 55 ⟨by omega, by omega⟩ ⟨by omega, by omega⟩ dX3_split_48 (by decide) (fun h48 => ?_) (fun h48 => ?_)
            · skip
              refine r_iconst (pc := 55) C dX3_split_55 ?_
              refine r_istore (pc := 56) C dX3_split_56 (by decide) [1, 2, 3, 4, 5, 0] (lv' := [(0, .ref (gA g 26)), (1, .ref (gA g 24)), (2, .int (iI (bfT (σ 25) i))), (3, .int (iI ((i : Int)))), (4, .int (iI (tyB (σ 25 i)))), (5, .int (iI (0)))]) rfl ?_
              refine r_iload (pc := 58) C dX3_split_58 4 rfl ?_
              refine r_if_eq (pc := 60) C 82 ⟨by omega, by omega⟩ dX3_split_60 (by decide) (fun h60 => ?_) (fun h60 => ?_)
              · skip
                have hst : ¬ isSt (σ 25) i = true := fun h => by have h2 := of_decide_eq_true h; omega
                refine r_iload (pc := 82) C dX3_split_82 4 rfl ?_
                refine r_istore_n (pc := 84) C dX3_split_84 rfl (by decide) [1, 2, 0, 3, 4, 5] (lv' := [(0, .ref (gA g 26)), (1, .ref (gA g 24)), (2, .int (iI (tyB (σ 25 i)))), (3, .int (iI ((i : Int)))), (4, .int (iI (tyB (σ 25 i)))), (5, .int (iI (0)))]) rfl ?_
                refine r_iinc (pc := 85) C dX3_split_85 3 rfl (by decide) [1, 2, 3, 0, 4, 5] (lv' := [(0, .ref (gA g 26)), (1, .ref (gA g 24)), (2, .int (iI (tyB (σ 25 i)))), (3, .int (iI ((i : Int) + 1))), (4, .int (iI (tyB (σ 25 i)))), (5, .int (iI (0)))]) rfl ?_
                refine r_goto (pc := 88) C 14 dX3_split_88 (by decide) ?_
                refine r_lv [0, 1, 2, 3] (lv' := [(0, .ref (gA g 26)), (1, .ref (gA g 24)), (2, .int (iI (tyB (σ 25 i)))), (3, .int (iI ((i : Int) + 1)))]) rfl ?_
                exact ih14 (i + 1) _ _ _ (by omega) (by omega) (rfl) (by omega) (by first | (exfalso; omega; done) | exact spl_n σ i hst | exact spl_a σ i _ rfl hst)
              · skip
                refine r_iload (pc := 63) C dX3_split_63 5 rfl ?_
                refine r_if_ne (pc := 65) C 82 ⟨by omega, by omega⟩ dX3_split_65 (by decide) (fun h65 => ?_) (fun h65 => ?_)
                · skip
                  have hst : ¬ isSt (σ 25) i = true := fun h => by have h2 := of_decide_eq_true h; omega
                  refine r_iload (pc := 82) C dX3_split_82 4 rfl ?_
                  refine r_istore_n (pc := 84) C dX3_split_84 rfl (by decide) [1, 2, 0, 3, 4, 5] (lv' := [(0, .ref (gA g 26)), (1, .ref (gA g 24)), (2, .int (iI (tyB (σ 25 i)))), (3, .int (iI ((i : Int)))), (4, .int (iI (tyB (σ 25 i)))), (5, .int (iI (0)))]) rfl ?_
                  refine r_iinc (pc := 85) C dX3_split_85 3 rfl (by decide) [1, 2, 3, 0, 4, 5] (lv' := [(0, .ref (gA g 26)), (1, .ref (gA g 24)), (2, .int (iI (tyB (σ 25 i)))), (3, .int (iI ((i : Int) + 1))), (4, .int (iI (tyB (σ 25 i)))), (5, .int (iI (0)))]) rfl ?_
                  refine r_goto (pc := 88) C 14 dX3_split_88 (by decide) ?_
                  refine r_lv [0, 1, 2, 3] (lv' := [(0, .ref (gA g 26)), (1, .ref (gA g 24)), (2, .int (iI (tyB (σ 25 i)))), (3, .int (iI ((i : Int) + 1)))]) rfl ?_
                  exact ih14 (i + 1) _ _ _ (by omega) (by omega) (rfl) (by omega) (by first | (exfalso; omega; done) | exact spl_n σ i hst | exact spl_a σ i _ rfl hst)
                · skip
                  refine r_aload_n (pc := 68) C dX3_split_68 rfl 0 rfl ?_
                  refine r_iload (pc := 69) C dX3_split_69 4 rfl ?_
                  refine r_iload_n (pc := 71) C dX3_split_71 rfl 3 rfl ?_
                  refine r_aload_n (pc := 72) C dX3_split_72 rfl 1 rfl ?_
                  refine r_iload (pc := 73) C dX3_split_73 4 rfl ?_
                  refine r_iload_n (pc := 75) C dX3_split_75 rfl 3 rfl ?_
                  refine r_cSi (pc := 76) C (c_valueAt g (tyB (σ 25 i)) i (splS σ i) hl hB (show (i : Int) < σ 24 1 by omega) rfl) yX3_valueAt_w rfl t_573 ⟨by decide, by decide⟩ (Nat.le_of_ble_eq_true rfl) rfl dX3_split_76 ?_
                  refine r_top (show _ = vaF (σ 25) (σ 24 1).toNat (tyB (σ 25 i)) i from rfl) ?_
                  refine r_cVv (pc := 79) C (c_add g (cnT (σ 25) i) (by omega) (tyB (σ 25 i)) (i : Int) (vaF (σ 25) (σ 24 1).toNat (tyB (σ 25 i)) i) (splS σ i) rfl) yX3_add_w O_26 rfl rfl t_657 ⟨by decide, by decide⟩ (Nat.le_of_ble_eq_true rfl) rfl dX3_split_79 ?_
                  have hst : isSt (σ 25) i = true := decide_eq_true (by omega)
                  refine r_iload (pc := 82) C dX3_split_82 4 rfl ?_
                  refine r_istore_n (pc := 84) C dX3_split_84 rfl (by decide) [1, 2, 0, 3, 4, 5] (lv' := [(0, .ref (gA g 26)), (1, .ref (gA g 24)), (2, .int (iI (tyB (σ 25 i)))), (3, .int (iI ((i : Int)))), (4, .int (iI (tyB (σ 25 i)))), (5, .int (iI (0)))]) rfl ?_
                  refine r_iinc (pc := 85) C dX3_split_85 3 rfl (by decide) [1, 2, 3, 0, 4, 5] (lv' := [(0, .ref (gA g 26)), (1, .ref (gA g 24)), (2, .int (iI (tyB (σ 25 i)))), (3, .int (iI ((i : Int) + 1))), (4, .int (iI (tyB (σ 25 i)))), (5, .int (iI (0)))]) rfl ?_
                  refine r_goto (pc := 88) C 14 dX3_split_88 (by decide) ?_
                  refine r_lv [0, 1, 2, 3] (lv' := [(0, .ref (gA g 26)), (1, .ref (gA g 24)), (2, .int (iI (tyB (σ 25 i)))), (3, .int (iI ((i : Int) + 1)))]) rfl ?_
                  exact ih14 (i + 1) _ _ _ (by omega) (by omega) (rfl) (by omega) (by first | (exfalso; omega; done) | exact spl_n σ i hst | exact spl_a σ i _ rfl hst)
            · skip
              refine r_iconst (pc := 51) C dX3_split_51 ?_
              refine r_goto (pc := 52) C 56 dX3_split_52 (by decide) ?_
              refine r_istore (pc := 56) C dX3_split_56 (by decide) [1, 2, 3, 4, 5, 0] (lv' := [(0, .ref (gA g 26)), (1, .ref (gA g 24)), (2, .int (iI (bfT (σ 25) i))), (3, .int (iI ((i : Int)))), (4, .int (iI (tyB (σ 25 i)))), (5, .int (iI (1)))]) rfl ?_
              refine r_iload (pc := 58) C dX3_split_58 4 rfl ?_
              refine r_if_eq (pc := 60) C 82 ⟨by omega, by omega⟩ dX3_split_60 (by decide) (fun h60 => ?_) (fun h60 => ?_)
              · skip
                have hst : ¬ isSt (σ 25) i = true := fun h => by have h2 := of_decide_eq_true h; omega
                refine r_iload (pc := 82) C dX3_split_82 4 rfl ?_
                refine r_istore_n (pc := 84) C dX3_split_84 rfl (by decide) [1, 2, 0, 3, 4, 5] (lv' := [(0, .ref (gA g 26)), (1, .ref (gA g 24)), (2, .int (iI (tyB (σ 25 i)))), (3, .int (iI ((i : Int)))), (4, .int (iI (tyB (σ 25 i)))), (5, .int (iI (1)))]) rfl ?_
                refine r_iinc (pc := 85) C dX3_split_85 3 rfl (by decide) [1, 2, 3, 0, 4, 5] (lv' := [(0, .ref (gA g 26)), (1, .ref (gA g 24)), (2, .int (iI (tyB (σ 25 i)))), (3, .int (iI ((i : Int) + 1))), (4, .int (iI (tyB (σ 25 i)))), (5, .int (iI (1)))]) rfl ?_
                refine r_goto (pc := 88) C 14 dX3_split_88 (by decide) ?_
                refine r_lv [0, 1, 2, 3] (lv' := [(0, .ref (gA g 26)), (1, .ref (gA g 24)), (2, .int (iI (tyB (σ 25 i)))), (3, .int (iI ((i : Int) + 1)))]) rfl ?_
                exact ih14 (i + 1) _ _ _ (by omega) (by omega) (rfl) (by omega) (by first | (exfalso; omega; done) | exact spl_n σ i hst | exact spl_a σ i _ rfl hst)
              · skip
                refine r_iload (pc := 63) C dX3_split_63 5 rfl ?_
                refine r_if_ne (pc := 65) C 82 ⟨by omega, by omega⟩ dX3_split_65 (by decide) (fun h65 => ?_) (fun h65 => ?_)
                · skip
                  have hst : ¬ isSt (σ 25) i = true := fun h => by have h2 := of_decide_eq_true h; omega
                  refine r_iload (pc := 82) C dX3_split_82 4 rfl ?_
                  refine r_istore_n (pc := 84) C dX3_split_84 rfl (by decide) [1, 2, 0, 3, 4, 5] (lv' := [(0, .ref (gA g 26)), (1, .ref (gA g 24)), (2, .int (iI (tyB (σ 25 i)))), (3, .int (iI ((i : Int)))), (4, .int (iI (tyB (σ 25 i)))), (5, .int (iI (1)))]) rfl ?_
                  refine r_iinc (pc := 85) C dX3_split_85 3 rfl (by decide) [1, 2, 3, 0, 4, 5] (lv' := [(0, .ref (gA g 26)), (1, .ref (gA g 24)), (2, .int (iI (tyB (σ 25 i)))), (3, .int (iI ((i : Int) + 1))), (4, .int (iI (tyB (σ 25 i)))), (5, .int (iI (1)))]) rfl ?_
                  refine r_goto (pc := 88) C 14 dX3_split_88 (by decide) ?_
                  refine r_lv [0, 1, 2, 3] (lv' := [(0, .ref (gA g 26)), (1, .ref (gA g 24)), (2, .int (iI (tyB (σ 25 i)))), (3, .int (iI ((i : Int) + 1)))]) rfl ?_
                  exact ih14 (i + 1) _ _ _ (by omega) (by omega) (rfl) (by omega) (by first | (exfalso; omega; done) | exact spl_n σ i hst | exact spl_a σ i _ rfl hst)
                · skip
                  refine r_aload_n (pc := 68) C dX3_split_68 rfl 0 rfl ?_
                  refine r_iload (pc := 69) C dX3_split_69 4 rfl ?_
                  refine r_iload_n (pc := 71) C dX3_split_71 rfl 3 rfl ?_
                  refine r_aload_n (pc := 72) C dX3_split_72 rfl 1 rfl ?_
                  refine r_iload (pc := 73) C dX3_split_73 4 rfl ?_
                  refine r_iload_n (pc := 75) C dX3_split_75 rfl 3 rfl ?_
                  refine r_cSi (pc := 76) C (c_valueAt g (tyB (σ 25 i)) i (splS σ i) hl hB (show (i : Int) < σ 24 1 by omega) rfl) yX3_valueAt_w rfl t_573 ⟨by decide, by decide⟩ (Nat.le_of_ble_eq_true rfl) rfl dX3_split_76 ?_
                  refine r_top (show _ = vaF (σ 25) (σ 24 1).toNat (tyB (σ 25 i)) i from rfl) ?_
                  refine r_cVv (pc := 79) C (c_add g (cnT (σ 25) i) (by omega) (tyB (σ 25 i)) (i : Int) (vaF (σ 25) (σ 24 1).toNat (tyB (σ 25 i)) i) (splS σ i) rfl) yX3_add_w O_26 rfl rfl t_657 ⟨by decide, by decide⟩ (Nat.le_of_ble_eq_true rfl) rfl dX3_split_79 ?_
                  have hst : isSt (σ 25) i = true := decide_eq_true (by omega)
                  refine r_iload (pc := 82) C dX3_split_82 4 rfl ?_
                  refine r_istore_n (pc := 84) C dX3_split_84 rfl (by decide) [1, 2, 0, 3, 4, 5] (lv' := [(0, .ref (gA g 26)), (1, .ref (gA g 24)), (2, .int (iI (tyB (σ 25 i)))), (3, .int (iI ((i : Int)))), (4, .int (iI (tyB (σ 25 i)))), (5, .int (iI (1)))]) rfl ?_
                  refine r_iinc (pc := 85) C dX3_split_85 3 rfl (by decide) [1, 2, 3, 0, 4, 5] (lv' := [(0, .ref (gA g 26)), (1, .ref (gA g 24)), (2, .int (iI (tyB (σ 25 i)))), (3, .int (iI ((i : Int) + 1))), (4, .int (iI (tyB (σ 25 i)))), (5, .int (iI (1)))]) rfl ?_
                  refine r_goto (pc := 88) C 14 dX3_split_88 (by decide) ?_
                  refine r_lv [0, 1, 2, 3] (lv' := [(0, .ref (gA g 26)), (1, .ref (gA g 24)), (2, .int (iI (tyB (σ 25 i)))), (3, .int (iI ((i : Int) + 1)))]) rfl ?_
                  exact ih14 (i + 1) _ _ _ (by omega) (by omega) (rfl) (by omega) (by first | (exfalso; omega; done) | exact spl_n σ i hst | exact spl_a σ i _ rfl hst)
  exact L14 _ 0 _ _ _ (Nat.lt_succ_self _) (by omega) (rfl) (rfl) (spl_0 σ)
set_option maxHeartbeats 4000000 in
set_option maxRecDepth 100000 in
theorem c_takes_y (g : Gt) (k : Nat) (hk : k ≤ 120) (c : Int) (hc : rng c) (σ : Sg) (h : σ 26 4 = (k : Int)) (ht : rng (σ 27 k)) (hx : σ 27 k = c) : Mt g yX3_takes cX3_takes 2 (some FieldType.boolean) 0 [.ref (gA g 26), .int (iI (c))] σ (pI 1 (wr σ 26 4 ((k : Int) + 1))) := by
  refine mt_of (own := RX3) (by decide) rfl (Nat.le_of_ble_eq_true rfl) (fun E C => ?_)
  show J g E (pI 1 (wr σ 26 4 ((k : Int) + 1))) 2 0 [(0, .ref (gA g 26)), (1, .int (iI (c)))] [] σ
  refine r_aload_n (pc := 0) C dX3_takes_0 rfl 0 rfl ?_
  refine r_getR3 (pc := 1) C 0 (k' := 27) rfl O_26 (by decide) rfl t_180 dX3_takes_1 ?_
  refine r_aload_n (pc := 4) C dX3_takes_4 rfl 0 rfl ?_
  refine r_getI3 (pc := 5) C 4 rfl O_26 (by decide) rfl t_184 dX3_takes_5 ?_
  refine r_top (show σ 26 4 = (k : Int) from h) ?_
  refine r_iald (pc := 8) C k A_27 (by omega) (by omega) dX3_takes_8 ?_
  refine r_iload_n (pc := 9) C dX3_takes_9 rfl 1 rfl ?_
  refine r_icmp_eq (pc := 10) C 15 ht hc dX3_takes_10 (by decide) (fun h10 => ?_) (fun h10 => ?_)
  · skip
    refine r_aload_n (pc := 15) C dX3_takes_15 rfl 0 rfl ?_
    refine r_dup (pc := 16) C rfl dX3_takes_16 ?_
    refine r_getI3 (pc := 17) C 4 rfl O_26 (by decide) rfl t_184 dX3_takes_17 ?_
    refine r_top (show σ 26 4 = (k : Int) from h) ?_
    refine r_iconst (pc := 20) C dX3_takes_20 ?_
    refine r_iadd (pc := 21) C dX3_takes_21 ?_
    refine r_put3 (pc := 22) C 4 rfl O_26 (by decide) rfl t_184 rfl (by decide +kernel) dX3_takes_22 ?_
    refine r_iconst (pc := 25) C dX3_takes_25 ?_
    exact r_retz (pc := 26) C (Or.inr rfl) rfl rfl dX3_takes_26
  · skip
    omega
set_option maxHeartbeats 4000000 in
set_option maxRecDepth 100000 in
theorem c_takes_n (g : Gt) (k : Nat) (hk : k ≤ 120) (c : Int) (hc : rng c) (σ : Sg) (h : σ 26 4 = (k : Int)) (ht : rng (σ 27 k)) (hx : ¬ σ 27 k = c) : Mt g yX3_takes cX3_takes 2 (some FieldType.boolean) 0 [.ref (gA g 26), .int (iI (c))] σ (pI 0 (σ)) := by
  refine mt_of (own := RX3) (by decide) rfl (Nat.le_of_ble_eq_true rfl) (fun E C => ?_)
  show J g E (pI 0 (σ)) 2 0 [(0, .ref (gA g 26)), (1, .int (iI (c)))] [] σ
  refine r_aload_n (pc := 0) C dX3_takes_0 rfl 0 rfl ?_
  refine r_getR3 (pc := 1) C 0 (k' := 27) rfl O_26 (by decide) rfl t_180 dX3_takes_1 ?_
  refine r_aload_n (pc := 4) C dX3_takes_4 rfl 0 rfl ?_
  refine r_getI3 (pc := 5) C 4 rfl O_26 (by decide) rfl t_184 dX3_takes_5 ?_
  refine r_top (show σ 26 4 = (k : Int) from h) ?_
  refine r_iald (pc := 8) C k A_27 (by omega) (by omega) dX3_takes_8 ?_
  refine r_iload_n (pc := 9) C dX3_takes_9 rfl 1 rfl ?_
  refine r_icmp_eq (pc := 10) C 15 ht hc dX3_takes_10 (by decide) (fun h10 => ?_) (fun h10 => ?_)
  · skip
    omega
  · skip
    refine r_iconst (pc := 13) C dX3_takes_13 ?_
    exact r_retz (pc := 14) C (Or.inl rfl) rfl rfl dX3_takes_14
set_option maxHeartbeats 4000000 in
set_option maxRecDepth 100000 in
theorem c_takeN_y (g : Gt) (k : Nat) (hk : k ≤ 120) (m : Int) (hm : rng m) (σ : Sg) (h : σ 26 4 = (k : Int)) (ht : rng (σ 27 k)) (hv : rng (σ 29 k)) (hx : σ 27 k = 2 ∧ σ 29 k ≤ m) : Mt g yX3_takeNumber cX3_takeNumber 3 (some FieldType.int) 0 [.ref (gA g 26), .int (iI (m))] σ (pI (σ 29 k) (wr σ 26 4 ((k : Int) + 1))) := by
  refine mt_of (own := RX3) (by decide) rfl (Nat.le_of_ble_eq_true rfl) (fun E C => ?_)
  show J g E (pI (σ 29 k) (wr σ 26 4 ((k : Int) + 1))) 3 0 [(0, .ref (gA g 26)), (1, .int (iI (m)))] [] σ
  refine r_aload_n (pc := 0) C dX3_takeNumber_0 rfl 0 rfl ?_
  refine r_getR3 (pc := 1) C 0 (k' := 27) rfl O_26 (by decide) rfl t_180 dX3_takeNumber_1 ?_
  refine r_aload_n (pc := 4) C dX3_takeNumber_4 rfl 0 rfl ?_
  refine r_getI3 (pc := 5) C 4 rfl O_26 (by decide) rfl t_184 dX3_takeNumber_5 ?_
  refine r_top (show σ 26 4 = (k : Int) from h) ?_
  refine r_iald (pc := 8) C k A_27 (by omega) (by omega) dX3_takeNumber_8 ?_
  refine r_iconst (pc := 9) C dX3_takeNumber_9 ?_
  refine r_icmp_ne (pc := 10) C 26 ht ⟨by omega, by omega⟩ dX3_takeNumber_10 (by decide) (fun h10 => ?_) (fun h10 => ?_)
  · skip
    omega
  · skip
    refine r_aload_n (pc := 13) C dX3_takeNumber_13 rfl 0 rfl ?_
    refine r_getR3 (pc := 14) C 2 (k' := 29) rfl O_26 (by decide) rfl t_182 dX3_takeNumber_14 ?_
    refine r_aload_n (pc := 17) C dX3_takeNumber_17 rfl 0 rfl ?_
    refine r_getI3 (pc := 18) C 4 rfl O_26 (by decide) rfl t_184 dX3_takeNumber_18 ?_
    refine r_top (show σ 26 4 = (k : Int) from h) ?_
    refine r_iald (pc := 21) C k A_29 (by omega) (by omega) dX3_takeNumber_21 ?_
    refine r_iload_n (pc := 22) C dX3_takeNumber_22 rfl 1 rfl ?_
    refine r_icmp_le (pc := 23) C 28 hv hm dX3_takeNumber_23 (by decide) (fun h23 => ?_) (fun h23 => ?_)
    · skip
      refine r_aload_n (pc := 28) C dX3_takeNumber_28 rfl 0 rfl ?_
      refine r_getR3 (pc := 29) C 2 (k' := 29) rfl O_26 (by decide) rfl t_182 dX3_takeNumber_29 ?_
      refine r_aload_n (pc := 32) C dX3_takeNumber_32 rfl 0 rfl ?_
      refine r_getI3 (pc := 33) C 4 rfl O_26 (by decide) rfl t_184 dX3_takeNumber_33 ?_
      refine r_top (show σ 26 4 = (k : Int) from h) ?_
      refine r_iald (pc := 36) C k A_29 (by omega) (by omega) dX3_takeNumber_36 ?_
      refine r_istore_n (pc := 37) C dX3_takeNumber_37 rfl (by decide) [1, 2, 0] (lv' := [(0, .ref (gA g 26)), (1, .int (iI (m))), (2, .int (iI (σ 29 k)))]) rfl ?_
      refine r_aload_n (pc := 38) C dX3_takeNumber_38 rfl 0 rfl ?_
      refine r_dup (pc := 39) C rfl dX3_takeNumber_39 ?_
      refine r_getI3 (pc := 40) C 4 rfl O_26 (by decide) rfl t_184 dX3_takeNumber_40 ?_
      refine r_top (show σ 26 4 = (k : Int) from h) ?_
      refine r_iconst (pc := 43) C dX3_takeNumber_43 ?_
      refine r_iadd (pc := 44) C dX3_takeNumber_44 ?_
      refine r_put3 (pc := 45) C 4 rfl O_26 (by decide) rfl t_184 rfl (by decide +kernel) dX3_takeNumber_45 ?_
      refine r_iload_n (pc := 48) C dX3_takeNumber_48 rfl 2 rfl ?_
      exact r_reti (pc := 49) C (rfl) (rfl) dX3_takeNumber_49
    · skip
      omega
set_option maxHeartbeats 4000000 in
set_option maxRecDepth 100000 in
theorem c_takeN_n (g : Gt) (k : Nat) (hk : k ≤ 120) (m : Int) (hm : rng m) (σ : Sg) (h : σ 26 4 = (k : Int)) (ht : rng (σ 27 k)) (hv : rng (σ 29 k)) (hx : ¬ (σ 27 k = 2 ∧ σ 29 k ≤ m)) : Mt g yX3_takeNumber cX3_takeNumber 3 (some FieldType.int) 0 [.ref (gA g 26), .int (iI (m))] σ (pI ((-1)) (σ)) := by
  refine mt_of (own := RX3) (by decide) rfl (Nat.le_of_ble_eq_true rfl) (fun E C => ?_)
  show J g E (pI ((-1)) (σ)) 3 0 [(0, .ref (gA g 26)), (1, .int (iI (m)))] [] σ
  refine r_aload_n (pc := 0) C dX3_takeNumber_0 rfl 0 rfl ?_
  refine r_getR3 (pc := 1) C 0 (k' := 27) rfl O_26 (by decide) rfl t_180 dX3_takeNumber_1 ?_
  refine r_aload_n (pc := 4) C dX3_takeNumber_4 rfl 0 rfl ?_
  refine r_getI3 (pc := 5) C 4 rfl O_26 (by decide) rfl t_184 dX3_takeNumber_5 ?_
  refine r_top (show σ 26 4 = (k : Int) from h) ?_
  refine r_iald (pc := 8) C k A_27 (by omega) (by omega) dX3_takeNumber_8 ?_
  refine r_iconst (pc := 9) C dX3_takeNumber_9 ?_
  refine r_icmp_ne (pc := 10) C 26 ht ⟨by omega, by omega⟩ dX3_takeNumber_10 (by decide) (fun h10 => ?_) (fun h10 => ?_)
  · skip
    refine r_iconst (pc := 26) C dX3_takeNumber_26 ?_
    exact r_reti (pc := 27) C (rfl) (rfl) dX3_takeNumber_27
  · skip
    refine r_aload_n (pc := 13) C dX3_takeNumber_13 rfl 0 rfl ?_
    refine r_getR3 (pc := 14) C 2 (k' := 29) rfl O_26 (by decide) rfl t_182 dX3_takeNumber_14 ?_
    refine r_aload_n (pc := 17) C dX3_takeNumber_17 rfl 0 rfl ?_
    refine r_getI3 (pc := 18) C 4 rfl O_26 (by decide) rfl t_184 dX3_takeNumber_18 ?_
    refine r_top (show σ 26 4 = (k : Int) from h) ?_
    refine r_iald (pc := 21) C k A_29 (by omega) (by omega) dX3_takeNumber_21 ?_
    refine r_iload_n (pc := 22) C dX3_takeNumber_22 rfl 1 rfl ?_
    refine r_icmp_le (pc := 23) C 28 hv hm dX3_takeNumber_23 (by decide) (fun h23 => ?_) (fun h23 => ?_)
    · skip
      refine r_aload_n (pc := 28) C dX3_takeNumber_28 rfl 0 rfl ?_
      refine r_getR3 (pc := 29) C 2 (k' := 29) rfl O_26 (by decide) rfl t_182 dX3_takeNumber_29 ?_
      refine r_aload_n (pc := 32) C dX3_takeNumber_32 rfl 0 rfl ?_
      refine r_getI3 (pc := 33) C 4 rfl O_26 (by decide) rfl t_184 dX3_takeNumber_33 ?_
      refine r_top (show σ 26 4 = (k : Int) from h) ?_
      refine r_iald (pc := 36) C k A_29 (by omega) (by omega) dX3_takeNumber_36 ?_
      refine r_istore_n (pc := 37) C dX3_takeNumber_37 rfl (by decide) [1, 2, 0] (lv' := [(0, .ref (gA g 26)), (1, .int (iI (m))), (2, .int (iI (σ 29 k)))]) rfl ?_
      refine r_aload_n (pc := 38) C dX3_takeNumber_38 rfl 0 rfl ?_
      refine r_dup (pc := 39) C rfl dX3_takeNumber_39 ?_
      refine r_getI3 (pc := 40) C 4 rfl O_26 (by decide) rfl t_184 dX3_takeNumber_40 ?_
      refine r_top (show σ 26 4 = (k : Int) from h) ?_
      refine r_iconst (pc := 43) C dX3_takeNumber_43 ?_
      refine r_iadd (pc := 44) C dX3_takeNumber_44 ?_
      refine r_put3 (pc := 45) C 4 rfl O_26 (by decide) rfl t_184 rfl (by decide +kernel) dX3_takeNumber_45 ?_
      refine r_iload_n (pc := 48) C dX3_takeNumber_48 rfl 2 rfl ?_
      omega
    · skip
      refine r_iconst (pc := 26) C dX3_takeNumber_26 ?_
      exact r_reti (pc := 27) C (rfl) (rfl) dX3_takeNumber_27
