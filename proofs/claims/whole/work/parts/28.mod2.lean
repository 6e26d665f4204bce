set_option maxHeartbeats 4000000 in
set_option maxRecDepth 100000 in
theorem c_m_holderOf (g : Gt) (f : Nat) (hf : f < 12) (ρ σ : Sg) (hS : σ 42 = mkS ρ) (hn : 0 ≤ ρ 0 7 ∧ ρ 0 7 ≤ 8) (hM : rgM (ρ 6)) : Mt g yX5_holderOf cX5_holderOf 6 (some FieldType.int) 1 [.ref (gA g 41), .int (iI ((f : Int)))] σ (pI (holder (ρ 0 7) (ρ 6) f) σ) := by
  refine mt_of (own := RX5) (by decide) rfl (Nat.le_of_ble_eq_true rfl) (fun E C => ?_)
  show J g E (pI (holder (ρ 0 7) (ρ 6) f) σ) 6 0 [(0, .ref (gA g 41)), (1, .int (iI ((f : Int))))] [] σ
  refine r_iconst (pc := 0) C dX5_holderOf_0 ?_
  refine r_istore_n (pc := 1) C dX5_holderOf_1 rfl (by decide) [1, 2, 0] (lv' := [(0, .ref (gA g 41)), (1, .int (iI ((f : Int)))), (2, .int (iI ((-1))))]) rfl ?_
  refine r_iconst (pc := 2) C dX5_holderOf_2 ?_
  refine r_istore_n (pc := 3) C dX5_holderOf_3 rfl (by decide) [1, 2, 3, 0] (lv' := [(0, .ref (gA g 41)), (1, .int (iI ((f : Int)))), (2, .int (iI ((-1)))), (3, .int (iI (0)))]) rfl ?_
  refine r_iconst (pc := 4) C dX5_holderOf_4 ?_
  refine r_istore (pc := 5) C dX5_holderOf_5 (by decide) [1, 2, 3, 4, 0] (lv' := [(0, .ref (gA g 41)), (1, .int (iI ((f : Int)))), (2, .int (iI ((-1)))), (3, .int (iI (0))), (4, .int (iI (0)))]) rfl ?_
  have L7 : ∀ (n_ : Nat) (i : Nat) (x7_2 x7_3 x7_4 : Int), (ρ 0 7).toNat - i < n_ → ((i : Int) ≤ ρ 0 7) → x7_2 = (hold (ρ 6) f i).1 → x7_3 = (hold (ρ 6) f i).2 → x7_4 = (i : Int) → J g E (pI (holder (ρ 0 7) (ρ 6) f) σ) 6 7 [(0, .ref (gA g 41)), (1, .int (iI ((f : Int)))), (2, .int (iI (x7_2))), (3, .int (iI (x7_3))), (4, .int (iI (x7_4)))] [] σ := by
    intro n_
    induction n_ with
    | zero => intro i x7_2 x7_3 x7_4  hm_; exact absurd hm_ (Nat.not_lt_zero _)
    | succ n_ ih7 =>
      intro i x7_2 x7_3 x7_4  hm7 hi7_0 e7_0 e7_1 e7_2 
      subst e7_0 e7_1 e7_2 
      have hb := hold_most hM hf i (by omega)
      have hc := hold_rng (ρ 6) f i
      refine r_iload (pc := 7) C dX5_holderOf_7 4 rfl ?_
      refine r_aload_n (pc := 9) C dX5_holderOf_9 rfl 0 rfl ?_
      refine r_getR5 (pc := 10) C 0 (k' := 42) rfl O_41 (by decide) rfl t_780 dX5_holderOf_10 ?_
      refine r_iconst (pc := 13) C dX5_holderOf_13 ?_
      refine r_iald (pc := 14) C 1 A_42 (by omega) (by omega) dX5_holderOf_14 ?_
      refine r_top (show _ = ρ 0 7 from (congrFun hS _).trans (mkS_at rfl)) ?_
      refine r_icmp_ge (pc := 15) C 63 ⟨by omega, by omega⟩ ⟨by omega, by omega⟩ dX5_holderOf_15 (by decide) (fun h15 => ?_) (fun h15 => ?_)
      · skip
        refine r_iload_n (pc := 63) C dX5_holderOf_63 rfl 2 rfl ?_
        exact r_reti (pc := 64) C (by rw [show i = (ρ 0 7).toNat by omega]; rfl) (rfl) dX5_holderOf_64
      · skip
        refine r_aload_n (pc := 18) C dX5_holderOf_18 rfl 0 rfl ?_
        refine r_getR5 (pc := 19) C 0 (k' := 42) rfl O_41 (by decide) rfl t_780 dX5_holderOf_19 ?_
        refine r_iload (pc := 22) C dX5_holderOf_22 4 rfl ?_
        refine r_iload_n (pc := 24) C dX5_holderOf_24 rfl 1 rfl ?_
        refine r_cSi (pc := 25) C (c_markAt g (i : Int) (f : Int) σ) yX5_markAt_w rfl t_868 ⟨by decide, by decide⟩ (Nat.le_of_ble_eq_true rfl) rfl dX5_holderOf_25 ?_
        refine r_iald (pc := 28) C (41 + (12 * i + f)) A_42 (by omega) (by omega) dX5_holderOf_28 ?_
        refine r_top (show _ = ρ 6 (12 * i + f) from (congrFun hS _).trans (mkS_at (cidx_M (by omega)))) ?_
        have hm := hM (12 * i + f) (by omega)
        refine r_istore (pc := 29) C dX5_holderOf_29 (by decide) [1, 2, 3, 4, 5, 0] (lv' := [(0, .ref (gA g 41)), (1, .int (iI ((f : Int)))), (2, .int (iI ((hold (ρ 6) f i).1))), (3, .int (iI ((hold (ρ 6) f i).2))), (4, .int (iI ((i : Int)))), (5, .int (iI (ρ 6 (12 * i + f))))]) rfl ?_
        refine r_iload (pc := 31) C dX5_holderOf_31 5 rfl ?_
        refine r_iload_n (pc := 33) C dX5_holderOf_33 rfl 3 rfl ?_
        refine r_icmp_le (pc := 34) C 42 ⟨by omega, by omega⟩ ⟨by omega, by omega⟩ dX5_holderOf_34 (by decide) (fun h34 => ?_) (fun h34 => ?_)
        · skip
          refine r_iload_n (pc := 42) C dX5_holderOf_42 rfl 2 rfl ?_
          refine r_istore_n (pc := 43) C dX5_holderOf_43 rfl (by decide) [1, 2, 0, 3, 4, 5] (lv' := [(0, .ref (gA g 41)), (1, .int (iI ((f : Int)))), (2, .int (iI ((hold (ρ 6) f i).1))), (3, .int (iI ((hold (ρ 6) f i).2))), (4, .int (iI ((i : Int)))), (5, .int (iI (ρ 6 (12 * i + f))))]) rfl ?_
          refine r_iload (pc := 44) C dX5_holderOf_44 5 rfl ?_
          refine r_iload_n (pc := 46) C dX5_holderOf_46 rfl 3 rfl ?_
          refine r_icmp_le (pc := 47) C 55 ⟨by omega, by omega⟩ ⟨by omega, by omega⟩ dX5_holderOf_47 (by decide) (fun h47 => ?_) (fun h47 => ?_)
          · skip
            refine r_iload_n (pc := 55) C dX5_holderOf_55 rfl 3 rfl ?_
            refine r_istore_n (pc := 56) C dX5_holderOf_56 rfl (by decide) [1, 2, 3, 0, 4, 5] (lv' := [(0, .ref (gA g 41)), (1, .int (iI ((f : Int)))), (2, .int (iI ((hold (ρ 6) f i).1))), (3, .int (iI ((hold (ρ 6) f i).2))), (4, .int (iI ((i : Int)))), (5, .int (iI (ρ 6 (12 * i + f))))]) rfl ?_
            refine r_iinc (pc := 57) C dX5_holderOf_57 4 rfl (by decide) [1, 2, 3, 4, 0, 5] (lv' := [(0, .ref (gA g 41)), (1, .int (iI ((f : Int)))), (2, .int (iI ((hold (ρ 6) f i).1))), (3, .int (iI ((hold (ρ 6) f i).2))), (4, .int (iI ((i : Int) + 1))), (5, .int (iI (ρ 6 (12 * i + f))))]) rfl ?_
            refine r_goto (pc := 60) C 7 dX5_holderOf_60 (by decide) ?_
            refine r_lv [0, 1, 2, 3, 4] (lv' := [(0, .ref (gA g 41)), (1, .int (iI ((f : Int)))), (2, .int (iI ((hold (ρ 6) f i).1))), (3, .int (iI ((hold (ρ 6) f i).2))), (4, .int (iI ((i : Int) + 1)))]) rfl ?_
            exact ih7 (i + 1) _ _ _ (by omega) (by omega) (by first | (exfalso; omega) | rw [hold, if_pos (by omega)] | rw [hold, if_neg (by omega)]) (by first | (exfalso; omega) | rw [hold, if_pos (by omega)] | rw [hold, if_neg (by omega)]) (by omega)
          · skip
            refine r_iload (pc := 50) C dX5_holderOf_50 5 rfl ?_
            refine r_goto (pc := 52) C 56 dX5_holderOf_52 (by decide) ?_
            refine r_istore_n (pc := 56) C dX5_holderOf_56 rfl (by decide) [1, 2, 3, 0, 4, 5] (lv' := [(0, .ref (gA g 41)), (1, .int (iI ((f : Int)))), (2, .int (iI ((hold (ρ 6) f i).1))), (3, .int (iI (ρ 6 (12 * i + f)))), (4, .int (iI ((i : Int)))), (5, .int (iI (ρ 6 (12 * i + f))))]) rfl ?_
            refine r_iinc (pc := 57) C dX5_holderOf_57 4 rfl (by decide) [1, 2, 3, 4, 0, 5] (lv' := [(0, .ref (gA g 41)), (1, .int (iI ((f : Int)))), (2, .int (iI ((hold (ρ 6) f i).1))), (3, .int (iI (ρ 6 (12 * i + f)))), (4, .int (iI ((i : Int) + 1))), (5, .int (iI (ρ 6 (12 * i + f))))]) rfl ?_
            refine r_goto (pc := 60) C 7 dX5_holderOf_60 (by decide) ?_
            refine r_lv [0, 1, 2, 3, 4] (lv' := [(0, .ref (gA g 41)), (1, .int (iI ((f : Int)))), (2, .int (iI ((hold (ρ 6) f i).1))), (3, .int (iI (ρ 6 (12 * i + f)))), (4, .int (iI ((i : Int) + 1)))]) rfl ?_
            exact ih7 (i + 1) _ _ _ (by omega) (by omega) (by first | (exfalso; omega) | rw [hold, if_pos (by omega)] | rw [hold, if_neg (by omega)]) (by first | (exfalso; omega) | rw [hold, if_pos (by omega)] | rw [hold, if_neg (by omega)]) (by omega)
        · skip
          refine r_iload (pc := 37) C dX5_holderOf_37 4 rfl ?_
          refine r_goto (pc := 39) C 43 dX5_holderOf_39 (by decide) ?_
          refine r_istore_n (pc := 43) C dX5_holderOf_43 rfl (by decide) [1, 2, 0, 3, 4, 5] (lv' := [(0, .ref (gA g 41)), (1, .int (iI ((f : Int)))), (2, .int (iI ((i : Int)))), (3, .int (iI ((hold (ρ 6) f i).2))), (4, .int (iI ((i : Int)))), (5, .int (iI (ρ 6 (12 * i + f))))]) rfl ?_
          refine r_iload (pc := 44) C dX5_holderOf_44 5 rfl ?_
          refine r_iload_n (pc := 46) C dX5_holderOf_46 rfl 3 rfl ?_
          refine r_icmp_le (pc := 47) C 55 ⟨by omega, by omega⟩ ⟨by omega, by omega⟩ dX5_holderOf_47 (by decide) (fun h47 => ?_) (fun h47 => ?_)
          · skip
            refine r_iload_n (pc := 55) C dX5_holderOf_55 rfl 3 rfl ?_
            refine r_istore_n (pc := 56) C dX5_holderOf_56 rfl (by decide) [1, 2, 3, 0, 4, 5] (lv' := [(0, .ref (gA g 41)), (1, .int (iI ((f : Int)))), (2, .int (iI ((i : Int)))), (3, .int (iI ((hold (ρ 6) f i).2))), (4, .int (iI ((i : Int)))), (5, .int (iI (ρ 6 (12 * i + f))))]) rfl ?_
            refine r_iinc (pc := 57) C dX5_holderOf_57 4 rfl (by decide) [1, 2, 3, 4, 0, 5] (lv' := [(0, .ref (gA g 41)), (1, .int (iI ((f : Int)))), (2, .int (iI ((i : Int)))), (3, .int (iI ((hold (ρ 6) f i).2))), (4, .int (iI ((i : Int) + 1))), (5, .int (iI (ρ 6 (12 * i + f))))]) rfl ?_
            refine r_goto (pc := 60) C 7 dX5_holderOf_60 (by decide) ?_
            refine r_lv [0, 1, 2, 3, 4] (lv' := [(0, .ref (gA g 41)), (1, .int (iI ((f : Int)))), (2, .int (iI ((i : Int)))), (3, .int (iI ((hold (ρ 6) f i).2))), (4, .int (iI ((i : Int) + 1)))]) rfl ?_
            exact ih7 (i + 1) _ _ _ (by omega) (by omega) (by first | (exfalso; omega) | rw [hold, if_pos (by omega)] | rw [hold, if_neg (by omega)]) (by first | (exfalso; omega) | rw [hold, if_pos (by omega)] | rw [hold, if_neg (by omega)]) (by omega)
          · skip
            refine r_iload (pc := 50) C dX5_holderOf_50 5 rfl ?_
            refine r_goto (pc := 52) C 56 dX5_holderOf_52 (by decide) ?_
            refine r_istore_n (pc := 56) C dX5_holderOf_56 rfl (by decide) [1, 2, 3, 0, 4, 5] (lv' := [(0, .ref (gA g 41)), (1, .int (iI ((f : Int)))), (2, .int (iI ((i : Int)))), (3, .int (iI (ρ 6 (12 * i + f)))), (4, .int (iI ((i : Int)))), (5, .int (iI (ρ 6 (12 * i + f))))]) rfl ?_
            refine r_iinc (pc := 57) C dX5_holderOf_57 4 rfl (by decide) [1, 2, 3, 4, 0, 5] (lv' := [(0, .ref (gA g 41)), (1, .int (iI ((f : Int)))), (2, .int (iI ((i : Int)))), (3, .int (iI (ρ 6 (12 * i + f)))), (4, .int (iI ((i : Int) + 1))), (5, .int (iI (ρ 6 (12 * i + f))))]) rfl ?_
            refine r_goto (pc := 60) C 7 dX5_holderOf_60 (by decide) ?_
            refine r_lv [0, 1, 2, 3, 4] (lv' := [(0, .ref (gA g 41)), (1, .int (iI ((f : Int)))), (2, .int (iI ((i : Int)))), (3, .int (iI (ρ 6 (12 * i + f)))), (4, .int (iI ((i : Int) + 1)))]) rfl ?_
            exact ih7 (i + 1) _ _ _ (by omega) (by omega) (by first | (exfalso; omega) | rw [hold, if_pos (by omega)] | rw [hold, if_neg (by omega)]) (by first | (exfalso; omega) | rw [hold, if_pos (by omega)] | rw [hold, if_neg (by omega)]) (by omega)
  exact L7 _ 0 _ _ _ (Nat.lt_succ_self _) (by omega) (rfl) (rfl) (rfl)
set_option maxHeartbeats 4000000 in
set_option maxRecDepth 100000 in
theorem c_thoseAt (g : Gt) (f : Nat) (hf : f < 12) (ρ σ : Sg) (hS : σ 42 = mkS ρ) (hn : 0 ≤ ρ 0 7 ∧ ρ 0 7 ≤ 8) (hA : rgA (ρ 4)) : Mt g yX5_thoseAt cX5_thoseAt 4 (some FieldType.int) 2 [.ref (gA g 41), .int (iI ((f : Int)))] σ (pI (setF (fun t => decide (ρ 4 t = (f : Int))) (ρ 0 7).toNat) σ) := by
  refine mt_of (own := RX5) (by decide) rfl (Nat.le_of_ble_eq_true rfl) (fun E C => ?_)
  show J g E (pI (setF (fun t => decide (ρ 4 t = (f : Int))) (ρ 0 7).toNat) σ) 4 0 [(0, .ref (gA g 41)), (1, .int (iI ((f : Int))))] [] σ
  refine r_iconst (pc := 0) C dX5_thoseAt_0 ?_
  refine r_istore_n (pc := 1) C dX5_thoseAt_1 rfl (by decide) [1, 2, 0] (lv' := [(0, .ref (gA g 41)), (1, .int (iI ((f : Int)))), (2, .int (iI (0)))]) rfl ?_
  refine r_iconst (pc := 2) C dX5_thoseAt_2 ?_
  refine r_istore_n (pc := 3) C dX5_thoseAt_3 rfl (by decide) [1, 2, 3, 0] (lv' := [(0, .ref (gA g 41)), (1, .int (iI ((f : Int)))), (2, .int (iI (0))), (3, .int (iI (0)))]) rfl ?_
  have L4 : ∀ (n_ : Nat) (i : Nat) (x4_2 x4_3 : Int), (ρ 0 7).toNat - i < n_ → ((i : Int) ≤ ρ 0 7) → x4_2 = setF (fun t => decide (ρ 4 t = (f : Int))) i → x4_3 = (i : Int) → J g E (pI (setF (fun t => decide (ρ 4 t = (f : Int))) (ρ 0 7).toNat) σ) 4 4 [(0, .ref (gA g 41)), (1, .int (iI ((f : Int)))), (2, .int (iI (x4_2))), (3, .int (iI (x4_3)))] [] σ := by
    intro n_
    induction n_ with
    | zero => intro i x4_2 x4_3  hm_; exact absurd hm_ (Nat.not_lt_zero _)
    | succ n_ ih4 =>
      intro i x4_2 x4_3  hm4 hi4_0 e4_0 e4_1 
      subst e4_0 e4_1 
      refine r_iload_n (pc := 4) C dX5_thoseAt_4 rfl 3 rfl ?_
      refine r_aload_n (pc := 5) C dX5_thoseAt_5 rfl 0 rfl ?_
      refine r_getR5 (pc := 6) C 0 (k' := 42) rfl O_41 (by decide) rfl t_780 dX5_thoseAt_6 ?_
      refine r_iconst (pc := 9) C dX5_thoseAt_9 ?_
      refine r_iald (pc := 10) C 1 A_42 (by omega) (by omega) dX5_thoseAt_10 ?_
      refine r_top (show _ = ρ 0 7 from (congrFun hS _).trans (mkS_at rfl)) ?_
      refine r_icmp_ge (pc := 11) C 40 ⟨by omega, by omega⟩ ⟨by omega, by omega⟩ dX5_thoseAt_11 (by decide) (fun h11 => ?_) (fun h11 => ?_)
      · skip
        refine r_iload_n (pc := 40) C dX5_thoseAt_40 rfl 2 rfl ?_
        exact r_reti (pc := 41) C (by rw [show i = (ρ 0 7).toNat by omega]) (rfl) dX5_thoseAt_41
      · skip
        refine r_iload_n (pc := 14) C dX5_thoseAt_14 rfl 2 rfl ?_
        refine r_aload_n (pc := 15) C dX5_thoseAt_15 rfl 0 rfl ?_
        refine r_iload_n (pc := 16) C dX5_thoseAt_16 rfl 3 rfl ?_
        refine r_iconst (pc := 17) C dX5_thoseAt_17 ?_
        refine r_cVi (pc := 18) C (c_its_1 g i (by omega) ρ σ hS) yX5_its_w O_41 rfl rfl t_875 ⟨by decide, by decide⟩ (Nat.le_of_ble_eq_true rfl) rfl dX5_thoseAt_18 ?_
        have ha := hA i (by omega)
        refine r_iload_n (pc := 21) C dX5_thoseAt_21 rfl 1 rfl ?_
        refine r_icmp_ne (pc := 22) C 31 ⟨by omega, by omega⟩ ⟨by omega, by omega⟩ dX5_thoseAt_22 (by decide) (fun h22 => ?_) (fun h22 => ?_)
        · skip
          refine r_iconst (pc := 31) C dX5_thoseAt_31 ?_
          refine r_ior (pc := 32) C dX5_thoseAt_32 ?_
          refine r_istore_n (pc := 33) C dX5_thoseAt_33 rfl (by decide) [1, 2, 0, 3] (lv' := [(0, .ref (gA g 41)), (1, .int (iI ((f : Int)))), (2, .int (iI (bor (setF (fun t => decide (ρ 4 t = (f : Int))) i) 0))), (3, .int (iI ((i : Int))))]) rfl ?_
          refine r_iinc (pc := 34) C dX5_thoseAt_34 3 rfl (by decide) [1, 2, 3, 0] (lv' := [(0, .ref (gA g 41)), (1, .int (iI ((f : Int)))), (2, .int (iI (bor (setF (fun t => decide (ρ 4 t = (f : Int))) i) 0))), (3, .int (iI ((i : Int) + 1)))]) rfl ?_
          refine r_goto (pc := 37) C 4 dX5_thoseAt_37 (by decide) ?_
          exact ih4 (i + 1) _ _ (by omega) (by omega) (by first | rw [setF, if_pos (by simp; omega)] | (rw [setF, if_neg (by simp; omega)]; exact bor_0 (setF_rng _ _))) (by omega)
        · skip
          refine r_iconst (pc := 25) C dX5_thoseAt_25 ?_
          refine r_iload_n (pc := 26) C dX5_thoseAt_26 rfl 3 rfl ?_
          refine r_ishl (pc := 27) C dX5_thoseAt_27 ?_
          refine r_goto (pc := 28) C 32 dX5_thoseAt_28 (by decide) ?_
          refine r_ior (pc := 32) C dX5_thoseAt_32 ?_
          refine r_istore_n (pc := 33) C dX5_thoseAt_33 rfl (by decide) [1, 2, 0, 3] (lv' := [(0, .ref (gA g 41)), (1, .int (iI ((f : Int)))), (2, .int (iI (bor (setF (fun t => decide (ρ 4 t = (f : Int))) i) (bshl 1 (i : Int))))), (3, .int (iI ((i : Int))))]) rfl ?_
          refine r_iinc (pc := 34) C dX5_thoseAt_34 3 rfl (by decide) [1, 2, 3, 0] (lv' := [(0, .ref (gA g 41)), (1, .int (iI ((f : Int)))), (2, .int (iI (bor (setF (fun t => decide (ρ 4 t = (f : Int))) i) (bshl 1 (i : Int))))), (3, .int (iI ((i : Int) + 1)))]) rfl ?_
          refine r_goto (pc := 37) C 4 dX5_thoseAt_37 (by decide) ?_
          exact ih4 (i + 1) _ _ (by omega) (by omega) (by first | rw [setF, if_pos (by simp; omega)] | (rw [setF, if_neg (by simp; omega)]; exact bor_0 (setF_rng _ _))) (by omega)
  exact L4 _ 0 _ _ (Nat.lt_succ_self _) (by omega) (rfl) (rfl)
set_option maxHeartbeats 4000000 in
set_option maxRecDepth 100000 in
theorem c_m_heldBy (g : Gt) (t : Int) (ht : rng t) (ρ σ : Sg) (hS : σ 42 = mkS ρ) (hn : 0 ≤ ρ 0 7 ∧ ρ 0 7 ≤ 8) (hM : rgM (ρ 6)) : Mt g yX5_heldBy cX5_heldBy 4 (some FieldType.int) 2 [.ref (gA g 41), .int (iI (t))] σ (pI (setF (fun f => decide (holder (ρ 0 7) (ρ 6) f = t)) 12) σ) := by
  refine mt_of (own := RX5) (by decide) rfl (Nat.le_of_ble_eq_true rfl) (fun E C => ?_)
  show J g E (pI (setF (fun f => decide (holder (ρ 0 7) (ρ 6) f = t)) 12) σ) 4 0 [(0, .ref (gA g 41)), (1, .int (iI (t)))] [] σ
  refine r_iconst (pc := 0) C dX5_heldBy_0 ?_
  refine r_istore_n (pc := 1) C dX5_heldBy_1 rfl (by decide) [1, 2, 0] (lv' := [(0, .ref (gA g 41)), (1, .int (iI (t))), (2, .int (iI (0)))]) rfl ?_
  refine r_iconst (pc := 2) C dX5_heldBy_2 ?_
  refine r_istore_n (pc := 3) C dX5_heldBy_3 rfl (by decide) [1, 2, 3, 0] (lv' := [(0, .ref (gA g 41)), (1, .int (iI (t))), (2, .int (iI (0))), (3, .int (iI (0)))]) rfl ?_
  have L4 : ∀ (n_ : Nat) (i : Nat) (x4_2 x4_3 : Int), 12 - i < n_ → (i ≤ 12) → x4_2 = setF (fun f => decide (holder (ρ 0 7) (ρ 6) f = t)) i → x4_3 = (i : Int) → J g E (pI (setF (fun f => decide (holder (ρ 0 7) (ρ 6) f = t)) 12) σ) 4 4 [(0, .ref (gA g 41)), (1, .int (iI (t))), (2, .int (iI (x4_2))), (3, .int (iI (x4_3)))] [] σ := by
    intro n_
    induction n_ with
    | zero => intro i x4_2 x4_3  hm_; exact absurd hm_ (Nat.not_lt_zero _)
    | succ n_ ih4 =>
      intro i x4_2 x4_3  hm4 hi4_0 e4_0 e4_1 
      subst e4_0 e4_1 
      have hh := holder_rng (ρ 0 7) (ρ 6) i hn.1
      refine r_iload_n (pc := 4) C dX5_heldBy_4 rfl 3 rfl ?_
      refine r_bipush (pc := 5) C dX5_heldBy_5 (by decide) ?_
      refine r_icmp_ge (pc := 7) C 35 ⟨by omega, by omega⟩ ⟨by omega, by omega⟩ dX5_heldBy_7 (by decide) (fun h7 => ?_) (fun h7 => ?_)
      · skip
        refine r_iload_n (pc := 35) C dX5_heldBy_35 rfl 2 rfl ?_
        exact r_reti (pc := 36) C (by rw [show i = 12 by omega]) (rfl) dX5_heldBy_36
      · skip
        refine r_iload_n (pc := 10) C dX5_heldBy_10 rfl 2 rfl ?_
        refine r_aload_n (pc := 11) C dX5_heldBy_11 rfl 0 rfl ?_
        refine r_iload_n (pc := 12) C dX5_heldBy_12 rfl 3 rfl ?_
        refine r_cVi (pc := 13) C (c_m_holderOf g i (by omega) ρ σ hS hn hM) yX5_holderOf_w O_41 rfl rfl t_864 ⟨by decide, by decide⟩ (Nat.le_of_ble_eq_true rfl) rfl dX5_heldBy_13 ?_
        refine r_iload_n (pc := 16) C dX5_heldBy_16 rfl 1 rfl ?_
        refine r_icmp_ne (pc := 17) C 26 ⟨by omega, by omega⟩ ht dX5_heldBy_17 (by decide) (fun h17 => ?_) (fun h17 => ?_)
        · skip
          refine r_iconst (pc := 26) C dX5_heldBy_26 ?_
          refine r_ior (pc := 27) C dX5_heldBy_27 ?_
          refine r_istore_n (pc := 28) C dX5_heldBy_28 rfl (by decide) [1, 2, 0, 3] (lv' := [(0, .ref (gA g 41)), (1, .int (iI (t))), (2, .int (iI (bor (setF (fun f => decide (holder (ρ 0 7) (ρ 6) f = t)) i) 0))), (3, .int (iI ((i : Int))))]) rfl ?_
          refine r_iinc (pc := 29) C dX5_heldBy_29 3 rfl (by decide) [1, 2, 3, 0] (lv' := [(0, .ref (gA g 41)), (1, .int (iI (t))), (2, .int (iI (bor (setF (fun f => decide (holder (ρ 0 7) (ρ 6) f = t)) i) 0))), (3, .int (iI ((i : Int) + 1)))]) rfl ?_
          refine r_goto (pc := 32) C 4 dX5_heldBy_32 (by decide) ?_
          exact ih4 (i + 1) _ _ (by omega) (by omega) (by first | rw [setF, if_pos (by simp; omega)] | (rw [setF, if_neg (by simp; omega)]; exact bor_0 (setF_rng _ _))) (by omega)
        · skip
          refine r_iconst (pc := 20) C dX5_heldBy_20 ?_
          refine r_iload_n (pc := 21) C dX5_heldBy_21 rfl 3 rfl ?_
          refine r_ishl (pc := 22) C dX5_heldBy_22 ?_
          refine r_goto (pc := 23) C 27 dX5_heldBy_23 (by decide) ?_
          refine r_ior (pc := 27) C dX5_heldBy_27 ?_
          refine r_istore_n (pc := 28) C dX5_heldBy_28 rfl (by decide) [1, 2, 0, 3] (lv' := [(0, .ref (gA g 41)), (1, .int (iI (t))), (2, .int (iI (bor (setF (fun f => decide (holder (ρ 0 7) (ρ 6) f = t)) i) (bshl 1 (i : Int))))), (3, .int (iI ((i : Int))))]) rfl ?_
          refine r_iinc (pc := 29) C dX5_heldBy_29 3 rfl (by decide) [1, 2, 3, 0] (lv' := [(0, .ref (gA g 41)), (1, .int (iI (t))), (2, .int (iI (bor (setF (fun f => decide (holder (ρ 0 7) (ρ 6) f = t)) i) (bshl 1 (i : Int))))), (3, .int (iI ((i : Int) + 1)))]) rfl ?_
          refine r_goto (pc := 32) C 4 dX5_heldBy_32 (by decide) ?_
          exact ih4 (i + 1) _ _ (by omega) (by omega) (by first | rw [setF, if_pos (by simp; omega)] | (rw [setF, if_neg (by simp; omega)]; exact bor_0 (setF_rng _ _))) (by omega)
  exact L4 _ 0 _ _ (Nat.lt_succ_self _) (by omega) (rfl) (rfl)
set_option maxHeartbeats 4000000 in
set_option maxRecDepth 100000 in
theorem c_m_marksOf (g : Gt) (t : Nat) (ht : t < 8) (ρ σ : Sg) (hS : σ 42 = mkS ρ) : Mt g yX5_marksOf cX5_marksOf 4 (some FieldType.int) 1 [.ref (gA g 41), .int (iI ((t : Int)))] σ (pI (sumF (fun f => ρ 6 (12 * t + f)) 12) σ) := by
  refine mt_of (own := RX5) (by decide) rfl (Nat.le_of_ble_eq_true rfl) (fun E C => ?_)
  show J g E (pI (sumF (fun f => ρ 6 (12 * t + f)) 12) σ) 4 0 [(0, .ref (gA g 41)), (1, .int (iI ((t : Int))))] [] σ
  refine r_iconst (pc := 0) C dX5_marksOf_0 ?_
  refine r_istore_n (pc := 1) C dX5_marksOf_1 rfl (by decide) [1, 2, 0] (lv' := [(0, .ref (gA g 41)), (1, .int (iI ((t : Int)))), (2, .int (iI (0)))]) rfl ?_
  refine r_iconst (pc := 2) C dX5_marksOf_2 ?_
  refine r_istore_n (pc := 3) C dX5_marksOf_3 rfl (by decide) [1, 2, 3, 0] (lv' := [(0, .ref (gA g 41)), (1, .int (iI ((t : Int)))), (2, .int (iI (0))), (3, .int (iI (0)))]) rfl ?_
  have L4 : ∀ (n_ : Nat) (i : Nat) (x4_2 x4_3 : Int), 12 - i < n_ → (i ≤ 12) → x4_2 = sumF (fun f => ρ 6 (12 * t + f)) i → x4_3 = (i : Int) → J g E (pI (sumF (fun f => ρ 6 (12 * t + f)) 12) σ) 4 4 [(0, .ref (gA g 41)), (1, .int (iI ((t : Int)))), (2, .int (iI (x4_2))), (3, .int (iI (x4_3)))] [] σ := by
    intro n_
    induction n_ with
    | zero => intro i x4_2 x4_3  hm_; exact absurd hm_ (Nat.not_lt_zero _)
    | succ n_ ih4 =>
      intro i x4_2 x4_3  hm4 hi4_0 e4_0 e4_1 
      subst e4_0 e4_1 
      refine r_iload_n (pc := 4) C dX5_marksOf_4 rfl 3 rfl ?_
      refine r_bipush (pc := 5) C dX5_marksOf_5 (by decide) ?_
      refine r_icmp_ge (pc := 7) C 29 ⟨by omega, by omega⟩ ⟨by omega, by omega⟩ dX5_marksOf_7 (by decide) (fun h7 => ?_) (fun h7 => ?_)
      · skip
        refine r_iload_n (pc := 29) C dX5_marksOf_29 rfl 2 rfl ?_
        exact r_reti (pc := 30) C (by rw [show i = 12 by omega]) (rfl) dX5_marksOf_30
      · skip
        refine r_iload_n (pc := 10) C dX5_marksOf_10 rfl 2 rfl ?_
        refine r_aload_n (pc := 11) C dX5_marksOf_11 rfl 0 rfl ?_
        refine r_getR5 (pc := 12) C 0 (k' := 42) rfl O_41 (by decide) rfl t_780 dX5_marksOf_12 ?_
        refine r_iload_n (pc := 15) C dX5_marksOf_15 rfl 1 rfl ?_
        refine r_iload_n (pc := 16) C dX5_marksOf_16 rfl 3 rfl ?_
        refine r_cSi (pc := 17) C (c_markAt g (t : Int) (i : Int) σ) yX5_markAt_w rfl t_868 ⟨by decide, by decide⟩ (Nat.le_of_ble_eq_true rfl) rfl dX5_marksOf_17 ?_
        refine r_iald (pc := 20) C (41 + (12 * t + i)) A_42 (by omega) (by omega) dX5_marksOf_20 ?_
        refine r_top (show _ = ρ 6 (12 * t + i) from (congrFun hS _).trans (mkS_at (cidx_M (by omega)))) ?_
        refine r_iadd (pc := 21) C dX5_marksOf_21 ?_
        refine r_istore_n (pc := 22) C dX5_marksOf_22 rfl (by decide) [1, 2, 0, 3] (lv' := [(0, .ref (gA g 41)), (1, .int (iI ((t : Int)))), (2, .int (iI ((sumF (fun f => ρ 6 (12 * t + f)) i) + (ρ 6 (12 * t + i))))), (3, .int (iI ((i : Int))))]) rfl ?_
        refine r_iinc (pc := 23) C dX5_marksOf_23 3 rfl (by decide) [1, 2, 3, 0] (lv' := [(0, .ref (gA g 41)), (1, .int (iI ((t : Int)))), (2, .int (iI ((sumF (fun f => ρ 6 (12 * t + f)) i) + (ρ 6 (12 * t + i))))), (3, .int (iI ((i : Int) + 1)))]) rfl ?_
        refine r_goto (pc := 26) C 4 dX5_marksOf_26 (by decide) ?_
        exact ih4 (i + 1) _ _ (by omega) (by omega) (rfl) (by omega)
  exact L4 _ 0 _ _ (Nat.lt_succ_self _) (by omega) (rfl) (rfl)
set_option maxHeartbeats 4000000 in
set_option maxRecDepth 100000 in
theorem c_heldOnes (g : Gt) (ρ σ : Sg) (hS : σ 42 = mkS ρ) (hn : 0 ≤ ρ 0 7 ∧ ρ 0 7 ≤ 8) (hM : rgM (ρ 6)) : Mt g yX5_heldOnes cX5_heldOnes 3 (some FieldType.int) 2 [.ref (gA g 41)] σ (pI (setF (fun f => decide (0 ≤ holder (ρ 0 7) (ρ 6) f)) 12) σ) := by
  refine mt_of (own := RX5) (by decide) rfl (Nat.le_of_ble_eq_true rfl) (fun E C => ?_)
  show J g E (pI (setF (fun f => decide (0 ≤ holder (ρ 0 7) (ρ 6) f)) 12) σ) 3 0 [(0, .ref (gA g 41))] [] σ
  refine r_iconst (pc := 0) C dX5_heldOnes_0 ?_
  refine r_istore_n (pc := 1) C dX5_heldOnes_1 rfl (by decide) [1, 0] (lv' := [(0, .ref (gA g 41)), (1, .int (iI (0)))]) rfl ?_
  refine r_iconst (pc := 2) C dX5_heldOnes_2 ?_
  refine r_istore_n (pc := 3) C dX5_heldOnes_3 rfl (by decide) [1, 2, 0] (lv' := [(0, .ref (gA g 41)), (1, .int (iI (0))), (2, .int (iI (0)))]) rfl ?_
  have L4 : ∀ (n_ : Nat) (i : Nat) (x4_1 x4_2 : Int), 12 - i < n_ → (i ≤ 12) → x4_1 = setF (fun f => decide (0 ≤ holder (ρ 0 7) (ρ 6) f)) i → x4_2 = (i : Int) → J g E (pI (setF (fun f => decide (0 ≤ holder (ρ 0 7) (ρ 6) f)) 12) σ) 3 4 [(0, .ref (gA g 41)), (1, .int (iI (x4_1))), (2, .int (iI (x4_2)))] [] σ := by
    intro n_
    induction n_ with
    | zero => intro i x4_1 x4_2  hm_; exact absurd hm_ (Nat.not_lt_zero _)
    | succ n_ ih4 =>
      intro i x4_1 x4_2  hm4 hi4_0 e4_0 e4_1 
      subst e4_0 e4_1 
      have hh := holder_rng (ρ 0 7) (ρ 6) i hn.1
      refine r_iload_n (pc := 4) C dX5_heldOnes_4 rfl 2 rfl ?_
      refine r_bipush (pc := 5) C dX5_heldOnes_5 (by decide) ?_
      refine r_icmp_ge (pc := 7) C 34 ⟨by omega, by omega⟩ ⟨by omega, by omega⟩ dX5_heldOnes_7 (by decide) (fun h7 => ?_) (fun h7 => ?_)
      · skip
        refine r_iload_n (pc := 34) C dX5_heldOnes_34 rfl 1 rfl ?_
        exact r_reti (pc := 35) C (by rw [show i = 12 by omega]) (rfl) dX5_heldOnes_35
      · skip
        refine r_iload_n (pc := 10) C dX5_heldOnes_10 rfl 1 rfl ?_
        refine r_aload_n (pc := 11) C dX5_heldOnes_11 rfl 0 rfl ?_
        refine r_iload_n (pc := 12) C dX5_heldOnes_12 rfl 2 rfl ?_
        refine r_cVi (pc := 13) C (c_m_holderOf g i (by omega) ρ σ hS hn hM) yX5_holderOf_w O_41 rfl rfl t_864 ⟨by decide, by decide⟩ (Nat.le_of_ble_eq_true rfl) rfl dX5_heldOnes_13 ?_
        refine r_if_lt (pc := 16) C 25 ⟨by omega, by omega⟩ dX5_heldOnes_16 (by decide) (fun h16 => ?_) (fun h16 => ?_)
        · skip
          refine r_iconst (pc := 25) C dX5_heldOnes_25 ?_
          refine r_ior (pc := 26) C dX5_heldOnes_26 ?_
          refine r_istore_n (pc := 27) C dX5_heldOnes_27 rfl (by decide) [1, 0, 2] (lv' := [(0, .ref (gA g 41)), (1, .int (iI (bor (setF (fun f => decide (0 ≤ holder (ρ 0 7) (ρ 6) f)) i) 0))), (2, .int (iI ((i : Int))))]) rfl ?_
          refine r_iinc (pc := 28) C dX5_heldOnes_28 2 rfl (by decide) [1, 2, 0] (lv' := [(0, .ref (gA g 41)), (1, .int (iI (bor (setF (fun f => decide (0 ≤ holder (ρ 0 7) (ρ 6) f)) i) 0))), (2, .int (iI ((i : Int) + 1)))]) rfl ?_
          refine r_goto (pc := 31) C 4 dX5_heldOnes_31 (by decide) ?_
          exact ih4 (i + 1) _ _ (by omega) (by omega) (by first | rw [setF, if_pos (by simp; omega)] | (rw [setF, if_neg (by simp; omega)]; exact bor_0 (setF_rng _ _))) (by omega)
        · skip
          refine r_iconst (pc := 19) C dX5_heldOnes_19 ?_
          refine r_iload_n (pc := 20) C dX5_heldOnes_20 rfl 2 rfl ?_
          refine r_ishl (pc := 21) C dX5_heldOnes_21 ?_
          refine r_goto (pc := 22) C 26 dX5_heldOnes_22 (by decide) ?_
          refine r_ior (pc := 26) C dX5_heldOnes_26 ?_
          refine r_istore_n (pc := 27) C dX5_heldOnes_27 rfl (by decide) [1, 0, 2] (lv' := [(0, .ref (gA g 41)), (1, .int (iI (bor (setF (fun f => decide (0 ≤ holder (ρ 0 7) (ρ 6) f)) i) (bshl 1 (i : Int))))), (2, .int (iI ((i : Int))))]) rfl ?_
          refine r_iinc (pc := 28) C dX5_heldOnes_28 2 rfl (by decide) [1, 2, 0] (lv' := [(0, .ref (gA g 41)), (1, .int (iI (bor (setF (fun f => decide (0 ≤ holder (ρ 0 7) (ρ 6) f)) i) (bshl 1 (i : Int))))), (2, .int (iI ((i : Int) + 1)))]) rfl ?_
          refine r_goto (pc := 31) C 4 dX5_heldOnes_31 (by decide) ?_
          exact ih4 (i + 1) _ _ (by omega) (by omega) (by first | rw [setF, if_pos (by simp; omega)] | (rw [setF, if_neg (by simp; omega)]; exact bor_0 (setF_rng _ _))) (by omega)
  exact L4 _ 0 _ _ (Nat.lt_succ_self _) (by omega) (rfl) (rfl)
set_option maxHeartbeats 4000000 in
set_option maxRecDepth 100000 in
theorem c_m_landless (g : Gt) (ρ σ : Sg) (hS : σ 42 = mkS ρ) (hn : 0 ≤ ρ 0 7 ∧ ρ 0 7 ≤ 8) (hM : rgM (ρ 6)) : Mt g yX5_landless cX5_landless 3 (some FieldType.int) 3 [.ref (gA g 41)] σ (pI (setF (fun t => decide (setF (fun f => decide (holder (ρ 0 7) (ρ 6) f = (t : Int))) 12 = 0)) (ρ 0 7).toNat) σ) := by
  refine mt_of (own := RX5) (by decide) rfl (Nat.le_of_ble_eq_true rfl) (fun E C => ?_)
  show J g E (pI (setF (fun t => decide (setF (fun f => decide (holder (ρ 0 7) (ρ 6) f = (t : Int))) 12 = 0)) (ρ 0 7).toNat) σ) 3 0 [(0, .ref (gA g 41))] [] σ
  refine r_iconst (pc := 0) C dX5_landless_0 ?_
  refine r_istore_n (pc := 1) C dX5_landless_1 rfl (by decide) [1, 0] (lv' := [(0, .ref (gA g 41)), (1, .int (iI (0)))]) rfl ?_
  refine r_iconst (pc := 2) C dX5_landless_2 ?_
  refine r_istore_n (pc := 3) C dX5_landless_3 rfl (by decide) [1, 2, 0] (lv' := [(0, .ref (gA g 41)), (1, .int (iI (0))), (2, .int (iI (0)))]) rfl ?_
  have L4 : ∀ (n_ : Nat) (i : Nat) (x4_1 x4_2 : Int), (ρ 0 7).toNat - i < n_ → ((i : Int) ≤ ρ 0 7) → x4_1 = setF (fun t => decide (setF (fun f => decide (holder (ρ 0 7) (ρ 6) f = (t : Int))) 12 = 0)) i → x4_2 = (i : Int) → J g E (pI (setF (fun t => decide (setF (fun f => decide (holder (ρ 0 7) (ρ 6) f = (t : Int))) 12 = 0)) (ρ 0 7).toNat) σ) 3 4 [(0, .ref (gA g 41)), (1, .int (iI (x4_1))), (2, .int (iI (x4_2)))] [] σ := by
    intro n_
    induction n_ with
    | zero => intro i x4_1 x4_2  hm_; exact absurd hm_ (Nat.not_lt_zero _)
    | succ n_ ih4 =>
      intro i x4_1 x4_2  hm4 hi4_0 e4_0 e4_1 
      subst e4_0 e4_1 
      refine r_iload_n (pc := 4) C dX5_landless_4 rfl 2 rfl ?_
      refine r_aload_n (pc := 5) C dX5_landless_5 rfl 0 rfl ?_
      refine r_getR5 (pc := 6) C 0 (k' := 42) rfl O_41 (by decide) rfl t_780 dX5_landless_6 ?_
      refine r_iconst (pc := 9) C dX5_landless_9 ?_
      refine r_iald (pc := 10) C 1 A_42 (by omega) (by omega) dX5_landless_10 ?_
      refine r_top (show _ = ρ 0 7 from (congrFun hS _).trans (mkS_at rfl)) ?_
      refine r_icmp_ge (pc := 11) C 38 ⟨by omega, by omega⟩ ⟨by omega, by omega⟩ dX5_landless_11 (by decide) (fun h11 => ?_) (fun h11 => ?_)
      · skip
        refine r_iload_n (pc := 38) C dX5_landless_38 rfl 1 rfl ?_
        exact r_reti (pc := 39) C (by rw [show i = (ρ 0 7).toNat by omega]) (rfl) dX5_landless_39
      · skip
        refine r_iload_n (pc := 14) C dX5_landless_14 rfl 1 rfl ?_
        refine r_aload_n (pc := 15) C dX5_landless_15 rfl 0 rfl ?_
        refine r_iload_n (pc := 16) C dX5_landless_16 rfl 2 rfl ?_
        refine r_cVi (pc := 17) C (c_m_heldBy g (i : Int) ⟨by omega, by omega⟩ ρ σ hS hn hM) yX5_heldBy_w O_41 rfl rfl t_917 ⟨by decide, by decide⟩ (Nat.le_of_ble_eq_true rfl) rfl dX5_landless_17 ?_
        refine r_if_ne (pc := 20) C 29 (setF_rng _ _) dX5_landless_20 (by decide) (fun h20 => ?_) (fun h20 => ?_)
        · skip
          refine r_iconst (pc := 29) C dX5_landless_29 ?_
          refine r_ior (pc := 30) C dX5_landless_30 ?_
          refine r_istore_n (pc := 31) C dX5_landless_31 rfl (by decide) [1, 0, 2] (lv' := [(0, .ref (gA g 41)), (1, .int (iI (bor (setF (fun t => decide (setF (fun f => decide (holder (ρ 0 7) (ρ 6) f = (t : Int))) 12 = 0)) i) 0))), (2, .int (iI ((i : Int))))]) rfl ?_
          refine r_iinc (pc := 32) C dX5_landless_32 2 rfl (by decide) [1, 2, 0] (lv' := [(0, .ref (gA g 41)), (1, .int (iI (bor (setF (fun t => decide (setF (fun f => decide (holder (ρ 0 7) (ρ 6) f = (t : Int))) 12 = 0)) i) 0))), (2, .int (iI ((i : Int) + 1)))]) rfl ?_
          refine r_goto (pc := 35) C 4 dX5_landless_35 (by decide) ?_
          exact ih4 (i + 1) _ _ (by omega) (by omega) (by first | rw [setF, if_pos (by simpa using h20)] | (rw [setF, if_neg (by simpa using h20)]; exact bor_0 (setF_rng _ _))) (by omega)
        · skip
          refine r_iconst (pc := 23) C dX5_landless_23 ?_
          refine r_iload_n (pc := 24) C dX5_landless_24 rfl 2 rfl ?_
          refine r_ishl (pc := 25) C dX5_landless_25 ?_
          refine r_goto (pc := 26) C 30 dX5_landless_26 (by decide) ?_
          refine r_ior (pc := 30) C dX5_landless_30 ?_
          refine r_istore_n (pc := 31) C dX5_landless_31 rfl (by decide) [1, 0, 2] (lv' := [(0, .ref (gA g 41)), (1, .int (iI (bor (setF (fun t => decide (setF (fun f => decide (holder (ρ 0 7) (ρ 6) f = (t : Int))) 12 = 0)) i) (bshl 1 (i : Int))))), (2, .int (iI ((i : Int))))]) rfl ?_
          refine r_iinc (pc := 32) C dX5_landless_32 2 rfl (by decide) [1, 2, 0] (lv' := [(0, .ref (gA g 41)), (1, .int (iI (bor (setF (fun t => decide (setF (fun f => decide (holder (ρ 0 7) (ρ 6) f = (t : Int))) 12 = 0)) i) (bshl 1 (i : Int))))), (2, .int (iI ((i : Int) + 1)))]) rfl ?_
          refine r_goto (pc := 35) C 4 dX5_landless_35 (by decide) ?_
          exact ih4 (i + 1) _ _ (by omega) (by omega) (by first | rw [setF, if_pos (by simpa using h20)] | (rw [setF, if_neg (by simpa using h20)]; exact bor_0 (setF_rng _ _))) (by omega)
  exact L4 _ 0 _ _ (Nat.lt_succ_self _) (by omega) (rfl) (rfl)
set_option maxHeartbeats 4000000 in
set_option maxRecDepth 100000 in
theorem c_m_richest (g : Gt) (ρ σ : Sg) (hS : σ 42 = mkS ρ) (hn : 0 ≤ ρ 0 7 ∧ ρ 0 7 ≤ 8) (hG : rgG (ρ 5)) : Mt g yX5_richest cX5_richest 3 (some FieldType.int) 2 [.ref (gA g 41)] σ (pI (richF (ρ 5) (ρ 0 7).toNat) σ) := by
  refine mt_of (own := RX5) (by decide) rfl (Nat.le_of_ble_eq_true rfl) (fun E C => ?_)
  show J g E (pI (richF (ρ 5) (ρ 0 7).toNat) σ) 3 0 [(0, .ref (gA g 41))] [] σ
  refine r_iconst (pc := 0) C dX5_richest_0 ?_
  refine r_istore_n (pc := 1) C dX5_richest_1 rfl (by decide) [1, 0] (lv' := [(0, .ref (gA g 41)), (1, .int (iI ((-1))))]) rfl ?_
  refine r_iconst (pc := 2) C dX5_richest_2 ?_
  refine r_istore_n (pc := 3) C dX5_richest_3 rfl (by decide) [1, 2, 0] (lv' := [(0, .ref (gA g 41)), (1, .int (iI ((-1)))), (2, .int (iI (0)))]) rfl ?_
  have L4 : ∀ (n_ : Nat) (i : Nat) (x4_1 x4_2 : Int), (ρ 0 7).toNat - i < n_ → ((i : Int) ≤ ρ 0 7) → x4_1 = richF (ρ 5) i → x4_2 = (i : Int) → J g E (pI (richF (ρ 5) (ρ 0 7).toNat) σ) 3 4 [(0, .ref (gA g 41)), (1, .int (iI (x4_1))), (2, .int (iI (x4_2)))] [] σ := by
    intro n_
    induction n_ with
    | zero => intro i x4_1 x4_2  hm_; exact absurd hm_ (Nat.not_lt_zero _)
    | succ n_ ih4 =>
      intro i x4_1 x4_2  hm4 hi4_0 e4_0 e4_1 
      subst e4_0 e4_1 
      have hr := richF_rng (ρ 5) i
      refine r_iload_n (pc := 4) C dX5_richest_4 rfl 2 rfl ?_
      refine r_aload_n (pc := 5) C dX5_richest_5 rfl 0 rfl ?_
      refine r_getR5 (pc := 6) C 0 (k' := 42) rfl O_41 (by decide) rfl t_780 dX5_richest_6 ?_
      refine r_iconst (pc := 9) C dX5_richest_9 ?_
      refine r_iald (pc := 10) C 1 A_42 (by omega) (by omega) dX5_richest_10 ?_
      refine r_top (show _ = ρ 0 7 from (congrFun hS _).trans (mkS_at rfl)) ?_
      refine r_icmp_ge (pc := 11) C 45 ⟨by omega, by omega⟩ ⟨by omega, by omega⟩ dX5_richest_11 (by decide) (fun h11 => ?_) (fun h11 => ?_)
      · skip
        refine r_iload_n (pc := 45) C dX5_richest_45 rfl 1 rfl ?_
        exact r_reti (pc := 46) C (by rw [show i = (ρ 0 7).toNat by omega]) (rfl) dX5_richest_46
      · skip
        refine r_iload_n (pc := 14) C dX5_richest_14 rfl 1 rfl ?_
        refine r_if_lt (pc := 15) C 33 ⟨by omega, by omega⟩ dX5_richest_15 (by decide) (fun h15 => ?_) (fun h15 => ?_)
        · skip
          refine r_iload_n (pc := 33) C dX5_richest_33 rfl 2 rfl ?_
          refine r_goto (pc := 34) C 38 dX5_richest_34 (by decide) ?_
          refine r_istore_n (pc := 38) C dX5_richest_38 rfl (by decide) [1, 0, 2] (lv' := [(0, .ref (gA g 41)), (1, .int (iI ((i : Int)))), (2, .int (iI ((i : Int))))]) rfl ?_
          refine r_iinc (pc := 39) C dX5_richest_39 2 rfl (by decide) [1, 2, 0] (lv' := [(0, .ref (gA g 41)), (1, .int (iI ((i : Int)))), (2, .int (iI ((i : Int) + 1)))]) rfl ?_
          refine r_goto (pc := 42) C 4 dX5_richest_42 (by decide) ?_
          exact ih4 (i + 1) _ _ (by omega) (by omega) (by first | rw [richF, if_pos (by omega)] | rw [richF, if_neg (by omega)]) (by omega)
        · skip
          refine r_aload_n (pc := 18) C dX5_richest_18 rfl 0 rfl ?_
          refine r_iload_n (pc := 19) C dX5_richest_19 rfl 2 rfl ?_
          refine r_iconst (pc := 20) C dX5_richest_20 ?_
          refine r_cVi (pc := 21) C (c_its_2 g i (by omega) ρ σ hS) yX5_its_w O_41 rfl rfl t_875 ⟨by decide, by decide⟩ (Nat.le_of_ble_eq_true rfl) rfl dX5_richest_21 ?_
          have hg := hG i (by omega)
          refine r_aload_n (pc := 24) C dX5_richest_24 rfl 0 rfl ?_
          refine r_iload_n (pc := 25) C dX5_richest_25 rfl 1 rfl ?_
          refine r_iconst (pc := 26) C dX5_richest_26 ?_
          refine r_cVi (pc := 27) C (c_its_2 g ((richF (ρ 5) i).toNat) (by omega) ρ σ hS) yX5_its_w O_41 rfl rfl t_875 ⟨by decide, by decide⟩ (Nat.le_of_ble_eq_true rfl) (by rw [show (((richF (ρ 5) i).toNat : Nat) : Int) = richF (ρ 5) i by omega]; rfl) dX5_richest_27 ?_
          have hg2 := hG (richF (ρ 5) i).toNat (by omega)
          refine r_icmp_le (pc := 30) C 37 ⟨by omega, by omega⟩ ⟨by omega, by omega⟩ dX5_richest_30 (by decide) (fun h30 => ?_) (fun h30 => ?_)
          · skip
            refine r_iload_n (pc := 37) C dX5_richest_37 rfl 1 rfl ?_
            refine r_istore_n (pc := 38) C dX5_richest_38 rfl (by decide) [1, 0, 2] (lv' := [(0, .ref (gA g 41)), (1, .int (iI (richF (ρ 5) i))), (2, .int (iI ((i : Int))))]) rfl ?_
            refine r_iinc (pc := 39) C dX5_richest_39 2 rfl (by decide) [1, 2, 0] (lv' := [(0, .ref (gA g 41)), (1, .int (iI (richF (ρ 5) i))), (2, .int (iI ((i : Int) + 1)))]) rfl ?_
            refine r_goto (pc := 42) C 4 dX5_richest_42 (by decide) ?_
            exact ih4 (i + 1) _ _ (by omega) (by omega) (by first | rw [richF, if_pos (by omega)] | rw [richF, if_neg (by omega)]) (by omega)
          · skip
            refine r_iload_n (pc := 33) C dX5_richest_33 rfl 2 rfl ?_
            refine r_goto (pc := 34) C 38 dX5_richest_34 (by decide) ?_
            refine r_istore_n (pc := 38) C dX5_richest_38 rfl (by decide) [1, 0, 2] (lv' := [(0, .ref (gA g 41)), (1, .int (iI ((i : Int)))), (2, .int (iI ((i : Int))))]) rfl ?_
            refine r_iinc (pc := 39) C dX5_richest_39 2 rfl (by decide) [1, 2, 0] (lv' := [(0, .ref (gA g 41)), (1, .int (iI ((i : Int)))), (2, .int (iI ((i : Int) + 1)))]) rfl ?_
            refine r_goto (pc := 42) C 4 dX5_richest_42 (by decide) ?_
            exact ih4 (i + 1) _ _ (by omega) (by omega) (by first | rw [richF, if_pos (by omega)] | rw [richF, if_neg (by omega)]) (by omega)
  exact L4 _ 0 _ _ (Nat.lt_succ_self _) (by omega) (rfl) (rfl)
set_option maxHeartbeats 4000000 in
set_option maxRecDepth 100000 in
theorem c_dustAll (g : Gt) (ρ σ : Sg) (hS : σ 42 = mkS ρ) : Mt g yX5_dustAll cX5_dustAll 3 (some FieldType.int) 0 [.ref (gA g 41)] σ (pI (sumF (ρ 1) 12) σ) := by
  refine mt_of (own := RX5) (by decide) rfl (Nat.le_of_ble_eq_true rfl) (fun E C => ?_)
  show J g E (pI (sumF (ρ 1) 12) σ) 3 0 [(0, .ref (gA g 41))] [] σ
  refine r_iconst (pc := 0) C dX5_dustAll_0 ?_
  refine r_istore_n (pc := 1) C dX5_dustAll_1 rfl (by decide) [1, 0] (lv' := [(0, .ref (gA g 41)), (1, .int (iI (0)))]) rfl ?_
  refine r_iconst (pc := 2) C dX5_dustAll_2 ?_
  refine r_istore_n (pc := 3) C dX5_dustAll_3 rfl (by decide) [1, 2, 0] (lv' := [(0, .ref (gA g 41)), (1, .int (iI (0))), (2, .int (iI (0)))]) rfl ?_
  have L4 : ∀ (n_ : Nat) (i : Nat) (x4_1 x4_2 : Int), 12 - i < n_ → (i ≤ 12) → x4_1 = sumF (ρ 1) i → x4_2 = (i : Int) → J g E (pI (sumF (ρ 1) 12) σ) 3 4 [(0, .ref (gA g 41)), (1, .int (iI (x4_1))), (2, .int (iI (x4_2)))] [] σ := by
    intro n_
    induction n_ with
    | zero => intro i x4_1 x4_2  hm_; exact absurd hm_ (Nat.not_lt_zero _)
    | succ n_ ih4 =>
      intro i x4_1 x4_2  hm4 hi4_0 e4_0 e4_1 
      subst e4_0 e4_1 
      refine r_iload_n (pc := 4) C dX5_dustAll_4 rfl 2 rfl ?_
      refine r_bipush (pc := 5) C dX5_dustAll_5 (by decide) ?_
      refine r_icmp_ge (pc := 7) C 27 ⟨by omega, by omega⟩ ⟨by omega, by omega⟩ dX5_dustAll_7 (by decide) (fun h7 => ?_) (fun h7 => ?_)
      · skip
        refine r_iload_n (pc := 27) C dX5_dustAll_27 rfl 1 rfl ?_
        exact r_reti (pc := 28) C (by rw [show i = 12 by omega]) (rfl) dX5_dustAll_28
      · skip
        refine r_iload_n (pc := 10) C dX5_dustAll_10 rfl 1 rfl ?_
        refine r_aload_n (pc := 11) C dX5_dustAll_11 rfl 0 rfl ?_
        refine r_getR5 (pc := 12) C 0 (k' := 42) rfl O_41 (by decide) rfl t_780 dX5_dustAll_12 ?_
        refine r_iconst (pc := 15) C dX5_dustAll_15 ?_
        refine r_iload_n (pc := 16) C dX5_dustAll_16 rfl 2 rfl ?_
        refine r_iadd (pc := 17) C dX5_dustAll_17 ?_
        refine r_iald (pc := 18) C (5 + i) A_42 (by omega) (by omega) dX5_dustAll_18 ?_
        refine r_top (show _ = ρ 1 i from (congrFun hS _).trans (mkS_at (cidx_D (by omega)))) ?_
        refine r_iadd (pc := 19) C dX5_dustAll_19 ?_
        refine r_istore_n (pc := 20) C dX5_dustAll_20 rfl (by decide) [1, 0, 2] (lv' := [(0, .ref (gA g 41)), (1, .int (iI ((sumF (ρ 1) i) + (ρ 1 i)))), (2, .int (iI ((i : Int))))]) rfl ?_
        refine r_iinc (pc := 21) C dX5_dustAll_21 2 rfl (by decide) [1, 2, 0] (lv' := [(0, .ref (gA g 41)), (1, .int (iI ((sumF (ρ 1) i) + (ρ 1 i)))), (2, .int (iI ((i : Int) + 1)))]) rfl ?_
        refine r_goto (pc := 24) C 4 dX5_dustAll_24 (by decide) ?_
        exact ih4 (i + 1) _ _ (by omega) (by omega) (rfl) (by omega)
  exact L4 _ 0 _ _ (Nat.lt_succ_self _) (by omega) (rfl) (rfl)
set_option maxHeartbeats 4000000 in
set_option maxRecDepth 100000 in
theorem c_goodsAll (g : Gt) (ρ σ : Sg) (hS : σ 42 = mkS ρ) (hn : 0 ≤ ρ 0 7 ∧ ρ 0 7 ≤ 8) : Mt g yX5_goodsAll cX5_goodsAll 3 (some FieldType.int) 2 [.ref (gA g 41)] σ (pI (sumF (ρ 5) (ρ 0 7).toNat) σ) := by
  refine mt_of (own := RX5) (by decide) rfl (Nat.le_of_ble_eq_true rfl) (fun E C => ?_)
  show J g E (pI (sumF (ρ 5) (ρ 0 7).toNat) σ) 3 0 [(0, .ref (gA g 41))] [] σ
  refine r_iconst (pc := 0) C dX5_goodsAll_0 ?_
  refine r_istore_n (pc := 1) C dX5_goodsAll_1 rfl (by decide) [1, 0] (lv' := [(0, .ref (gA g 41)), (1, .int (iI (0)))]) rfl ?_
  refine r_iconst (pc := 2) C dX5_goodsAll_2 ?_
  refine r_istore_n (pc := 3) C dX5_goodsAll_3 rfl (by decide) [1, 2, 0] (lv' := [(0, .ref (gA g 41)), (1, .int (iI (0))), (2, .int (iI (0)))]) rfl ?_
  have L4 : ∀ (n_ : Nat) (i : Nat) (x4_1 x4_2 : Int), (ρ 0 7).toNat - i < n_ → ((i : Int) ≤ ρ 0 7) → x4_1 = sumF (ρ 5) i → x4_2 = (i : Int) → J g E (pI (sumF (ρ 5) (ρ 0 7).toNat) σ) 3 4 [(0, .ref (gA g 41)), (1, .int (iI (x4_1))), (2, .int (iI (x4_2)))] [] σ := by
    intro n_
    induction n_ with
    | zero => intro i x4_1 x4_2  hm_; exact absurd hm_ (Nat.not_lt_zero _)
    | succ n_ ih4 =>
      intro i x4_1 x4_2  hm4 hi4_0 e4_0 e4_1 
      subst e4_0 e4_1 
      refine r_iload_n (pc := 4) C dX5_goodsAll_4 rfl 2 rfl ?_
      refine r_aload_n (pc := 5) C dX5_goodsAll_5 rfl 0 rfl ?_
      refine r_getR5 (pc := 6) C 0 (k' := 42) rfl O_41 (by decide) rfl t_780 dX5_goodsAll_6 ?_
      refine r_iconst (pc := 9) C dX5_goodsAll_9 ?_
      refine r_iald (pc := 10) C 1 A_42 (by omega) (by omega) dX5_goodsAll_10 ?_
      refine r_top (show _ = ρ 0 7 from (congrFun hS _).trans (mkS_at rfl)) ?_
      refine r_icmp_ge (pc := 11) C 29 ⟨by omega, by omega⟩ ⟨by omega, by omega⟩ dX5_goodsAll_11 (by decide) (fun h11 => ?_) (fun h11 => ?_)
      · skip
        refine r_iload_n (pc := 29) C dX5_goodsAll_29 rfl 1 rfl ?_
        exact r_reti (pc := 30) C (by rw [show i = (ρ 0 7).toNat by omega]) (rfl) dX5_goodsAll_30
      · skip
        refine r_iload_n (pc := 14) C dX5_goodsAll_14 rfl 1 rfl ?_
        refine r_aload_n (pc := 15) C dX5_goodsAll_15 rfl 0 rfl ?_
        refine r_iload_n (pc := 16) C dX5_goodsAll_16 rfl 2 rfl ?_
        refine r_iconst (pc := 17) C dX5_goodsAll_17 ?_
        refine r_cVi (pc := 18) C (c_its_2 g i (by omega) ρ σ hS) yX5_its_w O_41 rfl rfl t_875 ⟨by decide, by decide⟩ (Nat.le_of_ble_eq_true rfl) rfl dX5_goodsAll_18 ?_
        refine r_iadd (pc := 21) C dX5_goodsAll_21 ?_
        refine r_istore_n (pc := 22) C dX5_goodsAll_22 rfl (by decide) [1, 0, 2] (lv' := [(0, .ref (gA g 41)), (1, .int (iI ((sumF (ρ 5) i) + (ρ 5 i)))), (2, .int (iI ((i : Int))))]) rfl ?_
        refine r_iinc (pc := 23) C dX5_goodsAll_23 2 rfl (by decide) [1, 2, 0] (lv' := [(0, .ref (gA g 41)), (1, .int (iI ((sumF (ρ 5) i) + (ρ 5 i)))), (2, .int (iI ((i : Int) + 1)))]) rfl ?_
        refine r_goto (pc := 26) C 4 dX5_goodsAll_26 (by decide) ?_
        exact ih4 (i + 1) _ _ (by omega) (by omega) (rfl) (by omega)
  exact L4 _ 0 _ _ (Nat.lt_succ_self _) (by omega) (rfl) (rfl)
set_option maxHeartbeats 4000000 in
set_option maxRecDepth 100000 in
theorem c_leaves (g : Gt) (t : Nat) (ht : t < 8) (ρ σ : Sg) (hS : σ 42 = mkS ρ) (hD : rgD (ρ 1)) (hK : rgK (ρ 3)) (hA : rgA (ρ 4)) (hG : rgG (ρ 5)) : Mt g yX5_leaves cX5_leaves 3 (some FieldType.int) 2 [.ref (gA g 41), .int (iI ((t : Int)))] σ (pI (leav (ρ 3 t) (ρ 1 (ρ 4 t).toNat) (ρ 5 t)) σ) := by
  have hk := hK t ht
  have ha := hA t ht
  have hg := hG t ht
  have hd := hD (ρ 4 t).toNat (by omega)
  refine mt_of (own := RX5) (by decide) rfl (Nat.le_of_ble_eq_true rfl) (fun E C => ?_)
  show J g E (pI (leav (ρ 3 t) (ρ 1 (ρ 4 t).toNat) (ρ 5 t)) σ) 3 0 [(0, .ref (gA g 41)), (1, .int (iI ((t : Int))))] [] σ
  refine r_aload_n (pc := 0) C dX5_leaves_0 rfl 0 rfl ?_
  refine r_getR5 (pc := 1) C 0 (k' := 42) rfl O_41 (by decide) rfl t_780 dX5_leaves_1 ?_
  refine r_iconst (pc := 4) C dX5_leaves_4 ?_
  refine r_aload_n (pc := 5) C dX5_leaves_5 rfl 0 rfl ?_
  refine r_iload_n (pc := 6) C dX5_leaves_6 rfl 1 rfl ?_
  refine r_iconst (pc := 7) C dX5_leaves_7 ?_
  refine r_cVi (pc := 8) C (c_its_1 g t (by omega) ρ σ hS) yX5_its_w O_41 rfl rfl t_875 ⟨by decide, by decide⟩ (Nat.le_of_ble_eq_true rfl) rfl dX5_leaves_8 ?_
  refine r_iadd (pc := 11) C dX5_leaves_11 ?_
  refine r_iald (pc := 12) C (5 + (ρ 4 t).toNat) A_42 (by omega) (by omega) dX5_leaves_12 ?_
  refine r_top (show _ = ρ 1 ((ρ 4 t).toNat) from (congrFun hS _).trans (mkS_at (cidx_D (by omega)))) ?_
  refine r_bipush (pc := 13) C dX5_leaves_13 (by decide) ?_
  refine r_icmp_lt (pc := 15) C 22 ⟨by omega, by omega⟩ ⟨by omega, by omega⟩ dX5_leaves_15 (by decide) (fun h15 => ?_) (fun h15 => ?_)
  · skip
    refine r_iconst (pc := 22) C dX5_leaves_22 ?_
    refine r_istore_n (pc := 23) C dX5_leaves_23 rfl (by decide) [1, 2, 0] (lv' := [(0, .ref (gA g 41)), (1, .int (iI ((t : Int)))), (2, .int (iI (1)))]) rfl ?_
    refine r_aload_n (pc := 24) C dX5_leaves_24 rfl 0 rfl ?_
    refine r_iload_n (pc := 25) C dX5_leaves_25 rfl 1 rfl ?_
    refine r_iconst (pc := 26) C dX5_leaves_26 ?_
    refine r_cVi (pc := 27) C (c_its_0 g t (by omega) ρ σ hS) yX5_its_w O_41 rfl rfl t_875 ⟨by decide, by decide⟩ (Nat.le_of_ble_eq_true rfl) rfl dX5_leaves_27 ?_
    by_cases hs30_1 : ρ 3 t = 1
    · refine r_tabIn C 1 68 dX5_leaves_30 hs30_1 ⟨by decide, by decide⟩ (by decide) (by decide) rfl (by decide) ?_
      refine r_bipush (pc := 68) C dX5_leaves_68 (by decide) ?_
      exact r_reti (pc := 70) C (by (first | rw [hs30_1] | rw [hs30_2] | rw [hs30_3] | rw [hs30_4] | rw [hs30_5] | rw [hs30_6] | rw [show ρ 3 t = 0 by omega]); unfold leav; (first | rw [if_pos (by omega)] | rw [if_neg (by omega)]); (first | rw [if_pos (by omega)] | rw [if_neg (by omega)]); (first | rfl | (show _ = (1 : Int) + _ + _; omega))) (rfl) dX5_leaves_70
    by_cases hs30_2 : ρ 3 t = 2
    · refine r_tabIn C 2 74 dX5_leaves_30 hs30_2 ⟨by decide, by decide⟩ (by decide) (by decide) rfl (by decide) ?_
      refine r_iconst (pc := 74) C dX5_leaves_74 ?_
      exact r_reti (pc := 75) C (by (first | rw [hs30_1] | rw [hs30_2] | rw [hs30_3] | rw [hs30_4] | rw [hs30_5] | rw [hs30_6] | rw [show ρ 3 t = 0 by omega]); unfold leav; (first | rw [if_pos (by omega)] | rw [if_neg (by omega)]); (first | rw [if_pos (by omega)] | rw [if_neg (by omega)]); (first | rfl | (show _ = (1 : Int) + _ + _; omega))) (rfl) dX5_leaves_75
    by_cases hs30_3 : ρ 3 t = 3
    · refine r_tabIn C 3 76 dX5_leaves_30 hs30_3 ⟨by decide, by decide⟩ (by decide) (by decide) rfl (by decide) ?_
      refine r_iload_n (pc := 76) C dX5_leaves_76 rfl 2 rfl ?_
      exact r_reti (pc := 77) C (by (first | rw [hs30_1] | rw [hs30_2] | rw [hs30_3] | rw [hs30_4] | rw [hs30_5] | rw [hs30_6] | rw [show ρ 3 t = 0 by omega]); unfold leav; (first | rw [if_pos (by omega)] | rw [if_neg (by omega)]); (first | rw [if_pos (by omega)] | rw [if_neg (by omega)]); (first | rfl | (show _ = (1 : Int) + _ + _; omega))) (rfl) dX5_leaves_77
    by_cases hs30_4 : ρ 3 t = 4
    · refine r_tabIn C 4 78 dX5_leaves_30 hs30_4 ⟨by decide, by decide⟩ (by decide) (by decide) rfl (by decide) ?_
      refine r_iload_n (pc := 78) C dX5_leaves_78 rfl 2 rfl ?_
      refine r_aload_n (pc := 79) C dX5_leaves_79 rfl 0 rfl ?_
      refine r_iload_n (pc := 80) C dX5_leaves_80 rfl 1 rfl ?_
      refine r_iconst (pc := 81) C dX5_leaves_81 ?_
      refine r_cVi (pc := 82) C (c_its_2 g t (by omega) ρ σ hS) yX5_its_w O_41 rfl rfl t_875 ⟨by decide, by decide⟩ (Nat.le_of_ble_eq_true rfl) rfl dX5_leaves_82 ?_
      refine r_sipush (pc := 85) C dX5_leaves_85 (by decide) ?_
      refine r_idiv (pc := 88) C (by omega) (by omega) (by omega) (by omega) dX5_leaves_88 ?_
      refine r_iadd (pc := 89) C dX5_leaves_89 ?_
      exact r_reti (pc := 90) C (by (first | rw [hs30_1] | rw [hs30_2] | rw [hs30_3] | rw [hs30_4] | rw [hs30_5] | rw [hs30_6] | rw [show ρ 3 t = 0 by omega]); unfold leav; (first | rw [if_pos (by omega)] | rw [if_neg (by omega)]); (first | rw [if_pos (by omega)] | rw [if_neg (by omega)]); (first | rfl | (show _ = (1 : Int) + _ + _; omega))) (rfl) dX5_leaves_90
    by_cases hs30_5 : ρ 3 t = 5
    · refine r_tabIn C 5 91 dX5_leaves_30 hs30_5 ⟨by decide, by decide⟩ (by decide) (by decide) rfl (by decide) ?_
      refine r_iconst (pc := 91) C dX5_leaves_91 ?_
      exact r_reti (pc := 92) C (by (first | rw [hs30_1] | rw [hs30_2] | rw [hs30_3] | rw [hs30_4] | rw [hs30_5] | rw [hs30_6] | rw [show ρ 3 t = 0 by omega]); unfold leav; (first | rw [if_pos (by omega)] | rw [if_neg (by omega)]); (first | rw [if_pos (by omega)] | rw [if_neg (by omega)]); (first | rfl | (show _ = (1 : Int) + _ + _; omega))) (rfl) dX5_leaves_92
    by_cases hs30_6 : ρ 3 t = 6
    · refine r_tabIn C 6 71 dX5_leaves_30 hs30_6 ⟨by decide, by decide⟩ (by decide) (by decide) rfl (by decide) ?_
      refine r_bipush (pc := 71) C dX5_leaves_71 (by decide) ?_
      exact r_reti (pc := 73) C (by (first | rw [hs30_1] | rw [hs30_2] | rw [hs30_3] | rw [hs30_4] | rw [hs30_5] | rw [hs30_6] | rw [show ρ 3 t = 0 by omega]); unfold leav; (first | rw [if_pos (by omega)] | rw [if_neg (by omega)]); (first | rw [if_pos (by omega)] | rw [if_neg (by omega)]); (first | rfl | (show _ = (1 : Int) + _ + _; omega))) (rfl) dX5_leaves_73
    refine r_tabOut (pc := 30) C 93 dX5_leaves_30 ⟨by omega, by omega⟩ (by omega) (by decide) ?_
    refine r_iconst (pc := 93) C dX5_leaves_93 ?_
    exact r_reti (pc := 94) C (by (first | rw [hs30_1] | rw [hs30_2] | rw [hs30_3] | rw [hs30_4] | rw [hs30_5] | rw [hs30_6] | rw [show ρ 3 t = 0 by omega]); unfold leav; (first | rw [if_pos (by omega)] | rw [if_neg (by omega)]); (first | rw [if_pos (by omega)] | rw [if_neg (by omega)]); (first | rfl | (show _ = (1 : Int) + _ + _; omega))) (rfl) dX5_leaves_94
  · skip
    refine r_iconst (pc := 18) C dX5_leaves_18 ?_
    refine r_goto (pc := 19) C 23 dX5_leaves_19 (by decide) ?_
    refine r_istore_n (pc := 23) C dX5_leaves_23 rfl (by decide) [1, 2, 0] (lv' := [(0, .ref (gA g 41)), (1, .int (iI ((t : Int)))), (2, .int (iI (5)))]) rfl ?_
    refine r_aload_n (pc := 24) C dX5_leaves_24 rfl 0 rfl ?_
    refine r_iload_n (pc := 25) C dX5_leaves_25 rfl 1 rfl ?_
    refine r_iconst (pc := 26) C dX5_leaves_26 ?_
    refine r_cVi (pc := 27) C (c_its_0 g t (by omega) ρ σ hS) yX5_its_w O_41 rfl rfl t_875 ⟨by decide, by decide⟩ (Nat.le_of_ble_eq_true rfl) rfl dX5_leaves_27 ?_
    by_cases hs30_1 : ρ 3 t = 1
    · refine r_tabIn C 1 68 dX5_leaves_30 hs30_1 ⟨by decide, by decide⟩ (by decide) (by decide) rfl (by decide) ?_
      refine r_bipush (pc := 68) C dX5_leaves_68 (by decide) ?_
      exact r_reti (pc := 70) C (by (first | rw [hs30_1] | rw [hs30_2] | rw [hs30_3] | rw [hs30_4] | rw [hs30_5] | rw [hs30_6] | rw [show ρ 3 t = 0 by omega]); unfold leav; (first | rw [if_pos (by omega)] | rw [if_neg (by omega)]); (first | rw [if_pos (by omega)] | rw [if_neg (by omega)]); (first | rfl | (show _ = (1 : Int) + _ + _; omega))) (rfl) dX5_leaves_70
    by_cases hs30_2 : ρ 3 t = 2
    · refine r_tabIn C 2 74 dX5_leaves_30 hs30_2 ⟨by decide, by decide⟩ (by decide) (by decide) rfl (by decide) ?_
      refine r_iconst (pc := 74) C dX5_leaves_74 ?_
      exact r_reti (pc := 75) C (by (first | rw [hs30_1] | rw [hs30_2] | rw [hs30_3] | rw [hs30_4] | rw [hs30_5] | rw [hs30_6] | rw [show ρ 3 t = 0 by omega]); unfold leav; (first | rw [if_pos (by omega)] | rw [if_neg (by omega)]); (first | rw [if_pos (by omega)] | rw [if_neg (by omega)]); (first | rfl | (show _ = (1 : Int) + _ + _; omega))) (rfl) dX5_leaves_75
    by_cases hs30_3 : ρ 3 t = 3
    · refine r_tabIn C 3 76 dX5_leaves_30 hs30_3 ⟨by decide, by decide⟩ (by decide) (by decide) rfl (by decide) ?_
      refine r_iload_n (pc := 76) C dX5_leaves_76 rfl 2 rfl ?_
      exact r_reti (pc := 77) C (by (first | rw [hs30_1] | rw [hs30_2] | rw [hs30_3] | rw [hs30_4] | rw [hs30_5] | rw [hs30_6] | rw [show ρ 3 t = 0 by omega]); unfold leav; (first | rw [if_pos (by omega)] | rw [if_neg (by omega)]); (first | rw [if_pos (by omega)] | rw [if_neg (by omega)]); (first | rfl | (show _ = (1 : Int) + _ + _; omega))) (rfl) dX5_leaves_77
    by_cases hs30_4 : ρ 3 t = 4
    · refine r_tabIn C 4 78 dX5_leaves_30 hs30_4 ⟨by decide, by decide⟩ (by decide) (by decide) rfl (by decide) ?_
      refine r_iload_n (pc := 78) C dX5_leaves_78 rfl 2 rfl ?_
      refine r_aload_n (pc := 79) C dX5_leaves_79 rfl 0 rfl ?_
      refine r_iload_n (pc := 80) C dX5_leaves_80 rfl 1 rfl ?_
      refine r_iconst (pc := 81) C dX5_leaves_81 ?_
      refine r_cVi (pc := 82) C (c_its_2 g t (by omega) ρ σ hS) yX5_its_w O_41 rfl rfl t_875 ⟨by decide, by decide⟩ (Nat.le_of_ble_eq_true rfl) rfl dX5_leaves_82 ?_
      refine r_sipush (pc := 85) C dX5_leaves_85 (by decide) ?_
      refine r_idiv (pc := 88) C (by omega) (by omega) (by omega) (by omega) dX5_leaves_88 ?_
      refine r_iadd (pc := 89) C dX5_leaves_89 ?_
      exact r_reti (pc := 90) C (by (first | rw [hs30_1] | rw [hs30_2] | rw [hs30_3] | rw [hs30_4] | rw [hs30_5] | rw [hs30_6] | rw [show ρ 3 t = 0 by omega]); unfold leav; (first | rw [if_pos (by omega)] | rw [if_neg (by omega)]); (first | rw [if_pos (by omega)] | rw [if_neg (by omega)]); (first | rfl | (show _ = (1 : Int) + _ + _; omega))) (rfl) dX5_leaves_90
    by_cases hs30_5 : ρ 3 t = 5
    · refine r_tabIn C 5 91 dX5_leaves_30 hs30_5 ⟨by decide, by decide⟩ (by decide) (by decide) rfl (by decide) ?_
      refine r_iconst (pc := 91) C dX5_leaves_91 ?_
      exact r_reti (pc := 92) C (by (first | rw [hs30_1] | rw [hs30_2] | rw [hs30_3] | rw [hs30_4] | rw [hs30_5] | rw [hs30_6] | rw [show ρ 3 t = 0 by omega]); unfold leav; (first | rw [if_pos (by omega)] | rw [if_neg (by omega)]); (first | rw [if_pos (by omega)] | rw [if_neg (by omega)]); (first | rfl | (show _ = (1 : Int) + _ + _; omega))) (rfl) dX5_leaves_92
    by_cases hs30_6 : ρ 3 t = 6
    · refine r_tabIn C 6 71 dX5_leaves_30 hs30_6 ⟨by decide, by decide⟩ (by decide) (by decide) rfl (by decide) ?_
      refine r_bipush (pc := 71) C dX5_leaves_71 (by decide) ?_
      exact r_reti (pc := 73) C (by (first | rw [hs30_1] | rw [hs30_2] | rw [hs30_3] | rw [hs30_4] | rw [hs30_5] | rw [hs30_6] | rw [show ρ 3 t = 0 by omega]); unfold leav; (first | rw [if_pos (by omega)] | rw [if_neg (by omega)]); (first | rw [if_pos (by omega)] | rw [if_neg (by omega)]); (first | rfl | (show _ = (1 : Int) + _ + _; omega))) (rfl) dX5_leaves_73
    refine r_tabOut (pc := 30) C 93 dX5_leaves_30 ⟨by omega, by omega⟩ (by omega) (by decide) ?_
    refine r_iconst (pc := 93) C dX5_leaves_93 ?_
    exact r_reti (pc := 94) C (by (first | rw [hs30_1] | rw [hs30_2] | rw [hs30_3] | rw [hs30_4] | rw [hs30_5] | rw [hs30_6] | rw [show ρ 3 t = 0 by omega]); unfold leav; (first | rw [if_pos (by omega)] | rw [if_neg (by omega)]); (first | rw [if_pos (by omega)] | rw [if_neg (by omega)]); (first | rfl | (show _ = (1 : Int) + _ + _; omega))) (rfl) dX5_leaves_94
set_option maxHeartbeats 4000000 in
set_option maxRecDepth 100000 in
theorem c_sweeps (g : Gt) (t : Nat) (ht : t < 8) (ρ σ : Sg) (hS : σ 42 = mkS ρ) (hK : rgK (ρ 3)) : Mt g yX5_sweeps cX5_sweeps 2 (some FieldType.int) 2 [.ref (gA g 41), .int (iI ((t : Int)))] σ (pI (stab 1 (ρ 3 t).toNat) σ) := by
  have hk := hK t ht
  refine mt_of (own := RX5) (by decide) rfl (Nat.le_of_ble_eq_true rfl) (fun E C => ?_)
  show J g E (pI (stab 1 (ρ 3 t).toNat) σ) 2 0 [(0, .ref (gA g 41)), (1, .int (iI ((t : Int))))] [] σ
  refine r_aload_n (pc := 0) C dX5_sweeps_0 rfl 0 rfl ?_
  refine r_iload_n (pc := 1) C dX5_sweeps_1 rfl 1 rfl ?_
  refine r_iconst (pc := 2) C dX5_sweeps_2 ?_
  refine r_cVi (pc := 3) C (c_its_0 g t (by omega) ρ σ hS) yX5_its_w O_41 rfl rfl t_875 ⟨by decide, by decide⟩ (Nat.le_of_ble_eq_true rfl) rfl dX5_sweeps_3 ?_
  by_cases hs6_2 : ρ 3 t = 2
  · refine r_tabIn C 2 42 dX5_sweeps_6 hs6_2 ⟨by decide, by decide⟩ (by decide) (by decide) rfl (by decide) ?_
    refine r_bipush (pc := 42) C dX5_sweeps_42 (by decide) ?_
    exact r_reti (pc := 44) C (by (first | rw [hs6_2] | rw [hs6_3] | rw [hs6_4] | rw [hs6_5] | rw [hs6_6] | (rcases (show ρ 3 t = 0 ∨ ρ 3 t = 1 by omega) with q | q <;> rw [q])) <;> rfl) (rfl) dX5_sweeps_44
  by_cases hs6_3 : ρ 3 t = 3
  · refine r_tabIn C 3 45 dX5_sweeps_6 hs6_3 ⟨by decide, by decide⟩ (by decide) (by decide) rfl (by decide) ?_
    refine r_bipush (pc := 45) C dX5_sweeps_45 (by decide) ?_
    exact r_reti (pc := 47) C (by (first | rw [hs6_2] | rw [hs6_3] | rw [hs6_4] | rw [hs6_5] | rw [hs6_6] | (rcases (show ρ 3 t = 0 ∨ ρ 3 t = 1 by omega) with q | q <;> rw [q])) <;> rfl) (rfl) dX5_sweeps_47
  by_cases hs6_4 : ρ 3 t = 4
  · refine r_tabIn C 4 45 dX5_sweeps_6 hs6_4 ⟨by decide, by decide⟩ (by decide) (by decide) rfl (by decide) ?_
    refine r_bipush (pc := 45) C dX5_sweeps_45 (by decide) ?_
    exact r_reti (pc := 47) C (by (first | rw [hs6_2] | rw [hs6_3] | rw [hs6_4] | rw [hs6_5] | rw [hs6_6] | (rcases (show ρ 3 t = 0 ∨ ρ 3 t = 1 by omega) with q | q <;> rw [q])) <;> rfl) (rfl) dX5_sweeps_47
  by_cases hs6_5 : ρ 3 t = 5
  · refine r_tabIn C 5 48 dX5_sweeps_6 hs6_5 ⟨by decide, by decide⟩ (by decide) (by decide) rfl (by decide) ?_
    refine r_iconst (pc := 48) C dX5_sweeps_48 ?_
    exact r_reti (pc := 49) C (by (first | rw [hs6_2] | rw [hs6_3] | rw [hs6_4] | rw [hs6_5] | rw [hs6_6] | (rcases (show ρ 3 t = 0 ∨ ρ 3 t = 1 by omega) with q | q <;> rw [q])) <;> rfl) (rfl) dX5_sweeps_49
  by_cases hs6_6 : ρ 3 t = 6
  · refine r_tabIn C 6 40 dX5_sweeps_6 hs6_6 ⟨by decide, by decide⟩ (by decide) (by decide) rfl (by decide) ?_
    refine r_iconst (pc := 40) C dX5_sweeps_40 ?_
    exact r_reti (pc := 41) C (by (first | rw [hs6_2] | rw [hs6_3] | rw [hs6_4] | rw [hs6_5] | rw [hs6_6] | (rcases (show ρ 3 t = 0 ∨ ρ 3 t = 1 by omega) with q | q <;> rw [q])) <;> rfl) (rfl) dX5_sweeps_41
  refine r_tabOut (pc := 6) C 50 dX5_sweeps_6 ⟨by omega, by omega⟩ (by omega) (by decide) ?_
  refine r_iconst (pc := 50) C dX5_sweeps_50 ?_
  exact r_reti (pc := 51) C (by (first | rw [hs6_2] | rw [hs6_3] | rw [hs6_4] | rw [hs6_5] | rw [hs6_6] | (rcases (show ρ 3 t = 0 ∨ ρ 3 t = 1 by omega) with q | q <;> rw [q])) <;> rfl) (rfl) dX5_sweeps_51
set_option maxHeartbeats 4000000 in
set_option maxRecDepth 100000 in
theorem c_adds (g : Gt) (k : Int) (f : Nat) (ρ σ : Sg) (hS : σ 42 = mkS ρ) (hn : 0 ≤ ρ 0 7 ∧ ρ 0 7 < 8) : Mt g yX5_adds cX5_adds 5 (some FieldType.int) 1 [.ref (gA g 41), .int (iI (k)), .int (iI ((f : Int)))] σ (pI (ρ 0 7) (us σ 42 (mkS (adS_0 k f ρ)))) := by
  refine mt_of (own := RX5) (by decide) rfl (Nat.le_of_ble_eq_true rfl) (fun E C => ?_)
  show J g E (pI (ρ 0 7) (us σ 42 (mkS (adS_0 k f ρ)))) 5 0 [(0, .ref (gA g 41)), (1, .int (iI (k))), (2, .int (iI ((f : Int))))] [] σ
  refine r_aload_n (pc := 0) C dX5_adds_0 rfl 0 rfl ?_
  refine r_getR5 (pc := 1) C 0 (k' := 42) rfl O_41 (by decide) rfl t_780 dX5_adds_1 ?_
  refine r_iconst (pc := 4) C dX5_adds_4 ?_
  refine r_iald (pc := 5) C 1 A_42 (by omega) (by omega) dX5_adds_5 ?_
  refine r_top (show _ = ρ 0 7 from (congrFun hS _).trans (mkS_at rfl)) ?_
  refine r_istore_n (pc := 6) C dX5_adds_6 rfl (by decide) [1, 2, 3, 0] (lv' := [(0, .ref (gA g 41)), (1, .int (iI (k))), (2, .int (iI ((f : Int)))), (3, .int (iI (ρ 0 7)))]) rfl ?_
  refine r_aload_n (pc := 7) C dX5_adds_7 rfl 0 rfl ?_
  refine r_getR5 (pc := 8) C 0 (k' := 42) rfl O_41 (by decide) rfl t_780 dX5_adds_8 ?_
  refine r_iload_n (pc := 11) C dX5_adds_11 rfl 3 rfl ?_
  refine r_iconst (pc := 12) C dX5_adds_12 ?_
  refine r_cSi (pc := 13) C (c_place g (ρ 0 7) 0 σ) yX5_place_w rfl t_879 ⟨by decide, by decide⟩ (Nat.le_of_ble_eq_true rfl) rfl dX5_adds_13 ?_
  refine r_iload_n (pc := 16) C dX5_adds_16 rfl 1 rfl ?_
  refine r_iast (pc := 17) C (17 + 3 * ((ρ 0 7).toNat)) A_42 (by omega) (by omega) dX5_adds_17 ?_
  refine r_sg (wrS hS (cidx_K (by omega))) ?_
  refine r_aload_n (pc := 18) C dX5_adds_18 rfl 0 rfl ?_
  refine r_getR5 (pc := 19) C 0 (k' := 42) rfl O_41 (by decide) rfl t_780 dX5_adds_19 ?_
  refine r_iload_n (pc := 22) C dX5_adds_22 rfl 3 rfl ?_
  refine r_iconst (pc := 23) C dX5_adds_23 ?_
  refine r_cSi (pc := 24) C (c_place g (ρ 0 7) 1 (us σ 42 (mkS (wr ρ 3 ((ρ 0 7).toNat) k)))) yX5_place_w rfl t_879 ⟨by decide, by decide⟩ (Nat.le_of_ble_eq_true rfl) rfl dX5_adds_24 ?_
  refine r_iload_n (pc := 27) C dX5_adds_27 rfl 2 rfl ?_
  refine r_iast (pc := 28) C (18 + 3 * ((ρ 0 7).toNat)) A_42 (by omega) (by omega) dX5_adds_28 ?_
  refine r_sg (wrS2 (cidx_A (by omega))) ?_
  refine r_aload_n (pc := 29) C dX5_adds_29 rfl 0 rfl ?_
  refine r_getR5 (pc := 30) C 0 (k' := 42) rfl O_41 (by decide) rfl t_780 dX5_adds_30 ?_
  refine r_iload_n (pc := 33) C dX5_adds_33 rfl 3 rfl ?_
  refine r_iconst (pc := 34) C dX5_adds_34 ?_
  refine r_cSi (pc := 35) C (c_place g (ρ 0 7) 2 (us σ 42 (mkS (wr (wr ρ 3 ((ρ 0 7).toNat) k) 4 ((ρ 0 7).toNat) (f : Int))))) yX5_place_w rfl t_879 ⟨by decide, by decide⟩ (Nat.le_of_ble_eq_true rfl) rfl dX5_adds_35 ?_
  refine r_iconst (pc := 38) C dX5_adds_38 ?_
  refine r_iast (pc := 39) C (19 + 3 * ((ρ 0 7).toNat)) A_42 (by omega) (by omega) dX5_adds_39 ?_
  refine r_sg (wrS2 (cidx_G (by omega))) ?_
  refine r_iconst (pc := 40) C dX5_adds_40 ?_
  refine r_istore (pc := 41) C dX5_adds_41 (by decide) [1, 2, 3, 4, 0] (lv' := [(0, .ref (gA g 41)), (1, .int (iI (k))), (2, .int (iI ((f : Int)))), (3, .int (iI (ρ 0 7))), (4, .int (iI (0)))]) rfl ?_
  have L43 : ∀ (n_ : Nat) (i : Nat) (x43_4 : Int) (s43 : Sg), 12 - i < n_ → (i ≤ 12) → x43_4 = (i : Int) → s43 = (us σ 42 (mkS (us (wr (wr (wr ρ 3 ((ρ 0 7).toNat) k) 4 ((ρ 0 7).toNat) (f : Int)) 5 ((ρ 0 7).toNat) 0) 6 (zr (ρ 6) (ρ 0 7).toNat i)))) → J g E (pI (ρ 0 7) (us σ 42 (mkS (adS_0 k f ρ)))) 5 43 [(0, .ref (gA g 41)), (1, .int (iI (k))), (2, .int (iI ((f : Int)))), (3, .int (iI (ρ 0 7))), (4, .int (iI (x43_4)))] [] s43 := by
    intro n_
    induction n_ with
    | zero => intro i x43_4 s43 hm_; exact absurd hm_ (Nat.not_lt_zero _)
    | succ n_ ih43 =>
      intro i x43_4 s43 hm43 hi43_0 e43_0 es43
      subst e43_0 es43
      refine r_iload (pc := 43) C dX5_adds_43 4 rfl ?_
      refine r_bipush (pc := 45) C dX5_adds_45 (by decide) ?_
      refine r_icmp_ge (pc := 47) C 68 ⟨by omega, by omega⟩ ⟨by omega, by omega⟩ dX5_adds_47 (by decide) (fun h47 => ?_) (fun h47 => ?_)
      · skip
        refine r_aload_n (pc := 68) C dX5_adds_68 rfl 0 rfl ?_
        refine r_getR5 (pc := 69) C 0 (k' := 42) rfl O_41 (by decide) rfl t_780 dX5_adds_69 ?_
        refine r_iconst (pc := 72) C dX5_adds_72 ?_
        refine r_dup2 (pc := 73) C rfl rfl dX5_adds_73 ?_
        refine r_iald (pc := 74) C 1 A_42 (by omega) (by omega) dX5_adds_74 ?_
        refine r_top (show _ = ρ 0 7 from (congrFun (us_s _ _ _) _).trans (((((mkS_at rfl).trans (us_o2 (k := 6) (k' := 0) _ _ _ (by omega))).trans (wr_o2 (k := 5) (k' := 0) _ _ _ _ (by omega))).trans (wr_o2 (k := 4) (k' := 0) _ _ _ _ (by omega))).trans (wr_o2 (k := 3) (k' := 0) _ _ _ _ (by omega)))) ?_
        refine r_iconst (pc := 75) C dX5_adds_75 ?_
        refine r_iadd (pc := 76) C dX5_adds_76 ?_
        refine r_iast (pc := 77) C 1 A_42 (by omega) (by omega) dX5_adds_77 ?_
        refine r_sg (wrS2 rfl) ?_
        refine r_iload_n (pc := 78) C dX5_adds_78 rfl 3 rfl ?_
        exact r_reti (pc := 79) C (rfl) (by rw [show i = 12 by omega]; rfl) dX5_adds_79
      · skip
        refine r_aload_n (pc := 50) C dX5_adds_50 rfl 0 rfl ?_
        refine r_getR5 (pc := 51) C 0 (k' := 42) rfl O_41 (by decide) rfl t_780 dX5_adds_51 ?_
        refine r_iload_n (pc := 54) C dX5_adds_54 rfl 3 rfl ?_
        refine r_iload (pc := 55) C dX5_adds_55 4 rfl ?_
        refine r_cSi (pc := 57) C (c_markAt g (ρ 0 7) (i : Int) (us σ 42 (mkS (us (wr (wr (wr ρ 3 ((ρ 0 7).toNat) k) 4 ((ρ 0 7).toNat) (f : Int)) 5 ((ρ 0 7).toNat) 0) 6 (zr (ρ 6) (ρ 0 7).toNat i))))) yX5_markAt_w rfl t_868 ⟨by decide, by decide⟩ (Nat.le_of_ble_eq_true rfl) rfl dX5_adds_57 ?_
        refine r_iconst (pc := 60) C dX5_adds_60 ?_
        refine r_iast (pc := 61) C (41 + (12 * ((ρ 0 7).toNat) + i)) A_42 (by omega) (by omega) dX5_adds_61 ?_
        refine r_sg (wrS2 (cidx_M (by omega))) ?_
        refine r_iinc (pc := 62) C dX5_adds_62 4 rfl (by decide) [1, 2, 3, 4, 0] (lv' := [(0, .ref (gA g 41)), (1, .int (iI (k))), (2, .int (iI ((f : Int)))), (3, .int (iI (ρ 0 7))), (4, .int (iI ((i : Int) + 1)))]) rfl ?_
        refine r_goto (pc := 65) C 43 dX5_adds_65 (by decide) ?_
        exact ih43 (i + 1) _ _ (by omega) (by omega) (by omega) (congrArg (fun q => us σ 42 (mkS q)) ((wr_us _ _ _ _ _).trans (congrArg (us _ 6) (zr_s _ _ _))))
  exact L43 _ 0 _ _ (Nat.lt_succ_self _) (by omega) (rfl) (congrArg (fun q => us σ 42 (mkS q)) (by rw [zr_0]; exact (us_idx rfl).symm))
set_option maxHeartbeats 4000000 in
set_option maxRecDepth 100000 in
theorem c_swaps (g : Gt) (x y : Nat) (hx : x < 8) (hy : y < 8) (hxy : x ≠ y) (ρ σ : Sg) (hS : σ 42 = mkS ρ) (hA : rgA (ρ 4)) : Mt g yX5_swaps cX5_swaps 4 (some FieldType.int) 2 [.ref (gA g 41), .int (iI ((x : Int))), .int (iI ((y : Int)))] σ (pI (if ρ 4 y = ρ 4 x then 0 else 1) (us σ 42 (mkS (wr (wr ρ 4 x (ρ 4 y)) 4 y (ρ 4 x))))) := by
  have ha := hA x hx
  have hb := hA y hy
  refine mt_of (own := RX5) (by decide) rfl (Nat.le_of_ble_eq_true rfl) (fun E C => ?_)
  show J g E (pI (if ρ 4 y = ρ 4 x then 0 else 1) (us σ 42 (mkS (wr (wr ρ 4 x (ρ 4 y)) 4 y (ρ 4 x))))) 4 0 [(0, .ref (gA g 41)), (1, .int (iI ((x : Int)))), (2, .int (iI ((y : Int))))] [] σ
  refine r_aload_n (pc := 0) C dX5_swaps_0 rfl 0 rfl ?_
  refine r_iload_n (pc := 1) C dX5_swaps_1 rfl 1 rfl ?_
  refine r_iconst (pc := 2) C dX5_swaps_2 ?_
  refine r_cVi (pc := 3) C (c_its_1 g x (by omega) ρ σ hS) yX5_its_w O_41 rfl rfl t_875 ⟨by decide, by decide⟩ (Nat.le_of_ble_eq_true rfl) rfl dX5_swaps_3 ?_
  refine r_istore_n (pc := 6) C dX5_swaps_6 rfl (by decide) [1, 2, 3, 0] (lv' := [(0, .ref (gA g 41)), (1, .int (iI ((x : Int)))), (2, .int (iI ((y : Int)))), (3, .int (iI (ρ 4 x)))]) rfl ?_
  refine r_aload_n (pc := 7) C dX5_swaps_7 rfl 0 rfl ?_
  refine r_getR5 (pc := 8) C 0 (k' := 42) rfl O_41 (by decide) rfl t_780 dX5_swaps_8 ?_
  refine r_iload_n (pc := 11) C dX5_swaps_11 rfl 1 rfl ?_
  refine r_iconst (pc := 12) C dX5_swaps_12 ?_
  refine r_cSi (pc := 13) C (c_place g (x : Int) 1 σ) yX5_place_w rfl t_879 ⟨by decide, by decide⟩ (Nat.le_of_ble_eq_true rfl) rfl dX5_swaps_13 ?_
  refine r_aload_n (pc := 16) C dX5_swaps_16 rfl 0 rfl ?_
  refine r_iload_n (pc := 17) C dX5_swaps_17 rfl 2 rfl ?_
  refine r_iconst (pc := 18) C dX5_swaps_18 ?_
  refine r_cVi (pc := 19) C (c_its_1 g y (by omega) ρ σ hS) yX5_its_w O_41 rfl rfl t_875 ⟨by decide, by decide⟩ (Nat.le_of_ble_eq_true rfl) rfl dX5_swaps_19 ?_
  refine r_iast (pc := 22) C (18 + 3 * x) A_42 (by omega) (by omega) dX5_swaps_22 ?_
  refine r_sg (wrS hS (cidx_A (by omega))) ?_
  refine r_aload_n (pc := 23) C dX5_swaps_23 rfl 0 rfl ?_
  refine r_getR5 (pc := 24) C 0 (k' := 42) rfl O_41 (by decide) rfl t_780 dX5_swaps_24 ?_
  refine r_iload_n (pc := 27) C dX5_swaps_27 rfl 2 rfl ?_
  refine r_iconst (pc := 28) C dX5_swaps_28 ?_
  refine r_cSi (pc := 29) C (c_place g (y : Int) 1 (us σ 42 (mkS (wr ρ 4 x (ρ 4 y))))) yX5_place_w rfl t_879 ⟨by decide, by decide⟩ (Nat.le_of_ble_eq_true rfl) rfl dX5_swaps_29 ?_
  refine r_iload_n (pc := 32) C dX5_swaps_32 rfl 3 rfl ?_
  refine r_iast (pc := 33) C (18 + 3 * y) A_42 (by omega) (by omega) dX5_swaps_33 ?_
  refine r_sg (wrS2 (cidx_A (by omega))) ?_
  refine r_aload_n (pc := 34) C dX5_swaps_34 rfl 0 rfl ?_
  refine r_iload_n (pc := 35) C dX5_swaps_35 rfl 1 rfl ?_
  refine r_iconst (pc := 36) C dX5_swaps_36 ?_
  refine r_cVi (pc := 37) C (c_its_1 g x (by omega) (wr (wr ρ 4 x (ρ 4 y)) 4 y (ρ 4 x)) (us σ 42 (mkS (wr (wr ρ 4 x (ρ 4 y)) 4 y (ρ 4 x)))) (us_s _ _ _)) yX5_its_w O_41 rfl rfl t_875 ⟨by decide, by decide⟩ (Nat.le_of_ble_eq_true rfl) rfl dX5_swaps_37 ?_
  refine r_top (show _ = ρ 4 y by rw [wr_s, up_n _ _ hxy, wr_s2]) ?_
  skip
  refine r_iload_n (pc := 40) C dX5_swaps_40 rfl 3 rfl ?_
  refine r_icmp_ne (pc := 41) C 48 ⟨by omega, by omega⟩ ⟨by omega, by omega⟩ dX5_swaps_41 (by decide) (fun h41 => ?_) (fun h41 => ?_)
  · skip
    refine r_iconst (pc := 48) C dX5_swaps_48 ?_
    exact r_reti (pc := 49) C (by first | rw [if_pos (by omega)] | rw [if_neg (by omega)]) (rfl) dX5_swaps_49
  · skip
    refine r_iconst (pc := 44) C dX5_swaps_44 ?_
    refine r_goto (pc := 45) C 49 dX5_swaps_45 (by decide) ?_
    exact r_reti (pc := 49) C (by first | rw [if_pos (by omega)] | rw [if_neg (by omega)]) (rfl) dX5_swaps_49
set_option maxHeartbeats 4000000 in
set_option maxRecDepth 100000 in
theorem c_blows (g : Gt) (f : Nat) (hf : f < 12) (s : Int) (hs : -11 ≤ s ∧ s ≤ 11) (ρ σ : Sg) (hS : σ 42 = mkS ρ) (hD : rgD (ρ 1)) : Mt g yX5_blows cX5_blows 5 (some FieldType.int) 1 [.ref (gA g 41), .int (iI ((f : Int))), .int (iI (s))] σ (pI (ρ 1 f) (us σ 42 (mkS (us ρ 1 (bwD (ρ 1) f s))))) := by
  have hd := hD f hf
  have h1 : rgD (up (ρ 1) f 0) := rgD_up hD (by omega)
  have h2 := h1 (md ((f : Int) + s)) (md_lt _)
  have h4 := md_lt ((f : Int) + s)
  refine mt_of (own := RX5) (by decide) rfl (Nat.le_of_ble_eq_true rfl) (fun E C => ?_)
  show J g E (pI (ρ 1 f) (us σ 42 (mkS (us ρ 1 (bwD (ρ 1) f s))))) 5 0 [(0, .ref (gA g 41)), (1, .int (iI ((f : Int)))), (2, .int (iI (s)))] [] σ
  refine r_aload_n (pc := 0) C dX5_blows_0 rfl 0 rfl ?_
  refine r_getR5 (pc := 1) C 0 (k' := 42) rfl O_41 (by decide) rfl t_780 dX5_blows_1 ?_
  refine r_iconst (pc := 4) C dX5_blows_4 ?_
  refine r_iload_n (pc := 5) C dX5_blows_5 rfl 1 rfl ?_
  refine r_iadd (pc := 6) C dX5_blows_6 ?_
  refine r_iald (pc := 7) C (5 + f) A_42 (by omega) (by omega) dX5_blows_7 ?_
  refine r_top (show _ = ρ 1 f from (congrFun hS _).trans (mkS_at (cidx_D (by omega)))) ?_
  refine r_istore_n (pc := 8) C dX5_blows_8 rfl (by decide) [1, 2, 3, 0] (lv' := [(0, .ref (gA g 41)), (1, .int (iI ((f : Int)))), (2, .int (iI (s))), (3, .int (iI (ρ 1 f)))]) rfl ?_
  refine r_iconst (pc := 9) C dX5_blows_9 ?_
  refine r_iload_n (pc := 10) C dX5_blows_10 rfl 1 rfl ?_
  refine r_iload_n (pc := 11) C dX5_blows_11 rfl 2 rfl ?_
  refine r_iadd (pc := 12) C dX5_blows_12 ?_
  refine r_cSi (pc := 13) C (c_round g ((f : Int) + s) (by omega) σ) yX5_round_w rfl t_955 ⟨by decide, by decide⟩ (Nat.le_of_ble_eq_true rfl) rfl dX5_blows_13 ?_
  refine r_iadd (pc := 16) C dX5_blows_16 ?_
  refine r_istore (pc := 17) C dX5_blows_17 (by decide) [1, 2, 3, 4, 0] (lv' := [(0, .ref (gA g 41)), (1, .int (iI ((f : Int)))), (2, .int (iI (s))), (3, .int (iI (ρ 1 f))), (4, .int (iI (5 + ((md ((f : Int) + s) : Nat) : Int))))]) rfl ?_
  refine r_aload_n (pc := 19) C dX5_blows_19 rfl 0 rfl ?_
  refine r_getR5 (pc := 20) C 0 (k' := 42) rfl O_41 (by decide) rfl t_780 dX5_blows_20 ?_
  refine r_iconst (pc := 23) C dX5_blows_23 ?_
  refine r_iload_n (pc := 24) C dX5_blows_24 rfl 1 rfl ?_
  refine r_iadd (pc := 25) C dX5_blows_25 ?_
  refine r_iconst (pc := 26) C dX5_blows_26 ?_
  refine r_iast (pc := 27) C (5 + f) A_42 (by omega) (by omega) dX5_blows_27 ?_
  refine r_sg (wrS hS (cidx_D (by omega))) ?_
  refine r_aload_n (pc := 28) C dX5_blows_28 rfl 0 rfl ?_
  refine r_getR5 (pc := 29) C 0 (k' := 42) rfl O_41 (by decide) rfl t_780 dX5_blows_29 ?_
  refine r_iload (pc := 32) C dX5_blows_32 4 rfl ?_
  refine r_aload_n (pc := 34) C dX5_blows_34 rfl 0 rfl ?_
  refine r_getR5 (pc := 35) C 0 (k' := 42) rfl O_41 (by decide) rfl t_780 dX5_blows_35 ?_
  refine r_iload (pc := 38) C dX5_blows_38 4 rfl ?_
  refine r_iald (pc := 40) C (5 + (md ((f : Int) + s))) A_42 (by omega) (by omega) dX5_blows_40 ?_
  refine r_top (show _ = (wr ρ 1 f 0) 1 (md ((f : Int) + s)) from (congrFun (us_s _ _ _) _).trans (mkS_at (cidx_D (by omega)))) ?_
  refine r_top (show (wr ρ 1 f 0) 1 (md ((f : Int) + s)) = up (ρ 1) f 0 (md ((f : Int) + s)) from by rw [wr_s]) ?_
  refine r_iload_n (pc := 41) C dX5_blows_41 rfl 3 rfl ?_
  refine r_iadd (pc := 42) C dX5_blows_42 ?_
  refine r_sipush (pc := 43) C dX5_blows_43 (by decide) ?_
  refine r_cSi (pc := 46) C (c_heldTo g ((up (ρ 1) f 0 (md ((f : Int) + s))) + (ρ 1 f)) 9999 ⟨by omega, by omega⟩ ⟨by omega, by omega⟩ (us σ 42 (mkS (wr ρ 1 f 0)))) yX5_heldTo_w rfl t_958 ⟨by decide, by decide⟩ (Nat.le_of_ble_eq_true rfl) rfl dX5_blows_46 ?_
  refine r_iast (pc := 49) C (5 + (md ((f : Int) + s))) A_42 (by omega) (by omega) dX5_blows_49 ?_
  refine r_sg (wrS2 (cidx_D (by omega))) ?_
  refine r_iload_n (pc := 50) C dX5_blows_50 rfl 3 rfl ?_
  exact r_reti (pc := 51) C (rfl) (congrArg (fun q => us σ 42 (mkS q)) (by unfold wr; rw [us_s, us_us]; unfold bwD; rw [Int.min_comm])) dX5_blows_51
set_option maxHeartbeats 4000000 in
set_option maxRecDepth 100000 in
theorem c_gets (g : Gt) (t : Nat) (ht : t < 8) (x : Int) (hx : 0 ≤ x ∧ x ≤ 99999) (ρ σ : Sg) (hS : σ 42 = mkS ρ) (hG : rgG (ρ 5)) : Mt g yX5_gets cX5_gets 3 none 2 [.ref (gA g 41), .int (iI ((t : Int))), .int (iI (x))] σ (pV (us σ 42 (mkS (wr ρ 5 t (gn (ρ 5 t) x))))) := by
  have hg := hG t ht
  refine mt_of (own := RX5) (by decide) rfl (Nat.le_of_ble_eq_true rfl) (fun E C => ?_)
  show J g E (pV (us σ 42 (mkS (wr ρ 5 t (gn (ρ 5 t) x))))) 3 0 [(0, .ref (gA g 41)), (1, .int (iI ((t : Int)))), (2, .int (iI (x)))] [] σ
  refine r_aload_n (pc := 0) C dX5_gets_0 rfl 0 rfl ?_
  refine r_getR5 (pc := 1) C 0 (k' := 42) rfl O_41 (by decide) rfl t_780 dX5_gets_1 ?_
  refine r_iload_n (pc := 4) C dX5_gets_4 rfl 1 rfl ?_
  refine r_iconst (pc := 5) C dX5_gets_5 ?_
  refine r_cSi (pc := 6) C (c_place g (t : Int) 2 σ) yX5_place_w rfl t_879 ⟨by decide, by decide⟩ (Nat.le_of_ble_eq_true rfl) rfl dX5_gets_6 ?_
  refine r_aload_n (pc := 9) C dX5_gets_9 rfl 0 rfl ?_
  refine r_iload_n (pc := 10) C dX5_gets_10 rfl 1 rfl ?_
  refine r_iconst (pc := 11) C dX5_gets_11 ?_
  refine r_cVi (pc := 12) C (c_its_2 g t (by omega) ρ σ hS) yX5_its_w O_41 rfl rfl t_875 ⟨by decide, by decide⟩ (Nat.le_of_ble_eq_true rfl) rfl dX5_gets_12 ?_
  refine r_iload_n (pc := 15) C dX5_gets_15 rfl 2 rfl ?_
  refine r_iadd (pc := 16) C dX5_gets_16 ?_
  refine r_ldc (pc := 17) C 99999 t_966 (by decide) dX5_gets_17 ?_
  refine r_cSi (pc := 19) C (c_heldTo g ((ρ 5 t) + x) 99999 ⟨by omega, by omega⟩ ⟨by omega, by omega⟩ σ) yX5_heldTo_w rfl t_958 ⟨by decide, by decide⟩ (Nat.le_of_ble_eq_true rfl) rfl dX5_gets_19 ?_
  refine r_iast (pc := 22) C (19 + 3 * t) A_42 (by omega) (by omega) dX5_gets_22 ?_
  refine r_sg (wrS hS (cidx_G (by omega))) ?_
  exact r_retv (pc := 23) C (rfl) dX5_gets_23
set_option maxHeartbeats 4000000 in
set_option maxRecDepth 100000 in
theorem c_m_sweep (g : Gt) (t : Nat) (ht : t < 8) (ρ σ : Sg) (hS : σ 42 = mkS ρ) (hD : rgD (ρ 1)) (hK : rgK (ρ 3)) (hA : rgA (ρ 4)) (hG : rgG (ρ 5)) : Mt g yX5_sweep cX5_sweep 5 none 3 [.ref (gA g 41), .int (iI ((t : Int)))] σ (pV (us σ 42 (mkS (us (us ρ 1 (sw1 (ρ 3) (ρ 4) t (ρ 1, ρ 5)).1) 5 (sw1 (ρ 3) (ρ 4) t (ρ 1, ρ 5)).2)))) := by
  have hk := hK t ht
  have ha := hA t ht
  have hg := hG t ht
  have hd := hD (ρ 4 t).toNat (by omega)
  have h0 := stab1_rng (ρ 3 t).toNat
  refine mt_of (own := RX5) (by decide) rfl (Nat.le_of_ble_eq_true rfl) (fun E C => ?_)
  show J g E (pV (us σ 42 (mkS (us (us ρ 1 (sw1 (ρ 3) (ρ 4) t (ρ 1, ρ 5)).1) 5 (sw1 (ρ 3) (ρ 4) t (ρ 1, ρ 5)).2)))) 5 0 [(0, .ref (gA g 41)), (1, .int (iI ((t : Int))))] [] σ
  refine r_iconst (pc := 0) C dX5_sweep_0 ?_
  refine r_aload_n (pc := 1) C dX5_sweep_1 rfl 0 rfl ?_
  refine r_iload_n (pc := 2) C dX5_sweep_2 rfl 1 rfl ?_
  refine r_iconst (pc := 3) C dX5_sweep_3 ?_
  refine r_cVi (pc := 4) C (c_its_1 g t (by omega) ρ σ hS) yX5_its_w O_41 rfl rfl t_875 ⟨by decide, by decide⟩ (Nat.le_of_ble_eq_true rfl) rfl dX5_sweep_4 ?_
  refine r_iadd (pc := 7) C dX5_sweep_7 ?_
  refine r_istore_n (pc := 8) C dX5_sweep_8 rfl (by decide) [1, 2, 0] (lv' := [(0, .ref (gA g 41)), (1, .int (iI ((t : Int)))), (2, .int (iI (5 + (ρ 4 t))))]) rfl ?_
  refine r_aload_n (pc := 9) C dX5_sweep_9 rfl 0 rfl ?_
  refine r_iload_n (pc := 10) C dX5_sweep_10 rfl 1 rfl ?_
  refine r_cVi (pc := 11) C (c_sweeps g t (by omega) ρ σ hS hK) yX5_sweeps_w O_41 rfl rfl t_913 ⟨by decide, by decide⟩ (Nat.le_of_ble_eq_true rfl) rfl dX5_sweep_11 ?_
  refine r_aload_n (pc := 14) C dX5_sweep_14 rfl 0 rfl ?_
  refine r_getR5 (pc := 15) C 0 (k' := 42) rfl O_41 (by decide) rfl t_780 dX5_sweep_15 ?_
  refine r_iload_n (pc := 18) C dX5_sweep_18 rfl 2 rfl ?_
  refine r_iald (pc := 19) C (5 + (ρ 4 t).toNat) A_42 (by omega) (by omega) dX5_sweep_19 ?_
  refine r_top (show _ = ρ 1 ((ρ 4 t).toNat) from (congrFun hS _).trans (mkS_at (cidx_D (by omega)))) ?_
  refine r_cSi (pc := 20) C (c_heldTo g (stab 1 (ρ 3 t).toNat) (ρ 1 ((ρ 4 t).toNat)) ⟨by omega, by omega⟩ ⟨by omega, by omega⟩ σ) yX5_heldTo_w rfl t_958 ⟨by decide, by decide⟩ (Nat.le_of_ble_eq_true rfl) rfl dX5_sweep_20 ?_
  refine r_istore_n (pc := 23) C dX5_sweep_23 rfl (by decide) [1, 2, 3, 0] (lv' := [(0, .ref (gA g 41)), (1, .int (iI ((t : Int)))), (2, .int (iI (5 + (ρ 4 t)))), (3, .int (iI (min (stab 1 (ρ 3 t).toNat) (ρ 1 ((ρ 4 t).toNat)))))]) rfl ?_
  refine r_aload_n (pc := 24) C dX5_sweep_24 rfl 0 rfl ?_
  refine r_iload_n (pc := 25) C dX5_sweep_25 rfl 1 rfl ?_
  refine r_iconst (pc := 26) C dX5_sweep_26 ?_
  refine r_cVi (pc := 27) C (c_its_0 g t (by omega) ρ σ hS) yX5_its_w O_41 rfl rfl t_875 ⟨by decide, by decide⟩ (Nat.le_of_ble_eq_true rfl) rfl dX5_sweep_27 ?_
  refine r_istore (pc := 30) C dX5_sweep_30 (by decide) [1, 2, 3, 4, 0] (lv' := [(0, .ref (gA g 41)), (1, .int (iI ((t : Int)))), (2, .int (iI (5 + (ρ 4 t)))), (3, .int (iI (min (stab 1 (ρ 3 t).toNat) (ρ 1 ((ρ 4 t).toNat))))), (4, .int (iI (ρ 3 t)))]) rfl ?_
  refine r_aload_n (pc := 32) C dX5_sweep_32 rfl 0 rfl ?_
  refine r_getR5 (pc := 33) C 0 (k' := 42) rfl O_41 (by decide) rfl t_780 dX5_sweep_33 ?_
  refine r_iload_n (pc := 36) C dX5_sweep_36 rfl 2 rfl ?_
  refine r_dup2 (pc := 37) C rfl rfl dX5_sweep_37 ?_
  refine r_iald (pc := 38) C (5 + (ρ 4 t).toNat) A_42 (by omega) (by omega) dX5_sweep_38 ?_
  refine r_top (show _ = ρ 1 ((ρ 4 t).toNat) from (congrFun hS _).trans (mkS_at (cidx_D (by omega)))) ?_
  refine r_iload_n (pc := 39) C dX5_sweep_39 rfl 3 rfl ?_
  refine r_isub (pc := 40) C dX5_sweep_40 ?_
  refine r_iast (pc := 41) C (5 + (ρ 4 t).toNat) A_42 (by omega) (by omega) dX5_sweep_41 ?_
  refine r_sg (wrS hS (cidx_D (by omega))) ?_
  refine r_aload_n (pc := 42) C dX5_sweep_42 rfl 0 rfl ?_
  refine r_iload_n (pc := 43) C dX5_sweep_43 rfl 1 rfl ?_
  refine r_iload (pc := 44) C dX5_sweep_44 4 rfl ?_
  refine r_iconst (pc := 46) C dX5_sweep_46 ?_
  refine r_icmp_ne (pc := 47) C 54 ⟨by omega, by omega⟩ ⟨by omega, by omega⟩ dX5_sweep_47 (by decide) (fun h47 => ?_) (fun h47 => ?_)
  · skip
    refine r_iload (pc := 54) C dX5_sweep_54 4 rfl ?_
    refine r_iconst (pc := 56) C dX5_sweep_56 ?_
    refine r_icmp_ne (pc := 57) C 66 ⟨by omega, by omega⟩ ⟨by omega, by omega⟩ dX5_sweep_57 (by decide) (fun h57 => ?_) (fun h57 => ?_)
    · skip
      refine r_iconst (pc := 66) C dX5_sweep_66 ?_
      refine r_cVv (pc := 67) C (c_gets g t (by omega) 0 ⟨by omega, by omega⟩ (wr ρ 1 ((ρ 4 t).toNat) ((ρ 1 ((ρ 4 t).toNat)) - (min (stab 1 (ρ 3 t).toNat) (ρ 1 ((ρ 4 t).toNat))))) (us σ 42 (mkS (wr ρ 1 ((ρ 4 t).toNat) ((ρ 1 ((ρ 4 t).toNat)) - (min (stab 1 (ρ 3 t).toNat) (ρ 1 ((ρ 4 t).toNat))))))) (us_s _ _ _) hG) yX5_gets_w O_41 rfl rfl t_984 ⟨by decide, by decide⟩ (Nat.le_of_ble_eq_true rfl) rfl dX5_sweep_67 ?_
      refine r_sg (us_us _ _ _ _) ?_
      refine r_sg (show _ = (us σ 42 (mkS (wr (wr ρ 1 ((ρ 4 t).toNat) ((ρ 1 ((ρ 4 t).toNat)) - (min (stab 1 (ρ 3 t).toNat) (ρ 1 ((ρ 4 t).toNat))))) 5 t (gn ((ρ 5) t) 0)))) from rfl) ?_
      exact r_retv (pc := 70) C (congrArg (fun q => us σ 42 (mkS q)) (by unfold sw1; (first | (rw [if_pos (by omega)]; rfl) | (rw [if_neg (by omega), if_pos (by omega)]; rfl) | (rw [if_neg (by omega), if_neg (by omega)]; show wr _ 5 t (gn (ρ 5 t) 0) = _; rw [gn_0 hg.2]; exact (us_idx (up_id _ _)).trans (us_idx rfl).symm)))) dX5_sweep_70
    · skip
      refine r_iload_n (pc := 60) C dX5_sweep_60 rfl 3 rfl ?_
      refine r_iconst (pc := 61) C dX5_sweep_61 ?_
      refine r_idiv (pc := 62) C (by omega) (by omega) (by omega) (by omega) dX5_sweep_62 ?_
      refine r_goto (pc := 63) C 67 dX5_sweep_63 (by decide) ?_
      refine r_cVv (pc := 67) C (c_gets g t (by omega) ((min (stab 1 (ρ 3 t).toNat) (ρ 1 ((ρ 4 t).toNat))) / 2) ⟨by omega, by omega⟩ (wr ρ 1 ((ρ 4 t).toNat) ((ρ 1 ((ρ 4 t).toNat)) - (min (stab 1 (ρ 3 t).toNat) (ρ 1 ((ρ 4 t).toNat))))) (us σ 42 (mkS (wr ρ 1 ((ρ 4 t).toNat) ((ρ 1 ((ρ 4 t).toNat)) - (min (stab 1 (ρ 3 t).toNat) (ρ 1 ((ρ 4 t).toNat))))))) (us_s _ _ _) hG) yX5_gets_w O_41 rfl rfl t_984 ⟨by decide, by decide⟩ (Nat.le_of_ble_eq_true rfl) rfl dX5_sweep_67 ?_
      refine r_sg (us_us _ _ _ _) ?_
      refine r_sg (show _ = (us σ 42 (mkS (wr (wr ρ 1 ((ρ 4 t).toNat) ((ρ 1 ((ρ 4 t).toNat)) - (min (stab 1 (ρ 3 t).toNat) (ρ 1 ((ρ 4 t).toNat))))) 5 t (gn ((ρ 5) t) ((min (stab 1 (ρ 3 t).toNat) (ρ 1 ((ρ 4 t).toNat))) / 2))))) from rfl) ?_
      exact r_retv (pc := 70) C (congrArg (fun q => us σ 42 (mkS q)) (by unfold sw1; (first | (rw [if_pos (by omega)]; rfl) | (rw [if_neg (by omega), if_pos (by omega)]; rfl) | (rw [if_neg (by omega), if_neg (by omega)]; show wr _ 5 t (gn (ρ 5 t) 0) = _; rw [gn_0 hg.2]; exact (us_idx (up_id _ _)).trans (us_idx rfl).symm)))) dX5_sweep_70
  · skip
    refine r_iload_n (pc := 50) C dX5_sweep_50 rfl 3 rfl ?_
    refine r_goto (pc := 51) C 67 dX5_sweep_51 (by decide) ?_
    refine r_cVv (pc := 67) C (c_gets g t (by omega) (min (stab 1 (ρ 3 t).toNat) (ρ 1 ((ρ 4 t).toNat))) ⟨by omega, by omega⟩ (wr ρ 1 ((ρ 4 t).toNat) ((ρ 1 ((ρ 4 t).toNat)) - (min (stab 1 (ρ 3 t).toNat) (ρ 1 ((ρ 4 t).toNat))))) (us σ 42 (mkS (wr ρ 1 ((ρ 4 t).toNat) ((ρ 1 ((ρ 4 t).toNat)) - (min (stab 1 (ρ 3 t).toNat) (ρ 1 ((ρ 4 t).toNat))))))) (us_s _ _ _) hG) yX5_gets_w O_41 rfl rfl t_984 ⟨by decide, by decide⟩ (Nat.le_of_ble_eq_true rfl) rfl dX5_sweep_67 ?_
    refine r_sg (us_us _ _ _ _) ?_
    refine r_sg (show _ = (us σ 42 (mkS (wr (wr ρ 1 ((ρ 4 t).toNat) ((ρ 1 ((ρ 4 t).toNat)) - (min (stab 1 (ρ 3 t).toNat) (ρ 1 ((ρ 4 t).toNat))))) 5 t (gn ((ρ 5) t) (min (stab 1 (ρ 3 t).toNat) (ρ 1 ((ρ 4 t).toNat))))))) from rfl) ?_
    exact r_retv (pc := 70) C (congrArg (fun q => us σ 42 (mkS q)) (by unfold sw1; (first | (rw [if_pos (by omega)]; rfl) | (rw [if_neg (by omega), if_pos (by omega)]; rfl) | (rw [if_neg (by omega), if_neg (by omega)]; show wr _ 5 t (gn (ρ 5 t) 0) = _; rw [gn_0 hg.2]; exact (us_idx (up_id _ _)).trans (us_idx rfl).symm)))) dX5_sweep_70
