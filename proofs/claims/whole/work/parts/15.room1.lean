set_option maxHeartbeats 4000000 in
set_option maxRecDepth 100000 in
theorem c_floorMod (g : Gt) (a : Int) (ha : -20 ≤ a ∧ a ≤ 40) (σ : Sg) : Mt g yJ9_floorMod_7cf53 cJ9_floorMod_7cf53 3 (some FieldType.int) 0 [.int (iI (a)), .int (iI (12))] σ (pI (a % 12) σ) := by
  refine mt_ofF (own := RJ9) (by decide +kernel) rfl (Nat.le_of_ble_eq_true rfl) (fun E C => ?_)
  show J g E (pI (a % 12) σ) 3 0 [(0, .int (iI (a))), (1, .int (iI (12)))] [] σ
  refine r_iload_n (pc := 0) C dJ9_floorMod_7cf53_0 rfl 0 rfl ?_
  refine r_iload_n (pc := 1) C dJ9_floorMod_7cf53_1 rfl 1 rfl ?_
  refine r_iremT (pc := 2) C ⟨by omega, by omega⟩ (by omega) (by omega) dJ9_floorMod_7cf53_2 ?_
  have hq := tm12 a
  refine r_istore_n (pc := 3) C dJ9_floorMod_7cf53_3 rfl (by decide) [1, 2, 0] (lv' := [(0, .int (iI (a))), (1, .int (iI (12))), (2, .int (iI (Int.tmod a 12)))]) rfl ?_
  refine r_iload_n (pc := 4) C dJ9_floorMod_7cf53_4 rfl 0 rfl ?_
  refine r_iload_n (pc := 5) C dJ9_floorMod_7cf53_5 rfl 1 rfl ?_
  refine r_ixor (pc := 6) C dJ9_floorMod_7cf53_6 ?_
  have hx : bxor a 12 < 0 ↔ a < 0 := bx12 ha
  refine r_if_ge (pc := 7) C 18 (bxor_rng _ _) dJ9_floorMod_7cf53_7 (by decide) (fun h7 => ?_) (fun h7 => ?_)
  · skip
    refine r_iload_n (pc := 18) C dJ9_floorMod_7cf53_18 rfl 2 rfl ?_
    exact r_reti (pc := 19) C (by omega) (rfl) dJ9_floorMod_7cf53_19
  · skip
    refine r_iload_n (pc := 10) C dJ9_floorMod_7cf53_10 rfl 2 rfl ?_
    refine r_if_eq (pc := 11) C 18 ⟨by omega, by omega⟩ dJ9_floorMod_7cf53_11 (by decide) (fun h11 => ?_) (fun h11 => ?_)
    · skip
      refine r_iload_n (pc := 18) C dJ9_floorMod_7cf53_18 rfl 2 rfl ?_
      exact r_reti (pc := 19) C (by omega) (rfl) dJ9_floorMod_7cf53_19
    · skip
      refine r_iload_n (pc := 14) C dJ9_floorMod_7cf53_14 rfl 2 rfl ?_
      refine r_iload_n (pc := 15) C dJ9_floorMod_7cf53_15 rfl 1 rfl ?_
      refine r_iadd (pc := 16) C dJ9_floorMod_7cf53_16 ?_
      exact r_reti (pc := 17) C (by omega) (rfl) dJ9_floorMod_7cf53_17
set_option maxHeartbeats 4000000 in
set_option maxRecDepth 100000 in
theorem c_holderOf_0 (g : Gt) (f : Nat) (hf : f < 12) (σ : Sg) (hn : 0 ≤ σ 0 7 ∧ σ 0 7 ≤ 8) (hM : rgM (σ 6)) : Mt g yX0_holderOf cX0_holderOf 6 (some FieldType.int) 0 [.ref (gA g 0), .int (iI ((f : Int)))] σ (pI (holder (σ 0 7) (σ 6) f) σ) := by
  refine mt_of (own := RX0) (by decide) rfl (Nat.le_of_ble_eq_true rfl) (fun E C => ?_)
  show J g E (pI (holder (σ 0 7) (σ 6) f) σ) 6 0 [(0, .ref (gA g 0)), (1, .int (iI ((f : Int))))] [] σ
  refine r_iconst (pc := 0) C dX0_holderOf_0 ?_
  refine r_istore_n (pc := 1) C dX0_holderOf_1 rfl (by decide) [1, 2, 0] (lv' := [(0, .ref (gA g 0)), (1, .int (iI ((f : Int)))), (2, .int (iI ((-1))))]) rfl ?_
  refine r_iconst (pc := 2) C dX0_holderOf_2 ?_
  refine r_istore_n (pc := 3) C dX0_holderOf_3 rfl (by decide) [1, 2, 3, 0] (lv' := [(0, .ref (gA g 0)), (1, .int (iI ((f : Int)))), (2, .int (iI ((-1)))), (3, .int (iI (0)))]) rfl ?_
  refine r_iconst (pc := 4) C dX0_holderOf_4 ?_
  refine r_istore (pc := 5) C dX0_holderOf_5 (by decide) [1, 2, 3, 4, 0] (lv' := [(0, .ref (gA g 0)), (1, .int (iI ((f : Int)))), (2, .int (iI ((-1)))), (3, .int (iI (0))), (4, .int (iI (0)))]) rfl ?_
  have L7 : ∀ (n_ : Nat) (i : Nat) (x7_2 x7_3 x7_4 : Int), (σ 0 7).toNat - i < n_ → ((i : Int) ≤ σ 0 7) → x7_2 = (hold (σ 6) f i).1 → x7_3 = (hold (σ 6) f i).2 → x7_4 = (i : Int) → J g E (pI (holder (σ 0 7) (σ 6) f) σ) 6 7 [(0, .ref (gA g 0)), (1, .int (iI ((f : Int)))), (2, .int (iI (x7_2))), (3, .int (iI (x7_3))), (4, .int (iI (x7_4)))] [] σ := by
    intro n_
    induction n_ with
    | zero => intro i x7_2 x7_3 x7_4  hm_; exact absurd hm_ (Nat.not_lt_zero _)
    | succ n_ ih7 =>
      intro i x7_2 x7_3 x7_4  hm7 hi7_0 e7_0 e7_1 e7_2 
      subst e7_0 e7_1 e7_2 
      have hb := hold_most hM hf i (by omega)
      have hc := hold_rng (σ 6) f i
      refine r_iload (pc := 7) C dX0_holderOf_7 4 rfl ?_
      refine r_aload_n (pc := 9) C dX0_holderOf_9 rfl 0 rfl ?_
      refine r_getI0 (pc := 10) C 7 rfl O_0 (by decide) rfl t_119 dX0_holderOf_10 ?_
      refine r_icmp_ge (pc := 13) C 48 ⟨by omega, by omega⟩ ⟨by omega, by omega⟩ dX0_holderOf_13 (by decide) (fun h13 => ?_) (fun h13 => ?_)
      · skip
        refine r_iload_n (pc := 48) C dX0_holderOf_48 rfl 2 rfl ?_
        exact r_reti (pc := 49) C (by rw [show i = (σ 0 7).toNat by omega]; rfl) (rfl) dX0_holderOf_49
      · skip
        refine r_aload_n (pc := 16) C dX0_holderOf_16 rfl 0 rfl ?_
        refine r_getR0 (pc := 17) C 5 rfl O_0 (by decide) rfl t_114 dX0_holderOf_17 ?_
        refine r_iload (pc := 20) C dX0_holderOf_20 4 rfl ?_
        refine r_bipush (pc := 22) C dX0_holderOf_22 (by decide) ?_
        refine r_imul (pc := 24) C dX0_holderOf_24 ?_
        refine r_iload_n (pc := 25) C dX0_holderOf_25 rfl 1 rfl ?_
        refine r_iadd (pc := 26) C dX0_holderOf_26 ?_
        refine r_iald (pc := 27) C (12 * i + f) A_6 (by omega) (by omega) dX0_holderOf_27 ?_
        have hm := hM (12 * i + f) (by omega)
        refine r_istore (pc := 28) C dX0_holderOf_28 (by decide) [1, 2, 3, 4, 5, 0] (lv' := [(0, .ref (gA g 0)), (1, .int (iI ((f : Int)))), (2, .int (iI ((hold (σ 6) f i).1))), (3, .int (iI ((hold (σ 6) f i).2))), (4, .int (iI ((i : Int)))), (5, .int (iI (σ 6 (12 * i + f))))]) rfl ?_
        refine r_iload (pc := 30) C dX0_holderOf_30 5 rfl ?_
        refine r_iload_n (pc := 32) C dX0_holderOf_32 rfl 3 rfl ?_
        refine r_icmp_le (pc := 33) C 42 ⟨by omega, by omega⟩ ⟨by omega, by omega⟩ dX0_holderOf_33 (by decide) (fun h33 => ?_) (fun h33 => ?_)
        · skip
          refine r_iinc (pc := 42) C dX0_holderOf_42 4 rfl (by decide) [1, 2, 3, 4, 0, 5] (lv' := [(0, .ref (gA g 0)), (1, .int (iI ((f : Int)))), (2, .int (iI ((hold (σ 6) f i).1))), (3, .int (iI ((hold (σ 6) f i).2))), (4, .int (iI ((i : Int) + 1))), (5, .int (iI (σ 6 (12 * i + f))))]) rfl ?_
          refine r_goto (pc := 45) C 7 dX0_holderOf_45 (by decide) ?_
          refine r_lv [0, 1, 2, 3, 4] (lv' := [(0, .ref (gA g 0)), (1, .int (iI ((f : Int)))), (2, .int (iI ((hold (σ 6) f i).1))), (3, .int (iI ((hold (σ 6) f i).2))), (4, .int (iI ((i : Int) + 1)))]) rfl ?_
          exact ih7 (i + 1) _ _ _ (by omega) (by omega) (by first | rw [hold, if_pos (by omega)] | rw [hold, if_neg (by omega)]) (by first | rw [hold, if_pos (by omega)] | rw [hold, if_neg (by omega)]) (by omega)
        · skip
          refine r_iload (pc := 36) C dX0_holderOf_36 5 rfl ?_
          refine r_istore_n (pc := 38) C dX0_holderOf_38 rfl (by decide) [1, 2, 3, 0, 4, 5] (lv' := [(0, .ref (gA g 0)), (1, .int (iI ((f : Int)))), (2, .int (iI ((hold (σ 6) f i).1))), (3, .int (iI (σ 6 (12 * i + f)))), (4, .int (iI ((i : Int)))), (5, .int (iI (σ 6 (12 * i + f))))]) rfl ?_
          refine r_iload (pc := 39) C dX0_holderOf_39 4 rfl ?_
          refine r_istore_n (pc := 41) C dX0_holderOf_41 rfl (by decide) [1, 2, 0, 3, 4, 5] (lv' := [(0, .ref (gA g 0)), (1, .int (iI ((f : Int)))), (2, .int (iI ((i : Int)))), (3, .int (iI (σ 6 (12 * i + f)))), (4, .int (iI ((i : Int)))), (5, .int (iI (σ 6 (12 * i + f))))]) rfl ?_
          refine r_iinc (pc := 42) C dX0_holderOf_42 4 rfl (by decide) [1, 2, 3, 4, 0, 5] (lv' := [(0, .ref (gA g 0)), (1, .int (iI ((f : Int)))), (2, .int (iI ((i : Int)))), (3, .int (iI (σ 6 (12 * i + f)))), (4, .int (iI ((i : Int) + 1))), (5, .int (iI (σ 6 (12 * i + f))))]) rfl ?_
          refine r_goto (pc := 45) C 7 dX0_holderOf_45 (by decide) ?_
          refine r_lv [0, 1, 2, 3, 4] (lv' := [(0, .ref (gA g 0)), (1, .int (iI ((f : Int)))), (2, .int (iI ((i : Int)))), (3, .int (iI (σ 6 (12 * i + f)))), (4, .int (iI ((i : Int) + 1)))]) rfl ?_
          exact ih7 (i + 1) _ _ _ (by omega) (by omega) (by first | rw [hold, if_pos (by omega)] | rw [hold, if_neg (by omega)]) (by first | rw [hold, if_pos (by omega)] | rw [hold, if_neg (by omega)]) (by omega)
  exact L7 _ 0 _ _ _ (Nat.lt_succ_self _) (by omega) (rfl) (rfl) (rfl)
set_option maxHeartbeats 4000000 in
set_option maxRecDepth 100000 in
theorem c_holderOf_8 (g : Gt) (f : Nat) (hf : f < 12) (σ : Sg) (hn : 0 ≤ σ 8 7 ∧ σ 8 7 ≤ 8) (hM : rgM (σ 14)) : Mt g yX0_holderOf cX0_holderOf 6 (some FieldType.int) 0 [.ref (gA g 8), .int (iI ((f : Int)))] σ (pI (holder (σ 8 7) (σ 14) f) σ) := by
  refine mt_of (own := RX0) (by decide) rfl (Nat.le_of_ble_eq_true rfl) (fun E C => ?_)
  show J g E (pI (holder (σ 8 7) (σ 14) f) σ) 6 0 [(0, .ref (gA g 8)), (1, .int (iI ((f : Int))))] [] σ
  refine r_iconst (pc := 0) C dX0_holderOf_0 ?_
  refine r_istore_n (pc := 1) C dX0_holderOf_1 rfl (by decide) [1, 2, 0] (lv' := [(0, .ref (gA g 8)), (1, .int (iI ((f : Int)))), (2, .int (iI ((-1))))]) rfl ?_
  refine r_iconst (pc := 2) C dX0_holderOf_2 ?_
  refine r_istore_n (pc := 3) C dX0_holderOf_3 rfl (by decide) [1, 2, 3, 0] (lv' := [(0, .ref (gA g 8)), (1, .int (iI ((f : Int)))), (2, .int (iI ((-1)))), (3, .int (iI (0)))]) rfl ?_
  refine r_iconst (pc := 4) C dX0_holderOf_4 ?_
  refine r_istore (pc := 5) C dX0_holderOf_5 (by decide) [1, 2, 3, 4, 0] (lv' := [(0, .ref (gA g 8)), (1, .int (iI ((f : Int)))), (2, .int (iI ((-1)))), (3, .int (iI (0))), (4, .int (iI (0)))]) rfl ?_
  have L7 : ∀ (n_ : Nat) (i : Nat) (x7_2 x7_3 x7_4 : Int), (σ 8 7).toNat - i < n_ → ((i : Int) ≤ σ 8 7) → x7_2 = (hold (σ 14) f i).1 → x7_3 = (hold (σ 14) f i).2 → x7_4 = (i : Int) → J g E (pI (holder (σ 8 7) (σ 14) f) σ) 6 7 [(0, .ref (gA g 8)), (1, .int (iI ((f : Int)))), (2, .int (iI (x7_2))), (3, .int (iI (x7_3))), (4, .int (iI (x7_4)))] [] σ := by
    intro n_
    induction n_ with
    | zero => intro i x7_2 x7_3 x7_4  hm_; exact absurd hm_ (Nat.not_lt_zero _)
    | succ n_ ih7 =>
      intro i x7_2 x7_3 x7_4  hm7 hi7_0 e7_0 e7_1 e7_2 
      subst e7_0 e7_1 e7_2 
      have hb := hold_most hM hf i (by omega)
      have hc := hold_rng (σ 14) f i
      refine r_iload (pc := 7) C dX0_holderOf_7 4 rfl ?_
      refine r_aload_n (pc := 9) C dX0_holderOf_9 rfl 0 rfl ?_
      refine r_getI0 (pc := 10) C 7 rfl O_8 (by decide) rfl t_119 dX0_holderOf_10 ?_
      refine r_icmp_ge (pc := 13) C 48 ⟨by omega, by omega⟩ ⟨by omega, by omega⟩ dX0_holderOf_13 (by decide) (fun h13 => ?_) (fun h13 => ?_)
      · skip
        refine r_iload_n (pc := 48) C dX0_holderOf_48 rfl 2 rfl ?_
        exact r_reti (pc := 49) C (by rw [show i = (σ 8 7).toNat by omega]; rfl) (rfl) dX0_holderOf_49
      · skip
        refine r_aload_n (pc := 16) C dX0_holderOf_16 rfl 0 rfl ?_
        refine r_getR0 (pc := 17) C 5 rfl O_8 (by decide) rfl t_114 dX0_holderOf_17 ?_
        refine r_iload (pc := 20) C dX0_holderOf_20 4 rfl ?_
        refine r_bipush (pc := 22) C dX0_holderOf_22 (by decide) ?_
        refine r_imul (pc := 24) C dX0_holderOf_24 ?_
        refine r_iload_n (pc := 25) C dX0_holderOf_25 rfl 1 rfl ?_
        refine r_iadd (pc := 26) C dX0_holderOf_26 ?_
        refine r_iald (pc := 27) C (12 * i + f) A_14 (by omega) (by omega) dX0_holderOf_27 ?_
        have hm := hM (12 * i + f) (by omega)
        refine r_istore (pc := 28) C dX0_holderOf_28 (by decide) [1, 2, 3, 4, 5, 0] (lv' := [(0, .ref (gA g 8)), (1, .int (iI ((f : Int)))), (2, .int (iI ((hold (σ 14) f i).1))), (3, .int (iI ((hold (σ 14) f i).2))), (4, .int (iI ((i : Int)))), (5, .int (iI (σ 14 (12 * i + f))))]) rfl ?_
        refine r_iload (pc := 30) C dX0_holderOf_30 5 rfl ?_
        refine r_iload_n (pc := 32) C dX0_holderOf_32 rfl 3 rfl ?_
        refine r_icmp_le (pc := 33) C 42 ⟨by omega, by omega⟩ ⟨by omega, by omega⟩ dX0_holderOf_33 (by decide) (fun h33 => ?_) (fun h33 => ?_)
        · skip
          refine r_iinc (pc := 42) C dX0_holderOf_42 4 rfl (by decide) [1, 2, 3, 4, 0, 5] (lv' := [(0, .ref (gA g 8)), (1, .int (iI ((f : Int)))), (2, .int (iI ((hold (σ 14) f i).1))), (3, .int (iI ((hold (σ 14) f i).2))), (4, .int (iI ((i : Int) + 1))), (5, .int (iI (σ 14 (12 * i + f))))]) rfl ?_
          refine r_goto (pc := 45) C 7 dX0_holderOf_45 (by decide) ?_
          refine r_lv [0, 1, 2, 3, 4] (lv' := [(0, .ref (gA g 8)), (1, .int (iI ((f : Int)))), (2, .int (iI ((hold (σ 14) f i).1))), (3, .int (iI ((hold (σ 14) f i).2))), (4, .int (iI ((i : Int) + 1)))]) rfl ?_
          exact ih7 (i + 1) _ _ _ (by omega) (by omega) (by first | rw [hold, if_pos (by omega)] | rw [hold, if_neg (by omega)]) (by first | rw [hold, if_pos (by omega)] | rw [hold, if_neg (by omega)]) (by omega)
        · skip
          refine r_iload (pc := 36) C dX0_holderOf_36 5 rfl ?_
          refine r_istore_n (pc := 38) C dX0_holderOf_38 rfl (by decide) [1, 2, 3, 0, 4, 5] (lv' := [(0, .ref (gA g 8)), (1, .int (iI ((f : Int)))), (2, .int (iI ((hold (σ 14) f i).1))), (3, .int (iI (σ 14 (12 * i + f)))), (4, .int (iI ((i : Int)))), (5, .int (iI (σ 14 (12 * i + f))))]) rfl ?_
          refine r_iload (pc := 39) C dX0_holderOf_39 4 rfl ?_
          refine r_istore_n (pc := 41) C dX0_holderOf_41 rfl (by decide) [1, 2, 0, 3, 4, 5] (lv' := [(0, .ref (gA g 8)), (1, .int (iI ((f : Int)))), (2, .int (iI ((i : Int)))), (3, .int (iI (σ 14 (12 * i + f)))), (4, .int (iI ((i : Int)))), (5, .int (iI (σ 14 (12 * i + f))))]) rfl ?_
          refine r_iinc (pc := 42) C dX0_holderOf_42 4 rfl (by decide) [1, 2, 3, 4, 0, 5] (lv' := [(0, .ref (gA g 8)), (1, .int (iI ((f : Int)))), (2, .int (iI ((i : Int)))), (3, .int (iI (σ 14 (12 * i + f)))), (4, .int (iI ((i : Int) + 1))), (5, .int (iI (σ 14 (12 * i + f))))]) rfl ?_
          refine r_goto (pc := 45) C 7 dX0_holderOf_45 (by decide) ?_
          refine r_lv [0, 1, 2, 3, 4] (lv' := [(0, .ref (gA g 8)), (1, .int (iI ((f : Int)))), (2, .int (iI ((i : Int)))), (3, .int (iI (σ 14 (12 * i + f)))), (4, .int (iI ((i : Int) + 1)))]) rfl ?_
          exact ih7 (i + 1) _ _ _ (by omega) (by omega) (by first | rw [hold, if_pos (by omega)] | rw [hold, if_neg (by omega)]) (by first | rw [hold, if_pos (by omega)] | rw [hold, if_neg (by omega)]) (by omega)
  exact L7 _ 0 _ _ _ (Nat.lt_succ_self _) (by omega) (rfl) (rfl) (rfl)
