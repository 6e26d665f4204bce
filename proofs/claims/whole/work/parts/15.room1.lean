set_option maxHeartbeats 4000000 in
set_option maxRecDepth 100000 in
theorem c_floorMod (g : Gt) (a : Int) (ha : -20 ≤ a ∧ a ≤ 40) (σ : Sg) : Mt g yJ9_floorMod_7cf53 cJ9_floorMod_7cf53 3 (some FieldType.int) 0 [.int (iI (a)), .int (iI (12))] σ (pI (a % 12) σ) := by
  refine mt_ofF (own := RJ9) (by decide +kernel) rfl (Nat.le_of_ble_eq_true rfl) (fun E C => ?_)
  show J g E (pI (a % 12) σ) 3 0 [(0, .int (iI (a))), (1, .int (iI (12)))] [] σ
  refine r_iload_n (pc := 0) C dJ9_floorMod_7cf53_0 rfl 0 rfl ?_
  refine r_iload_n (pc := 1) C dJ9_floorMod_7cf53_1 rfl 1 rfl ?_
  refine r_iremT (pc := 2) C ⟨by omega, by omega⟩ (by omega) (by omega) dJ9_floorMod_7cf53_2 ?_
  have hq := tm12 a
  refine r_istore_n (pc := 3) C dJ9_floorMod_7cf53_3 rfl (by decide) [1, 2, 0] (lv' := [(0, .int (iI (a))), (1, .int (iI (12))), (2, .int (iI (Int.tmod a 12)))]) rfl ?_
  refine r_iload_n (pc := 4) C dJ9_floorMod_7cf53_4 rfl 0 rfl ?_
  refine r_iload_n (pc := 5) C dJ9_floorMod_7cf53_5 rfl 1 rfl ?_
  refine r_ixor (pc := 6) C dJ9_floorMod_7cf53_6 ?_
  have hx : bxor a 12 < 0 ↔ a < 0 := bx12 ha
  refine r_if_ge (pc := 7) C 18 (bxor_rng _ _) dJ9_floorMod_7cf53_7 (by decide) (fun h7 => ?_) (fun h7 => ?_)
  · skip
    refine r_iload_n (pc := 18) C dJ9_floorMod_7cf53_18 rfl 2 rfl ?_
    exact r_reti (pc := 19) C (by omega) (rfl) dJ9_floorMod_7cf53_19
  · skip
    refine r_iload_n (pc := 10) C dJ9_floorMod_7cf53_10 rfl 2 rfl ?_
    refine r_if_eq (pc := 11) C 18 ⟨by omega, by omega⟩ dJ9_floorMod_7cf53_11 (by decide) (fun h11 => ?_) (fun h11 => ?_)
    · skip
      refine r_iload_n (pc := 18) C dJ9_floorMod_7cf53_18 rfl 2 rfl ?_
      exact r_reti (pc := 19) C (by omega) (rfl) dJ9_floorMod_7cf53_19
    · skip
      refine r_iload_n (pc := 14) C dJ9_floorMod_7cf53_14 rfl 2 rfl ?_
      refine r_iload_n (pc := 15) C dJ9_floorMod_7cf53_15 rfl 1 rfl ?_
      refine r_iadd (pc := 16) C dJ9_floorMod_7cf53_16 ?_
      exact r_reti (pc := 17) C (by omega) (rfl) dJ9_floorMod_7cf53_17
set_option maxHeartbeats 4000000 in
set_option maxRecDepth 100000 in
theorem c_holderOf_0 (g : Gt) (f : Nat) (hf : f < 12) (σ : Sg) (hn : 0 ≤ σ 0 7 ∧ σ 0 7 ≤ 8) (hM : rgM (σ 6)) : Mt g yX0_holderOf cX0_holderOf 6 (some FieldType.int) 0 [.ref (gA g 0), .int (iI ((f : Int)))] σ (pI (holder (σ 0 7) (σ 6) f) σ) := by
  refine mt_of (own := RX0) (by decide) rfl (Nat.le_of_ble_eq_true rfl) (fun E C => ?_)
  show J g E (pI (holder (σ 0 7) (σ 6) f) σ) 6 0 [(0, .ref (gA g 0)), (1, .int (iI ((f : Int))))] [] σ
  refine r_iconst (pc := 0) C dX0_holderOf_0 ?_
  refine r_istore_n (pc := 1) C dX0_holderOf_1 rfl (by decide) [1, 2, 0] (lv' := [(0, .ref (gA g 0)), (1, .int (iI ((f : Int)))), (2, .int (iI ((-1))))]) rfl ?_
  refine r_iconst (pc := 2) C dX0_holderOf_2 ?_
  refine r_istore_n (pc := 3) C dX0_holderOf_3 rfl (by decide) [1, 2, 3, 0] (lv' := [(0, .ref (gA g 0)), (1, .int (iI ((f : Int)))), (2, .int (iI ((-1)))), (3, .int (iI (0)))]) rfl ?_
  refine r_iconst (pc := 4) C dX0_holderOf_4 ?_
  refine r_istore (pc := 5) C dX0_holderOf_5 (by decide) [1, 2, 3, 4, 0] (lv' := [(0, .ref (gA g 0)), (1, .int (iI ((f : Int)))), (2, .int (iI ((-1)))), (3, .int (iI (0))), (4, .int (iI (0)))]) rfl ?_
  have L7 : ∀ (n_ : Nat) (i : Nat) (x7_2 x7_3 x7_4 : Int), (σ 0 7).toNat - i < n_ → ((i : Int) ≤ σ 0 7) → x7_2 = (hold (σ 6) f i).1 → x7_3 = (hold (σ 6) f i).2 → x7_4 = (i : Int) → J g E (pI (holder (σ 0 7) (σ 6) f) σ) 6 7 [(0, .ref (gA g 0)), (1, .int (iI ((f : Int)))), (2, .int (iI (x7_2))), (3, .int (iI (x7_3))), (4, .int (iI (x7_4)))] [] σ := by
    intro n_
    induction n_ with
    | zero => intro i x7_2 x7_3 x7_4  hm_; exact absurd hm_ (Nat.not_lt_zero _)
    | succ n_ ih7 =>
      intro i x7_2 x7_3 x7_4  hm7 hi7_0 e7_0 e7_1 e7_2 
      subst e7_0 e7_1 e7_2 
      have hb := hold_most hM hf i (by omega)
      have hc := hold_rng (σ 6) f i
      refine r_iload (pc := 7) C dX0_holderOf_7 4 rfl ?_
      refine r_aload_n (pc := 9) C dX0_holderOf_9 rfl 0 rfl ?_
      refine r_getI0 (pc := 10) C 7 rfl O_0 (by decide) rfl t_119 dX0_holderOf_10 ?_
      refine r_icmp_ge (pc := 13) C 48 ⟨by omega, by omega⟩ ⟨by omega, by omega⟩ dX0_holderOf_13 (by decide) (fun h13 => ?_) (fun h13 => ?_)
      · skip
        refine r_iload_n (pc := 48) C dX0_holderOf_48 rfl 2 rfl ?_
        exact r_reti (pc := 49) C (by rw [show i = (σ 0 7).toNat by omega]; rfl) (rfl) dX0_holderOf_49
      · skip
        refine r_aload_n (pc := 16) C dX0_holderOf_16 rfl 0 rfl ?_
        refine r_getR0 (pc := 17) C 5 (k' := 6) rfl O_0 (by decide) rfl t_114 dX0_holderOf_17 ?_
        refine r_iload (pc := 20) C dX0_holderOf_20 4 rfl ?_
        refine r_bipush (pc := 22) C dX0_holderOf_22 (by decide) ?_
        refine r_imul (pc := 24) C dX0_holderOf_24 ?_
        refine r_iload_n (pc := 25) C dX0_holderOf_25 rfl 1 rfl ?_
        refine r_iadd (pc := 26) C dX0_holderOf_26 ?_
        refine r_iald (pc := 27) C (12 * i + f) A_6 (by omega) (by omega) dX0_holderOf_27 ?_
        have hm := hM (12 * i + f) (by omega)
        refine r_istore (pc := 28) C dX0_holderOf_28 (by decide) [1, 2, 3, 4, 5, 0] (lv' := [(0, .ref (gA g 0)), (1, .int (iI ((f : Int)))), (2, .int (iI ((hold (σ 6) f i).1))), (3, .int (iI ((hold (σ 6) f i).2))), (4, .int (iI ((i : Int)))), (5, .int (iI (σ 6 (12 * i + f))))]) rfl ?_
        refine r_iload (pc := 30) C dX0_holderOf_30 5 rfl ?_
        refine r_iload_n (pc := 32) C dX0_holderOf_32 rfl 3 rfl ?_
        refine r_icmp_le (pc := 33) C 42 ⟨by omega, by omega⟩ ⟨by omega, by omega⟩ dX0_holderOf_33 (by decide) (fun h33 => ?_) (fun h33 => ?_)
        · skip
          refine r_iinc (pc := 42) C dX0_holderOf_42 4 rfl (by decide) [1, 2, 3, 4, 0, 5] (lv' := [(0, .ref (gA g 0)), (1, .int (iI ((f : Int)))), (2, .int (iI ((hold (σ 6) f i).1))), (3, .int (iI ((hold (σ 6) f i).2))), (4, .int (iI ((i : Int) + 1))), (5, .int (iI (σ 6 (12 * i + f))))]) rfl ?_
          refine r_goto (pc := 45) C 7 dX0_holderOf_45 (by decide) ?_
          refine r_lv [0, 1, 2, 3, 4] (lv' := [(0, .ref (gA g 0)), (1, .int (iI ((f : Int)))), (2, .int (iI ((hold (σ 6) f i).1))), (3, .int (iI ((hold (σ 6) f i).2))), (4, .int (iI ((i : Int) + 1)))]) rfl ?_
          exact ih7 (i + 1) _ _ _ (by omega) (by omega) (by first | rw [hold, if_pos (by omega)] | rw [hold, if_neg (by omega)]) (by first | rw [hold, if_pos (by omega)] | rw [hold, if_neg (by omega)]) (by omega)
        · skip
          refine r_iload (pc := 36) C dX0_holderOf_36 5 rfl ?_
          refine r_istore_n (pc := 38) C dX0_holderOf_38 rfl (by decide) [1, 2, 3, 0, 4, 5] (lv' := [(0, .ref (gA g 0)), (1, .int (iI ((f : Int)))), (2, .int (iI ((hold (σ 6) f i).1))), (3, .int (iI (σ 6 (12 * i + f)))), (4, .int (iI ((i : Int)))), (5, .int (iI (σ 6 (12 * i + f))))]) rfl ?_
          refine r_iload (pc := 39) C dX0_holderOf_39 4 rfl ?_
          refine r_istore_n (pc := 41) C dX0_holderOf_41 rfl (by decide) [1, 2, 0, 3, 4, 5] (lv' := [(0, .ref (gA g 0)), (1, .int (iI ((f : Int)))), (2, .int (iI ((i : Int)))), (3, .int (iI (σ 6 (12 * i + f)))), (4, .int (iI ((i : Int)))), (5, .int (iI (σ 6 (12 * i + f))))]) rfl ?_
          refine r_iinc (pc := 42) C dX0_holderOf_42 4 rfl (by decide) [1, 2, 3, 4, 0, 5] (lv' := [(0, .ref (gA g 0)), (1, .int (iI ((f : Int)))), (2, .int (iI ((i : Int)))), (3, .int (iI (σ 6 (12 * i + f)))), (4, .int (iI ((i : Int) + 1))), (5, .int (iI (σ 6 (12 * i + f))))]) rfl ?_
          refine r_goto (pc := 45) C 7 dX0_holderOf_45 (by decide) ?_
          refine r_lv [0, 1, 2, 3, 4] (lv' := [(0, .ref (gA g 0)), (1, .int (iI ((f : Int)))), (2, .int (iI ((i : Int)))), (3, .int (iI (σ 6 (12 * i + f)))), (4, .int (iI ((i : Int) + 1)))]) rfl ?_
          exact ih7 (i + 1) _ _ _ (by omega) (by omega) (by first | rw [hold, if_pos (by omega)] | rw [hold, if_neg (by omega)]) (by first | rw [hold, if_pos (by omega)] | rw [hold, if_neg (by omega)]) (by omega)
  exact L7 _ 0 _ _ _ (Nat.lt_succ_self _) (by omega) (rfl) (rfl) (rfl)
set_option maxHeartbeats 4000000 in
set_option maxRecDepth 100000 in
theorem c_gain_0 (g : Gt) (t : Nat) (ht : t < 8) (x : Int) (hx : 0 ≤ x ∧ x ≤ 99999) (σ : Sg) (hG : rgG (σ 5)) : Mt g yX0_gain cX0_gain 4 none 0 [.ref (gA g 0), .int (iI ((t : Int))), .int (iI (x))] σ (pV (wr σ 5 t (gn (σ 5 t) x))) := by
  have hg := hG t ht
  refine mt_of (own := RX0) (by decide) rfl (Nat.le_of_ble_eq_true rfl) (fun E C => ?_)
  show J g E (pV (wr σ 5 t (gn (σ 5 t) x))) 4 0 [(0, .ref (gA g 0)), (1, .int (iI ((t : Int)))), (2, .int (iI (x)))] [] σ
  refine r_aload_n (pc := 0) C dX0_gain_0 rfl 0 rfl ?_
  refine r_getR0 (pc := 1) C 4 (k' := 5) rfl O_0 (by decide) rfl t_111 dX0_gain_1 ?_
  refine r_iload_n (pc := 4) C dX0_gain_4 rfl 1 rfl ?_
  refine r_iald (pc := 5) C t A_5 (by omega) (by omega) dX0_gain_5 ?_
  refine r_iload_n (pc := 6) C dX0_gain_6 rfl 2 rfl ?_
  refine r_iadd (pc := 7) C dX0_gain_7 ?_
  refine r_istore_n (pc := 8) C dX0_gain_8 rfl (by decide) [1, 2, 3, 0] (lv' := [(0, .ref (gA g 0)), (1, .int (iI ((t : Int)))), (2, .int (iI (x))), (3, .int (iI ((σ 5 t) + x)))]) rfl ?_
  refine r_aload_n (pc := 9) C dX0_gain_9 rfl 0 rfl ?_
  refine r_getR0 (pc := 10) C 4 (k' := 5) rfl O_0 (by decide) rfl t_111 dX0_gain_10 ?_
  refine r_iload_n (pc := 13) C dX0_gain_13 rfl 1 rfl ?_
  refine r_iload_n (pc := 14) C dX0_gain_14 rfl 3 rfl ?_
  refine r_ldc (pc := 15) C 99999 t_379 (by decide) dX0_gain_15 ?_
  refine r_icmp_le (pc := 17) C 25 ⟨by omega, by omega⟩ ⟨by omega, by omega⟩ dX0_gain_17 (by decide) (fun h17 => ?_) (fun h17 => ?_)
  · skip
    refine r_iload_n (pc := 25) C dX0_gain_25 rfl 3 rfl ?_
    refine r_iast (pc := 26) C t A_5 (by omega) (by omega) dX0_gain_26 ?_
    exact r_retv (pc := 27) C (congrArg (wr σ 5 t) (by unfold gn; omega)) dX0_gain_27
  · skip
    refine r_ldc (pc := 20) C 99999 t_379 (by decide) dX0_gain_20 ?_
    refine r_goto (pc := 22) C 26 dX0_gain_22 (by decide) ?_
    refine r_iast (pc := 26) C t A_5 (by omega) (by omega) dX0_gain_26 ?_
    exact r_retv (pc := 27) C (congrArg (wr σ 5 t) (by unfold gn; omega)) dX0_gain_27
set_option maxHeartbeats 4000000 in
set_option maxRecDepth 100000 in
theorem c_leavesOf_0 (g : Gt) (t : Nat) (ht : t < 8) (σ : Sg) (hD : rgD (σ 1)) (hK : rgK (σ 3)) (hA : rgA (σ 4)) (hG : rgG (σ 5)) : Mt g yX0_leavesOf cX0_leavesOf 4 (some FieldType.int) 0 [.ref (gA g 0), .int (iI ((t : Int)))] σ (pI (leav (σ 3 t) (σ 1 (σ 4 t).toNat) (σ 5 t)) σ) := by
  have hk := hK t ht
  have ha := hA t ht
  have hg := hG t ht
  have hd := hD (σ 4 t).toNat (by omega)
  have h0 := stab0_rng (σ 3 t).toNat
  refine mt_of (own := RX0) (by decide) rfl (Nat.le_of_ble_eq_true rfl) (fun E C => ?_)
  show J g E (pI (leav (σ 3 t) (σ 1 (σ 4 t).toNat) (σ 5 t)) σ) 4 0 [(0, .ref (gA g 0)), (1, .int (iI ((t : Int))))] [] σ
  refine r_aload_n (pc := 0) C dX0_leavesOf_0 rfl 0 rfl ?_
  refine r_getR0 (pc := 1) C 2 (k' := 3) rfl O_0 (by decide) rfl t_107 dX0_leavesOf_1 ?_
  refine r_iload_n (pc := 4) C dX0_leavesOf_4 rfl 1 rfl ?_
  refine r_iald (pc := 5) C t A_3 (by omega) (by omega) dX0_leavesOf_5 ?_
  refine r_istore_n (pc := 6) C dX0_leavesOf_6 rfl (by decide) [1, 2, 0] (lv' := [(0, .ref (gA g 0)), (1, .int (iI ((t : Int)))), (2, .int (iI (σ 3 t)))]) rfl ?_
  refine r_getsN (pc := 7) C F_lv N_lv dX0_leavesOf_7 ?_
  refine r_iload_n (pc := 10) C dX0_leavesOf_10 rfl 2 rfl ?_
  refine r_tald (pc := 11) C ((σ 3 t).toNat) F_lv (by omega) (by omega) dX0_leavesOf_11 ?_
  refine r_istore_n (pc := 12) C dX0_leavesOf_12 rfl (by decide) [1, 2, 3, 0] (lv' := [(0, .ref (gA g 0)), (1, .int (iI ((t : Int)))), (2, .int (iI (σ 3 t))), (3, .int (iI (stab 0 ((σ 3 t).toNat))))]) rfl ?_
  refine r_iload_n (pc := 13) C dX0_leavesOf_13 rfl 2 rfl ?_
  refine r_iconst (pc := 14) C dX0_leavesOf_14 ?_
  refine r_icmp_eq (pc := 15) C 23 ⟨by omega, by omega⟩ ⟨by omega, by omega⟩ dX0_leavesOf_15 (by decide) (fun h15 => ?_) (fun h15 => ?_)
  · skip
    refine r_aload_n (pc := 23) C dX0_leavesOf_23 rfl 0 rfl ?_
    refine r_getR0 (pc := 24) C 0 (k' := 1) rfl O_0 (by decide) rfl t_103 dX0_leavesOf_24 ?_
    refine r_aload_n (pc := 27) C dX0_leavesOf_27 rfl 0 rfl ?_
    refine r_getR0 (pc := 28) C 3 (k' := 4) rfl O_0 (by decide) rfl t_109 dX0_leavesOf_28 ?_
    refine r_iload_n (pc := 31) C dX0_leavesOf_31 rfl 1 rfl ?_
    refine r_iald (pc := 32) C t A_4 (by omega) (by omega) dX0_leavesOf_32 ?_
    refine r_iald (pc := 33) C ((σ 4 t).toNat) A_1 (by omega) (by omega) dX0_leavesOf_33 ?_
    refine r_bipush (pc := 34) C dX0_leavesOf_34 (by decide) ?_
    refine r_icmp_lt (pc := 36) C 42 ⟨by omega, by omega⟩ ⟨by omega, by omega⟩ dX0_leavesOf_36 (by decide) (fun h36 => ?_) (fun h36 => ?_)
    · skip
      refine r_iload_n (pc := 42) C dX0_leavesOf_42 rfl 2 rfl ?_
      refine r_iconst (pc := 43) C dX0_leavesOf_43 ?_
      refine r_icmp_ne (pc := 44) C 60 ⟨by omega, by omega⟩ ⟨by omega, by omega⟩ dX0_leavesOf_44 (by decide) (fun h44 => ?_) (fun h44 => ?_)
      · skip
        refine r_iload_n (pc := 60) C dX0_leavesOf_60 rfl 3 rfl ?_
        exact r_reti (pc := 61) C (by unfold leav; (first | rw [if_pos (by omega)] | rw [if_neg (by omega)]); (first | rw [if_pos (by omega)] | rw [if_neg (by omega)]); try omega) (rfl) dX0_leavesOf_61
      · skip
        refine r_iload_n (pc := 47) C dX0_leavesOf_47 rfl 3 rfl ?_
        refine r_aload_n (pc := 48) C dX0_leavesOf_48 rfl 0 rfl ?_
        refine r_getR0 (pc := 49) C 4 (k' := 5) rfl O_0 (by decide) rfl t_111 dX0_leavesOf_49 ?_
        refine r_iload_n (pc := 52) C dX0_leavesOf_52 rfl 1 rfl ?_
        refine r_iald (pc := 53) C t A_5 (by omega) (by omega) dX0_leavesOf_53 ?_
        refine r_sipush (pc := 54) C dX0_leavesOf_54 (by decide) ?_
        refine r_idiv (pc := 57) C (by omega) (by omega) (by omega) (by omega) dX0_leavesOf_57 ?_
        refine r_iadd (pc := 58) C dX0_leavesOf_58 ?_
        refine r_istore_n (pc := 59) C dX0_leavesOf_59 rfl (by decide) [1, 2, 3, 0] (lv' := [(0, .ref (gA g 0)), (1, .int (iI ((t : Int)))), (2, .int (iI (σ 3 t))), (3, .int (iI ((stab 0 ((σ 3 t).toNat)) + ((σ 5 t) / 1000))))]) rfl ?_
        refine r_iload_n (pc := 60) C dX0_leavesOf_60 rfl 3 rfl ?_
        exact r_reti (pc := 61) C (by unfold leav; (first | rw [if_pos (by omega)] | rw [if_neg (by omega)]); (first | rw [if_pos (by omega)] | rw [if_neg (by omega)]); try omega) (rfl) dX0_leavesOf_61
    · skip
      refine r_iinc (pc := 39) C dX0_leavesOf_39 3 rfl (by decide) [1, 2, 3, 0] (lv' := [(0, .ref (gA g 0)), (1, .int (iI ((t : Int)))), (2, .int (iI (σ 3 t))), (3, .int (iI ((stab 0 ((σ 3 t).toNat)) + 4)))]) rfl ?_
      refine r_iload_n (pc := 42) C dX0_leavesOf_42 rfl 2 rfl ?_
      refine r_iconst (pc := 43) C dX0_leavesOf_43 ?_
      refine r_icmp_ne (pc := 44) C 60 ⟨by omega, by omega⟩ ⟨by omega, by omega⟩ dX0_leavesOf_44 (by decide) (fun h44 => ?_) (fun h44 => ?_)
      · skip
        refine r_iload_n (pc := 60) C dX0_leavesOf_60 rfl 3 rfl ?_
        exact r_reti (pc := 61) C (by unfold leav; (first | rw [if_pos (by omega)] | rw [if_neg (by omega)]); (first | rw [if_pos (by omega)] | rw [if_neg (by omega)]); try omega) (rfl) dX0_leavesOf_61
      · skip
        refine r_iload_n (pc := 47) C dX0_leavesOf_47 rfl 3 rfl ?_
        refine r_aload_n (pc := 48) C dX0_leavesOf_48 rfl 0 rfl ?_
        refine r_getR0 (pc := 49) C 4 (k' := 5) rfl O_0 (by decide) rfl t_111 dX0_leavesOf_49 ?_
        refine r_iload_n (pc := 52) C dX0_leavesOf_52 rfl 1 rfl ?_
        refine r_iald (pc := 53) C t A_5 (by omega) (by omega) dX0_leavesOf_53 ?_
        refine r_sipush (pc := 54) C dX0_leavesOf_54 (by decide) ?_
        refine r_idiv (pc := 57) C (by omega) (by omega) (by omega) (by omega) dX0_leavesOf_57 ?_
        refine r_iadd (pc := 58) C dX0_leavesOf_58 ?_
        refine r_istore_n (pc := 59) C dX0_leavesOf_59 rfl (by decide) [1, 2, 3, 0] (lv' := [(0, .ref (gA g 0)), (1, .int (iI ((t : Int)))), (2, .int (iI (σ 3 t))), (3, .int (iI (((stab 0 ((σ 3 t).toNat)) + 4) + ((σ 5 t) / 1000))))]) rfl ?_
        refine r_iload_n (pc := 60) C dX0_leavesOf_60 rfl 3 rfl ?_
        exact r_reti (pc := 61) C (by unfold leav; (first | rw [if_pos (by omega)] | rw [if_neg (by omega)]); (first | rw [if_pos (by omega)] | rw [if_neg (by omega)]); try omega) (rfl) dX0_leavesOf_61
  · skip
    refine r_iload_n (pc := 18) C dX0_leavesOf_18 rfl 2 rfl ?_
    refine r_iconst (pc := 19) C dX0_leavesOf_19 ?_
    refine r_icmp_ne (pc := 20) C 42 ⟨by omega, by omega⟩ ⟨by omega, by omega⟩ dX0_leavesOf_20 (by decide) (fun h20 => ?_) (fun h20 => ?_)
    · skip
      refine r_iload_n (pc := 42) C dX0_leavesOf_42 rfl 2 rfl ?_
      refine r_iconst (pc := 43) C dX0_leavesOf_43 ?_
      refine r_icmp_ne (pc := 44) C 60 ⟨by omega, by omega⟩ ⟨by omega, by omega⟩ dX0_leavesOf_44 (by decide) (fun h44 => ?_) (fun h44 => ?_)
      · skip
        refine r_iload_n (pc := 60) C dX0_leavesOf_60 rfl 3 rfl ?_
        exact r_reti (pc := 61) C (by unfold leav; (first | rw [if_pos (by omega)] | rw [if_neg (by omega)]); (first | rw [if_pos (by omega)] | rw [if_neg (by omega)]); try omega) (rfl) dX0_leavesOf_61
      · skip
        refine r_iload_n (pc := 47) C dX0_leavesOf_47 rfl 3 rfl ?_
        refine r_aload_n (pc := 48) C dX0_leavesOf_48 rfl 0 rfl ?_
        refine r_getR0 (pc := 49) C 4 (k' := 5) rfl O_0 (by decide) rfl t_111 dX0_leavesOf_49 ?_
        refine r_iload_n (pc := 52) C dX0_leavesOf_52 rfl 1 rfl ?_
        refine r_iald (pc := 53) C t A_5 (by omega) (by omega) dX0_leavesOf_53 ?_
        refine r_sipush (pc := 54) C dX0_leavesOf_54 (by decide) ?_
        refine r_idiv (pc := 57) C (by omega) (by omega) (by omega) (by omega) dX0_leavesOf_57 ?_
        refine r_iadd (pc := 58) C dX0_leavesOf_58 ?_
        refine r_istore_n (pc := 59) C dX0_leavesOf_59 rfl (by decide) [1, 2, 3, 0] (lv' := [(0, .ref (gA g 0)), (1, .int (iI ((t : Int)))), (2, .int (iI (σ 3 t))), (3, .int (iI ((stab 0 ((σ 3 t).toNat)) + ((σ 5 t) / 1000))))]) rfl ?_
        refine r_iload_n (pc := 60) C dX0_leavesOf_60 rfl 3 rfl ?_
        exact r_reti (pc := 61) C (by unfold leav; (first | rw [if_pos (by omega)] | rw [if_neg (by omega)]); (first | rw [if_pos (by omega)] | rw [if_neg (by omega)]); try omega) (rfl) dX0_leavesOf_61
    · skip
      refine r_aload_n (pc := 23) C dX0_leavesOf_23 rfl 0 rfl ?_
      refine r_getR0 (pc := 24) C 0 (k' := 1) rfl O_0 (by decide) rfl t_103 dX0_leavesOf_24 ?_
      refine r_aload_n (pc := 27) C dX0_leavesOf_27 rfl 0 rfl ?_
      refine r_getR0 (pc := 28) C 3 (k' := 4) rfl O_0 (by decide) rfl t_109 dX0_leavesOf_28 ?_
      refine r_iload_n (pc := 31) C dX0_leavesOf_31 rfl 1 rfl ?_
      refine r_iald (pc := 32) C t A_4 (by omega) (by omega) dX0_leavesOf_32 ?_
      refine r_iald (pc := 33) C ((σ 4 t).toNat) A_1 (by omega) (by omega) dX0_leavesOf_33 ?_
      refine r_bipush (pc := 34) C dX0_leavesOf_34 (by decide) ?_
      refine r_icmp_lt (pc := 36) C 42 ⟨by omega, by omega⟩ ⟨by omega, by omega⟩ dX0_leavesOf_36 (by decide) (fun h36 => ?_) (fun h36 => ?_)
      · skip
        refine r_iload_n (pc := 42) C dX0_leavesOf_42 rfl 2 rfl ?_
        refine r_iconst (pc := 43) C dX0_leavesOf_43 ?_
        refine r_icmp_ne (pc := 44) C 60 ⟨by omega, by omega⟩ ⟨by omega, by omega⟩ dX0_leavesOf_44 (by decide) (fun h44 => ?_) (fun h44 => ?_)
        · skip
          refine r_iload_n (pc := 60) C dX0_leavesOf_60 rfl 3 rfl ?_
          exact r_reti (pc := 61) C (by unfold leav; (first | rw [if_pos (by omega)] | rw [if_neg (by omega)]); (first | rw [if_pos (by omega)] | rw [if_neg (by omega)]); try omega) (rfl) dX0_leavesOf_61
        · skip
          refine r_iload_n (pc := 47) C dX0_leavesOf_47 rfl 3 rfl ?_
          refine r_aload_n (pc := 48) C dX0_leavesOf_48 rfl 0 rfl ?_
          refine r_getR0 (pc := 49) C 4 (k' := 5) rfl O_0 (by decide) rfl t_111 dX0_leavesOf_49 ?_
          refine r_iload_n (pc := 52) C dX0_leavesOf_52 rfl 1 rfl ?_
          refine r_iald (pc := 53) C t A_5 (by omega) (by omega) dX0_leavesOf_53 ?_
          refine r_sipush (pc := 54) C dX0_leavesOf_54 (by decide) ?_
          refine r_idiv (pc := 57) C (by omega) (by omega) (by omega) (by omega) dX0_leavesOf_57 ?_
          refine r_iadd (pc := 58) C dX0_leavesOf_58 ?_
          refine r_istore_n (pc := 59) C dX0_leavesOf_59 rfl (by decide) [1, 2, 3, 0] (lv' := [(0, .ref (gA g 0)), (1, .int (iI ((t : Int)))), (2, .int (iI (σ 3 t))), (3, .int (iI ((stab 0 ((σ 3 t).toNat)) + ((σ 5 t) / 1000))))]) rfl ?_
          refine r_iload_n (pc := 60) C dX0_leavesOf_60 rfl 3 rfl ?_
          exact r_reti (pc := 61) C (by unfold leav; (first | rw [if_pos (by omega)] | rw [if_neg (by omega)]); (first | rw [if_pos (by omega)] | rw [if_neg (by omega)]); try omega) (rfl) dX0_leavesOf_61
      · skip
        refine r_iinc (pc := 39) C dX0_leavesOf_39 3 rfl (by decide) [1, 2, 3, 0] (lv' := [(0, .ref (gA g 0)), (1, .int (iI ((t : Int)))), (2, .int (iI (σ 3 t))), (3, .int (iI ((stab 0 ((σ 3 t).toNat)) + 4)))]) rfl ?_
        refine r_iload_n (pc := 42) C dX0_leavesOf_42 rfl 2 rfl ?_
        refine r_iconst (pc := 43) C dX0_leavesOf_43 ?_
        refine r_icmp_ne (pc := 44) C 60 ⟨by omega, by omega⟩ ⟨by omega, by omega⟩ dX0_leavesOf_44 (by decide) (fun h44 => ?_) (fun h44 => ?_)
        · skip
          refine r_iload_n (pc := 60) C dX0_leavesOf_60 rfl 3 rfl ?_
          exact r_reti (pc := 61) C (by unfold leav; (first | rw [if_pos (by omega)] | rw [if_neg (by omega)]); (first | rw [if_pos (by omega)] | rw [if_neg (by omega)]); try omega) (rfl) dX0_leavesOf_61
        · skip
          refine r_iload_n (pc := 47) C dX0_leavesOf_47 rfl 3 rfl ?_
          refine r_aload_n (pc := 48) C dX0_leavesOf_48 rfl 0 rfl ?_
          refine r_getR0 (pc := 49) C 4 (k' := 5) rfl O_0 (by decide) rfl t_111 dX0_leavesOf_49 ?_
          refine r_iload_n (pc := 52) C dX0_leavesOf_52 rfl 1 rfl ?_
          refine r_iald (pc := 53) C t A_5 (by omega) (by omega) dX0_leavesOf_53 ?_
          refine r_sipush (pc := 54) C dX0_leavesOf_54 (by decide) ?_
          refine r_idiv (pc := 57) C (by omega) (by omega) (by omega) (by omega) dX0_leavesOf_57 ?_
          refine r_iadd (pc := 58) C dX0_leavesOf_58 ?_
          refine r_istore_n (pc := 59) C dX0_leavesOf_59 rfl (by decide) [1, 2, 3, 0] (lv' := [(0, .ref (gA g 0)), (1, .int (iI ((t : Int)))), (2, .int (iI (σ 3 t))), (3, .int (iI (((stab 0 ((σ 3 t).toNat)) + 4) + ((σ 5 t) / 1000))))]) rfl ?_
          refine r_iload_n (pc := 60) C dX0_leavesOf_60 rfl 3 rfl ?_
          exact r_reti (pc := 61) C (by unfold leav; (first | rw [if_pos (by omega)] | rw [if_neg (by omega)]); (first | rw [if_pos (by omega)] | rw [if_neg (by omega)]); try omega) (rfl) dX0_leavesOf_61
set_option maxHeartbeats 4000000 in
set_option maxRecDepth 100000 in
theorem c_sweep_0 (g : Gt) (t : Nat) (ht : t < 8) (σ : Sg) (hD : rgD (σ 1)) (hK : rgK (σ 3)) (hA : rgA (σ 4)) (hG : rgG (σ 5)) : Mt g yX0_sweep cX0_sweep 4 none 1 [.ref (gA g 0), .int (iI ((t : Int)))] σ (pV (us (us σ 1 (sw1 (σ 3) (σ 4) t (σ 1, σ 5)).1) 5 (sw1 (σ 3) (σ 4) t (σ 1, σ 5)).2)) := by
  have hk := hK t ht
  have ha := hA t ht
  have hg := hG t ht
  have hd := hD (σ 4 t).toNat (by omega)
  have h0 := stab1_rng (σ 3 t).toNat
  refine mt_of (own := RX0) (by decide) rfl (Nat.le_of_ble_eq_true rfl) (fun E C => ?_)
  show J g E (pV (us (us σ 1 (sw1 (σ 3) (σ 4) t (σ 1, σ 5)).1) 5 (sw1 (σ 3) (σ 4) t (σ 1, σ 5)).2)) 4 0 [(0, .ref (gA g 0)), (1, .int (iI ((t : Int))))] [] σ
  refine r_aload_n (pc := 0) C dX0_sweep_0 rfl 0 rfl ?_
  refine r_getR0 (pc := 1) C 3 (k' := 4) rfl O_0 (by decide) rfl t_109 dX0_sweep_1 ?_
  refine r_iload_n (pc := 4) C dX0_sweep_4 rfl 1 rfl ?_
  refine r_iald (pc := 5) C t A_4 (by omega) (by omega) dX0_sweep_5 ?_
  refine r_istore_n (pc := 6) C dX0_sweep_6 rfl (by decide) [1, 2, 0] (lv' := [(0, .ref (gA g 0)), (1, .int (iI ((t : Int)))), (2, .int (iI (σ 4 t)))]) rfl ?_
  refine r_getsN (pc := 7) C F_sw N_sw dX0_sweep_7 ?_
  refine r_aload_n (pc := 10) C dX0_sweep_10 rfl 0 rfl ?_
  refine r_getR0 (pc := 11) C 2 (k' := 3) rfl O_0 (by decide) rfl t_107 dX0_sweep_11 ?_
  refine r_iload_n (pc := 14) C dX0_sweep_14 rfl 1 rfl ?_
  refine r_iald (pc := 15) C t A_3 (by omega) (by omega) dX0_sweep_15 ?_
  refine r_tald (pc := 16) C ((σ 3 t).toNat) F_sw (by omega) (by omega) dX0_sweep_16 ?_
  refine r_aload_n (pc := 17) C dX0_sweep_17 rfl 0 rfl ?_
  refine r_getR0 (pc := 18) C 0 (k' := 1) rfl O_0 (by decide) rfl t_103 dX0_sweep_18 ?_
  refine r_iload_n (pc := 21) C dX0_sweep_21 rfl 2 rfl ?_
  refine r_iald (pc := 22) C ((σ 4 t).toNat) A_1 (by omega) (by omega) dX0_sweep_22 ?_
  refine r_min (pc := 23) C ⟨by omega, by omega⟩ ⟨by omega, by omega⟩ (by decide) (Nat.le_of_ble_eq_true rfl) t_347 dX0_sweep_23 ?_
  refine r_istore_n (pc := 26) C dX0_sweep_26 rfl (by decide) [1, 2, 3, 0] (lv' := [(0, .ref (gA g 0)), (1, .int (iI ((t : Int)))), (2, .int (iI (σ 4 t))), (3, .int (iI (min (stab 1 ((σ 3 t).toNat)) (σ 1 ((σ 4 t).toNat)))))]) rfl ?_
  refine r_aload_n (pc := 27) C dX0_sweep_27 rfl 0 rfl ?_
  refine r_getR0 (pc := 28) C 0 (k' := 1) rfl O_0 (by decide) rfl t_103 dX0_sweep_28 ?_
  refine r_iload_n (pc := 31) C dX0_sweep_31 rfl 2 rfl ?_
  refine r_dup2 (pc := 32) C rfl rfl dX0_sweep_32 ?_
  refine r_iald (pc := 33) C ((σ 4 t).toNat) A_1 (by omega) (by omega) dX0_sweep_33 ?_
  refine r_iload_n (pc := 34) C dX0_sweep_34 rfl 3 rfl ?_
  refine r_isub (pc := 35) C dX0_sweep_35 ?_
  refine r_iast (pc := 36) C ((σ 4 t).toNat) A_1 (by omega) (by omega) dX0_sweep_36 ?_
  refine r_aload_n (pc := 37) C dX0_sweep_37 rfl 0 rfl ?_
  refine r_getR0 (pc := 38) C 2 (k' := 3) rfl O_0 (by decide) rfl t_107 dX0_sweep_38 ?_
  refine r_iload_n (pc := 41) C dX0_sweep_41 rfl 1 rfl ?_
  refine r_iald (pc := 42) C t A_3 (by omega) (by omega) dX0_sweep_42 ?_
  refine r_top (wr_o2 _ _ _ _ (by omega)) ?_
  refine r_iconst (pc := 43) C dX0_sweep_43 ?_
  refine r_icmp_ne (pc := 44) C 56 ⟨by omega, by omega⟩ ⟨by omega, by omega⟩ dX0_sweep_44 (by decide) (fun h44 => ?_) (fun h44 => ?_)
  · skip
    refine r_aload_n (pc := 56) C dX0_sweep_56 rfl 0 rfl ?_
    refine r_getR0 (pc := 57) C 2 (k' := 3) rfl O_0 (by decide) rfl t_107 dX0_sweep_57 ?_
    refine r_iload_n (pc := 60) C dX0_sweep_60 rfl 1 rfl ?_
    refine r_iald (pc := 61) C t A_3 (by omega) (by omega) dX0_sweep_61 ?_
    refine r_top (wr_o2 _ _ _ _ (by omega)) ?_
    refine r_iconst (pc := 62) C dX0_sweep_62 ?_
    refine r_icmp_ne (pc := 63) C 74 ⟨by omega, by omega⟩ ⟨by omega, by omega⟩ dX0_sweep_63 (by decide) (fun h63 => ?_) (fun h63 => ?_)
    · skip
      exact r_retv (pc := 74) C (by unfold sw1; (first | rw [if_pos (by omega)] | (rw [if_neg (by omega)]; first | rw [if_pos (by omega)] | rw [if_neg (by omega)])) <;> first | rfl | exact (us_idx rfl).symm) dX0_sweep_74
    · skip
      refine r_aload_n (pc := 66) C dX0_sweep_66 rfl 0 rfl ?_
      refine r_iload_n (pc := 67) C dX0_sweep_67 rfl 1 rfl ?_
      refine r_iload_n (pc := 68) C dX0_sweep_68 rfl 3 rfl ?_
      refine r_iconst (pc := 69) C dX0_sweep_69 ?_
      refine r_idiv (pc := 70) C (by omega) (by omega) (by omega) (by omega) dX0_sweep_70 ?_
      refine r_cVv (pc := 71) C (c_gain_0 g t (by omega) ((min (stab 1 ((σ 3 t).toNat)) (σ 1 ((σ 4 t).toNat))) / 2) ⟨by omega, by omega⟩ (wr σ 1 ((σ 4 t).toNat) ((σ 1 ((σ 4 t).toNat)) - (min (stab 1 ((σ 3 t).toNat)) (σ 1 ((σ 4 t).toNat))))) hG) yX0_gain_w O_0 rfl rfl t_375 ⟨by decide, by decide⟩ (Nat.le_of_ble_eq_true rfl) rfl dX0_sweep_71 ?_
      exact r_retv (pc := 74) C (by unfold sw1; (first | rw [if_pos (by omega)] | (rw [if_neg (by omega)]; first | rw [if_pos (by omega)] | rw [if_neg (by omega)])) <;> first | rfl | exact (us_idx rfl).symm) dX0_sweep_74
  · skip
    refine r_aload_n (pc := 47) C dX0_sweep_47 rfl 0 rfl ?_
    refine r_iload_n (pc := 48) C dX0_sweep_48 rfl 1 rfl ?_
    refine r_iload_n (pc := 49) C dX0_sweep_49 rfl 3 rfl ?_
    refine r_cVv (pc := 50) C (c_gain_0 g t (by omega) (min (stab 1 ((σ 3 t).toNat)) (σ 1 ((σ 4 t).toNat))) ⟨by omega, by omega⟩ (wr σ 1 ((σ 4 t).toNat) ((σ 1 ((σ 4 t).toNat)) - (min (stab 1 ((σ 3 t).toNat)) (σ 1 ((σ 4 t).toNat))))) hG) yX0_gain_w O_0 rfl rfl t_375 ⟨by decide, by decide⟩ (Nat.le_of_ble_eq_true rfl) rfl dX0_sweep_50 ?_
    refine r_goto (pc := 53) C 74 dX0_sweep_53 (by decide) ?_
    exact r_retv (pc := 74) C (by unfold sw1; (first | rw [if_pos (by omega)] | (rw [if_neg (by omega)]; first | rw [if_pos (by omega)] | rw [if_neg (by omega)])) <;> first | rfl | exact (us_idx rfl).symm) dX0_sweep_74
set_option maxHeartbeats 4000000 in
set_option maxRecDepth 100000 in
theorem c_blow_0 (g : Gt) (σ : Sg) (hD : rgD (σ 1)) (hw : -3 ≤ σ 0 9 ∧ σ 0 9 ≤ 3) : Mt g yX0_blow cX0_blow 2 none 1 [.ref (gA g 0)] σ (pV (us (us σ 2 (blF (σ 0 9) (σ 1) (σ 2) 12)) 1 (mapTo (blD (σ 0 9) (σ 1)) (σ 1) 12))) := by
  refine mt_of (own := RX0) (by decide) rfl (Nat.le_of_ble_eq_true rfl) (fun E C => ?_)
  show J g E (pV (us (us σ 2 (blF (σ 0 9) (σ 1) (σ 2) 12)) 1 (mapTo (blD (σ 0 9) (σ 1)) (σ 1) 12))) 2 0 [(0, .ref (gA g 0))] [] σ
  refine r_iconst (pc := 0) C dX0_blow_0 ?_
  refine r_istore_n (pc := 1) C dX0_blow_1 rfl (by decide) [1, 0] (lv' := [(0, .ref (gA g 0)), (1, .int (iI (0)))]) rfl ?_
  have L2 : ∀ (n_ : Nat) (i : Nat) (x2_1 : Int) (s2 : Sg), 12 - i < n_ → (i ≤ 12) → x2_1 = (i : Int) → s2 = (us σ 2 (blF (σ 0 9) (σ 1) (σ 2) i)) → J g E (pV (us (us σ 2 (blF (σ 0 9) (σ 1) (σ 2) 12)) 1 (mapTo (blD (σ 0 9) (σ 1)) (σ 1) 12))) 2 2 [(0, .ref (gA g 0)), (1, .int (iI (x2_1)))] [] s2 := by
    intro n_
    induction n_ with
    | zero => intro i x2_1 s2 hm_; exact absurd hm_ (Nat.not_lt_zero _)
    | succ n_ ih2 =>
      intro i x2_1 s2 hm2 hi2_0 e2_0 es2
      subst e2_0 es2
      refine r_iload_n (pc := 2) C dX0_blow_2 rfl 1 rfl ?_
      refine r_bipush (pc := 3) C dX0_blow_3 (by decide) ?_
      refine r_icmp_ge (pc := 5) C 39 ⟨by omega, by omega⟩ ⟨by omega, by omega⟩ dX0_blow_5 (by decide) (fun h5 => ?_) (fun h5 => ?_)
      · skip
        refine r_iconst (pc := 39) C dX0_blow_39 ?_
        refine r_istore_n (pc := 40) C dX0_blow_40 rfl (by decide) [1, 0] (lv' := [(0, .ref (gA g 0)), (1, .int (iI (0)))]) rfl ?_
        have L41 : ∀ (n_ : Nat) (i : Nat) (x41_1 : Int) (s41 : Sg), 12 - i < n_ → (i ≤ 12) → x41_1 = (i : Int) → s41 = (us (us σ 2 (blF (σ 0 9) (σ 1) (σ 2) 12)) 1 (mapTo (blD (σ 0 9) (σ 1)) (σ 1) i)) → J g E (pV (us (us σ 2 (blF (σ 0 9) (σ 1) (σ 2) 12)) 1 (mapTo (blD (σ 0 9) (σ 1)) (σ 1) 12))) 2 41 [(0, .ref (gA g 0)), (1, .int (iI (x41_1)))] [] s41 := by
          intro n_
          induction n_ with
          | zero => intro i x41_1 s41 hm_; exact absurd hm_ (Nat.not_lt_zero _)
          | succ n_ ih41 =>
            intro i x41_1 s41 hm41 hi41_0 e41_0 es41
            subst e41_0 es41
            refine r_iload_n (pc := 41) C dX0_blow_41 rfl 1 rfl ?_
            refine r_bipush (pc := 42) C dX0_blow_42 (by decide) ?_
            refine r_icmp_ge (pc := 44) C 82 ⟨by omega, by omega⟩ ⟨by omega, by omega⟩ dX0_blow_44 (by decide) (fun h44 => ?_) (fun h44 => ?_)
            · skip
              exact r_retv (pc := 82) C (by rw [show i = 12 by omega]) dX0_blow_82
            · skip
              refine r_aload_n (pc := 47) C dX0_blow_47 rfl 0 rfl ?_
              refine r_getR0 (pc := 48) C 0 (k' := 1) rfl O_0 (by decide) rfl t_103 dX0_blow_48 ?_
              refine r_iload_n (pc := 51) C dX0_blow_51 rfl 1 rfl ?_
              refine r_aload_n (pc := 52) C dX0_blow_52 rfl 0 rfl ?_
              refine r_getR0 (pc := 53) C 0 (k' := 1) rfl O_0 (by decide) rfl t_103 dX0_blow_53 ?_
              refine r_iload_n (pc := 56) C dX0_blow_56 rfl 1 rfl ?_
              have hd := hD i (by omega)
              refine r_iald (pc := 57) C i A_1 (by omega) (by omega) dX0_blow_57 ?_
              refine r_top (us_s2 _ _ _ _) ?_
              refine r_top (show (mapTo (blD (σ 0 9) (σ 1)) (σ 1) i) i = σ 1 i from mapTo_at _ _ _) ?_
              refine r_aload_n (pc := 58) C dX0_blow_58 rfl 0 rfl ?_
              refine r_getR0 (pc := 59) C 0 (k' := 1) rfl O_0 (by decide) rfl t_103 dX0_blow_59 ?_
              refine r_iload_n (pc := 62) C dX0_blow_62 rfl 1 rfl ?_
              refine r_iald (pc := 63) C i A_1 (by omega) (by omega) dX0_blow_63 ?_
              refine r_top (us_s2 _ _ _ _) ?_
              refine r_top (show (mapTo (blD (σ 0 9) (σ 1)) (σ 1) i) i = σ 1 i from mapTo_at _ _ _) ?_
              refine r_bipush (pc := 64) C dX0_blow_64 (by decide) ?_
              refine r_idiv (pc := 66) C (by omega) (by omega) (by omega) (by omega) dX0_blow_66 ?_
              refine r_isub (pc := 67) C dX0_blow_67 ?_
              refine r_aload_n (pc := 68) C dX0_blow_68 rfl 0 rfl ?_
              refine r_getR0 (pc := 69) C 1 (k' := 2) rfl O_0 (by decide) rfl t_106 dX0_blow_69 ?_
              refine r_iload_n (pc := 72) C dX0_blow_72 rfl 1 rfl ?_
              refine r_iald (pc := 73) C i A_2 (by omega) (by omega) dX0_blow_73 ?_
              refine r_top ((us_o2 _ _ _ (by omega)).trans (us_s2 _ _ _ _)) ?_
              refine r_top (show (blF (σ 0 9) (σ 1) (σ 2) 12) i = σ 1 (shf (σ 0 9) i) / 10 from blF_is _ _ _ hw i (by omega)) ?_
              refine r_iadd (pc := 74) C dX0_blow_74 ?_
              refine r_iast (pc := 75) C i A_1 (by omega) (by omega) dX0_blow_75 ?_
              refine r_iinc (pc := 76) C dX0_blow_76 1 rfl (by decide) [1, 0] (lv' := [(0, .ref (gA g 0)), (1, .int (iI ((i : Int) + 1)))]) rfl ?_
              refine r_goto (pc := 79) C 41 dX0_blow_79 (by decide) ?_
              exact ih41 (i + 1) _ _ (by omega) (by omega) (by omega) ((wr_us _ _ _ _ _).trans (congrArg (us _ 1) (mapTo_s _ _ _)))
        exact L41 _ 0 _ _ (Nat.lt_succ_self _) (by omega) (rfl) (by rw [show i = 12 by omega, mapTo_0]; exact (us_idx rfl).symm)
      · skip
        refine r_aload_n (pc := 8) C dX0_blow_8 rfl 0 rfl ?_
        refine r_getR0 (pc := 9) C 1 (k' := 2) rfl O_0 (by decide) rfl t_106 dX0_blow_9 ?_
        refine r_iload_n (pc := 12) C dX0_blow_12 rfl 1 rfl ?_
        refine r_aload_n (pc := 13) C dX0_blow_13 rfl 0 rfl ?_
        refine r_getI0 (pc := 14) C 9 rfl O_0 (by decide) rfl t_125 dX0_blow_14 ?_
        refine r_top (us_o2 _ _ _ (by omega)) ?_
        refine r_iadd (pc := 17) C dX0_blow_17 ?_
        refine r_bipush (pc := 18) C dX0_blow_18 (by decide) ?_
        refine r_cSi (pc := 20) C (c_floorMod g ((i : Int) + (σ 0 9)) ⟨by omega, by omega⟩ (us σ 2 (blF (σ 0 9) (σ 1) (σ 2) i))) yJ9_floorMod_7cf53_w rfl t_344 ⟨by decide, by decide⟩ (Nat.le_of_ble_eq_true rfl) rfl dX0_blow_20 ?_
        refine r_top (show _ = ((i : Int) + (σ 0 9)) % 12 from rfl) ?_
        refine r_aload_n (pc := 23) C dX0_blow_23 rfl 0 rfl ?_
        refine r_getR0 (pc := 24) C 0 (k' := 1) rfl O_0 (by decide) rfl t_103 dX0_blow_24 ?_
        refine r_iload_n (pc := 27) C dX0_blow_27 rfl 1 rfl ?_
        have hd := hD i (by omega)
        refine r_iald (pc := 28) C i A_1 (by omega) (by omega) dX0_blow_28 ?_
        refine r_top (us_o2 _ _ _ (by omega)) ?_
        refine r_bipush (pc := 29) C dX0_blow_29 (by decide) ?_
        refine r_idiv (pc := 31) C (by omega) (by omega) (by omega) (by omega) dX0_blow_31 ?_
        refine r_iast (pc := 32) C (md ((i : Int) + σ 0 9)) A_2 (by first | (show _ = ((md _ : Nat) : Int); unfold md; omega) | exact md_lt _) (by first | (show _ = ((md _ : Nat) : Int); unfold md; omega) | exact md_lt _) dX0_blow_32 ?_
        refine r_iinc (pc := 33) C dX0_blow_33 1 rfl (by decide) [1, 0] (lv' := [(0, .ref (gA g 0)), (1, .int (iI ((i : Int) + 1)))]) rfl ?_
        refine r_goto (pc := 36) C 2 dX0_blow_36 (by decide) ?_
        exact ih2 (i + 1) _ _ (by omega) (by omega) (by omega) (wr_us _ _ _ _ _)
  exact L2 _ 0 _ _ (Nat.lt_succ_self _) (by omega) (rfl) ((us_id σ 2).symm)
def setS_0 (m : Int) (σ : Sg) : Sg := (us (us (us σ 2 (blF (σ 0 9) (σ 1) (σ 2) 12)) 1 ((swF (σ 3) (σ 4) m (dyD (σ 0 9) (σ 0 8) (σ 1), σ 5) (σ 0 7).toNat).1)) 5 ((swF (σ 3) (σ 4) m (dyD (σ 0 9) (σ 0 8) (σ 1), σ 5) (σ 0 7).toNat).2))
set_option maxHeartbeats 4000000 in
set_option maxRecDepth 100000 in
theorem c_settle_0 (g : Gt) (m : Int) (hm : rng m) (σ : Sg) (hn : 0 ≤ σ 0 7 ∧ σ 0 7 ≤ 8) (hfl : 0 ≤ σ 0 8 ∧ σ 0 8 ≤ 99) (hw : -3 ≤ σ 0 9 ∧ σ 0 9 ≤ 3) (hD : rgD (σ 1)) (hK : rgK (σ 3)) (hA : rgA (σ 4)) (hG : rgG (σ 5)) : Mt g yX0_settle cX0_settle 3 none 2 [.ref (gA g 0), .int (iI (m))] σ (pV (setS_0 m σ)) := by
  refine mt_of (own := RX0) (by decide) rfl (Nat.le_of_ble_eq_true rfl) (fun E C => ?_)
  show J g E (pV (setS_0 m σ)) 3 0 [(0, .ref (gA g 0)), (1, .int (iI (m)))] [] σ
  refine r_aload_n (pc := 0) C dX0_settle_0 rfl 0 rfl ?_
  refine r_cVv (pc := 1) C (c_blow_0 g σ hD hw) yX0_blow_w O_0 rfl rfl t_366 ⟨by decide, by decide⟩ (Nat.le_of_ble_eq_true rfl) rfl dX0_settle_1 ?_
  refine r_iconst (pc := 4) C dX0_settle_4 ?_
  refine r_istore_n (pc := 5) C dX0_settle_5 rfl (by decide) [1, 2, 0] (lv' := [(0, .ref (gA g 0)), (1, .int (iI (m))), (2, .int (iI (0)))]) rfl ?_
  have L6 : ∀ (n_ : Nat) (i : Nat) (x6_2 : Int) (s6 : Sg), 12 - i < n_ → (i ≤ 12) → x6_2 = (i : Int) → s6 = (us (us σ 2 (blF (σ 0 9) (σ 1) (σ 2) 12)) 1 (mapTo (fun j => min 9999 ((mapTo (blD (σ 0 9) (σ 1)) (σ 1) 12) j + σ 0 8)) (mapTo (blD (σ 0 9) (σ 1)) (σ 1) 12) i)) → J g E (pV (setS_0 m σ)) 3 6 [(0, .ref (gA g 0)), (1, .int (iI (m))), (2, .int (iI (x6_2)))] [] s6 := by
    intro n_
    induction n_ with
    | zero => intro i x6_2 s6 hm_; exact absurd hm_ (Nat.not_lt_zero _)
    | succ n_ ih6 =>
      intro i x6_2 s6 hm6 hi6_0 e6_0 es6
      subst e6_0 es6
      refine r_iload_n (pc := 6) C dX0_settle_6 rfl 2 rfl ?_
      refine r_bipush (pc := 7) C dX0_settle_7 (by decide) ?_
      refine r_icmp_ge (pc := 9) C 41 ⟨by omega, by omega⟩ ⟨by omega, by omega⟩ dX0_settle_9 (by decide) (fun h9 => ?_) (fun h9 => ?_)
      · skip
        refine r_iconst (pc := 41) C dX0_settle_41 ?_
        refine r_istore_n (pc := 42) C dX0_settle_42 rfl (by decide) [1, 2, 0] (lv' := [(0, .ref (gA g 0)), (1, .int (iI (m))), (2, .int (iI (0)))]) rfl ?_
        have L43 : ∀ (n_ : Nat) (i : Nat) (x43_2 : Int) (s43 : Sg), (σ 0 7).toNat - i < n_ → ((i : Int) ≤ σ 0 7) → x43_2 = (i : Int) → s43 = (us (us (us σ 2 (blF (σ 0 9) (σ 1) (σ 2) 12)) 1 ((swF (σ 3) (σ 4) m (dyD (σ 0 9) (σ 0 8) (σ 1), σ 5) i).1)) 5 ((swF (σ 3) (σ 4) m (dyD (σ 0 9) (σ 0 8) (σ 1), σ 5) i).2)) → J g E (pV (setS_0 m σ)) 3 43 [(0, .ref (gA g 0)), (1, .int (iI (m))), (2, .int (iI (x43_2)))] [] s43 := by
          intro n_
          induction n_ with
          | zero => intro i x43_2 s43 hm_; exact absurd hm_ (Nat.not_lt_zero _)
          | succ n_ ih43 =>
            intro i x43_2 s43 hm43 hi43_0 e43_0 es43
            subst e43_0 es43
            have hsw := swF_rng (K := σ 3) (m := m) (q := (dyD (σ 0 9) (σ 0 8) (σ 1), σ 5)) hA (dyD_rng hfl hD) hG i (by omega)
            refine r_iload_n (pc := 43) C dX0_settle_43 rfl 2 rfl ?_
            refine r_aload_n (pc := 44) C dX0_settle_44 rfl 0 rfl ?_
            refine r_getI0 (pc := 45) C 7 rfl O_0 (by decide) rfl t_119 dX0_settle_45 ?_
            refine r_top ((us_o2 _ _ _ (by omega)).trans ((us_o2 _ _ _ (by omega)).trans (us_o2 _ _ _ (by omega)))) ?_
            refine r_icmp_ge (pc := 48) C 71 ⟨by omega, by omega⟩ ⟨by omega, by omega⟩ dX0_settle_48 (by decide) (fun h48 => ?_) (fun h48 => ?_)
            · skip
              exact r_retv (pc := 71) C (by rw [show i = (σ 0 7).toNat by omega]; rfl) dX0_settle_71
            · skip
              refine r_iload_n (pc := 51) C dX0_settle_51 rfl 1 rfl ?_
              refine r_iload_n (pc := 52) C dX0_settle_52 rfl 2 rfl ?_
              refine r_ishr (pc := 53) C dX0_settle_53 ?_
              refine r_iconst (pc := 54) C dX0_settle_54 ?_
              refine r_iand (pc := 55) C dX0_settle_55 ?_
              refine r_iconst (pc := 56) C dX0_settle_56 ?_
              refine r_icmp_ne (pc := 57) C 65 (band_rng _ _) ⟨by omega, by omega⟩ dX0_settle_57 (by decide) (fun h57 => ?_) (fun h57 => ?_)
              · skip
                refine r_iinc (pc := 65) C dX0_settle_65 2 rfl (by decide) [1, 2, 0] (lv' := [(0, .ref (gA g 0)), (1, .int (iI (m))), (2, .int (iI ((i : Int) + 1)))]) rfl ?_
                refine r_goto (pc := 68) C 43 dX0_settle_68 (by decide) ?_
                exact ih43 (i + 1) _ _ (by omega) (by omega) (by omega) (by first | (rw [swF, if_pos (by assumption)]; exact us_4 _ 1 5 (by decide) _ _ _ _) | rw [swF, if_neg (by assumption)])
              · skip
                refine r_aload_n (pc := 60) C dX0_settle_60 rfl 0 rfl ?_
                refine r_iload_n (pc := 61) C dX0_settle_61 rfl 2 rfl ?_
                refine r_cVv (pc := 62) C (c_sweep_0 g i (by omega) (us (us (us σ 2 (blF (σ 0 9) (σ 1) (σ 2) 12)) 1 ((swF (σ 3) (σ 4) m (dyD (σ 0 9) (σ 0 8) (σ 1), σ 5) i).1)) 5 ((swF (σ 3) (σ 4) m (dyD (σ 0 9) (σ 0 8) (σ 1), σ 5) i).2)) hsw.1 hK hA hsw.2) yX0_sweep_w O_0 rfl rfl t_370 ⟨by decide, by decide⟩ (Nat.le_of_ble_eq_true rfl) rfl dX0_settle_62 ?_
                refine r_iinc (pc := 65) C dX0_settle_65 2 rfl (by decide) [1, 2, 0] (lv' := [(0, .ref (gA g 0)), (1, .int (iI (m))), (2, .int (iI ((i : Int) + 1)))]) rfl ?_
                refine r_goto (pc := 68) C 43 dX0_settle_68 (by decide) ?_
                exact ih43 (i + 1) _ _ (by omega) (by omega) (by omega) (by first | (rw [swF, if_pos (by assumption)]; exact us_4 _ 1 5 (by decide) _ _ _ _) | rw [swF, if_neg (by assumption)])
        exact L43 _ 0 _ _ (Nat.lt_succ_self _) (by omega) (rfl) (by rw [show i = 12 by omega]; exact (us_idx rfl).symm)
      · skip
        refine r_aload_n (pc := 12) C dX0_settle_12 rfl 0 rfl ?_
        refine r_getR0 (pc := 13) C 0 (k' := 1) rfl O_0 (by decide) rfl t_103 dX0_settle_13 ?_
        refine r_iload_n (pc := 16) C dX0_settle_16 rfl 2 rfl ?_
        refine r_sipush (pc := 17) C dX0_settle_17 (by decide) ?_
        refine r_aload_n (pc := 20) C dX0_settle_20 rfl 0 rfl ?_
        refine r_getR0 (pc := 21) C 0 (k' := 1) rfl O_0 (by decide) rfl t_103 dX0_settle_21 ?_
        refine r_iload_n (pc := 24) C dX0_settle_24 rfl 2 rfl ?_
        have hd := blD_rng (w := σ 0 9) hD i (by omega)
        refine r_iald (pc := 25) C i A_1 (by omega) (by omega) dX0_settle_25 ?_
        refine r_top (us_s2 _ _ _ _) ?_
        refine r_top (show (mapTo (fun j => min 9999 ((mapTo (blD (σ 0 9) (σ 1)) (σ 1) 12) j + σ 0 8)) (mapTo (blD (σ 0 9) (σ 1)) (σ 1) 12) i) i = (mapTo (blD (σ 0 9) (σ 1)) (σ 1) 12) i from mapTo_at _ _ _) ?_
        refine r_aload_n (pc := 26) C dX0_settle_26 rfl 0 rfl ?_
        refine r_getI0 (pc := 27) C 8 rfl O_0 (by decide) rfl t_122 dX0_settle_27 ?_
        refine r_top ((us_o2 _ _ _ (by omega)).trans (us_o2 _ _ _ (by omega))) ?_
        refine r_iadd (pc := 30) C dX0_settle_30 ?_
        refine r_min (pc := 31) C ⟨by omega, by omega⟩ ⟨by omega, by omega⟩ (by decide) (Nat.le_of_ble_eq_true rfl) t_347 dX0_settle_31 ?_
        refine r_iast (pc := 34) C i A_1 (by omega) (by omega) dX0_settle_34 ?_
        refine r_iinc (pc := 35) C dX0_settle_35 2 rfl (by decide) [1, 2, 0] (lv' := [(0, .ref (gA g 0)), (1, .int (iI (m))), (2, .int (iI ((i : Int) + 1)))]) rfl ?_
        refine r_goto (pc := 38) C 6 dX0_settle_38 (by decide) ?_
        exact ih6 (i + 1) _ _ (by omega) (by omega) (by omega) ((wr_us _ _ _ _ _).trans (congrArg (us _ 1) (mapTo_s _ _ _)))
  exact L6 _ 0 _ _ (Nat.lt_succ_self _) (by omega) (rfl) (by rw [mapTo_0])
set_option maxHeartbeats 4000000 in
set_option maxRecDepth 100000 in
theorem c_leaveMarks_0 (g : Gt) (σ : Sg) (hn : 0 ≤ σ 0 7 ∧ σ 0 7 ≤ 8) (hD : rgD (σ 1)) (hK : rgK (σ 3)) (hA : rgA (σ 4)) (hG : rgG (σ 5)) (hM : rgM (σ 6)) : Mt g yX0_leaveMarks cX0_leaveMarks 5 none 1 [.ref (gA g 0)] σ (pV (us σ 6 (mkT (σ 0 7).toNat (σ 3) (σ 4) (σ 1) (σ 5) (σ 6) (σ 0 7).toNat))) := by
  refine mt_of (own := RX0) (by decide) rfl (Nat.le_of_ble_eq_true rfl) (fun E C => ?_)
  show J g E (pV (us σ 6 (mkT (σ 0 7).toNat (σ 3) (σ 4) (σ 1) (σ 5) (σ 6) (σ 0 7).toNat))) 5 0 [(0, .ref (gA g 0))] [] σ
  refine r_iconst (pc := 0) C dX0_leaveMarks_0 ?_
  refine r_istore_n (pc := 1) C dX0_leaveMarks_1 rfl (by decide) [1, 0] (lv' := [(0, .ref (gA g 0)), (1, .int (iI (0)))]) rfl ?_
  have L2 : ∀ (n_ : Nat) (i : Nat) (x2_1 : Int) (s2 : Sg), (σ 0 7).toNat - i < n_ → ((i : Int) ≤ σ 0 7) → x2_1 = (i : Int) → s2 = (us σ 6 (mkT (σ 0 7).toNat (σ 3) (σ 4) (σ 1) (σ 5) (σ 6) i)) → J g E (pV (us σ 6 (mkT (σ 0 7).toNat (σ 3) (σ 4) (σ 1) (σ 5) (σ 6) (σ 0 7).toNat))) 5 2 [(0, .ref (gA g 0)), (1, .int (iI (x2_1)))] [] s2 := by
    intro n_
    induction n_ with
    | zero => intro i x2_1 s2 hm_; exact absurd hm_ (Nat.not_lt_zero _)
    | succ n_ ih2 =>
      intro i x2_1 s2 hm2 hi2_0 e2_0 es2
      subst e2_0 es2
      have hmt := mkT_rng (n := (σ 0 7).toNat) (K := σ 3) (D := σ 1) (by omega) hA hG hM i (by omega)
      refine r_iload_n (pc := 2) C dX0_leaveMarks_2 rfl 1 rfl ?_
      refine r_aload_n (pc := 3) C dX0_leaveMarks_3 rfl 0 rfl ?_
      refine r_getI0 (pc := 4) C 7 rfl O_0 (by decide) rfl t_119 dX0_leaveMarks_4 ?_
      refine r_top (us_o2 _ _ _ (by omega)) ?_
      refine r_icmp_ge (pc := 7) C 101 ⟨by omega, by omega⟩ ⟨by omega, by omega⟩ dX0_leaveMarks_7 (by decide) (fun h7 => ?_) (fun h7 => ?_)
      · skip
        exact r_retv (pc := 101) C (by rw [show i = (σ 0 7).toNat by omega]) dX0_leaveMarks_101
      · skip
        refine r_aload_n (pc := 10) C dX0_leaveMarks_10 rfl 0 rfl ?_
        refine r_getR0 (pc := 11) C 3 (k' := 4) rfl O_0 (by decide) rfl t_109 dX0_leaveMarks_11 ?_
        refine r_iload_n (pc := 14) C dX0_leaveMarks_14 rfl 1 rfl ?_
        have ha := hA i (by omega)
        refine r_iald (pc := 15) C i A_4 (by omega) (by omega) dX0_leaveMarks_15 ?_
        refine r_top (us_o2 _ _ _ (by omega)) ?_
        refine r_istore_n (pc := 16) C dX0_leaveMarks_16 rfl (by decide) [1, 2, 0] (lv' := [(0, .ref (gA g 0)), (1, .int (iI ((i : Int)))), (2, .int (iI (σ 4 i)))]) rfl ?_
        refine r_iconst (pc := 17) C dX0_leaveMarks_17 ?_
        refine r_istore_n (pc := 18) C dX0_leaveMarks_18 rfl (by decide) [1, 2, 3, 0] (lv' := [(0, .ref (gA g 0)), (1, .int (iI ((i : Int)))), (2, .int (iI (σ 4 i))), (3, .int (iI (0)))]) rfl ?_
        have L19 : ∀ (n_ : Nat) (o : Nat) (x19_3 : Int) (s19 : Sg), (σ 0 7).toNat - o < n_ → ((o : Int) ≤ σ 0 7) → x19_3 = (o : Int) → s19 = (us σ 6 (mkI i (σ 4 i).toNat (leav (σ 3 i) (σ 1 (σ 4 i).toNat) (σ 5 i)) (mkT (σ 0 7).toNat (σ 3) (σ 4) (σ 1) (σ 5) (σ 6) i) o)) → J g E (pV (us σ 6 (mkT (σ 0 7).toNat (σ 3) (σ 4) (σ 1) (σ 5) (σ 6) (σ 0 7).toNat))) 5 19 [(0, .ref (gA g 0)), (1, .int (iI ((i : Int)))), (2, .int (iI (σ 4 i))), (3, .int (iI (x19_3)))] [] s19 := by
          intro n_
          induction n_ with
          | zero => intro o x19_3 s19 hm_; exact absurd hm_ (Nat.not_lt_zero _)
          | succ n_ ih19 =>
            intro o x19_3 s19 hm19 hi19_0 e19_0 es19
            subst e19_0 es19
            have hmi := mkI_rng (t := i) (leav_rng (k := σ 3 i) (d := σ 1 (σ 4 i).toNat) (hG i (by omega))).1 (show (σ 4 i).toNat < 12 by omega) hmt o (by omega)
            refine r_iload_n (pc := 19) C dX0_leaveMarks_19 rfl 3 rfl ?_
            refine r_aload_n (pc := 20) C dX0_leaveMarks_20 rfl 0 rfl ?_
            refine r_getI0 (pc := 21) C 7 rfl O_0 (by decide) rfl t_119 dX0_leaveMarks_21 ?_
            refine r_top (us_o2 _ _ _ (by omega)) ?_
            refine r_icmp_ge (pc := 24) C 95 ⟨by omega, by omega⟩ ⟨by omega, by omega⟩ dX0_leaveMarks_24 (by decide) (fun h24 => ?_) (fun h24 => ?_)
            · skip
              refine r_iinc (pc := 95) C dX0_leaveMarks_95 1 rfl (by decide) [1, 0, 2, 3] (lv' := [(0, .ref (gA g 0)), (1, .int (iI ((i : Int) + 1))), (2, .int (iI (σ 4 i))), (3, .int (iI ((o : Int))))]) rfl ?_
              refine r_goto (pc := 98) C 2 dX0_leaveMarks_98 (by decide) ?_
              refine r_lv [0, 1] (lv' := [(0, .ref (gA g 0)), (1, .int (iI ((i : Int) + 1)))]) rfl ?_
              exact ih2 (i + 1) _ _ (by omega) (by omega) (by omega) (by rw [show o = (σ 0 7).toNat by omega]; rfl)
            · skip
              have hm1 := hmi (12 * o + (σ 4 i).toNat) (by omega)
              have hl := leav_rng (k := σ 3 i) (d := σ 1 (σ 4 i).toNat) (hG i (by omega))
              refine r_iload_n (pc := 27) C dX0_leaveMarks_27 rfl 3 rfl ?_
              refine r_bipush (pc := 28) C dX0_leaveMarks_28 (by decide) ?_
              refine r_imul (pc := 30) C dX0_leaveMarks_30 ?_
              refine r_iload_n (pc := 31) C dX0_leaveMarks_31 rfl 2 rfl ?_
              refine r_iadd (pc := 32) C dX0_leaveMarks_32 ?_
              refine r_istore (pc := 33) C dX0_leaveMarks_33 (by decide) [1, 2, 3, 4, 0] (lv' := [(0, .ref (gA g 0)), (1, .int (iI ((i : Int)))), (2, .int (iI (σ 4 i))), (3, .int (iI ((o : Int)))), (4, .int (iI (((o : Int) * 12) + (σ 4 i))))]) rfl ?_
              refine r_iload_n (pc := 35) C dX0_leaveMarks_35 rfl 3 rfl ?_
              refine r_iload_n (pc := 36) C dX0_leaveMarks_36 rfl 1 rfl ?_
              refine r_icmp_ne (pc := 37) C 68 ⟨by omega, by omega⟩ ⟨by omega, by omega⟩ dX0_leaveMarks_37 (by decide) (fun h37 => ?_) (fun h37 => ?_)
              · skip
                refine r_aload_n (pc := 68) C dX0_leaveMarks_68 rfl 0 rfl ?_
                refine r_getR0 (pc := 69) C 5 (k' := 6) rfl O_0 (by decide) rfl t_114 dX0_leaveMarks_69 ?_
                refine r_iload (pc := 72) C dX0_leaveMarks_72 4 rfl ?_
                refine r_iald (pc := 74) C (12 * o + (σ 4 i).toNat) A_6 (by omega) (by omega) dX0_leaveMarks_74 ?_
                refine r_top (us_s2 _ _ _ _) ?_
                refine r_if_le (pc := 75) C 89 ⟨by omega, by omega⟩ dX0_leaveMarks_75 (by decide) (fun h75 => ?_) (fun h75 => ?_)
                · skip
                  refine r_iinc (pc := 89) C dX0_leaveMarks_89 3 rfl (by decide) [1, 2, 3, 0, 4] (lv' := [(0, .ref (gA g 0)), (1, .int (iI ((i : Int)))), (2, .int (iI (σ 4 i))), (3, .int (iI ((o : Int) + 1))), (4, .int (iI (((o : Int) * 12) + (σ 4 i))))]) rfl ?_
                  refine r_goto (pc := 92) C 19 dX0_leaveMarks_92 (by decide) ?_
                  refine r_lv [0, 1, 2, 3] (lv' := [(0, .ref (gA g 0)), (1, .int (iI ((i : Int)))), (2, .int (iI (σ 4 i))), (3, .int (iI ((o : Int) + 1)))]) rfl ?_
                  exact ih19 (o + 1) _ _ (by omega) (by omega) (by omega) (by first | (rw [wr_us, mkI, mk1, if_pos (by omega)]; done) | (rw [wr_us, mkI, mk1, if_neg (by omega), if_pos (by omega)]; done) | (rw [mkI, mk1, if_neg (by omega), if_neg (by omega), up_id]))
                · skip
                  refine r_aload_n (pc := 78) C dX0_leaveMarks_78 rfl 0 rfl ?_
                  refine r_getR0 (pc := 79) C 5 (k' := 6) rfl O_0 (by decide) rfl t_114 dX0_leaveMarks_79 ?_
                  refine r_iload (pc := 82) C dX0_leaveMarks_82 4 rfl ?_
                  refine r_dup2 (pc := 84) C rfl rfl dX0_leaveMarks_84 ?_
                  refine r_iald (pc := 85) C (12 * o + (σ 4 i).toNat) A_6 (by omega) (by omega) dX0_leaveMarks_85 ?_
                  refine r_top (us_s2 _ _ _ _) ?_
                  refine r_iconst (pc := 86) C dX0_leaveMarks_86 ?_
                  refine r_isub (pc := 87) C dX0_leaveMarks_87 ?_
                  refine r_iast (pc := 88) C (12 * o + (σ 4 i).toNat) A_6 (by omega) (by omega) dX0_leaveMarks_88 ?_
                  refine r_iinc (pc := 89) C dX0_leaveMarks_89 3 rfl (by decide) [1, 2, 3, 0, 4] (lv' := [(0, .ref (gA g 0)), (1, .int (iI ((i : Int)))), (2, .int (iI (σ 4 i))), (3, .int (iI ((o : Int) + 1))), (4, .int (iI (((o : Int) * 12) + (σ 4 i))))]) rfl ?_
                  refine r_goto (pc := 92) C 19 dX0_leaveMarks_92 (by decide) ?_
                  refine r_lv [0, 1, 2, 3] (lv' := [(0, .ref (gA g 0)), (1, .int (iI ((i : Int)))), (2, .int (iI (σ 4 i))), (3, .int (iI ((o : Int) + 1)))]) rfl ?_
                  exact ih19 (o + 1) _ _ (by omega) (by omega) (by omega) (by first | (rw [wr_us, mkI, mk1, if_pos (by omega)]; done) | (rw [wr_us, mkI, mk1, if_neg (by omega), if_pos (by omega)]; done) | (rw [mkI, mk1, if_neg (by omega), if_neg (by omega), up_id]))
              · skip
                refine r_aload_n (pc := 40) C dX0_leaveMarks_40 rfl 0 rfl ?_
                refine r_getR0 (pc := 41) C 5 (k' := 6) rfl O_0 (by decide) rfl t_114 dX0_leaveMarks_41 ?_
                refine r_iload (pc := 44) C dX0_leaveMarks_44 4 rfl ?_
                refine r_bipush (pc := 46) C dX0_leaveMarks_46 (by decide) ?_
                refine r_aload_n (pc := 48) C dX0_leaveMarks_48 rfl 0 rfl ?_
                refine r_getR0 (pc := 49) C 5 (k' := 6) rfl O_0 (by decide) rfl t_114 dX0_leaveMarks_49 ?_
                refine r_iload (pc := 52) C dX0_leaveMarks_52 4 rfl ?_
                refine r_iald (pc := 54) C (12 * o + (σ 4 i).toNat) A_6 (by omega) (by omega) dX0_leaveMarks_54 ?_
                refine r_top (us_s2 _ _ _ _) ?_
                refine r_aload_n (pc := 55) C dX0_leaveMarks_55 rfl 0 rfl ?_
                refine r_iload_n (pc := 56) C dX0_leaveMarks_56 rfl 1 rfl ?_
                refine r_cVi (pc := 57) C (c_leavesOf_0 g i (by omega) (us σ 6 (mkI i (σ 4 i).toNat (leav (σ 3 i) (σ 1 (σ 4 i).toNat) (σ 5 i)) (mkT (σ 0 7).toNat (σ 3) (σ 4) (σ 1) (σ 5) (σ 6) i) o)) hD hK hA hG) yX0_leavesOf_w O_0 rfl rfl t_384 ⟨by decide, by decide⟩ (Nat.le_of_ble_eq_true rfl) rfl dX0_leaveMarks_57 ?_
                refine r_top (show _ = leav (σ 3 i) ((σ 1) (σ 4 i).toNat) (σ 5 i) from rfl) ?_
                refine r_iadd (pc := 60) C dX0_leaveMarks_60 ?_
                refine r_min (pc := 61) C ⟨by omega, by omega⟩ ⟨by omega, by omega⟩ (by decide) (Nat.le_of_ble_eq_true rfl) t_347 dX0_leaveMarks_61 ?_
                refine r_iast (pc := 64) C (12 * o + (σ 4 i).toNat) A_6 (by omega) (by omega) dX0_leaveMarks_64 ?_
                refine r_goto (pc := 65) C 89 dX0_leaveMarks_65 (by decide) ?_
                refine r_iinc (pc := 89) C dX0_leaveMarks_89 3 rfl (by decide) [1, 2, 3, 0, 4] (lv' := [(0, .ref (gA g 0)), (1, .int (iI ((i : Int)))), (2, .int (iI (σ 4 i))), (3, .int (iI ((o : Int) + 1))), (4, .int (iI (((o : Int) * 12) + (σ 4 i))))]) rfl ?_
                refine r_goto (pc := 92) C 19 dX0_leaveMarks_92 (by decide) ?_
                refine r_lv [0, 1, 2, 3] (lv' := [(0, .ref (gA g 0)), (1, .int (iI ((i : Int)))), (2, .int (iI (σ 4 i))), (3, .int (iI ((o : Int) + 1)))]) rfl ?_
                exact ih19 (o + 1) _ _ (by omega) (by omega) (by omega) (by first | (rw [wr_us, mkI, mk1, if_pos (by omega)]; done) | (rw [wr_us, mkI, mk1, if_neg (by omega), if_pos (by omega)]; done) | (rw [mkI, mk1, if_neg (by omega), if_neg (by omega), up_id]))
        exact L19 _ 0 _ _ (Nat.lt_succ_self _) (by omega) (rfl) (rfl)
  exact L2 _ 0 _ _ (Nat.lt_succ_self _) (by omega) (rfl) ((us_id σ 6).symm)
set_option maxHeartbeats 4000000 in
set_option maxRecDepth 100000 in
theorem c_payRents_0 (g : Gt) (σ : Sg) (hn : 0 ≤ σ 0 7 ∧ σ 0 7 ≤ 8) (hD : rgD (σ 1)) (hG : rgG (σ 5)) (hM : rgM (σ 6)) : Mt g yX0_payRents cX0_payRents 3 none 1 [.ref (gA g 0)] σ (pV (us σ 5 (rnF (σ 0 7) (σ 6) (σ 1) (σ 5) 12))) := by
  refine mt_of (own := RX0) (by decide) rfl (Nat.le_of_ble_eq_true rfl) (fun E C => ?_)
  show J g E (pV (us σ 5 (rnF (σ 0 7) (σ 6) (σ 1) (σ 5) 12))) 3 0 [(0, .ref (gA g 0))] [] σ
  refine r_iconst (pc := 0) C dX0_payRents_0 ?_
  refine r_istore_n (pc := 1) C dX0_payRents_1 rfl (by decide) [1, 0] (lv' := [(0, .ref (gA g 0)), (1, .int (iI (0)))]) rfl ?_
  have L2 : ∀ (n_ : Nat) (i : Nat) (x2_1 : Int) (s2 : Sg), 12 - i < n_ → (i ≤ 12) → x2_1 = (i : Int) → s2 = (us σ 5 (rnF (σ 0 7) (σ 6) (σ 1) (σ 5) i)) → J g E (pV (us σ 5 (rnF (σ 0 7) (σ 6) (σ 1) (σ 5) 12))) 3 2 [(0, .ref (gA g 0)), (1, .int (iI (x2_1)))] [] s2 := by
    intro n_
    induction n_ with
    | zero => intro i x2_1 s2 hm_; exact absurd hm_ (Nat.not_lt_zero _)
    | succ n_ ih2 =>
      intro i x2_1 s2 hm2 hi2_0 e2_0 es2
      subst e2_0 es2
      have hrn := rnF_rng (M := σ 6) hn hD hG i (by omega)
      have hh := holder_rng (σ 0 7) (σ 6) i hn.1
      refine r_iload_n (pc := 2) C dX0_payRents_2 rfl 1 rfl ?_
      refine r_bipush (pc := 3) C dX0_payRents_3 (by decide) ?_
      refine r_icmp_ge (pc := 5) C 39 ⟨by omega, by omega⟩ ⟨by omega, by omega⟩ dX0_payRents_5 (by decide) (fun h5 => ?_) (fun h5 => ?_)
      · skip
        exact r_retv (pc := 39) C (by rw [show i = 12 by omega]) dX0_payRents_39
      · skip
        refine r_aload_n (pc := 8) C dX0_payRents_8 rfl 0 rfl ?_
        refine r_iload_n (pc := 9) C dX0_payRents_9 rfl 1 rfl ?_
        refine r_cVi (pc := 10) C (c_holderOf_0 g i (by omega) (us σ 5 (rnF (σ 0 7) (σ 6) (σ 1) (σ 5) i)) hn hM) yX0_holderOf_w O_0 rfl rfl t_272 ⟨by decide, by decide⟩ (Nat.le_of_ble_eq_true rfl) rfl dX0_payRents_10 ?_
        refine r_top (show _ = holder (σ 0 7) (σ 6) i from rfl) ?_
        refine r_istore_n (pc := 13) C dX0_payRents_13 rfl (by decide) [1, 2, 0] (lv' := [(0, .ref (gA g 0)), (1, .int (iI ((i : Int)))), (2, .int (iI (holder (σ 0 7) (σ 6) i)))]) rfl ?_
        refine r_iload_n (pc := 14) C dX0_payRents_14 rfl 2 rfl ?_
        refine r_iconst (pc := 15) C dX0_payRents_15 ?_
        refine r_icmp_eq (pc := 16) C 33 ⟨by omega, by omega⟩ ⟨by omega, by omega⟩ dX0_payRents_16 (by decide) (fun h16 => ?_) (fun h16 => ?_)
        · skip
          refine r_iinc (pc := 33) C dX0_payRents_33 1 rfl (by decide) [1, 0, 2] (lv' := [(0, .ref (gA g 0)), (1, .int (iI ((i : Int) + 1))), (2, .int (iI (holder (σ 0 7) (σ 6) i)))]) rfl ?_
          refine r_goto (pc := 36) C 2 dX0_payRents_36 (by decide) ?_
          refine r_lv [0, 1] (lv' := [(0, .ref (gA g 0)), (1, .int (iI ((i : Int) + 1)))]) rfl ?_
          exact ih2 (i + 1) _ _ (by omega) (by omega) (by omega) (by first | (rw [rnF, if_pos (by assumption)]; done) | (rw [rnF, if_neg (by assumption)]; exact wr_us _ _ _ _ _))
        · skip
          refine r_aload_n (pc := 19) C dX0_payRents_19 rfl 0 rfl ?_
          refine r_iload_n (pc := 20) C dX0_payRents_20 rfl 2 rfl ?_
          refine r_aload_n (pc := 21) C dX0_payRents_21 rfl 0 rfl ?_
          refine r_getR0 (pc := 22) C 0 (k' := 1) rfl O_0 (by decide) rfl t_103 dX0_payRents_22 ?_
          refine r_iload_n (pc := 25) C dX0_payRents_25 rfl 1 rfl ?_
          have hd := hD i (by omega)
          refine r_iald (pc := 26) C i A_1 (by omega) (by omega) dX0_payRents_26 ?_
          refine r_top (us_o2 _ _ _ (by omega)) ?_
          refine r_bipush (pc := 27) C dX0_payRents_27 (by decide) ?_
          refine r_idiv (pc := 29) C (by omega) (by omega) (by omega) (by omega) dX0_payRents_29 ?_
          refine r_cVv (pc := 30) C (c_gain_0 g ((holder (σ 0 7) (σ 6) i).toNat) (by omega) ((σ 1 i) / 20) ⟨by omega, by omega⟩ (us σ 5 (rnF (σ 0 7) (σ 6) (σ 1) (σ 5) i)) hrn) yX0_gain_w O_0 rfl rfl t_375 ⟨by decide, by decide⟩ (Nat.le_of_ble_eq_true rfl) (by rw [show (((holder (σ 0 7) (σ 6) i).toNat : Nat) : Int) = holder (σ 0 7) (σ 6) i by omega]; rfl) dX0_payRents_30 ?_
          refine r_iinc (pc := 33) C dX0_payRents_33 1 rfl (by decide) [1, 0, 2] (lv' := [(0, .ref (gA g 0)), (1, .int (iI ((i : Int) + 1))), (2, .int (iI (holder (σ 0 7) (σ 6) i)))]) rfl ?_
          refine r_goto (pc := 36) C 2 dX0_payRents_36 (by decide) ?_
          refine r_lv [0, 1] (lv' := [(0, .ref (gA g 0)), (1, .int (iI ((i : Int) + 1)))]) rfl ?_
          exact ih2 (i + 1) _ _ (by omega) (by omega) (by omega) (by first | (rw [rnF, if_pos (by assumption)]; done) | (rw [rnF, if_neg (by assumption)]; exact wr_us _ _ _ _ _))
  exact L2 _ 0 _ _ (Nat.lt_succ_self _) (by omega) (rfl) ((us_id σ 5).symm)
def lmS_0 (σ : Sg) : Sg := us σ 6 (mkT (σ 0 7).toNat (σ 3) (σ 4) (σ 1) (σ 5) (σ 6) (σ 0 7).toNat)
def prS_0 (σ : Sg) : Sg := us σ 5 (rnF (σ 0 7) (σ 6) (σ 1) (σ 5) 12)
def dyS_0 (σ : Sg) : Sg := wr (prS_0 (lmS_0 (setS_0 255 σ))) 0 10 (min 99999 (σ 0 10 + 1))
theorem setS_rng_0 {m : Int} {σ : Sg} (hn : 0 ≤ σ 0 7 ∧ σ 0 7 ≤ 8) (hfl : 0 ≤ σ 0 8 ∧ σ 0 8 ≤ 99) (hD : rgD (σ 1)) (hA : rgA (σ 4)) (hG : rgG (σ 5)) : rgD (setS_0 m σ 1) ∧ rgG (setS_0 m σ 5) :=
  swF_rng (K := σ 3) (m := m) (q := (dyD (σ 0 9) (σ 0 8) (σ 1), σ 5)) hA (dyD_rng hfl hD) hG (σ 0 7).toNat (by omega)
theorem lmS_rng_0 {σ : Sg} (hn : 0 ≤ σ 0 7 ∧ σ 0 7 ≤ 8) (hA : rgA (σ 4)) (hG : rgG (σ 5)) (hM : rgM (σ 6)) : rgM (lmS_0 σ 6) := mkT_rng (n := (σ 0 7).toNat) (K := σ 3) (D := σ 1) (by omega) hA hG hM (σ 0 7).toNat (by omega)
theorem prS_rng_0 {σ : Sg} (hn : 0 ≤ σ 0 7 ∧ σ 0 7 ≤ 8) (hD : rgD (σ 1)) (hG : rgG (σ 5)) : rgG (prS_0 σ 5) := rnF_rng (M := σ 6) hn hD hG 12 (by omega)
set_option maxHeartbeats 4000000 in
set_option maxRecDepth 100000 in
theorem c_passDay_0 (g : Gt) (σ : Sg) (hW : RW σ 0) : Mt g yX0_passDay cX0_passDay 1 none 3 [.ref (gA g 0)] σ (pV (dyS_0 σ)) := by
  obtain ⟨hn, hfl, hw, hdy, hz, hD, hK, hA, hG, hM, hP⟩ := id hW
  have h1 := setS_rng_0 (m := 255) (σ := σ) hn hfl hD hA hG
  have h2 := lmS_rng_0 (σ := setS_0 255 σ) hn hA h1.2 hM
  have h3 := prS_rng_0 (σ := lmS_0 (setS_0 255 σ)) hn h1.1 h1.2
  refine mt_of (own := RX0) (by decide) rfl (Nat.le_of_ble_eq_true rfl) (fun E C => ?_)
  show J g E (pV (dyS_0 σ)) 1 0 [(0, .ref (gA g 0))] [] σ
  refine r_aload_n (pc := 0) C dX0_passDay_0 rfl 0 rfl ?_
  refine r_sipush (pc := 1) C dX0_passDay_1 (by decide) ?_
  refine r_cVv (pc := 4) C (c_settle_0 g 255 ⟨by omega, by omega⟩ σ hn hfl hw hD hK hA hG) yX0_settle_w O_0 rfl rfl t_362 ⟨by decide, by decide⟩ (Nat.le_of_ble_eq_true rfl) rfl dX0_passDay_4 ?_
  refine r_aload_n (pc := 7) C dX0_passDay_7 rfl 0 rfl ?_
  refine r_cVv (pc := 8) C (c_leaveMarks_0 g (setS_0 255 σ) hn h1.1 hK hA h1.2 hM) yX0_leaveMarks_w O_0 rfl rfl t_380 ⟨by decide, by decide⟩ (Nat.le_of_ble_eq_true rfl) rfl dX0_passDay_8 ?_
  refine r_aload_n (pc := 11) C dX0_passDay_11 rfl 0 rfl ?_
  refine r_cVv (pc := 12) C (c_payRents_0 g (lmS_0 (setS_0 255 σ)) hn h1.1 h1.2 h2) yX0_payRents_w O_0 rfl rfl t_385 ⟨by decide, by decide⟩ (Nat.le_of_ble_eq_true rfl) rfl dX0_passDay_12 ?_
  refine r_aload_n (pc := 15) C dX0_passDay_15 rfl 0 rfl ?_
  refine r_ldc (pc := 16) C 99999 t_379 (by decide) dX0_passDay_16 ?_
  refine r_aload_n (pc := 18) C dX0_passDay_18 rfl 0 rfl ?_
  refine r_getI0 (pc := 19) C 10 rfl O_0 (by decide) rfl t_128 dX0_passDay_19 ?_
  refine r_top (show (prS_0 (lmS_0 (setS_0 255 σ))) 0 10 = σ 0 10 from rfl) ?_
  refine r_iconst (pc := 22) C dX0_passDay_22 ?_
  refine r_iadd (pc := 23) C dX0_passDay_23 ?_
  refine r_min (pc := 24) C ⟨by omega, by omega⟩ ⟨by omega, by omega⟩ (by decide) (Nat.le_of_ble_eq_true rfl) t_347 dX0_passDay_24 ?_
  refine r_put0 (pc := 27) C 10 rfl O_0 (by decide) rfl t_128 rfl (by decide +kernel) dX0_passDay_27 ?_
  exact r_retv (pc := 30) C (rfl) dX0_passDay_30
theorem dyS_RW_0 {σ : Sg} (hW : RW σ 0) : RW (dyS_0 σ) 0 := by
  obtain ⟨hn, hfl, hw, hdy, hz, hD, hK, hA, hG, hM, hP⟩ := id hW
  have h1 := setS_rng_0 (m := 255) (σ := σ) hn hfl hD hA hG
  have h2 := lmS_rng_0 (σ := setS_0 255 σ) hn hA h1.2 hM
  have h3 := prS_rng_0 (σ := lmS_0 (setS_0 255 σ)) hn h1.1 h1.2
  refine ⟨hn, hfl, hw, ?_, hz, h1.1, hK, hA, h3, h2, hP⟩
  show 0 ≤ min 99999 (σ 0 10 + 1) ∧ min 99999 (σ 0 10 + 1) ≤ 99999
  omega
def dsS_0 : Nat → Sg → Sg
  | 0, σ => σ
  | k + 1, σ => dyS_0 (dsS_0 k σ)
theorem dsS_RW_0 {σ : Sg} (hW : RW σ 0) : ∀ k, RW (dsS_0 k σ) 0
  | 0 => hW
  | k + 1 => dyS_RW_0 (dsS_RW_0 hW k)
set_option maxHeartbeats 4000000 in
set_option maxRecDepth 100000 in
theorem c_passDays_0 (g : Gt) (n : Nat) (hn : n ≤ 60) (σ : Sg) (hW : RW σ 0) : Mt g yX0_passDays cX0_passDays 3 none 4 [.ref (gA g 0), .int (iI ((n : Int)))] σ (pV (dsS_0 n σ)) := by
  refine mt_of (own := RX0) (by decide) rfl (Nat.le_of_ble_eq_true rfl) (fun E C => ?_)
  show J g E (pV (dsS_0 n σ)) 3 0 [(0, .ref (gA g 0)), (1, .int (iI ((n : Int))))] [] σ
  refine r_iconst (pc := 0) C dX0_passDays_0 ?_
  refine r_istore_n (pc := 1) C dX0_passDays_1 rfl (by decide) [1, 2, 0] (lv' := [(0, .ref (gA g 0)), (1, .int (iI ((n : Int)))), (2, .int (iI (0)))]) rfl ?_
  have L2 : ∀ (n_ : Nat) (i : Nat) (x2_2 : Int) (s2 : Sg), n - i < n_ → (i ≤ n) → x2_2 = (i : Int) → s2 = dsS_0 i σ → J g E (pV (dsS_0 n σ)) 3 2 [(0, .ref (gA g 0)), (1, .int (iI ((n : Int)))), (2, .int (iI (x2_2)))] [] s2 := by
    intro n_
    induction n_ with
    | zero => intro i x2_2 s2 hm_; exact absurd hm_ (Nat.not_lt_zero _)
    | succ n_ ih2 =>
      intro i x2_2 s2 hm2 hi2_0 e2_0 es2
      subst e2_0 es2
      have hWi := dsS_RW_0 hW i
      refine r_iload_n (pc := 2) C dX0_passDays_2 rfl 2 rfl ?_
      refine r_iload_n (pc := 3) C dX0_passDays_3 rfl 1 rfl ?_
      refine r_icmp_ge (pc := 4) C 17 ⟨by omega, by omega⟩ ⟨by omega, by omega⟩ dX0_passDays_4 (by decide) (fun h4 => ?_) (fun h4 => ?_)
      · skip
        exact r_retv (pc := 17) C (by rw [show i = n by omega]) dX0_passDays_17
      · skip
        refine r_aload_n (pc := 7) C dX0_passDays_7 rfl 0 rfl ?_
        refine r_cVv (pc := 8) C (c_passDay_0 g (dsS_0 i σ) hWi) yX0_passDay_w O_0 rfl rfl t_358 ⟨by decide, by decide⟩ (Nat.le_of_ble_eq_true rfl) rfl dX0_passDays_8 ?_
        refine r_iinc (pc := 11) C dX0_passDays_11 2 rfl (by decide) [1, 2, 0] (lv' := [(0, .ref (gA g 0)), (1, .int (iI ((n : Int)))), (2, .int (iI ((i : Int) + 1)))]) rfl ?_
        refine r_goto (pc := 14) C 2 dX0_passDays_14 (by decide) ?_
        exact ih2 (i + 1) _ _ (by omega) (by omega) (by omega) (rfl)
  exact L2 _ 0 _ _ (Nat.lt_succ_self _) (by omega) (rfl) (rfl)
set_option maxHeartbeats 4000000 in
set_option maxRecDepth 100000 in
theorem c_holderOf_8 (g : Gt) (f : Nat) (hf : f < 12) (σ : Sg) (hn : 0 ≤ σ 8 7 ∧ σ 8 7 ≤ 8) (hM : rgM (σ 14)) : Mt g yX0_holderOf cX0_holderOf 6 (some FieldType.int) 0 [.ref (gA g 8), .int (iI ((f : Int)))] σ (pI (holder (σ 8 7) (σ 14) f) σ) := by
  refine mt_of (own := RX0) (by decide) rfl (Nat.le_of_ble_eq_true rfl) (fun E C => ?_)
  show J g E (pI (holder (σ 8 7) (σ 14) f) σ) 6 0 [(0, .ref (gA g 8)), (1, .int (iI ((f : Int))))] [] σ
  refine r_iconst (pc := 0) C dX0_holderOf_0 ?_
  refine r_istore_n (pc := 1) C dX0_holderOf_1 rfl (by decide) [1, 2, 0] (lv' := [(0, .ref (gA g 8)), (1, .int (iI ((f : Int)))), (2, .int (iI ((-1))))]) rfl ?_
  refine r_iconst (pc := 2) C dX0_holderOf_2 ?_
  refine r_istore_n (pc := 3) C dX0_holderOf_3 rfl (by decide) [1, 2, 3, 0] (lv' := [(0, .ref (gA g 8)), (1, .int (iI ((f : Int)))), (2, .int (iI ((-1)))), (3, .int (iI (0)))]) rfl ?_
  refine r_iconst (pc := 4) C dX0_holderOf_4 ?_
  refine r_istore (pc := 5) C dX0_holderOf_5 (by decide) [1, 2, 3, 4, 0] (lv' := [(0, .ref (gA g 8)), (1, .int (iI ((f : Int)))), (2, .int (iI ((-1)))), (3, .int (iI (0))), (4, .int (iI (0)))]) rfl ?_
  have L7 : ∀ (n_ : Nat) (i : Nat) (x7_2 x7_3 x7_4 : Int), (σ 8 7).toNat - i < n_ → ((i : Int) ≤ σ 8 7) → x7_2 = (hold (σ 14) f i).1 → x7_3 = (hold (σ 14) f i).2 → x7_4 = (i : Int) → J g E (pI (holder (σ 8 7) (σ 14) f) σ) 6 7 [(0, .ref (gA g 8)), (1, .int (iI ((f : Int)))), (2, .int (iI (x7_2))), (3, .int (iI (x7_3))), (4, .int (iI (x7_4)))] [] σ := by
    intro n_
    induction n_ with
    | zero => intro i x7_2 x7_3 x7_4  hm_; exact absurd hm_ (Nat.not_lt_zero _)
    | succ n_ ih7 =>
      intro i x7_2 x7_3 x7_4  hm7 hi7_0 e7_0 e7_1 e7_2 
      subst e7_0 e7_1 e7_2 
      have hb := hold_most hM hf i (by omega)
      have hc := hold_rng (σ 14) f i
      refine r_iload (pc := 7) C dX0_holderOf_7 4 rfl ?_
      refine r_aload_n (pc := 9) C dX0_holderOf_9 rfl 0 rfl ?_
      refine r_getI0 (pc := 10) C 7 rfl O_8 (by decide) rfl t_119 dX0_holderOf_10 ?_
      refine r_icmp_ge (pc := 13) C 48 ⟨by omega, by omega⟩ ⟨by omega, by omega⟩ dX0_holderOf_13 (by decide) (fun h13 => ?_) (fun h13 => ?_)
      · skip
        refine r_iload_n (pc := 48) C dX0_holderOf_48 rfl 2 rfl ?_
        exact r_reti (pc := 49) C (by rw [show i = (σ 8 7).toNat by omega]; rfl) (rfl) dX0_holderOf_49
      · skip
        refine r_aload_n (pc := 16) C dX0_holderOf_16 rfl 0 rfl ?_
        refine r_getR0 (pc := 17) C 5 (k' := 14) rfl O_8 (by decide) rfl t_114 dX0_holderOf_17 ?_
        refine r_iload (pc := 20) C dX0_holderOf_20 4 rfl ?_
        refine r_bipush (pc := 22) C dX0_holderOf_22 (by decide) ?_
        refine r_imul (pc := 24) C dX0_holderOf_24 ?_
        refine r_iload_n (pc := 25) C dX0_holderOf_25 rfl 1 rfl ?_
        refine r_iadd (pc := 26) C dX0_holderOf_26 ?_
        refine r_iald (pc := 27) C (12 * i + f) A_14 (by omega) (by omega) dX0_holderOf_27 ?_
        have hm := hM (12 * i + f) (by omega)
        refine r_istore (pc := 28) C dX0_holderOf_28 (by decide) [1, 2, 3, 4, 5, 0] (lv' := [(0, .ref (gA g 8)), (1, .int (iI ((f : Int)))), (2, .int (iI ((hold (σ 14) f i).1))), (3, .int (iI ((hold (σ 14) f i).2))), (4, .int (iI ((i : Int)))), (5, .int (iI (σ 14 (12 * i + f))))]) rfl ?_
        refine r_iload (pc := 30) C dX0_holderOf_30 5 rfl ?_
        refine r_iload_n (pc := 32) C dX0_holderOf_32 rfl 3 rfl ?_
        refine r_icmp_le (pc := 33) C 42 ⟨by omega, by omega⟩ ⟨by omega, by omega⟩ dX0_holderOf_33 (by decide) (fun h33 => ?_) (fun h33 => ?_)
        · skip
          refine r_iinc (pc := 42) C dX0_holderOf_42 4 rfl (by decide) [1, 2, 3, 4, 0, 5] (lv' := [(0, .ref (gA g 8)), (1, .int (iI ((f : Int)))), (2, .int (iI ((hold (σ 14) f i).1))), (3, .int (iI ((hold (σ 14) f i).2))), (4, .int (iI ((i : Int) + 1))), (5, .int (iI (σ 14 (12 * i + f))))]) rfl ?_
          refine r_goto (pc := 45) C 7 dX0_holderOf_45 (by decide) ?_
          refine r_lv [0, 1, 2, 3, 4] (lv' := [(0, .ref (gA g 8)), (1, .int (iI ((f : Int)))), (2, .int (iI ((hold (σ 14) f i).1))), (3, .int (iI ((hold (σ 14) f i).2))), (4, .int (iI ((i : Int) + 1)))]) rfl ?_
          exact ih7 (i + 1) _ _ _ (by omega) (by omega) (by first | rw [hold, if_pos (by omega)] | rw [hold, if_neg (by omega)]) (by first | rw [hold, if_pos (by omega)] | rw [hold, if_neg (by omega)]) (by omega)
        · skip
          refine r_iload (pc := 36) C dX0_holderOf_36 5 rfl ?_
          refine r_istore_n (pc := 38) C dX0_holderOf_38 rfl (by decide) [1, 2, 3, 0, 4, 5] (lv' := [(0, .ref (gA g 8)), (1, .int (iI ((f : Int)))), (2, .int (iI ((hold (σ 14) f i).1))), (3, .int (iI (σ 14 (12 * i + f)))), (4, .int (iI ((i : Int)))), (5, .int (iI (σ 14 (12 * i + f))))]) rfl ?_
          refine r_iload (pc := 39) C dX0_holderOf_39 4 rfl ?_
          refine r_istore_n (pc := 41) C dX0_holderOf_41 rfl (by decide) [1, 2, 0, 3, 4, 5] (lv' := [(0, .ref (gA g 8)), (1, .int (iI ((f : Int)))), (2, .int (iI ((i : Int)))), (3, .int (iI (σ 14 (12 * i + f)))), (4, .int (iI ((i : Int)))), (5, .int (iI (σ 14 (12 * i + f))))]) rfl ?_
          refine r_iinc (pc := 42) C dX0_holderOf_42 4 rfl (by decide) [1, 2, 3, 4, 0, 5] (lv' := [(0, .ref (gA g 8)), (1, .int (iI ((f : Int)))), (2, .int (iI ((i : Int)))), (3, .int (iI (σ 14 (12 * i + f)))), (4, .int (iI ((i : Int) + 1))), (5, .int (iI (σ 14 (12 * i + f))))]) rfl ?_
          refine r_goto (pc := 45) C 7 dX0_holderOf_45 (by decide) ?_
          refine r_lv [0, 1, 2, 3, 4] (lv' := [(0, .ref (gA g 8)), (1, .int (iI ((f : Int)))), (2, .int (iI ((i : Int)))), (3, .int (iI (σ 14 (12 * i + f)))), (4, .int (iI ((i : Int) + 1)))]) rfl ?_
          exact ih7 (i + 1) _ _ _ (by omega) (by omega) (by first | rw [hold, if_pos (by omega)] | rw [hold, if_neg (by omega)]) (by first | rw [hold, if_pos (by omega)] | rw [hold, if_neg (by omega)]) (by omega)
  exact L7 _ 0 _ _ _ (Nat.lt_succ_self _) (by omega) (rfl) (rfl) (rfl)
set_option maxHeartbeats 4000000 in
set_option maxRecDepth 100000 in
theorem c_gain_8 (g : Gt) (t : Nat) (ht : t < 8) (x : Int) (hx : 0 ≤ x ∧ x ≤ 99999) (σ : Sg) (hG : rgG (σ 13)) : Mt g yX0_gain cX0_gain 4 none 0 [.ref (gA g 8), .int (iI ((t : Int))), .int (iI (x))] σ (pV (wr σ 13 t (gn (σ 13 t) x))) := by
  have hg := hG t ht
  refine mt_of (own := RX0) (by decide) rfl (Nat.le_of_ble_eq_true rfl) (fun E C => ?_)
  show J g E (pV (wr σ 13 t (gn (σ 13 t) x))) 4 0 [(0, .ref (gA g 8)), (1, .int (iI ((t : Int)))), (2, .int (iI (x)))] [] σ
  refine r_aload_n (pc := 0) C dX0_gain_0 rfl 0 rfl ?_
  refine r_getR0 (pc := 1) C 4 (k' := 13) rfl O_8 (by decide) rfl t_111 dX0_gain_1 ?_
  refine r_iload_n (pc := 4) C dX0_gain_4 rfl 1 rfl ?_
  refine r_iald (pc := 5) C t A_13 (by omega) (by omega) dX0_gain_5 ?_
  refine r_iload_n (pc := 6) C dX0_gain_6 rfl 2 rfl ?_
  refine r_iadd (pc := 7) C dX0_gain_7 ?_
  refine r_istore_n (pc := 8) C dX0_gain_8 rfl (by decide) [1, 2, 3, 0] (lv' := [(0, .ref (gA g 8)), (1, .int (iI ((t : Int)))), (2, .int (iI (x))), (3, .int (iI ((σ 13 t) + x)))]) rfl ?_
  refine r_aload_n (pc := 9) C dX0_gain_9 rfl 0 rfl ?_
  refine r_getR0 (pc := 10) C 4 (k' := 13) rfl O_8 (by decide) rfl t_111 dX0_gain_10 ?_
  refine r_iload_n (pc := 13) C dX0_gain_13 rfl 1 rfl ?_
  refine r_iload_n (pc := 14) C dX0_gain_14 rfl 3 rfl ?_
  refine r_ldc (pc := 15) C 99999 t_379 (by decide) dX0_gain_15 ?_
  refine r_icmp_le (pc := 17) C 25 ⟨by omega, by omega⟩ ⟨by omega, by omega⟩ dX0_gain_17 (by decide) (fun h17 => ?_) (fun h17 => ?_)
  · skip
    refine r_iload_n (pc := 25) C dX0_gain_25 rfl 3 rfl ?_
    refine r_iast (pc := 26) C t A_13 (by omega) (by omega) dX0_gain_26 ?_
    exact r_retv (pc := 27) C (congrArg (wr σ 13 t) (by unfold gn; omega)) dX0_gain_27
  · skip
    refine r_ldc (pc := 20) C 99999 t_379 (by decide) dX0_gain_20 ?_
    refine r_goto (pc := 22) C 26 dX0_gain_22 (by decide) ?_
    refine r_iast (pc := 26) C t A_13 (by omega) (by omega) dX0_gain_26 ?_
    exact r_retv (pc := 27) C (congrArg (wr σ 13 t) (by unfold gn; omega)) dX0_gain_27
set_option maxHeartbeats 4000000 in
set_option maxRecDepth 100000 in
theorem c_leavesOf_8 (g : Gt) (t : Nat) (ht : t < 8) (σ : Sg) (hD : rgD (σ 9)) (hK : rgK (σ 11)) (hA : rgA (σ 12)) (hG : rgG (σ 13)) : Mt g yX0_leavesOf cX0_leavesOf 4 (some FieldType.int) 0 [.ref (gA g 8), .int (iI ((t : Int)))] σ (pI (leav (σ 11 t) (σ 9 (σ 12 t).toNat) (σ 13 t)) σ) := by
  have hk := hK t ht
  have ha := hA t ht
  have hg := hG t ht
  have hd := hD (σ 12 t).toNat (by omega)
  have h0 := stab0_rng (σ 11 t).toNat
  refine mt_of (own := RX0) (by decide) rfl (Nat.le_of_ble_eq_true rfl) (fun E C => ?_)
  show J g E (pI (leav (σ 11 t) (σ 9 (σ 12 t).toNat) (σ 13 t)) σ) 4 0 [(0, .ref (gA g 8)), (1, .int (iI ((t : Int))))] [] σ
  refine r_aload_n (pc := 0) C dX0_leavesOf_0 rfl 0 rfl ?_
  refine r_getR0 (pc := 1) C 2 (k' := 11) rfl O_8 (by decide) rfl t_107 dX0_leavesOf_1 ?_
  refine r_iload_n (pc := 4) C dX0_leavesOf_4 rfl 1 rfl ?_
  refine r_iald (pc := 5) C t A_11 (by omega) (by omega) dX0_leavesOf_5 ?_
  refine r_istore_n (pc := 6) C dX0_leavesOf_6 rfl (by decide) [1, 2, 0] (lv' := [(0, .ref (gA g 8)), (1, .int (iI ((t : Int)))), (2, .int (iI (σ 11 t)))]) rfl ?_
  refine r_getsN (pc := 7) C F_lv N_lv dX0_leavesOf_7 ?_
  refine r_iload_n (pc := 10) C dX0_leavesOf_10 rfl 2 rfl ?_
  refine r_tald (pc := 11) C ((σ 11 t).toNat) F_lv (by omega) (by omega) dX0_leavesOf_11 ?_
  refine r_istore_n (pc := 12) C dX0_leavesOf_12 rfl (by decide) [1, 2, 3, 0] (lv' := [(0, .ref (gA g 8)), (1, .int (iI ((t : Int)))), (2, .int (iI (σ 11 t))), (3, .int (iI (stab 0 ((σ 11 t).toNat))))]) rfl ?_
  refine r_iload_n (pc := 13) C dX0_leavesOf_13 rfl 2 rfl ?_
  refine r_iconst (pc := 14) C dX0_leavesOf_14 ?_
  refine r_icmp_eq (pc := 15) C 23 ⟨by omega, by omega⟩ ⟨by omega, by omega⟩ dX0_leavesOf_15 (by decide) (fun h15 => ?_) (fun h15 => ?_)
  · skip
    refine r_aload_n (pc := 23) C dX0_leavesOf_23 rfl 0 rfl ?_
    refine r_getR0 (pc := 24) C 0 (k' := 9) rfl O_8 (by decide) rfl t_103 dX0_leavesOf_24 ?_
    refine r_aload_n (pc := 27) C dX0_leavesOf_27 rfl 0 rfl ?_
    refine r_getR0 (pc := 28) C 3 (k' := 12) rfl O_8 (by decide) rfl t_109 dX0_leavesOf_28 ?_
    refine r_iload_n (pc := 31) C dX0_leavesOf_31 rfl 1 rfl ?_
    refine r_iald (pc := 32) C t A_12 (by omega) (by omega) dX0_leavesOf_32 ?_
    refine r_iald (pc := 33) C ((σ 12 t).toNat) A_9 (by omega) (by omega) dX0_leavesOf_33 ?_
    refine r_bipush (pc := 34) C dX0_leavesOf_34 (by decide) ?_
    refine r_icmp_lt (pc := 36) C 42 ⟨by omega, by omega⟩ ⟨by omega, by omega⟩ dX0_leavesOf_36 (by decide) (fun h36 => ?_) (fun h36 => ?_)
    · skip
      refine r_iload_n (pc := 42) C dX0_leavesOf_42 rfl 2 rfl ?_
      refine r_iconst (pc := 43) C dX0_leavesOf_43 ?_
      refine r_icmp_ne (pc := 44) C 60 ⟨by omega, by omega⟩ ⟨by omega, by omega⟩ dX0_leavesOf_44 (by decide) (fun h44 => ?_) (fun h44 => ?_)
      · skip
        refine r_iload_n (pc := 60) C dX0_leavesOf_60 rfl 3 rfl ?_
        exact r_reti (pc := 61) C (by unfold leav; (first | rw [if_pos (by omega)] | rw [if_neg (by omega)]); (first | rw [if_pos (by omega)] | rw [if_neg (by omega)]); try omega) (rfl) dX0_leavesOf_61
      · skip
        refine r_iload_n (pc := 47) C dX0_leavesOf_47 rfl 3 rfl ?_
        refine r_aload_n (pc := 48) C dX0_leavesOf_48 rfl 0 rfl ?_
        refine r_getR0 (pc := 49) C 4 (k' := 13) rfl O_8 (by decide) rfl t_111 dX0_leavesOf_49 ?_
        refine r_iload_n (pc := 52) C dX0_leavesOf_52 rfl 1 rfl ?_
        refine r_iald (pc := 53) C t A_13 (by omega) (by omega) dX0_leavesOf_53 ?_
        refine r_sipush (pc := 54) C dX0_leavesOf_54 (by decide) ?_
        refine r_idiv (pc := 57) C (by omega) (by omega) (by omega) (by omega) dX0_leavesOf_57 ?_
        refine r_iadd (pc := 58) C dX0_leavesOf_58 ?_
        refine r_istore_n (pc := 59) C dX0_leavesOf_59 rfl (by decide) [1, 2, 3, 0] (lv' := [(0, .ref (gA g 8)), (1, .int (iI ((t : Int)))), (2, .int (iI (σ 11 t))), (3, .int (iI ((stab 0 ((σ 11 t).toNat)) + ((σ 13 t) / 1000))))]) rfl ?_
        refine r_iload_n (pc := 60) C dX0_leavesOf_60 rfl 3 rfl ?_
        exact r_reti (pc := 61) C (by unfold leav; (first | rw [if_pos (by omega)] | rw [if_neg (by omega)]); (first | rw [if_pos (by omega)] | rw [if_neg (by omega)]); try omega) (rfl) dX0_leavesOf_61
    · skip
      refine r_iinc (pc := 39) C dX0_leavesOf_39 3 rfl (by decide) [1, 2, 3, 0] (lv' := [(0, .ref (gA g 8)), (1, .int (iI ((t : Int)))), (2, .int (iI (σ 11 t))), (3, .int (iI ((stab 0 ((σ 11 t).toNat)) + 4)))]) rfl ?_
      refine r_iload_n (pc := 42) C dX0_leavesOf_42 rfl 2 rfl ?_
      refine r_iconst (pc := 43) C dX0_leavesOf_43 ?_
      refine r_icmp_ne (pc := 44) C 60 ⟨by omega, by omega⟩ ⟨by omega, by omega⟩ dX0_leavesOf_44 (by decide) (fun h44 => ?_) (fun h44 => ?_)
      · skip
        refine r_iload_n (pc := 60) C dX0_leavesOf_60 rfl 3 rfl ?_
        exact r_reti (pc := 61) C (by unfold leav; (first | rw [if_pos (by omega)] | rw [if_neg (by omega)]); (first | rw [if_pos (by omega)] | rw [if_neg (by omega)]); try omega) (rfl) dX0_leavesOf_61
      · skip
        refine r_iload_n (pc := 47) C dX0_leavesOf_47 rfl 3 rfl ?_
        refine r_aload_n (pc := 48) C dX0_leavesOf_48 rfl 0 rfl ?_
        refine r_getR0 (pc := 49) C 4 (k' := 13) rfl O_8 (by decide) rfl t_111 dX0_leavesOf_49 ?_
        refine r_iload_n (pc := 52) C dX0_leavesOf_52 rfl 1 rfl ?_
        refine r_iald (pc := 53) C t A_13 (by omega) (by omega) dX0_leavesOf_53 ?_
        refine r_sipush (pc := 54) C dX0_leavesOf_54 (by decide) ?_
        refine r_idiv (pc := 57) C (by omega) (by omega) (by omega) (by omega) dX0_leavesOf_57 ?_
        refine r_iadd (pc := 58) C dX0_leavesOf_58 ?_
        refine r_istore_n (pc := 59) C dX0_leavesOf_59 rfl (by decide) [1, 2, 3, 0] (lv' := [(0, .ref (gA g 8)), (1, .int (iI ((t : Int)))), (2, .int (iI (σ 11 t))), (3, .int (iI (((stab 0 ((σ 11 t).toNat)) + 4) + ((σ 13 t) / 1000))))]) rfl ?_
        refine r_iload_n (pc := 60) C dX0_leavesOf_60 rfl 3 rfl ?_
        exact r_reti (pc := 61) C (by unfold leav; (first | rw [if_pos (by omega)] | rw [if_neg (by omega)]); (first | rw [if_pos (by omega)] | rw [if_neg (by omega)]); try omega) (rfl) dX0_leavesOf_61
  · skip
    refine r_iload_n (pc := 18) C dX0_leavesOf_18 rfl 2 rfl ?_
    refine r_iconst (pc := 19) C dX0_leavesOf_19 ?_
    refine r_icmp_ne (pc := 20) C 42 ⟨by omega, by omega⟩ ⟨by omega, by omega⟩ dX0_leavesOf_20 (by decide) (fun h20 => ?_) (fun h20 => ?_)
    · skip
      refine r_iload_n (pc := 42) C dX0_leavesOf_42 rfl 2 rfl ?_
      refine r_iconst (pc := 43) C dX0_leavesOf_43 ?_
      refine r_icmp_ne (pc := 44) C 60 ⟨by omega, by omega⟩ ⟨by omega, by omega⟩ dX0_leavesOf_44 (by decide) (fun h44 => ?_) (fun h44 => ?_)
      · skip
        refine r_iload_n (pc := 60) C dX0_leavesOf_60 rfl 3 rfl ?_
        exact r_reti (pc := 61) C (by unfold leav; (first | rw [if_pos (by omega)] | rw [if_neg (by omega)]); (first | rw [if_pos (by omega)] | rw [if_neg (by omega)]); try omega) (rfl) dX0_leavesOf_61
      · skip
        refine r_iload_n (pc := 47) C dX0_leavesOf_47 rfl 3 rfl ?_
        refine r_aload_n (pc := 48) C dX0_leavesOf_48 rfl 0 rfl ?_
        refine r_getR0 (pc := 49) C 4 (k' := 13) rfl O_8 (by decide) rfl t_111 dX0_leavesOf_49 ?_
        refine r_iload_n (pc := 52) C dX0_leavesOf_52 rfl 1 rfl ?_
        refine r_iald (pc := 53) C t A_13 (by omega) (by omega) dX0_leavesOf_53 ?_
        refine r_sipush (pc := 54) C dX0_leavesOf_54 (by decide) ?_
        refine r_idiv (pc := 57) C (by omega) (by omega) (by omega) (by omega) dX0_leavesOf_57 ?_
        refine r_iadd (pc := 58) C dX0_leavesOf_58 ?_
        refine r_istore_n (pc := 59) C dX0_leavesOf_59 rfl (by decide) [1, 2, 3, 0] (lv' := [(0, .ref (gA g 8)), (1, .int (iI ((t : Int)))), (2, .int (iI (σ 11 t))), (3, .int (iI ((stab 0 ((σ 11 t).toNat)) + ((σ 13 t) / 1000))))]) rfl ?_
        refine r_iload_n (pc := 60) C dX0_leavesOf_60 rfl 3 rfl ?_
        exact r_reti (pc := 61) C (by unfold leav; (first | rw [if_pos (by omega)] | rw [if_neg (by omega)]); (first | rw [if_pos (by omega)] | rw [if_neg (by omega)]); try omega) (rfl) dX0_leavesOf_61
    · skip
      refine r_aload_n (pc := 23) C dX0_leavesOf_23 rfl 0 rfl ?_
      refine r_getR0 (pc := 24) C 0 (k' := 9) rfl O_8 (by decide) rfl t_103 dX0_leavesOf_24 ?_
      refine r_aload_n (pc := 27) C dX0_leavesOf_27 rfl 0 rfl ?_
      refine r_getR0 (pc := 28) C 3 (k' := 12) rfl O_8 (by decide) rfl t_109 dX0_leavesOf_28 ?_
      refine r_iload_n (pc := 31) C dX0_leavesOf_31 rfl 1 rfl ?_
      refine r_iald (pc := 32) C t A_12 (by omega) (by omega) dX0_leavesOf_32 ?_
      refine r_iald (pc := 33) C ((σ 12 t).toNat) A_9 (by omega) (by omega) dX0_leavesOf_33 ?_
      refine r_bipush (pc := 34) C dX0_leavesOf_34 (by decide) ?_
      refine r_icmp_lt (pc := 36) C 42 ⟨by omega, by omega⟩ ⟨by omega, by omega⟩ dX0_leavesOf_36 (by decide) (fun h36 => ?_) (fun h36 => ?_)
      · skip
        refine r_iload_n (pc := 42) C dX0_leavesOf_42 rfl 2 rfl ?_
        refine r_iconst (pc := 43) C dX0_leavesOf_43 ?_
        refine r_icmp_ne (pc := 44) C 60 ⟨by omega, by omega⟩ ⟨by omega, by omega⟩ dX0_leavesOf_44 (by decide) (fun h44 => ?_) (fun h44 => ?_)
        · skip
          refine r_iload_n (pc := 60) C dX0_leavesOf_60 rfl 3 rfl ?_
          exact r_reti (pc := 61) C (by unfold leav; (first | rw [if_pos (by omega)] | rw [if_neg (by omega)]); (first | rw [if_pos (by omega)] | rw [if_neg (by omega)]); try omega) (rfl) dX0_leavesOf_61
        · skip
          refine r_iload_n (pc := 47) C dX0_leavesOf_47 rfl 3 rfl ?_
          refine r_aload_n (pc := 48) C dX0_leavesOf_48 rfl 0 rfl ?_
          refine r_getR0 (pc := 49) C 4 (k' := 13) rfl O_8 (by decide) rfl t_111 dX0_leavesOf_49 ?_
          refine r_iload_n (pc := 52) C dX0_leavesOf_52 rfl 1 rfl ?_
          refine r_iald (pc := 53) C t A_13 (by omega) (by omega) dX0_leavesOf_53 ?_
          refine r_sipush (pc := 54) C dX0_leavesOf_54 (by decide) ?_
          refine r_idiv (pc := 57) C (by omega) (by omega) (by omega) (by omega) dX0_leavesOf_57 ?_
          refine r_iadd (pc := 58) C dX0_leavesOf_58 ?_
          refine r_istore_n (pc := 59) C dX0_leavesOf_59 rfl (by decide) [1, 2, 3, 0] (lv' := [(0, .ref (gA g 8)), (1, .int (iI ((t : Int)))), (2, .int (iI (σ 11 t))), (3, .int (iI ((stab 0 ((σ 11 t).toNat)) + ((σ 13 t) / 1000))))]) rfl ?_
          refine r_iload_n (pc := 60) C dX0_leavesOf_60 rfl 3 rfl ?_
          exact r_reti (pc := 61) C (by unfold leav; (first | rw [if_pos (by omega)] | rw [if_neg (by omega)]); (first | rw [if_pos (by omega)] | rw [if_neg (by omega)]); try omega) (rfl) dX0_leavesOf_61
      · skip
        refine r_iinc (pc := 39) C dX0_leavesOf_39 3 rfl (by decide) [1, 2, 3, 0] (lv' := [(0, .ref (gA g 8)), (1, .int (iI ((t : Int)))), (2, .int (iI (σ 11 t))), (3, .int (iI ((stab 0 ((σ 11 t).toNat)) + 4)))]) rfl ?_
        refine r_iload_n (pc := 42) C dX0_leavesOf_42 rfl 2 rfl ?_
        refine r_iconst (pc := 43) C dX0_leavesOf_43 ?_
        refine r_icmp_ne (pc := 44) C 60 ⟨by omega, by omega⟩ ⟨by omega, by omega⟩ dX0_leavesOf_44 (by decide) (fun h44 => ?_) (fun h44 => ?_)
        · skip
          refine r_iload_n (pc := 60) C dX0_leavesOf_60 rfl 3 rfl ?_
          exact r_reti (pc := 61) C (by unfold leav; (first | rw [if_pos (by omega)] | rw [if_neg (by omega)]); (first | rw [if_pos (by omega)] | rw [if_neg (by omega)]); try omega) (rfl) dX0_leavesOf_61
        · skip
          refine r_iload_n (pc := 47) C dX0_leavesOf_47 rfl 3 rfl ?_
          refine r_aload_n (pc := 48) C dX0_leavesOf_48 rfl 0 rfl ?_
          refine r_getR0 (pc := 49) C 4 (k' := 13) rfl O_8 (by decide) rfl t_111 dX0_leavesOf_49 ?_
          refine r_iload_n (pc := 52) C dX0_leavesOf_52 rfl 1 rfl ?_
          refine r_iald (pc := 53) C t A_13 (by omega) (by omega) dX0_leavesOf_53 ?_
          refine r_sipush (pc := 54) C dX0_leavesOf_54 (by decide) ?_
          refine r_idiv (pc := 57) C (by omega) (by omega) (by omega) (by omega) dX0_leavesOf_57 ?_
          refine r_iadd (pc := 58) C dX0_leavesOf_58 ?_
          refine r_istore_n (pc := 59) C dX0_leavesOf_59 rfl (by decide) [1, 2, 3, 0] (lv' := [(0, .ref (gA g 8)), (1, .int (iI ((t : Int)))), (2, .int (iI (σ 11 t))), (3, .int (iI (((stab 0 ((σ 11 t).toNat)) + 4) + ((σ 13 t) / 1000))))]) rfl ?_
          refine r_iload_n (pc := 60) C dX0_leavesOf_60 rfl 3 rfl ?_
          exact r_reti (pc := 61) C (by unfold leav; (first | rw [if_pos (by omega)] | rw [if_neg (by omega)]); (first | rw [if_pos (by omega)] | rw [if_neg (by omega)]); try omega) (rfl) dX0_leavesOf_61
set_option maxHeartbeats 4000000 in
set_option maxRecDepth 100000 in
theorem c_sweep_8 (g : Gt) (t : Nat) (ht : t < 8) (σ : Sg) (hD : rgD (σ 9)) (hK : rgK (σ 11)) (hA : rgA (σ 12)) (hG : rgG (σ 13)) : Mt g yX0_sweep cX0_sweep 4 none 1 [.ref (gA g 8), .int (iI ((t : Int)))] σ (pV (us (us σ 9 (sw1 (σ 11) (σ 12) t (σ 9, σ 13)).1) 13 (sw1 (σ 11) (σ 12) t (σ 9, σ 13)).2)) := by
  have hk := hK t ht
  have ha := hA t ht
  have hg := hG t ht
  have hd := hD (σ 12 t).toNat (by omega)
  have h0 := stab1_rng (σ 11 t).toNat
  refine mt_of (own := RX0) (by decide) rfl (Nat.le_of_ble_eq_true rfl) (fun E C => ?_)
  show J g E (pV (us (us σ 9 (sw1 (σ 11) (σ 12) t (σ 9, σ 13)).1) 13 (sw1 (σ 11) (σ 12) t (σ 9, σ 13)).2)) 4 0 [(0, .ref (gA g 8)), (1, .int (iI ((t : Int))))] [] σ
  refine r_aload_n (pc := 0) C dX0_sweep_0 rfl 0 rfl ?_
  refine r_getR0 (pc := 1) C 3 (k' := 12) rfl O_8 (by decide) rfl t_109 dX0_sweep_1 ?_
  refine r_iload_n (pc := 4) C dX0_sweep_4 rfl 1 rfl ?_
  refine r_iald (pc := 5) C t A_12 (by omega) (by omega) dX0_sweep_5 ?_
  refine r_istore_n (pc := 6) C dX0_sweep_6 rfl (by decide) [1, 2, 0] (lv' := [(0, .ref (gA g 8)), (1, .int (iI ((t : Int)))), (2, .int (iI (σ 12 t)))]) rfl ?_
  refine r_getsN (pc := 7) C F_sw N_sw dX0_sweep_7 ?_
  refine r_aload_n (pc := 10) C dX0_sweep_10 rfl 0 rfl ?_
  refine r_getR0 (pc := 11) C 2 (k' := 11) rfl O_8 (by decide) rfl t_107 dX0_sweep_11 ?_
  refine r_iload_n (pc := 14) C dX0_sweep_14 rfl 1 rfl ?_
  refine r_iald (pc := 15) C t A_11 (by omega) (by omega) dX0_sweep_15 ?_
  refine r_tald (pc := 16) C ((σ 11 t).toNat) F_sw (by omega) (by omega) dX0_sweep_16 ?_
  refine r_aload_n (pc := 17) C dX0_sweep_17 rfl 0 rfl ?_
  refine r_getR0 (pc := 18) C 0 (k' := 9) rfl O_8 (by decide) rfl t_103 dX0_sweep_18 ?_
  refine r_iload_n (pc := 21) C dX0_sweep_21 rfl 2 rfl ?_
  refine r_iald (pc := 22) C ((σ 12 t).toNat) A_9 (by omega) (by omega) dX0_sweep_22 ?_
  refine r_min (pc := 23) C ⟨by omega, by omega⟩ ⟨by omega, by omega⟩ (by decide) (Nat.le_of_ble_eq_true rfl) t_347 dX0_sweep_23 ?_
  refine r_istore_n (pc := 26) C dX0_sweep_26 rfl (by decide) [1, 2, 3, 0] (lv' := [(0, .ref (gA g 8)), (1, .int (iI ((t : Int)))), (2, .int (iI (σ 12 t))), (3, .int (iI (min (stab 1 ((σ 11 t).toNat)) (σ 9 ((σ 12 t).toNat)))))]) rfl ?_
  refine r_aload_n (pc := 27) C dX0_sweep_27 rfl 0 rfl ?_
  refine r_getR0 (pc := 28) C 0 (k' := 9) rfl O_8 (by decide) rfl t_103 dX0_sweep_28 ?_
  refine r_iload_n (pc := 31) C dX0_sweep_31 rfl 2 rfl ?_
  refine r_dup2 (pc := 32) C rfl rfl dX0_sweep_32 ?_
  refine r_iald (pc := 33) C ((σ 12 t).toNat) A_9 (by omega) (by omega) dX0_sweep_33 ?_
  refine r_iload_n (pc := 34) C dX0_sweep_34 rfl 3 rfl ?_
  refine r_isub (pc := 35) C dX0_sweep_35 ?_
  refine r_iast (pc := 36) C ((σ 12 t).toNat) A_9 (by omega) (by omega) dX0_sweep_36 ?_
  refine r_aload_n (pc := 37) C dX0_sweep_37 rfl 0 rfl ?_
  refine r_getR0 (pc := 38) C 2 (k' := 11) rfl O_8 (by decide) rfl t_107 dX0_sweep_38 ?_
  refine r_iload_n (pc := 41) C dX0_sweep_41 rfl 1 rfl ?_
  refine r_iald (pc := 42) C t A_11 (by omega) (by omega) dX0_sweep_42 ?_
  refine r_top (wr_o2 _ _ _ _ (by omega)) ?_
  refine r_iconst (pc := 43) C dX0_sweep_43 ?_
  refine r_icmp_ne (pc := 44) C 56 ⟨by omega, by omega⟩ ⟨by omega, by omega⟩ dX0_sweep_44 (by decide) (fun h44 => ?_) (fun h44 => ?_)
  · skip
    refine r_aload_n (pc := 56) C dX0_sweep_56 rfl 0 rfl ?_
    refine r_getR0 (pc := 57) C 2 (k' := 11) rfl O_8 (by decide) rfl t_107 dX0_sweep_57 ?_
    refine r_iload_n (pc := 60) C dX0_sweep_60 rfl 1 rfl ?_
    refine r_iald (pc := 61) C t A_11 (by omega) (by omega) dX0_sweep_61 ?_
    refine r_top (wr_o2 _ _ _ _ (by omega)) ?_
    refine r_iconst (pc := 62) C dX0_sweep_62 ?_
    refine r_icmp_ne (pc := 63) C 74 ⟨by omega, by omega⟩ ⟨by omega, by omega⟩ dX0_sweep_63 (by decide) (fun h63 => ?_) (fun h63 => ?_)
    · skip
      exact r_retv (pc := 74) C (by unfold sw1; (first | rw [if_pos (by omega)] | (rw [if_neg (by omega)]; first | rw [if_pos (by omega)] | rw [if_neg (by omega)])) <;> first | rfl | exact (us_idx rfl).symm) dX0_sweep_74
    · skip
      refine r_aload_n (pc := 66) C dX0_sweep_66 rfl 0 rfl ?_
      refine r_iload_n (pc := 67) C dX0_sweep_67 rfl 1 rfl ?_
      refine r_iload_n (pc := 68) C dX0_sweep_68 rfl 3 rfl ?_
      refine r_iconst (pc := 69) C dX0_sweep_69 ?_
      refine r_idiv (pc := 70) C (by omega) (by omega) (by omega) (by omega) dX0_sweep_70 ?_
      refine r_cVv (pc := 71) C (c_gain_8 g t (by omega) ((min (stab 1 ((σ 11 t).toNat)) (σ 9 ((σ 12 t).toNat))) / 2) ⟨by omega, by omega⟩ (wr σ 9 ((σ 12 t).toNat) ((σ 9 ((σ 12 t).toNat)) - (min (stab 1 ((σ 11 t).toNat)) (σ 9 ((σ 12 t).toNat))))) hG) yX0_gain_w O_8 rfl rfl t_375 ⟨by decide, by decide⟩ (Nat.le_of_ble_eq_true rfl) rfl dX0_sweep_71 ?_
      exact r_retv (pc := 74) C (by unfold sw1; (first | rw [if_pos (by omega)] | (rw [if_neg (by omega)]; first | rw [if_pos (by omega)] | rw [if_neg (by omega)])) <;> first | rfl | exact (us_idx rfl).symm) dX0_sweep_74
  · skip
    refine r_aload_n (pc := 47) C dX0_sweep_47 rfl 0 rfl ?_
    refine r_iload_n (pc := 48) C dX0_sweep_48 rfl 1 rfl ?_
    refine r_iload_n (pc := 49) C dX0_sweep_49 rfl 3 rfl ?_
    refine r_cVv (pc := 50) C (c_gain_8 g t (by omega) (min (stab 1 ((σ 11 t).toNat)) (σ 9 ((σ 12 t).toNat))) ⟨by omega, by omega⟩ (wr σ 9 ((σ 12 t).toNat) ((σ 9 ((σ 12 t).toNat)) - (min (stab 1 ((σ 11 t).toNat)) (σ 9 ((σ 12 t).toNat))))) hG) yX0_gain_w O_8 rfl rfl t_375 ⟨by decide, by decide⟩ (Nat.le_of_ble_eq_true rfl) rfl dX0_sweep_50 ?_
    refine r_goto (pc := 53) C 74 dX0_sweep_53 (by decide) ?_
    exact r_retv (pc := 74) C (by unfold sw1; (first | rw [if_pos (by omega)] | (rw [if_neg (by omega)]; first | rw [if_pos (by omega)] | rw [if_neg (by omega)])) <;> first | rfl | exact (us_idx rfl).symm) dX0_sweep_74
set_option maxHeartbeats 4000000 in
set_option maxRecDepth 100000 in
theorem c_blow_8 (g : Gt) (σ : Sg) (hD : rgD (σ 9)) (hw : -3 ≤ σ 8 9 ∧ σ 8 9 ≤ 3) : Mt g yX0_blow cX0_blow 2 none 1 [.ref (gA g 8)] σ (pV (us (us σ 10 (blF (σ 8 9) (σ 9) (σ 10) 12)) 9 (mapTo (blD (σ 8 9) (σ 9)) (σ 9) 12))) := by
  refine mt_of (own := RX0) (by decide) rfl (Nat.le_of_ble_eq_true rfl) (fun E C => ?_)
  show J g E (pV (us (us σ 10 (blF (σ 8 9) (σ 9) (σ 10) 12)) 9 (mapTo (blD (σ 8 9) (σ 9)) (σ 9) 12))) 2 0 [(0, .ref (gA g 8))] [] σ
  refine r_iconst (pc := 0) C dX0_blow_0 ?_
  refine r_istore_n (pc := 1) C dX0_blow_1 rfl (by decide) [1, 0] (lv' := [(0, .ref (gA g 8)), (1, .int (iI (0)))]) rfl ?_
  have L2 : ∀ (n_ : Nat) (i : Nat) (x2_1 : Int) (s2 : Sg), 12 - i < n_ → (i ≤ 12) → x2_1 = (i : Int) → s2 = (us σ 10 (blF (σ 8 9) (σ 9) (σ 10) i)) → J g E (pV (us (us σ 10 (blF (σ 8 9) (σ 9) (σ 10) 12)) 9 (mapTo (blD (σ 8 9) (σ 9)) (σ 9) 12))) 2 2 [(0, .ref (gA g 8)), (1, .int (iI (x2_1)))] [] s2 := by
    intro n_
    induction n_ with
    | zero => intro i x2_1 s2 hm_; exact absurd hm_ (Nat.not_lt_zero _)
    | succ n_ ih2 =>
      intro i x2_1 s2 hm2 hi2_0 e2_0 es2
      subst e2_0 es2
      refine r_iload_n (pc := 2) C dX0_blow_2 rfl 1 rfl ?_
      refine r_bipush (pc := 3) C dX0_blow_3 (by decide) ?_
      refine r_icmp_ge (pc := 5) C 39 ⟨by omega, by omega⟩ ⟨by omega, by omega⟩ dX0_blow_5 (by decide) (fun h5 => ?_) (fun h5 => ?_)
      · skip
        refine r_iconst (pc := 39) C dX0_blow_39 ?_
        refine r_istore_n (pc := 40) C dX0_blow_40 rfl (by decide) [1, 0] (lv' := [(0, .ref (gA g 8)), (1, .int (iI (0)))]) rfl ?_
        have L41 : ∀ (n_ : Nat) (i : Nat) (x41_1 : Int) (s41 : Sg), 12 - i < n_ → (i ≤ 12) → x41_1 = (i : Int) → s41 = (us (us σ 10 (blF (σ 8 9) (σ 9) (σ 10) 12)) 9 (mapTo (blD (σ 8 9) (σ 9)) (σ 9) i)) → J g E (pV (us (us σ 10 (blF (σ 8 9) (σ 9) (σ 10) 12)) 9 (mapTo (blD (σ 8 9) (σ 9)) (σ 9) 12))) 2 41 [(0, .ref (gA g 8)), (1, .int (iI (x41_1)))] [] s41 := by
          intro n_
          induction n_ with
          | zero => intro i x41_1 s41 hm_; exact absurd hm_ (Nat.not_lt_zero _)
          | succ n_ ih41 =>
            intro i x41_1 s41 hm41 hi41_0 e41_0 es41
            subst e41_0 es41
            refine r_iload_n (pc := 41) C dX0_blow_41 rfl 1 rfl ?_
            refine r_bipush (pc := 42) C dX0_blow_42 (by decide) ?_
            refine r_icmp_ge (pc := 44) C 82 ⟨by omega, by omega⟩ ⟨by omega, by omega⟩ dX0_blow_44 (by decide) (fun h44 => ?_) (fun h44 => ?_)
            · skip
              exact r_retv (pc := 82) C (by rw [show i = 12 by omega]) dX0_blow_82
            · skip
              refine r_aload_n (pc := 47) C dX0_blow_47 rfl 0 rfl ?_
              refine r_getR0 (pc := 48) C 0 (k' := 9) rfl O_8 (by decide) rfl t_103 dX0_blow_48 ?_
              refine r_iload_n (pc := 51) C dX0_blow_51 rfl 1 rfl ?_
              refine r_aload_n (pc := 52) C dX0_blow_52 rfl 0 rfl ?_
              refine r_getR0 (pc := 53) C 0 (k' := 9) rfl O_8 (by decide) rfl t_103 dX0_blow_53 ?_
              refine r_iload_n (pc := 56) C dX0_blow_56 rfl 1 rfl ?_
              have hd := hD i (by omega)
              refine r_iald (pc := 57) C i A_9 (by omega) (by omega) dX0_blow_57 ?_
              refine r_top (us_s2 _ _ _ _) ?_
              refine r_top (show (mapTo (blD (σ 8 9) (σ 9)) (σ 9) i) i = σ 9 i from mapTo_at _ _ _) ?_
              refine r_aload_n (pc := 58) C dX0_blow_58 rfl 0 rfl ?_
              refine r_getR0 (pc := 59) C 0 (k' := 9) rfl O_8 (by decide) rfl t_103 dX0_blow_59 ?_
              refine r_iload_n (pc := 62) C dX0_blow_62 rfl 1 rfl ?_
              refine r_iald (pc := 63) C i A_9 (by omega) (by omega) dX0_blow_63 ?_
              refine r_top (us_s2 _ _ _ _) ?_
              refine r_top (show (mapTo (blD (σ 8 9) (σ 9)) (σ 9) i) i = σ 9 i from mapTo_at _ _ _) ?_
              refine r_bipush (pc := 64) C dX0_blow_64 (by decide) ?_
              refine r_idiv (pc := 66) C (by omega) (by omega) (by omega) (by omega) dX0_blow_66 ?_
              refine r_isub (pc := 67) C dX0_blow_67 ?_
              refine r_aload_n (pc := 68) C dX0_blow_68 rfl 0 rfl ?_
              refine r_getR0 (pc := 69) C 1 (k' := 10) rfl O_8 (by decide) rfl t_106 dX0_blow_69 ?_
              refine r_iload_n (pc := 72) C dX0_blow_72 rfl 1 rfl ?_
              refine r_iald (pc := 73) C i A_10 (by omega) (by omega) dX0_blow_73 ?_
              refine r_top ((us_o2 _ _ _ (by omega)).trans (us_s2 _ _ _ _)) ?_
              refine r_top (show (blF (σ 8 9) (σ 9) (σ 10) 12) i = σ 9 (shf (σ 8 9) i) / 10 from blF_is _ _ _ hw i (by omega)) ?_
              refine r_iadd (pc := 74) C dX0_blow_74 ?_
              refine r_iast (pc := 75) C i A_9 (by omega) (by omega) dX0_blow_75 ?_
              refine r_iinc (pc := 76) C dX0_blow_76 1 rfl (by decide) [1, 0] (lv' := [(0, .ref (gA g 8)), (1, .int (iI ((i : Int) + 1)))]) rfl ?_
              refine r_goto (pc := 79) C 41 dX0_blow_79 (by decide) ?_
              exact ih41 (i + 1) _ _ (by omega) (by omega) (by omega) ((wr_us _ _ _ _ _).trans (congrArg (us _ 9) (mapTo_s _ _ _)))
        exact L41 _ 0 _ _ (Nat.lt_succ_self _) (by omega) (rfl) (by rw [show i = 12 by omega, mapTo_0]; exact (us_idx rfl).symm)
      · skip
        refine r_aload_n (pc := 8) C dX0_blow_8 rfl 0 rfl ?_
        refine r_getR0 (pc := 9) C 1 (k' := 10) rfl O_8 (by decide) rfl t_106 dX0_blow_9 ?_
        refine r_iload_n (pc := 12) C dX0_blow_12 rfl 1 rfl ?_
        refine r_aload_n (pc := 13) C dX0_blow_13 rfl 0 rfl ?_
        refine r_getI0 (pc := 14) C 9 rfl O_8 (by decide) rfl t_125 dX0_blow_14 ?_
        refine r_top (us_o2 _ _ _ (by omega)) ?_
        refine r_iadd (pc := 17) C dX0_blow_17 ?_
        refine r_bipush (pc := 18) C dX0_blow_18 (by decide) ?_
        refine r_cSi (pc := 20) C (c_floorMod g ((i : Int) + (σ 8 9)) ⟨by omega, by omega⟩ (us σ 10 (blF (σ 8 9) (σ 9) (σ 10) i))) yJ9_floorMod_7cf53_w rfl t_344 ⟨by decide, by decide⟩ (Nat.le_of_ble_eq_true rfl) rfl dX0_blow_20 ?_
        refine r_top (show _ = ((i : Int) + (σ 8 9)) % 12 from rfl) ?_
        refine r_aload_n (pc := 23) C dX0_blow_23 rfl 0 rfl ?_
        refine r_getR0 (pc := 24) C 0 (k' := 9) rfl O_8 (by decide) rfl t_103 dX0_blow_24 ?_
        refine r_iload_n (pc := 27) C dX0_blow_27 rfl 1 rfl ?_
        have hd := hD i (by omega)
        refine r_iald (pc := 28) C i A_9 (by omega) (by omega) dX0_blow_28 ?_
        refine r_top (us_o2 _ _ _ (by omega)) ?_
        refine r_bipush (pc := 29) C dX0_blow_29 (by decide) ?_
        refine r_idiv (pc := 31) C (by omega) (by omega) (by omega) (by omega) dX0_blow_31 ?_
        refine r_iast (pc := 32) C (md ((i : Int) + σ 8 9)) A_10 (by first | (show _ = ((md _ : Nat) : Int); unfold md; omega) | exact md_lt _) (by first | (show _ = ((md _ : Nat) : Int); unfold md; omega) | exact md_lt _) dX0_blow_32 ?_
        refine r_iinc (pc := 33) C dX0_blow_33 1 rfl (by decide) [1, 0] (lv' := [(0, .ref (gA g 8)), (1, .int (iI ((i : Int) + 1)))]) rfl ?_
        refine r_goto (pc := 36) C 2 dX0_blow_36 (by decide) ?_
        exact ih2 (i + 1) _ _ (by omega) (by omega) (by omega) (wr_us _ _ _ _ _)
  exact L2 _ 0 _ _ (Nat.lt_succ_self _) (by omega) (rfl) ((us_id σ 10).symm)
def setS_8 (m : Int) (σ : Sg) : Sg := (us (us (us σ 10 (blF (σ 8 9) (σ 9) (σ 10) 12)) 9 ((swF (σ 11) (σ 12) m (dyD (σ 8 9) (σ 8 8) (σ 9), σ 13) (σ 8 7).toNat).1)) 13 ((swF (σ 11) (σ 12) m (dyD (σ 8 9) (σ 8 8) (σ 9), σ 13) (σ 8 7).toNat).2))
set_option maxHeartbeats 4000000 in
set_option maxRecDepth 100000 in
theorem c_settle_8 (g : Gt) (m : Int) (hm : rng m) (σ : Sg) (hn : 0 ≤ σ 8 7 ∧ σ 8 7 ≤ 8) (hfl : 0 ≤ σ 8 8 ∧ σ 8 8 ≤ 99) (hw : -3 ≤ σ 8 9 ∧ σ 8 9 ≤ 3) (hD : rgD (σ 9)) (hK : rgK (σ 11)) (hA : rgA (σ 12)) (hG : rgG (σ 13)) : Mt g yX0_settle cX0_settle 3 none 2 [.ref (gA g 8), .int (iI (m))] σ (pV (setS_8 m σ)) := by
  refine mt_of (own := RX0) (by decide) rfl (Nat.le_of_ble_eq_true rfl) (fun E C => ?_)
  show J g E (pV (setS_8 m σ)) 3 0 [(0, .ref (gA g 8)), (1, .int (iI (m)))] [] σ
  refine r_aload_n (pc := 0) C dX0_settle_0 rfl 0 rfl ?_
  refine r_cVv (pc := 1) C (c_blow_8 g σ hD hw) yX0_blow_w O_8 rfl rfl t_366 ⟨by decide, by decide⟩ (Nat.le_of_ble_eq_true rfl) rfl dX0_settle_1 ?_
  refine r_iconst (pc := 4) C dX0_settle_4 ?_
  refine r_istore_n (pc := 5) C dX0_settle_5 rfl (by decide) [1, 2, 0] (lv' := [(0, .ref (gA g 8)), (1, .int (iI (m))), (2, .int (iI (0)))]) rfl ?_
  have L6 : ∀ (n_ : Nat) (i : Nat) (x6_2 : Int) (s6 : Sg), 12 - i < n_ → (i ≤ 12) → x6_2 = (i : Int) → s6 = (us (us σ 10 (blF (σ 8 9) (σ 9) (σ 10) 12)) 9 (mapTo (fun j => min 9999 ((mapTo (blD (σ 8 9) (σ 9)) (σ 9) 12) j + σ 8 8)) (mapTo (blD (σ 8 9) (σ 9)) (σ 9) 12) i)) → J g E (pV (setS_8 m σ)) 3 6 [(0, .ref (gA g 8)), (1, .int (iI (m))), (2, .int (iI (x6_2)))] [] s6 := by
    intro n_
    induction n_ with
    | zero => intro i x6_2 s6 hm_; exact absurd hm_ (Nat.not_lt_zero _)
    | succ n_ ih6 =>
      intro i x6_2 s6 hm6 hi6_0 e6_0 es6
      subst e6_0 es6
      refine r_iload_n (pc := 6) C dX0_settle_6 rfl 2 rfl ?_
      refine r_bipush (pc := 7) C dX0_settle_7 (by decide) ?_
      refine r_icmp_ge (pc := 9) C 41 ⟨by omega, by omega⟩ ⟨by omega, by omega⟩ dX0_settle_9 (by decide) (fun h9 => ?_) (fun h9 => ?_)
      · skip
        refine r_iconst (pc := 41) C dX0_settle_41 ?_
        refine r_istore_n (pc := 42) C dX0_settle_42 rfl (by decide) [1, 2, 0] (lv' := [(0, .ref (gA g 8)), (1, .int (iI (m))), (2, .int (iI (0)))]) rfl ?_
        have L43 : ∀ (n_ : Nat) (i : Nat) (x43_2 : Int) (s43 : Sg), (σ 8 7).toNat - i < n_ → ((i : Int) ≤ σ 8 7) → x43_2 = (i : Int) → s43 = (us (us (us σ 10 (blF (σ 8 9) (σ 9) (σ 10) 12)) 9 ((swF (σ 11) (σ 12) m (dyD (σ 8 9) (σ 8 8) (σ 9), σ 13) i).1)) 13 ((swF (σ 11) (σ 12) m (dyD (σ 8 9) (σ 8 8) (σ 9), σ 13) i).2)) → J g E (pV (setS_8 m σ)) 3 43 [(0, .ref (gA g 8)), (1, .int (iI (m))), (2, .int (iI (x43_2)))] [] s43 := by
          intro n_
          induction n_ with
          | zero => intro i x43_2 s43 hm_; exact absurd hm_ (Nat.not_lt_zero _)
          | succ n_ ih43 =>
            intro i x43_2 s43 hm43 hi43_0 e43_0 es43
            subst e43_0 es43
            have hsw := swF_rng (K := σ 11) (m := m) (q := (dyD (σ 8 9) (σ 8 8) (σ 9), σ 13)) hA (dyD_rng hfl hD) hG i (by omega)
            refine r_iload_n (pc := 43) C dX0_settle_43 rfl 2 rfl ?_
            refine r_aload_n (pc := 44) C dX0_settle_44 rfl 0 rfl ?_
            refine r_getI0 (pc := 45) C 7 rfl O_8 (by decide) rfl t_119 dX0_settle_45 ?_
            refine r_top ((us_o2 _ _ _ (by omega)).trans ((us_o2 _ _ _ (by omega)).trans (us_o2 _ _ _ (by omega)))) ?_
            refine r_icmp_ge (pc := 48) C 71 ⟨by omega, by omega⟩ ⟨by omega, by omega⟩ dX0_settle_48 (by decide) (fun h48 => ?_) (fun h48 => ?_)
            · skip
              exact r_retv (pc := 71) C (by rw [show i = (σ 8 7).toNat by omega]; rfl) dX0_settle_71
            · skip
              refine r_iload_n (pc := 51) C dX0_settle_51 rfl 1 rfl ?_
              refine r_iload_n (pc := 52) C dX0_settle_52 rfl 2 rfl ?_
              refine r_ishr (pc := 53) C dX0_settle_53 ?_
              refine r_iconst (pc := 54) C dX0_settle_54 ?_
              refine r_iand (pc := 55) C dX0_settle_55 ?_
              refine r_iconst (pc := 56) C dX0_settle_56 ?_
              refine r_icmp_ne (pc := 57) C 65 (band_rng _ _) ⟨by omega, by omega⟩ dX0_settle_57 (by decide) (fun h57 => ?_) (fun h57 => ?_)
              · skip
                refine r_iinc (pc := 65) C dX0_settle_65 2 rfl (by decide) [1, 2, 0] (lv' := [(0, .ref (gA g 8)), (1, .int (iI (m))), (2, .int (iI ((i : Int) + 1)))]) rfl ?_
                refine r_goto (pc := 68) C 43 dX0_settle_68 (by decide) ?_
                exact ih43 (i + 1) _ _ (by omega) (by omega) (by omega) (by first | (rw [swF, if_pos (by assumption)]; exact us_4 _ 9 13 (by decide) _ _ _ _) | rw [swF, if_neg (by assumption)])
              · skip
                refine r_aload_n (pc := 60) C dX0_settle_60 rfl 0 rfl ?_
                refine r_iload_n (pc := 61) C dX0_settle_61 rfl 2 rfl ?_
                refine r_cVv (pc := 62) C (c_sweep_8 g i (by omega) (us (us (us σ 10 (blF (σ 8 9) (σ 9) (σ 10) 12)) 9 ((swF (σ 11) (σ 12) m (dyD (σ 8 9) (σ 8 8) (σ 9), σ 13) i).1)) 13 ((swF (σ 11) (σ 12) m (dyD (σ 8 9) (σ 8 8) (σ 9), σ 13) i).2)) hsw.1 hK hA hsw.2) yX0_sweep_w O_8 rfl rfl t_370 ⟨by decide, by decide⟩ (Nat.le_of_ble_eq_true rfl) rfl dX0_settle_62 ?_
                refine r_iinc (pc := 65) C dX0_settle_65 2 rfl (by decide) [1, 2, 0] (lv' := [(0, .ref (gA g 8)), (1, .int (iI (m))), (2, .int (iI ((i : Int) + 1)))]) rfl ?_
                refine r_goto (pc := 68) C 43 dX0_settle_68 (by decide) ?_
                exact ih43 (i + 1) _ _ (by omega) (by omega) (by omega) (by first | (rw [swF, if_pos (by assumption)]; exact us_4 _ 9 13 (by decide) _ _ _ _) | rw [swF, if_neg (by assumption)])
        exact L43 _ 0 _ _ (Nat.lt_succ_self _) (by omega) (rfl) (by rw [show i = 12 by omega]; exact (us_idx rfl).symm)
      · skip
        refine r_aload_n (pc := 12) C dX0_settle_12 rfl 0 rfl ?_
        refine r_getR0 (pc := 13) C 0 (k' := 9) rfl O_8 (by decide) rfl t_103 dX0_settle_13 ?_
        refine r_iload_n (pc := 16) C dX0_settle_16 rfl 2 rfl ?_
        refine r_sipush (pc := 17) C dX0_settle_17 (by decide) ?_
        refine r_aload_n (pc := 20) C dX0_settle_20 rfl 0 rfl ?_
        refine r_getR0 (pc := 21) C 0 (k' := 9) rfl O_8 (by decide) rfl t_103 dX0_settle_21 ?_
        refine r_iload_n (pc := 24) C dX0_settle_24 rfl 2 rfl ?_
        have hd := blD_rng (w := σ 8 9) hD i (by omega)
        refine r_iald (pc := 25) C i A_9 (by omega) (by omega) dX0_settle_25 ?_
        refine r_top (us_s2 _ _ _ _) ?_
        refine r_top (show (mapTo (fun j => min 9999 ((mapTo (blD (σ 8 9) (σ 9)) (σ 9) 12) j + σ 8 8)) (mapTo (blD (σ 8 9) (σ 9)) (σ 9) 12) i) i = (mapTo (blD (σ 8 9) (σ 9)) (σ 9) 12) i from mapTo_at _ _ _) ?_
        refine r_aload_n (pc := 26) C dX0_settle_26 rfl 0 rfl ?_
        refine r_getI0 (pc := 27) C 8 rfl O_8 (by decide) rfl t_122 dX0_settle_27 ?_
        refine r_top ((us_o2 _ _ _ (by omega)).trans (us_o2 _ _ _ (by omega))) ?_
        refine r_iadd (pc := 30) C dX0_settle_30 ?_
        refine r_min (pc := 31) C ⟨by omega, by omega⟩ ⟨by omega, by omega⟩ (by decide) (Nat.le_of_ble_eq_true rfl) t_347 dX0_settle_31 ?_
        refine r_iast (pc := 34) C i A_9 (by omega) (by omega) dX0_settle_34 ?_
        refine r_iinc (pc := 35) C dX0_settle_35 2 rfl (by decide) [1, 2, 0] (lv' := [(0, .ref (gA g 8)), (1, .int (iI (m))), (2, .int (iI ((i : Int) + 1)))]) rfl ?_
        refine r_goto (pc := 38) C 6 dX0_settle_38 (by decide) ?_
        exact ih6 (i + 1) _ _ (by omega) (by omega) (by omega) ((wr_us _ _ _ _ _).trans (congrArg (us _ 9) (mapTo_s _ _ _)))
  exact L6 _ 0 _ _ (Nat.lt_succ_self _) (by omega) (rfl) (by rw [mapTo_0])
set_option maxHeartbeats 4000000 in
set_option maxRecDepth 100000 in
theorem c_leaveMarks_8 (g : Gt) (σ : Sg) (hn : 0 ≤ σ 8 7 ∧ σ 8 7 ≤ 8) (hD : rgD (σ 9)) (hK : rgK (σ 11)) (hA : rgA (σ 12)) (hG : rgG (σ 13)) (hM : rgM (σ 14)) : Mt g yX0_leaveMarks cX0_leaveMarks 5 none 1 [.ref (gA g 8)] σ (pV (us σ 14 (mkT (σ 8 7).toNat (σ 11) (σ 12) (σ 9) (σ 13) (σ 14) (σ 8 7).toNat))) := by
  refine mt_of (own := RX0) (by decide) rfl (Nat.le_of_ble_eq_true rfl) (fun E C => ?_)
  show J g E (pV (us σ 14 (mkT (σ 8 7).toNat (σ 11) (σ 12) (σ 9) (σ 13) (σ 14) (σ 8 7).toNat))) 5 0 [(0, .ref (gA g 8))] [] σ
  refine r_iconst (pc := 0) C dX0_leaveMarks_0 ?_
  refine r_istore_n (pc := 1) C dX0_leaveMarks_1 rfl (by decide) [1, 0] (lv' := [(0, .ref (gA g 8)), (1, .int (iI (0)))]) rfl ?_
  have L2 : ∀ (n_ : Nat) (i : Nat) (x2_1 : Int) (s2 : Sg), (σ 8 7).toNat - i < n_ → ((i : Int) ≤ σ 8 7) → x2_1 = (i : Int) → s2 = (us σ 14 (mkT (σ 8 7).toNat (σ 11) (σ 12) (σ 9) (σ 13) (σ 14) i)) → J g E (pV (us σ 14 (mkT (σ 8 7).toNat (σ 11) (σ 12) (σ 9) (σ 13) (σ 14) (σ 8 7).toNat))) 5 2 [(0, .ref (gA g 8)), (1, .int (iI (x2_1)))] [] s2 := by
    intro n_
    induction n_ with
    | zero => intro i x2_1 s2 hm_; exact absurd hm_ (Nat.not_lt_zero _)
    | succ n_ ih2 =>
      intro i x2_1 s2 hm2 hi2_0 e2_0 es2
      subst e2_0 es2
      have hmt := mkT_rng (n := (σ 8 7).toNat) (K := σ 11) (D := σ 9) (by omega) hA hG hM i (by omega)
      refine r_iload_n (pc := 2) C dX0_leaveMarks_2 rfl 1 rfl ?_
      refine r_aload_n (pc := 3) C dX0_leaveMarks_3 rfl 0 rfl ?_
      refine r_getI0 (pc := 4) C 7 rfl O_8 (by decide) rfl t_119 dX0_leaveMarks_4 ?_
      refine r_top (us_o2 _ _ _ (by omega)) ?_
      refine r_icmp_ge (pc := 7) C 101 ⟨by omega, by omega⟩ ⟨by omega, by omega⟩ dX0_leaveMarks_7 (by decide) (fun h7 => ?_) (fun h7 => ?_)
      · skip
        exact r_retv (pc := 101) C (by rw [show i = (σ 8 7).toNat by omega]) dX0_leaveMarks_101
      · skip
        refine r_aload_n (pc := 10) C dX0_leaveMarks_10 rfl 0 rfl ?_
        refine r_getR0 (pc := 11) C 3 (k' := 12) rfl O_8 (by decide) rfl t_109 dX0_leaveMarks_11 ?_
        refine r_iload_n (pc := 14) C dX0_leaveMarks_14 rfl 1 rfl ?_
        have ha := hA i (by omega)
        refine r_iald (pc := 15) C i A_12 (by omega) (by omega) dX0_leaveMarks_15 ?_
        refine r_top (us_o2 _ _ _ (by omega)) ?_
        refine r_istore_n (pc := 16) C dX0_leaveMarks_16 rfl (by decide) [1, 2, 0] (lv' := [(0, .ref (gA g 8)), (1, .int (iI ((i : Int)))), (2, .int (iI (σ 12 i)))]) rfl ?_
        refine r_iconst (pc := 17) C dX0_leaveMarks_17 ?_
        refine r_istore_n (pc := 18) C dX0_leaveMarks_18 rfl (by decide) [1, 2, 3, 0] (lv' := [(0, .ref (gA g 8)), (1, .int (iI ((i : Int)))), (2, .int (iI (σ 12 i))), (3, .int (iI (0)))]) rfl ?_
        have L19 : ∀ (n_ : Nat) (o : Nat) (x19_3 : Int) (s19 : Sg), (σ 8 7).toNat - o < n_ → ((o : Int) ≤ σ 8 7) → x19_3 = (o : Int) → s19 = (us σ 14 (mkI i (σ 12 i).toNat (leav (σ 11 i) (σ 9 (σ 12 i).toNat) (σ 13 i)) (mkT (σ 8 7).toNat (σ 11) (σ 12) (σ 9) (σ 13) (σ 14) i) o)) → J g E (pV (us σ 14 (mkT (σ 8 7).toNat (σ 11) (σ 12) (σ 9) (σ 13) (σ 14) (σ 8 7).toNat))) 5 19 [(0, .ref (gA g 8)), (1, .int (iI ((i : Int)))), (2, .int (iI (σ 12 i))), (3, .int (iI (x19_3)))] [] s19 := by
          intro n_
          induction n_ with
          | zero => intro o x19_3 s19 hm_; exact absurd hm_ (Nat.not_lt_zero _)
          | succ n_ ih19 =>
            intro o x19_3 s19 hm19 hi19_0 e19_0 es19
            subst e19_0 es19
            have hmi := mkI_rng (t := i) (leav_rng (k := σ 11 i) (d := σ 9 (σ 12 i).toNat) (hG i (by omega))).1 (show (σ 12 i).toNat < 12 by omega) hmt o (by omega)
            refine r_iload_n (pc := 19) C dX0_leaveMarks_19 rfl 3 rfl ?_
            refine r_aload_n (pc := 20) C dX0_leaveMarks_20 rfl 0 rfl ?_
            refine r_getI0 (pc := 21) C 7 rfl O_8 (by decide) rfl t_119 dX0_leaveMarks_21 ?_
            refine r_top (us_o2 _ _ _ (by omega)) ?_
            refine r_icmp_ge (pc := 24) C 95 ⟨by omega, by omega⟩ ⟨by omega, by omega⟩ dX0_leaveMarks_24 (by decide) (fun h24 => ?_) (fun h24 => ?_)
            · skip
              refine r_iinc (pc := 95) C dX0_leaveMarks_95 1 rfl (by decide) [1, 0, 2, 3] (lv' := [(0, .ref (gA g 8)), (1, .int (iI ((i : Int) + 1))), (2, .int (iI (σ 12 i))), (3, .int (iI ((o : Int))))]) rfl ?_
              refine r_goto (pc := 98) C 2 dX0_leaveMarks_98 (by decide) ?_
              refine r_lv [0, 1] (lv' := [(0, .ref (gA g 8)), (1, .int (iI ((i : Int) + 1)))]) rfl ?_
              exact ih2 (i + 1) _ _ (by omega) (by omega) (by omega) (by rw [show o = (σ 8 7).toNat by omega]; rfl)
            · skip
              have hm1 := hmi (12 * o + (σ 12 i).toNat) (by omega)
              have hl := leav_rng (k := σ 11 i) (d := σ 9 (σ 12 i).toNat) (hG i (by omega))
              refine r_iload_n (pc := 27) C dX0_leaveMarks_27 rfl 3 rfl ?_
              refine r_bipush (pc := 28) C dX0_leaveMarks_28 (by decide) ?_
              refine r_imul (pc := 30) C dX0_leaveMarks_30 ?_
              refine r_iload_n (pc := 31) C dX0_leaveMarks_31 rfl 2 rfl ?_
              refine r_iadd (pc := 32) C dX0_leaveMarks_32 ?_
              refine r_istore (pc := 33) C dX0_leaveMarks_33 (by decide) [1, 2, 3, 4, 0] (lv' := [(0, .ref (gA g 8)), (1, .int (iI ((i : Int)))), (2, .int (iI (σ 12 i))), (3, .int (iI ((o : Int)))), (4, .int (iI (((o : Int) * 12) + (σ 12 i))))]) rfl ?_
              refine r_iload_n (pc := 35) C dX0_leaveMarks_35 rfl 3 rfl ?_
              refine r_iload_n (pc := 36) C dX0_leaveMarks_36 rfl 1 rfl ?_
              refine r_icmp_ne (pc := 37) C 68 ⟨by omega, by omega⟩ ⟨by omega, by omega⟩ dX0_leaveMarks_37 (by decide) (fun h37 => ?_) (fun h37 => ?_)
              · skip
                refine r_aload_n (pc := 68) C dX0_leaveMarks_68 rfl 0 rfl ?_
                refine r_getR0 (pc := 69) C 5 (k' := 14) rfl O_8 (by decide) rfl t_114 dX0_leaveMarks_69 ?_
                refine r_iload (pc := 72) C dX0_leaveMarks_72 4 rfl ?_
                refine r_iald (pc := 74) C (12 * o + (σ 12 i).toNat) A_14 (by omega) (by omega) dX0_leaveMarks_74 ?_
                refine r_top (us_s2 _ _ _ _) ?_
                refine r_if_le (pc := 75) C 89 ⟨by omega, by omega⟩ dX0_leaveMarks_75 (by decide) (fun h75 => ?_) (fun h75 => ?_)
                · skip
                  refine r_iinc (pc := 89) C dX0_leaveMarks_89 3 rfl (by decide) [1, 2, 3, 0, 4] (lv' := [(0, .ref (gA g 8)), (1, .int (iI ((i : Int)))), (2, .int (iI (σ 12 i))), (3, .int (iI ((o : Int) + 1))), (4, .int (iI (((o : Int) * 12) + (σ 12 i))))]) rfl ?_
                  refine r_goto (pc := 92) C 19 dX0_leaveMarks_92 (by decide) ?_
                  refine r_lv [0, 1, 2, 3] (lv' := [(0, .ref (gA g 8)), (1, .int (iI ((i : Int)))), (2, .int (iI (σ 12 i))), (3, .int (iI ((o : Int) + 1)))]) rfl ?_
                  exact ih19 (o + 1) _ _ (by omega) (by omega) (by omega) (by first | (rw [wr_us, mkI, mk1, if_pos (by omega)]; done) | (rw [wr_us, mkI, mk1, if_neg (by omega), if_pos (by omega)]; done) | (rw [mkI, mk1, if_neg (by omega), if_neg (by omega), up_id]))
                · skip
                  refine r_aload_n (pc := 78) C dX0_leaveMarks_78 rfl 0 rfl ?_
                  refine r_getR0 (pc := 79) C 5 (k' := 14) rfl O_8 (by decide) rfl t_114 dX0_leaveMarks_79 ?_
                  refine r_iload (pc := 82) C dX0_leaveMarks_82 4 rfl ?_
                  refine r_dup2 (pc := 84) C rfl rfl dX0_leaveMarks_84 ?_
                  refine r_iald (pc := 85) C (12 * o + (σ 12 i).toNat) A_14 (by omega) (by omega) dX0_leaveMarks_85 ?_
                  refine r_top (us_s2 _ _ _ _) ?_
                  refine r_iconst (pc := 86) C dX0_leaveMarks_86 ?_
                  refine r_isub (pc := 87) C dX0_leaveMarks_87 ?_
                  refine r_iast (pc := 88) C (12 * o + (σ 12 i).toNat) A_14 (by omega) (by omega) dX0_leaveMarks_88 ?_
                  refine r_iinc (pc := 89) C dX0_leaveMarks_89 3 rfl (by decide) [1, 2, 3, 0, 4] (lv' := [(0, .ref (gA g 8)), (1, .int (iI ((i : Int)))), (2, .int (iI (σ 12 i))), (3, .int (iI ((o : Int) + 1))), (4, .int (iI (((o : Int) * 12) + (σ 12 i))))]) rfl ?_
                  refine r_goto (pc := 92) C 19 dX0_leaveMarks_92 (by decide) ?_
                  refine r_lv [0, 1, 2, 3] (lv' := [(0, .ref (gA g 8)), (1, .int (iI ((i : Int)))), (2, .int (iI (σ 12 i))), (3, .int (iI ((o : Int) + 1)))]) rfl ?_
                  exact ih19 (o + 1) _ _ (by omega) (by omega) (by omega) (by first | (rw [wr_us, mkI, mk1, if_pos (by omega)]; done) | (rw [wr_us, mkI, mk1, if_neg (by omega), if_pos (by omega)]; done) | (rw [mkI, mk1, if_neg (by omega), if_neg (by omega), up_id]))
              · skip
                refine r_aload_n (pc := 40) C dX0_leaveMarks_40 rfl 0 rfl ?_
                refine r_getR0 (pc := 41) C 5 (k' := 14) rfl O_8 (by decide) rfl t_114 dX0_leaveMarks_41 ?_
                refine r_iload (pc := 44) C dX0_leaveMarks_44 4 rfl ?_
                refine r_bipush (pc := 46) C dX0_leaveMarks_46 (by decide) ?_
                refine r_aload_n (pc := 48) C dX0_leaveMarks_48 rfl 0 rfl ?_
                refine r_getR0 (pc := 49) C 5 (k' := 14) rfl O_8 (by decide) rfl t_114 dX0_leaveMarks_49 ?_
                refine r_iload (pc := 52) C dX0_leaveMarks_52 4 rfl ?_
                refine r_iald (pc := 54) C (12 * o + (σ 12 i).toNat) A_14 (by omega) (by omega) dX0_leaveMarks_54 ?_
                refine r_top (us_s2 _ _ _ _) ?_
                refine r_aload_n (pc := 55) C dX0_leaveMarks_55 rfl 0 rfl ?_
                refine r_iload_n (pc := 56) C dX0_leaveMarks_56 rfl 1 rfl ?_
                refine r_cVi (pc := 57) C (c_leavesOf_8 g i (by omega) (us σ 14 (mkI i (σ 12 i).toNat (leav (σ 11 i) (σ 9 (σ 12 i).toNat) (σ 13 i)) (mkT (σ 8 7).toNat (σ 11) (σ 12) (σ 9) (σ 13) (σ 14) i) o)) hD hK hA hG) yX0_leavesOf_w O_8 rfl rfl t_384 ⟨by decide, by decide⟩ (Nat.le_of_ble_eq_true rfl) rfl dX0_leaveMarks_57 ?_
                refine r_top (show _ = leav (σ 11 i) ((σ 9) (σ 12 i).toNat) (σ 13 i) from rfl) ?_
                refine r_iadd (pc := 60) C dX0_leaveMarks_60 ?_
                refine r_min (pc := 61) C ⟨by omega, by omega⟩ ⟨by omega, by omega⟩ (by decide) (Nat.le_of_ble_eq_true rfl) t_347 dX0_leaveMarks_61 ?_
                refine r_iast (pc := 64) C (12 * o + (σ 12 i).toNat) A_14 (by omega) (by omega) dX0_leaveMarks_64 ?_
                refine r_goto (pc := 65) C 89 dX0_leaveMarks_65 (by decide) ?_
                refine r_iinc (pc := 89) C dX0_leaveMarks_89 3 rfl (by decide) [1, 2, 3, 0, 4] (lv' := [(0, .ref (gA g 8)), (1, .int (iI ((i : Int)))), (2, .int (iI (σ 12 i))), (3, .int (iI ((o : Int) + 1))), (4, .int (iI (((o : Int) * 12) + (σ 12 i))))]) rfl ?_
                refine r_goto (pc := 92) C 19 dX0_leaveMarks_92 (by decide) ?_
                refine r_lv [0, 1, 2, 3] (lv' := [(0, .ref (gA g 8)), (1, .int (iI ((i : Int)))), (2, .int (iI (σ 12 i))), (3, .int (iI ((o : Int) + 1)))]) rfl ?_
                exact ih19 (o + 1) _ _ (by omega) (by omega) (by omega) (by first | (rw [wr_us, mkI, mk1, if_pos (by omega)]; done) | (rw [wr_us, mkI, mk1, if_neg (by omega), if_pos (by omega)]; done) | (rw [mkI, mk1, if_neg (by omega), if_neg (by omega), up_id]))
        exact L19 _ 0 _ _ (Nat.lt_succ_self _) (by omega) (rfl) (rfl)
  exact L2 _ 0 _ _ (Nat.lt_succ_self _) (by omega) (rfl) ((us_id σ 14).symm)
set_option maxHeartbeats 4000000 in
set_option maxRecDepth 100000 in
theorem c_payRents_8 (g : Gt) (σ : Sg) (hn : 0 ≤ σ 8 7 ∧ σ 8 7 ≤ 8) (hD : rgD (σ 9)) (hG : rgG (σ 13)) (hM : rgM (σ 14)) : Mt g yX0_payRents cX0_payRents 3 none 1 [.ref (gA g 8)] σ (pV (us σ 13 (rnF (σ 8 7) (σ 14) (σ 9) (σ 13) 12))) := by
  refine mt_of (own := RX0) (by decide) rfl (Nat.le_of_ble_eq_true rfl) (fun E C => ?_)
  show J g E (pV (us σ 13 (rnF (σ 8 7) (σ 14) (σ 9) (σ 13) 12))) 3 0 [(0, .ref (gA g 8))] [] σ
  refine r_iconst (pc := 0) C dX0_payRents_0 ?_
  refine r_istore_n (pc := 1) C dX0_payRents_1 rfl (by decide) [1, 0] (lv' := [(0, .ref (gA g 8)), (1, .int (iI (0)))]) rfl ?_
  have L2 : ∀ (n_ : Nat) (i : Nat) (x2_1 : Int) (s2 : Sg), 12 - i < n_ → (i ≤ 12) → x2_1 = (i : Int) → s2 = (us σ 13 (rnF (σ 8 7) (σ 14) (σ 9) (σ 13) i)) → J g E (pV (us σ 13 (rnF (σ 8 7) (σ 14) (σ 9) (σ 13) 12))) 3 2 [(0, .ref (gA g 8)), (1, .int (iI (x2_1)))] [] s2 := by
    intro n_
    induction n_ with
    | zero => intro i x2_1 s2 hm_; exact absurd hm_ (Nat.not_lt_zero _)
    | succ n_ ih2 =>
      intro i x2_1 s2 hm2 hi2_0 e2_0 es2
      subst e2_0 es2
      have hrn := rnF_rng (M := σ 14) hn hD hG i (by omega)
      have hh := holder_rng (σ 8 7) (σ 14) i hn.1
      refine r_iload_n (pc := 2) C dX0_payRents_2 rfl 1 rfl ?_
      refine r_bipush (pc := 3) C dX0_payRents_3 (by decide) ?_
      refine r_icmp_ge (pc := 5) C 39 ⟨by omega, by omega⟩ ⟨by omega, by omega⟩ dX0_payRents_5 (by decide) (fun h5 => ?_) (fun h5 => ?_)
      · skip
        exact r_retv (pc := 39) C (by rw [show i = 12 by omega]) dX0_payRents_39
      · skip
        refine r_aload_n (pc := 8) C dX0_payRents_8 rfl 0 rfl ?_
        refine r_iload_n (pc := 9) C dX0_payRents_9 rfl 1 rfl ?_
        refine r_cVi (pc := 10) C (c_holderOf_8 g i (by omega) (us σ 13 (rnF (σ 8 7) (σ 14) (σ 9) (σ 13) i)) hn hM) yX0_holderOf_w O_8 rfl rfl t_272 ⟨by decide, by decide⟩ (Nat.le_of_ble_eq_true rfl) rfl dX0_payRents_10 ?_
        refine r_top (show _ = holder (σ 8 7) (σ 14) i from rfl) ?_
        refine r_istore_n (pc := 13) C dX0_payRents_13 rfl (by decide) [1, 2, 0] (lv' := [(0, .ref (gA g 8)), (1, .int (iI ((i : Int)))), (2, .int (iI (holder (σ 8 7) (σ 14) i)))]) rfl ?_
        refine r_iload_n (pc := 14) C dX0_payRents_14 rfl 2 rfl ?_
        refine r_iconst (pc := 15) C dX0_payRents_15 ?_
        refine r_icmp_eq (pc := 16) C 33 ⟨by omega, by omega⟩ ⟨by omega, by omega⟩ dX0_payRents_16 (by decide) (fun h16 => ?_) (fun h16 => ?_)
        · skip
          refine r_iinc (pc := 33) C dX0_payRents_33 1 rfl (by decide) [1, 0, 2] (lv' := [(0, .ref (gA g 8)), (1, .int (iI ((i : Int) + 1))), (2, .int (iI (holder (σ 8 7) (σ 14) i)))]) rfl ?_
          refine r_goto (pc := 36) C 2 dX0_payRents_36 (by decide) ?_
          refine r_lv [0, 1] (lv' := [(0, .ref (gA g 8)), (1, .int (iI ((i : Int) + 1)))]) rfl ?_
          exact ih2 (i + 1) _ _ (by omega) (by omega) (by omega) (by first | (rw [rnF, if_pos (by assumption)]; done) | (rw [rnF, if_neg (by assumption)]; exact wr_us _ _ _ _ _))
        · skip
          refine r_aload_n (pc := 19) C dX0_payRents_19 rfl 0 rfl ?_
          refine r_iload_n (pc := 20) C dX0_payRents_20 rfl 2 rfl ?_
          refine r_aload_n (pc := 21) C dX0_payRents_21 rfl 0 rfl ?_
          refine r_getR0 (pc := 22) C 0 (k' := 9) rfl O_8 (by decide) rfl t_103 dX0_payRents_22 ?_
          refine r_iload_n (pc := 25) C dX0_payRents_25 rfl 1 rfl ?_
          have hd := hD i (by omega)
          refine r_iald (pc := 26) C i A_9 (by omega) (by omega) dX0_payRents_26 ?_
          refine r_top (us_o2 _ _ _ (by omega)) ?_
          refine r_bipush (pc := 27) C dX0_payRents_27 (by decide) ?_
          refine r_idiv (pc := 29) C (by omega) (by omega) (by omega) (by omega) dX0_payRents_29 ?_
          refine r_cVv (pc := 30) C (c_gain_8 g ((holder (σ 8 7) (σ 14) i).toNat) (by omega) ((σ 9 i) / 20) ⟨by omega, by omega⟩ (us σ 13 (rnF (σ 8 7) (σ 14) (σ 9) (σ 13) i)) hrn) yX0_gain_w O_8 rfl rfl t_375 ⟨by decide, by decide⟩ (Nat.le_of_ble_eq_true rfl) (by rw [show (((holder (σ 8 7) (σ 14) i).toNat : Nat) : Int) = holder (σ 8 7) (σ 14) i by omega]; rfl) dX0_payRents_30 ?_
          refine r_iinc (pc := 33) C dX0_payRents_33 1 rfl (by decide) [1, 0, 2] (lv' := [(0, .ref (gA g 8)), (1, .int (iI ((i : Int) + 1))), (2, .int (iI (holder (σ 8 7) (σ 14) i)))]) rfl ?_
          refine r_goto (pc := 36) C 2 dX0_payRents_36 (by decide) ?_
          refine r_lv [0, 1] (lv' := [(0, .ref (gA g 8)), (1, .int (iI ((i : Int) + 1)))]) rfl ?_
          exact ih2 (i + 1) _ _ (by omega) (by omega) (by omega) (by first | (rw [rnF, if_pos (by assumption)]; done) | (rw [rnF, if_neg (by assumption)]; exact wr_us _ _ _ _ _))
  exact L2 _ 0 _ _ (Nat.lt_succ_self _) (by omega) (rfl) ((us_id σ 13).symm)
def lmS_8 (σ : Sg) : Sg := us σ 14 (mkT (σ 8 7).toNat (σ 11) (σ 12) (σ 9) (σ 13) (σ 14) (σ 8 7).toNat)
def prS_8 (σ : Sg) : Sg := us σ 13 (rnF (σ 8 7) (σ 14) (σ 9) (σ 13) 12)
def dyS_8 (σ : Sg) : Sg := wr (prS_8 (lmS_8 (setS_8 255 σ))) 8 10 (min 99999 (σ 8 10 + 1))
theorem setS_rng_8 {m : Int} {σ : Sg} (hn : 0 ≤ σ 8 7 ∧ σ 8 7 ≤ 8) (hfl : 0 ≤ σ 8 8 ∧ σ 8 8 ≤ 99) (hD : rgD (σ 9)) (hA : rgA (σ 12)) (hG : rgG (σ 13)) : rgD (setS_8 m σ 9) ∧ rgG (setS_8 m σ 13) :=
  swF_rng (K := σ 11) (m := m) (q := (dyD (σ 8 9) (σ 8 8) (σ 9), σ 13)) hA (dyD_rng hfl hD) hG (σ 8 7).toNat (by omega)
theorem lmS_rng_8 {σ : Sg} (hn : 0 ≤ σ 8 7 ∧ σ 8 7 ≤ 8) (hA : rgA (σ 12)) (hG : rgG (σ 13)) (hM : rgM (σ 14)) : rgM (lmS_8 σ 14) := mkT_rng (n := (σ 8 7).toNat) (K := σ 11) (D := σ 9) (by omega) hA hG hM (σ 8 7).toNat (by omega)
theorem prS_rng_8 {σ : Sg} (hn : 0 ≤ σ 8 7 ∧ σ 8 7 ≤ 8) (hD : rgD (σ 9)) (hG : rgG (σ 13)) : rgG (prS_8 σ 13) := rnF_rng (M := σ 14) hn hD hG 12 (by omega)
set_option maxHeartbeats 4000000 in
set_option maxRecDepth 100000 in
theorem c_passDay_8 (g : Gt) (σ : Sg) (hW : RW σ 8) : Mt g yX0_passDay cX0_passDay 1 none 3 [.ref (gA g 8)] σ (pV (dyS_8 σ)) := by
  obtain ⟨hn, hfl, hw, hdy, hz, hD, hK, hA, hG, hM, hP⟩ := id hW
  have h1 := setS_rng_8 (m := 255) (σ := σ) hn hfl hD hA hG
  have h2 := lmS_rng_8 (σ := setS_8 255 σ) hn hA h1.2 hM
  have h3 := prS_rng_8 (σ := lmS_8 (setS_8 255 σ)) hn h1.1 h1.2
  refine mt_of (own := RX0) (by decide) rfl (Nat.le_of_ble_eq_true rfl) (fun E C => ?_)
  show J g E (pV (dyS_8 σ)) 1 0 [(0, .ref (gA g 8))] [] σ
  refine r_aload_n (pc := 0) C dX0_passDay_0 rfl 0 rfl ?_
  refine r_sipush (pc := 1) C dX0_passDay_1 (by decide) ?_
  refine r_cVv (pc := 4) C (c_settle_8 g 255 ⟨by omega, by omega⟩ σ hn hfl hw hD hK hA hG) yX0_settle_w O_8 rfl rfl t_362 ⟨by decide, by decide⟩ (Nat.le_of_ble_eq_true rfl) rfl dX0_passDay_4 ?_
  refine r_aload_n (pc := 7) C dX0_passDay_7 rfl 0 rfl ?_
  refine r_cVv (pc := 8) C (c_leaveMarks_8 g (setS_8 255 σ) hn h1.1 hK hA h1.2 hM) yX0_leaveMarks_w O_8 rfl rfl t_380 ⟨by decide, by decide⟩ (Nat.le_of_ble_eq_true rfl) rfl dX0_passDay_8 ?_
  refine r_aload_n (pc := 11) C dX0_passDay_11 rfl 0 rfl ?_
  refine r_cVv (pc := 12) C (c_payRents_8 g (lmS_8 (setS_8 255 σ)) hn h1.1 h1.2 h2) yX0_payRents_w O_8 rfl rfl t_385 ⟨by decide, by decide⟩ (Nat.le_of_ble_eq_true rfl) rfl dX0_passDay_12 ?_
  refine r_aload_n (pc := 15) C dX0_passDay_15 rfl 0 rfl ?_
  refine r_ldc (pc := 16) C 99999 t_379 (by decide) dX0_passDay_16 ?_
  refine r_aload_n (pc := 18) C dX0_passDay_18 rfl 0 rfl ?_
  refine r_getI0 (pc := 19) C 10 rfl O_8 (by decide) rfl t_128 dX0_passDay_19 ?_
  refine r_top (show (prS_8 (lmS_8 (setS_8 255 σ))) 8 10 = σ 8 10 from rfl) ?_
  refine r_iconst (pc := 22) C dX0_passDay_22 ?_
  refine r_iadd (pc := 23) C dX0_passDay_23 ?_
  refine r_min (pc := 24) C ⟨by omega, by omega⟩ ⟨by omega, by omega⟩ (by decide) (Nat.le_of_ble_eq_true rfl) t_347 dX0_passDay_24 ?_
  refine r_put0 (pc := 27) C 10 rfl O_8 (by decide) rfl t_128 rfl (by decide +kernel) dX0_passDay_27 ?_
  exact r_retv (pc := 30) C (rfl) dX0_passDay_30
theorem dyS_RW_8 {σ : Sg} (hW : RW σ 8) : RW (dyS_8 σ) 8 := by
  obtain ⟨hn, hfl, hw, hdy, hz, hD, hK, hA, hG, hM, hP⟩ := id hW
  have h1 := setS_rng_8 (m := 255) (σ := σ) hn hfl hD hA hG
  have h2 := lmS_rng_8 (σ := setS_8 255 σ) hn hA h1.2 hM
  have h3 := prS_rng_8 (σ := lmS_8 (setS_8 255 σ)) hn h1.1 h1.2
  refine ⟨hn, hfl, hw, ?_, hz, h1.1, hK, hA, h3, h2, hP⟩
  show 0 ≤ min 99999 (σ 8 10 + 1) ∧ min 99999 (σ 8 10 + 1) ≤ 99999
  omega
def dsS_8 : Nat → Sg → Sg
  | 0, σ => σ
  | k + 1, σ => dyS_8 (dsS_8 k σ)
theorem dsS_RW_8 {σ : Sg} (hW : RW σ 8) : ∀ k, RW (dsS_8 k σ) 8
  | 0 => hW
  | k + 1 => dyS_RW_8 (dsS_RW_8 hW k)
set_option maxHeartbeats 4000000 in
set_option maxRecDepth 100000 in
theorem c_passDays_8 (g : Gt) (n : Nat) (hn : n ≤ 60) (σ : Sg) (hW : RW σ 8) : Mt g yX0_passDays cX0_passDays 3 none 4 [.ref (gA g 8), .int (iI ((n : Int)))] σ (pV (dsS_8 n σ)) := by
  refine mt_of (own := RX0) (by decide) rfl (Nat.le_of_ble_eq_true rfl) (fun E C => ?_)
  show J g E (pV (dsS_8 n σ)) 3 0 [(0, .ref (gA g 8)), (1, .int (iI ((n : Int))))] [] σ
  refine r_iconst (pc := 0) C dX0_passDays_0 ?_
  refine r_istore_n (pc := 1) C dX0_passDays_1 rfl (by decide) [1, 2, 0] (lv' := [(0, .ref (gA g 8)), (1, .int (iI ((n : Int)))), (2, .int (iI (0)))]) rfl ?_
  have L2 : ∀ (n_ : Nat) (i : Nat) (x2_2 : Int) (s2 : Sg), n - i < n_ → (i ≤ n) → x2_2 = (i : Int) → s2 = dsS_8 i σ → J g E (pV (dsS_8 n σ)) 3 2 [(0, .ref (gA g 8)), (1, .int (iI ((n : Int)))), (2, .int (iI (x2_2)))] [] s2 := by
    intro n_
    induction n_ with
    | zero => intro i x2_2 s2 hm_; exact absurd hm_ (Nat.not_lt_zero _)
    | succ n_ ih2 =>
      intro i x2_2 s2 hm2 hi2_0 e2_0 es2
      subst e2_0 es2
      have hWi := dsS_RW_8 hW i
      refine r_iload_n (pc := 2) C dX0_passDays_2 rfl 2 rfl ?_
      refine r_iload_n (pc := 3) C dX0_passDays_3 rfl 1 rfl ?_
      refine r_icmp_ge (pc := 4) C 17 ⟨by omega, by omega⟩ ⟨by omega, by omega⟩ dX0_passDays_4 (by decide) (fun h4 => ?_) (fun h4 => ?_)
      · skip
        exact r_retv (pc := 17) C (by rw [show i = n by omega]) dX0_passDays_17
      · skip
        refine r_aload_n (pc := 7) C dX0_passDays_7 rfl 0 rfl ?_
        refine r_cVv (pc := 8) C (c_passDay_8 g (dsS_8 i σ) hWi) yX0_passDay_w O_8 rfl rfl t_358 ⟨by decide, by decide⟩ (Nat.le_of_ble_eq_true rfl) rfl dX0_passDays_8 ?_
        refine r_iinc (pc := 11) C dX0_passDays_11 2 rfl (by decide) [1, 2, 0] (lv' := [(0, .ref (gA g 8)), (1, .int (iI ((n : Int)))), (2, .int (iI ((i : Int) + 1)))]) rfl ?_
        refine r_goto (pc := 14) C 2 dX0_passDays_14 (by decide) ?_
        exact ih2 (i + 1) _ _ (by omega) (by omega) (by omega) (rfl)
  exact L2 _ 0 _ _ (Nat.lt_succ_self _) (by omega) (rfl) (rfl)
def stS_8 (m : Int) : Nat → Sg → Sg
  | 0, σ => σ
  | k + 1, σ => setS_8 m (stS_8 m k σ)
theorem setS_RW_8 {m : Int} {σ : Sg} (hW : RW σ 8) : RW (setS_8 m σ) 8 := by
  obtain ⟨hn, hfl, hw, hdy, hz, hD, hK, hA, hG, hM, hP⟩ := id hW
  have h1 := setS_rng_8 (m := m) (σ := σ) hn hfl hD hA hG
  exact ⟨hn, hfl, hw, hdy, hz, h1.1, hK, hA, h1.2, hM, hP⟩
theorem stS_RW_8 {m : Int} {σ : Sg} (hW : RW σ 8) : ∀ k, RW (stS_8 m k σ) 8
  | 0 => hW
  | k + 1 => setS_RW_8 (stS_RW_8 hW k)
set_option maxHeartbeats 4000000 in
set_option maxRecDepth 100000 in
theorem c_settleDays_8 (g : Gt) (n : Nat) (hn : n ≤ 60) (m : Int) (hm : rng m) (σ : Sg) (hW : RW σ 8) : Mt g yX0_settleDays cX0_settleDays 4 none 3 [.ref (gA g 8), .int (iI ((n : Int))), .int (iI (m))] σ (pV (stS_8 m n σ)) := by
  refine mt_of (own := RX0) (by decide) rfl (Nat.le_of_ble_eq_true rfl) (fun E C => ?_)
  show J g E (pV (stS_8 m n σ)) 4 0 [(0, .ref (gA g 8)), (1, .int (iI ((n : Int)))), (2, .int (iI (m)))] [] σ
  refine r_iconst (pc := 0) C dX0_settleDays_0 ?_
  refine r_istore_n (pc := 1) C dX0_settleDays_1 rfl (by decide) [1, 2, 3, 0] (lv' := [(0, .ref (gA g 8)), (1, .int (iI ((n : Int)))), (2, .int (iI (m))), (3, .int (iI (0)))]) rfl ?_
  have L2 : ∀ (n_ : Nat) (i : Nat) (x2_3 : Int) (s2 : Sg), n - i < n_ → (i ≤ n) → x2_3 = (i : Int) → s2 = stS_8 m i σ → J g E (pV (stS_8 m n σ)) 4 2 [(0, .ref (gA g 8)), (1, .int (iI ((n : Int)))), (2, .int (iI (m))), (3, .int (iI (x2_3)))] [] s2 := by
    intro n_
    induction n_ with
    | zero => intro i x2_3 s2 hm_; exact absurd hm_ (Nat.not_lt_zero _)
    | succ n_ ih2 =>
      intro i x2_3 s2 hm2 hi2_0 e2_0 es2
      subst e2_0 es2
      have hWi := stS_RW_8 (m := m) hW i
      obtain ⟨hn_, hfl_, hw_, hdy_, hz_, hD_, hK_, hA_, hG_, hM_, hP_⟩ := hWi
      refine r_iload_n (pc := 2) C dX0_settleDays_2 rfl 3 rfl ?_
      refine r_iload_n (pc := 3) C dX0_settleDays_3 rfl 1 rfl ?_
      refine r_icmp_ge (pc := 4) C 18 ⟨by omega, by omega⟩ ⟨by omega, by omega⟩ dX0_settleDays_4 (by decide) (fun h4 => ?_) (fun h4 => ?_)
      · skip
        exact r_retv (pc := 18) C (by rw [show i = n by omega]) dX0_settleDays_18
      · skip
        refine r_aload_n (pc := 7) C dX0_settleDays_7 rfl 0 rfl ?_
        refine r_iload_n (pc := 8) C dX0_settleDays_8 rfl 2 rfl ?_
        refine r_cVv (pc := 9) C (c_settle_8 g m hm (stS_8 m i σ) hn_ hfl_ hw_ hD_ hK_ hA_ hG_) yX0_settle_w O_8 rfl rfl t_362 ⟨by decide, by decide⟩ (Nat.le_of_ble_eq_true rfl) rfl dX0_settleDays_9 ?_
        refine r_iinc (pc := 12) C dX0_settleDays_12 3 rfl (by decide) [1, 2, 3, 0] (lv' := [(0, .ref (gA g 8)), (1, .int (iI ((n : Int)))), (2, .int (iI (m))), (3, .int (iI ((i : Int) + 1)))]) rfl ?_
        refine r_goto (pc := 15) C 2 dX0_settleDays_15 (by decide) ?_
        exact ih2 (i + 1) _ _ (by omega) (by omega) (by omega) (rfl)
  exact L2 _ 0 _ _ (Nat.lt_succ_self _) (by omega) (rfl) (rfl)
