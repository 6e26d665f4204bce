theorem ad8_cm (kd : Int) (f : Nat) (σ : Sg) (e : Int) : adS_8 kd f (wr σ 26 4 e) = wr (adS_8 kd f σ) 26 4 e := by
  funext k
  by_cases h : k = 26
  · subst h
    rfl
  · rw [wr_n _ _ _ h]
    by_cases h1 : k = 8
    · subst h1
      rfl
    · by_cases h2 : k = 11
      · subst h2
        rfl
      · by_cases h3 : k = 12
        · subst h3
          rfl
        · by_cases h4 : k = 13
          · subst h4
            rfl
          · by_cases h5 : k = 14
            · subst h5
              rfl
            · unfold adS_8
              rw [wr_n _ _ _ h1, us_n _ _ h5, wr_n _ _ _ h4, wr_n _ _ _ h3, wr_n _ _ _ h2, wr_n _ _ _ h, wr_n _ _ _ h1, us_n _ _ h5, wr_n _ _ _ h4, wr_n _ _ _ h3, wr_n _ _ _ h2]
def itT (b : Nat) (ad : Int → Nat → Sg → Sg) (ty vl : Nat → Int) (k : Nat) (kd : Int) (τ : Sg) : It :=
  if 8 ≤ τ b 7 then (false, k, τ)
  else if (bhN ty vl (k + 1) 10 11).1 = -1 then (false, (bhN ty vl (k + 1) 10 11).2, τ)
  else if (bhN ty vl (bhN ty vl (k + 1) 10 11).2 11 9999).1 = -1 then (false, (bhN ty vl (bhN ty vl (k + 1) 10 11).2 11 9999).2, τ)
  else if (bhN ty vl (bhN ty vl (bhN ty vl (k + 1) 10 11).2 11 9999).2 12 99).1 = -1 then (false, (bhN ty vl (bhN ty vl (bhN ty vl (k + 1) 10 11).2 11 9999).2 12 99).2, τ)
  else (true, (bhN ty vl (bhN ty vl (bhN ty vl (k + 1) 10 11).2 11 9999).2 12 99).2, wr (wr (ad kd (bhN ty vl (k + 1) 10 11).1.toNat τ) (b + 5) (τ b 7).toNat (bhN ty vl (bhN ty vl (k + 1) 10 11).2 11 9999).1) (b + 6) (12 * (τ b 7).toNat + (bhN ty vl (k + 1) 10 11).1.toNat) (bhN ty vl (bhN ty vl (bhN ty vl (k + 1) 10 11).2 11 9999).2 12 99).1)
def itm (b : Nat) (ad : Int → Nat → Sg → Sg) (ty vl : Nat → Int) (k : Nat) (τ : Sg) : It :=
  if ty k = 1 ∧ 0 ≤ vl k ∧ vl k < 7 then itT b ad ty vl k (vl k) τ
  else if ty k = 1 ∧ vl k = 7 then itD b ty vl k τ
  else if ty k = 1 ∧ vl k = 8 then itF b ty vl k τ
  else if ty k = 1 ∧ vl k = 9 then itW b ty vl k τ
  else (false, k, τ)
set_option maxHeartbeats 4000000 in
set_option maxRecDepth 100000 in
theorem c_readTenant (g : Gt) (ty vl : Nat → Int) (K k : Nat) (hT : TkK ty vl K) (hk : k ≤ K) (kd : Int) (σ : Sg) (h : σ 26 4 = (k : Int)) (h27 : σ 27 = ty) (h29 : σ 29 = vl) (hty : ty k = 1) (hn : 0 ≤ σ 8 7 ∧ σ 8 7 ≤ 8) : Mt g yX3_readTenant cX3_readTenant 7 (some FieldType.boolean) 2 [.ref (gA g 26), .ref (gA g 8), .int (iI (kd))] σ (pI (b01 ((itT 8 adS_8 ty vl k kd σ).1 = true)) (wr (itT 8 adS_8 ty vl k kd σ).2.2 26 4 (((itT 8 adS_8 ty vl k kd σ).2.1 : Nat) : Int))) := by
  have ht := hT.2.2.1 k hk; have hv := hT.2.2.2 k hk; have hK := hT.1
  have he : ty K = 6 := hT.2.1
  have hk1 : k + 1 ≤ K := (Nat.lt_or_eq_of_le hk).elim (fun e => e) (fun e => by rw [e] at hty; omega)
  refine mt_of (own := RX3) (by decide) rfl (Nat.le_of_ble_eq_true rfl) (fun E C => ?_)
  show J g E (pI (b01 ((itT 8 adS_8 ty vl k kd σ).1 = true)) (wr (itT 8 adS_8 ty vl k kd σ).2.2 26 4 (((itT 8 adS_8 ty vl k kd σ).2.1 : Nat) : Int))) 7 0 [(0, .ref (gA g 26)), (1, .ref (gA g 8)), (2, .int (iI (kd)))] [] σ
  refine r_aload_n (pc := 0) C dX3_readTenant_0 rfl 1 rfl ?_
  refine r_getI0 (pc := 1) C 7 rfl O_8 (by decide) rfl t_121 dX3_readTenant_1 ?_
  refine r_bipush (pc := 4) C dX3_readTenant_4 (by decide) ?_
  refine r_icmp_lt (pc := 6) C 11 ⟨by omega, by omega⟩ ⟨by omega, by omega⟩ dX3_readTenant_6 (by decide) (fun h6 => ?_) (fun h6 => ?_)
  · skip
    refine r_aload_n (pc := 11) C dX3_readTenant_11 rfl 0 rfl ?_
    refine r_dup (pc := 12) C rfl dX3_readTenant_12 ?_
    refine r_getI3 (pc := 13) C 4 rfl O_26 (by decide) rfl t_184 dX3_readTenant_13 ?_
    refine r_top (show σ 26 4 = (k : Int) from h) ?_
    refine r_iconst (pc := 16) C dX3_readTenant_16 ?_
    refine r_iadd (pc := 17) C dX3_readTenant_17 ?_
    refine r_put3 (pc := 18) C 4 rfl O_26 (by decide) rfl t_184 rfl (by decide +kernel) dX3_readTenant_18 ?_
    refine r_sg (show _ = (wr σ 26 4 (((k + 1) : Nat) : Int)) by first | rfl | (rw [wr_wr]; rfl)) ?_
    refine r_aload_n (pc := 21) C dX3_readTenant_21 rfl 0 rfl ?_
    refine r_bipush (pc := 22) C dX3_readTenant_22 (by decide) ?_
    refine r_bipush (pc := 24) C dX3_readTenant_24 (by decide) ?_
    refine r_cVi (pc := 26) C (c_bhN g ty vl K (k + 1) hT (by omega) 10 11 ⟨by decide, by decide⟩ ⟨by decide, by decide⟩ (wr σ 26 4 (((k + 1) : Nat) : Int)) (wr_s2 _ _ _ _) ((wr_n _ _ _ (by decide)).trans h27) ((wr_n _ _ _ (by decide)).trans h29)) yX3_numberBehind_w O_26 rfl rfl t_674 ⟨by decide, by decide⟩ (Nat.le_of_ble_eq_true rfl) rfl dX3_readTenant_26 ?_
    refine r_sg (wr_wr _ _ _ _ _) ?_
    have hle26 : (bhN ty vl (k + 1) 10 11).2 ≤ K := bhN_le hT (by omega)
    have hva26 := bhN_v hT (k := (k + 1)) (w := 10) (m := 11) (by omega) (by omega)
    refine r_istore_n (pc := 29) C dX3_readTenant_29 rfl (by decide) [1, 2, 3, 0] (lv' := [(0, .ref (gA g 26)), (1, .ref (gA g 8)), (2, .int (iI (kd))), (3, .int (iI ((bhN ty vl (k + 1) 10 11).1)))]) rfl ?_
    refine r_iload_n (pc := 30) C dX3_readTenant_30 rfl 3 rfl ?_
    refine r_iconst (pc := 31) C dX3_readTenant_31 ?_
    refine r_icmp_ne (pc := 32) C 37 ⟨by omega, by omega⟩ ⟨by omega, by omega⟩ dX3_readTenant_32 (by decide) (fun h32 => ?_) (fun h32 => ?_)
    · skip
      refine r_aload_n (pc := 37) C dX3_readTenant_37 rfl 0 rfl ?_
      refine r_bipush (pc := 38) C dX3_readTenant_38 (by decide) ?_
      refine r_sipush (pc := 40) C dX3_readTenant_40 (by decide) ?_
      refine r_cVi (pc := 43) C (c_bhN g ty vl K ((bhN ty vl (k + 1) 10 11).2) hT (by omega) 11 9999 ⟨by decide, by decide⟩ ⟨by decide, by decide⟩ (wr σ 26 4 (((bhN ty vl (k + 1) 10 11).2 : Nat) : Int)) (wr_s2 _ _ _ _) ((wr_n _ _ _ (by decide)).trans h27) ((wr_n _ _ _ (by decide)).trans h29)) yX3_numberBehind_w O_26 rfl rfl t_674 ⟨by decide, by decide⟩ (Nat.le_of_ble_eq_true rfl) rfl dX3_readTenant_43 ?_
      refine r_sg (wr_wr _ _ _ _ _) ?_
      have hle43 : (bhN ty vl ((bhN ty vl (k + 1) 10 11).2) 11 9999).2 ≤ K := bhN_le hT (by omega)
      have hva43 := bhN_v hT (k := ((bhN ty vl (k + 1) 10 11).2)) (w := 11) (m := 9999) (by omega) (by omega)
      refine r_istore (pc := 46) C dX3_readTenant_46 (by decide) [1, 2, 3, 4, 0] (lv' := [(0, .ref (gA g 26)), (1, .ref (gA g 8)), (2, .int (iI (kd))), (3, .int (iI ((bhN ty vl (k + 1) 10 11).1))), (4, .int (iI ((bhN ty vl ((bhN ty vl (k + 1) 10 11).2) 11 9999).1)))]) rfl ?_
      refine r_iload (pc := 48) C dX3_readTenant_48 4 rfl ?_
      refine r_iconst (pc := 50) C dX3_readTenant_50 ?_
      refine r_icmp_ne (pc := 51) C 56 ⟨by omega, by omega⟩ ⟨by omega, by omega⟩ dX3_readTenant_51 (by decide) (fun h51 => ?_) (fun h51 => ?_)
      · skip
        refine r_aload_n (pc := 56) C dX3_readTenant_56 rfl 0 rfl ?_
        refine r_bipush (pc := 57) C dX3_readTenant_57 (by decide) ?_
        refine r_bipush (pc := 59) C dX3_readTenant_59 (by decide) ?_
        refine r_cVi (pc := 61) C (c_bhN g ty vl K ((bhN ty vl ((bhN ty vl (k + 1) 10 11).2) 11 9999).2) hT (by omega) 12 99 ⟨by decide, by decide⟩ ⟨by decide, by decide⟩ (wr σ 26 4 (((bhN ty vl ((bhN ty vl (k + 1) 10 11).2) 11 9999).2 : Nat) : Int)) (wr_s2 _ _ _ _) ((wr_n _ _ _ (by decide)).trans h27) ((wr_n _ _ _ (by decide)).trans h29)) yX3_numberBehind_w O_26 rfl rfl t_674 ⟨by decide, by decide⟩ (Nat.le_of_ble_eq_true rfl) rfl dX3_readTenant_61 ?_
        refine r_sg (wr_wr _ _ _ _ _) ?_
        have hle61 : (bhN ty vl ((bhN ty vl ((bhN ty vl (k + 1) 10 11).2) 11 9999).2) 12 99).2 ≤ K := bhN_le hT (by omega)
        have hva61 := bhN_v hT (k := ((bhN ty vl ((bhN ty vl (k + 1) 10 11).2) 11 9999).2)) (w := 12) (m := 99) (by omega) (by omega)
        refine r_istore (pc := 64) C dX3_readTenant_64 (by decide) [1, 2, 3, 4, 5, 0] (lv' := [(0, .ref (gA g 26)), (1, .ref (gA g 8)), (2, .int (iI (kd))), (3, .int (iI ((bhN ty vl (k + 1) 10 11).1))), (4, .int (iI ((bhN ty vl ((bhN ty vl (k + 1) 10 11).2) 11 9999).1))), (5, .int (iI ((bhN ty vl ((bhN ty vl ((bhN ty vl (k + 1) 10 11).2) 11 9999).2) 12 99).1)))]) rfl ?_
        refine r_iload (pc := 66) C dX3_readTenant_66 5 rfl ?_
        refine r_iconst (pc := 68) C dX3_readTenant_68 ?_
        refine r_icmp_ne (pc := 69) C 74 ⟨by omega, by omega⟩ ⟨by omega, by omega⟩ dX3_readTenant_69 (by decide) (fun h69 => ?_) (fun h69 => ?_)
        · skip
          refine r_aload_n (pc := 74) C dX3_readTenant_74 rfl 1 rfl ?_
          refine r_iload_n (pc := 75) C dX3_readTenant_75 rfl 2 rfl ?_
          refine r_iload_n (pc := 76) C dX3_readTenant_76 rfl 3 rfl ?_
          refine r_cVi (pc := 77) C (c_addTenant_8 g kd (bhN ty vl (k + 1) 10 11).1.toNat (wr σ 26 4 (((bhN ty vl ((bhN ty vl ((bhN ty vl (k + 1) 10 11).2) 11 9999).2) 12 99).2 : Nat) : Int)) (show 0 ≤ σ 8 7 ∧ σ 8 7 < 8 by omega)) yX0_addTenant_w O_8 rfl rfl t_682 ⟨by decide, by decide⟩ (Nat.le_of_ble_eq_true rfl) (by rw [show ((((bhN ty vl (k + 1) 10 11).1).toNat : Nat) : Int) = (bhN ty vl (k + 1) 10 11).1 by omega]; rfl) dX3_readTenant_77 ?_
          refine r_sg (ad8_cm _ _ _ _) ?_
          refine r_top (show _ = σ 8 7 from rfl) ?_
          refine r_istore (pc := 80) C dX3_readTenant_80 (by decide) [1, 2, 3, 4, 5, 6, 0] (lv' := [(0, .ref (gA g 26)), (1, .ref (gA g 8)), (2, .int (iI (kd))), (3, .int (iI ((bhN ty vl (k + 1) 10 11).1))), (4, .int (iI ((bhN ty vl ((bhN ty vl (k + 1) 10 11).2) 11 9999).1))), (5, .int (iI ((bhN ty vl ((bhN ty vl ((bhN ty vl (k + 1) 10 11).2) 11 9999).2) 12 99).1))), (6, .int (iI (σ 8 7)))]) rfl ?_
          refine r_aload_n (pc := 82) C dX3_readTenant_82 rfl 1 rfl ?_
          refine r_getR0 (pc := 83) C 4 (k' := 13) rfl O_8 (by decide) rfl t_113 dX3_readTenant_83 ?_
          refine r_iload (pc := 86) C dX3_readTenant_86 6 rfl ?_
          refine r_iload (pc := 88) C dX3_readTenant_88 4 rfl ?_
          refine r_iast (pc := 90) C ((σ 8 7).toNat) A_13 (by omega) (by omega) dX3_readTenant_90 ?_
          refine r_aload_n (pc := 91) C dX3_readTenant_91 rfl 1 rfl ?_
          refine r_getR0 (pc := 92) C 5 (k' := 14) rfl O_8 (by decide) rfl t_116 dX3_readTenant_92 ?_
          refine r_iload (pc := 95) C dX3_readTenant_95 6 rfl ?_
          refine r_bipush (pc := 97) C dX3_readTenant_97 (by decide) ?_
          refine r_imul (pc := 99) C dX3_readTenant_99 ?_
          refine r_iload_n (pc := 100) C dX3_readTenant_100 rfl 3 rfl ?_
          refine r_iadd (pc := 101) C dX3_readTenant_101 ?_
          refine r_iload (pc := 102) C dX3_readTenant_102 5 rfl ?_
          refine r_iast (pc := 104) C (12 * (σ 8 7).toNat + (bhN ty vl (k + 1) 10 11).1.toNat) A_14 (by omega) (by omega) dX3_readTenant_104 ?_
          refine r_iconst (pc := 105) C dX3_readTenant_105 ?_
          exact r_retz (pc := 106) C (Or.inr rfl) (b01_1 (by unfold itT; (first | rw [if_pos (by omega)] | rw [if_neg (by omega)]); (first | rw [if_pos (by omega)] | rw [if_neg (by omega)]); (first | rw [if_pos (by omega)] | rw [if_neg (by omega)]); (first | rw [if_pos (by omega)] | rw [if_neg (by omega)]))) (by unfold itT; (first | rw [if_pos (by omega)] | rw [if_neg (by omega)]); (first | rw [if_pos (by omega)] | rw [if_neg (by omega)]); (first | rw [if_pos (by omega)] | rw [if_neg (by omega)]); (first | rw [if_pos (by omega)] | rw [if_neg (by omega)]); exact (congrArg (fun q => wr q 14 _ _) (wr_cm _ _ _ _ _ (by decide))).trans (wr_cm _ _ _ _ _ (by decide))) dX3_readTenant_106
        · skip
          refine r_iconst (pc := 72) C dX3_readTenant_72 ?_
          exact r_retz (pc := 73) C (Or.inl rfl) (b01_0 (by unfold itT; (first | rw [if_pos (by omega)] | rw [if_neg (by omega)]); (first | rw [if_pos (by omega)] | rw [if_neg (by omega)]); (first | rw [if_pos (by omega)] | rw [if_neg (by omega)]); (first | rw [if_pos (by omega)] | rw [if_neg (by omega)]); exact Bool.false_ne_true)) (by unfold itT; (first | rw [if_pos (by omega)] | rw [if_neg (by omega)]); (first | rw [if_pos (by omega)] | rw [if_neg (by omega)]); (first | rw [if_pos (by omega)] | rw [if_neg (by omega)]); (first | rw [if_pos (by omega)] | rw [if_neg (by omega)])) dX3_readTenant_73
      · skip
        refine r_iconst (pc := 54) C dX3_readTenant_54 ?_
        exact r_retz (pc := 55) C (Or.inl rfl) (b01_0 (by unfold itT; (first | rw [if_pos (by omega)] | rw [if_neg (by omega)]); (first | rw [if_pos (by omega)] | rw [if_neg (by omega)]); (first | rw [if_pos (by omega)] | rw [if_neg (by omega)]); exact Bool.false_ne_true)) (by unfold itT; (first | rw [if_pos (by omega)] | rw [if_neg (by omega)]); (first | rw [if_pos (by omega)] | rw [if_neg (by omega)]); (first | rw [if_pos (by omega)] | rw [if_neg (by omega)])) dX3_readTenant_55
    · skip
      refine r_iconst (pc := 35) C dX3_readTenant_35 ?_
      exact r_retz (pc := 36) C (Or.inl rfl) (b01_0 (by unfold itT; (first | rw [if_pos (by omega)] | rw [if_neg (by omega)]); (first | rw [if_pos (by omega)] | rw [if_neg (by omega)]); exact Bool.false_ne_true)) (by unfold itT; (first | rw [if_pos (by omega)] | rw [if_neg (by omega)]); (first | rw [if_pos (by omega)] | rw [if_neg (by omega)])) dX3_readTenant_36
  · skip
    refine r_iconst (pc := 9) C dX3_readTenant_9 ?_
    exact r_retz (pc := 10) C (Or.inl rfl) (b01_0 (by unfold itT; (first | rw [if_pos (by omega)] | rw [if_neg (by omega)]); exact Bool.false_ne_true)) (by unfold itT; (first | rw [if_pos (by omega)] | rw [if_neg (by omega)]); show σ = wr σ 26 4 (k : Int); rw [← h, wr_idd]) dX3_readTenant_10
set_option maxHeartbeats 4000000 in
set_option maxRecDepth 100000 in
theorem c_readItem (g : Gt) (ty vl : Nat → Int) (K k : Nat) (hT : TkK ty vl K) (hk : k ≤ K) (σ : Sg) (h : σ 26 4 = (k : Int)) (h27 : σ 27 = ty) (h29 : σ 29 = vl) (hn : 0 ≤ σ 8 7 ∧ σ 8 7 ≤ 8) : Mt g yX3_readItem cX3_readItem 3 (some FieldType.boolean) 3 [.ref (gA g 26), .ref (gA g 8)] σ (pI (b01 ((itm 8 adS_8 ty vl k σ).1 = true)) (wr (itm 8 adS_8 ty vl k σ).2.2 26 4 (((itm 8 adS_8 ty vl k σ).2.1 : Nat) : Int))) := by
  have ht := hT.2.2.1 k hk; have hv := hT.2.2.2 k hk; have hK := hT.1
  refine mt_of (own := RX3) (by decide) rfl (Nat.le_of_ble_eq_true rfl) (fun E C => ?_)
  show J g E (pI (b01 ((itm 8 adS_8 ty vl k σ).1 = true)) (wr (itm 8 adS_8 ty vl k σ).2.2 26 4 (((itm 8 adS_8 ty vl k σ).2.1 : Nat) : Int))) 3 0 [(0, .ref (gA g 26)), (1, .ref (gA g 8))] [] σ
  refine r_aload_n (pc := 0) C dX3_readItem_0 rfl 0 rfl ?_
  refine r_getR3 (pc := 1) C 0 (k' := 27) rfl O_26 (by decide) rfl t_180 dX3_readItem_1 ?_
  refine r_aload_n (pc := 4) C dX3_readItem_4 rfl 0 rfl ?_
  refine r_getI3 (pc := 5) C 4 rfl O_26 (by decide) rfl t_184 dX3_readItem_5 ?_
  refine r_top (show σ 26 4 = (k : Int) from h) ?_
  refine r_iald (pc := 8) C k A_27 (by omega) (by omega) dX3_readItem_8 ?_
  refine r_top (show σ 27 k = ty k from congrFun h27 k) ?_
  refine r_iconst (pc := 9) C dX3_readItem_9 ?_
  refine r_icmp_ne (pc := 10) C 25 ⟨by omega, by omega⟩ ⟨by omega, by omega⟩ dX3_readItem_10 (by decide) (fun h10 => ?_) (fun h10 => ?_)
  · skip
    refine r_iconst (pc := 25) C dX3_readItem_25 ?_
    refine r_istore_n (pc := 26) C dX3_readItem_26 rfl (by decide) [1, 2, 0] (lv' := [(0, .ref (gA g 26)), (1, .ref (gA g 8)), (2, .int (iI ((-1))))]) rfl ?_
    refine r_iload_n (pc := 27) C dX3_readItem_27 rfl 2 rfl ?_
    refine r_cNi (pc := 28) C (c_isKind g (-1) ⟨by omega, by omega⟩ σ) yX4_isKind_w rfl N_kd ⟨by decide, by decide⟩ (Nat.le_of_ble_eq_true rfl) rfl dX3_readItem_28 ?_
    refine r_ifz_eq (pc := 31) C 41 dX3_readItem_31 (by decide) (fun h31 => ?_) (fun h31 => ?_)
    · skip
      refine r_iload_n (pc := 41) C dX3_readItem_41 rfl 2 rfl ?_
      refine r_tabOut (pc := 42) C 86 dX3_readItem_42 ⟨by omega, by omega⟩ (by omega) (by decide) ?_
      refine r_iconst (pc := 86) C dX3_readItem_86 ?_
      exact r_retz (pc := 87) C (Or.inl rfl) (b01_0 (by first | (exfalso; omega; done) | (unfold itm; (first | rw [if_pos (by omega)] | rw [if_neg (by omega)]); (first | rw [if_pos (by omega)] | rw [if_neg (by omega)]); (first | rw [if_pos (by omega)] | rw [if_neg (by omega)]); (first | rw [if_pos (by omega)] | rw [if_neg (by omega)]); exact Bool.false_ne_true))) (by first | (exfalso; omega; done) | (unfold itm; (first | rw [if_pos (by omega)] | rw [if_neg (by omega)]); (first | rw [if_pos (by omega)] | rw [if_neg (by omega)]); (first | rw [if_pos (by omega)] | rw [if_neg (by omega)]); (first | rw [if_pos (by omega)] | rw [if_neg (by omega)]); show σ = wr σ 26 4 (k : Int); rw [← h, wr_idd])) dX3_readItem_87
    · skip
      refine r_aload_n (pc := 34) C dX3_readItem_34 rfl 0 rfl ?_
      refine r_aload_n (pc := 35) C dX3_readItem_35 rfl 1 rfl ?_
      refine r_iload_n (pc := 36) C dX3_readItem_36 rfl 2 rfl ?_
      refine r_cVi (pc := 37) C (c_readTenant g ty vl K k hT hk (-1) σ h h27 h29 (by omega) hn) yX3_readTenant_w O_26 rfl rfl t_670 ⟨by decide, by decide⟩ (Nat.le_of_ble_eq_true rfl) rfl dX3_readItem_37 ?_
      exact r_retz (pc := 40) C (b01_or _) (by first | (exfalso; omega; done) | (unfold itm; (first | rw [if_pos (by omega)] | rw [if_neg (by omega)]))) (by first | (exfalso; omega; done) | (unfold itm; (first | rw [if_pos (by omega)] | rw [if_neg (by omega)]))) dX3_readItem_40
  · skip
    refine r_aload_n (pc := 13) C dX3_readItem_13 rfl 0 rfl ?_
    refine r_getR3 (pc := 14) C 2 (k' := 29) rfl O_26 (by decide) rfl t_182 dX3_readItem_14 ?_
    refine r_aload_n (pc := 17) C dX3_readItem_17 rfl 0 rfl ?_
    refine r_getI3 (pc := 18) C 4 rfl O_26 (by decide) rfl t_184 dX3_readItem_18 ?_
    refine r_top (show σ 26 4 = (k : Int) from h) ?_
    refine r_iald (pc := 21) C k A_29 (by omega) (by omega) dX3_readItem_21 ?_
    refine r_top (show σ 29 k = vl k from congrFun h29 k) ?_
    refine r_goto (pc := 22) C 26 dX3_readItem_22 (by decide) ?_
    refine r_istore_n (pc := 26) C dX3_readItem_26 rfl (by decide) [1, 2, 0] (lv' := [(0, .ref (gA g 26)), (1, .ref (gA g 8)), (2, .int (iI (vl k)))]) rfl ?_
    refine r_iload_n (pc := 27) C dX3_readItem_27 rfl 2 rfl ?_
    refine r_cNi (pc := 28) C (c_isKind g (vl k) ⟨by omega, by omega⟩ σ) yX4_isKind_w rfl N_kd ⟨by decide, by decide⟩ (Nat.le_of_ble_eq_true rfl) rfl dX3_readItem_28 ?_
    refine r_ifz_eq (pc := 31) C 41 dX3_readItem_31 (by decide) (fun h31 => ?_) (fun h31 => ?_)
    · skip
      refine r_iload_n (pc := 41) C dX3_readItem_41 rfl 2 rfl ?_
      by_cases hs42_7 : vl k = 7
      · refine r_tabIn C 7 68 dX3_readItem_42 hs42_7 ⟨by decide, by decide⟩ (by decide) (by decide) rfl (by decide) ?_
        refine r_aload_n (pc := 68) C dX3_readItem_68 rfl 0 rfl ?_
        refine r_aload_n (pc := 69) C dX3_readItem_69 rfl 1 rfl ?_
        refine r_cVi (pc := 70) C (c_readDust g ty vl K k hT hk σ h h27 h29 (by omega)) yX3_readDust_w O_26 rfl rfl t_683 ⟨by decide, by decide⟩ (Nat.le_of_ble_eq_true rfl) rfl dX3_readItem_70 ?_
        exact r_retz (pc := 73) C (b01_or _) (by first | (exfalso; omega; done) | (unfold itm; (first | rw [if_pos (by omega)] | rw [if_neg (by omega)]); (first | rw [if_pos (by omega)] | rw [if_neg (by omega)]))) (by first | (exfalso; omega; done) | (unfold itm; (first | rw [if_pos (by omega)] | rw [if_neg (by omega)]); (first | rw [if_pos (by omega)] | rw [if_neg (by omega)]))) dX3_readItem_73
      by_cases hs42_8 : vl k = 8
      · refine r_tabIn C 8 74 dX3_readItem_42 hs42_8 ⟨by decide, by decide⟩ (by decide) (by decide) rfl (by decide) ?_
        refine r_aload_n (pc := 74) C dX3_readItem_74 rfl 0 rfl ?_
        refine r_aload_n (pc := 75) C dX3_readItem_75 rfl 1 rfl ?_
        refine r_cVi (pc := 76) C (c_readFall g ty vl K k hT hk σ h h27 h29 (by omega)) yX3_readFall_w O_26 rfl rfl t_687 ⟨by decide, by decide⟩ (Nat.le_of_ble_eq_true rfl) rfl dX3_readItem_76 ?_
        exact r_retz (pc := 79) C (b01_or _) (by first | (exfalso; omega; done) | (unfold itm; (first | rw [if_pos (by omega)] | rw [if_neg (by omega)]); (first | rw [if_pos (by omega)] | rw [if_neg (by omega)]); (first | rw [if_pos (by omega)] | rw [if_neg (by omega)]))) (by first | (exfalso; omega; done) | (unfold itm; (first | rw [if_pos (by omega)] | rw [if_neg (by omega)]); (first | rw [if_pos (by omega)] | rw [if_neg (by omega)]); (first | rw [if_pos (by omega)] | rw [if_neg (by omega)]))) dX3_readItem_79
      by_cases hs42_9 : vl k = 9
      · refine r_tabIn C 9 80 dX3_readItem_42 hs42_9 ⟨by decide, by decide⟩ (by decide) (by decide) rfl (by decide) ?_
        refine r_aload_n (pc := 80) C dX3_readItem_80 rfl 0 rfl ?_
        refine r_aload_n (pc := 81) C dX3_readItem_81 rfl 1 rfl ?_
        refine r_cVi (pc := 82) C (c_readDraught g ty vl K k hT hk σ h h27 h29 (by omega)) yX3_readDraught_w O_26 rfl rfl t_691 ⟨by decide, by decide⟩ (Nat.le_of_ble_eq_true rfl) rfl dX3_readItem_82 ?_
        exact r_retz (pc := 85) C (b01_or _) (by first | (exfalso; omega; done) | (unfold itm; (first | rw [if_pos (by omega)] | rw [if_neg (by omega)]); (first | rw [if_pos (by omega)] | rw [if_neg (by omega)]); (first | rw [if_pos (by omega)] | rw [if_neg (by omega)]); (first | rw [if_pos (by omega)] | rw [if_neg (by omega)]))) (by first | (exfalso; omega; done) | (unfold itm; (first | rw [if_pos (by omega)] | rw [if_neg (by omega)]); (first | rw [if_pos (by omega)] | rw [if_neg (by omega)]); (first | rw [if_pos (by omega)] | rw [if_neg (by omega)]); (first | rw [if_pos (by omega)] | rw [if_neg (by omega)]))) dX3_readItem_85
      refine r_tabOut (pc := 42) C 86 dX3_readItem_42 ⟨by omega, by omega⟩ (by omega) (by decide) ?_
      refine r_iconst (pc := 86) C dX3_readItem_86 ?_
      exact r_retz (pc := 87) C (Or.inl rfl) (b01_0 (by first | (exfalso; omega; done) | (unfold itm; (first | rw [if_pos (by omega)] | rw [if_neg (by omega)]); (first | rw [if_pos (by omega)] | rw [if_neg (by omega)]); (first | rw [if_pos (by omega)] | rw [if_neg (by omega)]); (first | rw [if_pos (by omega)] | rw [if_neg (by omega)]); exact Bool.false_ne_true))) (by first | (exfalso; omega; done) | (unfold itm; (first | rw [if_pos (by omega)] | rw [if_neg (by omega)]); (first | rw [if_pos (by omega)] | rw [if_neg (by omega)]); (first | rw [if_pos (by omega)] | rw [if_neg (by omega)]); (first | rw [if_pos (by omega)] | rw [if_neg (by omega)]); show σ = wr σ 26 4 (k : Int); rw [← h, wr_idd])) dX3_readItem_87
    · skip
      refine r_aload_n (pc := 34) C dX3_readItem_34 rfl 0 rfl ?_
      refine r_aload_n (pc := 35) C dX3_readItem_35 rfl 1 rfl ?_
      refine r_iload_n (pc := 36) C dX3_readItem_36 rfl 2 rfl ?_
      refine r_cVi (pc := 37) C (c_readTenant g ty vl K k hT hk (vl k) σ h h27 h29 (by omega) hn) yX3_readTenant_w O_26 rfl rfl t_670 ⟨by decide, by decide⟩ (Nat.le_of_ble_eq_true rfl) rfl dX3_readItem_37 ?_
      exact r_retz (pc := 40) C (b01_or _) (by first | (exfalso; omega; done) | (unfold itm; (first | rw [if_pos (by omega)] | rw [if_neg (by omega)]))) (by first | (exfalso; omega; done) | (unfold itm; (first | rw [if_pos (by omega)] | rw [if_neg (by omega)]))) dX3_readItem_40
