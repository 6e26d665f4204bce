/-- an answer, and the state but for the trial room's cells -/
def pT (x : Int) (σ' : Sg) : Option Value → Sg → Prop := fun v s => v = some (.int (iI x)) ∧ ∀ k, (k < 8 ∨ 16 ≤ k) → s k = σ' k
theorem r_retT {g : Gt} {E : Ev} {cc : ByteArray} {nL pc d : Nat} {own : String} {lv : List (Nat × Value)} {σ σ2 : Sg} {x v : Int} (C : Cx g E cc nL own (some .int) d) (hv : v = x) (hs : ∀ k, (k < 8 ∨ 16 ≤ k) → σ k = σ2 k) (hd : decode cc pc = .ok (.ireturn, 1)) : J g E (pT x σ2) nL pc lv [.int (iI v)] σ := r_iret C ⟨by rw [hv], hs⟩ hd
def fin (w : Nat) (σ : Sg) : Sg := wr σ 39 w (σ 39 w + 1)
theorem wr_swap (τ : Sg) {k k' : Nat} (j j' : Nat) (x y : Int) (h : k ≠ k') : wr (wr τ k j x) k' j' y = wr (wr τ k' j' y) k j x := by
  funext q
  unfold wr us
  by_cases h1 : q = k
  · subst h1
    simp [h]
  · by_cases h2 : q = k'
    · subst h2
      simp [h1, Ne.symm h]
    · simp [h1, h2]
theorem wr_wr (τ : Sg) (k j : Nat) (x y : Int) : wr (wr τ k j x) k j y = wr τ k j y := by
  unfold wr
  rw [us_s, us_us, up_up]
/-- Integer.bitCount, step by step -/
def bitc1 (x : Int) : Int := x - band (bushr x 1) 1431655765
def bitc2 (x : Int) : Int := band x 858993459 + band (bushr x 2) 858993459
def bitc3 (x : Int) : Int := band (x + bushr x 4) 252645135
def bitc4 (x : Int) : Int := x + bushr x 8
def bitc5 (x : Int) : Int := x + bushr x 16
def bitc (x : Int) : Int := band (bitc5 (bitc4 (bitc3 (bitc2 (bitc1 x))))) 63
/-- is a kind one of another, or under it -/
def ofK : Nat → Int → Int → Bool
  | 0, _, _ => false
  | f + 1, k, w => if 0 ≤ k ∧ k < 7 then (if k = w then true else ofK f (stab 2 k.toNat) w) else false
theorem stab2_rng (j : Nat) : -1 ≤ stab 2 j ∧ stab 2 j ≤ 3 := by
  by_cases h : j < 7
  · rcases (show j = 0 ∨ j = 1 ∨ j = 2 ∨ j = 3 ∨ j = 4 ∨ j = 5 ∨ j = 6 by omega) with rfl | rfl | rfl | rfl | rfl | rfl | rfl <;> decide
  · have : stab 2 j = 0 := by
      unfold stab
      simp [List.getD, show 7 ≤ j by omega]
    omega
/-- bytes come behind the tape -/
def apF (v : Int) (n L : Nat) (B : Nat → Int) : Nat → (Nat → Int)
  | 0 => B
  | m + 1 => up (apF v n L B m) (L + m) (band (bushr v (8 * ((n : Int) - 1 - (m : Int)))) 255)
/-- how many numbers of a sheet come as dust -/
def ldc (N : Nat → Int) (len : Int) : Nat → Nat → Nat
  | 0, i => i
  | f + 1, i => if (i : Int) < len ∧ i < 12 ∧ 0 ≤ N i ∧ N i ≤ 9999 then ldc N len f (i + 1) else i
/-- the first number of a sheet that isn't the holder -/
def jdc (N : Nat → Int) (len : Int) (n : Int) (M : Nat → Int) : Nat → Nat → Int
  | 0, _ => 0
  | f + 1, i => if (i : Int) < len then (if 12 ≤ i ∨ N i ≠ holder n M i then 1 + (i : Int) else jdc N len n M f (i + 1)) else 0
set_option maxHeartbeats 4000000 in
set_option maxRecDepth 100000 in
theorem c_bitCount (g : Gt) (x : Int) (σ : Sg) : Mt g yJ6_bitCount_0f7a4 cJ6_bitCount_0f7a4 1 (some FieldType.int) 0 [.int (iI (x))] σ (pI (bitc x) σ) := by
  refine mt_ofF (own := RJ6) (by decide +kernel) rfl (Nat.le_of_ble_eq_true rfl) (fun E C => ?_)
  show J g E (pI (bitc x) σ) 1 0 [(0, .int (iI (x)))] [] σ
  refine r_iload_n (pc := 0) C dJ6_bitCount_0f7a4_0 rfl 0 rfl ?_
  refine r_iload_n (pc := 1) C dJ6_bitCount_0f7a4_1 rfl 0 rfl ?_
  refine r_iconst (pc := 2) C dJ6_bitCount_0f7a4_2 ?_
  refine r_iushr (pc := 3) C dJ6_bitCount_0f7a4_3 ?_
  refine r_ldcw (pc := 4) C 1431655765 t_500 (by decide) dJ6_bitCount_0f7a4_4 ?_
  refine r_iand (pc := 7) C dJ6_bitCount_0f7a4_7 ?_
  refine r_isub (pc := 8) C dJ6_bitCount_0f7a4_8 ?_
  refine r_istore_n (pc := 9) C dJ6_bitCount_0f7a4_9 rfl (by decide) [0] (lv' := [(0, .int (iI (x - (band (bushr x 1) 1431655765))))]) rfl ?_
  refine r_iload_n (pc := 10) C dJ6_bitCount_0f7a4_10 rfl 0 rfl ?_
  refine r_ldcw (pc := 11) C 858993459 t_501 (by decide) dJ6_bitCount_0f7a4_11 ?_
  refine r_iand (pc := 14) C dJ6_bitCount_0f7a4_14 ?_
  refine r_iload_n (pc := 15) C dJ6_bitCount_0f7a4_15 rfl 0 rfl ?_
  refine r_iconst (pc := 16) C dJ6_bitCount_0f7a4_16 ?_
  refine r_iushr (pc := 17) C dJ6_bitCount_0f7a4_17 ?_
  refine r_ldcw (pc := 18) C 858993459 t_501 (by decide) dJ6_bitCount_0f7a4_18 ?_
  refine r_iand (pc := 21) C dJ6_bitCount_0f7a4_21 ?_
  refine r_iadd (pc := 22) C dJ6_bitCount_0f7a4_22 ?_
  refine r_istore_n (pc := 23) C dJ6_bitCount_0f7a4_23 rfl (by decide) [0] (lv' := [(0, .int (iI ((band (x - (band (bushr x 1) 1431655765)) 858993459) + (band (bushr (x - (band (bushr x 1) 1431655765)) 2) 858993459))))]) rfl ?_
  refine r_iload_n (pc := 24) C dJ6_bitCount_0f7a4_24 rfl 0 rfl ?_
  refine r_iload_n (pc := 25) C dJ6_bitCount_0f7a4_25 rfl 0 rfl ?_
  refine r_iconst (pc := 26) C dJ6_bitCount_0f7a4_26 ?_
  refine r_iushr (pc := 27) C dJ6_bitCount_0f7a4_27 ?_
  refine r_iadd (pc := 28) C dJ6_bitCount_0f7a4_28 ?_
  refine r_ldcw (pc := 29) C 252645135 t_502 (by decide) dJ6_bitCount_0f7a4_29 ?_
  refine r_iand (pc := 32) C dJ6_bitCount_0f7a4_32 ?_
  refine r_istore_n (pc := 33) C dJ6_bitCount_0f7a4_33 rfl (by decide) [0] (lv' := [(0, .int (iI (band (((band (x - (band (bushr x 1) 1431655765)) 858993459) + (band (bushr (x - (band (bushr x 1) 1431655765)) 2) 858993459)) + (bushr ((band (x - (band (bushr x 1) 1431655765)) 858993459) + (band (bushr (x - (band (bushr x 1) 1431655765)) 2) 858993459)) 4)) 252645135)))]) rfl ?_
  refine r_iload_n (pc := 34) C dJ6_bitCount_0f7a4_34 rfl 0 rfl ?_
  refine r_iload_n (pc := 35) C dJ6_bitCount_0f7a4_35 rfl 0 rfl ?_
  refine r_bipush (pc := 36) C dJ6_bitCount_0f7a4_36 (by decide) ?_
  refine r_iushr (pc := 38) C dJ6_bitCount_0f7a4_38 ?_
  refine r_iadd (pc := 39) C dJ6_bitCount_0f7a4_39 ?_
  refine r_istore_n (pc := 40) C dJ6_bitCount_0f7a4_40 rfl (by decide) [0] (lv' := [(0, .int (iI ((band (((band (x - (band (bushr x 1) 1431655765)) 858993459) + (band (bushr (x - (band (bushr x 1) 1431655765)) 2) 858993459)) + (bushr ((band (x - (band (bushr x 1) 1431655765)) 858993459) + (band (bushr (x - (band (bushr x 1) 1431655765)) 2) 858993459)) 4)) 252645135) + (bushr (band (((band (x - (band (bushr x 1) 1431655765)) 858993459) + (band (bushr (x - (band (bushr x 1) 1431655765)) 2) 858993459)) + (bushr ((band (x - (band (bushr x 1) 1431655765)) 858993459) + (band (bushr (x - (band (bushr x 1) 1431655765)) 2) 858993459)) 4)) 252645135) 8))))]) rfl ?_
  refine r_iload_n (pc := 41) C dJ6_bitCount_0f7a4_41 rfl 0 rfl ?_
  refine r_iload_n (pc := 42) C dJ6_bitCount_0f7a4_42 rfl 0 rfl ?_
  refine r_bipush (pc := 43) C dJ6_bitCount_0f7a4_43 (by decide) ?_
  refine r_iushr (pc := 45) C dJ6_bitCount_0f7a4_45 ?_
  refine r_iadd (pc := 46) C dJ6_bitCount_0f7a4_46 ?_
  refine r_istore_n (pc := 47) C dJ6_bitCount_0f7a4_47 rfl (by decide) [0] (lv' := [(0, .int (iI (((band (((band (x - (band (bushr x 1) 1431655765)) 858993459) + (band (bushr (x - (band (bushr x 1) 1431655765)) 2) 858993459)) + (bushr ((band (x - (band (bushr x 1) 1431655765)) 858993459) + (band (bushr (x - (band (bushr x 1) 1431655765)) 2) 858993459)) 4)) 252645135) + (bushr (band (((band (x - (band (bushr x 1) 1431655765)) 858993459) + (band (bushr (x - (band (bushr x 1) 1431655765)) 2) 858993459)) + (bushr ((band (x - (band (bushr x 1) 1431655765)) 858993459) + (band (bushr (x - (band (bushr x 1) 1431655765)) 2) 858993459)) 4)) 252645135) 8)) + (bushr ((band (((band (x - (band (bushr x 1) 1431655765)) 858993459) + (band (bushr (x - (band (bushr x 1) 1431655765)) 2) 858993459)) + (bushr ((band (x - (band (bushr x 1) 1431655765)) 858993459) + (band (bushr (x - (band (bushr x 1) 1431655765)) 2) 858993459)) 4)) 252645135) + (bushr (band (((band (x - (band (bushr x 1) 1431655765)) 858993459) + (band (bushr (x - (band (bushr x 1) 1431655765)) 2) 858993459)) + (bushr ((band (x - (band (bushr x 1) 1431655765)) 858993459) + (band (bushr (x - (band (bushr x 1) 1431655765)) 2) 858993459)) 4)) 252645135) 8)) 16))))]) rfl ?_
  refine r_iload_n (pc := 48) C dJ6_bitCount_0f7a4_48 rfl 0 rfl ?_
  refine r_bipush (pc := 49) C dJ6_bitCount_0f7a4_49 (by decide) ?_
  refine r_iand (pc := 51) C dJ6_bitCount_0f7a4_51 ?_
  exact r_reti (pc := 52) C (rfl) (rfl) dJ6_bitCount_0f7a4_52
set_option maxHeartbeats 4000000 in
set_option maxRecDepth 100000 in
theorem d_dust (g : Gt) (x v : Int) (h_x : rng x) (h_v : rng v) (σ : Sg) (hW : RW σ 0)  : Mt g yX4_dust cX4_dust 4 (some FieldType.int) 1 [.ref (gA g 40), .int (iI (x)), .int (iI (v))] σ (pT (if 0 ≤ x ∧ x < 12 ∧ 0 ≤ v ∧ v ≤ 9999 then σ 1 x.toNat else (-1000001 - ((0 : Nat) : Int))) (if 0 ≤ x ∧ x < 12 ∧ 0 ≤ v ∧ v ≤ 9999 then wr σ 1 x.toNat v else fin 0 σ)) := by
  obtain ⟨hn, hfl, hw, hdy, hz, hD_, hK_, hA_, hG_, hM_, hP_⟩ := id hW
  have hD : rgD (σ 1) := hD_
  have hK : rgK (σ 3) := hK_
  have hA : rgA (σ 4) := hA_
  have hG : rgG (σ 5) := hG_
  have hM : rgM (σ 6) := hM_
  have hP : ∀ j, j < 10 → -1 ≤ σ 7 j ∧ σ 7 j < σ 0 7 := hP_
  have ho_x := h_x.1; have hp_x := h_x.2
  have ho_v := h_v.1; have hp_v := h_v.2
  refine mt_of (own := RX4) (by decide) rfl (Nat.le_of_ble_eq_true rfl) (fun E C => ?_)
  show J g E (pT (if 0 ≤ x ∧ x < 12 ∧ 0 ≤ v ∧ v ≤ 9999 then σ 1 x.toNat else (-1000001 - ((0 : Nat) : Int))) (if 0 ≤ x ∧ x < 12 ∧ 0 ≤ v ∧ v ≤ 9999 then wr σ 1 x.toNat v else fin 0 σ)) 4 0 [(0, .ref (gA g 40)), (1, .int (iI (x))), (2, .int (iI (v)))] [] σ
  refine r_iload_n (pc := 0) C dX4_dust_0 rfl 1 rfl ?_
  refine r_cSi (pc := 1) C (c_isSurface g x h_x σ) yX4_isSurface_w rfl t_245 ⟨by decide, by decide⟩ (Nat.le_of_ble_eq_true rfl) rfl dX4_dust_1 ?_
  refine r_ifz_eq (pc := 4) C 18 dX4_dust_4 (by decide) (fun h4 => ?_) (fun h4 => ?_)
  · skip
    refine r_aload_n (pc := 18) C dX4_dust_18 rfl 0 rfl ?_
    refine r_iconst (pc := 19) C dX4_dust_19 ?_
    refine r_cVi (pc := 20) C (c_finding g 0 (by decide) σ) yX4_finding_w O_40 rfl rfl t_251 ⟨by decide, by decide⟩ (Nat.le_of_ble_eq_true rfl) rfl dX4_dust_20 ?_
    exact r_retT (pc := 23) C (by first | (exfalso; omega; done) | ((try (first | rw [if_pos (by omega)] | rw [if_neg (by omega)])); (try (first | rw [if_pos (by omega)] | rw [if_neg (by omega)])); (try (first | rw [if_pos (by omega)] | rw [if_neg (by omega)])); (try (first | rw [if_pos (by omega)] | rw [if_neg (by omega)])); (try rfl))) (fun k _ => congrFun (by first | (exfalso; omega; done) | ((try (first | rw [if_pos (by omega)] | rw [if_neg (by omega)])); (try (first | rw [if_pos (by omega)] | rw [if_neg (by omega)])); (try (first | rw [if_pos (by omega)] | rw [if_neg (by omega)])); (try (first | rw [if_pos (by omega)] | rw [if_neg (by omega)])); (try rfl))) k) dX4_dust_23
  · skip
    refine r_iload_n (pc := 7) C dX4_dust_7 rfl 2 rfl ?_
    refine r_iconst (pc := 8) C dX4_dust_8 ?_
    refine r_sipush (pc := 9) C dX4_dust_9 (by decide) ?_
    refine r_cSi (pc := 12) C (c_isWithin g v 0 9999 h_v ⟨by omega, by omega⟩ ⟨by omega, by omega⟩ σ) yX4_isWithin_w rfl t_248 ⟨by decide, by decide⟩ (Nat.le_of_ble_eq_true rfl) rfl dX4_dust_12 ?_
    refine r_ifz_ne (pc := 15) C 24 dX4_dust_15 (by decide) (fun h15 => ?_) (fun h15 => ?_)
    · skip
      refine r_aload_n (pc := 24) C dX4_dust_24 rfl 0 rfl ?_
      refine r_getR4 (pc := 25) C 0 (k' := 0) rfl O_40 (by decide) rfl t_216 dX4_dust_25 ?_
      refine r_getR0 (pc := 28) C 0 (k' := 1) rfl O_0 (by decide) rfl t_104 dX4_dust_28 ?_
      refine r_iload_n (pc := 31) C dX4_dust_31 rfl 1 rfl ?_
      refine r_iald (pc := 32) C x.toNat A_1 (by omega) (by omega) dX4_dust_32 ?_
      refine r_istore_n (pc := 33) C dX4_dust_33 rfl (by decide) [1, 2, 3, 0] (lv' := [(0, .ref (gA g 40)), (1, .int (iI (x))), (2, .int (iI (v))), (3, .int (iI (σ 1 x.toNat)))]) rfl ?_
      refine r_aload_n (pc := 34) C dX4_dust_34 rfl 0 rfl ?_
      refine r_getR4 (pc := 35) C 0 (k' := 0) rfl O_40 (by decide) rfl t_216 dX4_dust_35 ?_
      refine r_getR0 (pc := 38) C 0 (k' := 1) rfl O_0 (by decide) rfl t_104 dX4_dust_38 ?_
      refine r_iload_n (pc := 41) C dX4_dust_41 rfl 1 rfl ?_
      refine r_iload_n (pc := 42) C dX4_dust_42 rfl 2 rfl ?_
      refine r_iast (pc := 43) C x.toNat A_1 (by omega) (by omega) dX4_dust_43 ?_
      refine r_iload_n (pc := 44) C dX4_dust_44 rfl 3 rfl ?_
      exact r_retT (pc := 45) C (by first | (exfalso; omega; done) | ((try (first | rw [if_pos (by omega)] | rw [if_neg (by omega)])); (try (first | rw [if_pos (by omega)] | rw [if_neg (by omega)])); (try (first | rw [if_pos (by omega)] | rw [if_neg (by omega)])); (try (first | rw [if_pos (by omega)] | rw [if_neg (by omega)])); (try rfl))) (fun k _ => congrFun (by first | (exfalso; omega; done) | ((try (first | rw [if_pos (by omega)] | rw [if_neg (by omega)])); (try (first | rw [if_pos (by omega)] | rw [if_neg (by omega)])); (try (first | rw [if_pos (by omega)] | rw [if_neg (by omega)])); (try (first | rw [if_pos (by omega)] | rw [if_neg (by omega)])); (try rfl))) k) dX4_dust_45
    · skip
      refine r_aload_n (pc := 18) C dX4_dust_18 rfl 0 rfl ?_
      refine r_iconst (pc := 19) C dX4_dust_19 ?_
      refine r_cVi (pc := 20) C (c_finding g 0 (by decide) σ) yX4_finding_w O_40 rfl rfl t_251 ⟨by decide, by decide⟩ (Nat.le_of_ble_eq_true rfl) rfl dX4_dust_20 ?_
      exact r_retT (pc := 23) C (by first | (exfalso; omega; done) | ((try (first | rw [if_pos (by omega)] | rw [if_neg (by omega)])); (try (first | rw [if_pos (by omega)] | rw [if_neg (by omega)])); (try (first | rw [if_pos (by omega)] | rw [if_neg (by omega)])); (try (first | rw [if_pos (by omega)] | rw [if_neg (by omega)])); (try rfl))) (fun k _ => congrFun (by first | (exfalso; omega; done) | ((try (first | rw [if_pos (by omega)] | rw [if_neg (by omega)])); (try (first | rw [if_pos (by omega)] | rw [if_neg (by omega)])); (try (first | rw [if_pos (by omega)] | rw [if_neg (by omega)])); (try (first | rw [if_pos (by omega)] | rw [if_neg (by omega)])); (try rfl))) k) dX4_dust_23
set_option maxHeartbeats 4000000 in
set_option maxRecDepth 100000 in
theorem d_surface (g : Gt) (x w : Int) (h_x : rng x) (h_w : rng w) (σ : Sg) (hW : RW σ 0)  : Mt g yX4_surface cX4_surface 3 (some FieldType.int) 2 [.ref (gA g 40), .int (iI (x)), .int (iI (w))] σ (pT (if 0 ≤ x ∧ x < 12 ∧ 0 ≤ w ∧ w ≤ 3 then (if w = 0 then σ 1 x.toNat else if w = 1 then holder (σ 0 7) (σ 6) x.toNat else if w = 2 then setF (fun t => decide (σ 4 t = (x.toNat : Int))) (σ 0 7).toNat else gmark (σ 0 7) (σ 6) x.toNat) else (-1000001 - ((0 : Nat) : Int))) (if 0 ≤ x ∧ x < 12 ∧ 0 ≤ w ∧ w ≤ 3 then σ else fin 0 σ)) := by
  obtain ⟨hn, hfl, hw, hdy, hz, hD_, hK_, hA_, hG_, hM_, hP_⟩ := id hW
  have hD : rgD (σ 1) := hD_
  have hK : rgK (σ 3) := hK_
  have hA : rgA (σ 4) := hA_
  have hG : rgG (σ 5) := hG_
  have hM : rgM (σ 6) := hM_
  have hP : ∀ j, j < 10 → -1 ≤ σ 7 j ∧ σ 7 j < σ 0 7 := hP_
  have ho_x := h_x.1; have hp_x := h_x.2
  have ho_w := h_w.1; have hp_w := h_w.2
  refine mt_of (own := RX4) (by decide) rfl (Nat.le_of_ble_eq_true rfl) (fun E C => ?_)
  show J g E (pT (if 0 ≤ x ∧ x < 12 ∧ 0 ≤ w ∧ w ≤ 3 then (if w = 0 then σ 1 x.toNat else if w = 1 then holder (σ 0 7) (σ 6) x.toNat else if w = 2 then setF (fun t => decide (σ 4 t = (x.toNat : Int))) (σ 0 7).toNat else gmark (σ 0 7) (σ 6) x.toNat) else (-1000001 - ((0 : Nat) : Int))) (if 0 ≤ x ∧ x < 12 ∧ 0 ≤ w ∧ w ≤ 3 then σ else fin 0 σ)) 3 0 [(0, .ref (gA g 40)), (1, .int (iI (x))), (2, .int (iI (w)))] [] σ
  refine r_iload_n (pc := 0) C dX4_surface_0 rfl 1 rfl ?_
  refine r_cSi (pc := 1) C (c_isSurface g x h_x σ) yX4_isSurface_w rfl t_245 ⟨by decide, by decide⟩ (Nat.le_of_ble_eq_true rfl) rfl dX4_surface_1 ?_
  refine r_ifz_ne (pc := 4) C 13 dX4_surface_4 (by decide) (fun h4 => ?_) (fun h4 => ?_)
  · skip
    refine r_iload_n (pc := 13) C dX4_surface_13 rfl 2 rfl ?_
    by_cases hs14_0 : w = 0
    · refine r_tabIn C 0 44 dX4_surface_14 hs14_0 ⟨by decide, by decide⟩ (by decide) (by decide) rfl (by decide) ?_
      refine r_aload_n (pc := 44) C dX4_surface_44 rfl 0 rfl ?_
      refine r_getR4 (pc := 45) C 0 (k' := 0) rfl O_40 (by decide) rfl t_216 dX4_surface_45 ?_
      refine r_getR0 (pc := 48) C 0 (k' := 1) rfl O_0 (by decide) rfl t_104 dX4_surface_48 ?_
      refine r_iload_n (pc := 51) C dX4_surface_51 rfl 1 rfl ?_
      refine r_iald (pc := 52) C x.toNat A_1 (by omega) (by omega) dX4_surface_52 ?_
      exact r_retT (pc := 53) C (by first | (exfalso; omega; done) | ((try (first | rw [if_pos (by omega)] | rw [if_neg (by omega)])); (try (first | rw [if_pos (by omega)] | rw [if_neg (by omega)])); (try (first | rw [if_pos (by omega)] | rw [if_neg (by omega)])); (try (first | rw [if_pos (by omega)] | rw [if_neg (by omega)])); (try rfl))) (fun k _ => congrFun (by first | (exfalso; omega; done) | ((try (first | rw [if_pos (by omega)] | rw [if_neg (by omega)])); (try (first | rw [if_pos (by omega)] | rw [if_neg (by omega)])); (try (first | rw [if_pos (by omega)] | rw [if_neg (by omega)])); (try (first | rw [if_pos (by omega)] | rw [if_neg (by omega)])); (try rfl))) k) dX4_surface_53
    by_cases hs14_1 : w = 1
    · refine r_tabIn C 1 54 dX4_surface_14 hs14_1 ⟨by decide, by decide⟩ (by decide) (by decide) rfl (by decide) ?_
      refine r_aload_n (pc := 54) C dX4_surface_54 rfl 0 rfl ?_
      refine r_getR4 (pc := 55) C 0 (k' := 0) rfl O_40 (by decide) rfl t_216 dX4_surface_55 ?_
      refine r_iload_n (pc := 58) C dX4_surface_58 rfl 1 rfl ?_
      refine r_cVi (pc := 59) C (c_holderOf_0 g x.toNat (by omega) σ hn hM) yX0_holderOf_w O_0 rfl rfl t_260 ⟨by decide, by decide⟩ (Nat.le_of_ble_eq_true rfl) (by rw [show ((x.toNat : Nat) : Int) = x by omega]; rfl) dX4_surface_59 ?_
      exact r_retT (pc := 62) C (by first | (exfalso; omega; done) | ((try (first | rw [if_pos (by omega)] | rw [if_neg (by omega)])); (try (first | rw [if_pos (by omega)] | rw [if_neg (by omega)])); (try (first | rw [if_pos (by omega)] | rw [if_neg (by omega)])); (try (first | rw [if_pos (by omega)] | rw [if_neg (by omega)])); (try rfl))) (fun k _ => congrFun (by first | (exfalso; omega; done) | ((try (first | rw [if_pos (by omega)] | rw [if_neg (by omega)])); (try (first | rw [if_pos (by omega)] | rw [if_neg (by omega)])); (try (first | rw [if_pos (by omega)] | rw [if_neg (by omega)])); (try (first | rw [if_pos (by omega)] | rw [if_neg (by omega)])); (try rfl))) k) dX4_surface_62
    by_cases hs14_2 : w = 2
    · refine r_tabIn C 2 63 dX4_surface_14 hs14_2 ⟨by decide, by decide⟩ (by decide) (by decide) rfl (by decide) ?_
      refine r_aload_n (pc := 63) C dX4_surface_63 rfl 0 rfl ?_
      refine r_getR4 (pc := 64) C 0 (k' := 0) rfl O_40 (by decide) rfl t_216 dX4_surface_64 ?_
      refine r_iload_n (pc := 67) C dX4_surface_67 rfl 1 rfl ?_
      refine r_cVi (pc := 68) C (c_sittersAt_0 g x.toNat (by omega) σ hn hA) yX0_sittersAt_w O_0 rfl rfl t_264 ⟨by decide, by decide⟩ (Nat.le_of_ble_eq_true rfl) (by rw [show ((x.toNat : Nat) : Int) = x by omega]; rfl) dX4_surface_68 ?_
      exact r_retT (pc := 71) C (by first | (exfalso; omega; done) | ((try (first | rw [if_pos (by omega)] | rw [if_neg (by omega)])); (try (first | rw [if_pos (by omega)] | rw [if_neg (by omega)])); (try (first | rw [if_pos (by omega)] | rw [if_neg (by omega)])); (try (first | rw [if_pos (by omega)] | rw [if_neg (by omega)])); (try rfl))) (fun k _ => congrFun (by first | (exfalso; omega; done) | ((try (first | rw [if_pos (by omega)] | rw [if_neg (by omega)])); (try (first | rw [if_pos (by omega)] | rw [if_neg (by omega)])); (try (first | rw [if_pos (by omega)] | rw [if_neg (by omega)])); (try (first | rw [if_pos (by omega)] | rw [if_neg (by omega)])); (try rfl))) k) dX4_surface_71
    by_cases hs14_3 : w = 3
    · refine r_tabIn C 3 72 dX4_surface_14 hs14_3 ⟨by decide, by decide⟩ (by decide) (by decide) rfl (by decide) ?_
      refine r_aload_n (pc := 72) C dX4_surface_72 rfl 0 rfl ?_
      refine r_getR4 (pc := 73) C 0 (k' := 0) rfl O_40 (by decide) rfl t_216 dX4_surface_73 ?_
      refine r_iload_n (pc := 76) C dX4_surface_76 rfl 1 rfl ?_
      refine r_cVi (pc := 77) C (c_greatestMark_0 g x.toNat (by omega) σ hn hM) yX0_greatestMark_w O_0 rfl rfl t_268 ⟨by decide, by decide⟩ (Nat.le_of_ble_eq_true rfl) (by rw [show ((x.toNat : Nat) : Int) = x by omega]; rfl) dX4_surface_77 ?_
      exact r_retT (pc := 80) C (by first | (exfalso; omega; done) | ((try (first | rw [if_pos (by omega)] | rw [if_neg (by omega)])); (try (first | rw [if_pos (by omega)] | rw [if_neg (by omega)])); (try (first | rw [if_pos (by omega)] | rw [if_neg (by omega)])); (try (first | rw [if_pos (by omega)] | rw [if_neg (by omega)])); (try rfl))) (fun k _ => congrFun (by first | (exfalso; omega; done) | ((try (first | rw [if_pos (by omega)] | rw [if_neg (by omega)])); (try (first | rw [if_pos (by omega)] | rw [if_neg (by omega)])); (try (first | rw [if_pos (by omega)] | rw [if_neg (by omega)])); (try (first | rw [if_pos (by omega)] | rw [if_neg (by omega)])); (try rfl))) k) dX4_surface_80
    refine r_tabOut (pc := 14) C 81 dX4_surface_14 h_w (by omega) (by decide) ?_
    refine r_aload_n (pc := 81) C dX4_surface_81 rfl 0 rfl ?_
    refine r_iconst (pc := 82) C dX4_surface_82 ?_
    refine r_cVi (pc := 83) C (c_finding g 0 (by decide) σ) yX4_finding_w O_40 rfl rfl t_251 ⟨by decide, by decide⟩ (Nat.le_of_ble_eq_true rfl) rfl dX4_surface_83 ?_
    exact r_retT (pc := 86) C (by first | (exfalso; omega; done) | ((try (first | rw [if_pos (by omega)] | rw [if_neg (by omega)])); (try (first | rw [if_pos (by omega)] | rw [if_neg (by omega)])); (try (first | rw [if_pos (by omega)] | rw [if_neg (by omega)])); (try (first | rw [if_pos (by omega)] | rw [if_neg (by omega)])); (try rfl))) (fun k _ => congrFun (by first | (exfalso; omega; done) | ((try (first | rw [if_pos (by omega)] | rw [if_neg (by omega)])); (try (first | rw [if_pos (by omega)] | rw [if_neg (by omega)])); (try (first | rw [if_pos (by omega)] | rw [if_neg (by omega)])); (try (first | rw [if_pos (by omega)] | rw [if_neg (by omega)])); (try rfl))) k) dX4_surface_86
  · skip
    refine r_aload_n (pc := 7) C dX4_surface_7 rfl 0 rfl ?_
    refine r_iconst (pc := 8) C dX4_surface_8 ?_
    refine r_cVi (pc := 9) C (c_finding g 0 (by decide) σ) yX4_finding_w O_40 rfl rfl t_251 ⟨by decide, by decide⟩ (Nat.le_of_ble_eq_true rfl) rfl dX4_surface_9 ?_
    exact r_retT (pc := 12) C (by first | (exfalso; omega; done) | ((try (first | rw [if_pos (by omega)] | rw [if_neg (by omega)])); (try (first | rw [if_pos (by omega)] | rw [if_neg (by omega)])); (try (first | rw [if_pos (by omega)] | rw [if_neg (by omega)])); (try (first | rw [if_pos (by omega)] | rw [if_neg (by omega)])); (try rfl))) (fun k _ => congrFun (by first | (exfalso; omega; done) | ((try (first | rw [if_pos (by omega)] | rw [if_neg (by omega)])); (try (first | rw [if_pos (by omega)] | rw [if_neg (by omega)])); (try (first | rw [if_pos (by omega)] | rw [if_neg (by omega)])); (try (first | rw [if_pos (by omega)] | rw [if_neg (by omega)])); (try rfl))) k) dX4_surface_12
set_option maxHeartbeats 4000000 in
set_option maxRecDepth 100000 in
theorem d_law (g : Gt) (w v : Int) (h_w : rng w) (h_v : rng v) (σ : Sg) (hW : RW σ 0)  : Mt g yX4_law cX4_law 4 (some FieldType.int) 1 [.ref (gA g 40), .int (iI (w)), .int (iI (v))] σ (pT (if w = 0 ∧ 0 ≤ v ∧ v ≤ 99 then σ 0 8 else if w = 1 ∧ -3 ≤ v ∧ v ≤ 3 then σ 0 9 else (-1000001 - ((0 : Nat) : Int))) (if w = 0 ∧ 0 ≤ v ∧ v ≤ 99 then wr σ 0 8 v else if w = 1 ∧ -3 ≤ v ∧ v ≤ 3 then wr σ 0 9 v else fin 0 σ)) := by
  obtain ⟨hn, hfl, hw, hdy, hz, hD_, hK_, hA_, hG_, hM_, hP_⟩ := id hW
  have hD : rgD (σ 1) := hD_
  have hK : rgK (σ 3) := hK_
  have hA : rgA (σ 4) := hA_
  have hG : rgG (σ 5) := hG_
  have hM : rgM (σ 6) := hM_
  have hP : ∀ j, j < 10 → -1 ≤ σ 7 j ∧ σ 7 j < σ 0 7 := hP_
  have ho_w := h_w.1; have hp_w := h_w.2
  have ho_v := h_v.1; have hp_v := h_v.2
  refine mt_of (own := RX4) (by decide) rfl (Nat.le_of_ble_eq_true rfl) (fun E C => ?_)
  show J g E (pT (if w = 0 ∧ 0 ≤ v ∧ v ≤ 99 then σ 0 8 else if w = 1 ∧ -3 ≤ v ∧ v ≤ 3 then σ 0 9 else (-1000001 - ((0 : Nat) : Int))) (if w = 0 ∧ 0 ≤ v ∧ v ≤ 99 then wr σ 0 8 v else if w = 1 ∧ -3 ≤ v ∧ v ≤ 3 then wr σ 0 9 v else fin 0 σ)) 4 0 [(0, .ref (gA g 40)), (1, .int (iI (w))), (2, .int (iI (v)))] [] σ
  refine r_iload_n (pc := 0) C dX4_law_0 rfl 1 rfl ?_
  refine r_if_ne (pc := 1) C 32 h_w dX4_law_1 (by decide) (fun h1 => ?_) (fun h1 => ?_)
  · skip
    refine r_iload_n (pc := 32) C dX4_law_32 rfl 1 rfl ?_
    refine r_iconst (pc := 33) C dX4_law_33 ?_
    refine r_icmp_ne (pc := 34) C 65 h_w ⟨by omega, by omega⟩ dX4_law_34 (by decide) (fun h34 => ?_) (fun h34 => ?_)
    · skip
      refine r_aload_n (pc := 65) C dX4_law_65 rfl 0 rfl ?_
      refine r_iconst (pc := 66) C dX4_law_66 ?_
      refine r_cVi (pc := 67) C (c_finding g 0 (by decide) σ) yX4_finding_w O_40 rfl rfl t_251 ⟨by decide, by decide⟩ (Nat.le_of_ble_eq_true rfl) rfl dX4_law_67 ?_
      exact r_retT (pc := 70) C (by first | (exfalso; omega; done) | ((try (first | rw [if_pos (by omega)] | rw [if_neg (by omega)])); (try (first | rw [if_pos (by omega)] | rw [if_neg (by omega)])); (try (first | rw [if_pos (by omega)] | rw [if_neg (by omega)])); (try (first | rw [if_pos (by omega)] | rw [if_neg (by omega)])); (try rfl))) (fun k _ => congrFun (by first | (exfalso; omega; done) | ((try (first | rw [if_pos (by omega)] | rw [if_neg (by omega)])); (try (first | rw [if_pos (by omega)] | rw [if_neg (by omega)])); (try (first | rw [if_pos (by omega)] | rw [if_neg (by omega)])); (try (first | rw [if_pos (by omega)] | rw [if_neg (by omega)])); (try rfl))) k) dX4_law_70
    · skip
      refine r_iload_n (pc := 37) C dX4_law_37 rfl 2 rfl ?_
      refine r_bipush (pc := 38) C dX4_law_38 (by decide) ?_
      refine r_iconst (pc := 40) C dX4_law_40 ?_
      refine r_cSi (pc := 41) C (c_isWithin g v (-3) 3 h_v ⟨by omega, by omega⟩ ⟨by omega, by omega⟩ σ) yX4_isWithin_w rfl t_248 ⟨by decide, by decide⟩ (Nat.le_of_ble_eq_true rfl) rfl dX4_law_41 ?_
      refine r_ifz_eq (pc := 44) C 65 dX4_law_44 (by decide) (fun h44 => ?_) (fun h44 => ?_)
      · skip
        refine r_aload_n (pc := 65) C dX4_law_65 rfl 0 rfl ?_
        refine r_iconst (pc := 66) C dX4_law_66 ?_
        refine r_cVi (pc := 67) C (c_finding g 0 (by decide) σ) yX4_finding_w O_40 rfl rfl t_251 ⟨by decide, by decide⟩ (Nat.le_of_ble_eq_true rfl) rfl dX4_law_67 ?_
        exact r_retT (pc := 70) C (by first | (exfalso; omega; done) | ((try (first | rw [if_pos (by omega)] | rw [if_neg (by omega)])); (try (first | rw [if_pos (by omega)] | rw [if_neg (by omega)])); (try (first | rw [if_pos (by omega)] | rw [if_neg (by omega)])); (try (first | rw [if_pos (by omega)] | rw [if_neg (by omega)])); (try rfl))) (fun k _ => congrFun (by first | (exfalso; omega; done) | ((try (first | rw [if_pos (by omega)] | rw [if_neg (by omega)])); (try (first | rw [if_pos (by omega)] | rw [if_neg (by omega)])); (try (first | rw [if_pos (by omega)] | rw [if_neg (by omega)])); (try (first | rw [if_pos (by omega)] | rw [if_neg (by omega)])); (try rfl))) k) dX4_law_70
      · skip
        refine r_aload_n (pc := 47) C dX4_law_47 rfl 0 rfl ?_
        refine r_getR4 (pc := 48) C 0 (k' := 0) rfl O_40 (by decide) rfl t_216 dX4_law_48 ?_
        refine r_getI0 (pc := 51) C 9 rfl O_0 (by decide) rfl t_126 dX4_law_51 ?_
        refine r_istore_n (pc := 54) C dX4_law_54 rfl (by decide) [1, 2, 3, 0] (lv' := [(0, .ref (gA g 40)), (1, .int (iI (w))), (2, .int (iI (v))), (3, .int (iI (σ 0 9)))]) rfl ?_
        refine r_aload_n (pc := 55) C dX4_law_55 rfl 0 rfl ?_
        refine r_getR4 (pc := 56) C 0 (k' := 0) rfl O_40 (by decide) rfl t_216 dX4_law_56 ?_
        refine r_iload_n (pc := 59) C dX4_law_59 rfl 2 rfl ?_
        refine r_put0 (pc := 60) C 9 rfl O_0 (by decide) rfl t_126 rfl (by decide +kernel) dX4_law_60 ?_
        refine r_iload_n (pc := 63) C dX4_law_63 rfl 3 rfl ?_
        exact r_retT (pc := 64) C (by first | (exfalso; omega; done) | ((try (first | rw [if_pos (by omega)] | rw [if_neg (by omega)])); (try (first | rw [if_pos (by omega)] | rw [if_neg (by omega)])); (try (first | rw [if_pos (by omega)] | rw [if_neg (by omega)])); (try (first | rw [if_pos (by omega)] | rw [if_neg (by omega)])); (try rfl))) (fun k _ => congrFun (by first | (exfalso; omega; done) | ((try (first | rw [if_pos (by omega)] | rw [if_neg (by omega)])); (try (first | rw [if_pos (by omega)] | rw [if_neg (by omega)])); (try (first | rw [if_pos (by omega)] | rw [if_neg (by omega)])); (try (first | rw [if_pos (by omega)] | rw [if_neg (by omega)])); (try rfl))) k) dX4_law_64
  · skip
    refine r_iload_n (pc := 4) C dX4_law_4 rfl 2 rfl ?_
    refine r_iconst (pc := 5) C dX4_law_5 ?_
    refine r_bipush (pc := 6) C dX4_law_6 (by decide) ?_
    refine r_cSi (pc := 8) C (c_isWithin g v 0 99 h_v ⟨by omega, by omega⟩ ⟨by omega, by omega⟩ σ) yX4_isWithin_w rfl t_248 ⟨by decide, by decide⟩ (Nat.le_of_ble_eq_true rfl) rfl dX4_law_8 ?_
    refine r_ifz_eq (pc := 11) C 32 dX4_law_11 (by decide) (fun h11 => ?_) (fun h11 => ?_)
    · skip
      refine r_iload_n (pc := 32) C dX4_law_32 rfl 1 rfl ?_
      refine r_iconst (pc := 33) C dX4_law_33 ?_
      refine r_icmp_ne (pc := 34) C 65 h_w ⟨by omega, by omega⟩ dX4_law_34 (by decide) (fun h34 => ?_) (fun h34 => ?_)
      · skip
        refine r_aload_n (pc := 65) C dX4_law_65 rfl 0 rfl ?_
        refine r_iconst (pc := 66) C dX4_law_66 ?_
        refine r_cVi (pc := 67) C (c_finding g 0 (by decide) σ) yX4_finding_w O_40 rfl rfl t_251 ⟨by decide, by decide⟩ (Nat.le_of_ble_eq_true rfl) rfl dX4_law_67 ?_
        exact r_retT (pc := 70) C (by first | (exfalso; omega; done) | ((try (first | rw [if_pos (by omega)] | rw [if_neg (by omega)])); (try (first | rw [if_pos (by omega)] | rw [if_neg (by omega)])); (try (first | rw [if_pos (by omega)] | rw [if_neg (by omega)])); (try (first | rw [if_pos (by omega)] | rw [if_neg (by omega)])); (try rfl))) (fun k _ => congrFun (by first | (exfalso; omega; done) | ((try (first | rw [if_pos (by omega)] | rw [if_neg (by omega)])); (try (first | rw [if_pos (by omega)] | rw [if_neg (by omega)])); (try (first | rw [if_pos (by omega)] | rw [if_neg (by omega)])); (try (first | rw [if_pos (by omega)] | rw [if_neg (by omega)])); (try rfl))) k) dX4_law_70
      · skip
        refine r_iload_n (pc := 37) C dX4_law_37 rfl 2 rfl ?_
        refine r_bipush (pc := 38) C dX4_law_38 (by decide) ?_
        refine r_iconst (pc := 40) C dX4_law_40 ?_
        refine r_cSi (pc := 41) C (c_isWithin g v (-3) 3 h_v ⟨by omega, by omega⟩ ⟨by omega, by omega⟩ σ) yX4_isWithin_w rfl t_248 ⟨by decide, by decide⟩ (Nat.le_of_ble_eq_true rfl) rfl dX4_law_41 ?_
        refine r_ifz_eq (pc := 44) C 65 dX4_law_44 (by decide) (fun h44 => ?_) (fun h44 => ?_)
        · skip
          refine r_aload_n (pc := 65) C dX4_law_65 rfl 0 rfl ?_
          refine r_iconst (pc := 66) C dX4_law_66 ?_
          refine r_cVi (pc := 67) C (c_finding g 0 (by decide) σ) yX4_finding_w O_40 rfl rfl t_251 ⟨by decide, by decide⟩ (Nat.le_of_ble_eq_true rfl) rfl dX4_law_67 ?_
          exact r_retT (pc := 70) C (by first | (exfalso; omega; done) | ((try (first | rw [if_pos (by omega)] | rw [if_neg (by omega)])); (try (first | rw [if_pos (by omega)] | rw [if_neg (by omega)])); (try (first | rw [if_pos (by omega)] | rw [if_neg (by omega)])); (try (first | rw [if_pos (by omega)] | rw [if_neg (by omega)])); (try rfl))) (fun k _ => congrFun (by first | (exfalso; omega; done) | ((try (first | rw [if_pos (by omega)] | rw [if_neg (by omega)])); (try (first | rw [if_pos (by omega)] | rw [if_neg (by omega)])); (try (first | rw [if_pos (by omega)] | rw [if_neg (by omega)])); (try (first | rw [if_pos (by omega)] | rw [if_neg (by omega)])); (try rfl))) k) dX4_law_70
        · skip
          refine r_aload_n (pc := 47) C dX4_law_47 rfl 0 rfl ?_
          refine r_getR4 (pc := 48) C 0 (k' := 0) rfl O_40 (by decide) rfl t_216 dX4_law_48 ?_
          refine r_getI0 (pc := 51) C 9 rfl O_0 (by decide) rfl t_126 dX4_law_51 ?_
          refine r_istore_n (pc := 54) C dX4_law_54 rfl (by decide) [1, 2, 3, 0] (lv' := [(0, .ref (gA g 40)), (1, .int (iI (w))), (2, .int (iI (v))), (3, .int (iI (σ 0 9)))]) rfl ?_
          refine r_aload_n (pc := 55) C dX4_law_55 rfl 0 rfl ?_
          refine r_getR4 (pc := 56) C 0 (k' := 0) rfl O_40 (by decide) rfl t_216 dX4_law_56 ?_
          refine r_iload_n (pc := 59) C dX4_law_59 rfl 2 rfl ?_
          refine r_put0 (pc := 60) C 9 rfl O_0 (by decide) rfl t_126 rfl (by decide +kernel) dX4_law_60 ?_
          refine r_iload_n (pc := 63) C dX4_law_63 rfl 3 rfl ?_
          exact r_retT (pc := 64) C (by first | (exfalso; omega; done) | ((try (first | rw [if_pos (by omega)] | rw [if_neg (by omega)])); (try (first | rw [if_pos (by omega)] | rw [if_neg (by omega)])); (try (first | rw [if_pos (by omega)] | rw [if_neg (by omega)])); (try (first | rw [if_pos (by omega)] | rw [if_neg (by omega)])); (try rfl))) (fun k _ => congrFun (by first | (exfalso; omega; done) | ((try (first | rw [if_pos (by omega)] | rw [if_neg (by omega)])); (try (first | rw [if_pos (by omega)] | rw [if_neg (by omega)])); (try (first | rw [if_pos (by omega)] | rw [if_neg (by omega)])); (try (first | rw [if_pos (by omega)] | rw [if_neg (by omega)])); (try rfl))) k) dX4_law_64
    · skip
      refine r_aload_n (pc := 14) C dX4_law_14 rfl 0 rfl ?_
      refine r_getR4 (pc := 15) C 0 (k' := 0) rfl O_40 (by decide) rfl t_216 dX4_law_15 ?_
      refine r_getI0 (pc := 18) C 8 rfl O_0 (by decide) rfl t_123 dX4_law_18 ?_
      refine r_istore_n (pc := 21) C dX4_law_21 rfl (by decide) [1, 2, 3, 0] (lv' := [(0, .ref (gA g 40)), (1, .int (iI (w))), (2, .int (iI (v))), (3, .int (iI (σ 0 8)))]) rfl ?_
      refine r_aload_n (pc := 22) C dX4_law_22 rfl 0 rfl ?_
      refine r_getR4 (pc := 23) C 0 (k' := 0) rfl O_40 (by decide) rfl t_216 dX4_law_23 ?_
      refine r_iload_n (pc := 26) C dX4_law_26 rfl 2 rfl ?_
      refine r_put0 (pc := 27) C 8 rfl O_0 (by decide) rfl t_123 rfl (by decide +kernel) dX4_law_27 ?_
      refine r_iload_n (pc := 30) C dX4_law_30 rfl 3 rfl ?_
      exact r_retT (pc := 31) C (by first | (exfalso; omega; done) | ((try (first | rw [if_pos (by omega)] | rw [if_neg (by omega)])); (try (first | rw [if_pos (by omega)] | rw [if_neg (by omega)])); (try (first | rw [if_pos (by omega)] | rw [if_neg (by omega)])); (try (first | rw [if_pos (by omega)] | rw [if_neg (by omega)])); (try rfl))) (fun k _ => congrFun (by first | (exfalso; omega; done) | ((try (first | rw [if_pos (by omega)] | rw [if_neg (by omega)])); (try (first | rw [if_pos (by omega)] | rw [if_neg (by omega)])); (try (first | rw [if_pos (by omega)] | rw [if_neg (by omega)])); (try (first | rw [if_pos (by omega)] | rw [if_neg (by omega)])); (try rfl))) k) dX4_law_31
set_option maxHeartbeats 4000000 in
set_option maxRecDepth 100000 in
theorem d_tenant (g : Gt) (k x : Int) (h_k : rng k) (h_x : rng x) (σ : Sg) (hW : RW σ 0)  : Mt g yX4_tenant cX4_tenant 3 (some FieldType.int) 1 [.ref (gA g 40), .int (iI (k)), .int (iI (x))] σ (pT (if (0 ≤ k ∧ k < 7) ∧ 0 ≤ x ∧ x < 12 then (if 8 ≤ σ 0 7 then (-1000001 - ((1 : Nat) : Int)) else σ 0 7) else (-1000001 - ((0 : Nat) : Int))) (if (0 ≤ k ∧ k < 7) ∧ 0 ≤ x ∧ x < 12 then (if 8 ≤ σ 0 7 then fin 1 σ else adS_0 k x.toNat σ) else fin 0 σ)) := by
  obtain ⟨hn, hfl, hw, hdy, hz, hD_, hK_, hA_, hG_, hM_, hP_⟩ := id hW
  have hD : rgD (σ 1) := hD_
  have hK : rgK (σ 3) := hK_
  have hA : rgA (σ 4) := hA_
  have hG : rgG (σ 5) := hG_
  have hM : rgM (σ 6) := hM_
  have hP : ∀ j, j < 10 → -1 ≤ σ 7 j ∧ σ 7 j < σ 0 7 := hP_
  have ho_k := h_k.1; have hp_k := h_k.2
  have ho_x := h_x.1; have hp_x := h_x.2
  refine mt_of (own := RX4) (by decide) rfl (Nat.le_of_ble_eq_true rfl) (fun E C => ?_)
  show J g E (pT (if (0 ≤ k ∧ k < 7) ∧ 0 ≤ x ∧ x < 12 then (if 8 ≤ σ 0 7 then (-1000001 - ((1 : Nat) : Int)) else σ 0 7) else (-1000001 - ((0 : Nat) : Int))) (if (0 ≤ k ∧ k < 7) ∧ 0 ≤ x ∧ x < 12 then (if 8 ≤ σ 0 7 then fin 1 σ else adS_0 k x.toNat σ) else fin 0 σ)) 3 0 [(0, .ref (gA g 40)), (1, .int (iI (k))), (2, .int (iI (x)))] [] σ
  refine r_iload_n (pc := 0) C dX4_tenant_0 rfl 1 rfl ?_
  refine r_cSi (pc := 1) C (c_isKind g k h_k σ) yX4_isKind_w rfl t_281 ⟨by decide, by decide⟩ (Nat.le_of_ble_eq_true rfl) rfl dX4_tenant_1 ?_
  refine r_ifz_eq (pc := 4) C 14 dX4_tenant_4 (by decide) (fun h4 => ?_) (fun h4 => ?_)
  · skip
    refine r_aload_n (pc := 14) C dX4_tenant_14 rfl 0 rfl ?_
    refine r_iconst (pc := 15) C dX4_tenant_15 ?_
    refine r_cVi (pc := 16) C (c_finding g 0 (by decide) σ) yX4_finding_w O_40 rfl rfl t_251 ⟨by decide, by decide⟩ (Nat.le_of_ble_eq_true rfl) rfl dX4_tenant_16 ?_
    exact r_retT (pc := 19) C (by first | (exfalso; omega; done) | ((try (first | rw [if_pos (by omega)] | rw [if_neg (by omega)])); (try (first | rw [if_pos (by omega)] | rw [if_neg (by omega)])); (try (first | rw [if_pos (by omega)] | rw [if_neg (by omega)])); (try (first | rw [if_pos (by omega)] | rw [if_neg (by omega)])); (try rfl))) (fun k _ => congrFun (by first | (exfalso; omega; done) | ((try (first | rw [if_pos (by omega)] | rw [if_neg (by omega)])); (try (first | rw [if_pos (by omega)] | rw [if_neg (by omega)])); (try (first | rw [if_pos (by omega)] | rw [if_neg (by omega)])); (try (first | rw [if_pos (by omega)] | rw [if_neg (by omega)])); (try rfl))) k) dX4_tenant_19
  · skip
    refine r_iload_n (pc := 7) C dX4_tenant_7 rfl 2 rfl ?_
    refine r_cSi (pc := 8) C (c_isSurface g x h_x σ) yX4_isSurface_w rfl t_245 ⟨by decide, by decide⟩ (Nat.le_of_ble_eq_true rfl) rfl dX4_tenant_8 ?_
    refine r_ifz_ne (pc := 11) C 20 dX4_tenant_11 (by decide) (fun h11 => ?_) (fun h11 => ?_)
    · skip
      refine r_aload_n (pc := 20) C dX4_tenant_20 rfl 0 rfl ?_
      refine r_getR4 (pc := 21) C 0 (k' := 0) rfl O_40 (by decide) rfl t_216 dX4_tenant_21 ?_
      refine r_getI0 (pc := 24) C 7 rfl O_0 (by decide) rfl t_120 dX4_tenant_24 ?_
      refine r_bipush (pc := 27) C dX4_tenant_27 (by decide) ?_
      refine r_icmp_lt (pc := 29) C 38 ⟨by omega, by omega⟩ ⟨by omega, by omega⟩ dX4_tenant_29 (by decide) (fun h29 => ?_) (fun h29 => ?_)
      · skip
        refine r_aload_n (pc := 38) C dX4_tenant_38 rfl 0 rfl ?_
        refine r_getR4 (pc := 39) C 0 (k' := 0) rfl O_40 (by decide) rfl t_216 dX4_tenant_39 ?_
        refine r_iload_n (pc := 42) C dX4_tenant_42 rfl 1 rfl ?_
        refine r_iload_n (pc := 43) C dX4_tenant_43 rfl 2 rfl ?_
        refine r_cVi (pc := 44) C (c_addTenant_0 g k x.toNat σ (by omega)) yX0_addTenant_w O_0 rfl rfl t_284 ⟨by decide, by decide⟩ (Nat.le_of_ble_eq_true rfl) (by rw [show ((x.toNat : Nat) : Int) = x by omega]; rfl) dX4_tenant_44 ?_
        exact r_retT (pc := 47) C (by first | (exfalso; omega; done) | ((try (first | rw [if_pos (by omega)] | rw [if_neg (by omega)])); (try (first | rw [if_pos (by omega)] | rw [if_neg (by omega)])); (try (first | rw [if_pos (by omega)] | rw [if_neg (by omega)])); (try (first | rw [if_pos (by omega)] | rw [if_neg (by omega)])); (try rfl))) (fun k _ => congrFun (by first | (exfalso; omega; done) | ((try (first | rw [if_pos (by omega)] | rw [if_neg (by omega)])); (try (first | rw [if_pos (by omega)] | rw [if_neg (by omega)])); (try (first | rw [if_pos (by omega)] | rw [if_neg (by omega)])); (try (first | rw [if_pos (by omega)] | rw [if_neg (by omega)])); (try rfl))) k) dX4_tenant_47
      · skip
        refine r_aload_n (pc := 32) C dX4_tenant_32 rfl 0 rfl ?_
        refine r_iconst (pc := 33) C dX4_tenant_33 ?_
        refine r_cVi (pc := 34) C (c_finding g 1 (by decide) σ) yX4_finding_w O_40 rfl rfl t_251 ⟨by decide, by decide⟩ (Nat.le_of_ble_eq_true rfl) rfl dX4_tenant_34 ?_
        exact r_retT (pc := 37) C (by first | (exfalso; omega; done) | ((try (first | rw [if_pos (by omega)] | rw [if_neg (by omega)])); (try (first | rw [if_pos (by omega)] | rw [if_neg (by omega)])); (try (first | rw [if_pos (by omega)] | rw [if_neg (by omega)])); (try (first | rw [if_pos (by omega)] | rw [if_neg (by omega)])); (try rfl))) (fun k _ => congrFun (by first | (exfalso; omega; done) | ((try (first | rw [if_pos (by omega)] | rw [if_neg (by omega)])); (try (first | rw [if_pos (by omega)] | rw [if_neg (by omega)])); (try (first | rw [if_pos (by omega)] | rw [if_neg (by omega)])); (try (first | rw [if_pos (by omega)] | rw [if_neg (by omega)])); (try rfl))) k) dX4_tenant_37
    · skip
      refine r_aload_n (pc := 14) C dX4_tenant_14 rfl 0 rfl ?_
      refine r_iconst (pc := 15) C dX4_tenant_15 ?_
      refine r_cVi (pc := 16) C (c_finding g 0 (by decide) σ) yX4_finding_w O_40 rfl rfl t_251 ⟨by decide, by decide⟩ (Nat.le_of_ble_eq_true rfl) rfl dX4_tenant_16 ?_
      exact r_retT (pc := 19) C (by first | (exfalso; omega; done) | ((try (first | rw [if_pos (by omega)] | rw [if_neg (by omega)])); (try (first | rw [if_pos (by omega)] | rw [if_neg (by omega)])); (try (first | rw [if_pos (by omega)] | rw [if_neg (by omega)])); (try (first | rw [if_pos (by omega)] | rw [if_neg (by omega)])); (try rfl))) (fun k _ => congrFun (by first | (exfalso; omega; done) | ((try (first | rw [if_pos (by omega)] | rw [if_neg (by omega)])); (try (first | rw [if_pos (by omega)] | rw [if_neg (by omega)])); (try (first | rw [if_pos (by omega)] | rw [if_neg (by omega)])); (try (first | rw [if_pos (by omega)] | rw [if_neg (by omega)])); (try rfl))) k) dX4_tenant_19
set_option maxHeartbeats 4000000 in
set_option maxRecDepth 100000 in
theorem d_of (g : Gt) (x w : Int) (h_x : rng x) (h_w : rng w) (σ : Sg) (hW : RW σ 0)  : Mt g yX4_of cX4_of 3 (some FieldType.int) 2 [.ref (gA g 40), .int (iI (x)), .int (iI (w))] σ (pT (if 0 ≤ x ∧ x < σ 0 7 ∧ 0 ≤ w ∧ w ≤ 6 then (if w = 0 then σ 3 x.toNat else if w = 1 then σ 4 x.toNat else if w = 2 then σ 5 x.toNat else if w = 3 then leav (σ 3 x.toNat) (σ 1 (σ 4 x.toNat).toNat) (σ 5 x.toNat) else if w = 4 then stab 1 (σ 3 x.toNat).toNat else if w = 5 then setF (fun f => decide (holder (σ 0 7) (σ 6) f = x)) 12 else sumF (fun f => σ 6 (12 * x.toNat + f)) 12) else (-1000001 - ((0 : Nat) : Int))) (if 0 ≤ x ∧ x < σ 0 7 ∧ 0 ≤ w ∧ w ≤ 6 then σ else fin 0 σ)) := by
  obtain ⟨hn, hfl, hw, hdy, hz, hD_, hK_, hA_, hG_, hM_, hP_⟩ := id hW
  have hD : rgD (σ 1) := hD_
  have hK : rgK (σ 3) := hK_
  have hA : rgA (σ 4) := hA_
  have hG : rgG (σ 5) := hG_
  have hM : rgM (σ 6) := hM_
  have hP : ∀ j, j < 10 → -1 ≤ σ 7 j ∧ σ 7 j < σ 0 7 := hP_
  have ho_x := h_x.1; have hp_x := h_x.2
  have ho_w := h_w.1; have hp_w := h_w.2
  refine mt_of (own := RX4) (by decide) rfl (Nat.le_of_ble_eq_true rfl) (fun E C => ?_)
  show J g E (pT (if 0 ≤ x ∧ x < σ 0 7 ∧ 0 ≤ w ∧ w ≤ 6 then (if w = 0 then σ 3 x.toNat else if w = 1 then σ 4 x.toNat else if w = 2 then σ 5 x.toNat else if w = 3 then leav (σ 3 x.toNat) (σ 1 (σ 4 x.toNat).toNat) (σ 5 x.toNat) else if w = 4 then stab 1 (σ 3 x.toNat).toNat else if w = 5 then setF (fun f => decide (holder (σ 0 7) (σ 6) f = x)) 12 else sumF (fun f => σ 6 (12 * x.toNat + f)) 12) else (-1000001 - ((0 : Nat) : Int))) (if 0 ≤ x ∧ x < σ 0 7 ∧ 0 ≤ w ∧ w ≤ 6 then σ else fin 0 σ)) 3 0 [(0, .ref (gA g 40)), (1, .int (iI (x))), (2, .int (iI (w)))] [] σ
  refine r_aload_n (pc := 0) C dX4_of_0 rfl 0 rfl ?_
  refine r_iload_n (pc := 1) C dX4_of_1 rfl 1 rfl ?_
  refine r_cVi (pc := 2) C (c_isTenant g x h_x σ (by omega)) yX4_isTenant_w O_40 rfl rfl t_292 ⟨by decide, by decide⟩ (Nat.le_of_ble_eq_true rfl) rfl dX4_of_2 ?_
  refine r_ifz_ne (pc := 5) C 14 dX4_of_5 (by decide) (fun h5 => ?_) (fun h5 => ?_)
  · skip
    refine r_iload_n (pc := 14) C dX4_of_14 rfl 2 rfl ?_
    by_cases hs15_0 : w = 0
    · refine r_tabIn C 0 56 dX4_of_15 hs15_0 ⟨by decide, by decide⟩ (by decide) (by decide) rfl (by decide) ?_
      refine r_aload_n (pc := 56) C dX4_of_56 rfl 0 rfl ?_
      refine r_getR4 (pc := 57) C 0 (k' := 0) rfl O_40 (by decide) rfl t_216 dX4_of_57 ?_
      refine r_getR0 (pc := 60) C 2 (k' := 3) rfl O_0 (by decide) rfl t_108 dX4_of_60 ?_
      refine r_iload_n (pc := 63) C dX4_of_63 rfl 1 rfl ?_
      refine r_iald (pc := 64) C x.toNat A_3 (by omega) (by omega) dX4_of_64 ?_
      exact r_retT (pc := 65) C (by first | (exfalso; omega; done) | ((first | rw [if_pos (by omega)] | rw [if_neg (by omega)]); (try (first | rw [if_pos (by omega)] | rw [if_neg (by omega)])); (try (first | rw [if_pos (by omega)] | rw [if_neg (by omega)])); (try (first | rw [if_pos (by omega)] | rw [if_neg (by omega)])); (try (first | rw [if_pos (by omega)] | rw [if_neg (by omega)])); (try (first | rw [if_pos (by omega)] | rw [if_neg (by omega)])); (try (first | rw [if_pos (by omega)] | rw [if_neg (by omega)])); (try (first | rw [if_pos (by omega)] | rw [if_neg (by omega)])); (try rfl))) (fun k _ => congrFun (by first | (exfalso; omega; done) | ((try (first | rw [if_pos (by omega)] | rw [if_neg (by omega)])); (try (first | rw [if_pos (by omega)] | rw [if_neg (by omega)])); (try (first | rw [if_pos (by omega)] | rw [if_neg (by omega)])); (try (first | rw [if_pos (by omega)] | rw [if_neg (by omega)])); (try rfl))) k) dX4_of_65
    by_cases hs15_1 : w = 1
    · refine r_tabIn C 1 66 dX4_of_15 hs15_1 ⟨by decide, by decide⟩ (by decide) (by decide) rfl (by decide) ?_
      refine r_aload_n (pc := 66) C dX4_of_66 rfl 0 rfl ?_
      refine r_getR4 (pc := 67) C 0 (k' := 0) rfl O_40 (by decide) rfl t_216 dX4_of_67 ?_
      refine r_getR0 (pc := 70) C 3 (k' := 4) rfl O_0 (by decide) rfl t_110 dX4_of_70 ?_
      refine r_iload_n (pc := 73) C dX4_of_73 rfl 1 rfl ?_
      refine r_iald (pc := 74) C x.toNat A_4 (by omega) (by omega) dX4_of_74 ?_
      exact r_retT (pc := 75) C (by first | (exfalso; omega; done) | ((first | rw [if_pos (by omega)] | rw [if_neg (by omega)]); (try (first | rw [if_pos (by omega)] | rw [if_neg (by omega)])); (try (first | rw [if_pos (by omega)] | rw [if_neg (by omega)])); (try (first | rw [if_pos (by omega)] | rw [if_neg (by omega)])); (try (first | rw [if_pos (by omega)] | rw [if_neg (by omega)])); (try (first | rw [if_pos (by omega)] | rw [if_neg (by omega)])); (try (first | rw [if_pos (by omega)] | rw [if_neg (by omega)])); (try (first | rw [if_pos (by omega)] | rw [if_neg (by omega)])); (try rfl))) (fun k _ => congrFun (by first | (exfalso; omega; done) | ((try (first | rw [if_pos (by omega)] | rw [if_neg (by omega)])); (try (first | rw [if_pos (by omega)] | rw [if_neg (by omega)])); (try (first | rw [if_pos (by omega)] | rw [if_neg (by omega)])); (try (first | rw [if_pos (by omega)] | rw [if_neg (by omega)])); (try rfl))) k) dX4_of_75
    by_cases hs15_2 : w = 2
    · refine r_tabIn C 2 76 dX4_of_15 hs15_2 ⟨by decide, by decide⟩ (by decide) (by decide) rfl (by decide) ?_
      refine r_aload_n (pc := 76) C dX4_of_76 rfl 0 rfl ?_
      refine r_getR4 (pc := 77) C 0 (k' := 0) rfl O_40 (by decide) rfl t_216 dX4_of_77 ?_
      refine r_getR0 (pc := 80) C 4 (k' := 5) rfl O_0 (by decide) rfl t_112 dX4_of_80 ?_
      refine r_iload_n (pc := 83) C dX4_of_83 rfl 1 rfl ?_
      refine r_iald (pc := 84) C x.toNat A_5 (by omega) (by omega) dX4_of_84 ?_
      exact r_retT (pc := 85) C (by first | (exfalso; omega; done) | ((first | rw [if_pos (by omega)] | rw [if_neg (by omega)]); (try (first | rw [if_pos (by omega)] | rw [if_neg (by omega)])); (try (first | rw [if_pos (by omega)] | rw [if_neg (by omega)])); (try (first | rw [if_pos (by omega)] | rw [if_neg (by omega)])); (try (first | rw [if_pos (by omega)] | rw [if_neg (by omega)])); (try (first | rw [if_pos (by omega)] | rw [if_neg (by omega)])); (try (first | rw [if_pos (by omega)] | rw [if_neg (by omega)])); (try (first | rw [if_pos (by omega)] | rw [if_neg (by omega)])); (try rfl))) (fun k _ => congrFun (by first | (exfalso; omega; done) | ((try (first | rw [if_pos (by omega)] | rw [if_neg (by omega)])); (try (first | rw [if_pos (by omega)] | rw [if_neg (by omega)])); (try (first | rw [if_pos (by omega)] | rw [if_neg (by omega)])); (try (first | rw [if_pos (by omega)] | rw [if_neg (by omega)])); (try rfl))) k) dX4_of_85
    by_cases hs15_3 : w = 3
    · refine r_tabIn C 3 86 dX4_of_15 hs15_3 ⟨by decide, by decide⟩ (by decide) (by decide) rfl (by decide) ?_
      refine r_aload_n (pc := 86) C dX4_of_86 rfl 0 rfl ?_
      refine r_getR4 (pc := 87) C 0 (k' := 0) rfl O_40 (by decide) rfl t_216 dX4_of_87 ?_
      refine r_iload_n (pc := 90) C dX4_of_90 rfl 1 rfl ?_
      refine r_cVi (pc := 91) C (c_leavesOf_0 g x.toNat (by omega) σ hD hK hA hG) yX0_leavesOf_w O_0 rfl rfl t_296 ⟨by decide, by decide⟩ (Nat.le_of_ble_eq_true rfl) (by rw [show ((x.toNat : Nat) : Int) = x by omega]; rfl) dX4_of_91 ?_
      exact r_retT (pc := 94) C (by first | (exfalso; omega; done) | ((first | rw [if_pos (by omega)] | rw [if_neg (by omega)]); (try (first | rw [if_pos (by omega)] | rw [if_neg (by omega)])); (try (first | rw [if_pos (by omega)] | rw [if_neg (by omega)])); (try (first | rw [if_pos (by omega)] | rw [if_neg (by omega)])); (try (first | rw [if_pos (by omega)] | rw [if_neg (by omega)])); (try (first | rw [if_pos (by omega)] | rw [if_neg (by omega)])); (try (first | rw [if_pos (by omega)] | rw [if_neg (by omega)])); (try (first | rw [if_pos (by omega)] | rw [if_neg (by omega)])); (try rfl))) (fun k _ => congrFun (by first | (exfalso; omega; done) | ((try (first | rw [if_pos (by omega)] | rw [if_neg (by omega)])); (try (first | rw [if_pos (by omega)] | rw [if_neg (by omega)])); (try (first | rw [if_pos (by omega)] | rw [if_neg (by omega)])); (try (first | rw [if_pos (by omega)] | rw [if_neg (by omega)])); (try rfl))) k) dX4_of_94
    by_cases hs15_4 : w = 4
    · refine r_tabIn C 4 95 dX4_of_15 hs15_4 ⟨by decide, by decide⟩ (by decide) (by decide) rfl (by decide) ?_
      refine r_gets (pc := 95) C F_sw t_302 dX4_of_95 ?_
      refine r_aload_n (pc := 98) C dX4_of_98 rfl 0 rfl ?_
      refine r_getR4 (pc := 99) C 0 (k' := 0) rfl O_40 (by decide) rfl t_216 dX4_of_99 ?_
      refine r_getR0 (pc := 102) C 2 (k' := 3) rfl O_0 (by decide) rfl t_108 dX4_of_102 ?_
      refine r_iload_n (pc := 105) C dX4_of_105 rfl 1 rfl ?_
      refine r_iald (pc := 106) C x.toNat A_3 (by omega) (by omega) dX4_of_106 ?_
      have hk := hK x.toNat (by omega)
      refine r_tald (pc := 107) C ((σ 3 x.toNat).toNat) F_sw (by omega) (by omega) dX4_of_107 ?_
      exact r_retT (pc := 108) C (by first | (exfalso; omega; done) | ((first | rw [if_pos (by omega)] | rw [if_neg (by omega)]); (try (first | rw [if_pos (by omega)] | rw [if_neg (by omega)])); (try (first | rw [if_pos (by omega)] | rw [if_neg (by omega)])); (try (first | rw [if_pos (by omega)] | rw [if_neg (by omega)])); (try (first | rw [if_pos (by omega)] | rw [if_neg (by omega)])); (try (first | rw [if_pos (by omega)] | rw [if_neg (by omega)])); (try (first | rw [if_pos (by omega)] | rw [if_neg (by omega)])); (try (first | rw [if_pos (by omega)] | rw [if_neg (by omega)])); (try rfl))) (fun k _ => congrFun (by first | (exfalso; omega; done) | ((try (first | rw [if_pos (by omega)] | rw [if_neg (by omega)])); (try (first | rw [if_pos (by omega)] | rw [if_neg (by omega)])); (try (first | rw [if_pos (by omega)] | rw [if_neg (by omega)])); (try (first | rw [if_pos (by omega)] | rw [if_neg (by omega)])); (try rfl))) k) dX4_of_108
    by_cases hs15_5 : w = 5
    · refine r_tabIn C 5 109 dX4_of_15 hs15_5 ⟨by decide, by decide⟩ (by decide) (by decide) rfl (by decide) ?_
      refine r_aload_n (pc := 109) C dX4_of_109 rfl 0 rfl ?_
      refine r_getR4 (pc := 110) C 0 (k' := 0) rfl O_40 (by decide) rfl t_216 dX4_of_110 ?_
      refine r_iload_n (pc := 113) C dX4_of_113 rfl 1 rfl ?_
      refine r_cVi (pc := 114) C (c_heldBy_0 g x h_x σ hn hM) yX0_heldBy_w O_0 rfl rfl t_304 ⟨by decide, by decide⟩ (Nat.le_of_ble_eq_true rfl) rfl dX4_of_114 ?_
      exact r_retT (pc := 117) C (by first | (exfalso; omega; done) | ((first | rw [if_pos (by omega)] | rw [if_neg (by omega)]); (try (first | rw [if_pos (by omega)] | rw [if_neg (by omega)])); (try (first | rw [if_pos (by omega)] | rw [if_neg (by omega)])); (try (first | rw [if_pos (by omega)] | rw [if_neg (by omega)])); (try (first | rw [if_pos (by omega)] | rw [if_neg (by omega)])); (try (first | rw [if_pos (by omega)] | rw [if_neg (by omega)])); (try (first | rw [if_pos (by omega)] | rw [if_neg (by omega)])); (try (first | rw [if_pos (by omega)] | rw [if_neg (by omega)])); (try rfl))) (fun k _ => congrFun (by first | (exfalso; omega; done) | ((try (first | rw [if_pos (by omega)] | rw [if_neg (by omega)])); (try (first | rw [if_pos (by omega)] | rw [if_neg (by omega)])); (try (first | rw [if_pos (by omega)] | rw [if_neg (by omega)])); (try (first | rw [if_pos (by omega)] | rw [if_neg (by omega)])); (try rfl))) k) dX4_of_117
    by_cases hs15_6 : w = 6
    · refine r_tabIn C 6 118 dX4_of_15 hs15_6 ⟨by decide, by decide⟩ (by decide) (by decide) rfl (by decide) ?_
      refine r_aload_n (pc := 118) C dX4_of_118 rfl 0 rfl ?_
      refine r_getR4 (pc := 119) C 0 (k' := 0) rfl O_40 (by decide) rfl t_216 dX4_of_119 ?_
      refine r_iload_n (pc := 122) C dX4_of_122 rfl 1 rfl ?_
      refine r_cVi (pc := 123) C (c_marksOf_0 g x.toNat (by omega) σ ) yX0_marksOf_w O_0 rfl rfl t_308 ⟨by decide, by decide⟩ (Nat.le_of_ble_eq_true rfl) (by rw [show ((x.toNat : Nat) : Int) = x by omega]; rfl) dX4_of_123 ?_
      exact r_retT (pc := 126) C (by first | (exfalso; omega; done) | ((first | rw [if_pos (by omega)] | rw [if_neg (by omega)]); (try (first | rw [if_pos (by omega)] | rw [if_neg (by omega)])); (try (first | rw [if_pos (by omega)] | rw [if_neg (by omega)])); (try (first | rw [if_pos (by omega)] | rw [if_neg (by omega)])); (try (first | rw [if_pos (by omega)] | rw [if_neg (by omega)])); (try (first | rw [if_pos (by omega)] | rw [if_neg (by omega)])); (try (first | rw [if_pos (by omega)] | rw [if_neg (by omega)])); (try (first | rw [if_pos (by omega)] | rw [if_neg (by omega)])); (try rfl))) (fun k _ => congrFun (by first | (exfalso; omega; done) | ((try (first | rw [if_pos (by omega)] | rw [if_neg (by omega)])); (try (first | rw [if_pos (by omega)] | rw [if_neg (by omega)])); (try (first | rw [if_pos (by omega)] | rw [if_neg (by omega)])); (try (first | rw [if_pos (by omega)] | rw [if_neg (by omega)])); (try rfl))) k) dX4_of_126
    refine r_tabOut (pc := 15) C 127 dX4_of_15 h_w (by omega) (by decide) ?_
    refine r_aload_n (pc := 127) C dX4_of_127 rfl 0 rfl ?_
    refine r_iconst (pc := 128) C dX4_of_128 ?_
    refine r_cVi (pc := 129) C (c_finding g 0 (by decide) σ) yX4_finding_w O_40 rfl rfl t_251 ⟨by decide, by decide⟩ (Nat.le_of_ble_eq_true rfl) rfl dX4_of_129 ?_
    exact r_retT (pc := 132) C (by first | (exfalso; omega; done) | ((first | rw [if_pos (by omega)] | rw [if_neg (by omega)]); (try (first | rw [if_pos (by omega)] | rw [if_neg (by omega)])); (try (first | rw [if_pos (by omega)] | rw [if_neg (by omega)])); (try (first | rw [if_pos (by omega)] | rw [if_neg (by omega)])); (try (first | rw [if_pos (by omega)] | rw [if_neg (by omega)])); (try (first | rw [if_pos (by omega)] | rw [if_neg (by omega)])); (try (first | rw [if_pos (by omega)] | rw [if_neg (by omega)])); (try (first | rw [if_pos (by omega)] | rw [if_neg (by omega)])); (try rfl))) (fun k _ => congrFun (by first | (exfalso; omega; done) | ((try (first | rw [if_pos (by omega)] | rw [if_neg (by omega)])); (try (first | rw [if_pos (by omega)] | rw [if_neg (by omega)])); (try (first | rw [if_pos (by omega)] | rw [if_neg (by omega)])); (try (first | rw [if_pos (by omega)] | rw [if_neg (by omega)])); (try rfl))) k) dX4_of_132
  · skip
    refine r_aload_n (pc := 8) C dX4_of_8 rfl 0 rfl ?_
    refine r_iconst (pc := 9) C dX4_of_9 ?_
    refine r_cVi (pc := 10) C (c_finding g 0 (by decide) σ) yX4_finding_w O_40 rfl rfl t_251 ⟨by decide, by decide⟩ (Nat.le_of_ble_eq_true rfl) rfl dX4_of_10 ?_
    exact r_retT (pc := 13) C (by first | (exfalso; omega; done) | ((first | rw [if_pos (by omega)] | rw [if_neg (by omega)]); (try (first | rw [if_pos (by omega)] | rw [if_neg (by omega)])); (try (first | rw [if_pos (by omega)] | rw [if_neg (by omega)])); (try (first | rw [if_pos (by omega)] | rw [if_neg (by omega)])); (try (first | rw [if_pos (by omega)] | rw [if_neg (by omega)])); (try (first | rw [if_pos (by omega)] | rw [if_neg (by omega)])); (try (first | rw [if_pos (by omega)] | rw [if_neg (by omega)])); (try (first | rw [if_pos (by omega)] | rw [if_neg (by omega)])); (try rfl))) (fun k _ => congrFun (by first | (exfalso; omega; done) | ((try (first | rw [if_pos (by omega)] | rw [if_neg (by omega)])); (try (first | rw [if_pos (by omega)] | rw [if_neg (by omega)])); (try (first | rw [if_pos (by omega)] | rw [if_neg (by omega)])); (try (first | rw [if_pos (by omega)] | rw [if_neg (by omega)])); (try rfl))) k) dX4_of_13
set_option maxHeartbeats 4000000 in
set_option maxRecDepth 100000 in
theorem d_change (g : Gt) (x w v : Int) (h_x : rng x) (h_w : rng w) (h_v : rng v) (σ : Sg) (hW : RW σ 0)  : Mt g yX4_change cX4_change 4 (some FieldType.int) 1 [.ref (gA g 40), .int (iI (x)), .int (iI (w)), .int (iI (v))] σ (pT (if (0 ≤ x ∧ x < σ 0 7) ∧ w = 0 ∧ 0 ≤ v ∧ v < 7 then σ 3 x.toNat else if (0 ≤ x ∧ x < σ 0 7) ∧ w = 1 ∧ 0 ≤ v ∧ v < 12 then σ 4 x.toNat else if (0 ≤ x ∧ x < σ 0 7) ∧ w = 2 ∧ 0 ≤ v ∧ v ≤ 99999 then σ 5 x.toNat else (-1000001 - ((0 : Nat) : Int))) (if (0 ≤ x ∧ x < σ 0 7) ∧ w = 0 ∧ 0 ≤ v ∧ v < 7 then wr σ 3 x.toNat v else if (0 ≤ x ∧ x < σ 0 7) ∧ w = 1 ∧ 0 ≤ v ∧ v < 12 then wr σ 4 x.toNat v else if (0 ≤ x ∧ x < σ 0 7) ∧ w = 2 ∧ 0 ≤ v ∧ v ≤ 99999 then wr σ 5 x.toNat v else fin 0 σ)) := by
  obtain ⟨hn, hfl, hw, hdy, hz, hD_, hK_, hA_, hG_, hM_, hP_⟩ := id hW
  have hD : rgD (σ 1) := hD_
  have hK : rgK (σ 3) := hK_
  have hA : rgA (σ 4) := hA_
  have hG : rgG (σ 5) := hG_
  have hM : rgM (σ 6) := hM_
  have hP : ∀ j, j < 10 → -1 ≤ σ 7 j ∧ σ 7 j < σ 0 7 := hP_
  have ho_x := h_x.1; have hp_x := h_x.2
  have ho_w := h_w.1; have hp_w := h_w.2
  have ho_v := h_v.1; have hp_v := h_v.2
  refine mt_of (own := RX4) (by decide) rfl (Nat.le_of_ble_eq_true rfl) (fun E C => ?_)
  show J g E (pT (if (0 ≤ x ∧ x < σ 0 7) ∧ w = 0 ∧ 0 ≤ v ∧ v < 7 then σ 3 x.toNat else if (0 ≤ x ∧ x < σ 0 7) ∧ w = 1 ∧ 0 ≤ v ∧ v < 12 then σ 4 x.toNat else if (0 ≤ x ∧ x < σ 0 7) ∧ w = 2 ∧ 0 ≤ v ∧ v ≤ 99999 then σ 5 x.toNat else (-1000001 - ((0 : Nat) : Int))) (if (0 ≤ x ∧ x < σ 0 7) ∧ w = 0 ∧ 0 ≤ v ∧ v < 7 then wr σ 3 x.toNat v else if (0 ≤ x ∧ x < σ 0 7) ∧ w = 1 ∧ 0 ≤ v ∧ v < 12 then wr σ 4 x.toNat v else if (0 ≤ x ∧ x < σ 0 7) ∧ w = 2 ∧ 0 ≤ v ∧ v ≤ 99999 then wr σ 5 x.toNat v else fin 0 σ)) 4 0 [(0, .ref (gA g 40)), (1, .int (iI (x))), (2, .int (iI (w))), (3, .int (iI (v)))] [] σ
  refine r_aload_n (pc := 0) C dX4_change_0 rfl 0 rfl ?_
  refine r_iload_n (pc := 1) C dX4_change_1 rfl 1 rfl ?_
  refine r_cVi (pc := 2) C (c_isTenant g x h_x σ (by omega)) yX4_isTenant_w O_40 rfl rfl t_292 ⟨by decide, by decide⟩ (Nat.le_of_ble_eq_true rfl) rfl dX4_change_2 ?_
  refine r_ifz_ne (pc := 5) C 14 dX4_change_5 (by decide) (fun h5 => ?_) (fun h5 => ?_)
  · skip
    refine r_iload_n (pc := 14) C dX4_change_14 rfl 2 rfl ?_
    refine r_if_ne (pc := 15) C 38 h_w dX4_change_15 (by decide) (fun h15 => ?_) (fun h15 => ?_)
    · skip
      refine r_iload_n (pc := 38) C dX4_change_38 rfl 2 rfl ?_
      refine r_iconst (pc := 39) C dX4_change_39 ?_
      refine r_icmp_ne (pc := 40) C 63 h_w ⟨by omega, by omega⟩ dX4_change_40 (by decide) (fun h40 => ?_) (fun h40 => ?_)
      · skip
        refine r_iload_n (pc := 63) C dX4_change_63 rfl 2 rfl ?_
        refine r_iconst (pc := 64) C dX4_change_64 ?_
        refine r_icmp_ne (pc := 65) C 91 h_w ⟨by omega, by omega⟩ dX4_change_65 (by decide) (fun h65 => ?_) (fun h65 => ?_)
        · skip
          refine r_aload_n (pc := 91) C dX4_change_91 rfl 0 rfl ?_
          refine r_iconst (pc := 92) C dX4_change_92 ?_
          refine r_cVi (pc := 93) C (c_finding g 0 (by decide) σ) yX4_finding_w O_40 rfl rfl t_251 ⟨by decide, by decide⟩ (Nat.le_of_ble_eq_true rfl) rfl dX4_change_93 ?_
          exact r_retT (pc := 96) C (by first | (exfalso; omega; done) | ((try (first | rw [if_pos (by omega)] | rw [if_neg (by omega)])); (try (first | rw [if_pos (by omega)] | rw [if_neg (by omega)])); (try (first | rw [if_pos (by omega)] | rw [if_neg (by omega)])); (try (first | rw [if_pos (by omega)] | rw [if_neg (by omega)])); (try rfl))) (fun k _ => congrFun (by first | (exfalso; omega; done) | ((try (first | rw [if_pos (by omega)] | rw [if_neg (by omega)])); (try (first | rw [if_pos (by omega)] | rw [if_neg (by omega)])); (try (first | rw [if_pos (by omega)] | rw [if_neg (by omega)])); (try (first | rw [if_pos (by omega)] | rw [if_neg (by omega)])); (try rfl))) k) dX4_change_96
        · skip
          refine r_iload_n (pc := 68) C dX4_change_68 rfl 3 rfl ?_
          refine r_iconst (pc := 69) C dX4_change_69 ?_
          refine r_ldc (pc := 70) C 99999 t_319 (by decide) dX4_change_70 ?_
          refine r_cSi (pc := 72) C (c_isWithin g v 0 99999 h_v ⟨by omega, by omega⟩ ⟨by omega, by omega⟩ σ) yX4_isWithin_w rfl t_248 ⟨by decide, by decide⟩ (Nat.le_of_ble_eq_true rfl) rfl dX4_change_72 ?_
          refine r_ifz_eq (pc := 75) C 91 dX4_change_75 (by decide) (fun h75 => ?_) (fun h75 => ?_)
          · skip
            refine r_aload_n (pc := 91) C dX4_change_91 rfl 0 rfl ?_
            refine r_iconst (pc := 92) C dX4_change_92 ?_
            refine r_cVi (pc := 93) C (c_finding g 0 (by decide) σ) yX4_finding_w O_40 rfl rfl t_251 ⟨by decide, by decide⟩ (Nat.le_of_ble_eq_true rfl) rfl dX4_change_93 ?_
            exact r_retT (pc := 96) C (by first | (exfalso; omega; done) | ((try (first | rw [if_pos (by omega)] | rw [if_neg (by omega)])); (try (first | rw [if_pos (by omega)] | rw [if_neg (by omega)])); (try (first | rw [if_pos (by omega)] | rw [if_neg (by omega)])); (try (first | rw [if_pos (by omega)] | rw [if_neg (by omega)])); (try rfl))) (fun k _ => congrFun (by first | (exfalso; omega; done) | ((try (first | rw [if_pos (by omega)] | rw [if_neg (by omega)])); (try (first | rw [if_pos (by omega)] | rw [if_neg (by omega)])); (try (first | rw [if_pos (by omega)] | rw [if_neg (by omega)])); (try (first | rw [if_pos (by omega)] | rw [if_neg (by omega)])); (try rfl))) k) dX4_change_96
          · skip
            refine r_aload_n (pc := 78) C dX4_change_78 rfl 0 rfl ?_
            refine r_getR4 (pc := 79) C 0 (k' := 0) rfl O_40 (by decide) rfl t_216 dX4_change_79 ?_
            refine r_getR0 (pc := 82) C 4 (k' := 5) rfl O_0 (by decide) rfl t_112 dX4_change_82 ?_
            refine r_iload_n (pc := 85) C dX4_change_85 rfl 1 rfl ?_
            refine r_iload_n (pc := 86) C dX4_change_86 rfl 3 rfl ?_
            refine r_cSi (pc := 87) C (c_put_5 g x.toNat (by omega) v σ) yX4_put_w rfl t_316 ⟨by decide, by decide⟩ (Nat.le_of_ble_eq_true rfl) (by rw [show ((x.toNat : Nat) : Int) = x by omega]; rfl) dX4_change_87 ?_
            exact r_retT (pc := 90) C (by first | (exfalso; omega; done) | ((try (first | rw [if_pos (by omega)] | rw [if_neg (by omega)])); (try (first | rw [if_pos (by omega)] | rw [if_neg (by omega)])); (try (first | rw [if_pos (by omega)] | rw [if_neg (by omega)])); (try (first | rw [if_pos (by omega)] | rw [if_neg (by omega)])); (try rfl))) (fun k _ => congrFun (by first | (exfalso; omega; done) | ((try (first | rw [if_pos (by omega)] | rw [if_neg (by omega)])); (try (first | rw [if_pos (by omega)] | rw [if_neg (by omega)])); (try (first | rw [if_pos (by omega)] | rw [if_neg (by omega)])); (try (first | rw [if_pos (by omega)] | rw [if_neg (by omega)])); (try rfl))) k) dX4_change_90
      · skip
        refine r_iload_n (pc := 43) C dX4_change_43 rfl 3 rfl ?_
        refine r_cSi (pc := 44) C (c_isSurface g v h_v σ) yX4_isSurface_w rfl t_245 ⟨by decide, by decide⟩ (Nat.le_of_ble_eq_true rfl) rfl dX4_change_44 ?_
        refine r_ifz_eq (pc := 47) C 63 dX4_change_47 (by decide) (fun h47 => ?_) (fun h47 => ?_)
        · skip
          refine r_iload_n (pc := 63) C dX4_change_63 rfl 2 rfl ?_
          refine r_iconst (pc := 64) C dX4_change_64 ?_
          refine r_icmp_ne (pc := 65) C 91 h_w ⟨by omega, by omega⟩ dX4_change_65 (by decide) (fun h65 => ?_) (fun h65 => ?_)
          · skip
            refine r_aload_n (pc := 91) C dX4_change_91 rfl 0 rfl ?_
            refine r_iconst (pc := 92) C dX4_change_92 ?_
            refine r_cVi (pc := 93) C (c_finding g 0 (by decide) σ) yX4_finding_w O_40 rfl rfl t_251 ⟨by decide, by decide⟩ (Nat.le_of_ble_eq_true rfl) rfl dX4_change_93 ?_
            exact r_retT (pc := 96) C (by first | (exfalso; omega; done) | ((try (first | rw [if_pos (by omega)] | rw [if_neg (by omega)])); (try (first | rw [if_pos (by omega)] | rw [if_neg (by omega)])); (try (first | rw [if_pos (by omega)] | rw [if_neg (by omega)])); (try (first | rw [if_pos (by omega)] | rw [if_neg (by omega)])); (try rfl))) (fun k _ => congrFun (by first | (exfalso; omega; done) | ((try (first | rw [if_pos (by omega)] | rw [if_neg (by omega)])); (try (first | rw [if_pos (by omega)] | rw [if_neg (by omega)])); (try (first | rw [if_pos (by omega)] | rw [if_neg (by omega)])); (try (first | rw [if_pos (by omega)] | rw [if_neg (by omega)])); (try rfl))) k) dX4_change_96
          · skip
            refine r_iload_n (pc := 68) C dX4_change_68 rfl 3 rfl ?_
            refine r_iconst (pc := 69) C dX4_change_69 ?_
            refine r_ldc (pc := 70) C 99999 t_319 (by decide) dX4_change_70 ?_
            refine r_cSi (pc := 72) C (c_isWithin g v 0 99999 h_v ⟨by omega, by omega⟩ ⟨by omega, by omega⟩ σ) yX4_isWithin_w rfl t_248 ⟨by decide, by decide⟩ (Nat.le_of_ble_eq_true rfl) rfl dX4_change_72 ?_
            refine r_ifz_eq (pc := 75) C 91 dX4_change_75 (by decide) (fun h75 => ?_) (fun h75 => ?_)
            · skip
              refine r_aload_n (pc := 91) C dX4_change_91 rfl 0 rfl ?_
              refine r_iconst (pc := 92) C dX4_change_92 ?_
              refine r_cVi (pc := 93) C (c_finding g 0 (by decide) σ) yX4_finding_w O_40 rfl rfl t_251 ⟨by decide, by decide⟩ (Nat.le_of_ble_eq_true rfl) rfl dX4_change_93 ?_
              exact r_retT (pc := 96) C (by first | (exfalso; omega; done) | ((try (first | rw [if_pos (by omega)] | rw [if_neg (by omega)])); (try (first | rw [if_pos (by omega)] | rw [if_neg (by omega)])); (try (first | rw [if_pos (by omega)] | rw [if_neg (by omega)])); (try (first | rw [if_pos (by omega)] | rw [if_neg (by omega)])); (try rfl))) (fun k _ => congrFun (by first | (exfalso; omega; done) | ((try (first | rw [if_pos (by omega)] | rw [if_neg (by omega)])); (try (first | rw [if_pos (by omega)] | rw [if_neg (by omega)])); (try (first | rw [if_pos (by omega)] | rw [if_neg (by omega)])); (try (first | rw [if_pos (by omega)] | rw [if_neg (by omega)])); (try rfl))) k) dX4_change_96
            · skip
              refine r_aload_n (pc := 78) C dX4_change_78 rfl 0 rfl ?_
              refine r_getR4 (pc := 79) C 0 (k' := 0) rfl O_40 (by decide) rfl t_216 dX4_change_79 ?_
              refine r_getR0 (pc := 82) C 4 (k' := 5) rfl O_0 (by decide) rfl t_112 dX4_change_82 ?_
              refine r_iload_n (pc := 85) C dX4_change_85 rfl 1 rfl ?_
              refine r_iload_n (pc := 86) C dX4_change_86 rfl 3 rfl ?_
              refine r_cSi (pc := 87) C (c_put_5 g x.toNat (by omega) v σ) yX4_put_w rfl t_316 ⟨by decide, by decide⟩ (Nat.le_of_ble_eq_true rfl) (by rw [show ((x.toNat : Nat) : Int) = x by omega]; rfl) dX4_change_87 ?_
              exact r_retT (pc := 90) C (by first | (exfalso; omega; done) | ((try (first | rw [if_pos (by omega)] | rw [if_neg (by omega)])); (try (first | rw [if_pos (by omega)] | rw [if_neg (by omega)])); (try (first | rw [if_pos (by omega)] | rw [if_neg (by omega)])); (try (first | rw [if_pos (by omega)] | rw [if_neg (by omega)])); (try rfl))) (fun k _ => congrFun (by first | (exfalso; omega; done) | ((try (first | rw [if_pos (by omega)] | rw [if_neg (by omega)])); (try (first | rw [if_pos (by omega)] | rw [if_neg (by omega)])); (try (first | rw [if_pos (by omega)] | rw [if_neg (by omega)])); (try (first | rw [if_pos (by omega)] | rw [if_neg (by omega)])); (try rfl))) k) dX4_change_90
        · skip
          refine r_aload_n (pc := 50) C dX4_change_50 rfl 0 rfl ?_
          refine r_getR4 (pc := 51) C 0 (k' := 0) rfl O_40 (by decide) rfl t_216 dX4_change_51 ?_
          refine r_getR0 (pc := 54) C 3 (k' := 4) rfl O_0 (by decide) rfl t_110 dX4_change_54 ?_
          refine r_iload_n (pc := 57) C dX4_change_57 rfl 1 rfl ?_
          refine r_iload_n (pc := 58) C dX4_change_58 rfl 3 rfl ?_
          refine r_cSi (pc := 59) C (c_put_4 g x.toNat (by omega) v σ) yX4_put_w rfl t_316 ⟨by decide, by decide⟩ (Nat.le_of_ble_eq_true rfl) (by rw [show ((x.toNat : Nat) : Int) = x by omega]; rfl) dX4_change_59 ?_
          exact r_retT (pc := 62) C (by first | (exfalso; omega; done) | ((try (first | rw [if_pos (by omega)] | rw [if_neg (by omega)])); (try (first | rw [if_pos (by omega)] | rw [if_neg (by omega)])); (try (first | rw [if_pos (by omega)] | rw [if_neg (by omega)])); (try (first | rw [if_pos (by omega)] | rw [if_neg (by omega)])); (try rfl))) (fun k _ => congrFun (by first | (exfalso; omega; done) | ((try (first | rw [if_pos (by omega)] | rw [if_neg (by omega)])); (try (first | rw [if_pos (by omega)] | rw [if_neg (by omega)])); (try (first | rw [if_pos (by omega)] | rw [if_neg (by omega)])); (try (first | rw [if_pos (by omega)] | rw [if_neg (by omega)])); (try rfl))) k) dX4_change_62
    · skip
      refine r_iload_n (pc := 18) C dX4_change_18 rfl 3 rfl ?_
      refine r_cSi (pc := 19) C (c_isKind g v h_v σ) yX4_isKind_w rfl t_281 ⟨by decide, by decide⟩ (Nat.le_of_ble_eq_true rfl) rfl dX4_change_19 ?_
      refine r_ifz_eq (pc := 22) C 38 dX4_change_22 (by decide) (fun h22 => ?_) (fun h22 => ?_)
      · skip
        refine r_iload_n (pc := 38) C dX4_change_38 rfl 2 rfl ?_
        refine r_iconst (pc := 39) C dX4_change_39 ?_
        refine r_icmp_ne (pc := 40) C 63 h_w ⟨by omega, by omega⟩ dX4_change_40 (by decide) (fun h40 => ?_) (fun h40 => ?_)
        · skip
          refine r_iload_n (pc := 63) C dX4_change_63 rfl 2 rfl ?_
          refine r_iconst (pc := 64) C dX4_change_64 ?_
          refine r_icmp_ne (pc := 65) C 91 h_w ⟨by omega, by omega⟩ dX4_change_65 (by decide) (fun h65 => ?_) (fun h65 => ?_)
          · skip
            refine r_aload_n (pc := 91) C dX4_change_91 rfl 0 rfl ?_
            refine r_iconst (pc := 92) C dX4_change_92 ?_
            refine r_cVi (pc := 93) C (c_finding g 0 (by decide) σ) yX4_finding_w O_40 rfl rfl t_251 ⟨by decide, by decide⟩ (Nat.le_of_ble_eq_true rfl) rfl dX4_change_93 ?_
            exact r_retT (pc := 96) C (by first | (exfalso; omega; done) | ((try (first | rw [if_pos (by omega)] | rw [if_neg (by omega)])); (try (first | rw [if_pos (by omega)] | rw [if_neg (by omega)])); (try (first | rw [if_pos (by omega)] | rw [if_neg (by omega)])); (try (first | rw [if_pos (by omega)] | rw [if_neg (by omega)])); (try rfl))) (fun k _ => congrFun (by first | (exfalso; omega; done) | ((try (first | rw [if_pos (by omega)] | rw [if_neg (by omega)])); (try (first | rw [if_pos (by omega)] | rw [if_neg (by omega)])); (try (first | rw [if_pos (by omega)] | rw [if_neg (by omega)])); (try (first | rw [if_pos (by omega)] | rw [if_neg (by omega)])); (try rfl))) k) dX4_change_96
          · skip
            refine r_iload_n (pc := 68) C dX4_change_68 rfl 3 rfl ?_
            refine r_iconst (pc := 69) C dX4_change_69 ?_
            refine r_ldc (pc := 70) C 99999 t_319 (by decide) dX4_change_70 ?_
            refine r_cSi (pc := 72) C (c_isWithin g v 0 99999 h_v ⟨by omega, by omega⟩ ⟨by omega, by omega⟩ σ) yX4_isWithin_w rfl t_248 ⟨by decide, by decide⟩ (Nat.le_of_ble_eq_true rfl) rfl dX4_change_72 ?_
            refine r_ifz_eq (pc := 75) C 91 dX4_change_75 (by decide) (fun h75 => ?_) (fun h75 => ?_)
            · skip
              refine r_aload_n (pc := 91) C dX4_change_91 rfl 0 rfl ?_
              refine r_iconst (pc := 92) C dX4_change_92 ?_
              refine r_cVi (pc := 93) C (c_finding g 0 (by decide) σ) yX4_finding_w O_40 rfl rfl t_251 ⟨by decide, by decide⟩ (Nat.le_of_ble_eq_true rfl) rfl dX4_change_93 ?_
              exact r_retT (pc := 96) C (by first | (exfalso; omega; done) | ((try (first | rw [if_pos (by omega)] | rw [if_neg (by omega)])); (try (first | rw [if_pos (by omega)] | rw [if_neg (by omega)])); (try (first | rw [if_pos (by omega)] | rw [if_neg (by omega)])); (try (first | rw [if_pos (by omega)] | rw [if_neg (by omega)])); (try rfl))) (fun k _ => congrFun (by first | (exfalso; omega; done) | ((try (first | rw [if_pos (by omega)] | rw [if_neg (by omega)])); (try (first | rw [if_pos (by omega)] | rw [if_neg (by omega)])); (try (first | rw [if_pos (by omega)] | rw [if_neg (by omega)])); (try (first | rw [if_pos (by omega)] | rw [if_neg (by omega)])); (try rfl))) k) dX4_change_96
            · skip
              refine r_aload_n (pc := 78) C dX4_change_78 rfl 0 rfl ?_
              refine r_getR4 (pc := 79) C 0 (k' := 0) rfl O_40 (by decide) rfl t_216 dX4_change_79 ?_
              refine r_getR0 (pc := 82) C 4 (k' := 5) rfl O_0 (by decide) rfl t_112 dX4_change_82 ?_
              refine r_iload_n (pc := 85) C dX4_change_85 rfl 1 rfl ?_
              refine r_iload_n (pc := 86) C dX4_change_86 rfl 3 rfl ?_
              refine r_cSi (pc := 87) C (c_put_5 g x.toNat (by omega) v σ) yX4_put_w rfl t_316 ⟨by decide, by decide⟩ (Nat.le_of_ble_eq_true rfl) (by rw [show ((x.toNat : Nat) : Int) = x by omega]; rfl) dX4_change_87 ?_
              exact r_retT (pc := 90) C (by first | (exfalso; omega; done) | ((try (first | rw [if_pos (by omega)] | rw [if_neg (by omega)])); (try (first | rw [if_pos (by omega)] | rw [if_neg (by omega)])); (try (first | rw [if_pos (by omega)] | rw [if_neg (by omega)])); (try (first | rw [if_pos (by omega)] | rw [if_neg (by omega)])); (try rfl))) (fun k _ => congrFun (by first | (exfalso; omega; done) | ((try (first | rw [if_pos (by omega)] | rw [if_neg (by omega)])); (try (first | rw [if_pos (by omega)] | rw [if_neg (by omega)])); (try (first | rw [if_pos (by omega)] | rw [if_neg (by omega)])); (try (first | rw [if_pos (by omega)] | rw [if_neg (by omega)])); (try rfl))) k) dX4_change_90
        · skip
          refine r_iload_n (pc := 43) C dX4_change_43 rfl 3 rfl ?_
          refine r_cSi (pc := 44) C (c_isSurface g v h_v σ) yX4_isSurface_w rfl t_245 ⟨by decide, by decide⟩ (Nat.le_of_ble_eq_true rfl) rfl dX4_change_44 ?_
          refine r_ifz_eq (pc := 47) C 63 dX4_change_47 (by decide) (fun h47 => ?_) (fun h47 => ?_)
          · skip
            refine r_iload_n (pc := 63) C dX4_change_63 rfl 2 rfl ?_
            refine r_iconst (pc := 64) C dX4_change_64 ?_
            refine r_icmp_ne (pc := 65) C 91 h_w ⟨by omega, by omega⟩ dX4_change_65 (by decide) (fun h65 => ?_) (fun h65 => ?_)
            · skip
              refine r_aload_n (pc := 91) C dX4_change_91 rfl 0 rfl ?_
              refine r_iconst (pc := 92) C dX4_change_92 ?_
              refine r_cVi (pc := 93) C (c_finding g 0 (by decide) σ) yX4_finding_w O_40 rfl rfl t_251 ⟨by decide, by decide⟩ (Nat.le_of_ble_eq_true rfl) rfl dX4_change_93 ?_
              exact r_retT (pc := 96) C (by first | (exfalso; omega; done) | ((try (first | rw [if_pos (by omega)] | rw [if_neg (by omega)])); (try (first | rw [if_pos (by omega)] | rw [if_neg (by omega)])); (try (first | rw [if_pos (by omega)] | rw [if_neg (by omega)])); (try (first | rw [if_pos (by omega)] | rw [if_neg (by omega)])); (try rfl))) (fun k _ => congrFun (by first | (exfalso; omega; done) | ((try (first | rw [if_pos (by omega)] | rw [if_neg (by omega)])); (try (first | rw [if_pos (by omega)] | rw [if_neg (by omega)])); (try (first | rw [if_pos (by omega)] | rw [if_neg (by omega)])); (try (first | rw [if_pos (by omega)] | rw [if_neg (by omega)])); (try rfl))) k) dX4_change_96
            · skip
              refine r_iload_n (pc := 68) C dX4_change_68 rfl 3 rfl ?_
              refine r_iconst (pc := 69) C dX4_change_69 ?_
              refine r_ldc (pc := 70) C 99999 t_319 (by decide) dX4_change_70 ?_
              refine r_cSi (pc := 72) C (c_isWithin g v 0 99999 h_v ⟨by omega, by omega⟩ ⟨by omega, by omega⟩ σ) yX4_isWithin_w rfl t_248 ⟨by decide, by decide⟩ (Nat.le_of_ble_eq_true rfl) rfl dX4_change_72 ?_
              refine r_ifz_eq (pc := 75) C 91 dX4_change_75 (by decide) (fun h75 => ?_) (fun h75 => ?_)
              · skip
                refine r_aload_n (pc := 91) C dX4_change_91 rfl 0 rfl ?_
                refine r_iconst (pc := 92) C dX4_change_92 ?_
                refine r_cVi (pc := 93) C (c_finding g 0 (by decide) σ) yX4_finding_w O_40 rfl rfl t_251 ⟨by decide, by decide⟩ (Nat.le_of_ble_eq_true rfl) rfl dX4_change_93 ?_
                exact r_retT (pc := 96) C (by first | (exfalso; omega; done) | ((try (first | rw [if_pos (by omega)] | rw [if_neg (by omega)])); (try (first | rw [if_pos (by omega)] | rw [if_neg (by omega)])); (try (first | rw [if_pos (by omega)] | rw [if_neg (by omega)])); (try (first | rw [if_pos (by omega)] | rw [if_neg (by omega)])); (try rfl))) (fun k _ => congrFun (by first | (exfalso; omega; done) | ((try (first | rw [if_pos (by omega)] | rw [if_neg (by omega)])); (try (first | rw [if_pos (by omega)] | rw [if_neg (by omega)])); (try (first | rw [if_pos (by omega)] | rw [if_neg (by omega)])); (try (first | rw [if_pos (by omega)] | rw [if_neg (by omega)])); (try rfl))) k) dX4_change_96
              · skip
                refine r_aload_n (pc := 78) C dX4_change_78 rfl 0 rfl ?_
                refine r_getR4 (pc := 79) C 0 (k' := 0) rfl O_40 (by decide) rfl t_216 dX4_change_79 ?_
                refine r_getR0 (pc := 82) C 4 (k' := 5) rfl O_0 (by decide) rfl t_112 dX4_change_82 ?_
                refine r_iload_n (pc := 85) C dX4_change_85 rfl 1 rfl ?_
                refine r_iload_n (pc := 86) C dX4_change_86 rfl 3 rfl ?_
                refine r_cSi (pc := 87) C (c_put_5 g x.toNat (by omega) v σ) yX4_put_w rfl t_316 ⟨by decide, by decide⟩ (Nat.le_of_ble_eq_true rfl) (by rw [show ((x.toNat : Nat) : Int) = x by omega]; rfl) dX4_change_87 ?_
                exact r_retT (pc := 90) C (by first | (exfalso; omega; done) | ((try (first | rw [if_pos (by omega)] | rw [if_neg (by omega)])); (try (first | rw [if_pos (by omega)] | rw [if_neg (by omega)])); (try (first | rw [if_pos (by omega)] | rw [if_neg (by omega)])); (try (first | rw [if_pos (by omega)] | rw [if_neg (by omega)])); (try rfl))) (fun k _ => congrFun (by first | (exfalso; omega; done) | ((try (first | rw [if_pos (by omega)] | rw [if_neg (by omega)])); (try (first | rw [if_pos (by omega)] | rw [if_neg (by omega)])); (try (first | rw [if_pos (by omega)] | rw [if_neg (by omega)])); (try (first | rw [if_pos (by omega)] | rw [if_neg (by omega)])); (try rfl))) k) dX4_change_90
          · skip
            refine r_aload_n (pc := 50) C dX4_change_50 rfl 0 rfl ?_
            refine r_getR4 (pc := 51) C 0 (k' := 0) rfl O_40 (by decide) rfl t_216 dX4_change_51 ?_
            refine r_getR0 (pc := 54) C 3 (k' := 4) rfl O_0 (by decide) rfl t_110 dX4_change_54 ?_
            refine r_iload_n (pc := 57) C dX4_change_57 rfl 1 rfl ?_
            refine r_iload_n (pc := 58) C dX4_change_58 rfl 3 rfl ?_
            refine r_cSi (pc := 59) C (c_put_4 g x.toNat (by omega) v σ) yX4_put_w rfl t_316 ⟨by decide, by decide⟩ (Nat.le_of_ble_eq_true rfl) (by rw [show ((x.toNat : Nat) : Int) = x by omega]; rfl) dX4_change_59 ?_
            exact r_retT (pc := 62) C (by first | (exfalso; omega; done) | ((try (first | rw [if_pos (by omega)] | rw [if_neg (by omega)])); (try (first | rw [if_pos (by omega)] | rw [if_neg (by omega)])); (try (first | rw [if_pos (by omega)] | rw [if_neg (by omega)])); (try (first | rw [if_pos (by omega)] | rw [if_neg (by omega)])); (try rfl))) (fun k _ => congrFun (by first | (exfalso; omega; done) | ((try (first | rw [if_pos (by omega)] | rw [if_neg (by omega)])); (try (first | rw [if_pos (by omega)] | rw [if_neg (by omega)])); (try (first | rw [if_pos (by omega)] | rw [if_neg (by omega)])); (try (first | rw [if_pos (by omega)] | rw [if_neg (by omega)])); (try rfl))) k) dX4_change_62
      · skip
        refine r_aload_n (pc := 25) C dX4_change_25 rfl 0 rfl ?_
        refine r_getR4 (pc := 26) C 0 (k' := 0) rfl O_40 (by decide) rfl t_216 dX4_change_26 ?_
        refine r_getR0 (pc := 29) C 2 (k' := 3) rfl O_0 (by decide) rfl t_108 dX4_change_29 ?_
        refine r_iload_n (pc := 32) C dX4_change_32 rfl 1 rfl ?_
        refine r_iload_n (pc := 33) C dX4_change_33 rfl 3 rfl ?_
        refine r_cSi (pc := 34) C (c_put_3 g x.toNat (by omega) v σ) yX4_put_w rfl t_316 ⟨by decide, by decide⟩ (Nat.le_of_ble_eq_true rfl) (by rw [show ((x.toNat : Nat) : Int) = x by omega]; rfl) dX4_change_34 ?_
        exact r_retT (pc := 37) C (by first | (exfalso; omega; done) | ((try (first | rw [if_pos (by omega)] | rw [if_neg (by omega)])); (try (first | rw [if_pos (by omega)] | rw [if_neg (by omega)])); (try (first | rw [if_pos (by omega)] | rw [if_neg (by omega)])); (try (first | rw [if_pos (by omega)] | rw [if_neg (by omega)])); (try rfl))) (fun k _ => congrFun (by first | (exfalso; omega; done) | ((try (first | rw [if_pos (by omega)] | rw [if_neg (by omega)])); (try (first | rw [if_pos (by omega)] | rw [if_neg (by omega)])); (try (first | rw [if_pos (by omega)] | rw [if_neg (by omega)])); (try (first | rw [if_pos (by omega)] | rw [if_neg (by omega)])); (try rfl))) k) dX4_change_37
  · skip
    refine r_aload_n (pc := 8) C dX4_change_8 rfl 0 rfl ?_
    refine r_iconst (pc := 9) C dX4_change_9 ?_
    refine r_cVi (pc := 10) C (c_finding g 0 (by decide) σ) yX4_finding_w O_40 rfl rfl t_251 ⟨by decide, by decide⟩ (Nat.le_of_ble_eq_true rfl) rfl dX4_change_10 ?_
    exact r_retT (pc := 13) C (by first | (exfalso; omega; done) | ((try (first | rw [if_pos (by omega)] | rw [if_neg (by omega)])); (try (first | rw [if_pos (by omega)] | rw [if_neg (by omega)])); (try (first | rw [if_pos (by omega)] | rw [if_neg (by omega)])); (try (first | rw [if_pos (by omega)] | rw [if_neg (by omega)])); (try rfl))) (fun k _ => congrFun (by first | (exfalso; omega; done) | ((try (first | rw [if_pos (by omega)] | rw [if_neg (by omega)])); (try (first | rw [if_pos (by omega)] | rw [if_neg (by omega)])); (try (first | rw [if_pos (by omega)] | rw [if_neg (by omega)])); (try (first | rw [if_pos (by omega)] | rw [if_neg (by omega)])); (try rfl))) k) dX4_change_13
set_option maxHeartbeats 4000000 in
set_option maxRecDepth 100000 in
theorem d_mark (g : Gt) (x f : Int) (h_x : rng x) (h_f : rng f) (σ : Sg) (hW : RW σ 0)  : Mt g yX4_mark cX4_mark 3 (some FieldType.int) 1 [.ref (gA g 40), .int (iI (x)), .int (iI (f))] σ (pT (if (0 ≤ x ∧ x < σ 0 7) ∧ 0 ≤ f ∧ f < 12 then σ 6 (12 * x.toNat + f.toNat) else (-1000001 - ((0 : Nat) : Int))) (if (0 ≤ x ∧ x < σ 0 7) ∧ 0 ≤ f ∧ f < 12 then σ else fin 0 σ)) := by
  obtain ⟨hn, hfl, hw, hdy, hz, hD_, hK_, hA_, hG_, hM_, hP_⟩ := id hW
  have hD : rgD (σ 1) := hD_
  have hK : rgK (σ 3) := hK_
  have hA : rgA (σ 4) := hA_
  have hG : rgG (σ 5) := hG_
  have hM : rgM (σ 6) := hM_
  have hP : ∀ j, j < 10 → -1 ≤ σ 7 j ∧ σ 7 j < σ 0 7 := hP_
  have ho_x := h_x.1; have hp_x := h_x.2
  have ho_f := h_f.1; have hp_f := h_f.2
  refine mt_of (own := RX4) (by decide) rfl (Nat.le_of_ble_eq_true rfl) (fun E C => ?_)
  show J g E (pT (if (0 ≤ x ∧ x < σ 0 7) ∧ 0 ≤ f ∧ f < 12 then σ 6 (12 * x.toNat + f.toNat) else (-1000001 - ((0 : Nat) : Int))) (if (0 ≤ x ∧ x < σ 0 7) ∧ 0 ≤ f ∧ f < 12 then σ else fin 0 σ)) 3 0 [(0, .ref (gA g 40)), (1, .int (iI (x))), (2, .int (iI (f)))] [] σ
  refine r_aload_n (pc := 0) C dX4_mark_0 rfl 0 rfl ?_
  refine r_iload_n (pc := 1) C dX4_mark_1 rfl 1 rfl ?_
  refine r_cVi (pc := 2) C (c_isTenant g x h_x σ (by omega)) yX4_isTenant_w O_40 rfl rfl t_292 ⟨by decide, by decide⟩ (Nat.le_of_ble_eq_true rfl) rfl dX4_mark_2 ?_
  refine r_ifz_eq (pc := 5) C 15 dX4_mark_5 (by decide) (fun h5 => ?_) (fun h5 => ?_)
  · skip
    refine r_aload_n (pc := 15) C dX4_mark_15 rfl 0 rfl ?_
    refine r_iconst (pc := 16) C dX4_mark_16 ?_
    refine r_cVi (pc := 17) C (c_finding g 0 (by decide) σ) yX4_finding_w O_40 rfl rfl t_251 ⟨by decide, by decide⟩ (Nat.le_of_ble_eq_true rfl) rfl dX4_mark_17 ?_
    exact r_retT (pc := 20) C (by first | (exfalso; omega; done) | ((try (first | rw [if_pos (by omega)] | rw [if_neg (by omega)])); (try (first | rw [if_pos (by omega)] | rw [if_neg (by omega)])); (try (first | rw [if_pos (by omega)] | rw [if_neg (by omega)])); (try (first | rw [if_pos (by omega)] | rw [if_neg (by omega)])); (try rfl))) (fun k _ => congrFun (by first | (exfalso; omega; done) | ((try (first | rw [if_pos (by omega)] | rw [if_neg (by omega)])); (try (first | rw [if_pos (by omega)] | rw [if_neg (by omega)])); (try (first | rw [if_pos (by omega)] | rw [if_neg (by omega)])); (try (first | rw [if_pos (by omega)] | rw [if_neg (by omega)])); (try rfl))) k) dX4_mark_20
  · skip
    refine r_iload_n (pc := 8) C dX4_mark_8 rfl 2 rfl ?_
    refine r_cSi (pc := 9) C (c_isSurface g f h_f σ) yX4_isSurface_w rfl t_245 ⟨by decide, by decide⟩ (Nat.le_of_ble_eq_true rfl) rfl dX4_mark_9 ?_
    refine r_ifz_ne (pc := 12) C 21 dX4_mark_12 (by decide) (fun h12 => ?_) (fun h12 => ?_)
    · skip
      refine r_aload_n (pc := 21) C dX4_mark_21 rfl 0 rfl ?_
      refine r_getR4 (pc := 22) C 0 (k' := 0) rfl O_40 (by decide) rfl t_216 dX4_mark_22 ?_
      refine r_getR0 (pc := 25) C 5 (k' := 6) rfl O_0 (by decide) rfl t_115 dX4_mark_25 ?_
      refine r_iload_n (pc := 28) C dX4_mark_28 rfl 1 rfl ?_
      refine r_bipush (pc := 29) C dX4_mark_29 (by decide) ?_
      refine r_imul (pc := 31) C dX4_mark_31 ?_
      refine r_iload_n (pc := 32) C dX4_mark_32 rfl 2 rfl ?_
      refine r_iadd (pc := 33) C dX4_mark_33 ?_
      refine r_iald (pc := 34) C (12 * x.toNat + f.toNat) A_6 (by omega) (by omega) dX4_mark_34 ?_
      exact r_retT (pc := 35) C (by first | (exfalso; omega; done) | ((try (first | rw [if_pos (by omega)] | rw [if_neg (by omega)])); (try (first | rw [if_pos (by omega)] | rw [if_neg (by omega)])); (try (first | rw [if_pos (by omega)] | rw [if_neg (by omega)])); (try (first | rw [if_pos (by omega)] | rw [if_neg (by omega)])); (try rfl))) (fun k _ => congrFun (by first | (exfalso; omega; done) | ((try (first | rw [if_pos (by omega)] | rw [if_neg (by omega)])); (try (first | rw [if_pos (by omega)] | rw [if_neg (by omega)])); (try (first | rw [if_pos (by omega)] | rw [if_neg (by omega)])); (try (first | rw [if_pos (by omega)] | rw [if_neg (by omega)])); (try rfl))) k) dX4_mark_35
    · skip
      refine r_aload_n (pc := 15) C dX4_mark_15 rfl 0 rfl ?_
      refine r_iconst (pc := 16) C dX4_mark_16 ?_
      refine r_cVi (pc := 17) C (c_finding g 0 (by decide) σ) yX4_finding_w O_40 rfl rfl t_251 ⟨by decide, by decide⟩ (Nat.le_of_ble_eq_true rfl) rfl dX4_mark_17 ?_
      exact r_retT (pc := 20) C (by first | (exfalso; omega; done) | ((try (first | rw [if_pos (by omega)] | rw [if_neg (by omega)])); (try (first | rw [if_pos (by omega)] | rw [if_neg (by omega)])); (try (first | rw [if_pos (by omega)] | rw [if_neg (by omega)])); (try (first | rw [if_pos (by omega)] | rw [if_neg (by omega)])); (try rfl))) (fun k _ => congrFun (by first | (exfalso; omega; done) | ((try (first | rw [if_pos (by omega)] | rw [if_neg (by omega)])); (try (first | rw [if_pos (by omega)] | rw [if_neg (by omega)])); (try (first | rw [if_pos (by omega)] | rw [if_neg (by omega)])); (try (first | rw [if_pos (by omega)] | rw [if_neg (by omega)])); (try rfl))) k) dX4_mark_20
set_option maxHeartbeats 4000000 in
set_option maxRecDepth 100000 in
theorem d_charter (g : Gt) (x f v : Int) (h_x : rng x) (h_f : rng f) (h_v : rng v) (σ : Sg) (hW : RW σ 0)  : Mt g yX4_charter cX4_charter 4 (some FieldType.int) 1 [.ref (gA g 40), .int (iI (x)), .int (iI (f)), .int (iI (v))] σ (pT (if (0 ≤ x ∧ x < σ 0 7) ∧ (0 ≤ f ∧ f < 12) ∧ 0 ≤ v ∧ v ≤ 99 then σ 6 (12 * x.toNat + f.toNat) else (-1000001 - ((0 : Nat) : Int))) (if (0 ≤ x ∧ x < σ 0 7) ∧ (0 ≤ f ∧ f < 12) ∧ 0 ≤ v ∧ v ≤ 99 then wr σ 6 (12 * x.toNat + f.toNat) v else fin 0 σ)) := by
  obtain ⟨hn, hfl, hw, hdy, hz, hD_, hK_, hA_, hG_, hM_, hP_⟩ := id hW
  have hD : rgD (σ 1) := hD_
  have hK : rgK (σ 3) := hK_
  have hA : rgA (σ 4) := hA_
  have hG : rgG (σ 5) := hG_
  have hM : rgM (σ 6) := hM_
  have hP : ∀ j, j < 10 → -1 ≤ σ 7 j ∧ σ 7 j < σ 0 7 := hP_
  have ho_x := h_x.1; have hp_x := h_x.2
  have ho_f := h_f.1; have hp_f := h_f.2
  have ho_v := h_v.1; have hp_v := h_v.2
  refine mt_of (own := RX4) (by decide) rfl (Nat.le_of_ble_eq_true rfl) (fun E C => ?_)
  show J g E (pT (if (0 ≤ x ∧ x < σ 0 7) ∧ (0 ≤ f ∧ f < 12) ∧ 0 ≤ v ∧ v ≤ 99 then σ 6 (12 * x.toNat + f.toNat) else (-1000001 - ((0 : Nat) : Int))) (if (0 ≤ x ∧ x < σ 0 7) ∧ (0 ≤ f ∧ f < 12) ∧ 0 ≤ v ∧ v ≤ 99 then wr σ 6 (12 * x.toNat + f.toNat) v else fin 0 σ)) 4 0 [(0, .ref (gA g 40)), (1, .int (iI (x))), (2, .int (iI (f))), (3, .int (iI (v)))] [] σ
  refine r_aload_n (pc := 0) C dX4_charter_0 rfl 0 rfl ?_
  refine r_iload_n (pc := 1) C dX4_charter_1 rfl 1 rfl ?_
  refine r_cVi (pc := 2) C (c_isTenant g x h_x σ (by omega)) yX4_isTenant_w O_40 rfl rfl t_292 ⟨by decide, by decide⟩ (Nat.le_of_ble_eq_true rfl) rfl dX4_charter_2 ?_
  refine r_ifz_eq (pc := 5) C 25 dX4_charter_5 (by decide) (fun h5 => ?_) (fun h5 => ?_)
  · skip
    refine r_aload_n (pc := 25) C dX4_charter_25 rfl 0 rfl ?_
    refine r_iconst (pc := 26) C dX4_charter_26 ?_
    refine r_cVi (pc := 27) C (c_finding g 0 (by decide) σ) yX4_finding_w O_40 rfl rfl t_251 ⟨by decide, by decide⟩ (Nat.le_of_ble_eq_true rfl) rfl dX4_charter_27 ?_
    exact r_retT (pc := 30) C (by first | (exfalso; omega; done) | ((try (first | rw [if_pos (by omega)] | rw [if_neg (by omega)])); (try (first | rw [if_pos (by omega)] | rw [if_neg (by omega)])); (try (first | rw [if_pos (by omega)] | rw [if_neg (by omega)])); (try (first | rw [if_pos (by omega)] | rw [if_neg (by omega)])); (try rfl))) (fun k _ => congrFun (by first | (exfalso; omega; done) | ((try (first | rw [if_pos (by omega)] | rw [if_neg (by omega)])); (try (first | rw [if_pos (by omega)] | rw [if_neg (by omega)])); (try (first | rw [if_pos (by omega)] | rw [if_neg (by omega)])); (try (first | rw [if_pos (by omega)] | rw [if_neg (by omega)])); (try rfl))) k) dX4_charter_30
  · skip
    refine r_iload_n (pc := 8) C dX4_charter_8 rfl 2 rfl ?_
    refine r_cSi (pc := 9) C (c_isSurface g f h_f σ) yX4_isSurface_w rfl t_245 ⟨by decide, by decide⟩ (Nat.le_of_ble_eq_true rfl) rfl dX4_charter_9 ?_
    refine r_ifz_eq (pc := 12) C 25 dX4_charter_12 (by decide) (fun h12 => ?_) (fun h12 => ?_)
    · skip
      refine r_aload_n (pc := 25) C dX4_charter_25 rfl 0 rfl ?_
      refine r_iconst (pc := 26) C dX4_charter_26 ?_
      refine r_cVi (pc := 27) C (c_finding g 0 (by decide) σ) yX4_finding_w O_40 rfl rfl t_251 ⟨by decide, by decide⟩ (Nat.le_of_ble_eq_true rfl) rfl dX4_charter_27 ?_
      exact r_retT (pc := 30) C (by first | (exfalso; omega; done) | ((try (first | rw [if_pos (by omega)] | rw [if_neg (by omega)])); (try (first | rw [if_pos (by omega)] | rw [if_neg (by omega)])); (try (first | rw [if_pos (by omega)] | rw [if_neg (by omega)])); (try (first | rw [if_pos (by omega)] | rw [if_neg (by omega)])); (try rfl))) (fun k _ => congrFun (by first | (exfalso; omega; done) | ((try (first | rw [if_pos (by omega)] | rw [if_neg (by omega)])); (try (first | rw [if_pos (by omega)] | rw [if_neg (by omega)])); (try (first | rw [if_pos (by omega)] | rw [if_neg (by omega)])); (try (first | rw [if_pos (by omega)] | rw [if_neg (by omega)])); (try rfl))) k) dX4_charter_30
    · skip
      refine r_iload_n (pc := 15) C dX4_charter_15 rfl 3 rfl ?_
      refine r_iconst (pc := 16) C dX4_charter_16 ?_
      refine r_bipush (pc := 17) C dX4_charter_17 (by decide) ?_
      refine r_cSi (pc := 19) C (c_isWithin g v 0 99 h_v ⟨by omega, by omega⟩ ⟨by omega, by omega⟩ σ) yX4_isWithin_w rfl t_248 ⟨by decide, by decide⟩ (Nat.le_of_ble_eq_true rfl) rfl dX4_charter_19 ?_
      refine r_ifz_ne (pc := 22) C 31 dX4_charter_22 (by decide) (fun h22 => ?_) (fun h22 => ?_)
      · skip
        refine r_aload_n (pc := 31) C dX4_charter_31 rfl 0 rfl ?_
        refine r_getR4 (pc := 32) C 0 (k' := 0) rfl O_40 (by decide) rfl t_216 dX4_charter_32 ?_
        refine r_getR0 (pc := 35) C 5 (k' := 6) rfl O_0 (by decide) rfl t_115 dX4_charter_35 ?_
        refine r_iload_n (pc := 38) C dX4_charter_38 rfl 1 rfl ?_
        refine r_bipush (pc := 39) C dX4_charter_39 (by decide) ?_
        refine r_imul (pc := 41) C dX4_charter_41 ?_
        refine r_iload_n (pc := 42) C dX4_charter_42 rfl 2 rfl ?_
        refine r_iadd (pc := 43) C dX4_charter_43 ?_
        refine r_iload_n (pc := 44) C dX4_charter_44 rfl 3 rfl ?_
        refine r_eq rfl (show _ = [.int (iI v), .int (iI ((12 * x.toNat + f.toNat : Nat) : Int)), .ref (gA g 6)] by rw [show x * 12 + f = ((12 * x.toNat + f.toNat : Nat) : Int) by omega]) rfl ?_
        refine r_cSi (pc := 45) C (c_put_6 g (12 * x.toNat + f.toNat) (by omega) v σ) yX4_put_w rfl t_316 ⟨by decide, by decide⟩ (Nat.le_of_ble_eq_true rfl) rfl dX4_charter_45 ?_
        exact r_retT (pc := 48) C (by first | (exfalso; omega; done) | ((try (first | rw [if_pos (by omega)] | rw [if_neg (by omega)])); (try (first | rw [if_pos (by omega)] | rw [if_neg (by omega)])); (try (first | rw [if_pos (by omega)] | rw [if_neg (by omega)])); (try (first | rw [if_pos (by omega)] | rw [if_neg (by omega)])); (try rfl))) (fun k _ => congrFun (by first | (exfalso; omega; done) | ((try (first | rw [if_pos (by omega)] | rw [if_neg (by omega)])); (try (first | rw [if_pos (by omega)] | rw [if_neg (by omega)])); (try (first | rw [if_pos (by omega)] | rw [if_neg (by omega)])); (try (first | rw [if_pos (by omega)] | rw [if_neg (by omega)])); (try rfl))) k) dX4_charter_48
      · skip
        refine r_aload_n (pc := 25) C dX4_charter_25 rfl 0 rfl ?_
        refine r_iconst (pc := 26) C dX4_charter_26 ?_
        refine r_cVi (pc := 27) C (c_finding g 0 (by decide) σ) yX4_finding_w O_40 rfl rfl t_251 ⟨by decide, by decide⟩ (Nat.le_of_ble_eq_true rfl) rfl dX4_charter_27 ?_
        exact r_retT (pc := 30) C (by first | (exfalso; omega; done) | ((try (first | rw [if_pos (by omega)] | rw [if_neg (by omega)])); (try (first | rw [if_pos (by omega)] | rw [if_neg (by omega)])); (try (first | rw [if_pos (by omega)] | rw [if_neg (by omega)])); (try (first | rw [if_pos (by omega)] | rw [if_neg (by omega)])); (try rfl))) (fun k _ => congrFun (by first | (exfalso; omega; done) | ((try (first | rw [if_pos (by omega)] | rw [if_neg (by omega)])); (try (first | rw [if_pos (by omega)] | rw [if_neg (by omega)])); (try (first | rw [if_pos (by omega)] | rw [if_neg (by omega)])); (try (first | rw [if_pos (by omega)] | rw [if_neg (by omega)])); (try rfl))) k) dX4_charter_30
set_option maxHeartbeats 4000000 in
set_option maxRecDepth 100000 in
theorem d_swap (g : Gt) (x y : Int) (h_x : rng x) (h_y : rng y) (σ : Sg) (hW : RW σ 0)  : Mt g yX4_swap cX4_swap 3 (some FieldType.int) 1 [.ref (gA g 40), .int (iI (x)), .int (iI (y))] σ (pT (if (0 ≤ x ∧ x < σ 0 7) ∧ (0 ≤ y ∧ y < σ 0 7) ∧ ¬ x = y then (if σ 4 x.toNat = σ 4 y.toNat then 0 else 1) else (-1000001 - ((0 : Nat) : Int))) (if (0 ≤ x ∧ x < σ 0 7) ∧ (0 ≤ y ∧ y < σ 0 7) ∧ ¬ x = y then (if σ 4 x.toNat = σ 4 y.toNat then σ else wr (wr σ 4 x.toNat (σ 4 y.toNat)) 4 y.toNat (σ 4 x.toNat)) else fin 0 σ)) := by
  obtain ⟨hn, hfl, hw, hdy, hz, hD_, hK_, hA_, hG_, hM_, hP_⟩ := id hW
  have hD : rgD (σ 1) := hD_
  have hK : rgK (σ 3) := hK_
  have hA : rgA (σ 4) := hA_
  have hG : rgG (σ 5) := hG_
  have hM : rgM (σ 6) := hM_
  have hP : ∀ j, j < 10 → -1 ≤ σ 7 j ∧ σ 7 j < σ 0 7 := hP_
  have ho_x := h_x.1; have hp_x := h_x.2
  have ho_y := h_y.1; have hp_y := h_y.2
  refine mt_of (own := RX4) (by decide) rfl (Nat.le_of_ble_eq_true rfl) (fun E C => ?_)
  show J g E (pT (if (0 ≤ x ∧ x < σ 0 7) ∧ (0 ≤ y ∧ y < σ 0 7) ∧ ¬ x = y then (if σ 4 x.toNat = σ 4 y.toNat then 0 else 1) else (-1000001 - ((0 : Nat) : Int))) (if (0 ≤ x ∧ x < σ 0 7) ∧ (0 ≤ y ∧ y < σ 0 7) ∧ ¬ x = y then (if σ 4 x.toNat = σ 4 y.toNat then σ else wr (wr σ 4 x.toNat (σ 4 y.toNat)) 4 y.toNat (σ 4 x.toNat)) else fin 0 σ)) 3 0 [(0, .ref (gA g 40)), (1, .int (iI (x))), (2, .int (iI (y)))] [] σ
  refine r_aload_n (pc := 0) C dX4_swap_0 rfl 0 rfl ?_
  refine r_iload_n (pc := 1) C dX4_swap_1 rfl 1 rfl ?_
  refine r_cVi (pc := 2) C (c_isTenant g x h_x σ (by omega)) yX4_isTenant_w O_40 rfl rfl t_292 ⟨by decide, by decide⟩ (Nat.le_of_ble_eq_true rfl) rfl dX4_swap_2 ?_
  refine r_ifz_eq (pc := 5) C 21 dX4_swap_5 (by decide) (fun h5 => ?_) (fun h5 => ?_)
  · skip
    refine r_aload_n (pc := 21) C dX4_swap_21 rfl 0 rfl ?_
    refine r_iconst (pc := 22) C dX4_swap_22 ?_
    refine r_cVi (pc := 23) C (c_finding g 0 (by decide) σ) yX4_finding_w O_40 rfl rfl t_251 ⟨by decide, by decide⟩ (Nat.le_of_ble_eq_true rfl) rfl dX4_swap_23 ?_
    exact r_retT (pc := 26) C (by first | (exfalso; omega; done) | ((try (first | rw [if_pos (by omega)] | rw [if_neg (by omega)])); (try (first | rw [if_pos (by omega)] | rw [if_neg (by omega)])); (try (first | rw [if_pos (by omega)] | rw [if_neg (by omega)])); (try (first | rw [if_pos (by omega)] | rw [if_neg (by omega)])); (try rfl))) (fun k _ => congrFun (by first | (exfalso; omega; done) | ((try (first | rw [if_pos (by omega)] | rw [if_neg (by omega)])); (try (first | rw [if_pos (by omega)] | rw [if_neg (by omega)])); (try (first | rw [if_pos (by omega)] | rw [if_neg (by omega)])); (try (first | rw [if_pos (by omega)] | rw [if_neg (by omega)])); (try rfl))) k) dX4_swap_26
  · skip
    refine r_aload_n (pc := 8) C dX4_swap_8 rfl 0 rfl ?_
    refine r_iload_n (pc := 9) C dX4_swap_9 rfl 2 rfl ?_
    refine r_cVi (pc := 10) C (c_isTenant g y h_y σ (by omega)) yX4_isTenant_w O_40 rfl rfl t_292 ⟨by decide, by decide⟩ (Nat.le_of_ble_eq_true rfl) rfl dX4_swap_10 ?_
    refine r_ifz_eq (pc := 13) C 21 dX4_swap_13 (by decide) (fun h13 => ?_) (fun h13 => ?_)
    · skip
      refine r_aload_n (pc := 21) C dX4_swap_21 rfl 0 rfl ?_
      refine r_iconst (pc := 22) C dX4_swap_22 ?_
      refine r_cVi (pc := 23) C (c_finding g 0 (by decide) σ) yX4_finding_w O_40 rfl rfl t_251 ⟨by decide, by decide⟩ (Nat.le_of_ble_eq_true rfl) rfl dX4_swap_23 ?_
      exact r_retT (pc := 26) C (by first | (exfalso; omega; done) | ((try (first | rw [if_pos (by omega)] | rw [if_neg (by omega)])); (try (first | rw [if_pos (by omega)] | rw [if_neg (by omega)])); (try (first | rw [if_pos (by omega)] | rw [if_neg (by omega)])); (try (first | rw [if_pos (by omega)] | rw [if_neg (by omega)])); (try rfl))) (fun k _ => congrFun (by first | (exfalso; omega; done) | ((try (first | rw [if_pos (by omega)] | rw [if_neg (by omega)])); (try (first | rw [if_pos (by omega)] | rw [if_neg (by omega)])); (try (first | rw [if_pos (by omega)] | rw [if_neg (by omega)])); (try (first | rw [if_pos (by omega)] | rw [if_neg (by omega)])); (try rfl))) k) dX4_swap_26
    · skip
      refine r_iload_n (pc := 16) C dX4_swap_16 rfl 1 rfl ?_
      refine r_iload_n (pc := 17) C dX4_swap_17 rfl 2 rfl ?_
      refine r_icmp_ne (pc := 18) C 27 h_x h_y dX4_swap_18 (by decide) (fun h18 => ?_) (fun h18 => ?_)
      · skip
        refine r_aload_n (pc := 27) C dX4_swap_27 rfl 0 rfl ?_
        refine r_getR4 (pc := 28) C 0 (k' := 0) rfl O_40 (by decide) rfl t_216 dX4_swap_28 ?_
        refine r_getR0 (pc := 31) C 3 (k' := 4) rfl O_0 (by decide) rfl t_110 dX4_swap_31 ?_
        refine r_iload_n (pc := 34) C dX4_swap_34 rfl 1 rfl ?_
        have ha := hA x.toNat (by omega)
        refine r_iald (pc := 35) C x.toNat A_4 (by omega) (by omega) dX4_swap_35 ?_
        refine r_aload_n (pc := 36) C dX4_swap_36 rfl 0 rfl ?_
        refine r_getR4 (pc := 37) C 0 (k' := 0) rfl O_40 (by decide) rfl t_216 dX4_swap_37 ?_
        refine r_getR0 (pc := 40) C 3 (k' := 4) rfl O_0 (by decide) rfl t_110 dX4_swap_40 ?_
        refine r_iload_n (pc := 43) C dX4_swap_43 rfl 2 rfl ?_
        have hb := hA y.toNat (by omega)
        refine r_iald (pc := 44) C y.toNat A_4 (by omega) (by omega) dX4_swap_44 ?_
        refine r_icmp_ne (pc := 45) C 50 ⟨by omega, by omega⟩ ⟨by omega, by omega⟩ dX4_swap_45 (by decide) (fun h45 => ?_) (fun h45 => ?_)
        · skip
          refine r_aload_n (pc := 50) C dX4_swap_50 rfl 0 rfl ?_
          refine r_getR4 (pc := 51) C 0 (k' := 0) rfl O_40 (by decide) rfl t_216 dX4_swap_51 ?_
          refine r_iload_n (pc := 54) C dX4_swap_54 rfl 1 rfl ?_
          refine r_iload_n (pc := 55) C dX4_swap_55 rfl 2 rfl ?_
          refine r_cVv (pc := 56) C (c_changePlaces_0 g x.toNat y.toNat (by omega) (by omega) σ) yX0_changePlaces_w O_0 rfl rfl t_332 ⟨by decide, by decide⟩ (Nat.le_of_ble_eq_true rfl) (by rw [show ((x.toNat : Nat) : Int) = x by omega, show ((y.toNat : Nat) : Int) = y by omega]; rfl) dX4_swap_56 ?_
          refine r_iconst (pc := 59) C dX4_swap_59 ?_
          exact r_retT (pc := 60) C (by first | (exfalso; omega; done) | ((try (first | rw [if_pos (by omega)] | rw [if_neg (by omega)])); (try (first | rw [if_pos (by omega)] | rw [if_neg (by omega)])); (try (first | rw [if_pos (by omega)] | rw [if_neg (by omega)])); (try (first | rw [if_pos (by omega)] | rw [if_neg (by omega)])); (try rfl))) (fun k _ => congrFun (by first | (exfalso; omega; done) | ((try (first | rw [if_pos (by omega)] | rw [if_neg (by omega)])); (try (first | rw [if_pos (by omega)] | rw [if_neg (by omega)])); (try (first | rw [if_pos (by omega)] | rw [if_neg (by omega)])); (try (first | rw [if_pos (by omega)] | rw [if_neg (by omega)])); (try rfl))) k) dX4_swap_60
        · skip
          refine r_iconst (pc := 48) C dX4_swap_48 ?_
          exact r_retT (pc := 49) C (by first | (exfalso; omega; done) | ((try (first | rw [if_pos (by omega)] | rw [if_neg (by omega)])); (try (first | rw [if_pos (by omega)] | rw [if_neg (by omega)])); (try (first | rw [if_pos (by omega)] | rw [if_neg (by omega)])); (try (first | rw [if_pos (by omega)] | rw [if_neg (by omega)])); (try rfl))) (fun k _ => congrFun (by first | (exfalso; omega; done) | ((try (first | rw [if_pos (by omega)] | rw [if_neg (by omega)])); (try (first | rw [if_pos (by omega)] | rw [if_neg (by omega)])); (try (first | rw [if_pos (by omega)] | rw [if_neg (by omega)])); (try (first | rw [if_pos (by omega)] | rw [if_neg (by omega)])); (try rfl))) k) dX4_swap_49
      · skip
        refine r_aload_n (pc := 21) C dX4_swap_21 rfl 0 rfl ?_
        refine r_iconst (pc := 22) C dX4_swap_22 ?_
        refine r_cVi (pc := 23) C (c_finding g 0 (by decide) σ) yX4_finding_w O_40 rfl rfl t_251 ⟨by decide, by decide⟩ (Nat.le_of_ble_eq_true rfl) rfl dX4_swap_23 ?_
        exact r_retT (pc := 26) C (by first | (exfalso; omega; done) | ((try (first | rw [if_pos (by omega)] | rw [if_neg (by omega)])); (try (first | rw [if_pos (by omega)] | rw [if_neg (by omega)])); (try (first | rw [if_pos (by omega)] | rw [if_neg (by omega)])); (try (first | rw [if_pos (by omega)] | rw [if_neg (by omega)])); (try rfl))) (fun k _ => congrFun (by first | (exfalso; omega; done) | ((try (first | rw [if_pos (by omega)] | rw [if_neg (by omega)])); (try (first | rw [if_pos (by omega)] | rw [if_neg (by omega)])); (try (first | rw [if_pos (by omega)] | rw [if_neg (by omega)])); (try (first | rw [if_pos (by omega)] | rw [if_neg (by omega)])); (try rfl))) k) dX4_swap_26
set_option maxHeartbeats 4000000 in
set_option maxRecDepth 100000 in
theorem d_sneeze (g : Gt) (x n : Int) (h_x : rng x) (h_n : rng n) (σ : Sg) (hW : RW σ 0)  : Mt g yX4_sneeze cX4_sneeze 3 (some FieldType.int) 2 [.ref (gA g 40), .int (iI (x)), .int (iI (n))] σ (pT (if (0 ≤ x ∧ x < 12) ∧ -11 ≤ n ∧ n ≤ 11 then σ 1 x.toNat else (-1000001 - ((0 : Nat) : Int))) (if (0 ≤ x ∧ x < 12) ∧ -11 ≤ n ∧ n ≤ 11 then us σ 1 (bwD (σ 1) x.toNat n) else fin 0 σ)) := by
  obtain ⟨hn, hfl, hw, hdy, hz, hD_, hK_, hA_, hG_, hM_, hP_⟩ := id hW
  have hD : rgD (σ 1) := hD_
  have hK : rgK (σ 3) := hK_
  have hA : rgA (σ 4) := hA_
  have hG : rgG (σ 5) := hG_
  have hM : rgM (σ 6) := hM_
  have hP : ∀ j, j < 10 → -1 ≤ σ 7 j ∧ σ 7 j < σ 0 7 := hP_
  have ho_x := h_x.1; have hp_x := h_x.2
  have ho_n := h_n.1; have hp_n := h_n.2
  refine mt_of (own := RX4) (by decide) rfl (Nat.le_of_ble_eq_true rfl) (fun E C => ?_)
  show J g E (pT (if (0 ≤ x ∧ x < 12) ∧ -11 ≤ n ∧ n ≤ 11 then σ 1 x.toNat else (-1000001 - ((0 : Nat) : Int))) (if (0 ≤ x ∧ x < 12) ∧ -11 ≤ n ∧ n ≤ 11 then us σ 1 (bwD (σ 1) x.toNat n) else fin 0 σ)) 3 0 [(0, .ref (gA g 40)), (1, .int (iI (x))), (2, .int (iI (n)))] [] σ
  refine r_iload_n (pc := 0) C dX4_sneeze_0 rfl 1 rfl ?_
  refine r_cSi (pc := 1) C (c_isSurface g x h_x σ) yX4_isSurface_w rfl t_245 ⟨by decide, by decide⟩ (Nat.le_of_ble_eq_true rfl) rfl dX4_sneeze_1 ?_
  refine r_ifz_eq (pc := 4) C 18 dX4_sneeze_4 (by decide) (fun h4 => ?_) (fun h4 => ?_)
  · skip
    refine r_aload_n (pc := 18) C dX4_sneeze_18 rfl 0 rfl ?_
    refine r_iconst (pc := 19) C dX4_sneeze_19 ?_
    refine r_cVi (pc := 20) C (c_finding g 0 (by decide) σ) yX4_finding_w O_40 rfl rfl t_251 ⟨by decide, by decide⟩ (Nat.le_of_ble_eq_true rfl) rfl dX4_sneeze_20 ?_
    exact r_retT (pc := 23) C (by first | (exfalso; omega; done) | ((try (first | rw [if_pos (by omega)] | rw [if_neg (by omega)])); (try (first | rw [if_pos (by omega)] | rw [if_neg (by omega)])); (try (first | rw [if_pos (by omega)] | rw [if_neg (by omega)])); (try (first | rw [if_pos (by omega)] | rw [if_neg (by omega)])); (try rfl))) (fun k _ => congrFun (by first | (exfalso; omega; done) | ((try (first | rw [if_pos (by omega)] | rw [if_neg (by omega)])); (try (first | rw [if_pos (by omega)] | rw [if_neg (by omega)])); (try (first | rw [if_pos (by omega)] | rw [if_neg (by omega)])); (try (first | rw [if_pos (by omega)] | rw [if_neg (by omega)])); (try rfl))) k) dX4_sneeze_23
  · skip
    refine r_iload_n (pc := 7) C dX4_sneeze_7 rfl 2 rfl ?_
    refine r_bipush (pc := 8) C dX4_sneeze_8 (by decide) ?_
    refine r_bipush (pc := 10) C dX4_sneeze_10 (by decide) ?_
    refine r_cSi (pc := 12) C (c_isWithin g n (-11) 11 h_n ⟨by omega, by omega⟩ ⟨by omega, by omega⟩ σ) yX4_isWithin_w rfl t_248 ⟨by decide, by decide⟩ (Nat.le_of_ble_eq_true rfl) rfl dX4_sneeze_12 ?_
    refine r_ifz_ne (pc := 15) C 24 dX4_sneeze_15 (by decide) (fun h15 => ?_) (fun h15 => ?_)
    · skip
      refine r_aload_n (pc := 24) C dX4_sneeze_24 rfl 0 rfl ?_
      refine r_getR4 (pc := 25) C 0 (k' := 0) rfl O_40 (by decide) rfl t_216 dX4_sneeze_25 ?_
      refine r_iload_n (pc := 28) C dX4_sneeze_28 rfl 1 rfl ?_
      refine r_iload_n (pc := 29) C dX4_sneeze_29 rfl 2 rfl ?_
      refine r_cVi (pc := 30) C (c_blowAway_0 g x.toNat (by omega) n ⟨by omega, by omega⟩ σ hD) yX0_blowAway_w O_0 rfl rfl t_340 ⟨by decide, by decide⟩ (Nat.le_of_ble_eq_true rfl) (by rw [show ((x.toNat : Nat) : Int) = x by omega]; rfl) dX4_sneeze_30 ?_
      exact r_retT (pc := 33) C (by first | (exfalso; omega; done) | ((try (first | rw [if_pos (by omega)] | rw [if_neg (by omega)])); (try (first | rw [if_pos (by omega)] | rw [if_neg (by omega)])); (try (first | rw [if_pos (by omega)] | rw [if_neg (by omega)])); (try (first | rw [if_pos (by omega)] | rw [if_neg (by omega)])); (try rfl))) (fun k _ => congrFun (by first | (exfalso; omega; done) | ((try (first | rw [if_pos (by omega)] | rw [if_neg (by omega)])); (try (first | rw [if_pos (by omega)] | rw [if_neg (by omega)])); (try (first | rw [if_pos (by omega)] | rw [if_neg (by omega)])); (try (first | rw [if_pos (by omega)] | rw [if_neg (by omega)])); (try rfl))) k) dX4_sneeze_33
    · skip
      refine r_aload_n (pc := 18) C dX4_sneeze_18 rfl 0 rfl ?_
      refine r_iconst (pc := 19) C dX4_sneeze_19 ?_
      refine r_cVi (pc := 20) C (c_finding g 0 (by decide) σ) yX4_finding_w O_40 rfl rfl t_251 ⟨by decide, by decide⟩ (Nat.le_of_ble_eq_true rfl) rfl dX4_sneeze_20 ?_
      exact r_retT (pc := 23) C (by first | (exfalso; omega; done) | ((try (first | rw [if_pos (by omega)] | rw [if_neg (by omega)])); (try (first | rw [if_pos (by omega)] | rw [if_neg (by omega)])); (try (first | rw [if_pos (by omega)] | rw [if_neg (by omega)])); (try (first | rw [if_pos (by omega)] | rw [if_neg (by omega)])); (try rfl))) (fun k _ => congrFun (by first | (exfalso; omega; done) | ((try (first | rw [if_pos (by omega)] | rw [if_neg (by omega)])); (try (first | rw [if_pos (by omega)] | rw [if_neg (by omega)])); (try (first | rw [if_pos (by omega)] | rw [if_neg (by omega)])); (try (first | rw [if_pos (by omega)] | rw [if_neg (by omega)])); (try rfl))) k) dX4_sneeze_23
set_option maxHeartbeats 4000000 in
set_option maxRecDepth 100000 in
theorem d_go (g : Gt) (n : Int) (h_n : rng n) (σ : Sg) (hW : RW σ 0)  : Mt g yX4_go cX4_go 2 (some FieldType.int) 5 [.ref (gA g 40), .int (iI (n))] σ (pT (if 1 ≤ n ∧ n ≤ 40 then (if 99999 - n < σ 0 10 then (-1000001 - ((4 : Nat) : Int)) else sumF (dsS_0 n.toNat σ 1) 12) else (-1000001 - ((0 : Nat) : Int))) (if 1 ≤ n ∧ n ≤ 40 then (if 99999 - n < σ 0 10 then fin 4 σ else dsS_0 n.toNat σ) else fin 0 σ)) := by
  obtain ⟨hn, hfl, hw, hdy, hz, hD_, hK_, hA_, hG_, hM_, hP_⟩ := id hW
  have hD : rgD (σ 1) := hD_
  have hK : rgK (σ 3) := hK_
  have hA : rgA (σ 4) := hA_
  have hG : rgG (σ 5) := hG_
  have hM : rgM (σ 6) := hM_
  have hP : ∀ j, j < 10 → -1 ≤ σ 7 j ∧ σ 7 j < σ 0 7 := hP_
  have ho_n := h_n.1; have hp_n := h_n.2
  refine mt_of (own := RX4) (by decide) rfl (Nat.le_of_ble_eq_true rfl) (fun E C => ?_)
  show J g E (pT (if 1 ≤ n ∧ n ≤ 40 then (if 99999 - n < σ 0 10 then (-1000001 - ((4 : Nat) : Int)) else sumF (dsS_0 n.toNat σ 1) 12) else (-1000001 - ((0 : Nat) : Int))) (if 1 ≤ n ∧ n ≤ 40 then (if 99999 - n < σ 0 10 then fin 4 σ else dsS_0 n.toNat σ) else fin 0 σ)) 2 0 [(0, .ref (gA g 40)), (1, .int (iI (n)))] [] σ
  refine r_iload_n (pc := 0) C dX4_go_0 rfl 1 rfl ?_
  refine r_iconst (pc := 1) C dX4_go_1 ?_
  refine r_bipush (pc := 2) C dX4_go_2 (by decide) ?_
  refine r_cSi (pc := 4) C (c_isWithin g n 1 40 h_n ⟨by omega, by omega⟩ ⟨by omega, by omega⟩ σ) yX4_isWithin_w rfl t_248 ⟨by decide, by decide⟩ (Nat.le_of_ble_eq_true rfl) rfl dX4_go_4 ?_
  refine r_ifz_ne (pc := 7) C 16 dX4_go_7 (by decide) (fun h7 => ?_) (fun h7 => ?_)
  · skip
    refine r_aload_n (pc := 16) C dX4_go_16 rfl 0 rfl ?_
    refine r_getR4 (pc := 17) C 0 (k' := 0) rfl O_40 (by decide) rfl t_216 dX4_go_17 ?_
    refine r_getI0 (pc := 20) C 10 rfl O_0 (by decide) rfl t_129 dX4_go_20 ?_
    refine r_ldc (pc := 23) C 99999 t_319 (by decide) dX4_go_23 ?_
    refine r_iload_n (pc := 25) C dX4_go_25 rfl 1 rfl ?_
    refine r_isub (pc := 26) C dX4_go_26 ?_
    refine r_icmp_le (pc := 27) C 36 ⟨by omega, by omega⟩ ⟨by omega, by omega⟩ dX4_go_27 (by decide) (fun h27 => ?_) (fun h27 => ?_)
    · skip
      refine r_aload_n (pc := 36) C dX4_go_36 rfl 0 rfl ?_
      refine r_getR4 (pc := 37) C 0 (k' := 0) rfl O_40 (by decide) rfl t_216 dX4_go_37 ?_
      refine r_iload_n (pc := 40) C dX4_go_40 rfl 1 rfl ?_
      refine r_cVv (pc := 41) C (c_passDays_0 g n.toNat (by omega) σ hW) yX0_passDays_w O_0 rfl rfl t_354 ⟨by decide, by decide⟩ (Nat.le_of_ble_eq_true rfl) (by rw [show ((n.toNat : Nat) : Int) = n by omega]; rfl) dX4_go_41 ?_
      refine r_aload_n (pc := 44) C dX4_go_44 rfl 0 rfl ?_
      refine r_getR4 (pc := 45) C 0 (k' := 0) rfl O_40 (by decide) rfl t_216 dX4_go_45 ?_
      refine r_cVi (pc := 48) C (c_allDust_0 g (dsS_0 n.toNat σ)) yX0_allDust_w O_0 rfl rfl t_389 ⟨by decide, by decide⟩ (Nat.le_of_ble_eq_true rfl) rfl dX4_go_48 ?_
      exact r_retT (pc := 51) C (by first | (exfalso; omega; done) | ((try (first | rw [if_pos (by omega)] | rw [if_neg (by omega)])); (try (first | rw [if_pos (by omega)] | rw [if_neg (by omega)])); (try (first | rw [if_pos (by omega)] | rw [if_neg (by omega)])); (try (first | rw [if_pos (by omega)] | rw [if_neg (by omega)])); (try rfl))) (fun k _ => congrFun (by first | (exfalso; omega; done) | ((try (first | rw [if_pos (by omega)] | rw [if_neg (by omega)])); (try (first | rw [if_pos (by omega)] | rw [if_neg (by omega)])); (try (first | rw [if_pos (by omega)] | rw [if_neg (by omega)])); (try (first | rw [if_pos (by omega)] | rw [if_neg (by omega)])); (try rfl))) k) dX4_go_51
    · skip
      refine r_aload_n (pc := 30) C dX4_go_30 rfl 0 rfl ?_
      refine r_iconst (pc := 31) C dX4_go_31 ?_
      refine r_cVi (pc := 32) C (c_finding g 4 (by decide) σ) yX4_finding_w O_40 rfl rfl t_251 ⟨by decide, by decide⟩ (Nat.le_of_ble_eq_true rfl) rfl dX4_go_32 ?_
      exact r_retT (pc := 35) C (by first | (exfalso; omega; done) | ((try (first | rw [if_pos (by omega)] | rw [if_neg (by omega)])); (try (first | rw [if_pos (by omega)] | rw [if_neg (by omega)])); (try (first | rw [if_pos (by omega)] | rw [if_neg (by omega)])); (try (first | rw [if_pos (by omega)] | rw [if_neg (by omega)])); (try rfl))) (fun k _ => congrFun (by first | (exfalso; omega; done) | ((try (first | rw [if_pos (by omega)] | rw [if_neg (by omega)])); (try (first | rw [if_pos (by omega)] | rw [if_neg (by omega)])); (try (first | rw [if_pos (by omega)] | rw [if_neg (by omega)])); (try (first | rw [if_pos (by omega)] | rw [if_neg (by omega)])); (try rfl))) k) dX4_go_35
  · skip
    refine r_aload_n (pc := 10) C dX4_go_10 rfl 0 rfl ?_
    refine r_iconst (pc := 11) C dX4_go_11 ?_
    refine r_cVi (pc := 12) C (c_finding g 0 (by decide) σ) yX4_finding_w O_40 rfl rfl t_251 ⟨by decide, by decide⟩ (Nat.le_of_ble_eq_true rfl) rfl dX4_go_12 ?_
    exact r_retT (pc := 15) C (by first | (exfalso; omega; done) | ((try (first | rw [if_pos (by omega)] | rw [if_neg (by omega)])); (try (first | rw [if_pos (by omega)] | rw [if_neg (by omega)])); (try (first | rw [if_pos (by omega)] | rw [if_neg (by omega)])); (try (first | rw [if_pos (by omega)] | rw [if_neg (by omega)])); (try rfl))) (fun k _ => congrFun (by first | (exfalso; omega; done) | ((try (first | rw [if_pos (by omega)] | rw [if_neg (by omega)])); (try (first | rw [if_pos (by omega)] | rw [if_neg (by omega)])); (try (first | rw [if_pos (by omega)] | rw [if_neg (by omega)])); (try (first | rw [if_pos (by omega)] | rw [if_neg (by omega)])); (try rfl))) k) dX4_go_15
set_option maxHeartbeats 4000000 in
set_option maxRecDepth 100000 in
theorem d_now (g : Gt) (w : Int) (h_w : rng w) (σ : Sg) (hW : RW σ 0)  : Mt g yX4_now cX4_now 2 (some FieldType.int) 3 [.ref (gA g 40), .int (iI (w))] σ (pT (if 0 ≤ w ∧ w ≤ 5 then (if w = 0 then σ 0 10 else if w = 1 then sumF (σ 1) 12 else if w = 2 then sumF (σ 5) (σ 0 7).toNat else if w = 3 then band 4095 (bxor (setF (fun f => decide (holder (σ 0 7) (σ 6) f = -1)) 12) (-1)) else if w = 4 then lnF (σ 0 7) (σ 6) 12 else richF (σ 5) (σ 0 7).toNat) else (-1000001 - ((0 : Nat) : Int))) (if 0 ≤ w ∧ w ≤ 5 then σ else fin 0 σ)) := by
  obtain ⟨hn, hfl, hw, hdy, hz, hD_, hK_, hA_, hG_, hM_, hP_⟩ := id hW
  have hD : rgD (σ 1) := hD_
  have hK : rgK (σ 3) := hK_
  have hA : rgA (σ 4) := hA_
  have hG : rgG (σ 5) := hG_
  have hM : rgM (σ 6) := hM_
  have hP : ∀ j, j < 10 → -1 ≤ σ 7 j ∧ σ 7 j < σ 0 7 := hP_
  have ho_w := h_w.1; have hp_w := h_w.2
  refine mt_of (own := RX4) (by decide) rfl (Nat.le_of_ble_eq_true rfl) (fun E C => ?_)
  show J g E (pT (if 0 ≤ w ∧ w ≤ 5 then (if w = 0 then σ 0 10 else if w = 1 then sumF (σ 1) 12 else if w = 2 then sumF (σ 5) (σ 0 7).toNat else if w = 3 then band 4095 (bxor (setF (fun f => decide (holder (σ 0 7) (σ 6) f = -1)) 12) (-1)) else if w = 4 then lnF (σ 0 7) (σ 6) 12 else richF (σ 5) (σ 0 7).toNat) else (-1000001 - ((0 : Nat) : Int))) (if 0 ≤ w ∧ w ≤ 5 then σ else fin 0 σ)) 2 0 [(0, .ref (gA g 40)), (1, .int (iI (w)))] [] σ
  refine r_iload_n (pc := 0) C dX4_now_0 rfl 1 rfl ?_
  by_cases hs1_0 : w = 0
  · refine r_tabIn C 0 40 dX4_now_1 hs1_0 ⟨by decide, by decide⟩ (by decide) (by decide) rfl (by decide) ?_
    refine r_aload_n (pc := 40) C dX4_now_40 rfl 0 rfl ?_
    refine r_getR4 (pc := 41) C 0 (k' := 0) rfl O_40 (by decide) rfl t_216 dX4_now_41 ?_
    refine r_getI0 (pc := 44) C 10 rfl O_0 (by decide) rfl t_129 dX4_now_44 ?_
    exact r_retT (pc := 47) C (by first | (exfalso; omega; done) | ((first | rw [if_pos (by omega)] | rw [if_neg (by omega)]); (try (first | rw [if_pos (by omega)] | rw [if_neg (by omega)])); (try (first | rw [if_pos (by omega)] | rw [if_neg (by omega)])); (try (first | rw [if_pos (by omega)] | rw [if_neg (by omega)])); (try (first | rw [if_pos (by omega)] | rw [if_neg (by omega)])); (try (first | rw [if_pos (by omega)] | rw [if_neg (by omega)])); (try (first | rw [if_pos (by omega)] | rw [if_neg (by omega)])); (try rfl))) (fun k _ => congrFun (by first | (exfalso; omega; done) | ((try (first | rw [if_pos (by omega)] | rw [if_neg (by omega)])); (try (first | rw [if_pos (by omega)] | rw [if_neg (by omega)])); (try (first | rw [if_pos (by omega)] | rw [if_neg (by omega)])); (try (first | rw [if_pos (by omega)] | rw [if_neg (by omega)])); (try rfl))) k) dX4_now_47
  by_cases hs1_1 : w = 1
  · refine r_tabIn C 1 48 dX4_now_1 hs1_1 ⟨by decide, by decide⟩ (by decide) (by decide) rfl (by decide) ?_
    refine r_aload_n (pc := 48) C dX4_now_48 rfl 0 rfl ?_
    refine r_getR4 (pc := 49) C 0 (k' := 0) rfl O_40 (by decide) rfl t_216 dX4_now_49 ?_
    refine r_cVi (pc := 52) C (c_allDust_0 g σ) yX0_allDust_w O_0 rfl rfl t_389 ⟨by decide, by decide⟩ (Nat.le_of_ble_eq_true rfl) rfl dX4_now_52 ?_
    exact r_retT (pc := 55) C (by first | (exfalso; omega; done) | ((first | rw [if_pos (by omega)] | rw [if_neg (by omega)]); (try (first | rw [if_pos (by omega)] | rw [if_neg (by omega)])); (try (first | rw [if_pos (by omega)] | rw [if_neg (by omega)])); (try (first | rw [if_pos (by omega)] | rw [if_neg (by omega)])); (try (first | rw [if_pos (by omega)] | rw [if_neg (by omega)])); (try (first | rw [if_pos (by omega)] | rw [if_neg (by omega)])); (try (first | rw [if_pos (by omega)] | rw [if_neg (by omega)])); (try rfl))) (fun k _ => congrFun (by first | (exfalso; omega; done) | ((try (first | rw [if_pos (by omega)] | rw [if_neg (by omega)])); (try (first | rw [if_pos (by omega)] | rw [if_neg (by omega)])); (try (first | rw [if_pos (by omega)] | rw [if_neg (by omega)])); (try (first | rw [if_pos (by omega)] | rw [if_neg (by omega)])); (try rfl))) k) dX4_now_55
  by_cases hs1_2 : w = 2
  · refine r_tabIn C 2 56 dX4_now_1 hs1_2 ⟨by decide, by decide⟩ (by decide) (by decide) rfl (by decide) ?_
    refine r_aload_n (pc := 56) C dX4_now_56 rfl 0 rfl ?_
    refine r_getR4 (pc := 57) C 0 (k' := 0) rfl O_40 (by decide) rfl t_216 dX4_now_57 ?_
    refine r_cVi (pc := 60) C (c_allGoods_0 g  σ hn) yX0_allGoods_w O_0 rfl rfl t_400 ⟨by decide, by decide⟩ (Nat.le_of_ble_eq_true rfl) rfl dX4_now_60 ?_
    exact r_retT (pc := 63) C (by first | (exfalso; omega; done) | ((first | rw [if_pos (by omega)] | rw [if_neg (by omega)]); (try (first | rw [if_pos (by omega)] | rw [if_neg (by omega)])); (try (first | rw [if_pos (by omega)] | rw [if_neg (by omega)])); (try (first | rw [if_pos (by omega)] | rw [if_neg (by omega)])); (try (first | rw [if_pos (by omega)] | rw [if_neg (by omega)])); (try (first | rw [if_pos (by omega)] | rw [if_neg (by omega)])); (try (first | rw [if_pos (by omega)] | rw [if_neg (by omega)])); (try rfl))) (fun k _ => congrFun (by first | (exfalso; omega; done) | ((try (first | rw [if_pos (by omega)] | rw [if_neg (by omega)])); (try (first | rw [if_pos (by omega)] | rw [if_neg (by omega)])); (try (first | rw [if_pos (by omega)] | rw [if_neg (by omega)])); (try (first | rw [if_pos (by omega)] | rw [if_neg (by omega)])); (try rfl))) k) dX4_now_63
  by_cases hs1_3 : w = 3
  · refine r_tabIn C 3 64 dX4_now_1 hs1_3 ⟨by decide, by decide⟩ (by decide) (by decide) rfl (by decide) ?_
    refine r_aload_n (pc := 64) C dX4_now_64 rfl 0 rfl ?_
    refine r_getR4 (pc := 65) C 0 (k' := 0) rfl O_40 (by decide) rfl t_216 dX4_now_65 ?_
    refine r_cVi (pc := 68) C (c_heldSurfaces_0 g σ hn hM) yX0_heldSurfaces_w O_0 rfl rfl t_404 ⟨by decide, by decide⟩ (Nat.le_of_ble_eq_true rfl) rfl dX4_now_68 ?_
    exact r_retT (pc := 71) C (by first | (exfalso; omega; done) | ((first | rw [if_pos (by omega)] | rw [if_neg (by omega)]); (try (first | rw [if_pos (by omega)] | rw [if_neg (by omega)])); (try (first | rw [if_pos (by omega)] | rw [if_neg (by omega)])); (try (first | rw [if_pos (by omega)] | rw [if_neg (by omega)])); (try (first | rw [if_pos (by omega)] | rw [if_neg (by omega)])); (try (first | rw [if_pos (by omega)] | rw [if_neg (by omega)])); (try (first | rw [if_pos (by omega)] | rw [if_neg (by omega)])); (try rfl))) (fun k _ => congrFun (by first | (exfalso; omega; done) | ((try (first | rw [if_pos (by omega)] | rw [if_neg (by omega)])); (try (first | rw [if_pos (by omega)] | rw [if_neg (by omega)])); (try (first | rw [if_pos (by omega)] | rw [if_neg (by omega)])); (try (first | rw [if_pos (by omega)] | rw [if_neg (by omega)])); (try rfl))) k) dX4_now_71
  by_cases hs1_4 : w = 4
  · refine r_tabIn C 4 72 dX4_now_1 hs1_4 ⟨by decide, by decide⟩ (by decide) (by decide) rfl (by decide) ?_
    refine r_aload_n (pc := 72) C dX4_now_72 rfl 0 rfl ?_
    refine r_getR4 (pc := 73) C 0 (k' := 0) rfl O_40 (by decide) rfl t_216 dX4_now_73 ?_
    refine r_cVi (pc := 76) C (c_landless_0 g σ hn hM) yX0_landless_w O_0 rfl rfl t_409 ⟨by decide, by decide⟩ (Nat.le_of_ble_eq_true rfl) rfl dX4_now_76 ?_
    exact r_retT (pc := 79) C (by first | (exfalso; omega; done) | ((first | rw [if_pos (by omega)] | rw [if_neg (by omega)]); (try (first | rw [if_pos (by omega)] | rw [if_neg (by omega)])); (try (first | rw [if_pos (by omega)] | rw [if_neg (by omega)])); (try (first | rw [if_pos (by omega)] | rw [if_neg (by omega)])); (try (first | rw [if_pos (by omega)] | rw [if_neg (by omega)])); (try (first | rw [if_pos (by omega)] | rw [if_neg (by omega)])); (try (first | rw [if_pos (by omega)] | rw [if_neg (by omega)])); (try rfl))) (fun k _ => congrFun (by first | (exfalso; omega; done) | ((try (first | rw [if_pos (by omega)] | rw [if_neg (by omega)])); (try (first | rw [if_pos (by omega)] | rw [if_neg (by omega)])); (try (first | rw [if_pos (by omega)] | rw [if_neg (by omega)])); (try (first | rw [if_pos (by omega)] | rw [if_neg (by omega)])); (try rfl))) k) dX4_now_79
  by_cases hs1_5 : w = 5
  · refine r_tabIn C 5 80 dX4_now_1 hs1_5 ⟨by decide, by decide⟩ (by decide) (by decide) rfl (by decide) ?_
    refine r_aload_n (pc := 80) C dX4_now_80 rfl 0 rfl ?_
    refine r_getR4 (pc := 81) C 0 (k' := 0) rfl O_40 (by decide) rfl t_216 dX4_now_81 ?_
    refine r_cVi (pc := 84) C (c_richest_0 g  σ hn hG) yX0_richest_w O_0 rfl rfl t_413 ⟨by decide, by decide⟩ (Nat.le_of_ble_eq_true rfl) rfl dX4_now_84 ?_
    exact r_retT (pc := 87) C (by first | (exfalso; omega; done) | ((first | rw [if_pos (by omega)] | rw [if_neg (by omega)]); (try (first | rw [if_pos (by omega)] | rw [if_neg (by omega)])); (try (first | rw [if_pos (by omega)] | rw [if_neg (by omega)])); (try (first | rw [if_pos (by omega)] | rw [if_neg (by omega)])); (try (first | rw [if_pos (by omega)] | rw [if_neg (by omega)])); (try (first | rw [if_pos (by omega)] | rw [if_neg (by omega)])); (try (first | rw [if_pos (by omega)] | rw [if_neg (by omega)])); (try rfl))) (fun k _ => congrFun (by first | (exfalso; omega; done) | ((try (first | rw [if_pos (by omega)] | rw [if_neg (by omega)])); (try (first | rw [if_pos (by omega)] | rw [if_neg (by omega)])); (try (first | rw [if_pos (by omega)] | rw [if_neg (by omega)])); (try (first | rw [if_pos (by omega)] | rw [if_neg (by omega)])); (try rfl))) k) dX4_now_87
  refine r_tabOut (pc := 1) C 88 dX4_now_1 h_w (by omega) (by decide) ?_
  refine r_aload_n (pc := 88) C dX4_now_88 rfl 0 rfl ?_
  refine r_iconst (pc := 89) C dX4_now_89 ?_
  refine r_cVi (pc := 90) C (c_finding g 0 (by decide) σ) yX4_finding_w O_40 rfl rfl t_251 ⟨by decide, by decide⟩ (Nat.le_of_ble_eq_true rfl) rfl dX4_now_90 ?_
  exact r_retT (pc := 93) C (by first | (exfalso; omega; done) | ((first | rw [if_pos (by omega)] | rw [if_neg (by omega)]); (try (first | rw [if_pos (by omega)] | rw [if_neg (by omega)])); (try (first | rw [if_pos (by omega)] | rw [if_neg (by omega)])); (try (first | rw [if_pos (by omega)] | rw [if_neg (by omega)])); (try (first | rw [if_pos (by omega)] | rw [if_neg (by omega)])); (try (first | rw [if_pos (by omega)] | rw [if_neg (by omega)])); (try (first | rw [if_pos (by omega)] | rw [if_neg (by omega)])); (try rfl))) (fun k _ => congrFun (by first | (exfalso; omega; done) | ((try (first | rw [if_pos (by omega)] | rw [if_neg (by omega)])); (try (first | rw [if_pos (by omega)] | rw [if_neg (by omega)])); (try (first | rw [if_pos (by omega)] | rw [if_neg (by omega)])); (try (first | rw [if_pos (by omega)] | rw [if_neg (by omega)])); (try rfl))) k) dX4_now_93
set_option maxHeartbeats 4000000 in
set_option maxRecDepth 100000 in
theorem d_seed (g : Gt) (v : Int) (h_v : rng v) (σ : Sg) (hW : RW σ 0)  : Mt g yX4_seed cX4_seed 3 (some FieldType.int) 0 [.ref (gA g 40), .int (iI (v))] σ (pT (σ 0 11) (wr σ 0 11 v)) := by
  obtain ⟨hn, hfl, hw, hdy, hz, hD_, hK_, hA_, hG_, hM_, hP_⟩ := id hW
  have hD : rgD (σ 1) := hD_
  have hK : rgK (σ 3) := hK_
  have hA : rgA (σ 4) := hA_
  have hG : rgG (σ 5) := hG_
  have hM : rgM (σ 6) := hM_
  have hP : ∀ j, j < 10 → -1 ≤ σ 7 j ∧ σ 7 j < σ 0 7 := hP_
  have ho_v := h_v.1; have hp_v := h_v.2
  refine mt_of (own := RX4) (by decide) rfl (Nat.le_of_ble_eq_true rfl) (fun E C => ?_)
  show J g E (pT (σ 0 11) (wr σ 0 11 v)) 3 0 [(0, .ref (gA g 40)), (1, .int (iI (v)))] [] σ
  refine r_aload_n (pc := 0) C dX4_seed_0 rfl 0 rfl ?_
  refine r_getR4 (pc := 1) C 0 (k' := 0) rfl O_40 (by decide) rfl t_216 dX4_seed_1 ?_
  refine r_getI0 (pc := 4) C 11 rfl O_0 (by decide) rfl t_131 dX4_seed_4 ?_
  refine r_istore_n (pc := 7) C dX4_seed_7 rfl (by decide) [1, 2, 0] (lv' := [(0, .ref (gA g 40)), (1, .int (iI (v))), (2, .int (iI (σ 0 11)))]) rfl ?_
  refine r_aload_n (pc := 8) C dX4_seed_8 rfl 0 rfl ?_
  refine r_getR4 (pc := 9) C 0 (k' := 0) rfl O_40 (by decide) rfl t_216 dX4_seed_9 ?_
  refine r_iload_n (pc := 12) C dX4_seed_12 rfl 1 rfl ?_
  refine r_put0 (pc := 13) C 11 rfl O_0 (by decide) rfl t_131 rfl (by decide +kernel) dX4_seed_13 ?_
  refine r_iload_n (pc := 16) C dX4_seed_16 rfl 2 rfl ?_
  exact r_retT (pc := 17) C (rfl) (fun _ _ => rfl) dX4_seed_17
set_option maxHeartbeats 4000000 in
set_option maxRecDepth 100000 in
theorem d_hold (g : Gt) (q x : Int) (h_q : rng q) (h_x : rng x) (σ : Sg) (hW : RW σ 0)  : Mt g yX4_hold cX4_hold 3 (some FieldType.int) 1 [.ref (gA g 40), .int (iI (q)), .int (iI (x))] σ (pT (if (0 ≤ q ∧ q < 10) ∧ (x = -1 ∨ (0 ≤ x ∧ x < σ 0 7)) then 1 else (-1000001 - ((0 : Nat) : Int))) (if (0 ≤ q ∧ q < 10) ∧ (x = -1 ∨ (0 ≤ x ∧ x < σ 0 7)) then wr σ 7 q.toNat x else fin 0 σ)) := by
  obtain ⟨hn, hfl, hw, hdy, hz, hD_, hK_, hA_, hG_, hM_, hP_⟩ := id hW
  have hD : rgD (σ 1) := hD_
  have hK : rgK (σ 3) := hK_
  have hA : rgA (σ 4) := hA_
  have hG : rgG (σ 5) := hG_
  have hM : rgM (σ 6) := hM_
  have hP : ∀ j, j < 10 → -1 ≤ σ 7 j ∧ σ 7 j < σ 0 7 := hP_
  have ho_q := h_q.1; have hp_q := h_q.2
  have ho_x := h_x.1; have hp_x := h_x.2
  refine mt_of (own := RX4) (by decide) rfl (Nat.le_of_ble_eq_true rfl) (fun E C => ?_)
  show J g E (pT (if (0 ≤ q ∧ q < 10) ∧ (x = -1 ∨ (0 ≤ x ∧ x < σ 0 7)) then 1 else (-1000001 - ((0 : Nat) : Int))) (if (0 ≤ q ∧ q < 10) ∧ (x = -1 ∨ (0 ≤ x ∧ x < σ 0 7)) then wr σ 7 q.toNat x else fin 0 σ)) 3 0 [(0, .ref (gA g 40)), (1, .int (iI (q))), (2, .int (iI (x)))] [] σ
  refine r_iload_n (pc := 0) C dX4_hold_0 rfl 1 rfl ?_
  refine r_cSi (pc := 1) C (c_isSpot g q h_q σ) yX4_isSpot_w rfl t_704 ⟨by decide, by decide⟩ (Nat.le_of_ble_eq_true rfl) rfl dX4_hold_1 ?_
  refine r_ifz_eq (pc := 4) C 20 dX4_hold_4 (by decide) (fun h4 => ?_) (fun h4 => ?_)
  · skip
    refine r_aload_n (pc := 20) C dX4_hold_20 rfl 0 rfl ?_
    refine r_iconst (pc := 21) C dX4_hold_21 ?_
    refine r_cVi (pc := 22) C (c_finding g 0 (by decide) σ) yX4_finding_w O_40 rfl rfl t_251 ⟨by decide, by decide⟩ (Nat.le_of_ble_eq_true rfl) rfl dX4_hold_22 ?_
    exact r_retT (pc := 25) C (by first | (exfalso; omega; done) | ((try (first | rw [if_pos (by omega)] | rw [if_neg (by omega)])); (try (first | rw [if_pos (by omega)] | rw [if_neg (by omega)])); (try (first | rw [if_pos (by omega)] | rw [if_neg (by omega)])); (try (first | rw [if_pos (by omega)] | rw [if_neg (by omega)])); (try rfl))) (fun k _ => congrFun (by first | (exfalso; omega; done) | ((try (first | rw [if_pos (by omega)] | rw [if_neg (by omega)])); (try (first | rw [if_pos (by omega)] | rw [if_neg (by omega)])); (try (first | rw [if_pos (by omega)] | rw [if_neg (by omega)])); (try (first | rw [if_pos (by omega)] | rw [if_neg (by omega)])); (try rfl))) k) dX4_hold_25
  · skip
    refine r_iload_n (pc := 7) C dX4_hold_7 rfl 2 rfl ?_
    refine r_iconst (pc := 8) C dX4_hold_8 ?_
    refine r_icmp_eq (pc := 9) C 26 h_x ⟨by omega, by omega⟩ dX4_hold_9 (by decide) (fun h9 => ?_) (fun h9 => ?_)
    · skip
      refine r_aload_n (pc := 26) C dX4_hold_26 rfl 0 rfl ?_
      refine r_getR4 (pc := 27) C 0 (k' := 0) rfl O_40 (by decide) rfl t_216 dX4_hold_27 ?_
      refine r_getR0 (pc := 30) C 6 (k' := 7) rfl O_0 (by decide) rfl t_118 dX4_hold_30 ?_
      refine r_iload_n (pc := 33) C dX4_hold_33 rfl 1 rfl ?_
      refine r_iload_n (pc := 34) C dX4_hold_34 rfl 2 rfl ?_
      refine r_iast (pc := 35) C q.toNat A_7 (by omega) (by omega) dX4_hold_35 ?_
      refine r_iconst (pc := 36) C dX4_hold_36 ?_
      exact r_retT (pc := 37) C (by first | (exfalso; omega; done) | ((try (first | rw [if_pos (by omega)] | rw [if_neg (by omega)])); (try (first | rw [if_pos (by omega)] | rw [if_neg (by omega)])); (try (first | rw [if_pos (by omega)] | rw [if_neg (by omega)])); (try (first | rw [if_pos (by omega)] | rw [if_neg (by omega)])); (try rfl))) (fun k _ => congrFun (by first | (exfalso; omega; done) | ((try (first | rw [if_pos (by omega)] | rw [if_neg (by omega)])); (try (first | rw [if_pos (by omega)] | rw [if_neg (by omega)])); (try (first | rw [if_pos (by omega)] | rw [if_neg (by omega)])); (try (first | rw [if_pos (by omega)] | rw [if_neg (by omega)])); (try rfl))) k) dX4_hold_37
    · skip
      refine r_aload_n (pc := 12) C dX4_hold_12 rfl 0 rfl ?_
      refine r_iload_n (pc := 13) C dX4_hold_13 rfl 2 rfl ?_
      refine r_cVi (pc := 14) C (c_isTenant g x h_x σ (by omega)) yX4_isTenant_w O_40 rfl rfl t_292 ⟨by decide, by decide⟩ (Nat.le_of_ble_eq_true rfl) rfl dX4_hold_14 ?_
      refine r_ifz_ne (pc := 17) C 26 dX4_hold_17 (by decide) (fun h17 => ?_) (fun h17 => ?_)
      · skip
        refine r_aload_n (pc := 26) C dX4_hold_26 rfl 0 rfl ?_
        refine r_getR4 (pc := 27) C 0 (k' := 0) rfl O_40 (by decide) rfl t_216 dX4_hold_27 ?_
        refine r_getR0 (pc := 30) C 6 (k' := 7) rfl O_0 (by decide) rfl t_118 dX4_hold_30 ?_
        refine r_iload_n (pc := 33) C dX4_hold_33 rfl 1 rfl ?_
        refine r_iload_n (pc := 34) C dX4_hold_34 rfl 2 rfl ?_
        refine r_iast (pc := 35) C q.toNat A_7 (by omega) (by omega) dX4_hold_35 ?_
        refine r_iconst (pc := 36) C dX4_hold_36 ?_
        exact r_retT (pc := 37) C (by first | (exfalso; omega; done) | ((try (first | rw [if_pos (by omega)] | rw [if_neg (by omega)])); (try (first | rw [if_pos (by omega)] | rw [if_neg (by omega)])); (try (first | rw [if_pos (by omega)] | rw [if_neg (by omega)])); (try (first | rw [if_pos (by omega)] | rw [if_neg (by omega)])); (try rfl))) (fun k _ => congrFun (by first | (exfalso; omega; done) | ((try (first | rw [if_pos (by omega)] | rw [if_neg (by omega)])); (try (first | rw [if_pos (by omega)] | rw [if_neg (by omega)])); (try (first | rw [if_pos (by omega)] | rw [if_neg (by omega)])); (try (first | rw [if_pos (by omega)] | rw [if_neg (by omega)])); (try rfl))) k) dX4_hold_37
      · skip
        refine r_aload_n (pc := 20) C dX4_hold_20 rfl 0 rfl ?_
        refine r_iconst (pc := 21) C dX4_hold_21 ?_
        refine r_cVi (pc := 22) C (c_finding g 0 (by decide) σ) yX4_finding_w O_40 rfl rfl t_251 ⟨by decide, by decide⟩ (Nat.le_of_ble_eq_true rfl) rfl dX4_hold_22 ?_
        exact r_retT (pc := 25) C (by first | (exfalso; omega; done) | ((try (first | rw [if_pos (by omega)] | rw [if_neg (by omega)])); (try (first | rw [if_pos (by omega)] | rw [if_neg (by omega)])); (try (first | rw [if_pos (by omega)] | rw [if_neg (by omega)])); (try (first | rw [if_pos (by omega)] | rw [if_neg (by omega)])); (try rfl))) (fun k _ => congrFun (by first | (exfalso; omega; done) | ((try (first | rw [if_pos (by omega)] | rw [if_neg (by omega)])); (try (first | rw [if_pos (by omega)] | rw [if_neg (by omega)])); (try (first | rw [if_pos (by omega)] | rw [if_neg (by omega)])); (try (first | rw [if_pos (by omega)] | rw [if_neg (by omega)])); (try rfl))) k) dX4_hold_25
set_option maxHeartbeats 4000000 in
set_option maxRecDepth 100000 in
theorem c_isOfKind (g : Gt) (k w : Int) (hk : 0 ≤ k ∧ k ≤ 6) (hw : rng w) (σ : Sg) : Mt g yX4_isOfKind cX4_isOfKind 4 (some FieldType.boolean) 1 [.int (iI (k)), .int (iI (w))] σ (pI (b01 (ofK 7 k w = true)) σ) := by
  refine mt_of (own := RX4) (by decide) rfl (Nat.le_of_ble_eq_true rfl) (fun E C => ?_)
  show J g E (pI (b01 (ofK 7 k w = true)) σ) 4 0 [(0, .int (iI (k))), (1, .int (iI (w)))] [] σ
  refine r_iload_n (pc := 0) C dX4_isOfKind_0 rfl 0 rfl ?_
  refine r_istore_n (pc := 1) C dX4_isOfKind_1 rfl (by decide) [1, 2, 0] (lv' := [(0, .int (iI (k))), (1, .int (iI (w))), (2, .int (iI (k)))]) rfl ?_
  refine r_iconst (pc := 2) C dX4_isOfKind_2 ?_
  refine r_istore_n (pc := 3) C dX4_isOfKind_3 rfl (by decide) [1, 2, 3, 0] (lv' := [(0, .int (iI (k))), (1, .int (iI (w))), (2, .int (iI (k))), (3, .int (iI (0)))]) rfl ?_
  have L4 : ∀ (n_ : Nat) (i : Nat) (kk : Int) (x4_3 : Int), 7 - i < n_ → (i ≤ 7) → (-1 ≤ kk ∧ kk ≤ 6) → (ofK 7 k w = ofK (7 - i) kk w) → x4_3 = (i : Int) → J g E (pI (b01 (ofK 7 k w = true)) σ) 4 4 [(0, .int (iI (k))), (1, .int (iI (w))), (2, .int (iI (kk))), (3, .int (iI (x4_3)))] [] σ := by
    intro n_
    induction n_ with
    | zero => intro i kk x4_3  hm_; exact absurd hm_ (Nat.not_lt_zero _)
    | succ n_ ih4 =>
      intro i kk x4_3  hm4 hi4_0 hi4_1 hi4_2 e4_0 
      subst e4_0 
      refine r_iload_n (pc := 4) C dX4_isOfKind_4 rfl 3 rfl ?_
      refine r_bipush (pc := 5) C dX4_isOfKind_5 (by decide) ?_
      refine r_icmp_ge (pc := 7) C 36 ⟨by omega, by omega⟩ ⟨by omega, by omega⟩ dX4_isOfKind_7 (by decide) (fun h7 => ?_) (fun h7 => ?_)
      · skip
        refine r_iconst (pc := 36) C dX4_isOfKind_36 ?_
        exact r_retz (pc := 37) C (Or.inl rfl) (b01_0 (by rw [hi4_2]; (first | rw [show 7 - i = 0 by omega, ofK] | rw [show 7 - i = 7 - (i + 1) + 1 by omega, ofK, if_neg (by omega)]); decide)) (rfl) dX4_isOfKind_37
      · skip
        refine r_iload_n (pc := 10) C dX4_isOfKind_10 rfl 2 rfl ?_
        refine r_cSi (pc := 11) C (c_isKind g kk ⟨by omega, by omega⟩ σ) yX4_isKind_w rfl t_281 ⟨by decide, by decide⟩ (Nat.le_of_ble_eq_true rfl) rfl dX4_isOfKind_11 ?_
        refine r_ifz_eq (pc := 14) C 36 dX4_isOfKind_14 (by decide) (fun h14 => ?_) (fun h14 => ?_)
        · skip
          refine r_iconst (pc := 36) C dX4_isOfKind_36 ?_
          exact r_retz (pc := 37) C (Or.inl rfl) (b01_0 (by rw [hi4_2]; (first | rw [show 7 - i = 0 by omega, ofK] | rw [show 7 - i = 7 - (i + 1) + 1 by omega, ofK, if_neg (by omega)]); decide)) (rfl) dX4_isOfKind_37
        · skip
          refine r_iload_n (pc := 17) C dX4_isOfKind_17 rfl 2 rfl ?_
          refine r_iload_n (pc := 18) C dX4_isOfKind_18 rfl 1 rfl ?_
          refine r_icmp_ne (pc := 19) C 24 ⟨by omega, by omega⟩ hw dX4_isOfKind_19 (by decide) (fun h19 => ?_) (fun h19 => ?_)
          · skip
            refine r_gets (pc := 24) C F_ab t_714 dX4_isOfKind_24 ?_
            refine r_iload_n (pc := 27) C dX4_isOfKind_27 rfl 2 rfl ?_
            refine r_tald (pc := 28) C kk.toNat F_ab (by omega) (by omega) dX4_isOfKind_28 ?_
            have hs2 := stab2_rng kk.toNat
            refine r_istore_n (pc := 29) C dX4_isOfKind_29 rfl (by decide) [1, 2, 0, 3] (lv' := [(0, .int (iI (k))), (1, .int (iI (w))), (2, .int (iI (stab 2 kk.toNat))), (3, .int (iI ((i : Int))))]) rfl ?_
            refine r_iinc (pc := 30) C dX4_isOfKind_30 3 rfl (by decide) [1, 2, 3, 0] (lv' := [(0, .int (iI (k))), (1, .int (iI (w))), (2, .int (iI (stab 2 kk.toNat))), (3, .int (iI ((i : Int) + 1)))]) rfl ?_
            refine r_goto (pc := 33) C 4 dX4_isOfKind_33 (by decide) ?_
            exact ih4 (i + 1) (stab 2 kk.toNat) _ (by omega) (by omega) (by omega) (by rw [hi4_2, show 7 - i = 7 - (i + 1) + 1 by omega, ofK, if_pos (by omega), if_neg (by omega)]) (by omega)
          · skip
            refine r_iconst (pc := 22) C dX4_isOfKind_22 ?_
            exact r_retz (pc := 23) C (Or.inr rfl) (b01_1 (by rw [hi4_2, show 7 - i = 7 - (i + 1) + 1 by omega, ofK, if_pos (by omega), if_pos (by omega)])) (rfl) dX4_isOfKind_23
  exact L4 _ 0 k _ (Nat.lt_succ_self _) (by omega) (by omega) (by rfl) (rfl)
set_option maxHeartbeats 4000000 in
set_option maxRecDepth 100000 in
theorem d_as (g : Gt) (q w : Int) (h_q : rng q) (h_w : rng w) (σ : Sg) (hW : RW σ 0)  : Mt g yX4_as cX4_as 4 (some FieldType.int) 2 [.ref (gA g 40), .int (iI (q)), .int (iI (w))] σ (pT (if (0 ≤ q ∧ q < 10) ∧ 0 ≤ w ∧ w < 7 then (if 0 ≤ σ 7 q.toNat ∧ σ 7 q.toNat < σ 0 7 then (if ofK 7 (σ 3 (σ 7 q.toNat).toNat) w = true then σ 7 q.toNat else (-1000001 - ((2 : Nat) : Int))) else (-1000001 - ((5 : Nat) : Int))) else (-1000001 - ((0 : Nat) : Int))) (if (0 ≤ q ∧ q < 10) ∧ 0 ≤ w ∧ w < 7 then (if 0 ≤ σ 7 q.toNat ∧ σ 7 q.toNat < σ 0 7 then (if ofK 7 (σ 3 (σ 7 q.toNat).toNat) w = true then σ else fin 2 σ) else fin 5 σ) else fin 0 σ)) := by
  obtain ⟨hn, hfl, hw, hdy, hz, hD_, hK_, hA_, hG_, hM_, hP_⟩ := id hW
  have hD : rgD (σ 1) := hD_
  have hK : rgK (σ 3) := hK_
  have hA : rgA (σ 4) := hA_
  have hG : rgG (σ 5) := hG_
  have hM : rgM (σ 6) := hM_
  have hP : ∀ j, j < 10 → -1 ≤ σ 7 j ∧ σ 7 j < σ 0 7 := hP_
  have ho_q := h_q.1; have hp_q := h_q.2
  have ho_w := h_w.1; have hp_w := h_w.2
  refine mt_of (own := RX4) (by decide) rfl (Nat.le_of_ble_eq_true rfl) (fun E C => ?_)
  show J g E (pT (if (0 ≤ q ∧ q < 10) ∧ 0 ≤ w ∧ w < 7 then (if 0 ≤ σ 7 q.toNat ∧ σ 7 q.toNat < σ 0 7 then (if ofK 7 (σ 3 (σ 7 q.toNat).toNat) w = true then σ 7 q.toNat else (-1000001 - ((2 : Nat) : Int))) else (-1000001 - ((5 : Nat) : Int))) else (-1000001 - ((0 : Nat) : Int))) (if (0 ≤ q ∧ q < 10) ∧ 0 ≤ w ∧ w < 7 then (if 0 ≤ σ 7 q.toNat ∧ σ 7 q.toNat < σ 0 7 then (if ofK 7 (σ 3 (σ 7 q.toNat).toNat) w = true then σ else fin 2 σ) else fin 5 σ) else fin 0 σ)) 4 0 [(0, .ref (gA g 40)), (1, .int (iI (q))), (2, .int (iI (w)))] [] σ
  refine r_iload_n (pc := 0) C dX4_as_0 rfl 1 rfl ?_
  refine r_cSi (pc := 1) C (c_isSpot g q h_q σ) yX4_isSpot_w rfl t_704 ⟨by decide, by decide⟩ (Nat.le_of_ble_eq_true rfl) rfl dX4_as_1 ?_
  refine r_ifz_eq (pc := 4) C 14 dX4_as_4 (by decide) (fun h4 => ?_) (fun h4 => ?_)
  · skip
    refine r_aload_n (pc := 14) C dX4_as_14 rfl 0 rfl ?_
    refine r_iconst (pc := 15) C dX4_as_15 ?_
    refine r_cVi (pc := 16) C (c_finding g 0 (by decide) σ) yX4_finding_w O_40 rfl rfl t_251 ⟨by decide, by decide⟩ (Nat.le_of_ble_eq_true rfl) rfl dX4_as_16 ?_
    exact r_retT (pc := 19) C (by (try (first | rw [if_pos (by omega)] | rw [if_neg (by omega)] | rw [if_pos (by assumption)] | rw [if_neg (by assumption)])); (try (first | rw [if_pos (by omega)] | rw [if_neg (by omega)] | rw [if_pos (by assumption)] | rw [if_neg (by assumption)])); (try (first | rw [if_pos (by omega)] | rw [if_neg (by omega)] | rw [if_pos (by assumption)] | rw [if_neg (by assumption)])); (try (first | rw [if_pos (by omega)] | rw [if_neg (by omega)] | rw [if_pos (by assumption)] | rw [if_neg (by assumption)])); (try rfl)) (fun k _ => congrFun (by (try (first | rw [if_pos (by omega)] | rw [if_neg (by omega)] | rw [if_pos (by assumption)] | rw [if_neg (by assumption)])); (try (first | rw [if_pos (by omega)] | rw [if_neg (by omega)] | rw [if_pos (by assumption)] | rw [if_neg (by assumption)])); (try (first | rw [if_pos (by omega)] | rw [if_neg (by omega)] | rw [if_pos (by assumption)] | rw [if_neg (by assumption)])); (try (first | rw [if_pos (by omega)] | rw [if_neg (by omega)] | rw [if_pos (by assumption)] | rw [if_neg (by assumption)])); (try rfl)) k) dX4_as_19
  · skip
    refine r_iload_n (pc := 7) C dX4_as_7 rfl 2 rfl ?_
    refine r_cSi (pc := 8) C (c_isKind g w h_w σ) yX4_isKind_w rfl t_281 ⟨by decide, by decide⟩ (Nat.le_of_ble_eq_true rfl) rfl dX4_as_8 ?_
    refine r_ifz_ne (pc := 11) C 20 dX4_as_11 (by decide) (fun h11 => ?_) (fun h11 => ?_)
    · skip
      refine r_aload_n (pc := 20) C dX4_as_20 rfl 0 rfl ?_
      refine r_getR4 (pc := 21) C 0 (k' := 0) rfl O_40 (by decide) rfl t_216 dX4_as_21 ?_
      refine r_getR0 (pc := 24) C 6 (k' := 7) rfl O_0 (by decide) rfl t_118 dX4_as_24 ?_
      refine r_iload_n (pc := 27) C dX4_as_27 rfl 1 rfl ?_
      have hp := hP q.toNat (by omega)
      refine r_iald (pc := 28) C q.toNat A_7 (by omega) (by omega) dX4_as_28 ?_
      refine r_istore_n (pc := 29) C dX4_as_29 rfl (by decide) [1, 2, 3, 0] (lv' := [(0, .ref (gA g 40)), (1, .int (iI (q))), (2, .int (iI (w))), (3, .int (iI (σ 7 q.toNat)))]) rfl ?_
      refine r_aload_n (pc := 30) C dX4_as_30 rfl 0 rfl ?_
      refine r_iload_n (pc := 31) C dX4_as_31 rfl 3 rfl ?_
      refine r_cVi (pc := 32) C (c_isTenant g (σ 7 q.toNat) ⟨by omega, by omega⟩ σ (by omega)) yX4_isTenant_w O_40 rfl rfl t_292 ⟨by decide, by decide⟩ (Nat.le_of_ble_eq_true rfl) rfl dX4_as_32 ?_
      refine r_ifz_ne (pc := 35) C 44 dX4_as_35 (by decide) (fun h35 => ?_) (fun h35 => ?_)
      · skip
        refine r_aload_n (pc := 44) C dX4_as_44 rfl 0 rfl ?_
        refine r_getR4 (pc := 45) C 0 (k' := 0) rfl O_40 (by decide) rfl t_216 dX4_as_45 ?_
        refine r_getR0 (pc := 48) C 2 (k' := 3) rfl O_0 (by decide) rfl t_108 dX4_as_48 ?_
        refine r_iload_n (pc := 51) C dX4_as_51 rfl 3 rfl ?_
        have hk := hK (σ 7 q.toNat).toNat (by omega)
        refine r_iald (pc := 52) C ((σ 7 q.toNat).toNat) A_3 (by omega) (by omega) dX4_as_52 ?_
        refine r_iload_n (pc := 53) C dX4_as_53 rfl 2 rfl ?_
        refine r_cSi (pc := 54) C (c_isOfKind g (σ 3 ((σ 7 q.toNat).toNat)) w ⟨by omega, by omega⟩ h_w σ) yX4_isOfKind_w rfl t_711 ⟨by decide, by decide⟩ (Nat.le_of_ble_eq_true rfl) rfl dX4_as_54 ?_
        refine r_ifz_eq (pc := 57) C 64 dX4_as_57 (by decide) (fun h57 => ?_) (fun h57 => ?_)
        · skip
          refine r_aload_n (pc := 64) C dX4_as_64 rfl 0 rfl ?_
          refine r_iconst (pc := 65) C dX4_as_65 ?_
          refine r_cVi (pc := 66) C (c_finding g 2 (by decide) σ) yX4_finding_w O_40 rfl rfl t_251 ⟨by decide, by decide⟩ (Nat.le_of_ble_eq_true rfl) rfl dX4_as_66 ?_
          exact r_retT (pc := 69) C (by (try (first | rw [if_pos (by omega)] | rw [if_neg (by omega)] | rw [if_pos (by assumption)] | rw [if_neg (by assumption)])); (try (first | rw [if_pos (by omega)] | rw [if_neg (by omega)] | rw [if_pos (by assumption)] | rw [if_neg (by assumption)])); (try (first | rw [if_pos (by omega)] | rw [if_neg (by omega)] | rw [if_pos (by assumption)] | rw [if_neg (by assumption)])); (try (first | rw [if_pos (by omega)] | rw [if_neg (by omega)] | rw [if_pos (by assumption)] | rw [if_neg (by assumption)])); (try rfl)) (fun k _ => congrFun (by (try (first | rw [if_pos (by omega)] | rw [if_neg (by omega)] | rw [if_pos (by assumption)] | rw [if_neg (by assumption)])); (try (first | rw [if_pos (by omega)] | rw [if_neg (by omega)] | rw [if_pos (by assumption)] | rw [if_neg (by assumption)])); (try (first | rw [if_pos (by omega)] | rw [if_neg (by omega)] | rw [if_pos (by assumption)] | rw [if_neg (by assumption)])); (try (first | rw [if_pos (by omega)] | rw [if_neg (by omega)] | rw [if_pos (by assumption)] | rw [if_neg (by assumption)])); (try rfl)) k) dX4_as_69
        · skip
          refine r_iload_n (pc := 60) C dX4_as_60 rfl 3 rfl ?_
          refine r_goto (pc := 61) C 69 dX4_as_61 (by decide) ?_
          exact r_retT (pc := 69) C (by (try (first | rw [if_pos (by omega)] | rw [if_neg (by omega)] | rw [if_pos (by assumption)] | rw [if_neg (by assumption)])); (try (first | rw [if_pos (by omega)] | rw [if_neg (by omega)] | rw [if_pos (by assumption)] | rw [if_neg (by assumption)])); (try (first | rw [if_pos (by omega)] | rw [if_neg (by omega)] | rw [if_pos (by assumption)] | rw [if_neg (by assumption)])); (try (first | rw [if_pos (by omega)] | rw [if_neg (by omega)] | rw [if_pos (by assumption)] | rw [if_neg (by assumption)])); (try rfl)) (fun k _ => congrFun (by (try (first | rw [if_pos (by omega)] | rw [if_neg (by omega)] | rw [if_pos (by assumption)] | rw [if_neg (by assumption)])); (try (first | rw [if_pos (by omega)] | rw [if_neg (by omega)] | rw [if_pos (by assumption)] | rw [if_neg (by assumption)])); (try (first | rw [if_pos (by omega)] | rw [if_neg (by omega)] | rw [if_pos (by assumption)] | rw [if_neg (by assumption)])); (try (first | rw [if_pos (by omega)] | rw [if_neg (by omega)] | rw [if_pos (by assumption)] | rw [if_neg (by assumption)])); (try rfl)) k) dX4_as_69
      · skip
        refine r_aload_n (pc := 38) C dX4_as_38 rfl 0 rfl ?_
        refine r_iconst (pc := 39) C dX4_as_39 ?_
        refine r_cVi (pc := 40) C (c_finding g 5 (by decide) σ) yX4_finding_w O_40 rfl rfl t_251 ⟨by decide, by decide⟩ (Nat.le_of_ble_eq_true rfl) rfl dX4_as_40 ?_
        exact r_retT (pc := 43) C (by (try (first | rw [if_pos (by omega)] | rw [if_neg (by omega)] | rw [if_pos (by assumption)] | rw [if_neg (by assumption)])); (try (first | rw [if_pos (by omega)] | rw [if_neg (by omega)] | rw [if_pos (by assumption)] | rw [if_neg (by assumption)])); (try (first | rw [if_pos (by omega)] | rw [if_neg (by omega)] | rw [if_pos (by assumption)] | rw [if_neg (by assumption)])); (try (first | rw [if_pos (by omega)] | rw [if_neg (by omega)] | rw [if_pos (by assumption)] | rw [if_neg (by assumption)])); (try rfl)) (fun k _ => congrFun (by (try (first | rw [if_pos (by omega)] | rw [if_neg (by omega)] | rw [if_pos (by assumption)] | rw [if_neg (by assumption)])); (try (first | rw [if_pos (by omega)] | rw [if_neg (by omega)] | rw [if_pos (by assumption)] | rw [if_neg (by assumption)])); (try (first | rw [if_pos (by omega)] | rw [if_neg (by omega)] | rw [if_pos (by assumption)] | rw [if_neg (by assumption)])); (try (first | rw [if_pos (by omega)] | rw [if_neg (by omega)] | rw [if_pos (by assumption)] | rw [if_neg (by assumption)])); (try rfl)) k) dX4_as_43
    · skip
      refine r_aload_n (pc := 14) C dX4_as_14 rfl 0 rfl ?_
      refine r_iconst (pc := 15) C dX4_as_15 ?_
      refine r_cVi (pc := 16) C (c_finding g 0 (by decide) σ) yX4_finding_w O_40 rfl rfl t_251 ⟨by decide, by decide⟩ (Nat.le_of_ble_eq_true rfl) rfl dX4_as_16 ?_
      exact r_retT (pc := 19) C (by (try (first | rw [if_pos (by omega)] | rw [if_neg (by omega)] | rw [if_pos (by assumption)] | rw [if_neg (by assumption)])); (try (first | rw [if_pos (by omega)] | rw [if_neg (by omega)] | rw [if_pos (by assumption)] | rw [if_neg (by assumption)])); (try (first | rw [if_pos (by omega)] | rw [if_neg (by omega)] | rw [if_pos (by assumption)] | rw [if_neg (by assumption)])); (try (first | rw [if_pos (by omega)] | rw [if_neg (by omega)] | rw [if_pos (by assumption)] | rw [if_neg (by assumption)])); (try rfl)) (fun k _ => congrFun (by (try (first | rw [if_pos (by omega)] | rw [if_neg (by omega)] | rw [if_pos (by assumption)] | rw [if_neg (by assumption)])); (try (first | rw [if_pos (by omega)] | rw [if_neg (by omega)] | rw [if_pos (by assumption)] | rw [if_neg (by assumption)])); (try (first | rw [if_pos (by omega)] | rw [if_neg (by omega)] | rw [if_pos (by assumption)] | rw [if_neg (by assumption)])); (try (first | rw [if_pos (by omega)] | rw [if_neg (by omega)] | rw [if_pos (by assumption)] | rw [if_neg (by assumption)])); (try rfl)) k) dX4_as_19
set_option maxHeartbeats 4000000 in
set_option maxRecDepth 100000 in
theorem d_image (g : Gt) (σ : Sg)  : Mt g yX4_image cX4_image 1 (some FieldType.int) 2 [.ref (gA g 40)] σ (pT (1) (wr (bc_16_0 σ) 40 3 1)) := by
  refine mt_of (own := RX4) (by decide) rfl (Nat.le_of_ble_eq_true rfl) (fun E C => ?_)
  show J g E (pT (1) (wr (bc_16_0 σ) 40 3 1)) 1 0 [(0, .ref (gA g 40))] [] σ
  refine r_aload_n (pc := 0) C dX4_image_0 rfl 0 rfl ?_
  refine r_getR4 (pc := 1) C 2 (k' := 16) rfl O_40 (by decide) rfl t_218 dX4_image_1 ?_
  refine r_aload_n (pc := 4) C dX4_image_4 rfl 0 rfl ?_
  refine r_getR4 (pc := 5) C 0 (k' := 0) rfl O_40 (by decide) rfl t_216 dX4_image_5 ?_
  refine r_cVv (pc := 8) C (c_become_16_0 g σ) yX0_become_w O_16 rfl rfl t_421 ⟨by decide, by decide⟩ (Nat.le_of_ble_eq_true rfl) rfl dX4_image_8 ?_
  refine r_aload_n (pc := 11) C dX4_image_11 rfl 0 rfl ?_
  refine r_iconst (pc := 12) C dX4_image_12 ?_
  refine r_putZ4 (pc := 13) C 3 (Or.inr rfl) rfl O_40 (by decide) rfl t_219 rfl (by decide +kernel) dX4_image_13 ?_
  refine r_iconst (pc := 16) C dX4_image_16 ?_
  exact r_retT (pc := 17) C (rfl) (fun _ _ => rfl) dX4_image_17
set_option maxHeartbeats 4000000 in
set_option maxRecDepth 100000 in
theorem d_undo (g : Gt) (σ : Sg) (hk : σ 40 3 = 0 ∨ σ 40 3 = 1) : Mt g yX4_undo cX4_undo 1 (some FieldType.int) 2 [.ref (gA g 40)] σ (pT (if σ 40 3 = 0 then (-1000001 - ((3 : Nat) : Int)) else σ 16 10) (if σ 40 3 = 0 then fin 3 σ else bc_0_16 σ)) := by
  refine mt_of (own := RX4) (by decide) rfl (Nat.le_of_ble_eq_true rfl) (fun E C => ?_)
  show J g E (pT (if σ 40 3 = 0 then (-1000001 - ((3 : Nat) : Int)) else σ 16 10) (if σ 40 3 = 0 then fin 3 σ else bc_0_16 σ)) 1 0 [(0, .ref (gA g 40))] [] σ
  refine r_aload_n (pc := 0) C dX4_undo_0 rfl 0 rfl ?_
  refine r_getI4 (pc := 1) C 3 rfl O_40 (by decide) rfl t_219 dX4_undo_1 ?_
  refine r_if_ne (pc := 4) C 13 ⟨by omega, by omega⟩ dX4_undo_4 (by decide) (fun h4 => ?_) (fun h4 => ?_)
  · skip
    refine r_aload_n (pc := 13) C dX4_undo_13 rfl 0 rfl ?_
    refine r_getR4 (pc := 14) C 0 (k' := 0) rfl O_40 (by decide) rfl t_216 dX4_undo_14 ?_
    refine r_aload_n (pc := 17) C dX4_undo_17 rfl 0 rfl ?_
    refine r_getR4 (pc := 18) C 2 (k' := 16) rfl O_40 (by decide) rfl t_218 dX4_undo_18 ?_
    refine r_cVv (pc := 21) C (c_become_0_16 g σ) yX0_become_w O_0 rfl rfl t_421 ⟨by decide, by decide⟩ (Nat.le_of_ble_eq_true rfl) rfl dX4_undo_21 ?_
    refine r_aload_n (pc := 24) C dX4_undo_24 rfl 0 rfl ?_
    refine r_getR4 (pc := 25) C 0 (k' := 0) rfl O_40 (by decide) rfl t_216 dX4_undo_25 ?_
    refine r_getI0 (pc := 28) C 10 rfl O_0 (by decide) rfl t_129 dX4_undo_28 ?_
    refine r_top (show (bc_0_16 σ) 0 10 = σ 16 10 from rfl) ?_
    exact r_retT (pc := 31) C (by first | (exfalso; omega; done) | ((try (first | rw [if_pos (by omega)] | rw [if_neg (by omega)])); (try (first | rw [if_pos (by omega)] | rw [if_neg (by omega)])); (try (first | rw [if_pos (by omega)] | rw [if_neg (by omega)])); (try (first | rw [if_pos (by omega)] | rw [if_neg (by omega)])); (try rfl))) (fun k _ => congrFun (by first | (exfalso; omega; done) | ((try (first | rw [if_pos (by omega)] | rw [if_neg (by omega)])); (try (first | rw [if_pos (by omega)] | rw [if_neg (by omega)])); (try (first | rw [if_pos (by omega)] | rw [if_neg (by omega)])); (try (first | rw [if_pos (by omega)] | rw [if_neg (by omega)])); (try rfl))) k) dX4_undo_31
  · skip
    refine r_aload_n (pc := 7) C dX4_undo_7 rfl 0 rfl ?_
    refine r_iconst (pc := 8) C dX4_undo_8 ?_
    refine r_cVi (pc := 9) C (c_finding g 3 (by decide) σ) yX4_finding_w O_40 rfl rfl t_251 ⟨by decide, by decide⟩ (Nat.le_of_ble_eq_true rfl) rfl dX4_undo_9 ?_
    exact r_retT (pc := 12) C (by first | (exfalso; omega; done) | ((try (first | rw [if_pos (by omega)] | rw [if_neg (by omega)])); (try (first | rw [if_pos (by omega)] | rw [if_neg (by omega)])); (try (first | rw [if_pos (by omega)] | rw [if_neg (by omega)])); (try (first | rw [if_pos (by omega)] | rw [if_neg (by omega)])); (try rfl))) (fun k _ => congrFun (by first | (exfalso; omega; done) | ((try (first | rw [if_pos (by omega)] | rw [if_neg (by omega)])); (try (first | rw [if_pos (by omega)] | rw [if_neg (by omega)])); (try (first | rw [if_pos (by omega)] | rw [if_neg (by omega)])); (try (first | rw [if_pos (by omega)] | rw [if_neg (by omega)])); (try rfl))) k) dX4_undo_12
set_option maxHeartbeats 4000000 in
set_option maxRecDepth 100000 in
theorem d_tear (g : Gt) (σ : Sg) (hk : σ 40 3 = 0 ∨ σ 40 3 = 1) : Mt g yX4_tear cX4_tear 2 (some FieldType.int) 0 [.ref (gA g 40)] σ (pT (if σ 40 3 = 0 then 0 else 1) (wr σ 40 3 0)) := by
  refine mt_of (own := RX4) (by decide) rfl (Nat.le_of_ble_eq_true rfl) (fun E C => ?_)
  show J g E (pT (if σ 40 3 = 0 then 0 else 1) (wr σ 40 3 0)) 2 0 [(0, .ref (gA g 40))] [] σ
  refine r_aload_n (pc := 0) C dX4_tear_0 rfl 0 rfl ?_
  refine r_getI4 (pc := 1) C 3 rfl O_40 (by decide) rfl t_219 dX4_tear_1 ?_
  refine r_if_eq (pc := 4) C 11 ⟨by omega, by omega⟩ dX4_tear_4 (by decide) (fun h4 => ?_) (fun h4 => ?_)
  · skip
    refine r_iconst (pc := 11) C dX4_tear_11 ?_
    refine r_istore_n (pc := 12) C dX4_tear_12 rfl (by decide) [1, 0] (lv' := [(0, .ref (gA g 40)), (1, .int (iI (0)))]) rfl ?_
    refine r_aload_n (pc := 13) C dX4_tear_13 rfl 0 rfl ?_
    refine r_iconst (pc := 14) C dX4_tear_14 ?_
    refine r_putZ4 (pc := 15) C 3 (Or.inl rfl) rfl O_40 (by decide) rfl t_219 rfl (by decide +kernel) dX4_tear_15 ?_
    refine r_iload_n (pc := 18) C dX4_tear_18 rfl 1 rfl ?_
    exact r_retT (pc := 19) C (by first | (exfalso; omega; done) | ((try (first | rw [if_pos (by omega)] | rw [if_neg (by omega)])); (try (first | rw [if_pos (by omega)] | rw [if_neg (by omega)])); (try (first | rw [if_pos (by omega)] | rw [if_neg (by omega)])); (try (first | rw [if_pos (by omega)] | rw [if_neg (by omega)])); (try rfl))) (fun _ _ => rfl) dX4_tear_19
  · skip
    refine r_iconst (pc := 7) C dX4_tear_7 ?_
    refine r_goto (pc := 8) C 12 dX4_tear_8 (by decide) ?_
    refine r_istore_n (pc := 12) C dX4_tear_12 rfl (by decide) [1, 0] (lv' := [(0, .ref (gA g 40)), (1, .int (iI (1)))]) rfl ?_
    refine r_aload_n (pc := 13) C dX4_tear_13 rfl 0 rfl ?_
    refine r_iconst (pc := 14) C dX4_tear_14 ?_
    refine r_putZ4 (pc := 15) C 3 (Or.inl rfl) rfl O_40 (by decide) rfl t_219 rfl (by decide +kernel) dX4_tear_15 ?_
    refine r_iload_n (pc := 18) C dX4_tear_18 rfl 1 rfl ?_
    exact r_retT (pc := 19) C (by first | (exfalso; omega; done) | ((try (first | rw [if_pos (by omega)] | rw [if_neg (by omega)])); (try (first | rw [if_pos (by omega)] | rw [if_neg (by omega)])); (try (first | rw [if_pos (by omega)] | rw [if_neg (by omega)])); (try (first | rw [if_pos (by omega)] | rw [if_neg (by omega)])); (try rfl))) (fun _ _ => rfl) dX4_tear_19
set_option maxHeartbeats 4000000 in
set_option maxRecDepth 100000 in
theorem d_count (g : Gt) (w : Int) (h_w : rng w) (σ : Sg) (hW : RW σ 0)  : Mt g yX4_count cX4_count 2 (some FieldType.int) 3 [.ref (gA g 40), .int (iI (w))] σ (pT (if 0 ≤ w ∧ w ≤ 7 then (if w = 0 then σ 0 10 else if w = 1 then σ 0 7 else if w = 2 then bitc (band 4095 (bxor (setF (fun f => decide (holder (σ 0 7) (σ 6) f = -1)) 12) (-1))) else if w = 3 then sumF (σ 1) 12 else if w = 4 then sumF (σ 5) (σ 0 7).toNat else if w = 5 then σ 24 1 else if w = 6 then σ 0 11 else cntF (σ 7) 10) else (-1000001 - ((0 : Nat) : Int))) (if 0 ≤ w ∧ w ≤ 7 then σ else fin 0 σ)) := by
  obtain ⟨hn, hfl, hw, hdy, hz, hD_, hK_, hA_, hG_, hM_, hP_⟩ := id hW
  have hD : rgD (σ 1) := hD_
  have hK : rgK (σ 3) := hK_
  have hA : rgA (σ 4) := hA_
  have hG : rgG (σ 5) := hG_
  have hM : rgM (σ 6) := hM_
  have hP : ∀ j, j < 10 → -1 ≤ σ 7 j ∧ σ 7 j < σ 0 7 := hP_
  have ho_w := h_w.1; have hp_w := h_w.2
  refine mt_of (own := RX4) (by decide) rfl (Nat.le_of_ble_eq_true rfl) (fun E C => ?_)
  show J g E (pT (if 0 ≤ w ∧ w ≤ 7 then (if w = 0 then σ 0 10 else if w = 1 then σ 0 7 else if w = 2 then bitc (band 4095 (bxor (setF (fun f => decide (holder (σ 0 7) (σ 6) f = -1)) 12) (-1))) else if w = 3 then sumF (σ 1) 12 else if w = 4 then sumF (σ 5) (σ 0 7).toNat else if w = 5 then σ 24 1 else if w = 6 then σ 0 11 else cntF (σ 7) 10) else (-1000001 - ((0 : Nat) : Int))) (if 0 ≤ w ∧ w ≤ 7 then σ else fin 0 σ)) 2 0 [(0, .ref (gA g 40)), (1, .int (iI (w)))] [] σ
  refine r_iload_n (pc := 0) C dX4_count_0 rfl 1 rfl ?_
  by_cases hs1_0 : w = 0
  · refine r_tabIn C 0 48 dX4_count_1 hs1_0 ⟨by decide, by decide⟩ (by decide) (by decide) rfl (by decide) ?_
    refine r_aload_n (pc := 48) C dX4_count_48 rfl 0 rfl ?_
    refine r_getR4 (pc := 49) C 0 (k' := 0) rfl O_40 (by decide) rfl t_216 dX4_count_49 ?_
    refine r_getI0 (pc := 52) C 10 rfl O_0 (by decide) rfl t_129 dX4_count_52 ?_
    exact r_retT (pc := 55) C (by first | (exfalso; omega; done) | ((first | rw [if_pos (by omega)] | rw [if_neg (by omega)]); (try (first | rw [if_pos (by omega)] | rw [if_neg (by omega)])); (try (first | rw [if_pos (by omega)] | rw [if_neg (by omega)])); (try (first | rw [if_pos (by omega)] | rw [if_neg (by omega)])); (try (first | rw [if_pos (by omega)] | rw [if_neg (by omega)])); (try (first | rw [if_pos (by omega)] | rw [if_neg (by omega)])); (try (first | rw [if_pos (by omega)] | rw [if_neg (by omega)])); (try (first | rw [if_pos (by omega)] | rw [if_neg (by omega)])); (try (first | rw [if_pos (by omega)] | rw [if_neg (by omega)])); (try rfl))) (fun k _ => congrFun (by first | (exfalso; omega; done) | ((try (first | rw [if_pos (by omega)] | rw [if_neg (by omega)])); (try (first | rw [if_pos (by omega)] | rw [if_neg (by omega)])); (try (first | rw [if_pos (by omega)] | rw [if_neg (by omega)])); (try (first | rw [if_pos (by omega)] | rw [if_neg (by omega)])); (try rfl))) k) dX4_count_55
  by_cases hs1_1 : w = 1
  · refine r_tabIn C 1 56 dX4_count_1 hs1_1 ⟨by decide, by decide⟩ (by decide) (by decide) rfl (by decide) ?_
    refine r_aload_n (pc := 56) C dX4_count_56 rfl 0 rfl ?_
    refine r_getR4 (pc := 57) C 0 (k' := 0) rfl O_40 (by decide) rfl t_216 dX4_count_57 ?_
    refine r_getI0 (pc := 60) C 7 rfl O_0 (by decide) rfl t_120 dX4_count_60 ?_
    exact r_retT (pc := 63) C (by first | (exfalso; omega; done) | ((first | rw [if_pos (by omega)] | rw [if_neg (by omega)]); (try (first | rw [if_pos (by omega)] | rw [if_neg (by omega)])); (try (first | rw [if_pos (by omega)] | rw [if_neg (by omega)])); (try (first | rw [if_pos (by omega)] | rw [if_neg (by omega)])); (try (first | rw [if_pos (by omega)] | rw [if_neg (by omega)])); (try (first | rw [if_pos (by omega)] | rw [if_neg (by omega)])); (try (first | rw [if_pos (by omega)] | rw [if_neg (by omega)])); (try (first | rw [if_pos (by omega)] | rw [if_neg (by omega)])); (try (first | rw [if_pos (by omega)] | rw [if_neg (by omega)])); (try rfl))) (fun k _ => congrFun (by first | (exfalso; omega; done) | ((try (first | rw [if_pos (by omega)] | rw [if_neg (by omega)])); (try (first | rw [if_pos (by omega)] | rw [if_neg (by omega)])); (try (first | rw [if_pos (by omega)] | rw [if_neg (by omega)])); (try (first | rw [if_pos (by omega)] | rw [if_neg (by omega)])); (try rfl))) k) dX4_count_63
  by_cases hs1_2 : w = 2
  · refine r_tabIn C 2 64 dX4_count_1 hs1_2 ⟨by decide, by decide⟩ (by decide) (by decide) rfl (by decide) ?_
    refine r_aload_n (pc := 64) C dX4_count_64 rfl 0 rfl ?_
    refine r_getR4 (pc := 65) C 0 (k' := 0) rfl O_40 (by decide) rfl t_216 dX4_count_65 ?_
    refine r_cVi (pc := 68) C (c_heldSurfaces_0 g σ hn hM) yX0_heldSurfaces_w O_0 rfl rfl t_404 ⟨by decide, by decide⟩ (Nat.le_of_ble_eq_true rfl) rfl dX4_count_68 ?_
    refine r_cSi (pc := 71) C (c_bitCount g (band 4095 (bxor (setF (fun f => decide (holder (σ 0 7) (σ 6) f = -1)) 12) (-1))) σ) yJ6_bitCount_0f7a4_w rfl t_497 ⟨by decide, by decide⟩ (Nat.le_of_ble_eq_true rfl) rfl dX4_count_71 ?_
    exact r_retT (pc := 74) C (by first | (exfalso; omega; done) | ((first | rw [if_pos (by omega)] | rw [if_neg (by omega)]); (try (first | rw [if_pos (by omega)] | rw [if_neg (by omega)])); (try (first | rw [if_pos (by omega)] | rw [if_neg (by omega)])); (try (first | rw [if_pos (by omega)] | rw [if_neg (by omega)])); (try (first | rw [if_pos (by omega)] | rw [if_neg (by omega)])); (try (first | rw [if_pos (by omega)] | rw [if_neg (by omega)])); (try (first | rw [if_pos (by omega)] | rw [if_neg (by omega)])); (try (first | rw [if_pos (by omega)] | rw [if_neg (by omega)])); (try (first | rw [if_pos (by omega)] | rw [if_neg (by omega)])); (try rfl))) (fun k _ => congrFun (by first | (exfalso; omega; done) | ((try (first | rw [if_pos (by omega)] | rw [if_neg (by omega)])); (try (first | rw [if_pos (by omega)] | rw [if_neg (by omega)])); (try (first | rw [if_pos (by omega)] | rw [if_neg (by omega)])); (try (first | rw [if_pos (by omega)] | rw [if_neg (by omega)])); (try rfl))) k) dX4_count_74
  by_cases hs1_3 : w = 3
  · refine r_tabIn C 3 75 dX4_count_1 hs1_3 ⟨by decide, by decide⟩ (by decide) (by decide) rfl (by decide) ?_
    refine r_aload_n (pc := 75) C dX4_count_75 rfl 0 rfl ?_
    refine r_getR4 (pc := 76) C 0 (k' := 0) rfl O_40 (by decide) rfl t_216 dX4_count_76 ?_
    refine r_cVi (pc := 79) C (c_allDust_0 g σ) yX0_allDust_w O_0 rfl rfl t_389 ⟨by decide, by decide⟩ (Nat.le_of_ble_eq_true rfl) rfl dX4_count_79 ?_
    exact r_retT (pc := 82) C (by first | (exfalso; omega; done) | ((first | rw [if_pos (by omega)] | rw [if_neg (by omega)]); (try (first | rw [if_pos (by omega)] | rw [if_neg (by omega)])); (try (first | rw [if_pos (by omega)] | rw [if_neg (by omega)])); (try (first | rw [if_pos (by omega)] | rw [if_neg (by omega)])); (try (first | rw [if_pos (by omega)] | rw [if_neg (by omega)])); (try (first | rw [if_pos (by omega)] | rw [if_neg (by omega)])); (try (first | rw [if_pos (by omega)] | rw [if_neg (by omega)])); (try (first | rw [if_pos (by omega)] | rw [if_neg (by omega)])); (try (first | rw [if_pos (by omega)] | rw [if_neg (by omega)])); (try rfl))) (fun k _ => congrFun (by first | (exfalso; omega; done) | ((try (first | rw [if_pos (by omega)] | rw [if_neg (by omega)])); (try (first | rw [if_pos (by omega)] | rw [if_neg (by omega)])); (try (first | rw [if_pos (by omega)] | rw [if_neg (by omega)])); (try (first | rw [if_pos (by omega)] | rw [if_neg (by omega)])); (try rfl))) k) dX4_count_82
  by_cases hs1_4 : w = 4
  · refine r_tabIn C 4 83 dX4_count_1 hs1_4 ⟨by decide, by decide⟩ (by decide) (by decide) rfl (by decide) ?_
    refine r_aload_n (pc := 83) C dX4_count_83 rfl 0 rfl ?_
    refine r_getR4 (pc := 84) C 0 (k' := 0) rfl O_40 (by decide) rfl t_216 dX4_count_84 ?_
    refine r_cVi (pc := 87) C (c_allGoods_0 g  σ hn) yX0_allGoods_w O_0 rfl rfl t_400 ⟨by decide, by decide⟩ (Nat.le_of_ble_eq_true rfl) rfl dX4_count_87 ?_
    exact r_retT (pc := 90) C (by first | (exfalso; omega; done) | ((first | rw [if_pos (by omega)] | rw [if_neg (by omega)]); (try (first | rw [if_pos (by omega)] | rw [if_neg (by omega)])); (try (first | rw [if_pos (by omega)] | rw [if_neg (by omega)])); (try (first | rw [if_pos (by omega)] | rw [if_neg (by omega)])); (try (first | rw [if_pos (by omega)] | rw [if_neg (by omega)])); (try (first | rw [if_pos (by omega)] | rw [if_neg (by omega)])); (try (first | rw [if_pos (by omega)] | rw [if_neg (by omega)])); (try (first | rw [if_pos (by omega)] | rw [if_neg (by omega)])); (try (first | rw [if_pos (by omega)] | rw [if_neg (by omega)])); (try rfl))) (fun k _ => congrFun (by first | (exfalso; omega; done) | ((try (first | rw [if_pos (by omega)] | rw [if_neg (by omega)])); (try (first | rw [if_pos (by omega)] | rw [if_neg (by omega)])); (try (first | rw [if_pos (by omega)] | rw [if_neg (by omega)])); (try (first | rw [if_pos (by omega)] | rw [if_neg (by omega)])); (try rfl))) k) dX4_count_90
  by_cases hs1_5 : w = 5
  · refine r_tabIn C 5 91 dX4_count_1 hs1_5 ⟨by decide, by decide⟩ (by decide) (by decide) rfl (by decide) ?_
    refine r_aload_n (pc := 91) C dX4_count_91 rfl 0 rfl ?_
    refine r_getR4 (pc := 92) C 4 (k' := 24) rfl O_40 (by decide) rfl t_220 dX4_count_92 ?_
    refine r_getI2 (pc := 95) C 1 rfl O_24 (by decide) rfl t_168 dX4_count_95 ?_
    exact r_retT (pc := 98) C (by first | (exfalso; omega; done) | ((first | rw [if_pos (by omega)] | rw [if_neg (by omega)]); (try (first | rw [if_pos (by omega)] | rw [if_neg (by omega)])); (try (first | rw [if_pos (by omega)] | rw [if_neg (by omega)])); (try (first | rw [if_pos (by omega)] | rw [if_neg (by omega)])); (try (first | rw [if_pos (by omega)] | rw [if_neg (by omega)])); (try (first | rw [if_pos (by omega)] | rw [if_neg (by omega)])); (try (first | rw [if_pos (by omega)] | rw [if_neg (by omega)])); (try (first | rw [if_pos (by omega)] | rw [if_neg (by omega)])); (try (first | rw [if_pos (by omega)] | rw [if_neg (by omega)])); (try rfl))) (fun k _ => congrFun (by first | (exfalso; omega; done) | ((try (first | rw [if_pos (by omega)] | rw [if_neg (by omega)])); (try (first | rw [if_pos (by omega)] | rw [if_neg (by omega)])); (try (first | rw [if_pos (by omega)] | rw [if_neg (by omega)])); (try (first | rw [if_pos (by omega)] | rw [if_neg (by omega)])); (try rfl))) k) dX4_count_98
  by_cases hs1_6 : w = 6
  · refine r_tabIn C 6 99 dX4_count_1 hs1_6 ⟨by decide, by decide⟩ (by decide) (by decide) rfl (by decide) ?_
    refine r_aload_n (pc := 99) C dX4_count_99 rfl 0 rfl ?_
    refine r_getR4 (pc := 100) C 0 (k' := 0) rfl O_40 (by decide) rfl t_216 dX4_count_100 ?_
    refine r_getI0 (pc := 103) C 11 rfl O_0 (by decide) rfl t_131 dX4_count_103 ?_
    exact r_retT (pc := 106) C (by first | (exfalso; omega; done) | ((first | rw [if_pos (by omega)] | rw [if_neg (by omega)]); (try (first | rw [if_pos (by omega)] | rw [if_neg (by omega)])); (try (first | rw [if_pos (by omega)] | rw [if_neg (by omega)])); (try (first | rw [if_pos (by omega)] | rw [if_neg (by omega)])); (try (first | rw [if_pos (by omega)] | rw [if_neg (by omega)])); (try (first | rw [if_pos (by omega)] | rw [if_neg (by omega)])); (try (first | rw [if_pos (by omega)] | rw [if_neg (by omega)])); (try (first | rw [if_pos (by omega)] | rw [if_neg (by omega)])); (try (first | rw [if_pos (by omega)] | rw [if_neg (by omega)])); (try rfl))) (fun k _ => congrFun (by first | (exfalso; omega; done) | ((try (first | rw [if_pos (by omega)] | rw [if_neg (by omega)])); (try (first | rw [if_pos (by omega)] | rw [if_neg (by omega)])); (try (first | rw [if_pos (by omega)] | rw [if_neg (by omega)])); (try (first | rw [if_pos (by omega)] | rw [if_neg (by omega)])); (try rfl))) k) dX4_count_106
  by_cases hs1_7 : w = 7
  · refine r_tabIn C 7 107 dX4_count_1 hs1_7 ⟨by decide, by decide⟩ (by decide) (by decide) rfl (by decide) ?_
    refine r_aload_n (pc := 107) C dX4_count_107 rfl 0 rfl ?_
    refine r_getR4 (pc := 108) C 0 (k' := 0) rfl O_40 (by decide) rfl t_216 dX4_count_108 ?_
    refine r_cVi (pc := 111) C (c_usedSpots_0 g  σ hn hP) yX0_usedSpots_w O_0 rfl rfl t_765 ⟨by decide, by decide⟩ (Nat.le_of_ble_eq_true rfl) rfl dX4_count_111 ?_
    exact r_retT (pc := 114) C (by first | (exfalso; omega; done) | ((first | rw [if_pos (by omega)] | rw [if_neg (by omega)]); (try (first | rw [if_pos (by omega)] | rw [if_neg (by omega)])); (try (first | rw [if_pos (by omega)] | rw [if_neg (by omega)])); (try (first | rw [if_pos (by omega)] | rw [if_neg (by omega)])); (try (first | rw [if_pos (by omega)] | rw [if_neg (by omega)])); (try (first | rw [if_pos (by omega)] | rw [if_neg (by omega)])); (try (first | rw [if_pos (by omega)] | rw [if_neg (by omega)])); (try (first | rw [if_pos (by omega)] | rw [if_neg (by omega)])); (try (first | rw [if_pos (by omega)] | rw [if_neg (by omega)])); (try rfl))) (fun k _ => congrFun (by first | (exfalso; omega; done) | ((try (first | rw [if_pos (by omega)] | rw [if_neg (by omega)])); (try (first | rw [if_pos (by omega)] | rw [if_neg (by omega)])); (try (first | rw [if_pos (by omega)] | rw [if_neg (by omega)])); (try (first | rw [if_pos (by omega)] | rw [if_neg (by omega)])); (try rfl))) k) dX4_count_114
  refine r_tabOut (pc := 1) C 115 dX4_count_1 h_w (by omega) (by decide) ?_
  refine r_aload_n (pc := 115) C dX4_count_115 rfl 0 rfl ?_
  refine r_iconst (pc := 116) C dX4_count_116 ?_
  refine r_cVi (pc := 117) C (c_finding g 0 (by decide) σ) yX4_finding_w O_40 rfl rfl t_251 ⟨by decide, by decide⟩ (Nat.le_of_ble_eq_true rfl) rfl dX4_count_117 ?_
  exact r_retT (pc := 120) C (by first | (exfalso; omega; done) | ((first | rw [if_pos (by omega)] | rw [if_neg (by omega)]); (try (first | rw [if_pos (by omega)] | rw [if_neg (by omega)])); (try (first | rw [if_pos (by omega)] | rw [if_neg (by omega)])); (try (first | rw [if_pos (by omega)] | rw [if_neg (by omega)])); (try (first | rw [if_pos (by omega)] | rw [if_neg (by omega)])); (try (first | rw [if_pos (by omega)] | rw [if_neg (by omega)])); (try (first | rw [if_pos (by omega)] | rw [if_neg (by omega)])); (try (first | rw [if_pos (by omega)] | rw [if_neg (by omega)])); (try (first | rw [if_pos (by omega)] | rw [if_neg (by omega)])); (try rfl))) (fun k _ => congrFun (by first | (exfalso; omega; done) | ((try (first | rw [if_pos (by omega)] | rw [if_neg (by omega)])); (try (first | rw [if_pos (by omega)] | rw [if_neg (by omega)])); (try (first | rw [if_pos (by omega)] | rw [if_neg (by omega)])); (try (first | rw [if_pos (by omega)] | rw [if_neg (by omega)])); (try rfl))) k) dX4_count_120
set_option maxHeartbeats 4000000 in
set_option maxRecDepth 100000 in
theorem d_status (g : Gt) (w : Int) (h_w : rng w) (σ : Sg)  : Mt g yX4_status cX4_status 2 (some FieldType.int) 1 [.ref (gA g 40), .int (iI (w))] σ (pT (if -1 ≤ w ∧ w ≤ 6 then (if w = -1 then sumF (σ 39) 7 else σ 39 w.toNat) else (-1000001 - ((0 : Nat) : Int))) (if -1 ≤ w ∧ w ≤ 6 then σ else fin 0 σ)) := by
  have ho_w := h_w.1; have hp_w := h_w.2
  refine mt_of (own := RX4) (by decide) rfl (Nat.le_of_ble_eq_true rfl) (fun E C => ?_)
  show J g E (pT (if -1 ≤ w ∧ w ≤ 6 then (if w = -1 then sumF (σ 39) 7 else σ 39 w.toNat) else (-1000001 - ((0 : Nat) : Int))) (if -1 ≤ w ∧ w ≤ 6 then σ else fin 0 σ)) 2 0 [(0, .ref (gA g 40)), (1, .int (iI (w)))] [] σ
  refine r_iload_n (pc := 0) C dX4_status_0 rfl 1 rfl ?_
  refine r_iconst (pc := 1) C dX4_status_1 ?_
  refine r_bipush (pc := 2) C dX4_status_2 (by decide) ?_
  refine r_cSi (pc := 4) C (c_isWithin g w (-1) 6 h_w ⟨by omega, by omega⟩ ⟨by omega, by omega⟩ σ) yX4_isWithin_w rfl t_248 ⟨by decide, by decide⟩ (Nat.le_of_ble_eq_true rfl) rfl dX4_status_4 ?_
  refine r_ifz_ne (pc := 7) C 16 dX4_status_7 (by decide) (fun h7 => ?_) (fun h7 => ?_)
  · skip
    refine r_iload_n (pc := 16) C dX4_status_16 rfl 1 rfl ?_
    refine r_iconst (pc := 17) C dX4_status_17 ?_
    refine r_icmp_ne (pc := 18) C 31 h_w ⟨by omega, by omega⟩ dX4_status_18 (by decide) (fun h18 => ?_) (fun h18 => ?_)
    · skip
      refine r_aload_n (pc := 31) C dX4_status_31 rfl 0 rfl ?_
      refine r_getR4 (pc := 32) C 7 (k' := 39) rfl O_40 (by decide) rfl t_223 dX4_status_32 ?_
      refine r_iload_n (pc := 35) C dX4_status_35 rfl 1 rfl ?_
      refine r_iald (pc := 36) C w.toNat A_39 (by omega) (by omega) dX4_status_36 ?_
      exact r_retT (pc := 37) C (by first | (exfalso; omega; done) | ((try (first | rw [if_pos (by omega)] | rw [if_neg (by omega)])); (try (first | rw [if_pos (by omega)] | rw [if_neg (by omega)])); (try (first | rw [if_pos (by omega)] | rw [if_neg (by omega)])); (try (first | rw [if_pos (by omega)] | rw [if_neg (by omega)])); (try rfl))) (fun k _ => congrFun (by first | (exfalso; omega; done) | ((try (first | rw [if_pos (by omega)] | rw [if_neg (by omega)])); (try (first | rw [if_pos (by omega)] | rw [if_neg (by omega)])); (try (first | rw [if_pos (by omega)] | rw [if_neg (by omega)])); (try (first | rw [if_pos (by omega)] | rw [if_neg (by omega)])); (try rfl))) k) dX4_status_37
    · skip
      refine r_aload_n (pc := 21) C dX4_status_21 rfl 0 rfl ?_
      refine r_getR4 (pc := 22) C 7 (k' := 39) rfl O_40 (by decide) rfl t_223 dX4_status_22 ?_
      refine r_cSi (pc := 25) C (c_sumOf_39 g σ) yX4_sumOf_w rfl t_773 ⟨by decide, by decide⟩ (Nat.le_of_ble_eq_true rfl) rfl dX4_status_25 ?_
      refine r_goto (pc := 28) C 37 dX4_status_28 (by decide) ?_
      exact r_retT (pc := 37) C (by first | (exfalso; omega; done) | ((try (first | rw [if_pos (by omega)] | rw [if_neg (by omega)])); (try (first | rw [if_pos (by omega)] | rw [if_neg (by omega)])); (try (first | rw [if_pos (by omega)] | rw [if_neg (by omega)])); (try (first | rw [if_pos (by omega)] | rw [if_neg (by omega)])); (try rfl))) (fun k _ => congrFun (by first | (exfalso; omega; done) | ((try (first | rw [if_pos (by omega)] | rw [if_neg (by omega)])); (try (first | rw [if_pos (by omega)] | rw [if_neg (by omega)])); (try (first | rw [if_pos (by omega)] | rw [if_neg (by omega)])); (try (first | rw [if_pos (by omega)] | rw [if_neg (by omega)])); (try rfl))) k) dX4_status_37
  · skip
    refine r_aload_n (pc := 10) C dX4_status_10 rfl 0 rfl ?_
    refine r_iconst (pc := 11) C dX4_status_11 ?_
    refine r_cVi (pc := 12) C (c_finding g 0 (by decide) σ) yX4_finding_w O_40 rfl rfl t_251 ⟨by decide, by decide⟩ (Nat.le_of_ble_eq_true rfl) rfl dX4_status_12 ?_
    exact r_retT (pc := 15) C (by first | (exfalso; omega; done) | ((try (first | rw [if_pos (by omega)] | rw [if_neg (by omega)])); (try (first | rw [if_pos (by omega)] | rw [if_neg (by omega)])); (try (first | rw [if_pos (by omega)] | rw [if_neg (by omega)])); (try (first | rw [if_pos (by omega)] | rw [if_neg (by omega)])); (try rfl))) (fun k _ => congrFun (by first | (exfalso; omega; done) | ((try (first | rw [if_pos (by omega)] | rw [if_neg (by omega)])); (try (first | rw [if_pos (by omega)] | rw [if_neg (by omega)])); (try (first | rw [if_pos (by omega)] | rw [if_neg (by omega)])); (try (first | rw [if_pos (by omega)] | rw [if_neg (by omega)])); (try rfl))) k) dX4_status_15
set_option maxHeartbeats 4000000 in
set_option maxRecDepth 100000 in
theorem d_wipe (g : Gt) (σ : Sg)  : Mt g yX4_wipe cX4_wipe 2 (some FieldType.int) 0 [.ref (gA g 40)] σ (pT (σ 24 1) (wr σ 24 1 0)) := by
  refine mt_of (own := RX4) (by decide) rfl (Nat.le_of_ble_eq_true rfl) (fun E C => ?_)
  show J g E (pT (σ 24 1) (wr σ 24 1 0)) 2 0 [(0, .ref (gA g 40))] [] σ
  refine r_aload_n (pc := 0) C dX4_wipe_0 rfl 0 rfl ?_
  refine r_getR4 (pc := 1) C 4 (k' := 24) rfl O_40 (by decide) rfl t_220 dX4_wipe_1 ?_
  refine r_getI2 (pc := 4) C 1 rfl O_24 (by decide) rfl t_168 dX4_wipe_4 ?_
  refine r_istore_n (pc := 7) C dX4_wipe_7 rfl (by decide) [1, 0] (lv' := [(0, .ref (gA g 40)), (1, .int (iI (σ 24 1)))]) rfl ?_
  refine r_aload_n (pc := 8) C dX4_wipe_8 rfl 0 rfl ?_
  refine r_getR4 (pc := 9) C 4 (k' := 24) rfl O_40 (by decide) rfl t_220 dX4_wipe_9 ?_
  refine r_iconst (pc := 12) C dX4_wipe_12 ?_
  refine r_put2 (pc := 13) C 1 rfl O_24 (by decide) rfl t_168 rfl (by decide +kernel) dX4_wipe_13 ?_
  refine r_iload_n (pc := 16) C dX4_wipe_16 rfl 1 rfl ?_
  exact r_retT (pc := 17) C (rfl) (fun _ _ => rfl) dX4_wipe_17
