set_option maxHeartbeats 4000000 in
set_option maxRecDepth 100000 in
theorem c_isWithin (g : Gt) (v a b : Int) (hv : rng v) (ha : rng a) (hb : rng b) (σ : Sg) : Mt g yX4_isWithin cX4_isWithin 3 (some FieldType.boolean) 0 [.int (iI (v)), .int (iI (a)), .int (iI (b))] σ (pI (b01 (a ≤ v ∧ v ≤ b)) σ) := by
  refine mt_of (own := RX4) (by decide) rfl (Nat.le_of_ble_eq_true rfl) (fun E C => ?_)
  show J g E (pI (b01 (a ≤ v ∧ v ≤ b)) σ) 3 0 [(0, .int (iI (v))), (1, .int (iI (a))), (2, .int (iI (b)))] [] σ
  refine r_iload_n (pc := 0) C dX4_isWithin_0 rfl 0 rfl ?_
  refine r_iload_n (pc := 1) C dX4_isWithin_1 rfl 1 rfl ?_
  refine r_icmp_lt (pc := 2) C 14 hv ha dX4_isWithin_2 (by decide) (fun h2 => ?_) (fun h2 => ?_)
  · skip
    refine r_iconst (pc := 14) C dX4_isWithin_14 ?_
    exact r_retz (pc := 15) C (Or.inl rfl) (b01_0 (by omega)) (rfl) dX4_isWithin_15
  · skip
    refine r_iload_n (pc := 5) C dX4_isWithin_5 rfl 0 rfl ?_
    refine r_iload_n (pc := 6) C dX4_isWithin_6 rfl 2 rfl ?_
    refine r_icmp_gt (pc := 7) C 14 hv hb dX4_isWithin_7 (by decide) (fun h7 => ?_) (fun h7 => ?_)
    · skip
      refine r_iconst (pc := 14) C dX4_isWithin_14 ?_
      exact r_retz (pc := 15) C (Or.inl rfl) (b01_0 (by omega)) (rfl) dX4_isWithin_15
    · skip
      refine r_iconst (pc := 10) C dX4_isWithin_10 ?_
      refine r_goto (pc := 11) C 15 dX4_isWithin_11 (by decide) ?_
      exact r_retz (pc := 15) C (Or.inr rfl) (b01_1 (by omega)) (rfl) dX4_isWithin_15
set_option maxHeartbeats 4000000 in
set_option maxRecDepth 100000 in
theorem c_isSurface (g : Gt) (x : Int) (hx : rng x) (σ : Sg) : Mt g yX4_isSurface cX4_isSurface 1 (some FieldType.boolean) 0 [.int (iI (x))] σ (pI (b01 (0 ≤ x ∧ x < 12)) σ) := by
  refine mt_of (own := RX4) (by decide) rfl (Nat.le_of_ble_eq_true rfl) (fun E C => ?_)
  show J g E (pI (b01 (0 ≤ x ∧ x < 12)) σ) 1 0 [(0, .int (iI (x)))] [] σ
  refine r_iload_n (pc := 0) C dX4_isSurface_0 rfl 0 rfl ?_
  refine r_if_lt (pc := 1) C 14 hx dX4_isSurface_1 (by decide) (fun h1 => ?_) (fun h1 => ?_)
  · skip
    refine r_iconst (pc := 14) C dX4_isSurface_14 ?_
    exact r_retz (pc := 15) C (Or.inl rfl) (b01_0 (by omega)) (rfl) dX4_isSurface_15
  · skip
    refine r_iload_n (pc := 4) C dX4_isSurface_4 rfl 0 rfl ?_
    refine r_bipush (pc := 5) C dX4_isSurface_5 (by decide) ?_
    refine r_icmp_ge (pc := 7) C 14 hx ⟨by omega, by omega⟩ dX4_isSurface_7 (by decide) (fun h7 => ?_) (fun h7 => ?_)
    · skip
      refine r_iconst (pc := 14) C dX4_isSurface_14 ?_
      exact r_retz (pc := 15) C (Or.inl rfl) (b01_0 (by omega)) (rfl) dX4_isSurface_15
    · skip
      refine r_iconst (pc := 10) C dX4_isSurface_10 ?_
      refine r_goto (pc := 11) C 15 dX4_isSurface_11 (by decide) ?_
      exact r_retz (pc := 15) C (Or.inr rfl) (b01_1 (by omega)) (rfl) dX4_isSurface_15
set_option maxHeartbeats 4000000 in
set_option maxRecDepth 100000 in
theorem c_isKind (g : Gt) (x : Int) (hx : rng x) (σ : Sg) : Mt g yX4_isKind cX4_isKind 1 (some FieldType.boolean) 0 [.int (iI (x))] σ (pI (b01 (0 ≤ x ∧ x < 7)) σ) := by
  refine mt_of (own := RX4) (by decide) rfl (Nat.le_of_ble_eq_true rfl) (fun E C => ?_)
  show J g E (pI (b01 (0 ≤ x ∧ x < 7)) σ) 1 0 [(0, .int (iI (x)))] [] σ
  refine r_iload_n (pc := 0) C dX4_isKind_0 rfl 0 rfl ?_
  refine r_if_lt (pc := 1) C 14 hx dX4_isKind_1 (by decide) (fun h1 => ?_) (fun h1 => ?_)
  · skip
    refine r_iconst (pc := 14) C dX4_isKind_14 ?_
    exact r_retz (pc := 15) C (Or.inl rfl) (b01_0 (by omega)) (rfl) dX4_isKind_15
  · skip
    refine r_iload_n (pc := 4) C dX4_isKind_4 rfl 0 rfl ?_
    refine r_bipush (pc := 5) C dX4_isKind_5 (by decide) ?_
    refine r_icmp_ge (pc := 7) C 14 hx ⟨by omega, by omega⟩ dX4_isKind_7 (by decide) (fun h7 => ?_) (fun h7 => ?_)
    · skip
      refine r_iconst (pc := 14) C dX4_isKind_14 ?_
      exact r_retz (pc := 15) C (Or.inl rfl) (b01_0 (by omega)) (rfl) dX4_isKind_15
    · skip
      refine r_iconst (pc := 10) C dX4_isKind_10 ?_
      refine r_goto (pc := 11) C 15 dX4_isKind_11 (by decide) ?_
      exact r_retz (pc := 15) C (Or.inr rfl) (b01_1 (by omega)) (rfl) dX4_isKind_15
set_option maxHeartbeats 4000000 in
set_option maxRecDepth 100000 in
theorem c_isSpot (g : Gt) (x : Int) (hx : rng x) (σ : Sg) : Mt g yX4_isSpot cX4_isSpot 1 (some FieldType.boolean) 0 [.int (iI (x))] σ (pI (b01 (0 ≤ x ∧ x < 10)) σ) := by
  refine mt_of (own := RX4) (by decide) rfl (Nat.le_of_ble_eq_true rfl) (fun E C => ?_)
  show J g E (pI (b01 (0 ≤ x ∧ x < 10)) σ) 1 0 [(0, .int (iI (x)))] [] σ
  refine r_iload_n (pc := 0) C dX4_isSpot_0 rfl 0 rfl ?_
  refine r_if_lt (pc := 1) C 14 hx dX4_isSpot_1 (by decide) (fun h1 => ?_) (fun h1 => ?_)
  · skip
    refine r_iconst (pc := 14) C dX4_isSpot_14 ?_
    exact r_retz (pc := 15) C (Or.inl rfl) (b01_0 (by omega)) (rfl) dX4_isSpot_15
  · skip
    refine r_iload_n (pc := 4) C dX4_isSpot_4 rfl 0 rfl ?_
    refine r_bipush (pc := 5) C dX4_isSpot_5 (by decide) ?_
    refine r_icmp_ge (pc := 7) C 14 hx ⟨by omega, by omega⟩ dX4_isSpot_7 (by decide) (fun h7 => ?_) (fun h7 => ?_)
    · skip
      refine r_iconst (pc := 14) C dX4_isSpot_14 ?_
      exact r_retz (pc := 15) C (Or.inl rfl) (b01_0 (by omega)) (rfl) dX4_isSpot_15
    · skip
      refine r_iconst (pc := 10) C dX4_isSpot_10 ?_
      refine r_goto (pc := 11) C 15 dX4_isSpot_11 (by decide) ?_
      exact r_retz (pc := 15) C (Or.inr rfl) (b01_1 (by omega)) (rfl) dX4_isSpot_15
set_option maxHeartbeats 4000000 in
set_option maxRecDepth 100000 in
theorem c_isSheet (g : Gt) (x : Int) (hx : rng x) (σ : Sg) : Mt g yX4_isSheet cX4_isSheet 1 (some FieldType.boolean) 0 [.int (iI (x))] σ (pI (b01 (0 ≤ x ∧ x < 4)) σ) := by
  refine mt_of (own := RX4) (by decide) rfl (Nat.le_of_ble_eq_true rfl) (fun E C => ?_)
  show J g E (pI (b01 (0 ≤ x ∧ x < 4)) σ) 1 0 [(0, .int (iI (x)))] [] σ
  refine r_iload_n (pc := 0) C dX4_isSheet_0 rfl 0 rfl ?_
  refine r_if_lt (pc := 1) C 13 hx dX4_isSheet_1 (by decide) (fun h1 => ?_) (fun h1 => ?_)
  · skip
    refine r_iconst (pc := 13) C dX4_isSheet_13 ?_
    exact r_retz (pc := 14) C (Or.inl rfl) (b01_0 (by omega)) (rfl) dX4_isSheet_14
  · skip
    refine r_iload_n (pc := 4) C dX4_isSheet_4 rfl 0 rfl ?_
    refine r_iconst (pc := 5) C dX4_isSheet_5 ?_
    refine r_icmp_ge (pc := 6) C 13 hx ⟨by omega, by omega⟩ dX4_isSheet_6 (by decide) (fun h6 => ?_) (fun h6 => ?_)
    · skip
      refine r_iconst (pc := 13) C dX4_isSheet_13 ?_
      exact r_retz (pc := 14) C (Or.inl rfl) (b01_0 (by omega)) (rfl) dX4_isSheet_14
    · skip
      refine r_iconst (pc := 9) C dX4_isSheet_9 ?_
      refine r_goto (pc := 10) C 14 dX4_isSheet_10 (by decide) ?_
      exact r_retz (pc := 14) C (Or.inr rfl) (b01_1 (by omega)) (rfl) dX4_isSheet_14
set_option maxHeartbeats 4000000 in
set_option maxRecDepth 100000 in
theorem c_isTenant (g : Gt) (x : Int) (hx : rng x) (σ : Sg) (hn : 0 ≤ σ 0 7 ∧ σ 0 7 ≤ 8) : Mt g yX4_isTenant cX4_isTenant 2 (some FieldType.boolean) 0 [.ref (gA g 40), .int (iI (x))] σ (pI (b01 (0 ≤ x ∧ x < σ 0 7)) σ) := by
  refine mt_of (own := RX4) (by decide) rfl (Nat.le_of_ble_eq_true rfl) (fun E C => ?_)
  show J g E (pI (b01 (0 ≤ x ∧ x < σ 0 7)) σ) 2 0 [(0, .ref (gA g 40)), (1, .int (iI (x)))] [] σ
  refine r_iload_n (pc := 0) C dX4_isTenant_0 rfl 1 rfl ?_
  refine r_if_lt (pc := 1) C 19 hx dX4_isTenant_1 (by decide) (fun h1 => ?_) (fun h1 => ?_)
  · skip
    refine r_iconst (pc := 19) C dX4_isTenant_19 ?_
    exact r_retz (pc := 20) C (Or.inl rfl) (b01_0 (by omega)) (rfl) dX4_isTenant_20
  · skip
    refine r_iload_n (pc := 4) C dX4_isTenant_4 rfl 1 rfl ?_
    refine r_aload_n (pc := 5) C dX4_isTenant_5 rfl 0 rfl ?_
    refine r_getR4 (pc := 6) C 0 rfl O_40 (by decide) rfl t_216 dX4_isTenant_6 ?_
    refine r_getI0 (pc := 9) C 7 rfl O_0 (by decide) rfl t_120 dX4_isTenant_9 ?_
    refine r_icmp_ge (pc := 12) C 19 hx ⟨by omega, by omega⟩ dX4_isTenant_12 (by decide) (fun h12 => ?_) (fun h12 => ?_)
    · skip
      refine r_iconst (pc := 19) C dX4_isTenant_19 ?_
      exact r_retz (pc := 20) C (Or.inl rfl) (b01_0 (by omega)) (rfl) dX4_isTenant_20
    · skip
      refine r_iconst (pc := 15) C dX4_isTenant_15 ?_
      refine r_goto (pc := 16) C 20 dX4_isTenant_16 (by decide) ?_
      exact r_retz (pc := 20) C (Or.inr rfl) (b01_1 (by omega)) (rfl) dX4_isTenant_20
set_option maxHeartbeats 4000000 in
set_option maxRecDepth 100000 in
theorem c_finding (g : Gt) (w : Nat) (hw : w < 7) (σ : Sg) : Mt g yX4_finding cX4_finding 2 (some FieldType.int) 0 [.ref (gA g 40), .int (iI ((w : Int)))] σ (pI (-1000001 - (w : Int)) (wr σ 39 w (σ 39 w + 1))) := by
  refine mt_of (own := RX4) (by decide) rfl (Nat.le_of_ble_eq_true rfl) (fun E C => ?_)
  show J g E (pI (-1000001 - (w : Int)) (wr σ 39 w (σ 39 w + 1))) 2 0 [(0, .ref (gA g 40)), (1, .int (iI ((w : Int))))] [] σ
  refine r_aload_n (pc := 0) C dX4_finding_0 rfl 0 rfl ?_
  refine r_getR4 (pc := 1) C 7 rfl O_40 (by decide) rfl t_223 dX4_finding_1 ?_
  refine r_iload_n (pc := 4) C dX4_finding_4 rfl 1 rfl ?_
  refine r_dup2 (pc := 5) C rfl rfl dX4_finding_5 ?_
  refine r_iald (pc := 6) C w A_39 (by omega) (by omega) dX4_finding_6 ?_
  refine r_iconst (pc := 7) C dX4_finding_7 ?_
  refine r_iadd (pc := 8) C dX4_finding_8 ?_
  refine r_iast (pc := 9) C w A_39 (by omega) (by omega) dX4_finding_9 ?_
  refine r_ldc (pc := 10) C (-1000001) t_255 (by decide) dX4_finding_10 ?_
  refine r_iload_n (pc := 12) C dX4_finding_12 rfl 1 rfl ?_
  refine r_isub (pc := 13) C dX4_finding_13 ?_
  exact r_reti (pc := 14) C (rfl) (rfl) dX4_finding_14
