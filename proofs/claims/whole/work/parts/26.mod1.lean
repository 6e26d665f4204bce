set_option maxHeartbeats 4000000 in
set_option maxRecDepth 100000 in
theorem c_in (g : Gt) (v a b : Int) (hv : rngL v) (ha : rngL a) (hb : rngL b) (σ : Sg) : Mt g yX5_in cX5_in 6 (some FieldType.boolean) 0 [.long (iL (v)), .long (iL (a)), .long (iL (b))] σ (pI (b01 (a ≤ v ∧ v ≤ b)) σ) := by
  have hv1 := hv.1; have hv2 := hv.2; have ha1 := ha.1; have ha2 := ha.2; have hb1 := hb.1; have hb2 := hb.2
  refine mt_of (own := RX5) (by decide) rfl (Nat.le_of_ble_eq_true rfl) (fun E C => ?_)
  show J g E (pI (b01 (a ≤ v ∧ v ≤ b)) σ) 6 0 [(0, .long (iL (v))), (2, .long (iL (a))), (4, .long (iL (b)))] [] σ
  refine r_lload_n (pc := 0) C dX5_in_0 rfl 0 rfl ?_
  refine r_lload_n (pc := 1) C dX5_in_1 rfl 1 rfl ?_
  refine r_lcb_lt (pc := 2) C 17 ⟨by omega, by omega⟩ ⟨by omega, by omega⟩ dX5_in_2 dX5_in_3 (by decide) (fun h2 => ?_) (fun h2 => ?_)
  · skip
    refine r_iconst (pc := 17) C dX5_in_17 ?_
    exact r_retz (pc := 18) C (Or.inl rfl) (b01_0 (by omega)) (rfl) dX5_in_18
  · skip
    refine r_lload_n (pc := 6) C dX5_in_6 rfl 0 rfl ?_
    refine r_lload (pc := 7) C dX5_in_7 2 rfl ?_
    refine r_lcb_gt (pc := 9) C 17 ⟨by omega, by omega⟩ ⟨by omega, by omega⟩ dX5_in_9 dX5_in_10 (by decide) (fun h9 => ?_) (fun h9 => ?_)
    · skip
      refine r_iconst (pc := 17) C dX5_in_17 ?_
      exact r_retz (pc := 18) C (Or.inl rfl) (b01_0 (by omega)) (rfl) dX5_in_18
    · skip
      refine r_iconst (pc := 13) C dX5_in_13 ?_
      refine r_goto (pc := 14) C 18 dX5_in_14 (by decide) ?_
      exact r_retz (pc := 18) C (Or.inr rfl) (b01_1 (by omega)) (rfl) dX5_in_18
set_option maxHeartbeats 4000000 in
set_option maxRecDepth 100000 in
theorem c_m_isSurface (g : Gt) (x : Int) (hx : rng x) (σ : Sg) : Mt g yX5_isSurface cX5_isSurface 1 (some FieldType.boolean) 1 [.int (iI (x))] σ (pI (b01 (0 ≤ x ∧ x ≤ 11)) σ) := by
  refine mt_of (own := RX5) (by decide) rfl (Nat.le_of_ble_eq_true rfl) (fun E C => ?_)
  show J g E (pI (b01 (0 ≤ x ∧ x ≤ 11)) σ) 1 0 [(0, .int (iI (x)))] [] σ
  refine r_iload_n (pc := 0) C dX5_isSurface_0 rfl 0 rfl ?_
  refine r_i2l (pc := 1) C hx dX5_isSurface_1 ?_
  refine r_lconst (pc := 2) C (n := 0) dX5_isSurface_2 (by decide) ?_
  refine r_ldc2 (pc := 3) C 11 t_845 (by decide) dX5_isSurface_3 ?_
  refine r_cSi (pc := 6) C (c_in g x 0 11 ⟨by have := hx.1; omega, by have := hx.2; omega⟩ ⟨by omega, by omega⟩ ⟨by omega, by omega⟩ σ) yX5_in_w rfl t_846 ⟨by decide, by decide⟩ (Nat.le_of_ble_eq_true rfl) rfl dX5_isSurface_6 ?_
  exact r_retz (pc := 9) C (b01_or _) (rfl) (rfl) dX5_isSurface_9
set_option maxHeartbeats 4000000 in
set_option maxRecDepth 100000 in
theorem c_m_isKind (g : Gt) (x : Int) (hx : rng x) (σ : Sg) : Mt g yX5_isKind cX5_isKind 1 (some FieldType.boolean) 1 [.int (iI (x))] σ (pI (b01 (0 ≤ x ∧ x ≤ 6)) σ) := by
  refine mt_of (own := RX5) (by decide) rfl (Nat.le_of_ble_eq_true rfl) (fun E C => ?_)
  show J g E (pI (b01 (0 ≤ x ∧ x ≤ 6)) σ) 1 0 [(0, .int (iI (x)))] [] σ
  refine r_iload_n (pc := 0) C dX5_isKind_0 rfl 0 rfl ?_
  refine r_i2l (pc := 1) C hx dX5_isKind_1 ?_
  refine r_lconst (pc := 2) C (n := 0) dX5_isKind_2 (by decide) ?_
  refine r_ldc2 (pc := 3) C 6 t_895 (by decide) dX5_isKind_3 ?_
  refine r_cSi (pc := 6) C (c_in g x 0 6 ⟨by have := hx.1; omega, by have := hx.2; omega⟩ ⟨by omega, by omega⟩ ⟨by omega, by omega⟩ σ) yX5_in_w rfl t_846 ⟨by decide, by decide⟩ (Nat.le_of_ble_eq_true rfl) rfl dX5_isKind_6 ?_
  exact r_retz (pc := 9) C (b01_or _) (rfl) (rfl) dX5_isKind_9
set_option maxHeartbeats 4000000 in
set_option maxRecDepth 100000 in
theorem c_m_isAhead (g : Gt) (x : Int) (hx : rng x) (σ : Sg) : Mt g yX5_isAhead cX5_isAhead 1 (some FieldType.boolean) 1 [.int (iI (x))] σ (pI (b01 (0 ≤ x ∧ x ≤ 60)) σ) := by
  refine mt_of (own := RX5) (by decide) rfl (Nat.le_of_ble_eq_true rfl) (fun E C => ?_)
  show J g E (pI (b01 (0 ≤ x ∧ x ≤ 60)) σ) 1 0 [(0, .int (iI (x)))] [] σ
  refine r_iload_n (pc := 0) C dX5_isAhead_0 rfl 0 rfl ?_
  refine r_i2l (pc := 1) C hx dX5_isAhead_1 ?_
  refine r_lconst (pc := 2) C (n := 0) dX5_isAhead_2 (by decide) ?_
  refine r_ldc2 (pc := 3) C 60 t_1023 (by decide) dX5_isAhead_3 ?_
  refine r_cSi (pc := 6) C (c_in g x 0 60 ⟨by have := hx.1; omega, by have := hx.2; omega⟩ ⟨by omega, by omega⟩ ⟨by omega, by omega⟩ σ) yX5_in_w rfl t_846 ⟨by decide, by decide⟩ (Nat.le_of_ble_eq_true rfl) rfl dX5_isAhead_6 ?_
  exact r_retz (pc := 9) C (b01_or _) (rfl) (rfl) dX5_isAhead_9
set_option maxHeartbeats 4000000 in
set_option maxRecDepth 100000 in
theorem c_m_isSoon (g : Gt) (x : Int) (hx : rng x) (σ : Sg) : Mt g yX5_isSoon cX5_isSoon 1 (some FieldType.boolean) 1 [.int (iI (x))] σ (pI (b01 (0 ≤ x ∧ x ≤ 40)) σ) := by
  refine mt_of (own := RX5) (by decide) rfl (Nat.le_of_ble_eq_true rfl) (fun E C => ?_)
  show J g E (pI (b01 (0 ≤ x ∧ x ≤ 40)) σ) 1 0 [(0, .int (iI (x)))] [] σ
  refine r_iload_n (pc := 0) C dX5_isSoon_0 rfl 0 rfl ?_
  refine r_i2l (pc := 1) C hx dX5_isSoon_1 ?_
  refine r_lconst (pc := 2) C (n := 0) dX5_isSoon_2 (by decide) ?_
  refine r_ldc2 (pc := 3) C 40 t_965 (by decide) dX5_isSoon_3 ?_
  refine r_cSi (pc := 6) C (c_in g x 0 40 ⟨by have := hx.1; omega, by have := hx.2; omega⟩ ⟨by omega, by omega⟩ ⟨by omega, by omega⟩ σ) yX5_in_w rfl t_846 ⟨by decide, by decide⟩ (Nat.le_of_ble_eq_true rfl) rfl dX5_isSoon_6 ?_
  exact r_retz (pc := 9) C (b01_or _) (rfl) (rfl) dX5_isSoon_9
set_option maxHeartbeats 4000000 in
set_option maxRecDepth 100000 in
theorem c_m_isSpot (g : Gt) (x : Int) (hx : rng x) (σ : Sg) : Mt g yX5_isSpot cX5_isSpot 1 (some FieldType.boolean) 1 [.int (iI (x))] σ (pI (b01 (0 ≤ x ∧ x ≤ 9)) σ) := by
  refine mt_of (own := RX5) (by decide) rfl (Nat.le_of_ble_eq_true rfl) (fun E C => ?_)
  show J g E (pI (b01 (0 ≤ x ∧ x ≤ 9)) σ) 1 0 [(0, .int (iI (x)))] [] σ
  refine r_iload_n (pc := 0) C dX5_isSpot_0 rfl 0 rfl ?_
  refine r_i2l (pc := 1) C hx dX5_isSpot_1 ?_
  refine r_lconst (pc := 2) C (n := 0) dX5_isSpot_2 (by decide) ?_
  refine r_ldc2 (pc := 3) C 9 t_1255 (by decide) dX5_isSpot_3 ?_
  refine r_cSi (pc := 6) C (c_in g x 0 9 ⟨by have := hx.1; omega, by have := hx.2; omega⟩ ⟨by omega, by omega⟩ ⟨by omega, by omega⟩ σ) yX5_in_w rfl t_846 ⟨by decide, by decide⟩ (Nat.le_of_ble_eq_true rfl) rfl dX5_isSpot_6 ?_
  exact r_retz (pc := 9) C (b01_or _) (rfl) (rfl) dX5_isSpot_9
set_option maxHeartbeats 4000000 in
set_option maxRecDepth 100000 in
theorem c_m_isOne (g : Gt) (x : Int) (hx : rng x) (σ : Sg) : Mt g yX5_isOne cX5_isOne 1 (some FieldType.boolean) 1 [.int (iI (x))] σ (pI (b01 (0 ≤ x ∧ x ≤ 3)) σ) := by
  refine mt_of (own := RX5) (by decide) rfl (Nat.le_of_ble_eq_true rfl) (fun E C => ?_)
  show J g E (pI (b01 (0 ≤ x ∧ x ≤ 3)) σ) 1 0 [(0, .int (iI (x)))] [] σ
  refine r_iload_n (pc := 0) C dX5_isOne_0 rfl 0 rfl ?_
  refine r_i2l (pc := 1) C hx dX5_isOne_1 ?_
  refine r_lconst (pc := 2) C (n := 0) dX5_isOne_2 (by decide) ?_
  refine r_ldc2 (pc := 3) C 3 t_863 (by decide) dX5_isOne_3 ?_
  refine r_cSi (pc := 6) C (c_in g x 0 3 ⟨by have := hx.1; omega, by have := hx.2; omega⟩ ⟨by omega, by omega⟩ ⟨by omega, by omega⟩ σ) yX5_in_w rfl t_846 ⟨by decide, by decide⟩ (Nat.le_of_ble_eq_true rfl) rfl dX5_isOne_6 ?_
  exact r_retz (pc := 9) C (b01_or _) (rfl) (rfl) dX5_isOne_9
set_option maxHeartbeats 4000000 in
set_option maxRecDepth 100000 in
theorem c_m_isLetter (g : Gt) (x : Int) (hx : rng x) (σ : Sg) : Mt g yX5_isLetter cX5_isLetter 1 (some FieldType.boolean) 1 [.int (iI (x))] σ (pI (b01 (97 ≤ x ∧ x ≤ 122)) σ) := by
  refine mt_of (own := RX5) (by decide) rfl (Nat.le_of_ble_eq_true rfl) (fun E C => ?_)
  show J g E (pI (b01 (97 ≤ x ∧ x ≤ 122)) σ) 1 0 [(0, .int (iI (x)))] [] σ
  refine r_iload_n (pc := 0) C dX5_isLetter_0 rfl 0 rfl ?_
  refine r_i2l (pc := 1) C hx dX5_isLetter_1 ?_
  refine r_ldc2 (pc := 2) C 97 t_1186 (by decide) dX5_isLetter_2 ?_
  refine r_ldc2 (pc := 5) C 122 t_1187 (by decide) dX5_isLetter_5 ?_
  refine r_cSi (pc := 8) C (c_in g x 97 122 ⟨by have := hx.1; omega, by have := hx.2; omega⟩ ⟨by omega, by omega⟩ ⟨by omega, by omega⟩ σ) yX5_in_w rfl t_846 ⟨by decide, by decide⟩ (Nat.le_of_ble_eq_true rfl) rfl dX5_isLetter_8 ?_
  exact r_retz (pc := 11) C (b01_or _) (rfl) (rfl) dX5_isLetter_11
set_option maxHeartbeats 4000000 in
set_option maxRecDepth 100000 in
theorem c_m_isDigit (g : Gt) (x : Int) (hx : rng x) (σ : Sg) : Mt g yX5_isDigit cX5_isDigit 1 (some FieldType.boolean) 1 [.int (iI (x))] σ (pI (b01 (48 ≤ x ∧ x ≤ 57)) σ) := by
  refine mt_of (own := RX5) (by decide) rfl (Nat.le_of_ble_eq_true rfl) (fun E C => ?_)
  show J g E (pI (b01 (48 ≤ x ∧ x ≤ 57)) σ) 1 0 [(0, .int (iI (x)))] [] σ
  refine r_iload_n (pc := 0) C dX5_isDigit_0 rfl 0 rfl ?_
  refine r_i2l (pc := 1) C hx dX5_isDigit_1 ?_
  refine r_ldc2 (pc := 2) C 48 t_1191 (by decide) dX5_isDigit_2 ?_
  refine r_ldc2 (pc := 5) C 57 t_1192 (by decide) dX5_isDigit_5 ?_
  refine r_cSi (pc := 8) C (c_in g x 48 57 ⟨by have := hx.1; omega, by have := hx.2; omega⟩ ⟨by omega, by omega⟩ ⟨by omega, by omega⟩ σ) yX5_in_w rfl t_846 ⟨by decide, by decide⟩ (Nat.le_of_ble_eq_true rfl) rfl dX5_isDigit_8 ?_
  exact r_retz (pc := 11) C (b01_or _) (rfl) (rfl) dX5_isDigit_11
set_option maxHeartbeats 4000000 in
set_option maxRecDepth 100000 in
theorem c_place (g : Gt) (t w : Int) (σ : Sg) : Mt g yX5_place cX5_place 2 (some FieldType.int) 0 [.int (iI (t)), .int (iI (w))] σ (pI (17 + 3 * t + w) σ) := by
  refine mt_of (own := RX5) (by decide) rfl (Nat.le_of_ble_eq_true rfl) (fun E C => ?_)
  show J g E (pI (17 + 3 * t + w) σ) 2 0 [(0, .int (iI (t))), (1, .int (iI (w)))] [] σ
  refine r_bipush (pc := 0) C dX5_place_0 (by decide) ?_
  refine r_iconst (pc := 2) C dX5_place_2 ?_
  refine r_iload_n (pc := 3) C dX5_place_3 rfl 0 rfl ?_
  refine r_imul (pc := 4) C dX5_place_4 ?_
  refine r_iadd (pc := 5) C dX5_place_5 ?_
  refine r_iload_n (pc := 6) C dX5_place_6 rfl 1 rfl ?_
  refine r_iadd (pc := 7) C dX5_place_7 ?_
  exact r_reti (pc := 8) C (rfl) (rfl) dX5_place_8
set_option maxHeartbeats 4000000 in
set_option maxRecDepth 100000 in
theorem c_markAt (g : Gt) (t f : Int) (σ : Sg) : Mt g yX5_markAt cX5_markAt 2 (some FieldType.int) 0 [.int (iI (t)), .int (iI (f))] σ (pI (41 + 12 * t + f) σ) := by
  refine mt_of (own := RX5) (by decide) rfl (Nat.le_of_ble_eq_true rfl) (fun E C => ?_)
  show J g E (pI (41 + 12 * t + f) σ) 2 0 [(0, .int (iI (t))), (1, .int (iI (f)))] [] σ
  refine r_bipush (pc := 0) C dX5_markAt_0 (by decide) ?_
  refine r_bipush (pc := 2) C dX5_markAt_2 (by decide) ?_
  refine r_iload_n (pc := 4) C dX5_markAt_4 rfl 0 rfl ?_
  refine r_imul (pc := 5) C dX5_markAt_5 ?_
  refine r_iadd (pc := 6) C dX5_markAt_6 ?_
  refine r_iload_n (pc := 7) C dX5_markAt_7 rfl 1 rfl ?_
  refine r_iadd (pc := 8) C dX5_markAt_8 ?_
  exact r_reti (pc := 9) C (rfl) (rfl) dX5_markAt_9
set_option maxHeartbeats 4000000 in
set_option maxRecDepth 100000 in
theorem c_heldTo (g : Gt) (v h : Int) (hv : rng v) (hh : rng h) (σ : Sg) : Mt g yX5_heldTo cX5_heldTo 2 (some FieldType.int) 0 [.int (iI (v)), .int (iI (h))] σ (pI (min v h) σ) := by
  refine mt_of (own := RX5) (by decide) rfl (Nat.le_of_ble_eq_true rfl) (fun E C => ?_)
  show J g E (pI (min v h) σ) 2 0 [(0, .int (iI (v))), (1, .int (iI (h)))] [] σ
  refine r_iload_n (pc := 0) C dX5_heldTo_0 rfl 0 rfl ?_
  refine r_iload_n (pc := 1) C dX5_heldTo_1 rfl 1 rfl ?_
  refine r_icmp_le (pc := 2) C 9 hv hh dX5_heldTo_2 (by decide) (fun h2 => ?_) (fun h2 => ?_)
  · skip
    refine r_iload_n (pc := 9) C dX5_heldTo_9 rfl 0 rfl ?_
    exact r_reti (pc := 10) C (by omega) (rfl) dX5_heldTo_10
  · skip
    refine r_iload_n (pc := 5) C dX5_heldTo_5 rfl 1 rfl ?_
    refine r_goto (pc := 6) C 10 dX5_heldTo_6 (by decide) ?_
    exact r_reti (pc := 10) C (by omega) (rfl) dX5_heldTo_10
set_option maxHeartbeats 4000000 in
set_option maxRecDepth 100000 in
theorem c_round (g : Gt) (x : Int) (hx : -24 ≤ x ∧ x ≤ 100) (σ : Sg) : Mt g yX5_round cX5_round 1 (some FieldType.int) 0 [.int (iI (x))] σ (pI (((md x : Nat) : Int)) σ) := by
  refine mt_of (own := RX5) (by decide) rfl (Nat.le_of_ble_eq_true rfl) (fun E C => ?_)
  show J g E (pI (((md x : Nat) : Int)) σ) 1 0 [(0, .int (iI (x)))] [] σ
  refine r_iload_n (pc := 0) C dX5_round_0 rfl 0 rfl ?_
  refine r_bipush (pc := 1) C dX5_round_1 (by decide) ?_
  refine r_iadd (pc := 3) C dX5_round_3 ?_
  refine r_bipush (pc := 4) C dX5_round_4 (by decide) ?_
  refine r_irem (pc := 6) C (by omega) (by omega) (by omega) (by omega) dX5_round_6 ?_
  exact r_reti (pc := 7) C (by unfold md; omega) (rfl) dX5_round_7
set_option maxHeartbeats 4000000 in
set_option maxRecDepth 100000 in
theorem c_finds (g : Gt) (w : Nat) (hw : w < 7) (σ : Sg) : Mt g yX5_finds cX5_finds 2 (some FieldType.int) 0 [.ref (gA g 41), .int (iI (-1000001 - (w : Int)))] σ (pI (-1000001 - (w : Int)) (finM w σ)) := by
  refine mt_of (own := RX5) (by decide) rfl (Nat.le_of_ble_eq_true rfl) (fun E C => ?_)
  show J g E (pI (-1000001 - (w : Int)) (finM w σ)) 2 0 [(0, .ref (gA g 41)), (1, .int (iI (-1000001 - (w : Int))))] [] σ
  refine r_aload_n (pc := 0) C dX5_finds_0 rfl 0 rfl ?_
  refine r_getR5 (pc := 1) C 4 (k' := 46) rfl O_41 (by decide) rfl t_784 dX5_finds_1 ?_
  refine r_ldc (pc := 4) C (-1000001) t_854 (by decide) dX5_finds_4 ?_
  refine r_iload_n (pc := 6) C dX5_finds_6 rfl 1 rfl ?_
  refine r_isub (pc := 7) C dX5_finds_7 ?_
  refine r_dup2 (pc := 8) C rfl rfl dX5_finds_8 ?_
  refine r_iald (pc := 9) C w A_46 (by omega) (by omega) dX5_finds_9 ?_
  refine r_iconst (pc := 10) C dX5_finds_10 ?_
  refine r_iadd (pc := 11) C dX5_finds_11 ?_
  refine r_iast (pc := 12) C w A_46 (by omega) (by omega) dX5_finds_12 ?_
  refine r_iload_n (pc := 13) C dX5_finds_13 rfl 1 rfl ?_
  exact r_reti (pc := 14) C (rfl) (rfl) dX5_finds_14
set_option maxHeartbeats 4000000 in
set_option maxRecDepth 100000 in
theorem c_m_isTenant (g : Gt) (x : Int) (hx : rng x) (ρ σ : Sg) (hS : σ 42 = mkS ρ) (hn : 0 ≤ ρ 0 7 ∧ ρ 0 7 ≤ 8) : Mt g yX5_isTenant cX5_isTenant 2 (some FieldType.boolean) 1 [.ref (gA g 41), .int (iI (x))] σ (pI (b01 (0 ≤ x ∧ x ≤ ρ 0 7 - 1)) σ) := by
  refine mt_of (own := RX5) (by decide) rfl (Nat.le_of_ble_eq_true rfl) (fun E C => ?_)
  show J g E (pI (b01 (0 ≤ x ∧ x ≤ ρ 0 7 - 1)) σ) 2 0 [(0, .ref (gA g 41)), (1, .int (iI (x)))] [] σ
  refine r_iload_n (pc := 0) C dX5_isTenant_0 rfl 1 rfl ?_
  refine r_i2l (pc := 1) C hx dX5_isTenant_1 ?_
  refine r_lconst (pc := 2) C (n := 0) dX5_isTenant_2 (by decide) ?_
  refine r_aload_n (pc := 3) C dX5_isTenant_3 rfl 0 rfl ?_
  refine r_getR5 (pc := 4) C 0 (k' := 42) rfl O_41 (by decide) rfl t_780 dX5_isTenant_4 ?_
  refine r_iconst (pc := 7) C dX5_isTenant_7 ?_
  refine r_iald (pc := 8) C 1 A_42 (by omega) (by omega) dX5_isTenant_8 ?_
  refine r_top (show _ = ρ 0 7 from (congrFun hS _).trans (mkS_at rfl)) ?_
  refine r_iconst (pc := 9) C dX5_isTenant_9 ?_
  refine r_isub (pc := 10) C dX5_isTenant_10 ?_
  refine r_i2l (pc := 11) C ⟨by omega, by omega⟩ dX5_isTenant_11 ?_
  refine r_cSi (pc := 12) C (c_in g x 0 ((ρ 0 7) - 1) ⟨by have := hx.1; omega, by have := hx.2; omega⟩ ⟨by omega, by omega⟩ ⟨by omega, by omega⟩ σ) yX5_in_w rfl t_846 ⟨by decide, by decide⟩ (Nat.le_of_ble_eq_true rfl) rfl dX5_isTenant_12 ?_
  exact r_retz (pc := 15) C (b01_or _) (rfl) (rfl) dX5_isTenant_15
set_option maxHeartbeats 4000000 in
set_option maxRecDepth 100000 in
theorem c_its_0 (g : Gt) (t : Nat) (ht : t < 8) (ρ σ : Sg) (hS : σ 42 = mkS ρ) : Mt g yX5_its cX5_its 3 (some FieldType.int) 1 [.ref (gA g 41), .int (iI ((t : Int))), .int (iI (0))] σ (pI (ρ 3 t) σ) := by
  refine mt_of (own := RX5) (by decide) rfl (Nat.le_of_ble_eq_true rfl) (fun E C => ?_)
  show J g E (pI (ρ 3 t) σ) 3 0 [(0, .ref (gA g 41)), (1, .int (iI ((t : Int)))), (2, .int (iI (0)))] [] σ
  refine r_aload_n (pc := 0) C dX5_its_0 rfl 0 rfl ?_
  refine r_getR5 (pc := 1) C 0 (k' := 42) rfl O_41 (by decide) rfl t_780 dX5_its_1 ?_
  refine r_iload_n (pc := 4) C dX5_its_4 rfl 1 rfl ?_
  refine r_iload_n (pc := 5) C dX5_its_5 rfl 2 rfl ?_
  refine r_cSi (pc := 6) C (c_place g (t : Int) 0 σ) yX5_place_w rfl t_879 ⟨by decide, by decide⟩ (Nat.le_of_ble_eq_true rfl) rfl dX5_its_6 ?_
  refine r_iald (pc := 9) C (17 + 3 * t) A_42 (by omega) (by omega) dX5_its_9 ?_
  refine r_top (show _ = ρ 3 t from (congrFun hS _).trans (mkS_at (cidx_K (by omega)))) ?_
  exact r_reti (pc := 10) C (rfl) (rfl) dX5_its_10
set_option maxHeartbeats 4000000 in
set_option maxRecDepth 100000 in
theorem c_its_1 (g : Gt) (t : Nat) (ht : t < 8) (ρ σ : Sg) (hS : σ 42 = mkS ρ) : Mt g yX5_its cX5_its 3 (some FieldType.int) 1 [.ref (gA g 41), .int (iI ((t : Int))), .int (iI (1))] σ (pI (ρ 4 t) σ) := by
  refine mt_of (own := RX5) (by decide) rfl (Nat.le_of_ble_eq_true rfl) (fun E C => ?_)
  show J g E (pI (ρ 4 t) σ) 3 0 [(0, .ref (gA g 41)), (1, .int (iI ((t : Int)))), (2, .int (iI (1)))] [] σ
  refine r_aload_n (pc := 0) C dX5_its_0 rfl 0 rfl ?_
  refine r_getR5 (pc := 1) C 0 (k' := 42) rfl O_41 (by decide) rfl t_780 dX5_its_1 ?_
  refine r_iload_n (pc := 4) C dX5_its_4 rfl 1 rfl ?_
  refine r_iload_n (pc := 5) C dX5_its_5 rfl 2 rfl ?_
  refine r_cSi (pc := 6) C (c_place g (t : Int) 1 σ) yX5_place_w rfl t_879 ⟨by decide, by decide⟩ (Nat.le_of_ble_eq_true rfl) rfl dX5_its_6 ?_
  refine r_iald (pc := 9) C (18 + 3 * t) A_42 (by omega) (by omega) dX5_its_9 ?_
  refine r_top (show _ = ρ 4 t from (congrFun hS _).trans (mkS_at (cidx_A (by omega)))) ?_
  exact r_reti (pc := 10) C (rfl) (rfl) dX5_its_10
set_option maxHeartbeats 4000000 in
set_option maxRecDepth 100000 in
theorem c_its_2 (g : Gt) (t : Nat) (ht : t < 8) (ρ σ : Sg) (hS : σ 42 = mkS ρ) : Mt g yX5_its cX5_its 3 (some FieldType.int) 1 [.ref (gA g 41), .int (iI ((t : Int))), .int (iI (2))] σ (pI (ρ 5 t) σ) := by
  refine mt_of (own := RX5) (by decide) rfl (Nat.le_of_ble_eq_true rfl) (fun E C => ?_)
  show J g E (pI (ρ 5 t) σ) 3 0 [(0, .ref (gA g 41)), (1, .int (iI ((t : Int)))), (2, .int (iI (2)))] [] σ
  refine r_aload_n (pc := 0) C dX5_its_0 rfl 0 rfl ?_
  refine r_getR5 (pc := 1) C 0 (k' := 42) rfl O_41 (by decide) rfl t_780 dX5_its_1 ?_
  refine r_iload_n (pc := 4) C dX5_its_4 rfl 1 rfl ?_
  refine r_iload_n (pc := 5) C dX5_its_5 rfl 2 rfl ?_
  refine r_cSi (pc := 6) C (c_place g (t : Int) 2 σ) yX5_place_w rfl t_879 ⟨by decide, by decide⟩ (Nat.le_of_ble_eq_true rfl) rfl dX5_its_6 ?_
  refine r_iald (pc := 9) C (19 + 3 * t) A_42 (by omega) (by omega) dX5_its_9 ?_
  refine r_top (show _ = ρ 5 t from (congrFun hS _).trans (mkS_at (cidx_G (by omega)))) ?_
  exact r_reti (pc := 10) C (rfl) (rfl) dX5_its_10
set_option maxHeartbeats 4000000 in
set_option maxRecDepth 100000 in
theorem c_becomes (g : Gt) (i k j : Nat) (hi : i < 147) (hc : cidx i = (k, j)) (v : Int) (ρ σ : Sg) (hS : σ 42 = mkS ρ) : Mt g yX5_becomes cX5_becomes 4 (some FieldType.int) 0 [.ref (gA g 41), .int (iI ((i : Int))), .int (iI (v))] σ (pI (ρ k j) (us σ 42 (mkS (wr ρ k j v)))) := by
  refine mt_of (own := RX5) (by decide) rfl (Nat.le_of_ble_eq_true rfl) (fun E C => ?_)
  show J g E (pI (ρ k j) (us σ 42 (mkS (wr ρ k j v)))) 4 0 [(0, .ref (gA g 41)), (1, .int (iI ((i : Int)))), (2, .int (iI (v)))] [] σ
  refine r_aload_n (pc := 0) C dX5_becomes_0 rfl 0 rfl ?_
  refine r_getR5 (pc := 1) C 0 (k' := 42) rfl O_41 (by decide) rfl t_780 dX5_becomes_1 ?_
  refine r_iload_n (pc := 4) C dX5_becomes_4 rfl 1 rfl ?_
  refine r_iald (pc := 5) C i A_42 (by omega) (by omega) dX5_becomes_5 ?_
  refine r_top (show _ = ρ k j from (congrFun hS _).trans (mkS_at hc)) ?_
  refine r_istore_n (pc := 6) C dX5_becomes_6 rfl (by decide) [1, 2, 3, 0] (lv' := [(0, .ref (gA g 41)), (1, .int (iI ((i : Int)))), (2, .int (iI (v))), (3, .int (iI (ρ k j)))]) rfl ?_
  refine r_aload_n (pc := 7) C dX5_becomes_7 rfl 0 rfl ?_
  refine r_getR5 (pc := 8) C 0 (k' := 42) rfl O_41 (by decide) rfl t_780 dX5_becomes_8 ?_
  refine r_iload_n (pc := 11) C dX5_becomes_11 rfl 1 rfl ?_
  refine r_iload_n (pc := 12) C dX5_becomes_12 rfl 2 rfl ?_
  refine r_iast (pc := 13) C i A_42 (by omega) (by omega) dX5_becomes_13 ?_
  refine r_sg (wrS hS hc) ?_
  refine r_iload_n (pc := 14) C dX5_becomes_14 rfl 3 rfl ?_
  exact r_reti (pc := 15) C (rfl) (rfl) dX5_becomes_15
set_option maxHeartbeats 4000000 in
set_option maxRecDepth 100000 in
theorem c_saves (g : Gt) (σ : Sg) : Mt g yX5_saves cX5_saves 2 none 0 [.ref (gA g 41)] σ (pV (us σ 44 (σ 42))) := by
  refine mt_of (own := RX5) (by decide) rfl (Nat.le_of_ble_eq_true rfl) (fun E C => ?_)
  show J g E (pV (us σ 44 (σ 42))) 2 0 [(0, .ref (gA g 41))] [] σ
  refine r_iconst (pc := 0) C dX5_saves_0 ?_
  refine r_istore_n (pc := 1) C dX5_saves_1 rfl (by decide) [1, 0] (lv' := [(0, .ref (gA g 41)), (1, .int (iI (0)))]) rfl ?_
  have L2 : ∀ (n_ : Nat) (i : Nat) (x2_1 : Int) (s2 : Sg), 147 - i < n_ → (i ≤ 147) → x2_1 = (i : Int) → s2 = (us σ 44 (mapTo (σ 42) (σ 44) i)) → J g E (pV (us σ 44 (σ 42))) 2 2 [(0, .ref (gA g 41)), (1, .int (iI (x2_1)))] [] s2 := by
    intro n_
    induction n_ with
    | zero => intro i x2_1 s2 hm_; exact absurd hm_ (Nat.not_lt_zero _)
    | succ n_ ih2 =>
      intro i x2_1 s2 hm2 hi2_0 e2_0 es2
      subst e2_0 es2
      refine r_iload_n (pc := 2) C dX5_saves_2 rfl 1 rfl ?_
      refine r_sipush (pc := 3) C dX5_saves_3 (by decide) ?_
      refine r_icmp_ge (pc := 6) C 27 ⟨by omega, by omega⟩ ⟨by omega, by omega⟩ dX5_saves_6 (by decide) (fun h6 => ?_) (fun h6 => ?_)
      · skip
        refine r_cong (us σ 44 (σ 42)) ?_ ?_
        · intro k hk j hj
          by_cases h0 : k = 44
          · subst h0
            have hj2 : j < 147 := hj
            rw [us_s, us_s, mapTo_lt (show j < i by omega)]
          · rw [us_n _ _ h0, us_n _ _ h0]
        exact r_retv (pc := 27) C (rfl) dX5_saves_27
      · skip
        refine r_aload_n (pc := 9) C dX5_saves_9 rfl 0 rfl ?_
        refine r_getR5 (pc := 10) C 2 (k' := 44) rfl O_41 (by decide) rfl t_782 dX5_saves_10 ?_
        refine r_iload_n (pc := 13) C dX5_saves_13 rfl 1 rfl ?_
        refine r_aload_n (pc := 14) C dX5_saves_14 rfl 0 rfl ?_
        refine r_getR5 (pc := 15) C 0 (k' := 42) rfl O_41 (by decide) rfl t_780 dX5_saves_15 ?_
        refine r_iload_n (pc := 18) C dX5_saves_18 rfl 1 rfl ?_
        refine r_iald (pc := 19) C i A_42 (by omega) (by omega) dX5_saves_19 ?_
        refine r_top (us_o2 _ _ _ (by omega)) ?_
        refine r_iast (pc := 20) C i A_44 (by omega) (by omega) dX5_saves_20 ?_
        refine r_iinc (pc := 21) C dX5_saves_21 1 rfl (by decide) [1, 0] (lv' := [(0, .ref (gA g 41)), (1, .int (iI ((i : Int) + 1)))]) rfl ?_
        refine r_goto (pc := 24) C 2 dX5_saves_24 (by decide) ?_
        exact ih2 (i + 1) _ _ (by omega) (by omega) (by omega) ((wr_us _ _ _ _ _).trans (congrArg (us _ 44) (mapTo_s _ _ _)))
  exact L2 _ 0 _ _ (Nat.lt_succ_self _) (by omega) (rfl) (by rw [mapTo_0, us_id])
set_option maxHeartbeats 4000000 in
set_option maxRecDepth 100000 in
theorem c_putsBack (g : Gt) (σ : Sg) : Mt g yX5_putsBack cX5_putsBack 2 none 0 [.ref (gA g 41)] σ (pV (us σ 42 (σ 44))) := by
  refine mt_of (own := RX5) (by decide) rfl (Nat.le_of_ble_eq_true rfl) (fun E C => ?_)
  show J g E (pV (us σ 42 (σ 44))) 2 0 [(0, .ref (gA g 41))] [] σ
  refine r_iconst (pc := 0) C dX5_putsBack_0 ?_
  refine r_istore_n (pc := 1) C dX5_putsBack_1 rfl (by decide) [1, 0] (lv' := [(0, .ref (gA g 41)), (1, .int (iI (0)))]) rfl ?_
  have L2 : ∀ (n_ : Nat) (i : Nat) (x2_1 : Int) (s2 : Sg), 147 - i < n_ → (i ≤ 147) → x2_1 = (i : Int) → s2 = (us σ 42 (mapTo (σ 44) (σ 42) i)) → J g E (pV (us σ 42 (σ 44))) 2 2 [(0, .ref (gA g 41)), (1, .int (iI (x2_1)))] [] s2 := by
    intro n_
    induction n_ with
    | zero => intro i x2_1 s2 hm_; exact absurd hm_ (Nat.not_lt_zero _)
    | succ n_ ih2 =>
      intro i x2_1 s2 hm2 hi2_0 e2_0 es2
      subst e2_0 es2
      refine r_iload_n (pc := 2) C dX5_putsBack_2 rfl 1 rfl ?_
      refine r_sipush (pc := 3) C dX5_putsBack_3 (by decide) ?_
      refine r_icmp_ge (pc := 6) C 27 ⟨by omega, by omega⟩ ⟨by omega, by omega⟩ dX5_putsBack_6 (by decide) (fun h6 => ?_) (fun h6 => ?_)
      · skip
        refine r_cong (us σ 42 (σ 44)) ?_ ?_
        · intro k hk j hj
          by_cases h0 : k = 42
          · subst h0
            have hj2 : j < 147 := hj
            rw [us_s, us_s, mapTo_lt (show j < i by omega)]
          · rw [us_n _ _ h0, us_n _ _ h0]
        exact r_retv (pc := 27) C (rfl) dX5_putsBack_27
      · skip
        refine r_aload_n (pc := 9) C dX5_putsBack_9 rfl 0 rfl ?_
        refine r_getR5 (pc := 10) C 0 (k' := 42) rfl O_41 (by decide) rfl t_780 dX5_putsBack_10 ?_
        refine r_iload_n (pc := 13) C dX5_putsBack_13 rfl 1 rfl ?_
        refine r_aload_n (pc := 14) C dX5_putsBack_14 rfl 0 rfl ?_
        refine r_getR5 (pc := 15) C 2 (k' := 44) rfl O_41 (by decide) rfl t_782 dX5_putsBack_15 ?_
        refine r_iload_n (pc := 18) C dX5_putsBack_18 rfl 1 rfl ?_
        refine r_iald (pc := 19) C i A_44 (by omega) (by omega) dX5_putsBack_19 ?_
        refine r_top (us_o2 _ _ _ (by omega)) ?_
        refine r_iast (pc := 20) C i A_42 (by omega) (by omega) dX5_putsBack_20 ?_
        refine r_iinc (pc := 21) C dX5_putsBack_21 1 rfl (by decide) [1, 0] (lv' := [(0, .ref (gA g 41)), (1, .int (iI ((i : Int) + 1)))]) rfl ?_
        refine r_goto (pc := 24) C 2 dX5_putsBack_24 (by decide) ?_
        exact ih2 (i + 1) _ _ (by omega) (by omega) (by omega) ((wr_us _ _ _ _ _).trans (congrArg (us _ 42) (mapTo_s _ _ _)))
  exact L2 _ 0 _ _ (Nat.lt_succ_self _) (by omega) (rfl) (by rw [mapTo_0, us_id])
set_option maxHeartbeats 4000000 in
set_option maxRecDepth 100000 in
theorem c_laysAside (g : Gt) (σ : Sg) : Mt g yX5_laysAside cX5_laysAside 2 none 0 [.ref (gA g 41)] σ (pV (us σ 45 (σ 42))) := by
  refine mt_of (own := RX5) (by decide) rfl (Nat.le_of_ble_eq_true rfl) (fun E C => ?_)
  show J g E (pV (us σ 45 (σ 42))) 2 0 [(0, .ref (gA g 41))] [] σ
  refine r_iconst (pc := 0) C dX5_laysAside_0 ?_
  refine r_istore_n (pc := 1) C dX5_laysAside_1 rfl (by decide) [1, 0] (lv' := [(0, .ref (gA g 41)), (1, .int (iI (0)))]) rfl ?_
  have L2 : ∀ (n_ : Nat) (i : Nat) (x2_1 : Int) (s2 : Sg), 147 - i < n_ → (i ≤ 147) → x2_1 = (i : Int) → s2 = (us σ 45 (mapTo (σ 42) (σ 45) i)) → J g E (pV (us σ 45 (σ 42))) 2 2 [(0, .ref (gA g 41)), (1, .int (iI (x2_1)))] [] s2 := by
    intro n_
    induction n_ with
    | zero => intro i x2_1 s2 hm_; exact absurd hm_ (Nat.not_lt_zero _)
    | succ n_ ih2 =>
      intro i x2_1 s2 hm2 hi2_0 e2_0 es2
      subst e2_0 es2
      refine r_iload_n (pc := 2) C dX5_laysAside_2 rfl 1 rfl ?_
      refine r_sipush (pc := 3) C dX5_laysAside_3 (by decide) ?_
      refine r_icmp_ge (pc := 6) C 27 ⟨by omega, by omega⟩ ⟨by omega, by omega⟩ dX5_laysAside_6 (by decide) (fun h6 => ?_) (fun h6 => ?_)
      · skip
        refine r_cong (us σ 45 (σ 42)) ?_ ?_
        · intro k hk j hj
          by_cases h0 : k = 45
          · subst h0
            have hj2 : j < 147 := hj
            rw [us_s, us_s, mapTo_lt (show j < i by omega)]
          · rw [us_n _ _ h0, us_n _ _ h0]
        exact r_retv (pc := 27) C (rfl) dX5_laysAside_27
      · skip
        refine r_aload_n (pc := 9) C dX5_laysAside_9 rfl 0 rfl ?_
        refine r_getR5 (pc := 10) C 3 (k' := 45) rfl O_41 (by decide) rfl t_783 dX5_laysAside_10 ?_
        refine r_iload_n (pc := 13) C dX5_laysAside_13 rfl 1 rfl ?_
        refine r_aload_n (pc := 14) C dX5_laysAside_14 rfl 0 rfl ?_
        refine r_getR5 (pc := 15) C 0 (k' := 42) rfl O_41 (by decide) rfl t_780 dX5_laysAside_15 ?_
        refine r_iload_n (pc := 18) C dX5_laysAside_18 rfl 1 rfl ?_
        refine r_iald (pc := 19) C i A_42 (by omega) (by omega) dX5_laysAside_19 ?_
        refine r_top (us_o2 _ _ _ (by omega)) ?_
        refine r_iast (pc := 20) C i A_45 (by omega) (by omega) dX5_laysAside_20 ?_
        refine r_iinc (pc := 21) C dX5_laysAside_21 1 rfl (by decide) [1, 0] (lv' := [(0, .ref (gA g 41)), (1, .int (iI ((i : Int) + 1)))]) rfl ?_
        refine r_goto (pc := 24) C 2 dX5_laysAside_24 (by decide) ?_
        exact ih2 (i + 1) _ _ (by omega) (by omega) (by omega) ((wr_us _ _ _ _ _).trans (congrArg (us _ 45) (mapTo_s _ _ _)))
  exact L2 _ 0 _ _ (Nat.lt_succ_self _) (by omega) (rfl) (by rw [mapTo_0, us_id])
set_option maxHeartbeats 4000000 in
set_option maxRecDepth 100000 in
theorem c_takesBack (g : Gt) (v : Int) (σ : Sg) : Mt g yX5_takesBack cX5_takesBack 3 (some FieldType.int) 0 [.ref (gA g 41), .int (iI (v))] σ (pI v (us σ 42 (σ 45))) := by
  refine mt_of (own := RX5) (by decide) rfl (Nat.le_of_ble_eq_true rfl) (fun E C => ?_)
  show J g E (pI v (us σ 42 (σ 45))) 3 0 [(0, .ref (gA g 41)), (1, .int (iI (v)))] [] σ
  refine r_iconst (pc := 0) C dX5_takesBack_0 ?_
  refine r_istore_n (pc := 1) C dX5_takesBack_1 rfl (by decide) [1, 2, 0] (lv' := [(0, .ref (gA g 41)), (1, .int (iI (v))), (2, .int (iI (0)))]) rfl ?_
  have L2 : ∀ (n_ : Nat) (i : Nat) (x2_2 : Int) (s2 : Sg), 147 - i < n_ → (i ≤ 147) → x2_2 = (i : Int) → s2 = (us σ 42 (mapTo (σ 45) (σ 42) i)) → J g E (pI v (us σ 42 (σ 45))) 3 2 [(0, .ref (gA g 41)), (1, .int (iI (v))), (2, .int (iI (x2_2)))] [] s2 := by
    intro n_
    induction n_ with
    | zero => intro i x2_2 s2 hm_; exact absurd hm_ (Nat.not_lt_zero _)
    | succ n_ ih2 =>
      intro i x2_2 s2 hm2 hi2_0 e2_0 es2
      subst e2_0 es2
      refine r_iload_n (pc := 2) C dX5_takesBack_2 rfl 2 rfl ?_
      refine r_sipush (pc := 3) C dX5_takesBack_3 (by decide) ?_
      refine r_icmp_ge (pc := 6) C 27 ⟨by omega, by omega⟩ ⟨by omega, by omega⟩ dX5_takesBack_6 (by decide) (fun h6 => ?_) (fun h6 => ?_)
      · skip
        refine r_cong (us σ 42 (σ 45)) ?_ ?_
        · intro k hk j hj
          by_cases h0 : k = 42
          · subst h0
            have hj2 : j < 147 := hj
            rw [us_s, us_s, mapTo_lt (show j < i by omega)]
          · rw [us_n _ _ h0, us_n _ _ h0]
        refine r_iload_n (pc := 27) C dX5_takesBack_27 rfl 1 rfl ?_
        exact r_reti (pc := 28) C (rfl) (rfl) dX5_takesBack_28
      · skip
        refine r_aload_n (pc := 9) C dX5_takesBack_9 rfl 0 rfl ?_
        refine r_getR5 (pc := 10) C 0 (k' := 42) rfl O_41 (by decide) rfl t_780 dX5_takesBack_10 ?_
        refine r_iload_n (pc := 13) C dX5_takesBack_13 rfl 2 rfl ?_
        refine r_aload_n (pc := 14) C dX5_takesBack_14 rfl 0 rfl ?_
        refine r_getR5 (pc := 15) C 3 (k' := 45) rfl O_41 (by decide) rfl t_783 dX5_takesBack_15 ?_
        refine r_iload_n (pc := 18) C dX5_takesBack_18 rfl 2 rfl ?_
        refine r_iald (pc := 19) C i A_45 (by omega) (by omega) dX5_takesBack_19 ?_
        refine r_top (us_o2 _ _ _ (by omega)) ?_
        refine r_iast (pc := 20) C i A_42 (by omega) (by omega) dX5_takesBack_20 ?_
        refine r_iinc (pc := 21) C dX5_takesBack_21 2 rfl (by decide) [1, 2, 0] (lv' := [(0, .ref (gA g 41)), (1, .int (iI (v))), (2, .int (iI ((i : Int) + 1)))]) rfl ?_
        refine r_goto (pc := 24) C 2 dX5_takesBack_24 (by decide) ?_
        exact ih2 (i + 1) _ _ (by omega) (by omega) (by omega) ((wr_us _ _ _ _ _).trans (congrArg (us _ 42) (mapTo_s _ _ _)))
  exact L2 _ 0 _ _ (Nat.lt_succ_self _) (by omega) (rfl) (by rw [mapTo_0, us_id])
