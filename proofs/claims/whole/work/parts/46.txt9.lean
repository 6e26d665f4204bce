theorem iL_of (x : Int64) : iL x.toInt = x := Int64.ofInt_toInt x
theorem r_topL {g : Gt} {E : Ev} {post : Option Value → Sg → Prop} {nL pc : Nat} {lv : List (Nat × Value)} {st : List Value} {σ : Sg} {a b : Int} (h : iL a = iL b) (k : J g E post nL pc lv (.long (iL b) :: st) σ) : J g E post nL pc lv (.long (iL a) :: st) σ := by
  rw [h]
  exact k
/-- a word as the model reads it -/
def wMs (v b : Int) : Int := if 36028797018963967 < v then v else (iL (32 * v + (b - 96))).toInt
def wM (B : Nat → Int) (s : Nat) : Nat → Int
  | 0 => 0
  | j + 1 => wMs (wM B s j) (B (s + j))
theorem wM_rng (B : Nat → Int) (s : Nat) : ∀ n, -9223372036854775808 ≤ wM B s n ∧ wM B s n ≤ 9223372036854775807
  | 0 => by
    show -9223372036854775808 ≤ (0 : Int) ∧ (0 : Int) ≤ 9223372036854775807
    omega
  | n + 1 => by
    have ih := wM_rng B s n
    unfold wM wMs
    split
    · exact ih
    · have h1 := Int64.le_toInt (iL (32 * wM B s n + (B (s + n) - 96)))
      have h2 := Int64.toInt_le (iL (32 * wM B s n + (B (s + n) - 96)))
      have e1 : Int64.minValue.toInt = -9223372036854775808 := by decide
      have e2 : Int64.maxValue.toInt = 9223372036854775807 := by decide
      omega
def wdM (B : Nat → Int) (L p : Nat) (w : Int) : Int := if w ≠ 0 ∨ ¬ (97 ≤ btA B L p ∧ btA B L p ≤ 122) then 0 else wM B p (tE B L p - p)
def kdM (x : Int) : Int := if x = 676791764 then 0 else if x = 409156 then 1 else if x = 427300 then 2 else if x = 24416759 then 3 else if x = 77177328 then 4 else if x = 3124 then 5 else if x = 267570 then 6 else -1
theorem wdM_rng (B : Nat → Int) (L p : Nat) (w : Int) : -9223372036854775808 ≤ wdM B L p w ∧ wdM B L p w ≤ 9223372036854775807 := by
  unfold wdM
  split
  · omega
  · exact wM_rng B p _
set_option maxHeartbeats 4000000 in
set_option maxRecDepth 100000 in
theorem c_must_y (g : Gt) (e : Nat) (p v : Int) (ρ σ : Sg) (hl : 0 ≤ σ 41 10 ∧ σ 41 10 ≤ 120) (hB : ∀ j, j < 120 → 0 ≤ σ 49 j ∧ σ 49 j ≤ 255) (he : (e : Int) ≤ σ 41 10) : Mt g yX5_must cX5_must 2 none 3 [.ref (gA g 41), .int (iI (1))] (MS2 σ p (e : Int) v 0 ρ) (pV (MS2 σ (((skp (σ 49) (σ 41 10).toNat 120 e) : Nat) : Int) ((tE (σ 49) (σ 41 10).toNat (skp (σ 49) (σ 41 10).toNat 120 e) : Nat) : Int) v 0 ρ)) := by
  refine mt_of (own := RX5) (by decide) rfl (Nat.le_of_ble_eq_true rfl) (fun E C => ?_)
  show J g E (pV (MS2 σ (((skp (σ 49) (σ 41 10).toNat 120 e) : Nat) : Int) ((tE (σ 49) (σ 41 10).toNat (skp (σ 49) (σ 41 10).toNat 120 e) : Nat) : Int) v 0 ρ)) 2 0 [(0, .ref (gA g 41)), (1, .int (iI (1)))] [] (MS2 σ p (e : Int) v 0 ρ)
  refine r_aload_n (pc := 0) C dX5_must_0 rfl 0 rfl ?_
  refine r_aload_n (pc := 1) C dX5_must_1 rfl 0 rfl ?_
  refine r_getI5 (pc := 2) C 14 rfl O_41 (by decide) rfl t_794 dX5_must_2 ?_
  refine r_top (show _ = 0 from rfl) ?_
  refine r_if_ne (pc := 5) C 12 ⟨by omega, by omega⟩ dX5_must_5 (by decide) (fun h5 => ?_) (fun h5 => ?_)
  · skip
    omega
  · skip
    refine r_iload_n (pc := 8) C dX5_must_8 rfl 1 rfl ?_
    refine r_if_ne (pc := 9) C 16 ⟨by omega, by omega⟩ dX5_must_9 (by decide) (fun h9 => ?_) (fun h9 => ?_)
    · skip
      refine r_iconst (pc := 16) C dX5_must_16 ?_
      refine r_putZ5 (pc := 17) C 14 (Or.inl rfl) rfl O_41 (by decide) rfl t_794 rfl (by decide +kernel) dX5_must_17 ?_
      refine r_sg (MS_14 _ _ _ _ _ _ _) ?_
      refine r_aload_n (pc := 20) C dX5_must_20 rfl 0 rfl ?_
      refine r_getI5 (pc := 21) C 14 rfl O_41 (by decide) rfl t_794 dX5_must_21 ?_
      refine r_top (show _ = 0 from rfl) ?_
      refine r_if_ne (pc := 24) C 31 ⟨by omega, by omega⟩ dX5_must_24 (by decide) (fun h24 => ?_) (fun h24 => ?_)
      · skip
        omega
      · skip
        refine r_aload_n (pc := 27) C dX5_must_27 rfl 0 rfl ?_
        refine r_cVv (pc := 28) C (c_token g e p v 0 ρ σ hl hB (by omega)) yX5_token_w O_41 rfl rfl t_1175 ⟨by decide, by decide⟩ (Nat.le_of_ble_eq_true rfl) rfl dX5_must_28 ?_
        exact r_retv (pc := 31) C (rfl) dX5_must_31
    · skip
      omega
set_option maxHeartbeats 4000000 in
set_option maxRecDepth 100000 in
theorem c_must_n (g : Gt) (p e v : Int) (ρ σ : Sg) (hl : 0 ≤ σ 41 10 ∧ σ 41 10 ≤ 120) (hB : ∀ j, j < 120 → 0 ≤ σ 49 j ∧ σ 49 j ≤ 255) : Mt g yX5_must cX5_must 2 none 3 [.ref (gA g 41), .int (iI (0))] (MS2 σ p e v 0 ρ) (pV (MS2 σ p e v 1 ρ)) := by
  refine mt_of (own := RX5) (by decide) rfl (Nat.le_of_ble_eq_true rfl) (fun E C => ?_)
  show J g E (pV (MS2 σ p e v 1 ρ)) 2 0 [(0, .ref (gA g 41)), (1, .int (iI (0)))] [] (MS2 σ p e v 0 ρ)
  refine r_aload_n (pc := 0) C dX5_must_0 rfl 0 rfl ?_
  refine r_aload_n (pc := 1) C dX5_must_1 rfl 0 rfl ?_
  refine r_getI5 (pc := 2) C 14 rfl O_41 (by decide) rfl t_794 dX5_must_2 ?_
  refine r_top (show _ = 0 from rfl) ?_
  refine r_if_ne (pc := 5) C 12 ⟨by omega, by omega⟩ dX5_must_5 (by decide) (fun h5 => ?_) (fun h5 => ?_)
  · skip
    omega
  · skip
    refine r_iload_n (pc := 8) C dX5_must_8 rfl 1 rfl ?_
    refine r_if_ne (pc := 9) C 16 ⟨by omega, by omega⟩ dX5_must_9 (by decide) (fun h9 => ?_) (fun h9 => ?_)
    · skip
      omega
    · skip
      refine r_iconst (pc := 12) C dX5_must_12 ?_
      refine r_goto (pc := 13) C 17 dX5_must_13 (by decide) ?_
      refine r_putZ5 (pc := 17) C 14 (Or.inr rfl) rfl O_41 (by decide) rfl t_794 rfl (by decide +kernel) dX5_must_17 ?_
      refine r_sg (MS_14 _ _ _ _ _ _ _) ?_
      refine r_aload_n (pc := 20) C dX5_must_20 rfl 0 rfl ?_
      refine r_getI5 (pc := 21) C 14 rfl O_41 (by decide) rfl t_794 dX5_must_21 ?_
      refine r_top (show _ = 1 from rfl) ?_
      refine r_if_ne (pc := 24) C 31 ⟨by omega, by omega⟩ dX5_must_24 (by decide) (fun h24 => ?_) (fun h24 => ?_)
      · skip
        exact r_retv (pc := 31) C (rfl) dX5_must_31
      · skip
        omega
set_option maxHeartbeats 4000000 in
set_option maxRecDepth 100000 in
theorem c_must_w (g : Gt) (c : Int) (hc : c = 0 ∨ c = 1) (p e v : Int) (ρ σ : Sg) (hl : 0 ≤ σ 41 10 ∧ σ 41 10 ≤ 120) (hB : ∀ j, j < 120 → 0 ≤ σ 49 j ∧ σ 49 j ≤ 255) : Mt g yX5_must cX5_must 2 none 3 [.ref (gA g 41), .int (iI (c))] (MS2 σ p e v 1 ρ) (pV (MS2 σ p e v 1 ρ)) := by
  refine mt_of (own := RX5) (by decide) rfl (Nat.le_of_ble_eq_true rfl) (fun E C => ?_)
  show J g E (pV (MS2 σ p e v 1 ρ)) 2 0 [(0, .ref (gA g 41)), (1, .int (iI (c)))] [] (MS2 σ p e v 1 ρ)
  refine r_aload_n (pc := 0) C dX5_must_0 rfl 0 rfl ?_
  refine r_aload_n (pc := 1) C dX5_must_1 rfl 0 rfl ?_
  refine r_getI5 (pc := 2) C 14 rfl O_41 (by decide) rfl t_794 dX5_must_2 ?_
  refine r_top (show _ = 1 from rfl) ?_
  refine r_if_ne (pc := 5) C 12 ⟨by omega, by omega⟩ dX5_must_5 (by decide) (fun h5 => ?_) (fun h5 => ?_)
  · skip
    refine r_iconst (pc := 12) C dX5_must_12 ?_
    refine r_goto (pc := 13) C 17 dX5_must_13 (by decide) ?_
    refine r_putZ5 (pc := 17) C 14 (Or.inr rfl) rfl O_41 (by decide) rfl t_794 rfl (by decide +kernel) dX5_must_17 ?_
    refine r_sg (MS_14 _ _ _ _ _ _ _) ?_
    refine r_aload_n (pc := 20) C dX5_must_20 rfl 0 rfl ?_
    refine r_getI5 (pc := 21) C 14 rfl O_41 (by decide) rfl t_794 dX5_must_21 ?_
    refine r_top (show _ = 1 from rfl) ?_
    refine r_if_ne (pc := 24) C 31 ⟨by omega, by omega⟩ dX5_must_24 (by decide) (fun h24 => ?_) (fun h24 => ?_)
    · skip
      exact r_retv (pc := 31) C (rfl) dX5_must_31
    · skip
      omega
  · skip
    omega
set_option maxHeartbeats 4000000 in
set_option maxRecDepth 100000 in
theorem c_number_y (g : Gt) (p : Nat) (hi : Int) (hhi : 0 ≤ hi ∧ hi ≤ 9999) (v : Int) (ρ σ : Sg) (hl : 0 ≤ σ 41 10 ∧ σ 41 10 ≤ 120) (hB : ∀ j, j < 120 → 0 ≤ σ 49 j ∧ σ 49 j ≤ 255) (hp : (p : Int) ≤ σ 41 10) (hd : (48 ≤ btA (σ 49) (σ 41 10).toNat p ∧ btA (σ 49) (σ 41 10).toNat p ≤ 57)) (hv : nuM (σ 49) p (tE (σ 49) (σ 41 10).toNat p - p) ≤ hi) : Mt g yX5_number cX5_number 6 none 4 [.ref (gA g 41), .int (iI (0)), .int (iI (hi))] (MS2 σ (p : Int) ((tE (σ 49) (σ 41 10).toNat p : Nat) : Int) v 0 ρ) (pV (MS2 σ (((skp (σ 49) (σ 41 10).toNat 120 (tE (σ 49) (σ 41 10).toNat p)) : Nat) : Int) ((tE (σ 49) (σ 41 10).toNat (skp (σ 49) (σ 41 10).toNat 120 (tE (σ 49) (σ 41 10).toNat p)) : Nat) : Int) (nuM (σ 49) p (tE (σ 49) (σ 41 10).toNat p - p)) 0 ρ)) := by
  have hte := tE_le (B := σ 49) (L := (σ 41 10).toNat) (p := p) (by omega)
  refine mt_of (own := RX5) (by decide) rfl (Nat.le_of_ble_eq_true rfl) (fun E C => ?_)
  show J g E (pV (MS2 σ (((skp (σ 49) (σ 41 10).toNat 120 (tE (σ 49) (σ 41 10).toNat p)) : Nat) : Int) ((tE (σ 49) (σ 41 10).toNat (skp (σ 49) (σ 41 10).toNat 120 (tE (σ 49) (σ 41 10).toNat p)) : Nat) : Int) (nuM (σ 49) p (tE (σ 49) (σ 41 10).toNat p - p)) 0 ρ)) 6 0 [(0, .ref (gA g 41)), (1, .int (iI (0))), (2, .int (iI (hi)))] [] (MS2 σ (p : Int) ((tE (σ 49) (σ 41 10).toNat p : Nat) : Int) v 0 ρ)
  refine r_aload_n (pc := 0) C dX5_number_0 rfl 0 rfl ?_
  refine r_getI5 (pc := 1) C 14 rfl O_41 (by decide) rfl t_794 dX5_number_1 ?_
  refine r_top (show _ = 0 from rfl) ?_
  refine r_if_eq (pc := 4) C 8 ⟨by omega, by omega⟩ dX5_number_4 (by decide) (fun h4 => ?_) (fun h4 => ?_)
  · skip
    refine r_aload_n (pc := 8) C dX5_number_8 rfl 0 rfl ?_
    refine r_aload_n (pc := 9) C dX5_number_9 rfl 0 rfl ?_
    refine r_getI5 (pc := 10) C 11 rfl O_41 (by decide) rfl t_791 dX5_number_10 ?_
    refine r_top (show _ = (p : Int) from rfl) ?_
    refine r_cVi (pc := 13) C (c_byteAt g p (by omega) (MS2 σ (p : Int) ((tE (σ 49) (σ 41 10).toNat p : Nat) : Int) v 0 ρ) hl hB) yX5_byteAt_w O_41 rfl rfl t_1179 ⟨by decide, by decide⟩ (Nat.le_of_ble_eq_true rfl) rfl dX5_number_13 ?_
    refine r_top (show _ = btA (σ 49) (σ 41 10).toNat p from rfl) ?_
    have hbt13 := btA_rng (B := σ 49) (L := (σ 41 10).toNat) (p := p) (by omega) hB
    refine r_cSi (pc := 16) C (c_m_isDigit g (btA (σ 49) (σ 41 10).toNat p) ⟨by omega, by omega⟩ (MS2 σ (p : Int) ((tE (σ 49) (σ 41 10).toNat p : Nat) : Int) v 0 ρ)) yX5_isDigit_w rfl t_1188 ⟨by decide, by decide⟩ (Nat.le_of_ble_eq_true rfl) rfl dX5_number_16 ?_
    refine r_istore_n (pc := 19) C dX5_number_19 rfl (by decide) [1, 2, 3, 0] (lv' := [(0, .ref (gA g 41)), (1, .int (iI (0))), (2, .int (iI (hi))), (3, .int (iI (b01 (48 ≤ btA (σ 49) (σ 41 10).toNat p ∧ btA (σ 49) (σ 41 10).toNat p ≤ 57))))]) rfl ?_
    refine r_iconst (pc := 20) C dX5_number_20 ?_
    refine r_istore (pc := 21) C dX5_number_21 (by decide) [1, 2, 3, 4, 0] (lv' := [(0, .ref (gA g 41)), (1, .int (iI (0))), (2, .int (iI (hi))), (3, .int (iI (b01 (48 ≤ btA (σ 49) (σ 41 10).toNat p ∧ btA (σ 49) (σ 41 10).toNat p ≤ 57)))), (4, .int (iI (0)))]) rfl ?_
    refine r_aload_n (pc := 23) C dX5_number_23 rfl 0 rfl ?_
    refine r_getI5 (pc := 24) C 11 rfl O_41 (by decide) rfl t_791 dX5_number_24 ?_
    refine r_top (show _ = (p : Int) from rfl) ?_
    refine r_istore (pc := 27) C dX5_number_27 (by decide) [1, 2, 3, 4, 5, 0] (lv' := [(0, .ref (gA g 41)), (1, .int (iI (0))), (2, .int (iI (hi))), (3, .int (iI (b01 (48 ≤ btA (σ 49) (σ 41 10).toNat p ∧ btA (σ 49) (σ 41 10).toNat p ≤ 57)))), (4, .int (iI (0))), (5, .int (iI ((p : Int))))]) rfl ?_
    have L29 : ∀ (n_ : Nat) (i : Nat) (x29_4 x29_5 : Int), tE (σ 49) (σ 41 10).toNat p - p - i < n_ → (p + i ≤ tE (σ 49) (σ 41 10).toNat p) → x29_4 = nuM (σ 49) p i → x29_5 = ((p + i : Nat) : Int) → J g E (pV (MS2 σ (((skp (σ 49) (σ 41 10).toNat 120 (tE (σ 49) (σ 41 10).toNat p)) : Nat) : Int) ((tE (σ 49) (σ 41 10).toNat (skp (σ 49) (σ 41 10).toNat 120 (tE (σ 49) (σ 41 10).toNat p)) : Nat) : Int) (nuM (σ 49) p (tE (σ 49) (σ 41 10).toNat p - p)) 0 ρ)) 6 29 [(0, .ref (gA g 41)), (1, .int (iI (0))), (2, .int (iI (hi))), (3, .int (iI (b01 (48 ≤ btA (σ 49) (σ 41 10).toNat p ∧ btA (σ 49) (σ 41 10).toNat p ≤ 57)))), (4, .int (iI (x29_4))), (5, .int (iI (x29_5)))] [] (MS2 σ (p : Int) ((tE (σ 49) (σ 41 10).toNat p : Nat) : Int) v 0 ρ) := by
      intro n_
      induction n_ with
      | zero => intro i x29_4 x29_5  hm_; exact absurd hm_ (Nat.not_lt_zero _)
      | succ n_ ih29 =>
        intro i x29_4 x29_5  hm29 hi29_0 e29_0 e29_1 
        subst e29_0 e29_1 
        have hnr := nuM_rng (B := σ 49) (s := p) i (fun j hj => tE_dg (L := (σ 41 10).toNat) (p := p) hd (by omega) (by omega))
        refine r_iload (pc := 29) C dX5_number_29 5 rfl ?_
        refine r_aload_n (pc := 31) C dX5_number_31 rfl 0 rfl ?_
        refine r_getI5 (pc := 32) C 12 rfl O_41 (by decide) rfl t_792 dX5_number_32 ?_
        refine r_top (show _ = ((tE (σ 49) (σ 41 10).toNat p : Nat) : Int) from rfl) ?_
        refine r_icmp_ge (pc := 35) C 79 ⟨by omega, by omega⟩ ⟨by omega, by omega⟩ dX5_number_35 (by decide) (fun h35 => ?_) (fun h35 => ?_)
        · skip
          have hi_ : i = tE (σ 49) (σ 41 10).toNat p - p := by omega
          rw [hi_] at hnr ⊢
          skip
          refine r_aload_n (pc := 79) C dX5_number_79 rfl 0 rfl ?_
          refine r_iload (pc := 80) C dX5_number_80 4 rfl ?_
          refine r_put5 (pc := 82) C 13 rfl O_41 (by decide) rfl t_793 rfl (by decide +kernel) dX5_number_82 ?_
          refine r_sg (MS_13 _ _ _ _ _ _ _) ?_
          refine r_aload_n (pc := 85) C dX5_number_85 rfl 0 rfl ?_
          refine r_iload_n (pc := 86) C dX5_number_86 rfl 3 rfl ?_
          refine r_ifz_eq (pc := 87) C 107 dX5_number_87 (by decide) (fun h87 => ?_) (fun h87 => ?_)
          · skip
            omega
          · skip
            refine r_iload (pc := 90) C dX5_number_90 4 rfl ?_
            refine r_i2l (pc := 92) C ⟨by omega, by omega⟩ dX5_number_92 ?_
            refine r_iload_n (pc := 93) C dX5_number_93 rfl 1 rfl ?_
            refine r_i2l (pc := 94) C ⟨by omega, by omega⟩ dX5_number_94 ?_
            refine r_iload_n (pc := 95) C dX5_number_95 rfl 2 rfl ?_
            refine r_i2l (pc := 96) C ⟨by omega, by omega⟩ dX5_number_96 ?_
            refine r_cSi (pc := 97) C (c_in g (nuM (σ 49) p (tE (σ 49) (σ 41 10).toNat p - p)) 0 hi ⟨by omega, by omega⟩ ⟨by omega, by omega⟩ ⟨by omega, by omega⟩ (MS2 σ (p : Int) ((tE (σ 49) (σ 41 10).toNat p : Nat) : Int) (nuM (σ 49) p (tE (σ 49) (σ 41 10).toNat p - p)) 0 ρ)) yX5_in_w rfl t_846 ⟨by decide, by decide⟩ (Nat.le_of_ble_eq_true rfl) rfl dX5_number_97 ?_
            refine r_ifz_eq (pc := 100) C 107 dX5_number_100 (by decide) (fun h100 => ?_) (fun h100 => ?_)
            · skip
              omega
            · skip
              refine r_iconst (pc := 103) C dX5_number_103 ?_
              refine r_goto (pc := 104) C 108 dX5_number_104 (by decide) ?_
              refine r_cVv (pc := 108) C (c_must_y g (tE (σ 49) (σ 41 10).toNat p) (p : Int) (nuM (σ 49) p (tE (σ 49) (σ 41 10).toNat p - p)) ρ σ hl hB (by omega)) yX5_must_w O_41 rfl rfl t_1218 ⟨by decide, by decide⟩ (Nat.le_of_ble_eq_true rfl) rfl dX5_number_108 ?_
              exact r_retv (pc := 111) C (rfl) dX5_number_111
        · skip
          refine r_iload_n (pc := 38) C dX5_number_38 rfl 3 rfl ?_
          refine r_ifz_eq (pc := 39) C 79 dX5_number_39 (by decide) (fun h39 => ?_) (fun h39 => ?_)
          · skip
            omega
          · skip
            refine r_iload (pc := 42) C dX5_number_42 4 rfl ?_
            refine r_sipush (pc := 44) C dX5_number_44 (by decide) ?_
            refine r_icmp_le (pc := 47) C 55 ⟨by omega, by omega⟩ ⟨by omega, by omega⟩ dX5_number_47 (by decide) (fun h47 => ?_) (fun h47 => ?_)
            · skip
              refine r_bipush (pc := 55) C dX5_number_55 (by decide) ?_
              refine r_iload (pc := 57) C dX5_number_57 4 rfl ?_
              refine r_imul (pc := 59) C dX5_number_59 ?_
              refine r_aload_n (pc := 60) C dX5_number_60 rfl 0 rfl ?_
              refine r_getR5 (pc := 61) C 9 (k' := 49) rfl O_41 (by decide) rfl t_789 dX5_number_61 ?_
              refine r_iload (pc := 64) C dX5_number_64 5 rfl ?_
              have hdi := tE_dg (B := σ 49) (L := (σ 41 10).toNat) (p := p) (j := p + i) hd (by omega) (by omega)
              refine r_iald (pc := 66) C (p + i) A_49 (by omega) (by omega) dX5_number_66 ?_
              refine r_top (show _ = σ 49 (p + i) from rfl) ?_
              refine r_iadd (pc := 67) C dX5_number_67 ?_
              refine r_bipush (pc := 68) C dX5_number_68 (by decide) ?_
              refine r_isub (pc := 70) C dX5_number_70 ?_
              refine r_istore (pc := 71) C dX5_number_71 (by decide) [1, 2, 3, 4, 0, 5] (lv' := [(0, .ref (gA g 41)), (1, .int (iI (0))), (2, .int (iI (hi))), (3, .int (iI (b01 (48 ≤ btA (σ 49) (σ 41 10).toNat p ∧ btA (σ 49) (σ 41 10).toNat p ≤ 57)))), (4, .int (iI (((10 * (nuM (σ 49) p i)) + (σ 49 (p + i))) - 48))), (5, .int (iI (((p + i : Nat) : Int))))]) rfl ?_
              refine r_iinc (pc := 73) C dX5_number_73 5 rfl (by decide) [1, 2, 3, 4, 5, 0] (lv' := [(0, .ref (gA g 41)), (1, .int (iI (0))), (2, .int (iI (hi))), (3, .int (iI (b01 (48 ≤ btA (σ 49) (σ 41 10).toNat p ∧ btA (σ 49) (σ 41 10).toNat p ≤ 57)))), (4, .int (iI (((10 * (nuM (σ 49) p i)) + (σ 49 (p + i))) - 48))), (5, .int (iI (((p + i : Nat) : Int) + 1)))]) rfl ?_
              refine r_goto (pc := 76) C 29 dX5_number_76 (by decide) ?_
              exact ih29 (i + 1) _ _ (by omega) (by omega) (by first | rw [nuM, if_pos (by omega)] | rw [nuM, if_neg (by omega)]) (by omega)
            · skip
              refine r_iload (pc := 50) C dX5_number_50 4 rfl ?_
              refine r_goto (pc := 52) C 71 dX5_number_52 (by decide) ?_
              refine r_istore (pc := 71) C dX5_number_71 (by decide) [1, 2, 3, 4, 0, 5] (lv' := [(0, .ref (gA g 41)), (1, .int (iI (0))), (2, .int (iI (hi))), (3, .int (iI (b01 (48 ≤ btA (σ 49) (σ 41 10).toNat p ∧ btA (σ 49) (σ 41 10).toNat p ≤ 57)))), (4, .int (iI (nuM (σ 49) p i))), (5, .int (iI (((p + i : Nat) : Int))))]) rfl ?_
              refine r_iinc (pc := 73) C dX5_number_73 5 rfl (by decide) [1, 2, 3, 4, 5, 0] (lv' := [(0, .ref (gA g 41)), (1, .int (iI (0))), (2, .int (iI (hi))), (3, .int (iI (b01 (48 ≤ btA (σ 49) (σ 41 10).toNat p ∧ btA (σ 49) (σ 41 10).toNat p ≤ 57)))), (4, .int (iI (nuM (σ 49) p i))), (5, .int (iI (((p + i : Nat) : Int) + 1)))]) rfl ?_
              refine r_goto (pc := 76) C 29 dX5_number_76 (by decide) ?_
              exact ih29 (i + 1) _ _ (by omega) (by omega) (by first | rw [nuM, if_pos (by omega)] | rw [nuM, if_neg (by omega)]) (by omega)
    exact L29 _ 0 _ _ (Nat.lt_succ_self _) (by omega) (rfl) (by omega)
  · skip
    omega
set_option maxHeartbeats 4000000 in
set_option maxRecDepth 100000 in
theorem c_number_n (g : Gt) (p : Nat) (hi : Int) (hhi : 0 ≤ hi ∧ hi ≤ 9999) (v : Int) (ρ σ : Sg) (hl : 0 ≤ σ 41 10 ∧ σ 41 10 ≤ 120) (hB : ∀ j, j < 120 → 0 ≤ σ 49 j ∧ σ 49 j ≤ 255) (hp : (p : Int) ≤ σ 41 10) (hd : (48 ≤ btA (σ 49) (σ 41 10).toNat p ∧ btA (σ 49) (σ 41 10).toNat p ≤ 57)) (hv : ¬ nuM (σ 49) p (tE (σ 49) (σ 41 10).toNat p - p) ≤ hi) : Mt g yX5_number cX5_number 6 none 4 [.ref (gA g 41), .int (iI (0)), .int (iI (hi))] (MS2 σ (p : Int) ((tE (σ 49) (σ 41 10).toNat p : Nat) : Int) v 0 ρ) (pV (MS2 σ (p : Int) ((tE (σ 49) (σ 41 10).toNat p : Nat) : Int) (nuM (σ 49) p (tE (σ 49) (σ 41 10).toNat p - p)) 1 ρ)) := by
  have hte := tE_le (B := σ 49) (L := (σ 41 10).toNat) (p := p) (by omega)
  refine mt_of (own := RX5) (by decide) rfl (Nat.le_of_ble_eq_true rfl) (fun E C => ?_)
  show J g E (pV (MS2 σ (p : Int) ((tE (σ 49) (σ 41 10).toNat p : Nat) : Int) (nuM (σ 49) p (tE (σ 49) (σ 41 10).toNat p - p)) 1 ρ)) 6 0 [(0, .ref (gA g 41)), (1, .int (iI (0))), (2, .int (iI (hi)))] [] (MS2 σ (p : Int) ((tE (σ 49) (σ 41 10).toNat p : Nat) : Int) v 0 ρ)
  refine r_aload_n (pc := 0) C dX5_number_0 rfl 0 rfl ?_
  refine r_getI5 (pc := 1) C 14 rfl O_41 (by decide) rfl t_794 dX5_number_1 ?_
  refine r_top (show _ = 0 from rfl) ?_
  refine r_if_eq (pc := 4) C 8 ⟨by omega, by omega⟩ dX5_number_4 (by decide) (fun h4 => ?_) (fun h4 => ?_)
  · skip
    refine r_aload_n (pc := 8) C dX5_number_8 rfl 0 rfl ?_
    refine r_aload_n (pc := 9) C dX5_number_9 rfl 0 rfl ?_
    refine r_getI5 (pc := 10) C 11 rfl O_41 (by decide) rfl t_791 dX5_number_10 ?_
    refine r_top (show _ = (p : Int) from rfl) ?_
    refine r_cVi (pc := 13) C (c_byteAt g p (by omega) (MS2 σ (p : Int) ((tE (σ 49) (σ 41 10).toNat p : Nat) : Int) v 0 ρ) hl hB) yX5_byteAt_w O_41 rfl rfl t_1179 ⟨by decide, by decide⟩ (Nat.le_of_ble_eq_true rfl) rfl dX5_number_13 ?_
    refine r_top (show _ = btA (σ 49) (σ 41 10).toNat p from rfl) ?_
    have hbt13 := btA_rng (B := σ 49) (L := (σ 41 10).toNat) (p := p) (by omega) hB
    refine r_cSi (pc := 16) C (c_m_isDigit g (btA (σ 49) (σ 41 10).toNat p) ⟨by omega, by omega⟩ (MS2 σ (p : Int) ((tE (σ 49) (σ 41 10).toNat p : Nat) : Int) v 0 ρ)) yX5_isDigit_w rfl t_1188 ⟨by decide, by decide⟩ (Nat.le_of_ble_eq_true rfl) rfl dX5_number_16 ?_
    refine r_istore_n (pc := 19) C dX5_number_19 rfl (by decide) [1, 2, 3, 0] (lv' := [(0, .ref (gA g 41)), (1, .int (iI (0))), (2, .int (iI (hi))), (3, .int (iI (b01 (48 ≤ btA (σ 49) (σ 41 10).toNat p ∧ btA (σ 49) (σ 41 10).toNat p ≤ 57))))]) rfl ?_
    refine r_iconst (pc := 20) C dX5_number_20 ?_
    refine r_istore (pc := 21) C dX5_number_21 (by decide) [1, 2, 3, 4, 0] (lv' := [(0, .ref (gA g 41)), (1, .int (iI (0))), (2, .int (iI (hi))), (3, .int (iI (b01 (48 ≤ btA (σ 49) (σ 41 10).toNat p ∧ btA (σ 49) (σ 41 10).toNat p ≤ 57)))), (4, .int (iI (0)))]) rfl ?_
    refine r_aload_n (pc := 23) C dX5_number_23 rfl 0 rfl ?_
    refine r_getI5 (pc := 24) C 11 rfl O_41 (by decide) rfl t_791 dX5_number_24 ?_
    refine r_top (show _ = (p : Int) from rfl) ?_
    refine r_istore (pc := 27) C dX5_number_27 (by decide) [1, 2, 3, 4, 5, 0] (lv' := [(0, .ref (gA g 41)), (1, .int (iI (0))), (2, .int (iI (hi))), (3, .int (iI (b01 (48 ≤ btA (σ 49) (σ 41 10).toNat p ∧ btA (σ 49) (σ 41 10).toNat p ≤ 57)))), (4, .int (iI (0))), (5, .int (iI ((p : Int))))]) rfl ?_
    have L29 : ∀ (n_ : Nat) (i : Nat) (x29_4 x29_5 : Int), tE (σ 49) (σ 41 10).toNat p - p - i < n_ → (p + i ≤ tE (σ 49) (σ 41 10).toNat p) → x29_4 = nuM (σ 49) p i → x29_5 = ((p + i : Nat) : Int) → J g E (pV (MS2 σ (p : Int) ((tE (σ 49) (σ 41 10).toNat p : Nat) : Int) (nuM (σ 49) p (tE (σ 49) (σ 41 10).toNat p - p)) 1 ρ)) 6 29 [(0, .ref (gA g 41)), (1, .int (iI (0))), (2, .int (iI (hi))), (3, .int (iI (b01 (48 ≤ btA (σ 49) (σ 41 10).toNat p ∧ btA (σ 49) (σ 41 10).toNat p ≤ 57)))), (4, .int (iI (x29_4))), (5, .int (iI (x29_5)))] [] (MS2 σ (p : Int) ((tE (σ 49) (σ 41 10).toNat p : Nat) : Int) v 0 ρ) := by
      intro n_
      induction n_ with
      | zero => intro i x29_4 x29_5  hm_; exact absurd hm_ (Nat.not_lt_zero _)
      | succ n_ ih29 =>
        intro i x29_4 x29_5  hm29 hi29_0 e29_0 e29_1 
        subst e29_0 e29_1 
        have hnr := nuM_rng (B := σ 49) (s := p) i (fun j hj => tE_dg (L := (σ 41 10).toNat) (p := p) hd (by omega) (by omega))
        refine r_iload (pc := 29) C dX5_number_29 5 rfl ?_
        refine r_aload_n (pc := 31) C dX5_number_31 rfl 0 rfl ?_
        refine r_getI5 (pc := 32) C 12 rfl O_41 (by decide) rfl t_792 dX5_number_32 ?_
        refine r_top (show _ = ((tE (σ 49) (σ 41 10).toNat p : Nat) : Int) from rfl) ?_
        refine r_icmp_ge (pc := 35) C 79 ⟨by omega, by omega⟩ ⟨by omega, by omega⟩ dX5_number_35 (by decide) (fun h35 => ?_) (fun h35 => ?_)
        · skip
          have hi_ : i = tE (σ 49) (σ 41 10).toNat p - p := by omega
          rw [hi_] at hnr ⊢
          skip
          refine r_aload_n (pc := 79) C dX5_number_79 rfl 0 rfl ?_
          refine r_iload (pc := 80) C dX5_number_80 4 rfl ?_
          refine r_put5 (pc := 82) C 13 rfl O_41 (by decide) rfl t_793 rfl (by decide +kernel) dX5_number_82 ?_
          refine r_sg (MS_13 _ _ _ _ _ _ _) ?_
          refine r_aload_n (pc := 85) C dX5_number_85 rfl 0 rfl ?_
          refine r_iload_n (pc := 86) C dX5_number_86 rfl 3 rfl ?_
          refine r_ifz_eq (pc := 87) C 107 dX5_number_87 (by decide) (fun h87 => ?_) (fun h87 => ?_)
          · skip
            omega
          · skip
            refine r_iload (pc := 90) C dX5_number_90 4 rfl ?_
            refine r_i2l (pc := 92) C ⟨by omega, by omega⟩ dX5_number_92 ?_
            refine r_iload_n (pc := 93) C dX5_number_93 rfl 1 rfl ?_
            refine r_i2l (pc := 94) C ⟨by omega, by omega⟩ dX5_number_94 ?_
            refine r_iload_n (pc := 95) C dX5_number_95 rfl 2 rfl ?_
            refine r_i2l (pc := 96) C ⟨by omega, by omega⟩ dX5_number_96 ?_
            refine r_cSi (pc := 97) C (c_in g (nuM (σ 49) p (tE (σ 49) (σ 41 10).toNat p - p)) 0 hi ⟨by omega, by omega⟩ ⟨by omega, by omega⟩ ⟨by omega, by omega⟩ (MS2 σ (p : Int) ((tE (σ 49) (σ 41 10).toNat p : Nat) : Int) (nuM (σ 49) p (tE (σ 49) (σ 41 10).toNat p - p)) 0 ρ)) yX5_in_w rfl t_846 ⟨by decide, by decide⟩ (Nat.le_of_ble_eq_true rfl) rfl dX5_number_97 ?_
            refine r_ifz_eq (pc := 100) C 107 dX5_number_100 (by decide) (fun h100 => ?_) (fun h100 => ?_)
            · skip
              refine r_iconst (pc := 107) C dX5_number_107 ?_
              refine r_cVv (pc := 108) C (c_must_n g (p : Int) ((tE (σ 49) (σ 41 10).toNat p : Nat) : Int) (nuM (σ 49) p (tE (σ 49) (σ 41 10).toNat p - p)) ρ σ hl hB) yX5_must_w O_41 rfl rfl t_1218 ⟨by decide, by decide⟩ (Nat.le_of_ble_eq_true rfl) rfl dX5_number_108 ?_
              exact r_retv (pc := 111) C (rfl) dX5_number_111
            · skip
              omega
        · skip
          refine r_iload_n (pc := 38) C dX5_number_38 rfl 3 rfl ?_
          refine r_ifz_eq (pc := 39) C 79 dX5_number_39 (by decide) (fun h39 => ?_) (fun h39 => ?_)
          · skip
            omega
          · skip
            refine r_iload (pc := 42) C dX5_number_42 4 rfl ?_
            refine r_sipush (pc := 44) C dX5_number_44 (by decide) ?_
            refine r_icmp_le (pc := 47) C 55 ⟨by omega, by omega⟩ ⟨by omega, by omega⟩ dX5_number_47 (by decide) (fun h47 => ?_) (fun h47 => ?_)
            · skip
              refine r_bipush (pc := 55) C dX5_number_55 (by decide) ?_
              refine r_iload (pc := 57) C dX5_number_57 4 rfl ?_
              refine r_imul (pc := 59) C dX5_number_59 ?_
              refine r_aload_n (pc := 60) C dX5_number_60 rfl 0 rfl ?_
              refine r_getR5 (pc := 61) C 9 (k' := 49) rfl O_41 (by decide) rfl t_789 dX5_number_61 ?_
              refine r_iload (pc := 64) C dX5_number_64 5 rfl ?_
              have hdi := tE_dg (B := σ 49) (L := (σ 41 10).toNat) (p := p) (j := p + i) hd (by omega) (by omega)
              refine r_iald (pc := 66) C (p + i) A_49 (by omega) (by omega) dX5_number_66 ?_
              refine r_top (show _ = σ 49 (p + i) from rfl) ?_
              refine r_iadd (pc := 67) C dX5_number_67 ?_
              refine r_bipush (pc := 68) C dX5_number_68 (by decide) ?_
              refine r_isub (pc := 70) C dX5_number_70 ?_
              refine r_istore (pc := 71) C dX5_number_71 (by decide) [1, 2, 3, 4, 0, 5] (lv' := [(0, .ref (gA g 41)), (1, .int (iI (0))), (2, .int (iI (hi))), (3, .int (iI (b01 (48 ≤ btA (σ 49) (σ 41 10).toNat p ∧ btA (σ 49) (σ 41 10).toNat p ≤ 57)))), (4, .int (iI (((10 * (nuM (σ 49) p i)) + (σ 49 (p + i))) - 48))), (5, .int (iI (((p + i : Nat) : Int))))]) rfl ?_
              refine r_iinc (pc := 73) C dX5_number_73 5 rfl (by decide) [1, 2, 3, 4, 5, 0] (lv' := [(0, .ref (gA g 41)), (1, .int (iI (0))), (2, .int (iI (hi))), (3, .int (iI (b01 (48 ≤ btA (σ 49) (σ 41 10).toNat p ∧ btA (σ 49) (σ 41 10).toNat p ≤ 57)))), (4, .int (iI (((10 * (nuM (σ 49) p i)) + (σ 49 (p + i))) - 48))), (5, .int (iI (((p + i : Nat) : Int) + 1)))]) rfl ?_
              refine r_goto (pc := 76) C 29 dX5_number_76 (by decide) ?_
              exact ih29 (i + 1) _ _ (by omega) (by omega) (by first | rw [nuM, if_pos (by omega)] | rw [nuM, if_neg (by omega)]) (by omega)
            · skip
              refine r_iload (pc := 50) C dX5_number_50 4 rfl ?_
              refine r_goto (pc := 52) C 71 dX5_number_52 (by decide) ?_
              refine r_istore (pc := 71) C dX5_number_71 (by decide) [1, 2, 3, 4, 0, 5] (lv' := [(0, .ref (gA g 41)), (1, .int (iI (0))), (2, .int (iI (hi))), (3, .int (iI (b01 (48 ≤ btA (σ 49) (σ 41 10).toNat p ∧ btA (σ 49) (σ 41 10).toNat p ≤ 57)))), (4, .int (iI (nuM (σ 49) p i))), (5, .int (iI (((p + i : Nat) : Int))))]) rfl ?_
              refine r_iinc (pc := 73) C dX5_number_73 5 rfl (by decide) [1, 2, 3, 4, 5, 0] (lv' := [(0, .ref (gA g 41)), (1, .int (iI (0))), (2, .int (iI (hi))), (3, .int (iI (b01 (48 ≤ btA (σ 49) (σ 41 10).toNat p ∧ btA (σ 49) (σ 41 10).toNat p ≤ 57)))), (4, .int (iI (nuM (σ 49) p i))), (5, .int (iI (((p + i : Nat) : Int) + 1)))]) rfl ?_
              refine r_goto (pc := 76) C 29 dX5_number_76 (by decide) ?_
              exact ih29 (i + 1) _ _ (by omega) (by omega) (by first | rw [nuM, if_pos (by omega)] | rw [nuM, if_neg (by omega)]) (by omega)
    exact L29 _ 0 _ _ (Nat.lt_succ_self _) (by omega) (rfl) (by omega)
  · skip
    omega
set_option maxHeartbeats 4000000 in
set_option maxRecDepth 100000 in
theorem c_number_f (g : Gt) (p : Nat) (hi : Int) (hhi : 0 ≤ hi ∧ hi ≤ 9999) (v : Int) (ρ σ : Sg) (hl : 0 ≤ σ 41 10 ∧ σ 41 10 ≤ 120) (hB : ∀ j, j < 120 → 0 ≤ σ 49 j ∧ σ 49 j ≤ 255) (hp : (p : Int) ≤ σ 41 10) (hd : ¬ (48 ≤ btA (σ 49) (σ 41 10).toNat p ∧ btA (σ 49) (σ 41 10).toNat p ≤ 57)) : Mt g yX5_number cX5_number 6 none 4 [.ref (gA g 41), .int (iI (0)), .int (iI (hi))] (MS2 σ (p : Int) ((tE (σ 49) (σ 41 10).toNat p : Nat) : Int) v 0 ρ) (pV (MS2 σ (p : Int) ((tE (σ 49) (σ 41 10).toNat p : Nat) : Int) 0 1 ρ)) := by
  have hte := tE_le (B := σ 49) (L := (σ 41 10).toNat) (p := p) (by omega)
  refine mt_of (own := RX5) (by decide) rfl (Nat.le_of_ble_eq_true rfl) (fun E C => ?_)
  show J g E (pV (MS2 σ (p : Int) ((tE (σ 49) (σ 41 10).toNat p : Nat) : Int) 0 1 ρ)) 6 0 [(0, .ref (gA g 41)), (1, .int (iI (0))), (2, .int (iI (hi)))] [] (MS2 σ (p : Int) ((tE (σ 49) (σ 41 10).toNat p : Nat) : Int) v 0 ρ)
  refine r_aload_n (pc := 0) C dX5_number_0 rfl 0 rfl ?_
  refine r_getI5 (pc := 1) C 14 rfl O_41 (by decide) rfl t_794 dX5_number_1 ?_
  refine r_top (show _ = 0 from rfl) ?_
  refine r_if_eq (pc := 4) C 8 ⟨by omega, by omega⟩ dX5_number_4 (by decide) (fun h4 => ?_) (fun h4 => ?_)
  · skip
    refine r_aload_n (pc := 8) C dX5_number_8 rfl 0 rfl ?_
    refine r_aload_n (pc := 9) C dX5_number_9 rfl 0 rfl ?_
    refine r_getI5 (pc := 10) C 11 rfl O_41 (by decide) rfl t_791 dX5_number_10 ?_
    refine r_top (show _ = (p : Int) from rfl) ?_
    refine r_cVi (pc := 13) C (c_byteAt g p (by omega) (MS2 σ (p : Int) ((tE (σ 49) (σ 41 10).toNat p : Nat) : Int) v 0 ρ) hl hB) yX5_byteAt_w O_41 rfl rfl t_1179 ⟨by decide, by decide⟩ (Nat.le_of_ble_eq_true rfl) rfl dX5_number_13 ?_
    refine r_top (show _ = btA (σ 49) (σ 41 10).toNat p from rfl) ?_
    have hbt13 := btA_rng (B := σ 49) (L := (σ 41 10).toNat) (p := p) (by omega) hB
    refine r_cSi (pc := 16) C (c_m_isDigit g (btA (σ 49) (σ 41 10).toNat p) ⟨by omega, by omega⟩ (MS2 σ (p : Int) ((tE (σ 49) (σ 41 10).toNat p : Nat) : Int) v 0 ρ)) yX5_isDigit_w rfl t_1188 ⟨by decide, by decide⟩ (Nat.le_of_ble_eq_true rfl) rfl dX5_number_16 ?_
    refine r_istore_n (pc := 19) C dX5_number_19 rfl (by decide) [1, 2, 3, 0] (lv' := [(0, .ref (gA g 41)), (1, .int (iI (0))), (2, .int (iI (hi))), (3, .int (iI (b01 (48 ≤ btA (σ 49) (σ 41 10).toNat p ∧ btA (σ 49) (σ 41 10).toNat p ≤ 57))))]) rfl ?_
    refine r_iconst (pc := 20) C dX5_number_20 ?_
    refine r_istore (pc := 21) C dX5_number_21 (by decide) [1, 2, 3, 4, 0] (lv' := [(0, .ref (gA g 41)), (1, .int (iI (0))), (2, .int (iI (hi))), (3, .int (iI (b01 (48 ≤ btA (σ 49) (σ 41 10).toNat p ∧ btA (σ 49) (σ 41 10).toNat p ≤ 57)))), (4, .int (iI (0)))]) rfl ?_
    refine r_aload_n (pc := 23) C dX5_number_23 rfl 0 rfl ?_
    refine r_getI5 (pc := 24) C 11 rfl O_41 (by decide) rfl t_791 dX5_number_24 ?_
    refine r_top (show _ = (p : Int) from rfl) ?_
    refine r_istore (pc := 27) C dX5_number_27 (by decide) [1, 2, 3, 4, 5, 0] (lv' := [(0, .ref (gA g 41)), (1, .int (iI (0))), (2, .int (iI (hi))), (3, .int (iI (b01 (48 ≤ btA (σ 49) (σ 41 10).toNat p ∧ btA (σ 49) (σ 41 10).toNat p ≤ 57)))), (4, .int (iI (0))), (5, .int (iI ((p : Int))))]) rfl ?_
    refine r_iload (pc := 29) C dX5_number_29 5 rfl ?_
    refine r_aload_n (pc := 31) C dX5_number_31 rfl 0 rfl ?_
    refine r_getI5 (pc := 32) C 12 rfl O_41 (by decide) rfl t_792 dX5_number_32 ?_
    refine r_top (show _ = ((tE (σ 49) (σ 41 10).toNat p : Nat) : Int) from rfl) ?_
    refine r_icmp_ge (pc := 35) C 79 ⟨by omega, by omega⟩ ⟨by omega, by omega⟩ dX5_number_35 (by decide) (fun h35 => ?_) (fun h35 => ?_)
    · skip
      refine r_aload_n (pc := 79) C dX5_number_79 rfl 0 rfl ?_
      refine r_iload (pc := 80) C dX5_number_80 4 rfl ?_
      refine r_put5 (pc := 82) C 13 rfl O_41 (by decide) rfl t_793 rfl (by decide +kernel) dX5_number_82 ?_
      refine r_sg (MS_13 _ _ _ _ _ _ _) ?_
      refine r_aload_n (pc := 85) C dX5_number_85 rfl 0 rfl ?_
      refine r_iload_n (pc := 86) C dX5_number_86 rfl 3 rfl ?_
      refine r_ifz_eq (pc := 87) C 107 dX5_number_87 (by decide) (fun h87 => ?_) (fun h87 => ?_)
      · skip
        refine r_iconst (pc := 107) C dX5_number_107 ?_
        refine r_cVv (pc := 108) C (c_must_n g (p : Int) ((tE (σ 49) (σ 41 10).toNat p : Nat) : Int) 0 ρ σ hl hB) yX5_must_w O_41 rfl rfl t_1218 ⟨by decide, by decide⟩ (Nat.le_of_ble_eq_true rfl) rfl dX5_number_108 ?_
        exact r_retv (pc := 111) C (rfl) dX5_number_111
      · skip
        omega
    · skip
      refine r_iload_n (pc := 38) C dX5_number_38 rfl 3 rfl ?_
      refine r_ifz_eq (pc := 39) C 79 dX5_number_39 (by decide) (fun h39 => ?_) (fun h39 => ?_)
      · skip
        refine r_aload_n (pc := 79) C dX5_number_79 rfl 0 rfl ?_
        refine r_iload (pc := 80) C dX5_number_80 4 rfl ?_
        refine r_put5 (pc := 82) C 13 rfl O_41 (by decide) rfl t_793 rfl (by decide +kernel) dX5_number_82 ?_
        refine r_sg (MS_13 _ _ _ _ _ _ _) ?_
        refine r_aload_n (pc := 85) C dX5_number_85 rfl 0 rfl ?_
        refine r_iload_n (pc := 86) C dX5_number_86 rfl 3 rfl ?_
        refine r_ifz_eq (pc := 87) C 107 dX5_number_87 (by decide) (fun h87 => ?_) (fun h87 => ?_)
        · skip
          refine r_iconst (pc := 107) C dX5_number_107 ?_
          refine r_cVv (pc := 108) C (c_must_n g (p : Int) ((tE (σ 49) (σ 41 10).toNat p : Nat) : Int) 0 ρ σ hl hB) yX5_must_w O_41 rfl rfl t_1218 ⟨by decide, by decide⟩ (Nat.le_of_ble_eq_true rfl) rfl dX5_number_108 ?_
          exact r_retv (pc := 111) C (rfl) dX5_number_111
        · skip
          omega
      · skip
        omega
  · skip
    omega
set_option maxHeartbeats 4000000 in
set_option maxRecDepth 100000 in
theorem c_number_w (g : Gt) (hi p e v : Int) (ρ σ : Sg) (hl : 0 ≤ σ 41 10 ∧ σ 41 10 ≤ 120) (hB : ∀ j, j < 120 → 0 ≤ σ 49 j ∧ σ 49 j ≤ 255) : Mt g yX5_number cX5_number 6 none 4 [.ref (gA g 41), .int (iI (0)), .int (iI (hi))] (MS2 σ p e v 1 ρ) (pV (MS2 σ p e v 1 ρ)) := by
  refine mt_of (own := RX5) (by decide) rfl (Nat.le_of_ble_eq_true rfl) (fun E C => ?_)
  show J g E (pV (MS2 σ p e v 1 ρ)) 6 0 [(0, .ref (gA g 41)), (1, .int (iI (0))), (2, .int (iI (hi)))] [] (MS2 σ p e v 1 ρ)
  refine r_aload_n (pc := 0) C dX5_number_0 rfl 0 rfl ?_
  refine r_getI5 (pc := 1) C 14 rfl O_41 (by decide) rfl t_794 dX5_number_1 ?_
  refine r_top (show _ = 1 from rfl) ?_
  refine r_if_eq (pc := 4) C 8 ⟨by omega, by omega⟩ dX5_number_4 (by decide) (fun h4 => ?_) (fun h4 => ?_)
  · skip
    omega
  · skip
    exact r_retv (pc := 7) C (rfl) dX5_number_7
set_option maxHeartbeats 4000000 in
set_option maxRecDepth 100000 in
theorem c_word (g : Gt) (p : Nat) (v w : Int) (hw : w = 0 ∨ w = 1) (ρ σ : Sg) (hl : 0 ≤ σ 41 10 ∧ σ 41 10 ≤ 120) (hB : ∀ j, j < 120 → 0 ≤ σ 49 j ∧ σ 49 j ≤ 255) (hp : (p : Int) ≤ σ 41 10) : Mt g yX5_word cX5_word 4 (some FieldType.long) 2 [.ref (gA g 41)] (MS2 σ (p : Int) ((tE (σ 49) (σ 41 10).toNat p : Nat) : Int) v w ρ) (pL (wdM (σ 49) (σ 41 10).toNat p w) (MS2 σ (p : Int) ((tE (σ 49) (σ 41 10).toNat p : Nat) : Int) v w ρ)) := by
  have hte := tE_le (B := σ 49) (L := (σ 41 10).toNat) (p := p) (by omega)
  refine mt_of (own := RX5) (by decide) rfl (Nat.le_of_ble_eq_true rfl) (fun E C => ?_)
  show J g E (pL (wdM (σ 49) (σ 41 10).toNat p w) (MS2 σ (p : Int) ((tE (σ 49) (σ 41 10).toNat p : Nat) : Int) v w ρ)) 4 0 [(0, .ref (gA g 41))] [] (MS2 σ (p : Int) ((tE (σ 49) (σ 41 10).toNat p : Nat) : Int) v w ρ)
  refine r_lconst (pc := 0) C (n := 0) dX5_word_0 (by decide) ?_
  refine r_lstore_n (pc := 1) C dX5_word_1 rfl (by decide) [1, 0] (lv' := [(0, .ref (gA g 41)), (1, .long (iL (0)))]) rfl ?_
  refine r_aload_n (pc := 2) C dX5_word_2 rfl 0 rfl ?_
  refine r_getI5 (pc := 3) C 11 rfl O_41 (by decide) rfl t_791 dX5_word_3 ?_
  refine r_top (show _ = (p : Int) from rfl) ?_
  refine r_istore_n (pc := 6) C dX5_word_6 rfl (by decide) [1, 2, 0] (lv' := [(0, .ref (gA g 41)), (1, .long (iL (0))), (3, .int (iI ((p : Int))))]) rfl ?_
  have L7 : ∀ (n_ : Nat) (i : Nat) (x7_1 x7_3 : Int), tE (σ 49) (σ 41 10).toNat p - p - i < n_ → (p + i ≤ tE (σ 49) (σ 41 10).toNat p) → x7_1 = wM (σ 49) p i → x7_3 = ((p + i : Nat) : Int) → J g E (pL (wdM (σ 49) (σ 41 10).toNat p w) (MS2 σ (p : Int) ((tE (σ 49) (σ 41 10).toNat p : Nat) : Int) v w ρ)) 4 7 [(0, .ref (gA g 41)), (1, .long (iL (x7_1))), (3, .int (iI (x7_3)))] [] (MS2 σ (p : Int) ((tE (σ 49) (σ 41 10).toNat p : Nat) : Int) v w ρ) := by
    intro n_
    induction n_ with
    | zero => intro i x7_1 x7_3  hm_; exact absurd hm_ (Nat.not_lt_zero _)
    | succ n_ ih7 =>
      intro i x7_1 x7_3  hm7 hi7_0 e7_0 e7_1 
      subst e7_0 e7_1 
      have hwr := wM_rng (σ 49) p i
      refine r_iload_n (pc := 7) C dX5_word_7 rfl 2 rfl ?_
      refine r_aload_n (pc := 8) C dX5_word_8 rfl 0 rfl ?_
      refine r_getI5 (pc := 9) C 12 rfl O_41 (by decide) rfl t_792 dX5_word_9 ?_
      refine r_top (show _ = ((tE (σ 49) (σ 41 10).toNat p : Nat) : Int) from rfl) ?_
      refine r_icmp_ge (pc := 12) C 50 ⟨by omega, by omega⟩ ⟨by omega, by omega⟩ dX5_word_12 (by decide) (fun h12 => ?_) (fun h12 => ?_)
      · skip
        refine r_aload_n (pc := 50) C dX5_word_50 rfl 0 rfl ?_
        refine r_getI5 (pc := 51) C 14 rfl O_41 (by decide) rfl t_794 dX5_word_51 ?_
        refine r_top (show _ = w from rfl) ?_
        refine r_if_ne (pc := 54) C 71 ⟨by omega, by omega⟩ dX5_word_54 (by decide) (fun h54 => ?_) (fun h54 => ?_)
        · skip
          refine r_lconst (pc := 71) C (n := 0) dX5_word_71 (by decide) ?_
          refine r_goto (pc := 72) C 76 dX5_word_72 (by decide) ?_
          exact r_retl (pc := 76) C (by unfold wdM; first | (rw [if_pos (by omega)]; done) | (rw [if_neg (by omega), show tE (σ 49) (σ 41 10).toNat p - p = i by omega]; done)) (rfl) dX5_word_76
        · skip
          refine r_aload_n (pc := 57) C dX5_word_57 rfl 0 rfl ?_
          refine r_aload_n (pc := 58) C dX5_word_58 rfl 0 rfl ?_
          refine r_getI5 (pc := 59) C 11 rfl O_41 (by decide) rfl t_791 dX5_word_59 ?_
          refine r_top (show _ = (p : Int) from rfl) ?_
          refine r_cVi (pc := 62) C (c_byteAt g p (by omega) (MS2 σ (p : Int) ((tE (σ 49) (σ 41 10).toNat p : Nat) : Int) v w ρ) hl hB) yX5_byteAt_w O_41 rfl rfl t_1179 ⟨by decide, by decide⟩ (Nat.le_of_ble_eq_true rfl) rfl dX5_word_62 ?_
          refine r_top (show _ = btA (σ 49) (σ 41 10).toNat p from rfl) ?_
          have hbt62 := btA_rng (B := σ 49) (L := (σ 41 10).toNat) (p := p) (by omega) hB
          refine r_cSi (pc := 65) C (c_m_isLetter g (btA (σ 49) (σ 41 10).toNat p) ⟨by omega, by omega⟩ (MS2 σ (p : Int) ((tE (σ 49) (σ 41 10).toNat p : Nat) : Int) v w ρ)) yX5_isLetter_w rfl t_1183 ⟨by decide, by decide⟩ (Nat.le_of_ble_eq_true rfl) rfl dX5_word_65 ?_
          refine r_ifz_ne (pc := 68) C 75 dX5_word_68 (by decide) (fun h68 => ?_) (fun h68 => ?_)
          · skip
            refine r_lload_n (pc := 75) C dX5_word_75 rfl 1 rfl ?_
            exact r_retl (pc := 76) C (by unfold wdM; first | (rw [if_pos (by omega)]; done) | (rw [if_neg (by omega), show tE (σ 49) (σ 41 10).toNat p - p = i by omega]; done)) (rfl) dX5_word_76
          · skip
            refine r_lconst (pc := 71) C (n := 0) dX5_word_71 (by decide) ?_
            refine r_goto (pc := 72) C 76 dX5_word_72 (by decide) ?_
            exact r_retl (pc := 76) C (by unfold wdM; first | (rw [if_pos (by omega)]; done) | (rw [if_neg (by omega), show tE (σ 49) (σ 41 10).toNat p - p = i by omega]; done)) (rfl) dX5_word_76
      · skip
        refine r_lload_n (pc := 15) C dX5_word_15 rfl 1 rfl ?_
        refine r_ldc2 (pc := 16) C 36028797018963967 t_1205 (by decide) dX5_word_16 ?_
        refine r_lcb_le (pc := 19) C 27 ⟨by omega, by omega⟩ ⟨by omega, by omega⟩ dX5_word_19 dX5_word_20 (by decide) (fun h19 => ?_) (fun h19 => ?_)
        · skip
          refine r_ldc2 (pc := 27) C 32 t_1206 (by decide) dX5_word_27 ?_
          refine r_lload_n (pc := 30) C dX5_word_30 rfl 1 rfl ?_
          refine r_lmul (pc := 31) C dX5_word_31 ?_
          refine r_aload_n (pc := 32) C dX5_word_32 rfl 0 rfl ?_
          refine r_getR5 (pc := 33) C 9 (k' := 49) rfl O_41 (by decide) rfl t_789 dX5_word_33 ?_
          refine r_iload_n (pc := 36) C dX5_word_36 rfl 2 rfl ?_
          have hbi := hB (p + i) (by omega)
          refine r_iald (pc := 37) C (p + i) A_49 (by omega) (by omega) dX5_word_37 ?_
          refine r_top (show _ = σ 49 (p + i) from rfl) ?_
          refine r_bipush (pc := 38) C dX5_word_38 (by decide) ?_
          refine r_isub (pc := 40) C dX5_word_40 ?_
          refine r_i2l (pc := 41) C ⟨by omega, by omega⟩ dX5_word_41 ?_
          refine r_ladd (pc := 42) C dX5_word_42 ?_
          refine r_topL (show _ = iL (wM (σ 49) p (i + 1)) by rw [wM, wMs, if_neg (by omega)]; exact (iL_of _).symm) ?_
          skip
          refine r_lstore_n (pc := 43) C dX5_word_43 rfl (by decide) [1, 0, 2] (lv' := [(0, .ref (gA g 41)), (1, .long (iL (wM (σ 49) p (i + 1)))), (3, .int (iI (((p + i : Nat) : Int))))]) rfl ?_
          refine r_iinc (pc := 44) C dX5_word_44 2 rfl (by decide) [1, 2, 0] (lv' := [(0, .ref (gA g 41)), (1, .long (iL (wM (σ 49) p (i + 1)))), (3, .int (iI (((p + i : Nat) : Int) + 1)))]) rfl ?_
          refine r_goto (pc := 47) C 7 dX5_word_47 (by decide) ?_
          exact ih7 (i + 1) _ _ (by omega) (by omega) (rfl) (by omega)
        · skip
          refine r_lload_n (pc := 23) C dX5_word_23 rfl 1 rfl ?_
          refine r_goto (pc := 24) C 43 dX5_word_24 (by decide) ?_
          refine r_topL (show _ = iL (wM (σ 49) p (i + 1)) by rw [wM, wMs, if_pos (by omega)]) ?_
          skip
          refine r_lstore_n (pc := 43) C dX5_word_43 rfl (by decide) [1, 0, 2] (lv' := [(0, .ref (gA g 41)), (1, .long (iL (wM (σ 49) p (i + 1)))), (3, .int (iI (((p + i : Nat) : Int))))]) rfl ?_
          refine r_iinc (pc := 44) C dX5_word_44 2 rfl (by decide) [1, 2, 0] (lv' := [(0, .ref (gA g 41)), (1, .long (iL (wM (σ 49) p (i + 1)))), (3, .int (iI (((p + i : Nat) : Int) + 1)))]) rfl ?_
          refine r_goto (pc := 47) C 7 dX5_word_47 (by decide) ?_
          exact ih7 (i + 1) _ _ (by omega) (by omega) (rfl) (by omega)
  exact L7 _ 0 _ _ (Nat.lt_succ_self _) (by omega) (rfl) (by omega)
set_option maxHeartbeats 4000000 in
set_option maxRecDepth 100000 in
theorem c_kindHere (g : Gt) (p : Nat) (v w : Int) (hw : w = 0 ∨ w = 1) (ρ σ : Sg) (hl : 0 ≤ σ 41 10 ∧ σ 41 10 ≤ 120) (hB : ∀ j, j < 120 → 0 ≤ σ 49 j ∧ σ 49 j ≤ 255) (hp : (p : Int) ≤ σ 41 10) : Mt g yX5_kindHere cX5_kindHere 3 (some FieldType.int) 3 [.ref (gA g 41)] (MS2 σ (p : Int) ((tE (σ 49) (σ 41 10).toNat p : Nat) : Int) v w ρ) (pI (kdM (wdM (σ 49) (σ 41 10).toNat p w)) (MS2 σ (p : Int) ((tE (σ 49) (σ 41 10).toNat p : Nat) : Int) v w ρ)) := by
  refine mt_of (own := RX5) (by decide) rfl (Nat.le_of_ble_eq_true rfl) (fun E C => ?_)
  show J g E (pI (kdM (wdM (σ 49) (σ 41 10).toNat p w)) (MS2 σ (p : Int) ((tE (σ 49) (σ 41 10).toNat p : Nat) : Int) v w ρ)) 3 0 [(0, .ref (gA g 41))] [] (MS2 σ (p : Int) ((tE (σ 49) (σ 41 10).toNat p : Nat) : Int) v w ρ)
  refine r_aload_n (pc := 0) C dX5_kindHere_0 rfl 0 rfl ?_
  refine r_cVl (pc := 1) C (c_word g p v w (by omega) ρ σ hl hB (by omega)) yX5_word_w O_41 rfl rfl t_1201 ⟨by decide, by decide⟩ (Nat.le_of_ble_eq_true rfl) rfl dX5_kindHere_1 ?_
  have hwd1 := wdM_rng (σ 49) (σ 41 10).toNat p w
  refine r_lstore_n (pc := 4) C dX5_kindHere_4 rfl (by decide) [1, 0] (lv' := [(0, .ref (gA g 41)), (1, .long (iL (wdM (σ 49) (σ 41 10).toNat p w)))]) rfl ?_
  refine r_lload_n (pc := 5) C dX5_kindHere_5 rfl 1 rfl ?_
  refine r_ldc2 (pc := 6) C 676791764 t_1207 (by decide) dX5_kindHere_6 ?_
  refine r_lcb_ne (pc := 9) C 17 ⟨by omega, by omega⟩ ⟨by omega, by omega⟩ dX5_kindHere_9 dX5_kindHere_10 (by decide) (fun h9 => ?_) (fun h9 => ?_)
  · skip
    refine r_lload_n (pc := 17) C dX5_kindHere_17 rfl 1 rfl ?_
    refine r_ldc2 (pc := 18) C 409156 t_1208 (by decide) dX5_kindHere_18 ?_
    refine r_lcb_ne (pc := 21) C 29 ⟨by omega, by omega⟩ ⟨by omega, by omega⟩ dX5_kindHere_21 dX5_kindHere_22 (by decide) (fun h21 => ?_) (fun h21 => ?_)
    · skip
      refine r_lload_n (pc := 29) C dX5_kindHere_29 rfl 1 rfl ?_
      refine r_ldc2 (pc := 30) C 427300 t_1209 (by decide) dX5_kindHere_30 ?_
      refine r_lcb_ne (pc := 33) C 41 ⟨by omega, by omega⟩ ⟨by omega, by omega⟩ dX5_kindHere_33 dX5_kindHere_34 (by decide) (fun h33 => ?_) (fun h33 => ?_)
      · skip
        refine r_lload_n (pc := 41) C dX5_kindHere_41 rfl 1 rfl ?_
        refine r_ldc2 (pc := 42) C 24416759 t_1210 (by decide) dX5_kindHere_42 ?_
        refine r_lcb_ne (pc := 45) C 53 ⟨by omega, by omega⟩ ⟨by omega, by omega⟩ dX5_kindHere_45 dX5_kindHere_46 (by decide) (fun h45 => ?_) (fun h45 => ?_)
        · skip
          refine r_lload_n (pc := 53) C dX5_kindHere_53 rfl 1 rfl ?_
          refine r_ldc2 (pc := 54) C 77177328 t_1211 (by decide) dX5_kindHere_54 ?_
          refine r_lcb_ne (pc := 57) C 65 ⟨by omega, by omega⟩ ⟨by omega, by omega⟩ dX5_kindHere_57 dX5_kindHere_58 (by decide) (fun h57 => ?_) (fun h57 => ?_)
          · skip
            refine r_lload_n (pc := 65) C dX5_kindHere_65 rfl 1 rfl ?_
            refine r_ldc2 (pc := 66) C 3124 t_1212 (by decide) dX5_kindHere_66 ?_
            refine r_lcb_ne (pc := 69) C 77 ⟨by omega, by omega⟩ ⟨by omega, by omega⟩ dX5_kindHere_69 dX5_kindHere_70 (by decide) (fun h69 => ?_) (fun h69 => ?_)
            · skip
              refine r_lload_n (pc := 77) C dX5_kindHere_77 rfl 1 rfl ?_
              refine r_ldc2 (pc := 78) C 267570 t_1213 (by decide) dX5_kindHere_78 ?_
              refine r_lcb_ne (pc := 81) C 90 ⟨by omega, by omega⟩ ⟨by omega, by omega⟩ dX5_kindHere_81 dX5_kindHere_82 (by decide) (fun h81 => ?_) (fun h81 => ?_)
              · skip
                refine r_iconst (pc := 90) C dX5_kindHere_90 ?_
                exact r_reti (pc := 91) C (by unfold kdM; (try (first | rw [if_pos (by omega)] | rw [if_neg (by omega)])); (try (first | rw [if_pos (by omega)] | rw [if_neg (by omega)])); (try (first | rw [if_pos (by omega)] | rw [if_neg (by omega)])); (try (first | rw [if_pos (by omega)] | rw [if_neg (by omega)])); (try (first | rw [if_pos (by omega)] | rw [if_neg (by omega)])); (try (first | rw [if_pos (by omega)] | rw [if_neg (by omega)])); (try (first | rw [if_pos (by omega)] | rw [if_neg (by omega)]))) (rfl) dX5_kindHere_91
              · skip
                refine r_bipush (pc := 85) C dX5_kindHere_85 (by decide) ?_
                refine r_goto (pc := 87) C 91 dX5_kindHere_87 (by decide) ?_
                exact r_reti (pc := 91) C (by unfold kdM; (try (first | rw [if_pos (by omega)] | rw [if_neg (by omega)])); (try (first | rw [if_pos (by omega)] | rw [if_neg (by omega)])); (try (first | rw [if_pos (by omega)] | rw [if_neg (by omega)])); (try (first | rw [if_pos (by omega)] | rw [if_neg (by omega)])); (try (first | rw [if_pos (by omega)] | rw [if_neg (by omega)])); (try (first | rw [if_pos (by omega)] | rw [if_neg (by omega)])); (try (first | rw [if_pos (by omega)] | rw [if_neg (by omega)]))) (rfl) dX5_kindHere_91
            · skip
              refine r_iconst (pc := 73) C dX5_kindHere_73 ?_
              refine r_goto (pc := 74) C 91 dX5_kindHere_74 (by decide) ?_
              exact r_reti (pc := 91) C (by unfold kdM; (try (first | rw [if_pos (by omega)] | rw [if_neg (by omega)])); (try (first | rw [if_pos (by omega)] | rw [if_neg (by omega)])); (try (first | rw [if_pos (by omega)] | rw [if_neg (by omega)])); (try (first | rw [if_pos (by omega)] | rw [if_neg (by omega)])); (try (first | rw [if_pos (by omega)] | rw [if_neg (by omega)])); (try (first | rw [if_pos (by omega)] | rw [if_neg (by omega)])); (try (first | rw [if_pos (by omega)] | rw [if_neg (by omega)]))) (rfl) dX5_kindHere_91
          · skip
            refine r_iconst (pc := 61) C dX5_kindHere_61 ?_
            refine r_goto (pc := 62) C 91 dX5_kindHere_62 (by decide) ?_
            exact r_reti (pc := 91) C (by unfold kdM; (try (first | rw [if_pos (by omega)] | rw [if_neg (by omega)])); (try (first | rw [if_pos (by omega)] | rw [if_neg (by omega)])); (try (first | rw [if_pos (by omega)] | rw [if_neg (by omega)])); (try (first | rw [if_pos (by omega)] | rw [if_neg (by omega)])); (try (first | rw [if_pos (by omega)] | rw [if_neg (by omega)])); (try (first | rw [if_pos (by omega)] | rw [if_neg (by omega)])); (try (first | rw [if_pos (by omega)] | rw [if_neg (by omega)]))) (rfl) dX5_kindHere_91
        · skip
          refine r_iconst (pc := 49) C dX5_kindHere_49 ?_
          refine r_goto (pc := 50) C 91 dX5_kindHere_50 (by decide) ?_
          exact r_reti (pc := 91) C (by unfold kdM; (try (first | rw [if_pos (by omega)] | rw [if_neg (by omega)])); (try (first | rw [if_pos (by omega)] | rw [if_neg (by omega)])); (try (first | rw [if_pos (by omega)] | rw [if_neg (by omega)])); (try (first | rw [if_pos (by omega)] | rw [if_neg (by omega)])); (try (first | rw [if_pos (by omega)] | rw [if_neg (by omega)])); (try (first | rw [if_pos (by omega)] | rw [if_neg (by omega)])); (try (first | rw [if_pos (by omega)] | rw [if_neg (by omega)]))) (rfl) dX5_kindHere_91
      · skip
        refine r_iconst (pc := 37) C dX5_kindHere_37 ?_
        refine r_goto (pc := 38) C 91 dX5_kindHere_38 (by decide) ?_
        exact r_reti (pc := 91) C (by unfold kdM; (try (first | rw [if_pos (by omega)] | rw [if_neg (by omega)])); (try (first | rw [if_pos (by omega)] | rw [if_neg (by omega)])); (try (first | rw [if_pos (by omega)] | rw [if_neg (by omega)])); (try (first | rw [if_pos (by omega)] | rw [if_neg (by omega)])); (try (first | rw [if_pos (by omega)] | rw [if_neg (by omega)])); (try (first | rw [if_pos (by omega)] | rw [if_neg (by omega)])); (try (first | rw [if_pos (by omega)] | rw [if_neg (by omega)]))) (rfl) dX5_kindHere_91
    · skip
      refine r_iconst (pc := 25) C dX5_kindHere_25 ?_
      refine r_goto (pc := 26) C 91 dX5_kindHere_26 (by decide) ?_
      exact r_reti (pc := 91) C (by unfold kdM; (try (first | rw [if_pos (by omega)] | rw [if_neg (by omega)])); (try (first | rw [if_pos (by omega)] | rw [if_neg (by omega)])); (try (first | rw [if_pos (by omega)] | rw [if_neg (by omega)])); (try (first | rw [if_pos (by omega)] | rw [if_neg (by omega)])); (try (first | rw [if_pos (by omega)] | rw [if_neg (by omega)])); (try (first | rw [if_pos (by omega)] | rw [if_neg (by omega)])); (try (first | rw [if_pos (by omega)] | rw [if_neg (by omega)]))) (rfl) dX5_kindHere_91
  · skip
    refine r_iconst (pc := 13) C dX5_kindHere_13 ?_
    refine r_goto (pc := 14) C 91 dX5_kindHere_14 (by decide) ?_
    exact r_reti (pc := 91) C (by unfold kdM; (try (first | rw [if_pos (by omega)] | rw [if_neg (by omega)])); (try (first | rw [if_pos (by omega)] | rw [if_neg (by omega)])); (try (first | rw [if_pos (by omega)] | rw [if_neg (by omega)])); (try (first | rw [if_pos (by omega)] | rw [if_neg (by omega)])); (try (first | rw [if_pos (by omega)] | rw [if_neg (by omega)])); (try (first | rw [if_pos (by omega)] | rw [if_neg (by omega)])); (try (first | rw [if_pos (by omega)] | rw [if_neg (by omega)]))) (rfl) dX5_kindHere_91
