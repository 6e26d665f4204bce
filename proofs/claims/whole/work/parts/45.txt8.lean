theorem skp_stop {B : Nat → Int} {L q : Nat} (h : ¬ btA B L q = 32) : ∀ f, skp B L f q = q
  | 0 => rfl
  | f + 1 => by rw [skp, if_neg h]
theorem rM_stop {B : Nat → Int} {L q : Nat} {lt dg : Prop} [Decidable lt] [Decidable dg] (h : ¬ ((lt ∧ 97 ≤ btA B L q ∧ btA B L q ≤ 122) ∨ (dg ∧ 48 ≤ btA B L q ∧ btA B L q ≤ 57))) : ∀ f, rM B L lt dg f q = q
  | 0 => rfl
  | f + 1 => by rw [rM, if_neg h]
/-- a number as the model reads it -/
def nuM (B : Nat → Int) (s : Nat) : Nat → Int
  | 0 => 0
  | j + 1 => if 9999 < nuM B s j then nuM B s j else 10 * nuM B s j + B (s + j) - 48
theorem nuM_rng {B : Nat → Int} {s : Nat} : ∀ n, (∀ j, j < n → 48 ≤ B (s + j) ∧ B (s + j) ≤ 57) → 0 ≤ nuM B s n ∧ nuM B s n ≤ 100000
  | 0, _ => by
    show 0 ≤ (0 : Int) ∧ (0 : Int) ≤ 100000
    omega
  | n + 1, h => by
    have ih := nuM_rng n (fun j hj => h j (by omega))
    have h1 := h n (by omega)
    unfold nuM
    split <;> omega
theorem nuM_is {B : Nat → Int} {s : Nat} : ∀ n, (∀ j, j < n → 48 ≤ B (s + j) ∧ B (s + j) ≤ 57) → (nuM B s n = nuF B s n ∧ nuF B s n ≤ 9999) ∨ (9999 < nuM B s n ∧ nuF B s n = 10000)
  | 0, _ => Or.inl ⟨rfl, by show (0 : Int) ≤ 9999; omega⟩
  | n + 1, h => by
    have ih := nuM_is n (fun j hj => h j (by omega))
    have h1 := h n (by omega)
    have h2 := nuF_rng (B := B) (s := s) n (fun j hj => h j (by omega))
    unfold nuM nuF
    split <;> omega
theorem rM_in {B : Nat → Int} {L : Nat} {lt dg : Prop} [Decidable lt] [Decidable dg] : ∀ f q j, q ≤ j → j < rM B L lt dg f q → (lt ∧ 97 ≤ btA B L j ∧ btA B L j ≤ 122) ∨ (dg ∧ 48 ≤ btA B L j ∧ btA B L j ≤ 57)
  | 0, q, j, h1, h2 => by
    have h3 : j < q := h2
    omega
  | f + 1, q, j, h1, h2 => by
    unfold rM at h2
    split at h2
    · rename_i hb
      by_cases e : j = q
      · rw [e]
        exact hb
      · exact rM_in f (q + 1) j (by omega) h2
    · omega
theorem tE_dg {B : Nat → Int} {L p j : Nat} (hd : 48 ≤ btA B L p ∧ btA B L p ≤ 57) (h1 : p ≤ j) (h2 : j < tE B L p) : 48 ≤ B j ∧ B j ≤ 57 := by
  have hp := btA_lt (B := B) (L := L) (p := p) (by omega)
  by_cases e : j = p
  · rw [e]
    omega
  · unfold tE at h2
    rw [if_pos hp.1] at h2
    have h3 := rM_in 121 (p + 1) j (by omega) h2
    have h4 := btA_lt (B := B) (L := L) (p := j) (by omega)
    omega
set_option maxHeartbeats 4000000 in
set_option maxRecDepth 100000 in
theorem c_token (g : Gt) (e : Nat) (p0 v w : Int) (ρ σ : Sg) (hl : 0 ≤ σ 41 10 ∧ σ 41 10 ≤ 120) (hB : ∀ j, j < 120 → 0 ≤ σ 49 j ∧ σ 49 j ≤ 255) (he : (e : Int) ≤ σ 41 10) : Mt g yX5_token cX5_token 3 none 2 [.ref (gA g 41)] (MS2 σ p0 (e : Int) v w ρ) (pV (MS2 σ ((skp (σ 49) (σ 41 10).toNat 120 e : Nat) : Int) ((tE (σ 49) (σ 41 10).toNat (skp (σ 49) (σ 41 10).toNat 120 e) : Nat) : Int) v w ρ)) := by
  refine mt_of (own := RX5) (by decide) rfl (Nat.le_of_ble_eq_true rfl) (fun E C => ?_)
  show J g E (pV (MS2 σ ((skp (σ 49) (σ 41 10).toNat 120 e : Nat) : Int) ((tE (σ 49) (σ 41 10).toNat (skp (σ 49) (σ 41 10).toNat 120 e) : Nat) : Int) v w ρ)) 3 0 [(0, .ref (gA g 41))] [] (MS2 σ p0 (e : Int) v w ρ)
  refine r_aload_n (pc := 0) C dX5_token_0 rfl 0 rfl ?_
  refine r_aload_n (pc := 1) C dX5_token_1 rfl 0 rfl ?_
  refine r_getI5 (pc := 2) C 12 rfl O_41 (by decide) rfl t_792 dX5_token_2 ?_
  refine r_top (show _ = (e : Int) from rfl) ?_
  refine r_put5 (pc := 5) C 11 rfl O_41 (by decide) rfl t_791 rfl (by decide +kernel) dX5_token_5 ?_
  refine r_sg (MS_11 _ _ _ _ _ _ _) ?_
  have L8 : ∀ (n_ : Nat) (q : Nat) (s8 : Sg), 121 - q < n_ → (e ≤ q ∧ (q : Int) ≤ σ 41 10) → (skp (σ 49) (σ 41 10).toNat 120 e = skp (σ 49) (σ 41 10).toNat (120 + e - q) q) → s8 = (MS2 σ (q : Int) (e : Int) v w ρ) → J g E (pV (MS2 σ ((skp (σ 49) (σ 41 10).toNat 120 e : Nat) : Int) ((tE (σ 49) (σ 41 10).toNat (skp (σ 49) (σ 41 10).toNat 120 e) : Nat) : Int) v w ρ)) 3 8 [(0, .ref (gA g 41))] [] s8 := by
    intro n_
    induction n_ with
    | zero => intro q  s8 hm_; exact absurd hm_ (Nat.not_lt_zero _)
    | succ n_ ih8 =>
      intro q  s8 hm8 hi8_0 hi8_1  es8
      subst  es8
      refine r_aload_n (pc := 8) C dX5_token_8 rfl 0 rfl ?_
      refine r_aload_n (pc := 9) C dX5_token_9 rfl 0 rfl ?_
      refine r_getI5 (pc := 10) C 11 rfl O_41 (by decide) rfl t_791 dX5_token_10 ?_
      refine r_top (show _ = (q : Int) from rfl) ?_
      refine r_cVi (pc := 13) C (c_byteAt g q (by omega) (MS2 σ (q : Int) (e : Int) v w ρ) hl hB) yX5_byteAt_w O_41 rfl rfl t_1179 ⟨by decide, by decide⟩ (Nat.le_of_ble_eq_true rfl) rfl dX5_token_13 ?_
      refine r_top (show _ = btA (σ 49) (σ 41 10).toNat q from rfl) ?_
      have hbt13 := btA_rng (B := σ 49) (L := (σ 41 10).toNat) (p := q) (by omega) hB
      refine r_bipush (pc := 16) C dX5_token_16 (by decide) ?_
      refine r_icmp_ne (pc := 18) C 34 ⟨by omega, by omega⟩ ⟨by omega, by omega⟩ dX5_token_18 (by decide) (fun h18 => ?_) (fun h18 => ?_)
      · skip
        have hq : skp (σ 49) (σ 41 10).toNat 120 e = q := by rw [hi8_1, skp_stop (by omega)]
        refine r_aload_n (pc := 34) C dX5_token_34 rfl 0 rfl ?_
        refine r_aload_n (pc := 35) C dX5_token_35 rfl 0 rfl ?_
        refine r_getI5 (pc := 36) C 11 rfl O_41 (by decide) rfl t_791 dX5_token_36 ?_
        refine r_top (show _ = (q : Int) from rfl) ?_
        refine r_cVi (pc := 39) C (c_byteAt g q (by omega) (MS2 σ (q : Int) (e : Int) v w ρ) hl hB) yX5_byteAt_w O_41 rfl rfl t_1179 ⟨by decide, by decide⟩ (Nat.le_of_ble_eq_true rfl) rfl dX5_token_39 ?_
        refine r_top (show _ = btA (σ 49) (σ 41 10).toNat q from rfl) ?_
        have hbt39 := btA_rng (B := σ 49) (L := (σ 41 10).toNat) (p := q) (by omega) hB
        refine r_cSi (pc := 42) C (c_m_isLetter g (btA (σ 49) (σ 41 10).toNat q) ⟨by omega, by omega⟩ (MS2 σ (q : Int) (e : Int) v w ρ)) yX5_isLetter_w rfl t_1183 ⟨by decide, by decide⟩ (Nat.le_of_ble_eq_true rfl) rfl dX5_token_42 ?_
        refine r_istore_n (pc := 45) C dX5_token_45 rfl (by decide) [1, 0] (lv' := [(0, .ref (gA g 41)), (1, .int (iI (b01 (97 ≤ btA (σ 49) (σ 41 10).toNat q ∧ btA (σ 49) (σ 41 10).toNat q ≤ 122))))]) rfl ?_
        refine r_aload_n (pc := 46) C dX5_token_46 rfl 0 rfl ?_
        refine r_aload_n (pc := 47) C dX5_token_47 rfl 0 rfl ?_
        refine r_getI5 (pc := 48) C 11 rfl O_41 (by decide) rfl t_791 dX5_token_48 ?_
        refine r_top (show _ = (q : Int) from rfl) ?_
        refine r_cVi (pc := 51) C (c_byteAt g q (by omega) (MS2 σ (q : Int) (e : Int) v w ρ) hl hB) yX5_byteAt_w O_41 rfl rfl t_1179 ⟨by decide, by decide⟩ (Nat.le_of_ble_eq_true rfl) rfl dX5_token_51 ?_
        refine r_top (show _ = btA (σ 49) (σ 41 10).toNat q from rfl) ?_
        have hbt51 := btA_rng (B := σ 49) (L := (σ 41 10).toNat) (p := q) (by omega) hB
        refine r_cSi (pc := 54) C (c_m_isDigit g (btA (σ 49) (σ 41 10).toNat q) ⟨by omega, by omega⟩ (MS2 σ (q : Int) (e : Int) v w ρ)) yX5_isDigit_w rfl t_1188 ⟨by decide, by decide⟩ (Nat.le_of_ble_eq_true rfl) rfl dX5_token_54 ?_
        refine r_istore_n (pc := 57) C dX5_token_57 rfl (by decide) [1, 2, 0] (lv' := [(0, .ref (gA g 41)), (1, .int (iI (b01 (97 ≤ btA (σ 49) (σ 41 10).toNat q ∧ btA (σ 49) (σ 41 10).toNat q ≤ 122)))), (2, .int (iI (b01 (48 ≤ btA (σ 49) (σ 41 10).toNat q ∧ btA (σ 49) (σ 41 10).toNat q ≤ 57))))]) rfl ?_
        refine r_aload_n (pc := 58) C dX5_token_58 rfl 0 rfl ?_
        refine r_aload_n (pc := 59) C dX5_token_59 rfl 0 rfl ?_
        refine r_getI5 (pc := 60) C 11 rfl O_41 (by decide) rfl t_791 dX5_token_60 ?_
        refine r_top (show _ = (q : Int) from rfl) ?_
        refine r_aload_n (pc := 63) C dX5_token_63 rfl 0 rfl ?_
        refine r_getI5 (pc := 64) C 10 rfl O_41 (by decide) rfl t_790 dX5_token_64 ?_
        refine r_top (show _ = σ 41 10 from rfl) ?_
        refine r_icmp_ge (pc := 67) C 79 ⟨by omega, by omega⟩ ⟨by omega, by omega⟩ dX5_token_67 (by decide) (fun h67 => ?_) (fun h67 => ?_)
        · skip
          refine r_aload_n (pc := 79) C dX5_token_79 rfl 0 rfl ?_
          refine r_getI5 (pc := 80) C 11 rfl O_41 (by decide) rfl t_791 dX5_token_80 ?_
          refine r_top (show _ = (q : Int) from rfl) ?_
          skip
          skip
          refine r_put5 (pc := 83) C 12 rfl O_41 (by decide) rfl t_792 rfl (by decide +kernel) dX5_token_83 ?_
          refine r_sg (MS_12 _ _ _ _ _ _ _) ?_
          have L86 : ∀ (n_ : Nat) (r : Nat) (f2 : Nat) (s86 : Sg), 121 - r < n_ → ((q ≤ r ∧ (r : Int) ≤ σ 41 10) ∧ 121 + q ≤ f2 + r) → (tE (σ 49) (σ 41 10).toNat q = rM (σ 49) (σ 41 10).toNat (97 ≤ btA (σ 49) (σ 41 10).toNat q ∧ btA (σ 49) (σ 41 10).toNat q ≤ 122) (48 ≤ btA (σ 49) (σ 41 10).toNat q ∧ btA (σ 49) (σ 41 10).toNat q ≤ 57) f2 r) → s86 = (MS2 σ (q : Int) (r : Int) v w ρ) → J g E (pV (MS2 σ ((skp (σ 49) (σ 41 10).toNat 120 e : Nat) : Int) ((tE (σ 49) (σ 41 10).toNat (skp (σ 49) (σ 41 10).toNat 120 e) : Nat) : Int) v w ρ)) 3 86 [(0, .ref (gA g 41)), (1, .int (iI (b01 (97 ≤ btA (σ 49) (σ 41 10).toNat q ∧ btA (σ 49) (σ 41 10).toNat q ≤ 122)))), (2, .int (iI (b01 (48 ≤ btA (σ 49) (σ 41 10).toNat q ∧ btA (σ 49) (σ 41 10).toNat q ≤ 57))))] [] s86 := by
            intro n_
            induction n_ with
            | zero => intro r f2  s86 hm_; exact absurd hm_ (Nat.not_lt_zero _)
            | succ n_ ih86 =>
              intro r f2  s86 hm86 hi86_0 hi86_1  es86
              subst  es86
              refine r_iload_n (pc := 86) C dX5_token_86 rfl 1 rfl ?_
              refine r_ifz_eq (pc := 87) C 104 dX5_token_87 (by decide) (fun h87 => ?_) (fun h87 => ?_)
              · skip
                refine r_iload_n (pc := 104) C dX5_token_104 rfl 2 rfl ?_
                refine r_ifz_eq (pc := 105) C 135 dX5_token_105 (by decide) (fun h105 => ?_) (fun h105 => ?_)
                · skip
                  have hr : tE (σ 49) (σ 41 10).toNat q = r := by rw [hi86_1, rM_stop (by omega)]
                  exact r_retv (pc := 135) C (by rw [hq, hr]) dX5_token_135
                · skip
                  refine r_aload_n (pc := 108) C dX5_token_108 rfl 0 rfl ?_
                  refine r_aload_n (pc := 109) C dX5_token_109 rfl 0 rfl ?_
                  refine r_getI5 (pc := 110) C 12 rfl O_41 (by decide) rfl t_792 dX5_token_110 ?_
                  refine r_top (show _ = (r : Int) from rfl) ?_
                  refine r_cVi (pc := 113) C (c_byteAt g r (by omega) (MS2 σ (q : Int) (r : Int) v w ρ) hl hB) yX5_byteAt_w O_41 rfl rfl t_1179 ⟨by decide, by decide⟩ (Nat.le_of_ble_eq_true rfl) rfl dX5_token_113 ?_
                  refine r_top (show _ = btA (σ 49) (σ 41 10).toNat r from rfl) ?_
                  have hbt113 := btA_rng (B := σ 49) (L := (σ 41 10).toNat) (p := r) (by omega) hB
                  refine r_cSi (pc := 116) C (c_m_isDigit g (btA (σ 49) (σ 41 10).toNat r) ⟨by omega, by omega⟩ (MS2 σ (q : Int) (r : Int) v w ρ)) yX5_isDigit_w rfl t_1188 ⟨by decide, by decide⟩ (Nat.le_of_ble_eq_true rfl) rfl dX5_token_116 ?_
                  refine r_ifz_eq (pc := 119) C 135 dX5_token_119 (by decide) (fun h119 => ?_) (fun h119 => ?_)
                  · skip
                    have hr : tE (σ 49) (σ 41 10).toNat q = r := by rw [hi86_1, rM_stop (by omega)]
                    exact r_retv (pc := 135) C (by rw [hq, hr]) dX5_token_135
                  · skip
                    have hrl := (btA_lt (B := σ 49) (L := (σ 41 10).toNat) (p := r) (by omega)).1
                    refine r_aload_n (pc := 122) C dX5_token_122 rfl 0 rfl ?_
                    refine r_dup (pc := 123) C rfl dX5_token_123 ?_
                    refine r_getI5 (pc := 124) C 12 rfl O_41 (by decide) rfl t_792 dX5_token_124 ?_
                    refine r_top (show _ = (r : Int) from rfl) ?_
                    refine r_iconst (pc := 127) C dX5_token_127 ?_
                    refine r_iadd (pc := 128) C dX5_token_128 ?_
                    refine r_put5 (pc := 129) C 12 rfl O_41 (by decide) rfl t_792 rfl (by decide +kernel) dX5_token_129 ?_
                    refine r_sg (MS_12 _ _ _ _ _ _ _) ?_
                    refine r_goto (pc := 132) C 86 dX5_token_132 (by decide) ?_
                    exact ih86 (r + 1) (f2 - 1) _ (by omega) (by omega) (by rw [hi86_1, show f2 = f2 - 1 + 1 by omega, rM, if_pos (by omega)]; rfl) (rfl)
              · skip
                refine r_aload_n (pc := 90) C dX5_token_90 rfl 0 rfl ?_
                refine r_aload_n (pc := 91) C dX5_token_91 rfl 0 rfl ?_
                refine r_getI5 (pc := 92) C 12 rfl O_41 (by decide) rfl t_792 dX5_token_92 ?_
                refine r_top (show _ = (r : Int) from rfl) ?_
                refine r_cVi (pc := 95) C (c_byteAt g r (by omega) (MS2 σ (q : Int) (r : Int) v w ρ) hl hB) yX5_byteAt_w O_41 rfl rfl t_1179 ⟨by decide, by decide⟩ (Nat.le_of_ble_eq_true rfl) rfl dX5_token_95 ?_
                refine r_top (show _ = btA (σ 49) (σ 41 10).toNat r from rfl) ?_
                have hbt95 := btA_rng (B := σ 49) (L := (σ 41 10).toNat) (p := r) (by omega) hB
                refine r_cSi (pc := 98) C (c_m_isLetter g (btA (σ 49) (σ 41 10).toNat r) ⟨by omega, by omega⟩ (MS2 σ (q : Int) (r : Int) v w ρ)) yX5_isLetter_w rfl t_1183 ⟨by decide, by decide⟩ (Nat.le_of_ble_eq_true rfl) rfl dX5_token_98 ?_
                refine r_ifz_ne (pc := 101) C 122 dX5_token_101 (by decide) (fun h101 => ?_) (fun h101 => ?_)
                · skip
                  have hrl := (btA_lt (B := σ 49) (L := (σ 41 10).toNat) (p := r) (by omega)).1
                  refine r_aload_n (pc := 122) C dX5_token_122 rfl 0 rfl ?_
                  refine r_dup (pc := 123) C rfl dX5_token_123 ?_
                  refine r_getI5 (pc := 124) C 12 rfl O_41 (by decide) rfl t_792 dX5_token_124 ?_
                  refine r_top (show _ = (r : Int) from rfl) ?_
                  refine r_iconst (pc := 127) C dX5_token_127 ?_
                  refine r_iadd (pc := 128) C dX5_token_128 ?_
                  refine r_put5 (pc := 129) C 12 rfl O_41 (by decide) rfl t_792 rfl (by decide +kernel) dX5_token_129 ?_
                  refine r_sg (MS_12 _ _ _ _ _ _ _) ?_
                  refine r_goto (pc := 132) C 86 dX5_token_132 (by decide) ?_
                  exact ih86 (r + 1) (f2 - 1) _ (by omega) (by omega) (by rw [hi86_1, show f2 = f2 - 1 + 1 by omega, rM, if_pos (by omega)]; rfl) (rfl)
                · skip
                  refine r_iload_n (pc := 104) C dX5_token_104 rfl 2 rfl ?_
                  refine r_ifz_eq (pc := 105) C 135 dX5_token_105 (by decide) (fun h105 => ?_) (fun h105 => ?_)
                  · skip
                    have hr : tE (σ 49) (σ 41 10).toNat q = r := by rw [hi86_1, rM_stop (by omega)]
                    exact r_retv (pc := 135) C (by rw [hq, hr]) dX5_token_135
                  · skip
                    refine r_aload_n (pc := 108) C dX5_token_108 rfl 0 rfl ?_
                    refine r_aload_n (pc := 109) C dX5_token_109 rfl 0 rfl ?_
                    refine r_getI5 (pc := 110) C 12 rfl O_41 (by decide) rfl t_792 dX5_token_110 ?_
                    refine r_top (show _ = (r : Int) from rfl) ?_
                    refine r_cVi (pc := 113) C (c_byteAt g r (by omega) (MS2 σ (q : Int) (r : Int) v w ρ) hl hB) yX5_byteAt_w O_41 rfl rfl t_1179 ⟨by decide, by decide⟩ (Nat.le_of_ble_eq_true rfl) rfl dX5_token_113 ?_
                    refine r_top (show _ = btA (σ 49) (σ 41 10).toNat r from rfl) ?_
                    have hbt113 := btA_rng (B := σ 49) (L := (σ 41 10).toNat) (p := r) (by omega) hB
                    refine r_cSi (pc := 116) C (c_m_isDigit g (btA (σ 49) (σ 41 10).toNat r) ⟨by omega, by omega⟩ (MS2 σ (q : Int) (r : Int) v w ρ)) yX5_isDigit_w rfl t_1188 ⟨by decide, by decide⟩ (Nat.le_of_ble_eq_true rfl) rfl dX5_token_116 ?_
                    refine r_ifz_eq (pc := 119) C 135 dX5_token_119 (by decide) (fun h119 => ?_) (fun h119 => ?_)
                    · skip
                      have hr : tE (σ 49) (σ 41 10).toNat q = r := by rw [hi86_1, rM_stop (by omega)]
                      exact r_retv (pc := 135) C (by rw [hq, hr]) dX5_token_135
                    · skip
                      have hrl := (btA_lt (B := σ 49) (L := (σ 41 10).toNat) (p := r) (by omega)).1
                      refine r_aload_n (pc := 122) C dX5_token_122 rfl 0 rfl ?_
                      refine r_dup (pc := 123) C rfl dX5_token_123 ?_
                      refine r_getI5 (pc := 124) C 12 rfl O_41 (by decide) rfl t_792 dX5_token_124 ?_
                      refine r_top (show _ = (r : Int) from rfl) ?_
                      refine r_iconst (pc := 127) C dX5_token_127 ?_
                      refine r_iadd (pc := 128) C dX5_token_128 ?_
                      refine r_put5 (pc := 129) C 12 rfl O_41 (by decide) rfl t_792 rfl (by decide +kernel) dX5_token_129 ?_
                      refine r_sg (MS_12 _ _ _ _ _ _ _) ?_
                      refine r_goto (pc := 132) C 86 dX5_token_132 (by decide) ?_
                      exact ih86 (r + 1) (f2 - 1) _ (by omega) (by omega) (by rw [hi86_1, show f2 = f2 - 1 + 1 by omega, rM, if_pos (by omega)]; rfl) (rfl)
          exact L86 _ _ 121 _ (Nat.lt_succ_self _) (by omega) (by unfold tE; first | rw [if_pos (by omega)] | rw [if_neg (by omega)]) (rfl)
        · skip
          refine r_aload_n (pc := 70) C dX5_token_70 rfl 0 rfl ?_
          refine r_getI5 (pc := 71) C 11 rfl O_41 (by decide) rfl t_791 dX5_token_71 ?_
          refine r_top (show _ = (q : Int) from rfl) ?_
          refine r_iconst (pc := 74) C dX5_token_74 ?_
          refine r_iadd (pc := 75) C dX5_token_75 ?_
          refine r_goto (pc := 76) C 83 dX5_token_76 (by decide) ?_
          refine r_top (show _ = ((q + 1 : Nat) : Int) from rfl) ?_
          skip
          refine r_put5 (pc := 83) C 12 rfl O_41 (by decide) rfl t_792 rfl (by decide +kernel) dX5_token_83 ?_
          refine r_sg (MS_12 _ _ _ _ _ _ _) ?_
          have L86 : ∀ (n_ : Nat) (r : Nat) (f2 : Nat) (s86 : Sg), 121 - r < n_ → ((q ≤ r ∧ (r : Int) ≤ σ 41 10) ∧ 121 + q ≤ f2 + r) → (tE (σ 49) (σ 41 10).toNat q = rM (σ 49) (σ 41 10).toNat (97 ≤ btA (σ 49) (σ 41 10).toNat q ∧ btA (σ 49) (σ 41 10).toNat q ≤ 122) (48 ≤ btA (σ 49) (σ 41 10).toNat q ∧ btA (σ 49) (σ 41 10).toNat q ≤ 57) f2 r) → s86 = (MS2 σ (q : Int) (r : Int) v w ρ) → J g E (pV (MS2 σ ((skp (σ 49) (σ 41 10).toNat 120 e : Nat) : Int) ((tE (σ 49) (σ 41 10).toNat (skp (σ 49) (σ 41 10).toNat 120 e) : Nat) : Int) v w ρ)) 3 86 [(0, .ref (gA g 41)), (1, .int (iI (b01 (97 ≤ btA (σ 49) (σ 41 10).toNat q ∧ btA (σ 49) (σ 41 10).toNat q ≤ 122)))), (2, .int (iI (b01 (48 ≤ btA (σ 49) (σ 41 10).toNat q ∧ btA (σ 49) (σ 41 10).toNat q ≤ 57))))] [] s86 := by
            intro n_
            induction n_ with
            | zero => intro r f2  s86 hm_; exact absurd hm_ (Nat.not_lt_zero _)
            | succ n_ ih86 =>
              intro r f2  s86 hm86 hi86_0 hi86_1  es86
              subst  es86
              refine r_iload_n (pc := 86) C dX5_token_86 rfl 1 rfl ?_
              refine r_ifz_eq (pc := 87) C 104 dX5_token_87 (by decide) (fun h87 => ?_) (fun h87 => ?_)
              · skip
                refine r_iload_n (pc := 104) C dX5_token_104 rfl 2 rfl ?_
                refine r_ifz_eq (pc := 105) C 135 dX5_token_105 (by decide) (fun h105 => ?_) (fun h105 => ?_)
                · skip
                  have hr : tE (σ 49) (σ 41 10).toNat q = r := by rw [hi86_1, rM_stop (by omega)]
                  exact r_retv (pc := 135) C (by rw [hq, hr]) dX5_token_135
                · skip
                  refine r_aload_n (pc := 108) C dX5_token_108 rfl 0 rfl ?_
                  refine r_aload_n (pc := 109) C dX5_token_109 rfl 0 rfl ?_
                  refine r_getI5 (pc := 110) C 12 rfl O_41 (by decide) rfl t_792 dX5_token_110 ?_
                  refine r_top (show _ = (r : Int) from rfl) ?_
                  refine r_cVi (pc := 113) C (c_byteAt g r (by omega) (MS2 σ (q : Int) (r : Int) v w ρ) hl hB) yX5_byteAt_w O_41 rfl rfl t_1179 ⟨by decide, by decide⟩ (Nat.le_of_ble_eq_true rfl) rfl dX5_token_113 ?_
                  refine r_top (show _ = btA (σ 49) (σ 41 10).toNat r from rfl) ?_
                  have hbt113 := btA_rng (B := σ 49) (L := (σ 41 10).toNat) (p := r) (by omega) hB
                  refine r_cSi (pc := 116) C (c_m_isDigit g (btA (σ 49) (σ 41 10).toNat r) ⟨by omega, by omega⟩ (MS2 σ (q : Int) (r : Int) v w ρ)) yX5_isDigit_w rfl t_1188 ⟨by decide, by decide⟩ (Nat.le_of_ble_eq_true rfl) rfl dX5_token_116 ?_
                  refine r_ifz_eq (pc := 119) C 135 dX5_token_119 (by decide) (fun h119 => ?_) (fun h119 => ?_)
                  · skip
                    have hr : tE (σ 49) (σ 41 10).toNat q = r := by rw [hi86_1, rM_stop (by omega)]
                    exact r_retv (pc := 135) C (by rw [hq, hr]) dX5_token_135
                  · skip
                    have hrl := (btA_lt (B := σ 49) (L := (σ 41 10).toNat) (p := r) (by omega)).1
                    refine r_aload_n (pc := 122) C dX5_token_122 rfl 0 rfl ?_
                    refine r_dup (pc := 123) C rfl dX5_token_123 ?_
                    refine r_getI5 (pc := 124) C 12 rfl O_41 (by decide) rfl t_792 dX5_token_124 ?_
                    refine r_top (show _ = (r : Int) from rfl) ?_
                    refine r_iconst (pc := 127) C dX5_token_127 ?_
                    refine r_iadd (pc := 128) C dX5_token_128 ?_
                    refine r_put5 (pc := 129) C 12 rfl O_41 (by decide) rfl t_792 rfl (by decide +kernel) dX5_token_129 ?_
                    refine r_sg (MS_12 _ _ _ _ _ _ _) ?_
                    refine r_goto (pc := 132) C 86 dX5_token_132 (by decide) ?_
                    exact ih86 (r + 1) (f2 - 1) _ (by omega) (by omega) (by rw [hi86_1, show f2 = f2 - 1 + 1 by omega, rM, if_pos (by omega)]; rfl) (rfl)
              · skip
                refine r_aload_n (pc := 90) C dX5_token_90 rfl 0 rfl ?_
                refine r_aload_n (pc := 91) C dX5_token_91 rfl 0 rfl ?_
                refine r_getI5 (pc := 92) C 12 rfl O_41 (by decide) rfl t_792 dX5_token_92 ?_
                refine r_top (show _ = (r : Int) from rfl) ?_
                refine r_cVi (pc := 95) C (c_byteAt g r (by omega) (MS2 σ (q : Int) (r : Int) v w ρ) hl hB) yX5_byteAt_w O_41 rfl rfl t_1179 ⟨by decide, by decide⟩ (Nat.le_of_ble_eq_true rfl) rfl dX5_token_95 ?_
                refine r_top (show _ = btA (σ 49) (σ 41 10).toNat r from rfl) ?_
                have hbt95 := btA_rng (B := σ 49) (L := (σ 41 10).toNat) (p := r) (by omega) hB
                refine r_cSi (pc := 98) C (c_m_isLetter g (btA (σ 49) (σ 41 10).toNat r) ⟨by omega, by omega⟩ (MS2 σ (q : Int) (r : Int) v w ρ)) yX5_isLetter_w rfl t_1183 ⟨by decide, by decide⟩ (Nat.le_of_ble_eq_true rfl) rfl dX5_token_98 ?_
                refine r_ifz_ne (pc := 101) C 122 dX5_token_101 (by decide) (fun h101 => ?_) (fun h101 => ?_)
                · skip
                  have hrl := (btA_lt (B := σ 49) (L := (σ 41 10).toNat) (p := r) (by omega)).1
                  refine r_aload_n (pc := 122) C dX5_token_122 rfl 0 rfl ?_
                  refine r_dup (pc := 123) C rfl dX5_token_123 ?_
                  refine r_getI5 (pc := 124) C 12 rfl O_41 (by decide) rfl t_792 dX5_token_124 ?_
                  refine r_top (show _ = (r : Int) from rfl) ?_
                  refine r_iconst (pc := 127) C dX5_token_127 ?_
                  refine r_iadd (pc := 128) C dX5_token_128 ?_
                  refine r_put5 (pc := 129) C 12 rfl O_41 (by decide) rfl t_792 rfl (by decide +kernel) dX5_token_129 ?_
                  refine r_sg (MS_12 _ _ _ _ _ _ _) ?_
                  refine r_goto (pc := 132) C 86 dX5_token_132 (by decide) ?_
                  exact ih86 (r + 1) (f2 - 1) _ (by omega) (by omega) (by rw [hi86_1, show f2 = f2 - 1 + 1 by omega, rM, if_pos (by omega)]; rfl) (rfl)
                · skip
                  refine r_iload_n (pc := 104) C dX5_token_104 rfl 2 rfl ?_
                  refine r_ifz_eq (pc := 105) C 135 dX5_token_105 (by decide) (fun h105 => ?_) (fun h105 => ?_)
                  · skip
                    have hr : tE (σ 49) (σ 41 10).toNat q = r := by rw [hi86_1, rM_stop (by omega)]
                    exact r_retv (pc := 135) C (by rw [hq, hr]) dX5_token_135
                  · skip
                    refine r_aload_n (pc := 108) C dX5_token_108 rfl 0 rfl ?_
                    refine r_aload_n (pc := 109) C dX5_token_109 rfl 0 rfl ?_
                    refine r_getI5 (pc := 110) C 12 rfl O_41 (by decide) rfl t_792 dX5_token_110 ?_
                    refine r_top (show _ = (r : Int) from rfl) ?_
                    refine r_cVi (pc := 113) C (c_byteAt g r (by omega) (MS2 σ (q : Int) (r : Int) v w ρ) hl hB) yX5_byteAt_w O_41 rfl rfl t_1179 ⟨by decide, by decide⟩ (Nat.le_of_ble_eq_true rfl) rfl dX5_token_113 ?_
                    refine r_top (show _ = btA (σ 49) (σ 41 10).toNat r from rfl) ?_
                    have hbt113 := btA_rng (B := σ 49) (L := (σ 41 10).toNat) (p := r) (by omega) hB
                    refine r_cSi (pc := 116) C (c_m_isDigit g (btA (σ 49) (σ 41 10).toNat r) ⟨by omega, by omega⟩ (MS2 σ (q : Int) (r : Int) v w ρ)) yX5_isDigit_w rfl t_1188 ⟨by decide, by decide⟩ (Nat.le_of_ble_eq_true rfl) rfl dX5_token_116 ?_
                    refine r_ifz_eq (pc := 119) C 135 dX5_token_119 (by decide) (fun h119 => ?_) (fun h119 => ?_)
                    · skip
                      have hr : tE (σ 49) (σ 41 10).toNat q = r := by rw [hi86_1, rM_stop (by omega)]
                      exact r_retv (pc := 135) C (by rw [hq, hr]) dX5_token_135
                    · skip
                      have hrl := (btA_lt (B := σ 49) (L := (σ 41 10).toNat) (p := r) (by omega)).1
                      refine r_aload_n (pc := 122) C dX5_token_122 rfl 0 rfl ?_
                      refine r_dup (pc := 123) C rfl dX5_token_123 ?_
                      refine r_getI5 (pc := 124) C 12 rfl O_41 (by decide) rfl t_792 dX5_token_124 ?_
                      refine r_top (show _ = (r : Int) from rfl) ?_
                      refine r_iconst (pc := 127) C dX5_token_127 ?_
                      refine r_iadd (pc := 128) C dX5_token_128 ?_
                      refine r_put5 (pc := 129) C 12 rfl O_41 (by decide) rfl t_792 rfl (by decide +kernel) dX5_token_129 ?_
                      refine r_sg (MS_12 _ _ _ _ _ _ _) ?_
                      refine r_goto (pc := 132) C 86 dX5_token_132 (by decide) ?_
                      exact ih86 (r + 1) (f2 - 1) _ (by omega) (by omega) (by rw [hi86_1, show f2 = f2 - 1 + 1 by omega, rM, if_pos (by omega)]; rfl) (rfl)
          exact L86 _ _ 121 _ (Nat.lt_succ_self _) (by omega) (by unfold tE; first | rw [if_pos (by omega)] | rw [if_neg (by omega)]) (rfl)
      · skip
        have hql := (btA_lt (B := σ 49) (L := (σ 41 10).toNat) (p := q) (by omega)).1
        refine r_aload_n (pc := 21) C dX5_token_21 rfl 0 rfl ?_
        refine r_dup (pc := 22) C rfl dX5_token_22 ?_
        refine r_getI5 (pc := 23) C 11 rfl O_41 (by decide) rfl t_791 dX5_token_23 ?_
        refine r_top (show _ = (q : Int) from rfl) ?_
        refine r_iconst (pc := 26) C dX5_token_26 ?_
        refine r_iadd (pc := 27) C dX5_token_27 ?_
        refine r_put5 (pc := 28) C 11 rfl O_41 (by decide) rfl t_791 rfl (by decide +kernel) dX5_token_28 ?_
        refine r_sg (MS_11 _ _ _ _ _ _ _) ?_
        refine r_goto (pc := 31) C 8 dX5_token_31 (by decide) ?_
        exact ih8 (q + 1) _ (by omega) (by omega) (by rw [hi8_1, show 120 + e - q = 120 + e - (q + 1) + 1 by omega, skp, if_pos (by omega)]) (rfl)
  exact L8 _ e _ (Nat.lt_succ_self _) (by omega) (by rw [show 120 + e - e = 120 by omega]) (rfl)
