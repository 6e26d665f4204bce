theorem MS_us (σ : Sg) (p e v w : Int) (ρ ρ2 : Sg) : us (MS2 σ p e v w ρ) 42 (mkS ρ2) = MS2 σ p e v w ρ2 := us_us _ _ _ _
theorem wdM_w (B : Nat → Int) (L p : Nat) : wdM B L p 1 = 0 := if_pos (Or.inl (by decide))
set_option maxHeartbeats 4000000 in
set_option maxRecDepth 100000 in
theorem pe_0 (g : Gt) (c : Int) (hc : 0 < c ∧ c ≤ 4900691220) (i kk jj : Nat) (hi2 : i < 147) (hcx : cidx i = (kk, jj)) (hi : Int) (hhi : 0 ≤ hi ∧ hi ≤ 9999) {ty vl : Nat → Int} {pos : Nat → Nat} {K : Nat} (k : Nat) (v : Int) (ρ σ : Sg) (hl : 0 ≤ σ 41 10 ∧ σ 41 10 ≤ 120) (hB : ∀ j, j < 120 → 0 ≤ σ 49 j ∧ σ 49 j ≤ 255) (hV : TV σ ty vl pos K) (hk : k ≤ K) (hx : ¬ wdM (σ 49) (σ 41 10).toNat (pos k) 0 = c) : Mt g yX5_perhaps cX5_perhaps 5 none 5 [.ref (gA g 41), .long (iL (c)), .int (iI ((i : Int))), .int (iI (hi))] (MS2 σ ((pos k : Nat) : Int) ((tE (σ 49) (σ 41 10).toNat (pos k) : Nat) : Int) v 0 ρ) (pV (PS σ pos k v 0 ρ)) := by
  have hlek := hV.le k hk
  have hwr := wdM_rng (σ 49) (σ 41 10).toNat (pos k) 0
  have hc1 := hc.1; have hc2 := hc.2
  refine mt_of (own := RX5) (by decide) rfl (Nat.le_of_ble_eq_true rfl) (fun E C => ?_)
  show J g E (pV (PS σ pos k v 0 ρ)) 5 0 [(0, .ref (gA g 41)), (1, .long (iL (c))), (3, .int (iI ((i : Int)))), (4, .int (iI (hi)))] [] (MS2 σ ((pos k : Nat) : Int) ((tE (σ 49) (σ 41 10).toNat (pos k) : Nat) : Int) v 0 ρ)
  refine r_aload_n (pc := 0) C dX5_perhaps_0 rfl 0 rfl ?_
  refine r_cVl (pc := 1) C (c_word g (pos k) v 0 (by omega) ρ σ hl hB (by omega)) yX5_word_w O_41 rfl rfl t_1201 ⟨by decide, by decide⟩ (Nat.le_of_ble_eq_true rfl) rfl dX5_perhaps_1 ?_
  have hwd1 := wdM_rng (σ 49) (σ 41 10).toNat (pos k) 0
  refine r_lload_n (pc := 4) C dX5_perhaps_4 rfl 1 rfl ?_
  refine r_lcb_ne (pc := 5) C 47 ⟨by omega, by omega⟩ ⟨by omega, by omega⟩ dX5_perhaps_5 dX5_perhaps_6 (by decide) (fun h5 => ?_) (fun h5 => ?_)
  · skip
    exact r_retv (pc := 47) C (rfl) dX5_perhaps_47
  · skip
    omega
set_option maxHeartbeats 4000000 in
set_option maxRecDepth 100000 in
theorem pe_y (g : Gt) (c : Int) (hc : 0 < c ∧ c ≤ 4900691220) (i kk jj : Nat) (hi2 : i < 147) (hcx : cidx i = (kk, jj)) (hi : Int) (hhi : 0 ≤ hi ∧ hi ≤ 9999) {ty vl : Nat → Int} {pos : Nat → Nat} {K : Nat} (k : Nat) (v : Int) (ρ σ : Sg) (hl : 0 ≤ σ 41 10 ∧ σ 41 10 ≤ 120) (hB : ∀ j, j < 120 → 0 ≤ σ 49 j ∧ σ 49 j ≤ 255) (hV : TV σ ty vl pos K) (hk : k ≤ K) (hx : wdM (σ 49) (σ 41 10).toNat (pos k) 0 = c) (hkK : k < K) (hy : ty (k + 1) = 2 ∧ vl (k + 1) ≤ hi) : Mt g yX5_perhaps cX5_perhaps 5 none 5 [.ref (gA g 41), .long (iL (c)), .int (iI ((i : Int))), .int (iI (hi))] (MS2 σ ((pos k : Nat) : Int) ((tE (σ 49) (σ 41 10).toNat (pos k) : Nat) : Int) v 0 ρ) (pV (PS σ pos ((k + 1) + 1) (vl (k + 1)) 0 (wr ρ kk jj (vl (k + 1))))) := by
  have hlek := hV.le k hk
  have hwr := wdM_rng (σ 49) (σ 41 10).toNat (pos k) 0
  have hc1 := hc.1; have hc2 := hc.2
  refine mt_of (own := RX5) (by decide) rfl (Nat.le_of_ble_eq_true rfl) (fun E C => ?_)
  show J g E (pV (PS σ pos ((k + 1) + 1) (vl (k + 1)) 0 (wr ρ kk jj (vl (k + 1))))) 5 0 [(0, .ref (gA g 41)), (1, .long (iL (c))), (3, .int (iI ((i : Int)))), (4, .int (iI (hi)))] [] (MS2 σ ((pos k : Nat) : Int) ((tE (σ 49) (σ 41 10).toNat (pos k) : Nat) : Int) v 0 ρ)
  refine r_aload_n (pc := 0) C dX5_perhaps_0 rfl 0 rfl ?_
  refine r_cVl (pc := 1) C (c_word g (pos k) v 0 (by omega) ρ σ hl hB (by omega)) yX5_word_w O_41 rfl rfl t_1201 ⟨by decide, by decide⟩ (Nat.le_of_ble_eq_true rfl) rfl dX5_perhaps_1 ?_
  have hwd1 := wdM_rng (σ 49) (σ 41 10).toNat (pos k) 0
  refine r_lload_n (pc := 4) C dX5_perhaps_4 rfl 1 rfl ?_
  refine r_lcb_ne (pc := 5) C 47 ⟨by omega, by omega⟩ ⟨by omega, by omega⟩ dX5_perhaps_5 dX5_perhaps_6 (by decide) (fun h5 => ?_) (fun h5 => ?_)
  · skip
    omega
  · skip
    refine r_aload_n (pc := 9) C dX5_perhaps_9 rfl 0 rfl ?_
    refine r_iconst (pc := 10) C dX5_perhaps_10 ?_
    refine r_cVv (pc := 11) C (m_y g k v ρ σ hl hB hV (by omega)) yX5_must_w O_41 rfl rfl t_1218 ⟨by decide, by decide⟩ (Nat.le_of_ble_eq_true rfl) rfl dX5_perhaps_11 ?_
    refine r_aload_n (pc := 14) C dX5_perhaps_14 rfl 0 rfl ?_
    refine r_iconst (pc := 15) C dX5_perhaps_15 ?_
    refine r_iload (pc := 16) C dX5_perhaps_16 3 rfl ?_
    refine r_cVv (pc := 18) C (n_y g (k + 1) hi (by omega) v ρ σ hl hB hV (by omega) hy) yX5_number_w O_41 rfl rfl t_1227 ⟨by decide, by decide⟩ (Nat.le_of_ble_eq_true rfl) rfl dX5_perhaps_18 ?_
    refine r_aload_n (pc := 21) C dX5_perhaps_21 rfl 0 rfl ?_
    refine r_getR5 (pc := 22) C 0 (k' := 42) rfl O_41 (by decide) rfl t_780 dX5_perhaps_22 ?_
    refine r_iload_n (pc := 25) C dX5_perhaps_25 rfl 2 rfl ?_
    refine r_aload_n (pc := 26) C dX5_perhaps_26 rfl 0 rfl ?_
    refine r_getI5 (pc := 27) C 14 rfl O_41 (by decide) rfl t_794 dX5_perhaps_27 ?_
    refine r_top (show _ = 0 from rfl) ?_
    refine r_if_eq (pc := 30) C 42 ⟨by omega, by omega⟩ dX5_perhaps_30 (by decide) (fun h30 => ?_) (fun h30 => ?_)
    · skip
      refine r_aload_n (pc := 42) C dX5_perhaps_42 rfl 0 rfl ?_
      refine r_getI5 (pc := 43) C 13 rfl O_41 (by decide) rfl t_793 dX5_perhaps_43 ?_
      refine r_top (show _ = vl (k + 1) from rfl) ?_
      refine r_iast (pc := 46) C i A_42 (by omega) (by omega) dX5_perhaps_46 ?_
      refine r_sg (MS_42 hcx) ?_
      exact r_retv (pc := 47) C (rfl) dX5_perhaps_47
    · skip
      omega
set_option maxHeartbeats 4000000 in
set_option maxRecDepth 100000 in
theorem pe_n (g : Gt) (c : Int) (hc : 0 < c ∧ c ≤ 4900691220) (i kk jj : Nat) (hi2 : i < 147) (hcx : cidx i = (kk, jj)) (hi : Int) (hhi : 0 ≤ hi ∧ hi ≤ 9999) {ty vl : Nat → Int} {pos : Nat → Nat} {K : Nat} (k : Nat) (v : Int) (ρ σ : Sg) (hl : 0 ≤ σ 41 10 ∧ σ 41 10 ≤ 120) (hB : ∀ j, j < 120 → 0 ≤ σ 49 j ∧ σ 49 j ≤ 255) (hV : TV σ ty vl pos K) (hk : k ≤ K) (hx : wdM (σ 49) (σ 41 10).toNat (pos k) 0 = c) (hkK : k < K) (hy : ¬ (ty (k + 1) = 2 ∧ vl (k + 1) ≤ hi)) : Mt g yX5_perhaps cX5_perhaps 5 none 5 [.ref (gA g 41), .long (iL (c)), .int (iI ((i : Int))), .int (iI (hi))] (MS2 σ ((pos k : Nat) : Int) ((tE (σ 49) (σ 41 10).toNat (pos k) : Nat) : Int) v 0 ρ) (pV (PS σ pos (k + 1) (nvv σ ty pos (k + 1)) 1 ρ)) := by
  have hlek := hV.le k hk
  have hwr := wdM_rng (σ 49) (σ 41 10).toNat (pos k) 0
  have hc1 := hc.1; have hc2 := hc.2
  refine mt_of (own := RX5) (by decide) rfl (Nat.le_of_ble_eq_true rfl) (fun E C => ?_)
  show J g E (pV (PS σ pos (k + 1) (nvv σ ty pos (k + 1)) 1 ρ)) 5 0 [(0, .ref (gA g 41)), (1, .long (iL (c))), (3, .int (iI ((i : Int)))), (4, .int (iI (hi)))] [] (MS2 σ ((pos k : Nat) : Int) ((tE (σ 49) (σ 41 10).toNat (pos k) : Nat) : Int) v 0 ρ)
  refine r_aload_n (pc := 0) C dX5_perhaps_0 rfl 0 rfl ?_
  refine r_cVl (pc := 1) C (c_word g (pos k) v 0 (by omega) ρ σ hl hB (by omega)) yX5_word_w O_41 rfl rfl t_1201 ⟨by decide, by decide⟩ (Nat.le_of_ble_eq_true rfl) rfl dX5_perhaps_1 ?_
  have hwd1 := wdM_rng (σ 49) (σ 41 10).toNat (pos k) 0
  refine r_lload_n (pc := 4) C dX5_perhaps_4 rfl 1 rfl ?_
  refine r_lcb_ne (pc := 5) C 47 ⟨by omega, by omega⟩ ⟨by omega, by omega⟩ dX5_perhaps_5 dX5_perhaps_6 (by decide) (fun h5 => ?_) (fun h5 => ?_)
  · skip
    omega
  · skip
    refine r_aload_n (pc := 9) C dX5_perhaps_9 rfl 0 rfl ?_
    refine r_iconst (pc := 10) C dX5_perhaps_10 ?_
    refine r_cVv (pc := 11) C (m_y g k v ρ σ hl hB hV (by omega)) yX5_must_w O_41 rfl rfl t_1218 ⟨by decide, by decide⟩ (Nat.le_of_ble_eq_true rfl) rfl dX5_perhaps_11 ?_
    refine r_aload_n (pc := 14) C dX5_perhaps_14 rfl 0 rfl ?_
    refine r_iconst (pc := 15) C dX5_perhaps_15 ?_
    refine r_iload (pc := 16) C dX5_perhaps_16 3 rfl ?_
    refine r_cVv (pc := 18) C (n_n g (k + 1) hi (by omega) v ρ σ hl hB hV (by omega) hy) yX5_number_w O_41 rfl rfl t_1227 ⟨by decide, by decide⟩ (Nat.le_of_ble_eq_true rfl) rfl dX5_perhaps_18 ?_
    refine r_aload_n (pc := 21) C dX5_perhaps_21 rfl 0 rfl ?_
    refine r_getR5 (pc := 22) C 0 (k' := 42) rfl O_41 (by decide) rfl t_780 dX5_perhaps_22 ?_
    refine r_iload_n (pc := 25) C dX5_perhaps_25 rfl 2 rfl ?_
    refine r_aload_n (pc := 26) C dX5_perhaps_26 rfl 0 rfl ?_
    refine r_getI5 (pc := 27) C 14 rfl O_41 (by decide) rfl t_794 dX5_perhaps_27 ?_
    refine r_top (show _ = 1 from rfl) ?_
    refine r_if_eq (pc := 30) C 42 ⟨by omega, by omega⟩ dX5_perhaps_30 (by decide) (fun h30 => ?_) (fun h30 => ?_)
    · skip
      omega
    · skip
      refine r_aload_n (pc := 33) C dX5_perhaps_33 rfl 0 rfl ?_
      refine r_getR5 (pc := 34) C 0 (k' := 42) rfl O_41 (by decide) rfl t_780 dX5_perhaps_34 ?_
      refine r_iload_n (pc := 37) C dX5_perhaps_37 rfl 2 rfl ?_
      refine r_iald (pc := 38) C i A_42 (by omega) (by omega) dX5_perhaps_38 ?_
      refine r_top (show _ = ρ kk jj from (congrFun (show (MS2 σ ((pos (k + 1) : Nat) : Int) ((tE (σ 49) (σ 41 10).toNat (pos (k + 1)) : Nat) : Int) (nvv σ ty pos (k + 1)) 1 ρ) 42 = mkS ρ from rfl) _).trans (mkS_at hcx)) ?_
      refine r_goto (pc := 39) C 46 dX5_perhaps_39 (by decide) ?_
      refine r_iast (pc := 46) C i A_42 (by omega) (by omega) dX5_perhaps_46 ?_
      refine r_sg (MS_42 hcx) ?_
      exact r_retv (pc := 47) C (by rw [wr_idd]; rfl) dX5_perhaps_47
set_option maxHeartbeats 4000000 in
set_option maxRecDepth 100000 in
theorem pe_w (g : Gt) (c : Int) (hc : 0 < c ∧ c ≤ 4900691220) (i kk jj : Nat) (hi2 : i < 147) (hcx : cidx i = (kk, jj)) (hi : Int) (hhi : 0 ≤ hi ∧ hi ≤ 9999) {ty vl : Nat → Int} {pos : Nat → Nat} {K : Nat} (k : Nat) (v : Int) (ρ σ : Sg) (hl : 0 ≤ σ 41 10 ∧ σ 41 10 ≤ 120) (hB : ∀ j, j < 120 → 0 ≤ σ 49 j ∧ σ 49 j ≤ 255) (hV : TV σ ty vl pos K) (hk : k ≤ K) : Mt g yX5_perhaps cX5_perhaps 5 none 5 [.ref (gA g 41), .long (iL (c)), .int (iI ((i : Int))), .int (iI (hi))] (MS2 σ ((pos k : Nat) : Int) ((tE (σ 49) (σ 41 10).toNat (pos k) : Nat) : Int) v 1 ρ) (pV (PS σ pos k v 1 ρ)) := by
  have hlek := hV.le k hk
  have hwr := wdM_rng (σ 49) (σ 41 10).toNat (pos k) 0
  have hc1 := hc.1; have hc2 := hc.2
  have hw1 := wdM_w (σ 49) (σ 41 10).toNat (pos k)
  refine mt_of (own := RX5) (by decide) rfl (Nat.le_of_ble_eq_true rfl) (fun E C => ?_)
  show J g E (pV (PS σ pos k v 1 ρ)) 5 0 [(0, .ref (gA g 41)), (1, .long (iL (c))), (3, .int (iI ((i : Int)))), (4, .int (iI (hi)))] [] (MS2 σ ((pos k : Nat) : Int) ((tE (σ 49) (σ 41 10).toNat (pos k) : Nat) : Int) v 1 ρ)
  refine r_aload_n (pc := 0) C dX5_perhaps_0 rfl 0 rfl ?_
  refine r_cVl (pc := 1) C (c_word g (pos k) v 1 (by omega) ρ σ hl hB (by omega)) yX5_word_w O_41 rfl rfl t_1201 ⟨by decide, by decide⟩ (Nat.le_of_ble_eq_true rfl) rfl dX5_perhaps_1 ?_
  have hwd1 := wdM_rng (σ 49) (σ 41 10).toNat (pos k) 1
  refine r_lload_n (pc := 4) C dX5_perhaps_4 rfl 1 rfl ?_
  refine r_lcb_ne (pc := 5) C 47 ⟨by omega, by omega⟩ ⟨by omega, by omega⟩ dX5_perhaps_5 dX5_perhaps_6 (by decide) (fun h5 => ?_) (fun h5 => ?_)
  · skip
    exact r_retv (pc := 47) C (rfl) dX5_perhaps_47
  · skip
    omega
