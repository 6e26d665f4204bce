theorem finM_c {σ τ : Sg} (w : Nat) (h : ∀ k, (k ≠ 42 ∧ k ≠ 44 ∧ k ≠ 45 ∧ k ≠ 47 ∧ k ≠ 48 ∧ k ≠ 53) → τ k = σ k) : ∀ k, (k ≠ 42 ∧ k ≠ 44 ∧ k ≠ 45 ∧ k ≠ 47 ∧ k ≠ 48 ∧ k ≠ 53) → finM w τ k = finM w σ k := by
  intro k hk
  unfold finM
  by_cases h1 : k = 46
  · subst h1
    rw [wr_s, wr_s, h 46 hk]
  · rw [wr_n _ _ _ h1, wr_n _ _ _ h1, h k hk]
theorem c_itsw (g : Gt) (t : Nat) (ht : t < 8) (w : Int) (hw : 0 ≤ w ∧ w ≤ 2) (ρ σ : Sg) (hS : σ 42 = mkS ρ) : Mt g yX5_its cX5_its 3 (some FieldType.int) 1 [.ref (gA g 41), .int (iI (t : Int)), .int (iI w)] σ (pI (if w = 0 then ρ 3 t else if w = 1 then ρ 4 t else ρ 5 t) σ) := by
  rcases (show w = 0 ∨ w = 1 ∨ w = 2 by omega) with rfl | rfl | rfl
  · exact c_its_0 g t ht ρ σ hS
  · exact c_its_1 g t ht ρ σ hS
  · exact c_its_2 g t ht ρ σ hS
set_option maxHeartbeats 4000000 in
set_option maxRecDepth 100000 in
theorem e_dust (g : Gt) (x v : Int) (h_x : rng x) (h_v : rng v) (ρ σ : Sg) (hS : σ 42 = mkS ρ) (hW : RW ρ 0) (h6 : σ 41 6 = 255) : Mt g yX5_dust cX5_dust 3 (some FieldType.int) 2 [.ref (gA g 41), .int (iI (x)), .int (iI (v))] σ (pM (if 0 ≤ x ∧ x < 12 ∧ 0 ≤ v ∧ v ≤ 9999 then ρ 1 x.toNat else (-1000001 - ((0 : Nat) : Int))) (if 0 ≤ x ∧ x < 12 ∧ 0 ≤ v ∧ v ≤ 9999 then wr ρ 1 x.toNat v else ρ) (if 0 ≤ x ∧ x < 12 ∧ 0 ≤ v ∧ v ≤ 9999 then σ else finM 0 σ)) := by
  obtain ⟨hn, hfl, hw, hdy, hz, hD_, hK_, hA_, hG_, hM_, hP_⟩ := id hW
  have hD : rgD (ρ 1) := hD_
  have hK : rgK (ρ 3) := hK_
  have hA : rgA (ρ 4) := hA_
  have hG : rgG (ρ 5) := hG_
  have hM : rgM (ρ 6) := hM_
  have hP : ∀ j, j < 10 → -1 ≤ ρ 7 j ∧ ρ 7 j < ρ 0 7 := hP_
  have ho_x := h_x.1; have hp_x := h_x.2
  have ho_v := h_v.1; have hp_v := h_v.2
  refine mt_of (own := RX5) (by decide) rfl (Nat.le_of_ble_eq_true rfl) (fun E C => ?_)
  show J g E (pM (if 0 ≤ x ∧ x < 12 ∧ 0 ≤ v ∧ v ≤ 9999 then ρ 1 x.toNat else (-1000001 - ((0 : Nat) : Int))) (if 0 ≤ x ∧ x < 12 ∧ 0 ≤ v ∧ v ≤ 9999 then wr ρ 1 x.toNat v else ρ) (if 0 ≤ x ∧ x < 12 ∧ 0 ≤ v ∧ v ≤ 9999 then σ else finM 0 σ)) 3 0 [(0, .ref (gA g 41)), (1, .int (iI (x))), (2, .int (iI (v)))] [] σ
  refine r_iload_n (pc := 0) C dX5_dust_0 rfl 1 rfl ?_
  refine r_cSi (pc := 1) C (c_m_isSurface g x h_x σ) yX5_isSurface_w rfl t_842 ⟨by decide, by decide⟩ (Nat.le_of_ble_eq_true rfl) rfl dX5_dust_1 ?_
  refine r_ifz_eq (pc := 4) C 30 dX5_dust_4 (by decide) (fun h4 => ?_) (fun h4 => ?_)
  · skip
    refine r_aload_n (pc := 30) C dX5_dust_30 rfl 0 rfl ?_
    refine r_ldc (pc := 31) C (-1000001) t_854 (by decide) dX5_dust_31 ?_
    refine r_cVi (pc := 33) C (c_finds g 0 (by decide) σ) yX5_finds_w O_41 rfl rfl t_855 ⟨by decide, by decide⟩ (Nat.le_of_ble_eq_true rfl) (by rw [show ((-1000001) : Int) = -1000001 - ((0 : Nat) : Int) by decide]; rfl) dX5_dust_33 ?_
    exact r_retM (pc := 36) C (by first | (exfalso; omega; done) | ((try (first | rw [if_pos (by omega)] | rw [if_neg (by omega)])); (try (first | rw [if_pos (by omega)] | rw [if_neg (by omega)])); (try (first | rw [if_pos (by omega)] | rw [if_neg (by omega)])); (try (first | rw [if_pos (by omega)] | rw [if_neg (by omega)])); (try rfl))) ((((wr_n _ _ _ (by omega)).trans hS)).trans (congrArg mkS (by first | (exfalso; omega; done) | ((try (first | rw [if_pos (by omega)] | rw [if_neg (by omega)])); (try (first | rw [if_pos (by omega)] | rw [if_neg (by omega)])); (try (first | rw [if_pos (by omega)] | rw [if_neg (by omega)])); (try (first | rw [if_pos (by omega)] | rw [if_neg (by omega)])); (try rfl))))) (fun k hk => (rfl).trans (congrFun (by first | (exfalso; omega; done) | ((try (first | rw [if_pos (by omega)] | rw [if_neg (by omega)])); (try (first | rw [if_pos (by omega)] | rw [if_neg (by omega)])); (try (first | rw [if_pos (by omega)] | rw [if_neg (by omega)])); (try (first | rw [if_pos (by omega)] | rw [if_neg (by omega)])); (try rfl))) k)) dX5_dust_36
  · skip
    refine r_iload_n (pc := 7) C dX5_dust_7 rfl 2 rfl ?_
    refine r_i2l (pc := 8) C h_v dX5_dust_8 ?_
    refine r_lconst (pc := 9) C (n := 0) dX5_dust_9 (by decide) ?_
    refine r_ldc2 (pc := 10) C 9999 t_849 (by decide) dX5_dust_10 ?_
    refine r_cSi (pc := 13) C (c_in g v 0 9999 ⟨by have := h_v.1; omega, by have := h_v.2; omega⟩ ⟨by omega, by omega⟩ ⟨by omega, by omega⟩ σ) yX5_in_w rfl t_846 ⟨by decide, by decide⟩ (Nat.le_of_ble_eq_true rfl) rfl dX5_dust_13 ?_
    refine r_ifz_eq (pc := 16) C 30 dX5_dust_16 (by decide) (fun h16 => ?_) (fun h16 => ?_)
    · skip
      refine r_aload_n (pc := 30) C dX5_dust_30 rfl 0 rfl ?_
      refine r_ldc (pc := 31) C (-1000001) t_854 (by decide) dX5_dust_31 ?_
      refine r_cVi (pc := 33) C (c_finds g 0 (by decide) σ) yX5_finds_w O_41 rfl rfl t_855 ⟨by decide, by decide⟩ (Nat.le_of_ble_eq_true rfl) (by rw [show ((-1000001) : Int) = -1000001 - ((0 : Nat) : Int) by decide]; rfl) dX5_dust_33 ?_
      exact r_retM (pc := 36) C (by first | (exfalso; omega; done) | ((try (first | rw [if_pos (by omega)] | rw [if_neg (by omega)])); (try (first | rw [if_pos (by omega)] | rw [if_neg (by omega)])); (try (first | rw [if_pos (by omega)] | rw [if_neg (by omega)])); (try (first | rw [if_pos (by omega)] | rw [if_neg (by omega)])); (try rfl))) ((((wr_n _ _ _ (by omega)).trans hS)).trans (congrArg mkS (by first | (exfalso; omega; done) | ((try (first | rw [if_pos (by omega)] | rw [if_neg (by omega)])); (try (first | rw [if_pos (by omega)] | rw [if_neg (by omega)])); (try (first | rw [if_pos (by omega)] | rw [if_neg (by omega)])); (try (first | rw [if_pos (by omega)] | rw [if_neg (by omega)])); (try rfl))))) (fun k hk => (rfl).trans (congrFun (by first | (exfalso; omega; done) | ((try (first | rw [if_pos (by omega)] | rw [if_neg (by omega)])); (try (first | rw [if_pos (by omega)] | rw [if_neg (by omega)])); (try (first | rw [if_pos (by omega)] | rw [if_neg (by omega)])); (try (first | rw [if_pos (by omega)] | rw [if_neg (by omega)])); (try rfl))) k)) dX5_dust_36
    · skip
      refine r_aload_n (pc := 19) C dX5_dust_19 rfl 0 rfl ?_
      refine r_iconst (pc := 20) C dX5_dust_20 ?_
      refine r_iload_n (pc := 21) C dX5_dust_21 rfl 1 rfl ?_
      refine r_iadd (pc := 22) C dX5_dust_22 ?_
      refine r_iload_n (pc := 23) C dX5_dust_23 rfl 2 rfl ?_
      refine r_cVi (pc := 24) C (c_becomes g (5 + x.toNat) 1 x.toNat (by omega) (cidx_D (by omega)) v ρ σ hS) yX5_becomes_w O_41 rfl rfl t_850 ⟨by decide, by decide⟩ (Nat.le_of_ble_eq_true rfl) (by rw [show 5 + x = (((5 + x.toNat) : Nat) : Int) by omega]; rfl) dX5_dust_24 ?_
      refine r_goto (pc := 27) C 36 dX5_dust_27 (by decide) ?_
      exact r_retM (pc := 36) C (by first | (exfalso; omega; done) | ((try (first | rw [if_pos (by omega)] | rw [if_neg (by omega)])); (try (first | rw [if_pos (by omega)] | rw [if_neg (by omega)])); (try (first | rw [if_pos (by omega)] | rw [if_neg (by omega)])); (try (first | rw [if_pos (by omega)] | rw [if_neg (by omega)])); (try rfl))) (((us_s _ _ _)).trans (congrArg mkS (by first | (exfalso; omega; done) | ((try (first | rw [if_pos (by omega)] | rw [if_neg (by omega)])); (try (first | rw [if_pos (by omega)] | rw [if_neg (by omega)])); (try (first | rw [if_pos (by omega)] | rw [if_neg (by omega)])); (try (first | rw [if_pos (by omega)] | rw [if_neg (by omega)])); (try rfl))))) (fun k hk => (us_n _ _ hk.1).trans (congrFun (by first | (exfalso; omega; done) | ((try (first | rw [if_pos (by omega)] | rw [if_neg (by omega)])); (try (first | rw [if_pos (by omega)] | rw [if_neg (by omega)])); (try (first | rw [if_pos (by omega)] | rw [if_neg (by omega)])); (try (first | rw [if_pos (by omega)] | rw [if_neg (by omega)])); (try rfl))) k)) dX5_dust_36
set_option maxHeartbeats 4000000 in
set_option maxRecDepth 100000 in
theorem e_surface (g : Gt) (x w : Int) (h_x : rng x) (h_w : rng w) (ρ σ : Sg) (hS : σ 42 = mkS ρ) (hW : RW ρ 0) (h6 : σ 41 6 = 255) : Mt g yX5_surface cX5_surface 4 (some FieldType.int) 3 [.ref (gA g 41), .int (iI (x)), .int (iI (w))] σ (pM (if 0 ≤ x ∧ x < 12 ∧ 0 ≤ w ∧ w ≤ 3 then (if w = 0 then ρ 1 x.toNat else if w = 1 then holder (ρ 0 7) (ρ 6) x.toNat else if w = 2 then setF (fun t => decide (ρ 4 t = (x.toNat : Int))) (ρ 0 7).toNat else gmark (ρ 0 7) (ρ 6) x.toNat) else (-1000001 - ((0 : Nat) : Int))) (ρ) (if 0 ≤ x ∧ x < 12 ∧ 0 ≤ w ∧ w ≤ 3 then σ else finM 0 σ)) := by
  obtain ⟨hn, hfl, hw, hdy, hz, hD_, hK_, hA_, hG_, hM_, hP_⟩ := id hW
  have hD : rgD (ρ 1) := hD_
  have hK : rgK (ρ 3) := hK_
  have hA : rgA (ρ 4) := hA_
  have hG : rgG (ρ 5) := hG_
  have hM : rgM (ρ 6) := hM_
  have hP : ∀ j, j < 10 → -1 ≤ ρ 7 j ∧ ρ 7 j < ρ 0 7 := hP_
  have ho_x := h_x.1; have hp_x := h_x.2
  have ho_w := h_w.1; have hp_w := h_w.2
  refine mt_of (own := RX5) (by decide) rfl (Nat.le_of_ble_eq_true rfl) (fun E C => ?_)
  show J g E (pM (if 0 ≤ x ∧ x < 12 ∧ 0 ≤ w ∧ w ≤ 3 then (if w = 0 then ρ 1 x.toNat else if w = 1 then holder (ρ 0 7) (ρ 6) x.toNat else if w = 2 then setF (fun t => decide (ρ 4 t = (x.toNat : Int))) (ρ 0 7).toNat else gmark (ρ 0 7) (ρ 6) x.toNat) else (-1000001 - ((0 : Nat) : Int))) (ρ) (if 0 ≤ x ∧ x < 12 ∧ 0 ≤ w ∧ w ≤ 3 then σ else finM 0 σ)) 4 0 [(0, .ref (gA g 41)), (1, .int (iI (x))), (2, .int (iI (w)))] [] σ
  refine r_iload_n (pc := 0) C dX5_surface_0 rfl 1 rfl ?_
  refine r_cSi (pc := 1) C (c_m_isSurface g x h_x σ) yX5_isSurface_w rfl t_842 ⟨by decide, by decide⟩ (Nat.le_of_ble_eq_true rfl) rfl dX5_surface_1 ?_
  refine r_ifz_eq (pc := 4) C 19 dX5_surface_4 (by decide) (fun h4 => ?_) (fun h4 => ?_)
  · skip
    refine r_aload_n (pc := 19) C dX5_surface_19 rfl 0 rfl ?_
    refine r_ldc (pc := 20) C (-1000001) t_854 (by decide) dX5_surface_20 ?_
    refine r_cVi (pc := 22) C (c_finds g 0 (by decide) σ) yX5_finds_w O_41 rfl rfl t_855 ⟨by decide, by decide⟩ (Nat.le_of_ble_eq_true rfl) (by rw [show ((-1000001) : Int) = -1000001 - ((0 : Nat) : Int) by decide]; rfl) dX5_surface_22 ?_
    exact r_retM (pc := 25) C (by first | (exfalso; omega; done) | ((try (first | rw [if_pos (by omega)] | rw [if_neg (by omega)])); (try (first | rw [if_pos (by omega)] | rw [if_neg (by omega)])); (try (first | rw [if_pos (by omega)] | rw [if_neg (by omega)])); (try (first | rw [if_pos (by omega)] | rw [if_neg (by omega)])); (try (first | rw [if_pos (by omega)] | rw [if_neg (by omega)])); (try rfl))) ((((wr_n _ _ _ (by omega)).trans hS)).trans (congrArg mkS (by first | (exfalso; omega; done) | ((try (first | rw [if_pos (by omega)] | rw [if_neg (by omega)])); (try (first | rw [if_pos (by omega)] | rw [if_neg (by omega)])); (try (first | rw [if_pos (by omega)] | rw [if_neg (by omega)])); (try (first | rw [if_pos (by omega)] | rw [if_neg (by omega)])); (try (first | rw [if_pos (by omega)] | rw [if_neg (by omega)])); (try rfl))))) (fun k hk => (rfl).trans (congrFun (by first | (exfalso; omega; done) | ((try (first | rw [if_pos (by omega)] | rw [if_neg (by omega)])); (try (first | rw [if_pos (by omega)] | rw [if_neg (by omega)])); (try (first | rw [if_pos (by omega)] | rw [if_neg (by omega)])); (try (first | rw [if_pos (by omega)] | rw [if_neg (by omega)])); (try (first | rw [if_pos (by omega)] | rw [if_neg (by omega)])); (try rfl))) k)) dX5_surface_25
  · skip
    refine r_iload_n (pc := 7) C dX5_surface_7 rfl 2 rfl ?_
    refine r_i2l (pc := 8) C h_w dX5_surface_8 ?_
    refine r_lconst (pc := 9) C (n := 0) dX5_surface_9 (by decide) ?_
    refine r_ldc2 (pc := 10) C 3 t_863 (by decide) dX5_surface_10 ?_
    refine r_cSi (pc := 13) C (c_in g w 0 3 ⟨by have := h_w.1; omega, by have := h_w.2; omega⟩ ⟨by omega, by omega⟩ ⟨by omega, by omega⟩ σ) yX5_in_w rfl t_846 ⟨by decide, by decide⟩ (Nat.le_of_ble_eq_true rfl) rfl dX5_surface_13 ?_
    refine r_ifz_ne (pc := 16) C 26 dX5_surface_16 (by decide) (fun h16 => ?_) (fun h16 => ?_)
    · skip
      refine r_aload_n (pc := 26) C dX5_surface_26 rfl 0 rfl ?_
      refine r_iload_n (pc := 27) C dX5_surface_27 rfl 1 rfl ?_
      refine r_cVi (pc := 28) C (c_m_holderOf g x.toNat (by omega) ρ σ hS hn hM) yX5_holderOf_w O_41 rfl rfl t_864 ⟨by decide, by decide⟩ (Nat.le_of_ble_eq_true rfl) (by rw [show ((x.toNat : Nat) : Int) = x by omega]; rfl) dX5_surface_28 ?_
      have hh := holder_rng (ρ 0 7) (ρ 6) x.toNat hn.1
      refine r_istore_n (pc := 31) C dX5_surface_31 rfl (by decide) [1, 2, 3, 0] (lv' := [(0, .ref (gA g 41)), (1, .int (iI (x))), (2, .int (iI (w))), (3, .int (iI (holder (ρ 0 7) (ρ 6) x.toNat)))]) rfl ?_
      refine r_iload_n (pc := 32) C dX5_surface_32 rfl 2 rfl ?_
      by_cases hs33_0 : w = 0
      · refine r_tabIn C 0 60 dX5_surface_33 hs33_0 ⟨by decide, by decide⟩ (by decide) (by decide) rfl (by decide) ?_
        refine r_aload_n (pc := 60) C dX5_surface_60 rfl 0 rfl ?_
        refine r_getR5 (pc := 61) C 0 (k' := 42) rfl O_41 (by decide) rfl t_780 dX5_surface_61 ?_
        refine r_iconst (pc := 64) C dX5_surface_64 ?_
        refine r_iload_n (pc := 65) C dX5_surface_65 rfl 1 rfl ?_
        refine r_iadd (pc := 66) C dX5_surface_66 ?_
        refine r_iald (pc := 67) C (5 + x.toNat) A_42 (by omega) (by omega) dX5_surface_67 ?_
        refine r_top (show _ = ρ 1 x.toNat from (congrFun hS _).trans (mkS_at (cidx_D (by omega)))) ?_
        exact r_retM (pc := 68) C (by first | (exfalso; omega; done) | ((try (first | rw [if_pos (by omega)] | rw [if_neg (by omega)])); (try (first | rw [if_pos (by omega)] | rw [if_neg (by omega)])); (try (first | rw [if_pos (by omega)] | rw [if_neg (by omega)])); (try (first | rw [if_pos (by omega)] | rw [if_neg (by omega)])); (try (first | rw [if_pos (by omega)] | rw [if_neg (by omega)])); (try rfl))) ((hS).trans (congrArg mkS (by first | (exfalso; omega; done) | ((try (first | rw [if_pos (by omega)] | rw [if_neg (by omega)])); (try (first | rw [if_pos (by omega)] | rw [if_neg (by omega)])); (try (first | rw [if_pos (by omega)] | rw [if_neg (by omega)])); (try (first | rw [if_pos (by omega)] | rw [if_neg (by omega)])); (try (first | rw [if_pos (by omega)] | rw [if_neg (by omega)])); (try rfl))))) (fun k hk => (rfl).trans (congrFun (by first | (exfalso; omega; done) | ((try (first | rw [if_pos (by omega)] | rw [if_neg (by omega)])); (try (first | rw [if_pos (by omega)] | rw [if_neg (by omega)])); (try (first | rw [if_pos (by omega)] | rw [if_neg (by omega)])); (try (first | rw [if_pos (by omega)] | rw [if_neg (by omega)])); (try (first | rw [if_pos (by omega)] | rw [if_neg (by omega)])); (try rfl))) k)) dX5_surface_68
      by_cases hs33_1 : w = 1
      · refine r_tabIn C 1 69 dX5_surface_33 hs33_1 ⟨by decide, by decide⟩ (by decide) (by decide) rfl (by decide) ?_
        refine r_iload_n (pc := 69) C dX5_surface_69 rfl 3 rfl ?_
        exact r_retM (pc := 70) C (by first | (exfalso; omega; done) | ((try (first | rw [if_pos (by omega)] | rw [if_neg (by omega)])); (try (first | rw [if_pos (by omega)] | rw [if_neg (by omega)])); (try (first | rw [if_pos (by omega)] | rw [if_neg (by omega)])); (try (first | rw [if_pos (by omega)] | rw [if_neg (by omega)])); (try (first | rw [if_pos (by omega)] | rw [if_neg (by omega)])); (try rfl))) ((hS).trans (congrArg mkS (by first | (exfalso; omega; done) | ((try (first | rw [if_pos (by omega)] | rw [if_neg (by omega)])); (try (first | rw [if_pos (by omega)] | rw [if_neg (by omega)])); (try (first | rw [if_pos (by omega)] | rw [if_neg (by omega)])); (try (first | rw [if_pos (by omega)] | rw [if_neg (by omega)])); (try (first | rw [if_pos (by omega)] | rw [if_neg (by omega)])); (try rfl))))) (fun k hk => (rfl).trans (congrFun (by first | (exfalso; omega; done) | ((try (first | rw [if_pos (by omega)] | rw [if_neg (by omega)])); (try (first | rw [if_pos (by omega)] | rw [if_neg (by omega)])); (try (first | rw [if_pos (by omega)] | rw [if_neg (by omega)])); (try (first | rw [if_pos (by omega)] | rw [if_neg (by omega)])); (try (first | rw [if_pos (by omega)] | rw [if_neg (by omega)])); (try rfl))) k)) dX5_surface_70
      by_cases hs33_2 : w = 2
      · refine r_tabIn C 2 71 dX5_surface_33 hs33_2 ⟨by decide, by decide⟩ (by decide) (by decide) rfl (by decide) ?_
        refine r_aload_n (pc := 71) C dX5_surface_71 rfl 0 rfl ?_
        refine r_iload_n (pc := 72) C dX5_surface_72 rfl 1 rfl ?_
        refine r_cVi (pc := 73) C (c_thoseAt g x.toNat (by omega) ρ σ hS hn hA) yX5_thoseAt_w O_41 rfl rfl t_871 ⟨by decide, by decide⟩ (Nat.le_of_ble_eq_true rfl) (by rw [show ((x.toNat : Nat) : Int) = x by omega]; rfl) dX5_surface_73 ?_
        exact r_retM (pc := 76) C (by first | (exfalso; omega; done) | ((try (first | rw [if_pos (by omega)] | rw [if_neg (by omega)])); (try (first | rw [if_pos (by omega)] | rw [if_neg (by omega)])); (try (first | rw [if_pos (by omega)] | rw [if_neg (by omega)])); (try (first | rw [if_pos (by omega)] | rw [if_neg (by omega)])); (try (first | rw [if_pos (by omega)] | rw [if_neg (by omega)])); (try rfl))) ((hS).trans (congrArg mkS (by first | (exfalso; omega; done) | ((try (first | rw [if_pos (by omega)] | rw [if_neg (by omega)])); (try (first | rw [if_pos (by omega)] | rw [if_neg (by omega)])); (try (first | rw [if_pos (by omega)] | rw [if_neg (by omega)])); (try (first | rw [if_pos (by omega)] | rw [if_neg (by omega)])); (try (first | rw [if_pos (by omega)] | rw [if_neg (by omega)])); (try rfl))))) (fun k hk => (rfl).trans (congrFun (by first | (exfalso; omega; done) | ((try (first | rw [if_pos (by omega)] | rw [if_neg (by omega)])); (try (first | rw [if_pos (by omega)] | rw [if_neg (by omega)])); (try (first | rw [if_pos (by omega)] | rw [if_neg (by omega)])); (try (first | rw [if_pos (by omega)] | rw [if_neg (by omega)])); (try (first | rw [if_pos (by omega)] | rw [if_neg (by omega)])); (try rfl))) k)) dX5_surface_76
      refine r_tabOut (pc := 33) C 77 dX5_surface_33 h_w (by omega) (by decide) ?_
      refine r_iload_n (pc := 77) C dX5_surface_77 rfl 3 rfl ?_
      refine r_if_ge (pc := 78) C 85 ⟨by omega, by omega⟩ dX5_surface_78 (by decide) (fun h78 => ?_) (fun h78 => ?_)
      · skip
        refine r_aload_n (pc := 85) C dX5_surface_85 rfl 0 rfl ?_
        refine r_getR5 (pc := 86) C 0 (k' := 42) rfl O_41 (by decide) rfl t_780 dX5_surface_86 ?_
        refine r_iload_n (pc := 89) C dX5_surface_89 rfl 3 rfl ?_
        refine r_iload_n (pc := 90) C dX5_surface_90 rfl 1 rfl ?_
        refine r_cSi (pc := 91) C (c_markAt g (holder (ρ 0 7) (ρ 6) x.toNat) x σ) yX5_markAt_w rfl t_868 ⟨by decide, by decide⟩ (Nat.le_of_ble_eq_true rfl) rfl dX5_surface_91 ?_
        refine r_iald (pc := 94) C (41 + (12 * ((holder (ρ 0 7) (ρ 6) x.toNat).toNat) + x.toNat)) A_42 (by omega) (by omega) dX5_surface_94 ?_
        refine r_top (show _ = ρ 6 (12 * ((holder (ρ 0 7) (ρ 6) x.toNat).toNat) + x.toNat) from (congrFun hS _).trans (mkS_at (cidx_M (by omega)))) ?_
        exact r_retM (pc := 95) C (by unfold gmark; (try (first | rw [if_pos (by omega)] | rw [if_neg (by omega)])); (try (first | rw [if_pos (by omega)] | rw [if_neg (by omega)])); (try (first | rw [if_pos (by omega)] | rw [if_neg (by omega)])); (try (first | rw [if_pos (by omega)] | rw [if_neg (by omega)])); (try (first | rw [if_pos (by omega)] | rw [if_neg (by omega)])); (try rfl)) ((hS).trans (congrArg mkS (by first | (exfalso; omega; done) | ((try (first | rw [if_pos (by omega)] | rw [if_neg (by omega)])); (try (first | rw [if_pos (by omega)] | rw [if_neg (by omega)])); (try (first | rw [if_pos (by omega)] | rw [if_neg (by omega)])); (try (first | rw [if_pos (by omega)] | rw [if_neg (by omega)])); (try (first | rw [if_pos (by omega)] | rw [if_neg (by omega)])); (try rfl))))) (fun k hk => (rfl).trans (congrFun (by first | (exfalso; omega; done) | ((try (first | rw [if_pos (by omega)] | rw [if_neg (by omega)])); (try (first | rw [if_pos (by omega)] | rw [if_neg (by omega)])); (try (first | rw [if_pos (by omega)] | rw [if_neg (by omega)])); (try (first | rw [if_pos (by omega)] | rw [if_neg (by omega)])); (try (first | rw [if_pos (by omega)] | rw [if_neg (by omega)])); (try rfl))) k)) dX5_surface_95
      · skip
        refine r_iconst (pc := 81) C dX5_surface_81 ?_
        refine r_goto (pc := 82) C 95 dX5_surface_82 (by decide) ?_
        exact r_retM (pc := 95) C (by unfold gmark; (try (first | rw [if_pos (by omega)] | rw [if_neg (by omega)])); (try (first | rw [if_pos (by omega)] | rw [if_neg (by omega)])); (try (first | rw [if_pos (by omega)] | rw [if_neg (by omega)])); (try (first | rw [if_pos (by omega)] | rw [if_neg (by omega)])); (try (first | rw [if_pos (by omega)] | rw [if_neg (by omega)])); (try rfl)) ((hS).trans (congrArg mkS (by first | (exfalso; omega; done) | ((try (first | rw [if_pos (by omega)] | rw [if_neg (by omega)])); (try (first | rw [if_pos (by omega)] | rw [if_neg (by omega)])); (try (first | rw [if_pos (by omega)] | rw [if_neg (by omega)])); (try (first | rw [if_pos (by omega)] | rw [if_neg (by omega)])); (try (first | rw [if_pos (by omega)] | rw [if_neg (by omega)])); (try rfl))))) (fun k hk => (rfl).trans (congrFun (by first | (exfalso; omega; done) | ((try (first | rw [if_pos (by omega)] | rw [if_neg (by omega)])); (try (first | rw [if_pos (by omega)] | rw [if_neg (by omega)])); (try (first | rw [if_pos (by omega)] | rw [if_neg (by omega)])); (try (first | rw [if_pos (by omega)] | rw [if_neg (by omega)])); (try (first | rw [if_pos (by omega)] | rw [if_neg (by omega)])); (try rfl))) k)) dX5_surface_95
    · skip
      refine r_aload_n (pc := 19) C dX5_surface_19 rfl 0 rfl ?_
      refine r_ldc (pc := 20) C (-1000001) t_854 (by decide) dX5_surface_20 ?_
      refine r_cVi (pc := 22) C (c_finds g 0 (by decide) σ) yX5_finds_w O_41 rfl rfl t_855 ⟨by decide, by decide⟩ (Nat.le_of_ble_eq_true rfl) (by rw [show ((-1000001) : Int) = -1000001 - ((0 : Nat) : Int) by decide]; rfl) dX5_surface_22 ?_
      exact r_retM (pc := 25) C (by first | (exfalso; omega; done) | ((try (first | rw [if_pos (by omega)] | rw [if_neg (by omega)])); (try (first | rw [if_pos (by omega)] | rw [if_neg (by omega)])); (try (first | rw [if_pos (by omega)] | rw [if_neg (by omega)])); (try (first | rw [if_pos (by omega)] | rw [if_neg (by omega)])); (try (first | rw [if_pos (by omega)] | rw [if_neg (by omega)])); (try rfl))) ((((wr_n _ _ _ (by omega)).trans hS)).trans (congrArg mkS (by first | (exfalso; omega; done) | ((try (first | rw [if_pos (by omega)] | rw [if_neg (by omega)])); (try (first | rw [if_pos (by omega)] | rw [if_neg (by omega)])); (try (first | rw [if_pos (by omega)] | rw [if_neg (by omega)])); (try (first | rw [if_pos (by omega)] | rw [if_neg (by omega)])); (try (first | rw [if_pos (by omega)] | rw [if_neg (by omega)])); (try rfl))))) (fun k hk => (rfl).trans (congrFun (by first | (exfalso; omega; done) | ((try (first | rw [if_pos (by omega)] | rw [if_neg (by omega)])); (try (first | rw [if_pos (by omega)] | rw [if_neg (by omega)])); (try (first | rw [if_pos (by omega)] | rw [if_neg (by omega)])); (try (first | rw [if_pos (by omega)] | rw [if_neg (by omega)])); (try (first | rw [if_pos (by omega)] | rw [if_neg (by omega)])); (try rfl))) k)) dX5_surface_25
set_option maxHeartbeats 4000000 in
set_option maxRecDepth 100000 in
theorem e_law (g : Gt) (w v : Int) (h_w : rng w) (h_v : rng v) (ρ σ : Sg) (hS : σ 42 = mkS ρ) (hW : RW ρ 0) (h6 : σ 41 6 = 255) : Mt g yX5_law cX5_law 4 (some FieldType.int) 1 [.ref (gA g 41), .int (iI (w)), .int (iI (v))] σ (pM (if w = 0 ∧ 0 ≤ v ∧ v ≤ 99 then ρ 0 8 else if w = 1 ∧ -3 ≤ v ∧ v ≤ 3 then ρ 0 9 else (-1000001 - ((0 : Nat) : Int))) (if w = 0 ∧ 0 ≤ v ∧ v ≤ 99 then wr ρ 0 8 v else if w = 1 ∧ -3 ≤ v ∧ v ≤ 3 then wr ρ 0 9 v else ρ) (if (w = 0 ∧ 0 ≤ v ∧ v ≤ 99) ∨ (w = 1 ∧ -3 ≤ v ∧ v ≤ 3) then σ else finM 0 σ)) := by
  obtain ⟨hn, hfl, hw, hdy, hz, hD_, hK_, hA_, hG_, hM_, hP_⟩ := id hW
  have hD : rgD (ρ 1) := hD_
  have hK : rgK (ρ 3) := hK_
  have hA : rgA (ρ 4) := hA_
  have hG : rgG (ρ 5) := hG_
  have hM : rgM (ρ 6) := hM_
  have hP : ∀ j, j < 10 → -1 ≤ ρ 7 j ∧ ρ 7 j < ρ 0 7 := hP_
  have ho_w := h_w.1; have hp_w := h_w.2
  have ho_v := h_v.1; have hp_v := h_v.2
  refine mt_of (own := RX5) (by decide) rfl (Nat.le_of_ble_eq_true rfl) (fun E C => ?_)
  show J g E (pM (if w = 0 ∧ 0 ≤ v ∧ v ≤ 99 then ρ 0 8 else if w = 1 ∧ -3 ≤ v ∧ v ≤ 3 then ρ 0 9 else (-1000001 - ((0 : Nat) : Int))) (if w = 0 ∧ 0 ≤ v ∧ v ≤ 99 then wr ρ 0 8 v else if w = 1 ∧ -3 ≤ v ∧ v ≤ 3 then wr ρ 0 9 v else ρ) (if (w = 0 ∧ 0 ≤ v ∧ v ≤ 99) ∨ (w = 1 ∧ -3 ≤ v ∧ v ≤ 3) then σ else finM 0 σ)) 4 0 [(0, .ref (gA g 41)), (1, .int (iI (w))), (2, .int (iI (v)))] [] σ
  refine r_iload_n (pc := 0) C dX5_law_0 rfl 1 rfl ?_
  refine r_if_ne (pc := 1) C 16 h_w dX5_law_1 (by decide) (fun h1 => ?_) (fun h1 => ?_)
  · skip
    refine r_iload_n (pc := 16) C dX5_law_16 rfl 1 rfl ?_
    refine r_iconst (pc := 17) C dX5_law_17 ?_
    refine r_icmp_ne (pc := 18) C 39 h_w ⟨by omega, by omega⟩ dX5_law_18 (by decide) (fun h18 => ?_) (fun h18 => ?_)
    · skip
      refine r_iconst (pc := 39) C dX5_law_39 ?_
      refine r_istore_n (pc := 40) C dX5_law_40 rfl (by decide) [1, 2, 3, 0] (lv' := [(0, .ref (gA g 41)), (1, .int (iI (w))), (2, .int (iI (v))), (3, .int (iI (0)))]) rfl ?_
      refine r_iload_n (pc := 41) C dX5_law_41 rfl 3 rfl ?_
      refine r_if_eq (pc := 42) C 62 ⟨by omega, by omega⟩ dX5_law_42 (by decide) (fun h42 => ?_) (fun h42 => ?_)
      · skip
        refine r_aload_n (pc := 62) C dX5_law_62 rfl 0 rfl ?_
        refine r_ldc (pc := 63) C (-1000001) t_854 (by decide) dX5_law_63 ?_
        refine r_cVi (pc := 65) C (c_finds g 0 (by decide) σ) yX5_finds_w O_41 rfl rfl t_855 ⟨by decide, by decide⟩ (Nat.le_of_ble_eq_true rfl) (by rw [show ((-1000001) : Int) = -1000001 - ((0 : Nat) : Int) by decide]; rfl) dX5_law_65 ?_
        exact r_retM (pc := 68) C (by first | (exfalso; omega; done) | ((try (first | rw [if_pos (by omega)] | rw [if_neg (by omega)])); (try (first | rw [if_pos (by omega)] | rw [if_neg (by omega)])); (try (first | rw [if_pos (by omega)] | rw [if_neg (by omega)])); (try (first | rw [if_pos (by omega)] | rw [if_neg (by omega)])); (try rfl))) ((((wr_n _ _ _ (by omega)).trans hS)).trans (congrArg mkS (by first | (exfalso; omega; done) | ((try (first | rw [if_pos (by omega)] | rw [if_neg (by omega)])); (try (first | rw [if_pos (by omega)] | rw [if_neg (by omega)])); (try (first | rw [if_pos (by omega)] | rw [if_neg (by omega)])); (try (first | rw [if_pos (by omega)] | rw [if_neg (by omega)])); (try rfl))))) (fun k hk => (rfl).trans (congrFun (by first | (exfalso; omega; done) | ((try (first | rw [if_pos (by omega)] | rw [if_neg (by omega)])); (try (first | rw [if_pos (by omega)] | rw [if_neg (by omega)])); (try (first | rw [if_pos (by omega)] | rw [if_neg (by omega)])); (try (first | rw [if_pos (by omega)] | rw [if_neg (by omega)])); (try rfl))) k)) dX5_law_68
      · skip
        refine r_aload_n (pc := 45) C dX5_law_45 rfl 0 rfl ?_
        refine r_iload_n (pc := 46) C dX5_law_46 rfl 1 rfl ?_
        refine r_if_ne (pc := 47) C 54 h_w dX5_law_47 (by decide) (fun h47 => ?_) (fun h47 => ?_)
        · skip
          refine r_iconst (pc := 54) C dX5_law_54 ?_
          refine r_iload_n (pc := 55) C dX5_law_55 rfl 2 rfl ?_
          refine r_cVi (pc := 56) C (c_becomes g 3 0 9 (by omega) rfl v ρ σ hS) yX5_becomes_w O_41 rfl rfl t_850 ⟨by decide, by decide⟩ (Nat.le_of_ble_eq_true rfl) rfl dX5_law_56 ?_
          refine r_goto (pc := 59) C 68 dX5_law_59 (by decide) ?_
          exact r_retM (pc := 68) C (by first | (exfalso; omega; done) | ((try (first | rw [if_pos (by omega)] | rw [if_neg (by omega)])); (try (first | rw [if_pos (by omega)] | rw [if_neg (by omega)])); (try (first | rw [if_pos (by omega)] | rw [if_neg (by omega)])); (try (first | rw [if_pos (by omega)] | rw [if_neg (by omega)])); (try rfl))) (((us_s _ _ _)).trans (congrArg mkS (by first | (exfalso; omega; done) | ((try (first | rw [if_pos (by omega)] | rw [if_neg (by omega)])); (try (first | rw [if_pos (by omega)] | rw [if_neg (by omega)])); (try (first | rw [if_pos (by omega)] | rw [if_neg (by omega)])); (try (first | rw [if_pos (by omega)] | rw [if_neg (by omega)])); (try rfl))))) (fun k hk => (us_n _ _ hk.1).trans (congrFun (by first | (exfalso; omega; done) | ((try (first | rw [if_pos (by omega)] | rw [if_neg (by omega)])); (try (first | rw [if_pos (by omega)] | rw [if_neg (by omega)])); (try (first | rw [if_pos (by omega)] | rw [if_neg (by omega)])); (try (first | rw [if_pos (by omega)] | rw [if_neg (by omega)])); (try rfl))) k)) dX5_law_68
        · skip
          refine r_iconst (pc := 50) C dX5_law_50 ?_
          refine r_goto (pc := 51) C 55 dX5_law_51 (by decide) ?_
          refine r_iload_n (pc := 55) C dX5_law_55 rfl 2 rfl ?_
          refine r_cVi (pc := 56) C (c_becomes g 2 0 8 (by omega) rfl v ρ σ hS) yX5_becomes_w O_41 rfl rfl t_850 ⟨by decide, by decide⟩ (Nat.le_of_ble_eq_true rfl) rfl dX5_law_56 ?_
          refine r_goto (pc := 59) C 68 dX5_law_59 (by decide) ?_
          exact r_retM (pc := 68) C (by first | (exfalso; omega; done) | ((try (first | rw [if_pos (by omega)] | rw [if_neg (by omega)])); (try (first | rw [if_pos (by omega)] | rw [if_neg (by omega)])); (try (first | rw [if_pos (by omega)] | rw [if_neg (by omega)])); (try (first | rw [if_pos (by omega)] | rw [if_neg (by omega)])); (try rfl))) (((us_s _ _ _)).trans (congrArg mkS (by first | (exfalso; omega; done) | ((try (first | rw [if_pos (by omega)] | rw [if_neg (by omega)])); (try (first | rw [if_pos (by omega)] | rw [if_neg (by omega)])); (try (first | rw [if_pos (by omega)] | rw [if_neg (by omega)])); (try (first | rw [if_pos (by omega)] | rw [if_neg (by omega)])); (try rfl))))) (fun k hk => (us_n _ _ hk.1).trans (congrFun (by first | (exfalso; omega; done) | ((try (first | rw [if_pos (by omega)] | rw [if_neg (by omega)])); (try (first | rw [if_pos (by omega)] | rw [if_neg (by omega)])); (try (first | rw [if_pos (by omega)] | rw [if_neg (by omega)])); (try (first | rw [if_pos (by omega)] | rw [if_neg (by omega)])); (try rfl))) k)) dX5_law_68
    · skip
      refine r_iload_n (pc := 21) C dX5_law_21 rfl 2 rfl ?_
      refine r_i2l (pc := 22) C h_v dX5_law_22 ?_
      refine r_ldc2 (pc := 23) C (-3) t_887 (by decide) dX5_law_23 ?_
      refine r_ldc2 (pc := 26) C 3 t_863 (by decide) dX5_law_26 ?_
      refine r_cSi (pc := 29) C (c_in g v (-3) 3 ⟨by have := h_v.1; omega, by have := h_v.2; omega⟩ ⟨by omega, by omega⟩ ⟨by omega, by omega⟩ σ) yX5_in_w rfl t_846 ⟨by decide, by decide⟩ (Nat.le_of_ble_eq_true rfl) rfl dX5_law_29 ?_
      refine r_ifz_eq (pc := 32) C 39 dX5_law_32 (by decide) (fun h32 => ?_) (fun h32 => ?_)
      · skip
        refine r_iconst (pc := 39) C dX5_law_39 ?_
        refine r_istore_n (pc := 40) C dX5_law_40 rfl (by decide) [1, 2, 3, 0] (lv' := [(0, .ref (gA g 41)), (1, .int (iI (w))), (2, .int (iI (v))), (3, .int (iI (0)))]) rfl ?_
        refine r_iload_n (pc := 41) C dX5_law_41 rfl 3 rfl ?_
        refine r_if_eq (pc := 42) C 62 ⟨by omega, by omega⟩ dX5_law_42 (by decide) (fun h42 => ?_) (fun h42 => ?_)
        · skip
          refine r_aload_n (pc := 62) C dX5_law_62 rfl 0 rfl ?_
          refine r_ldc (pc := 63) C (-1000001) t_854 (by decide) dX5_law_63 ?_
          refine r_cVi (pc := 65) C (c_finds g 0 (by decide) σ) yX5_finds_w O_41 rfl rfl t_855 ⟨by decide, by decide⟩ (Nat.le_of_ble_eq_true rfl) (by rw [show ((-1000001) : Int) = -1000001 - ((0 : Nat) : Int) by decide]; rfl) dX5_law_65 ?_
          exact r_retM (pc := 68) C (by first | (exfalso; omega; done) | ((try (first | rw [if_pos (by omega)] | rw [if_neg (by omega)])); (try (first | rw [if_pos (by omega)] | rw [if_neg (by omega)])); (try (first | rw [if_pos (by omega)] | rw [if_neg (by omega)])); (try (first | rw [if_pos (by omega)] | rw [if_neg (by omega)])); (try rfl))) ((((wr_n _ _ _ (by omega)).trans hS)).trans (congrArg mkS (by first | (exfalso; omega; done) | ((try (first | rw [if_pos (by omega)] | rw [if_neg (by omega)])); (try (first | rw [if_pos (by omega)] | rw [if_neg (by omega)])); (try (first | rw [if_pos (by omega)] | rw [if_neg (by omega)])); (try (first | rw [if_pos (by omega)] | rw [if_neg (by omega)])); (try rfl))))) (fun k hk => (rfl).trans (congrFun (by first | (exfalso; omega; done) | ((try (first | rw [if_pos (by omega)] | rw [if_neg (by omega)])); (try (first | rw [if_pos (by omega)] | rw [if_neg (by omega)])); (try (first | rw [if_pos (by omega)] | rw [if_neg (by omega)])); (try (first | rw [if_pos (by omega)] | rw [if_neg (by omega)])); (try rfl))) k)) dX5_law_68
        · skip
          refine r_aload_n (pc := 45) C dX5_law_45 rfl 0 rfl ?_
          refine r_iload_n (pc := 46) C dX5_law_46 rfl 1 rfl ?_
          refine r_if_ne (pc := 47) C 54 h_w dX5_law_47 (by decide) (fun h47 => ?_) (fun h47 => ?_)
          · skip
            refine r_iconst (pc := 54) C dX5_law_54 ?_
            refine r_iload_n (pc := 55) C dX5_law_55 rfl 2 rfl ?_
            refine r_cVi (pc := 56) C (c_becomes g 3 0 9 (by omega) rfl v ρ σ hS) yX5_becomes_w O_41 rfl rfl t_850 ⟨by decide, by decide⟩ (Nat.le_of_ble_eq_true rfl) rfl dX5_law_56 ?_
            refine r_goto (pc := 59) C 68 dX5_law_59 (by decide) ?_
            exact r_retM (pc := 68) C (by first | (exfalso; omega; done) | ((try (first | rw [if_pos (by omega)] | rw [if_neg (by omega)])); (try (first | rw [if_pos (by omega)] | rw [if_neg (by omega)])); (try (first | rw [if_pos (by omega)] | rw [if_neg (by omega)])); (try (first | rw [if_pos (by omega)] | rw [if_neg (by omega)])); (try rfl))) (((us_s _ _ _)).trans (congrArg mkS (by first | (exfalso; omega; done) | ((try (first | rw [if_pos (by omega)] | rw [if_neg (by omega)])); (try (first | rw [if_pos (by omega)] | rw [if_neg (by omega)])); (try (first | rw [if_pos (by omega)] | rw [if_neg (by omega)])); (try (first | rw [if_pos (by omega)] | rw [if_neg (by omega)])); (try rfl))))) (fun k hk => (us_n _ _ hk.1).trans (congrFun (by first | (exfalso; omega; done) | ((try (first | rw [if_pos (by omega)] | rw [if_neg (by omega)])); (try (first | rw [if_pos (by omega)] | rw [if_neg (by omega)])); (try (first | rw [if_pos (by omega)] | rw [if_neg (by omega)])); (try (first | rw [if_pos (by omega)] | rw [if_neg (by omega)])); (try rfl))) k)) dX5_law_68
          · skip
            refine r_iconst (pc := 50) C dX5_law_50 ?_
            refine r_goto (pc := 51) C 55 dX5_law_51 (by decide) ?_
            refine r_iload_n (pc := 55) C dX5_law_55 rfl 2 rfl ?_
            refine r_cVi (pc := 56) C (c_becomes g 2 0 8 (by omega) rfl v ρ σ hS) yX5_becomes_w O_41 rfl rfl t_850 ⟨by decide, by decide⟩ (Nat.le_of_ble_eq_true rfl) rfl dX5_law_56 ?_
            refine r_goto (pc := 59) C 68 dX5_law_59 (by decide) ?_
            exact r_retM (pc := 68) C (by first | (exfalso; omega; done) | ((try (first | rw [if_pos (by omega)] | rw [if_neg (by omega)])); (try (first | rw [if_pos (by omega)] | rw [if_neg (by omega)])); (try (first | rw [if_pos (by omega)] | rw [if_neg (by omega)])); (try (first | rw [if_pos (by omega)] | rw [if_neg (by omega)])); (try rfl))) (((us_s _ _ _)).trans (congrArg mkS (by first | (exfalso; omega; done) | ((try (first | rw [if_pos (by omega)] | rw [if_neg (by omega)])); (try (first | rw [if_pos (by omega)] | rw [if_neg (by omega)])); (try (first | rw [if_pos (by omega)] | rw [if_neg (by omega)])); (try (first | rw [if_pos (by omega)] | rw [if_neg (by omega)])); (try rfl))))) (fun k hk => (us_n _ _ hk.1).trans (congrFun (by first | (exfalso; omega; done) | ((try (first | rw [if_pos (by omega)] | rw [if_neg (by omega)])); (try (first | rw [if_pos (by omega)] | rw [if_neg (by omega)])); (try (first | rw [if_pos (by omega)] | rw [if_neg (by omega)])); (try (first | rw [if_pos (by omega)] | rw [if_neg (by omega)])); (try rfl))) k)) dX5_law_68
      · skip
        refine r_iconst (pc := 35) C dX5_law_35 ?_
        refine r_goto (pc := 36) C 40 dX5_law_36 (by decide) ?_
        refine r_istore_n (pc := 40) C dX5_law_40 rfl (by decide) [1, 2, 3, 0] (lv' := [(0, .ref (gA g 41)), (1, .int (iI (w))), (2, .int (iI (v))), (3, .int (iI (1)))]) rfl ?_
        refine r_iload_n (pc := 41) C dX5_law_41 rfl 3 rfl ?_
        refine r_if_eq (pc := 42) C 62 ⟨by omega, by omega⟩ dX5_law_42 (by decide) (fun h42 => ?_) (fun h42 => ?_)
        · skip
          refine r_aload_n (pc := 62) C dX5_law_62 rfl 0 rfl ?_
          refine r_ldc (pc := 63) C (-1000001) t_854 (by decide) dX5_law_63 ?_
          refine r_cVi (pc := 65) C (c_finds g 0 (by decide) σ) yX5_finds_w O_41 rfl rfl t_855 ⟨by decide, by decide⟩ (Nat.le_of_ble_eq_true rfl) (by rw [show ((-1000001) : Int) = -1000001 - ((0 : Nat) : Int) by decide]; rfl) dX5_law_65 ?_
          exact r_retM (pc := 68) C (by first | (exfalso; omega; done) | ((try (first | rw [if_pos (by omega)] | rw [if_neg (by omega)])); (try (first | rw [if_pos (by omega)] | rw [if_neg (by omega)])); (try (first | rw [if_pos (by omega)] | rw [if_neg (by omega)])); (try (first | rw [if_pos (by omega)] | rw [if_neg (by omega)])); (try rfl))) ((((wr_n _ _ _ (by omega)).trans hS)).trans (congrArg mkS (by first | (exfalso; omega; done) | ((try (first | rw [if_pos (by omega)] | rw [if_neg (by omega)])); (try (first | rw [if_pos (by omega)] | rw [if_neg (by omega)])); (try (first | rw [if_pos (by omega)] | rw [if_neg (by omega)])); (try (first | rw [if_pos (by omega)] | rw [if_neg (by omega)])); (try rfl))))) (fun k hk => (rfl).trans (congrFun (by first | (exfalso; omega; done) | ((try (first | rw [if_pos (by omega)] | rw [if_neg (by omega)])); (try (first | rw [if_pos (by omega)] | rw [if_neg (by omega)])); (try (first | rw [if_pos (by omega)] | rw [if_neg (by omega)])); (try (first | rw [if_pos (by omega)] | rw [if_neg (by omega)])); (try rfl))) k)) dX5_law_68
        · skip
          refine r_aload_n (pc := 45) C dX5_law_45 rfl 0 rfl ?_
          refine r_iload_n (pc := 46) C dX5_law_46 rfl 1 rfl ?_
          refine r_if_ne (pc := 47) C 54 h_w dX5_law_47 (by decide) (fun h47 => ?_) (fun h47 => ?_)
          · skip
            refine r_iconst (pc := 54) C dX5_law_54 ?_
            refine r_iload_n (pc := 55) C dX5_law_55 rfl 2 rfl ?_
            refine r_cVi (pc := 56) C (c_becomes g 3 0 9 (by omega) rfl v ρ σ hS) yX5_becomes_w O_41 rfl rfl t_850 ⟨by decide, by decide⟩ (Nat.le_of_ble_eq_true rfl) rfl dX5_law_56 ?_
            refine r_goto (pc := 59) C 68 dX5_law_59 (by decide) ?_
            exact r_retM (pc := 68) C (by first | (exfalso; omega; done) | ((try (first | rw [if_pos (by omega)] | rw [if_neg (by omega)])); (try (first | rw [if_pos (by omega)] | rw [if_neg (by omega)])); (try (first | rw [if_pos (by omega)] | rw [if_neg (by omega)])); (try (first | rw [if_pos (by omega)] | rw [if_neg (by omega)])); (try rfl))) (((us_s _ _ _)).trans (congrArg mkS (by first | (exfalso; omega; done) | ((try (first | rw [if_pos (by omega)] | rw [if_neg (by omega)])); (try (first | rw [if_pos (by omega)] | rw [if_neg (by omega)])); (try (first | rw [if_pos (by omega)] | rw [if_neg (by omega)])); (try (first | rw [if_pos (by omega)] | rw [if_neg (by omega)])); (try rfl))))) (fun k hk => (us_n _ _ hk.1).trans (congrFun (by first | (exfalso; omega; done) | ((try (first | rw [if_pos (by omega)] | rw [if_neg (by omega)])); (try (first | rw [if_pos (by omega)] | rw [if_neg (by omega)])); (try (first | rw [if_pos (by omega)] | rw [if_neg (by omega)])); (try (first | rw [if_pos (by omega)] | rw [if_neg (by omega)])); (try rfl))) k)) dX5_law_68
          · skip
            refine r_iconst (pc := 50) C dX5_law_50 ?_
            refine r_goto (pc := 51) C 55 dX5_law_51 (by decide) ?_
            refine r_iload_n (pc := 55) C dX5_law_55 rfl 2 rfl ?_
            refine r_cVi (pc := 56) C (c_becomes g 2 0 8 (by omega) rfl v ρ σ hS) yX5_becomes_w O_41 rfl rfl t_850 ⟨by decide, by decide⟩ (Nat.le_of_ble_eq_true rfl) rfl dX5_law_56 ?_
            refine r_goto (pc := 59) C 68 dX5_law_59 (by decide) ?_
            exact r_retM (pc := 68) C (by first | (exfalso; omega; done) | ((try (first | rw [if_pos (by omega)] | rw [if_neg (by omega)])); (try (first | rw [if_pos (by omega)] | rw [if_neg (by omega)])); (try (first | rw [if_pos (by omega)] | rw [if_neg (by omega)])); (try (first | rw [if_pos (by omega)] | rw [if_neg (by omega)])); (try rfl))) (((us_s _ _ _)).trans (congrArg mkS (by first | (exfalso; omega; done) | ((try (first | rw [if_pos (by omega)] | rw [if_neg (by omega)])); (try (first | rw [if_pos (by omega)] | rw [if_neg (by omega)])); (try (first | rw [if_pos (by omega)] | rw [if_neg (by omega)])); (try (first | rw [if_pos (by omega)] | rw [if_neg (by omega)])); (try rfl))))) (fun k hk => (us_n _ _ hk.1).trans (congrFun (by first | (exfalso; omega; done) | ((try (first | rw [if_pos (by omega)] | rw [if_neg (by omega)])); (try (first | rw [if_pos (by omega)] | rw [if_neg (by omega)])); (try (first | rw [if_pos (by omega)] | rw [if_neg (by omega)])); (try (first | rw [if_pos (by omega)] | rw [if_neg (by omega)])); (try rfl))) k)) dX5_law_68
  · skip
    refine r_iload_n (pc := 4) C dX5_law_4 rfl 2 rfl ?_
    refine r_i2l (pc := 5) C h_v dX5_law_5 ?_
    refine r_lconst (pc := 6) C (n := 0) dX5_law_6 (by decide) ?_
    refine r_ldc2 (pc := 7) C 99 t_886 (by decide) dX5_law_7 ?_
    refine r_cSi (pc := 10) C (c_in g v 0 99 ⟨by have := h_v.1; omega, by have := h_v.2; omega⟩ ⟨by omega, by omega⟩ ⟨by omega, by omega⟩ σ) yX5_in_w rfl t_846 ⟨by decide, by decide⟩ (Nat.le_of_ble_eq_true rfl) rfl dX5_law_10 ?_
    refine r_goto (pc := 13) C 40 dX5_law_13 (by decide) ?_
    refine r_istore_n (pc := 40) C dX5_law_40 rfl (by decide) [1, 2, 3, 0] (lv' := [(0, .ref (gA g 41)), (1, .int (iI (w))), (2, .int (iI (v))), (3, .int (iI (b01 (0 ≤ v ∧ v ≤ 99))))]) rfl ?_
    refine r_iload_n (pc := 41) C dX5_law_41 rfl 3 rfl ?_
    refine r_ifz_eq (pc := 42) C 62 dX5_law_42 (by decide) (fun h42 => ?_) (fun h42 => ?_)
    · skip
      refine r_aload_n (pc := 62) C dX5_law_62 rfl 0 rfl ?_
      refine r_ldc (pc := 63) C (-1000001) t_854 (by decide) dX5_law_63 ?_
      refine r_cVi (pc := 65) C (c_finds g 0 (by decide) σ) yX5_finds_w O_41 rfl rfl t_855 ⟨by decide, by decide⟩ (Nat.le_of_ble_eq_true rfl) (by rw [show ((-1000001) : Int) = -1000001 - ((0 : Nat) : Int) by decide]; rfl) dX5_law_65 ?_
      exact r_retM (pc := 68) C (by first | (exfalso; omega; done) | ((try (first | rw [if_pos (by omega)] | rw [if_neg (by omega)])); (try (first | rw [if_pos (by omega)] | rw [if_neg (by omega)])); (try (first | rw [if_pos (by omega)] | rw [if_neg (by omega)])); (try (first | rw [if_pos (by omega)] | rw [if_neg (by omega)])); (try rfl))) ((((wr_n _ _ _ (by omega)).trans hS)).trans (congrArg mkS (by first | (exfalso; omega; done) | ((try (first | rw [if_pos (by omega)] | rw [if_neg (by omega)])); (try (first | rw [if_pos (by omega)] | rw [if_neg (by omega)])); (try (first | rw [if_pos (by omega)] | rw [if_neg (by omega)])); (try (first | rw [if_pos (by omega)] | rw [if_neg (by omega)])); (try rfl))))) (fun k hk => (rfl).trans (congrFun (by first | (exfalso; omega; done) | ((try (first | rw [if_pos (by omega)] | rw [if_neg (by omega)])); (try (first | rw [if_pos (by omega)] | rw [if_neg (by omega)])); (try (first | rw [if_pos (by omega)] | rw [if_neg (by omega)])); (try (first | rw [if_pos (by omega)] | rw [if_neg (by omega)])); (try rfl))) k)) dX5_law_68
    · skip
      refine r_aload_n (pc := 45) C dX5_law_45 rfl 0 rfl ?_
      refine r_iload_n (pc := 46) C dX5_law_46 rfl 1 rfl ?_
      refine r_if_ne (pc := 47) C 54 h_w dX5_law_47 (by decide) (fun h47 => ?_) (fun h47 => ?_)
      · skip
        refine r_iconst (pc := 54) C dX5_law_54 ?_
        refine r_iload_n (pc := 55) C dX5_law_55 rfl 2 rfl ?_
        refine r_cVi (pc := 56) C (c_becomes g 3 0 9 (by omega) rfl v ρ σ hS) yX5_becomes_w O_41 rfl rfl t_850 ⟨by decide, by decide⟩ (Nat.le_of_ble_eq_true rfl) rfl dX5_law_56 ?_
        refine r_goto (pc := 59) C 68 dX5_law_59 (by decide) ?_
        exact r_retM (pc := 68) C (by first | (exfalso; omega; done) | ((try (first | rw [if_pos (by omega)] | rw [if_neg (by omega)])); (try (first | rw [if_pos (by omega)] | rw [if_neg (by omega)])); (try (first | rw [if_pos (by omega)] | rw [if_neg (by omega)])); (try (first | rw [if_pos (by omega)] | rw [if_neg (by omega)])); (try rfl))) (((us_s _ _ _)).trans (congrArg mkS (by first | (exfalso; omega; done) | ((try (first | rw [if_pos (by omega)] | rw [if_neg (by omega)])); (try (first | rw [if_pos (by omega)] | rw [if_neg (by omega)])); (try (first | rw [if_pos (by omega)] | rw [if_neg (by omega)])); (try (first | rw [if_pos (by omega)] | rw [if_neg (by omega)])); (try rfl))))) (fun k hk => (us_n _ _ hk.1).trans (congrFun (by first | (exfalso; omega; done) | ((try (first | rw [if_pos (by omega)] | rw [if_neg (by omega)])); (try (first | rw [if_pos (by omega)] | rw [if_neg (by omega)])); (try (first | rw [if_pos (by omega)] | rw [if_neg (by omega)])); (try (first | rw [if_pos (by omega)] | rw [if_neg (by omega)])); (try rfl))) k)) dX5_law_68
      · skip
        refine r_iconst (pc := 50) C dX5_law_50 ?_
        refine r_goto (pc := 51) C 55 dX5_law_51 (by decide) ?_
        refine r_iload_n (pc := 55) C dX5_law_55 rfl 2 rfl ?_
        refine r_cVi (pc := 56) C (c_becomes g 2 0 8 (by omega) rfl v ρ σ hS) yX5_becomes_w O_41 rfl rfl t_850 ⟨by decide, by decide⟩ (Nat.le_of_ble_eq_true rfl) rfl dX5_law_56 ?_
        refine r_goto (pc := 59) C 68 dX5_law_59 (by decide) ?_
        exact r_retM (pc := 68) C (by first | (exfalso; omega; done) | ((try (first | rw [if_pos (by omega)] | rw [if_neg (by omega)])); (try (first | rw [if_pos (by omega)] | rw [if_neg (by omega)])); (try (first | rw [if_pos (by omega)] | rw [if_neg (by omega)])); (try (first | rw [if_pos (by omega)] | rw [if_neg (by omega)])); (try rfl))) (((us_s _ _ _)).trans (congrArg mkS (by first | (exfalso; omega; done) | ((try (first | rw [if_pos (by omega)] | rw [if_neg (by omega)])); (try (first | rw [if_pos (by omega)] | rw [if_neg (by omega)])); (try (first | rw [if_pos (by omega)] | rw [if_neg (by omega)])); (try (first | rw [if_pos (by omega)] | rw [if_neg (by omega)])); (try rfl))))) (fun k hk => (us_n _ _ hk.1).trans (congrFun (by first | (exfalso; omega; done) | ((try (first | rw [if_pos (by omega)] | rw [if_neg (by omega)])); (try (first | rw [if_pos (by omega)] | rw [if_neg (by omega)])); (try (first | rw [if_pos (by omega)] | rw [if_neg (by omega)])); (try (first | rw [if_pos (by omega)] | rw [if_neg (by omega)])); (try rfl))) k)) dX5_law_68
set_option maxHeartbeats 4000000 in
set_option maxRecDepth 100000 in
theorem e_tenant (g : Gt) (k x : Int) (h_k : rng k) (h_x : rng x) (ρ σ : Sg) (hS : σ 42 = mkS ρ) (hW : RW ρ 0) (h6 : σ 41 6 = 255) : Mt g yX5_tenant cX5_tenant 3 (some FieldType.int) 2 [.ref (gA g 41), .int (iI (k)), .int (iI (x))] σ (pM (if (0 ≤ k ∧ k < 7) ∧ 0 ≤ x ∧ x < 12 then (if 8 ≤ ρ 0 7 then (-1000001 - ((1 : Nat) : Int)) else ρ 0 7) else (-1000001 - ((0 : Nat) : Int))) (if (0 ≤ k ∧ k < 7) ∧ 0 ≤ x ∧ x < 12 then (if 8 ≤ ρ 0 7 then ρ else adS_0 k x.toNat ρ) else ρ) (if (0 ≤ k ∧ k < 7) ∧ 0 ≤ x ∧ x < 12 then (if 8 ≤ ρ 0 7 then finM 1 σ else σ) else finM 0 σ)) := by
  obtain ⟨hn, hfl, hw, hdy, hz, hD_, hK_, hA_, hG_, hM_, hP_⟩ := id hW
  have hD : rgD (ρ 1) := hD_
  have hK : rgK (ρ 3) := hK_
  have hA : rgA (ρ 4) := hA_
  have hG : rgG (ρ 5) := hG_
  have hM : rgM (ρ 6) := hM_
  have hP : ∀ j, j < 10 → -1 ≤ ρ 7 j ∧ ρ 7 j < ρ 0 7 := hP_
  have ho_k := h_k.1; have hp_k := h_k.2
  have ho_x := h_x.1; have hp_x := h_x.2
  refine mt_of (own := RX5) (by decide) rfl (Nat.le_of_ble_eq_true rfl) (fun E C => ?_)
  show J g E (pM (if (0 ≤ k ∧ k < 7) ∧ 0 ≤ x ∧ x < 12 then (if 8 ≤ ρ 0 7 then (-1000001 - ((1 : Nat) : Int)) else ρ 0 7) else (-1000001 - ((0 : Nat) : Int))) (if (0 ≤ k ∧ k < 7) ∧ 0 ≤ x ∧ x < 12 then (if 8 ≤ ρ 0 7 then ρ else adS_0 k x.toNat ρ) else ρ) (if (0 ≤ k ∧ k < 7) ∧ 0 ≤ x ∧ x < 12 then (if 8 ≤ ρ 0 7 then finM 1 σ else σ) else finM 0 σ)) 3 0 [(0, .ref (gA g 41)), (1, .int (iI (k))), (2, .int (iI (x)))] [] σ
  refine r_iload_n (pc := 0) C dX5_tenant_0 rfl 1 rfl ?_
  refine r_cSi (pc := 1) C (c_m_isKind g k h_k σ) yX5_isKind_w rfl t_892 ⟨by decide, by decide⟩ (Nat.le_of_ble_eq_true rfl) rfl dX5_tenant_1 ?_
  refine r_ifz_eq (pc := 4) C 14 dX5_tenant_4 (by decide) (fun h4 => ?_) (fun h4 => ?_)
  · skip
    refine r_aload_n (pc := 14) C dX5_tenant_14 rfl 0 rfl ?_
    refine r_ldc (pc := 15) C (-1000001) t_854 (by decide) dX5_tenant_15 ?_
    refine r_cVi (pc := 17) C (c_finds g 0 (by decide) σ) yX5_finds_w O_41 rfl rfl t_855 ⟨by decide, by decide⟩ (Nat.le_of_ble_eq_true rfl) (by rw [show ((-1000001) : Int) = -1000001 - ((0 : Nat) : Int) by decide]; rfl) dX5_tenant_17 ?_
    exact r_retM (pc := 20) C (by first | (exfalso; omega; done) | ((try (first | rw [if_pos (by omega)] | rw [if_neg (by omega)])); (try (first | rw [if_pos (by omega)] | rw [if_neg (by omega)])); (try (first | rw [if_pos (by omega)] | rw [if_neg (by omega)])); (try (first | rw [if_pos (by omega)] | rw [if_neg (by omega)])); (try rfl))) ((((wr_n _ _ _ (by omega)).trans hS)).trans (congrArg mkS (by first | (exfalso; omega; done) | ((try (first | rw [if_pos (by omega)] | rw [if_neg (by omega)])); (try (first | rw [if_pos (by omega)] | rw [if_neg (by omega)])); (try (first | rw [if_pos (by omega)] | rw [if_neg (by omega)])); (try (first | rw [if_pos (by omega)] | rw [if_neg (by omega)])); (try rfl))))) (fun k hk => (rfl).trans (congrFun (by first | (exfalso; omega; done) | ((try (first | rw [if_pos (by omega)] | rw [if_neg (by omega)])); (try (first | rw [if_pos (by omega)] | rw [if_neg (by omega)])); (try (first | rw [if_pos (by omega)] | rw [if_neg (by omega)])); (try (first | rw [if_pos (by omega)] | rw [if_neg (by omega)])); (try rfl))) k)) dX5_tenant_20
  · skip
    refine r_iload_n (pc := 7) C dX5_tenant_7 rfl 2 rfl ?_
    refine r_cSi (pc := 8) C (c_m_isSurface g x h_x σ) yX5_isSurface_w rfl t_842 ⟨by decide, by decide⟩ (Nat.le_of_ble_eq_true rfl) rfl dX5_tenant_8 ?_
    refine r_ifz_ne (pc := 11) C 21 dX5_tenant_11 (by decide) (fun h11 => ?_) (fun h11 => ?_)
    · skip
      refine r_aload_n (pc := 21) C dX5_tenant_21 rfl 0 rfl ?_
      refine r_getR5 (pc := 22) C 0 (k' := 42) rfl O_41 (by decide) rfl t_780 dX5_tenant_22 ?_
      refine r_iconst (pc := 25) C dX5_tenant_25 ?_
      refine r_iald (pc := 26) C 1 A_42 (by omega) (by omega) dX5_tenant_26 ?_
      refine r_top (show _ = ρ 0 7 from (congrFun hS _).trans (mkS_at rfl)) ?_
      refine r_bipush (pc := 27) C dX5_tenant_27 (by decide) ?_
      refine r_icmp_ne (pc := 29) C 41 ⟨by omega, by omega⟩ ⟨by omega, by omega⟩ dX5_tenant_29 (by decide) (fun h29 => ?_) (fun h29 => ?_)
      · skip
        refine r_aload_n (pc := 41) C dX5_tenant_41 rfl 0 rfl ?_
        refine r_iload_n (pc := 42) C dX5_tenant_42 rfl 1 rfl ?_
        refine r_iload_n (pc := 43) C dX5_tenant_43 rfl 2 rfl ?_
        refine r_cVi (pc := 44) C (c_adds g k x.toNat ρ σ hS (by omega)) yX5_adds_w O_41 rfl rfl t_897 ⟨by decide, by decide⟩ (Nat.le_of_ble_eq_true rfl) (by rw [show ((x.toNat : Nat) : Int) = x by omega]; rfl) dX5_tenant_44 ?_
        exact r_retM (pc := 47) C (by first | (exfalso; omega; done) | ((try (first | rw [if_pos (by omega)] | rw [if_neg (by omega)])); (try (first | rw [if_pos (by omega)] | rw [if_neg (by omega)])); (try (first | rw [if_pos (by omega)] | rw [if_neg (by omega)])); (try (first | rw [if_pos (by omega)] | rw [if_neg (by omega)])); (try rfl))) (((us_s _ _ _)).trans (congrArg mkS (by first | (exfalso; omega; done) | ((try (first | rw [if_pos (by omega)] | rw [if_neg (by omega)])); (try (first | rw [if_pos (by omega)] | rw [if_neg (by omega)])); (try (first | rw [if_pos (by omega)] | rw [if_neg (by omega)])); (try (first | rw [if_pos (by omega)] | rw [if_neg (by omega)])); (try rfl))))) (fun k hk => (us_n _ _ hk.1).trans (congrFun (by first | (exfalso; omega; done) | ((try (first | rw [if_pos (by omega)] | rw [if_neg (by omega)])); (try (first | rw [if_pos (by omega)] | rw [if_neg (by omega)])); (try (first | rw [if_pos (by omega)] | rw [if_neg (by omega)])); (try (first | rw [if_pos (by omega)] | rw [if_neg (by omega)])); (try rfl))) k)) dX5_tenant_47
      · skip
        refine r_aload_n (pc := 32) C dX5_tenant_32 rfl 0 rfl ?_
        refine r_ldc (pc := 33) C (-1000002) t_896 (by decide) dX5_tenant_33 ?_
        refine r_cVi (pc := 35) C (c_finds g 1 (by decide) σ) yX5_finds_w O_41 rfl rfl t_855 ⟨by decide, by decide⟩ (Nat.le_of_ble_eq_true rfl) (by rw [show ((-1000002) : Int) = -1000001 - ((1 : Nat) : Int) by decide]; rfl) dX5_tenant_35 ?_
        refine r_goto (pc := 38) C 47 dX5_tenant_38 (by decide) ?_
        exact r_retM (pc := 47) C (by first | (exfalso; omega; done) | ((try (first | rw [if_pos (by omega)] | rw [if_neg (by omega)])); (try (first | rw [if_pos (by omega)] | rw [if_neg (by omega)])); (try (first | rw [if_pos (by omega)] | rw [if_neg (by omega)])); (try (first | rw [if_pos (by omega)] | rw [if_neg (by omega)])); (try rfl))) ((((wr_n _ _ _ (by omega)).trans hS)).trans (congrArg mkS (by first | (exfalso; omega; done) | ((try (first | rw [if_pos (by omega)] | rw [if_neg (by omega)])); (try (first | rw [if_pos (by omega)] | rw [if_neg (by omega)])); (try (first | rw [if_pos (by omega)] | rw [if_neg (by omega)])); (try (first | rw [if_pos (by omega)] | rw [if_neg (by omega)])); (try rfl))))) (fun k hk => (rfl).trans (congrFun (by first | (exfalso; omega; done) | ((try (first | rw [if_pos (by omega)] | rw [if_neg (by omega)])); (try (first | rw [if_pos (by omega)] | rw [if_neg (by omega)])); (try (first | rw [if_pos (by omega)] | rw [if_neg (by omega)])); (try (first | rw [if_pos (by omega)] | rw [if_neg (by omega)])); (try rfl))) k)) dX5_tenant_47
    · skip
      refine r_aload_n (pc := 14) C dX5_tenant_14 rfl 0 rfl ?_
      refine r_ldc (pc := 15) C (-1000001) t_854 (by decide) dX5_tenant_15 ?_
      refine r_cVi (pc := 17) C (c_finds g 0 (by decide) σ) yX5_finds_w O_41 rfl rfl t_855 ⟨by decide, by decide⟩ (Nat.le_of_ble_eq_true rfl) (by rw [show ((-1000001) : Int) = -1000001 - ((0 : Nat) : Int) by decide]; rfl) dX5_tenant_17 ?_
      exact r_retM (pc := 20) C (by first | (exfalso; omega; done) | ((try (first | rw [if_pos (by omega)] | rw [if_neg (by omega)])); (try (first | rw [if_pos (by omega)] | rw [if_neg (by omega)])); (try (first | rw [if_pos (by omega)] | rw [if_neg (by omega)])); (try (first | rw [if_pos (by omega)] | rw [if_neg (by omega)])); (try rfl))) ((((wr_n _ _ _ (by omega)).trans hS)).trans (congrArg mkS (by first | (exfalso; omega; done) | ((try (first | rw [if_pos (by omega)] | rw [if_neg (by omega)])); (try (first | rw [if_pos (by omega)] | rw [if_neg (by omega)])); (try (first | rw [if_pos (by omega)] | rw [if_neg (by omega)])); (try (first | rw [if_pos (by omega)] | rw [if_neg (by omega)])); (try rfl))))) (fun k hk => (rfl).trans (congrFun (by first | (exfalso; omega; done) | ((try (first | rw [if_pos (by omega)] | rw [if_neg (by omega)])); (try (first | rw [if_pos (by omega)] | rw [if_neg (by omega)])); (try (first | rw [if_pos (by omega)] | rw [if_neg (by omega)])); (try (first | rw [if_pos (by omega)] | rw [if_neg (by omega)])); (try rfl))) k)) dX5_tenant_20
set_option maxHeartbeats 4000000 in
set_option maxRecDepth 100000 in
theorem e_of (g : Gt) (x w : Int) (h_x : rng x) (h_w : rng w) (ρ σ : Sg) (hS : σ 42 = mkS ρ) (hW : RW ρ 0) (h6 : σ 41 6 = 255) : Mt g yX5_of cX5_of 3 (some FieldType.int) 3 [.ref (gA g 41), .int (iI (x)), .int (iI (w))] σ (pM (if 0 ≤ x ∧ x < ρ 0 7 ∧ 0 ≤ w ∧ w ≤ 6 then (if w = 0 then ρ 3 x.toNat else if w = 1 then ρ 4 x.toNat else if w = 2 then ρ 5 x.toNat else if w = 3 then leav (ρ 3 x.toNat) (ρ 1 (ρ 4 x.toNat).toNat) (ρ 5 x.toNat) else if w = 4 then stab 1 (ρ 3 x.toNat).toNat else if w = 5 then setF (fun f => decide (holder (ρ 0 7) (ρ 6) f = x)) 12 else sumF (fun f => ρ 6 (12 * x.toNat + f)) 12) else (-1000001 - ((0 : Nat) : Int))) (ρ) (if 0 ≤ x ∧ x < ρ 0 7 ∧ 0 ≤ w ∧ w ≤ 6 then σ else finM 0 σ)) := by
  obtain ⟨hn, hfl, hw, hdy, hz, hD_, hK_, hA_, hG_, hM_, hP_⟩ := id hW
  have hD : rgD (ρ 1) := hD_
  have hK : rgK (ρ 3) := hK_
  have hA : rgA (ρ 4) := hA_
  have hG : rgG (ρ 5) := hG_
  have hM : rgM (ρ 6) := hM_
  have hP : ∀ j, j < 10 → -1 ≤ ρ 7 j ∧ ρ 7 j < ρ 0 7 := hP_
  have ho_x := h_x.1; have hp_x := h_x.2
  have ho_w := h_w.1; have hp_w := h_w.2
  refine mt_of (own := RX5) (by decide) rfl (Nat.le_of_ble_eq_true rfl) (fun E C => ?_)
  show J g E (pM (if 0 ≤ x ∧ x < ρ 0 7 ∧ 0 ≤ w ∧ w ≤ 6 then (if w = 0 then ρ 3 x.toNat else if w = 1 then ρ 4 x.toNat else if w = 2 then ρ 5 x.toNat else if w = 3 then leav (ρ 3 x.toNat) (ρ 1 (ρ 4 x.toNat).toNat) (ρ 5 x.toNat) else if w = 4 then stab 1 (ρ 3 x.toNat).toNat else if w = 5 then setF (fun f => decide (holder (ρ 0 7) (ρ 6) f = x)) 12 else sumF (fun f => ρ 6 (12 * x.toNat + f)) 12) else (-1000001 - ((0 : Nat) : Int))) (ρ) (if 0 ≤ x ∧ x < ρ 0 7 ∧ 0 ≤ w ∧ w ≤ 6 then σ else finM 0 σ)) 3 0 [(0, .ref (gA g 41)), (1, .int (iI (x))), (2, .int (iI (w)))] [] σ
  refine r_aload_n (pc := 0) C dX5_of_0 rfl 0 rfl ?_
  refine r_iload_n (pc := 1) C dX5_of_1 rfl 1 rfl ?_
  refine r_cVi (pc := 2) C (c_m_isTenant g x h_x ρ σ hS hn) yX5_isTenant_w O_41 rfl rfl t_905 ⟨by decide, by decide⟩ (Nat.le_of_ble_eq_true rfl) rfl dX5_of_2 ?_
  refine r_ifz_eq (pc := 5) C 20 dX5_of_5 (by decide) (fun h5 => ?_) (fun h5 => ?_)
  · skip
    refine r_aload_n (pc := 20) C dX5_of_20 rfl 0 rfl ?_
    refine r_ldc (pc := 21) C (-1000001) t_854 (by decide) dX5_of_21 ?_
    refine r_cVi (pc := 23) C (c_finds g 0 (by decide) σ) yX5_finds_w O_41 rfl rfl t_855 ⟨by decide, by decide⟩ (Nat.le_of_ble_eq_true rfl) (by rw [show ((-1000001) : Int) = -1000001 - ((0 : Nat) : Int) by decide]; rfl) dX5_of_23 ?_
    exact r_retM (pc := 26) C (by first | (exfalso; omega; done) | ((try (first | rw [if_pos (by omega)] | rw [if_neg (by omega)])); (try (first | rw [if_pos (by omega)] | rw [if_neg (by omega)])); (try (first | rw [if_pos (by omega)] | rw [if_neg (by omega)])); (try (first | rw [if_pos (by omega)] | rw [if_neg (by omega)])); (try (first | rw [if_pos (by omega)] | rw [if_neg (by omega)])); (try (first | rw [if_pos (by omega)] | rw [if_neg (by omega)])); (try (first | rw [if_pos (by omega)] | rw [if_neg (by omega)])); (try (first | rw [if_pos (by omega)] | rw [if_neg (by omega)])); (try rfl))) ((((wr_n _ _ _ (by omega)).trans hS)).trans (congrArg mkS (by first | (exfalso; omega; done) | ((try (first | rw [if_pos (by omega)] | rw [if_neg (by omega)])); (try (first | rw [if_pos (by omega)] | rw [if_neg (by omega)])); (try (first | rw [if_pos (by omega)] | rw [if_neg (by omega)])); (try (first | rw [if_pos (by omega)] | rw [if_neg (by omega)])); (try (first | rw [if_pos (by omega)] | rw [if_neg (by omega)])); (try (first | rw [if_pos (by omega)] | rw [if_neg (by omega)])); (try (first | rw [if_pos (by omega)] | rw [if_neg (by omega)])); (try (first | rw [if_pos (by omega)] | rw [if_neg (by omega)])); (try rfl))))) (fun k hk => (rfl).trans (congrFun (by first | (exfalso; omega; done) | ((try (first | rw [if_pos (by omega)] | rw [if_neg (by omega)])); (try (first | rw [if_pos (by omega)] | rw [if_neg (by omega)])); (try (first | rw [if_pos (by omega)] | rw [if_neg (by omega)])); (try (first | rw [if_pos (by omega)] | rw [if_neg (by omega)])); (try (first | rw [if_pos (by omega)] | rw [if_neg (by omega)])); (try (first | rw [if_pos (by omega)] | rw [if_neg (by omega)])); (try (first | rw [if_pos (by omega)] | rw [if_neg (by omega)])); (try (first | rw [if_pos (by omega)] | rw [if_neg (by omega)])); (try rfl))) k)) dX5_of_26
  · skip
    refine r_iload_n (pc := 8) C dX5_of_8 rfl 2 rfl ?_
    refine r_i2l (pc := 9) C h_w dX5_of_9 ?_
    refine r_lconst (pc := 10) C (n := 0) dX5_of_10 (by decide) ?_
    refine r_ldc2 (pc := 11) C 6 t_895 (by decide) dX5_of_11 ?_
    refine r_cSi (pc := 14) C (c_in g w 0 6 ⟨by have := h_w.1; omega, by have := h_w.2; omega⟩ ⟨by omega, by omega⟩ ⟨by omega, by omega⟩ σ) yX5_in_w rfl t_846 ⟨by decide, by decide⟩ (Nat.le_of_ble_eq_true rfl) rfl dX5_of_14 ?_
    refine r_ifz_ne (pc := 17) C 27 dX5_of_17 (by decide) (fun h17 => ?_) (fun h17 => ?_)
    · skip
      refine r_iload_n (pc := 27) C dX5_of_27 rfl 2 rfl ?_
      by_cases hs28_3 : w = 3
      · refine r_tabIn C 3 60 dX5_of_28 hs28_3 ⟨by decide, by decide⟩ (by decide) (by decide) rfl (by decide) ?_
        refine r_aload_n (pc := 60) C dX5_of_60 rfl 0 rfl ?_
        refine r_iload_n (pc := 61) C dX5_of_61 rfl 1 rfl ?_
        refine r_cVi (pc := 62) C (c_leaves g x.toNat (by omega) ρ σ hS hD hK hA hG) yX5_leaves_w O_41 rfl rfl t_909 ⟨by decide, by decide⟩ (Nat.le_of_ble_eq_true rfl) (by rw [show ((x.toNat : Nat) : Int) = x by omega]; rfl) dX5_of_62 ?_
        exact r_retM (pc := 65) C (by first | (exfalso; omega; done) | ((try (first | rw [if_pos (by omega)] | rw [if_neg (by omega)])); (try (first | rw [if_pos (by omega)] | rw [if_neg (by omega)])); (try (first | rw [if_pos (by omega)] | rw [if_neg (by omega)])); (try (first | rw [if_pos (by omega)] | rw [if_neg (by omega)])); (try (first | rw [if_pos (by omega)] | rw [if_neg (by omega)])); (try (first | rw [if_pos (by omega)] | rw [if_neg (by omega)])); (try (first | rw [if_pos (by omega)] | rw [if_neg (by omega)])); (try (first | rw [if_pos (by omega)] | rw [if_neg (by omega)])); (try rfl))) ((hS).trans (congrArg mkS (by first | (exfalso; omega; done) | ((try (first | rw [if_pos (by omega)] | rw [if_neg (by omega)])); (try (first | rw [if_pos (by omega)] | rw [if_neg (by omega)])); (try (first | rw [if_pos (by omega)] | rw [if_neg (by omega)])); (try (first | rw [if_pos (by omega)] | rw [if_neg (by omega)])); (try (first | rw [if_pos (by omega)] | rw [if_neg (by omega)])); (try (first | rw [if_pos (by omega)] | rw [if_neg (by omega)])); (try (first | rw [if_pos (by omega)] | rw [if_neg (by omega)])); (try (first | rw [if_pos (by omega)] | rw [if_neg (by omega)])); (try rfl))))) (fun k hk => (rfl).trans (congrFun (by first | (exfalso; omega; done) | ((try (first | rw [if_pos (by omega)] | rw [if_neg (by omega)])); (try (first | rw [if_pos (by omega)] | rw [if_neg (by omega)])); (try (first | rw [if_pos (by omega)] | rw [if_neg (by omega)])); (try (first | rw [if_pos (by omega)] | rw [if_neg (by omega)])); (try (first | rw [if_pos (by omega)] | rw [if_neg (by omega)])); (try (first | rw [if_pos (by omega)] | rw [if_neg (by omega)])); (try (first | rw [if_pos (by omega)] | rw [if_neg (by omega)])); (try (first | rw [if_pos (by omega)] | rw [if_neg (by omega)])); (try rfl))) k)) dX5_of_65
      by_cases hs28_4 : w = 4
      · refine r_tabIn C 4 66 dX5_of_28 hs28_4 ⟨by decide, by decide⟩ (by decide) (by decide) rfl (by decide) ?_
        refine r_aload_n (pc := 66) C dX5_of_66 rfl 0 rfl ?_
        refine r_iload_n (pc := 67) C dX5_of_67 rfl 1 rfl ?_
        refine r_cVi (pc := 68) C (c_sweeps g x.toNat (by omega) ρ σ hS hK) yX5_sweeps_w O_41 rfl rfl t_913 ⟨by decide, by decide⟩ (Nat.le_of_ble_eq_true rfl) (by rw [show ((x.toNat : Nat) : Int) = x by omega]; rfl) dX5_of_68 ?_
        exact r_retM (pc := 71) C (by first | (exfalso; omega; done) | ((try (first | rw [if_pos (by omega)] | rw [if_neg (by omega)])); (try (first | rw [if_pos (by omega)] | rw [if_neg (by omega)])); (try (first | rw [if_pos (by omega)] | rw [if_neg (by omega)])); (try (first | rw [if_pos (by omega)] | rw [if_neg (by omega)])); (try (first | rw [if_pos (by omega)] | rw [if_neg (by omega)])); (try (first | rw [if_pos (by omega)] | rw [if_neg (by omega)])); (try (first | rw [if_pos (by omega)] | rw [if_neg (by omega)])); (try (first | rw [if_pos (by omega)] | rw [if_neg (by omega)])); (try rfl))) ((hS).trans (congrArg mkS (by first | (exfalso; omega; done) | ((try (first | rw [if_pos (by omega)] | rw [if_neg (by omega)])); (try (first | rw [if_pos (by omega)] | rw [if_neg (by omega)])); (try (first | rw [if_pos (by omega)] | rw [if_neg (by omega)])); (try (first | rw [if_pos (by omega)] | rw [if_neg (by omega)])); (try (first | rw [if_pos (by omega)] | rw [if_neg (by omega)])); (try (first | rw [if_pos (by omega)] | rw [if_neg (by omega)])); (try (first | rw [if_pos (by omega)] | rw [if_neg (by omega)])); (try (first | rw [if_pos (by omega)] | rw [if_neg (by omega)])); (try rfl))))) (fun k hk => (rfl).trans (congrFun (by first | (exfalso; omega; done) | ((try (first | rw [if_pos (by omega)] | rw [if_neg (by omega)])); (try (first | rw [if_pos (by omega)] | rw [if_neg (by omega)])); (try (first | rw [if_pos (by omega)] | rw [if_neg (by omega)])); (try (first | rw [if_pos (by omega)] | rw [if_neg (by omega)])); (try (first | rw [if_pos (by omega)] | rw [if_neg (by omega)])); (try (first | rw [if_pos (by omega)] | rw [if_neg (by omega)])); (try (first | rw [if_pos (by omega)] | rw [if_neg (by omega)])); (try (first | rw [if_pos (by omega)] | rw [if_neg (by omega)])); (try rfl))) k)) dX5_of_71
      by_cases hs28_5 : w = 5
      · refine r_tabIn C 5 72 dX5_of_28 hs28_5 ⟨by decide, by decide⟩ (by decide) (by decide) rfl (by decide) ?_
        refine r_aload_n (pc := 72) C dX5_of_72 rfl 0 rfl ?_
        refine r_iload_n (pc := 73) C dX5_of_73 rfl 1 rfl ?_
        refine r_cVi (pc := 74) C (c_m_heldBy g x h_x ρ σ hS hn hM) yX5_heldBy_w O_41 rfl rfl t_917 ⟨by decide, by decide⟩ (Nat.le_of_ble_eq_true rfl) rfl dX5_of_74 ?_
        exact r_retM (pc := 77) C (by first | (exfalso; omega; done) | ((try (first | rw [if_pos (by omega)] | rw [if_neg (by omega)])); (try (first | rw [if_pos (by omega)] | rw [if_neg (by omega)])); (try (first | rw [if_pos (by omega)] | rw [if_neg (by omega)])); (try (first | rw [if_pos (by omega)] | rw [if_neg (by omega)])); (try (first | rw [if_pos (by omega)] | rw [if_neg (by omega)])); (try (first | rw [if_pos (by omega)] | rw [if_neg (by omega)])); (try (first | rw [if_pos (by omega)] | rw [if_neg (by omega)])); (try (first | rw [if_pos (by omega)] | rw [if_neg (by omega)])); (try rfl))) ((hS).trans (congrArg mkS (by first | (exfalso; omega; done) | ((try (first | rw [if_pos (by omega)] | rw [if_neg (by omega)])); (try (first | rw [if_pos (by omega)] | rw [if_neg (by omega)])); (try (first | rw [if_pos (by omega)] | rw [if_neg (by omega)])); (try (first | rw [if_pos (by omega)] | rw [if_neg (by omega)])); (try (first | rw [if_pos (by omega)] | rw [if_neg (by omega)])); (try (first | rw [if_pos (by omega)] | rw [if_neg (by omega)])); (try (first | rw [if_pos (by omega)] | rw [if_neg (by omega)])); (try (first | rw [if_pos (by omega)] | rw [if_neg (by omega)])); (try rfl))))) (fun k hk => (rfl).trans (congrFun (by first | (exfalso; omega; done) | ((try (first | rw [if_pos (by omega)] | rw [if_neg (by omega)])); (try (first | rw [if_pos (by omega)] | rw [if_neg (by omega)])); (try (first | rw [if_pos (by omega)] | rw [if_neg (by omega)])); (try (first | rw [if_pos (by omega)] | rw [if_neg (by omega)])); (try (first | rw [if_pos (by omega)] | rw [if_neg (by omega)])); (try (first | rw [if_pos (by omega)] | rw [if_neg (by omega)])); (try (first | rw [if_pos (by omega)] | rw [if_neg (by omega)])); (try (first | rw [if_pos (by omega)] | rw [if_neg (by omega)])); (try rfl))) k)) dX5_of_77
      by_cases hs28_6 : w = 6
      · refine r_tabIn C 6 78 dX5_of_28 hs28_6 ⟨by decide, by decide⟩ (by decide) (by decide) rfl (by decide) ?_
        refine r_aload_n (pc := 78) C dX5_of_78 rfl 0 rfl ?_
        refine r_iload_n (pc := 79) C dX5_of_79 rfl 1 rfl ?_
        refine r_cVi (pc := 80) C (c_m_marksOf g x.toNat (by omega) ρ σ hS ) yX5_marksOf_w O_41 rfl rfl t_921 ⟨by decide, by decide⟩ (Nat.le_of_ble_eq_true rfl) (by rw [show ((x.toNat : Nat) : Int) = x by omega]; rfl) dX5_of_80 ?_
        exact r_retM (pc := 83) C (by first | (exfalso; omega; done) | ((try (first | rw [if_pos (by omega)] | rw [if_neg (by omega)])); (try (first | rw [if_pos (by omega)] | rw [if_neg (by omega)])); (try (first | rw [if_pos (by omega)] | rw [if_neg (by omega)])); (try (first | rw [if_pos (by omega)] | rw [if_neg (by omega)])); (try (first | rw [if_pos (by omega)] | rw [if_neg (by omega)])); (try (first | rw [if_pos (by omega)] | rw [if_neg (by omega)])); (try (first | rw [if_pos (by omega)] | rw [if_neg (by omega)])); (try (first | rw [if_pos (by omega)] | rw [if_neg (by omega)])); (try rfl))) ((hS).trans (congrArg mkS (by first | (exfalso; omega; done) | ((try (first | rw [if_pos (by omega)] | rw [if_neg (by omega)])); (try (first | rw [if_pos (by omega)] | rw [if_neg (by omega)])); (try (first | rw [if_pos (by omega)] | rw [if_neg (by omega)])); (try (first | rw [if_pos (by omega)] | rw [if_neg (by omega)])); (try (first | rw [if_pos (by omega)] | rw [if_neg (by omega)])); (try (first | rw [if_pos (by omega)] | rw [if_neg (by omega)])); (try (first | rw [if_pos (by omega)] | rw [if_neg (by omega)])); (try (first | rw [if_pos (by omega)] | rw [if_neg (by omega)])); (try rfl))))) (fun k hk => (rfl).trans (congrFun (by first | (exfalso; omega; done) | ((try (first | rw [if_pos (by omega)] | rw [if_neg (by omega)])); (try (first | rw [if_pos (by omega)] | rw [if_neg (by omega)])); (try (first | rw [if_pos (by omega)] | rw [if_neg (by omega)])); (try (first | rw [if_pos (by omega)] | rw [if_neg (by omega)])); (try (first | rw [if_pos (by omega)] | rw [if_neg (by omega)])); (try (first | rw [if_pos (by omega)] | rw [if_neg (by omega)])); (try (first | rw [if_pos (by omega)] | rw [if_neg (by omega)])); (try (first | rw [if_pos (by omega)] | rw [if_neg (by omega)])); (try rfl))) k)) dX5_of_83
      refine r_tabOut (pc := 28) C 84 dX5_of_28 h_w (by omega) (by decide) ?_
      refine r_aload_n (pc := 84) C dX5_of_84 rfl 0 rfl ?_
      refine r_iload_n (pc := 85) C dX5_of_85 rfl 1 rfl ?_
      refine r_iload_n (pc := 86) C dX5_of_86 rfl 2 rfl ?_
      refine r_cVi (pc := 87) C (c_itsw g x.toNat (by omega) w (by omega) ρ σ hS) yX5_its_w O_41 rfl rfl t_875 ⟨by decide, by decide⟩ (Nat.le_of_ble_eq_true rfl) (by rw [show ((x.toNat : Nat) : Int) = x by omega]; rfl) dX5_of_87 ?_
      exact r_retM (pc := 90) C (by rw [if_pos (show 0 ≤ x ∧ x < ρ 0 7 ∧ 0 ≤ w ∧ w ≤ 6 by omega)]; rcases (show w = 0 ∨ w = 1 ∨ w = 2 by omega) with rfl | rfl | rfl <;> rfl) ((hS).trans (congrArg mkS (by first | (exfalso; omega; done) | ((try (first | rw [if_pos (by omega)] | rw [if_neg (by omega)])); (try (first | rw [if_pos (by omega)] | rw [if_neg (by omega)])); (try (first | rw [if_pos (by omega)] | rw [if_neg (by omega)])); (try (first | rw [if_pos (by omega)] | rw [if_neg (by omega)])); (try (first | rw [if_pos (by omega)] | rw [if_neg (by omega)])); (try (first | rw [if_pos (by omega)] | rw [if_neg (by omega)])); (try (first | rw [if_pos (by omega)] | rw [if_neg (by omega)])); (try (first | rw [if_pos (by omega)] | rw [if_neg (by omega)])); (try rfl))))) (fun k hk => (rfl).trans (congrFun (by first | (exfalso; omega; done) | ((try (first | rw [if_pos (by omega)] | rw [if_neg (by omega)])); (try (first | rw [if_pos (by omega)] | rw [if_neg (by omega)])); (try (first | rw [if_pos (by omega)] | rw [if_neg (by omega)])); (try (first | rw [if_pos (by omega)] | rw [if_neg (by omega)])); (try (first | rw [if_pos (by omega)] | rw [if_neg (by omega)])); (try (first | rw [if_pos (by omega)] | rw [if_neg (by omega)])); (try (first | rw [if_pos (by omega)] | rw [if_neg (by omega)])); (try (first | rw [if_pos (by omega)] | rw [if_neg (by omega)])); (try rfl))) k)) dX5_of_90
    · skip
      refine r_aload_n (pc := 20) C dX5_of_20 rfl 0 rfl ?_
      refine r_ldc (pc := 21) C (-1000001) t_854 (by decide) dX5_of_21 ?_
      refine r_cVi (pc := 23) C (c_finds g 0 (by decide) σ) yX5_finds_w O_41 rfl rfl t_855 ⟨by decide, by decide⟩ (Nat.le_of_ble_eq_true rfl) (by rw [show ((-1000001) : Int) = -1000001 - ((0 : Nat) : Int) by decide]; rfl) dX5_of_23 ?_
      exact r_retM (pc := 26) C (by first | (exfalso; omega; done) | ((try (first | rw [if_pos (by omega)] | rw [if_neg (by omega)])); (try (first | rw [if_pos (by omega)] | rw [if_neg (by omega)])); (try (first | rw [if_pos (by omega)] | rw [if_neg (by omega)])); (try (first | rw [if_pos (by omega)] | rw [if_neg (by omega)])); (try (first | rw [if_pos (by omega)] | rw [if_neg (by omega)])); (try (first | rw [if_pos (by omega)] | rw [if_neg (by omega)])); (try (first | rw [if_pos (by omega)] | rw [if_neg (by omega)])); (try (first | rw [if_pos (by omega)] | rw [if_neg (by omega)])); (try rfl))) ((((wr_n _ _ _ (by omega)).trans hS)).trans (congrArg mkS (by first | (exfalso; omega; done) | ((try (first | rw [if_pos (by omega)] | rw [if_neg (by omega)])); (try (first | rw [if_pos (by omega)] | rw [if_neg (by omega)])); (try (first | rw [if_pos (by omega)] | rw [if_neg (by omega)])); (try (first | rw [if_pos (by omega)] | rw [if_neg (by omega)])); (try (first | rw [if_pos (by omega)] | rw [if_neg (by omega)])); (try (first | rw [if_pos (by omega)] | rw [if_neg (by omega)])); (try (first | rw [if_pos (by omega)] | rw [if_neg (by omega)])); (try (first | rw [if_pos (by omega)] | rw [if_neg (by omega)])); (try rfl))))) (fun k hk => (rfl).trans (congrFun (by first | (exfalso; omega; done) | ((try (first | rw [if_pos (by omega)] | rw [if_neg (by omega)])); (try (first | rw [if_pos (by omega)] | rw [if_neg (by omega)])); (try (first | rw [if_pos (by omega)] | rw [if_neg (by omega)])); (try (first | rw [if_pos (by omega)] | rw [if_neg (by omega)])); (try (first | rw [if_pos (by omega)] | rw [if_neg (by omega)])); (try (first | rw [if_pos (by omega)] | rw [if_neg (by omega)])); (try (first | rw [if_pos (by omega)] | rw [if_neg (by omega)])); (try (first | rw [if_pos (by omega)] | rw [if_neg (by omega)])); (try rfl))) k)) dX5_of_26
set_option maxHeartbeats 4000000 in
set_option maxRecDepth 100000 in
theorem e_change (g : Gt) (x w v : Int) (h_x : rng x) (h_w : rng w) (h_v : rng v) (ρ σ : Sg) (hS : σ 42 = mkS ρ) (hW : RW ρ 0) (h6 : σ 41 6 = 255) : Mt g yX5_change cX5_change 5 (some FieldType.int) 2 [.ref (gA g 41), .int (iI (x)), .int (iI (w)), .int (iI (v))] σ (pM (if (0 ≤ x ∧ x < ρ 0 7) ∧ w = 0 ∧ 0 ≤ v ∧ v < 7 then ρ 3 x.toNat else if (0 ≤ x ∧ x < ρ 0 7) ∧ w = 1 ∧ 0 ≤ v ∧ v < 12 then ρ 4 x.toNat else if (0 ≤ x ∧ x < ρ 0 7) ∧ w = 2 ∧ 0 ≤ v ∧ v ≤ 99999 then ρ 5 x.toNat else (-1000001 - ((0 : Nat) : Int))) (if (0 ≤ x ∧ x < ρ 0 7) ∧ w = 0 ∧ 0 ≤ v ∧ v < 7 then wr ρ 3 x.toNat v else if (0 ≤ x ∧ x < ρ 0 7) ∧ w = 1 ∧ 0 ≤ v ∧ v < 12 then wr ρ 4 x.toNat v else if (0 ≤ x ∧ x < ρ 0 7) ∧ w = 2 ∧ 0 ≤ v ∧ v ≤ 99999 then wr ρ 5 x.toNat v else ρ) (if ((0 ≤ x ∧ x < ρ 0 7) ∧ w = 0 ∧ 0 ≤ v ∧ v < 7) ∨ ((0 ≤ x ∧ x < ρ 0 7) ∧ w = 1 ∧ 0 ≤ v ∧ v < 12) ∨ ((0 ≤ x ∧ x < ρ 0 7) ∧ w = 2 ∧ 0 ≤ v ∧ v ≤ 99999) then σ else finM 0 σ)) := by
  obtain ⟨hn, hfl, hw, hdy, hz, hD_, hK_, hA_, hG_, hM_, hP_⟩ := id hW
  have hD : rgD (ρ 1) := hD_
  have hK : rgK (ρ 3) := hK_
  have hA : rgA (ρ 4) := hA_
  have hG : rgG (ρ 5) := hG_
  have hM : rgM (ρ 6) := hM_
  have hP : ∀ j, j < 10 → -1 ≤ ρ 7 j ∧ ρ 7 j < ρ 0 7 := hP_
  have ho_x := h_x.1; have hp_x := h_x.2
  have ho_w := h_w.1; have hp_w := h_w.2
  have ho_v := h_v.1; have hp_v := h_v.2
  refine mt_of (own := RX5) (by decide) rfl (Nat.le_of_ble_eq_true rfl) (fun E C => ?_)
  show J g E (pM (if (0 ≤ x ∧ x < ρ 0 7) ∧ w = 0 ∧ 0 ≤ v ∧ v < 7 then ρ 3 x.toNat else if (0 ≤ x ∧ x < ρ 0 7) ∧ w = 1 ∧ 0 ≤ v ∧ v < 12 then ρ 4 x.toNat else if (0 ≤ x ∧ x < ρ 0 7) ∧ w = 2 ∧ 0 ≤ v ∧ v ≤ 99999 then ρ 5 x.toNat else (-1000001 - ((0 : Nat) : Int))) (if (0 ≤ x ∧ x < ρ 0 7) ∧ w = 0 ∧ 0 ≤ v ∧ v < 7 then wr ρ 3 x.toNat v else if (0 ≤ x ∧ x < ρ 0 7) ∧ w = 1 ∧ 0 ≤ v ∧ v < 12 then wr ρ 4 x.toNat v else if (0 ≤ x ∧ x < ρ 0 7) ∧ w = 2 ∧ 0 ≤ v ∧ v ≤ 99999 then wr ρ 5 x.toNat v else ρ) (if ((0 ≤ x ∧ x < ρ 0 7) ∧ w = 0 ∧ 0 ≤ v ∧ v < 7) ∨ ((0 ≤ x ∧ x < ρ 0 7) ∧ w = 1 ∧ 0 ≤ v ∧ v < 12) ∨ ((0 ≤ x ∧ x < ρ 0 7) ∧ w = 2 ∧ 0 ≤ v ∧ v ≤ 99999) then σ else finM 0 σ)) 5 0 [(0, .ref (gA g 41)), (1, .int (iI (x))), (2, .int (iI (w))), (3, .int (iI (v)))] [] σ
  refine r_iload_n (pc := 0) C dX5_change_0 rfl 2 rfl ?_
  refine r_if_ne (pc := 1) C 11 h_w dX5_change_1 (by decide) (fun h1 => ?_) (fun h1 => ?_)
  · skip
    refine r_iload_n (pc := 11) C dX5_change_11 rfl 2 rfl ?_
    refine r_iconst (pc := 12) C dX5_change_12 ?_
    refine r_icmp_ne (pc := 13) C 23 h_w ⟨by omega, by omega⟩ dX5_change_13 (by decide) (fun h13 => ?_) (fun h13 => ?_)
    · skip
      refine r_iload_n (pc := 23) C dX5_change_23 rfl 2 rfl ?_
      refine r_iconst (pc := 24) C dX5_change_24 ?_
      refine r_icmp_ne (pc := 25) C 44 h_w ⟨by omega, by omega⟩ dX5_change_25 (by decide) (fun h25 => ?_) (fun h25 => ?_)
      · skip
        refine r_iconst (pc := 44) C dX5_change_44 ?_
        refine r_istore (pc := 45) C dX5_change_45 (by decide) [1, 2, 3, 4, 0] (lv' := [(0, .ref (gA g 41)), (1, .int (iI (x))), (2, .int (iI (w))), (3, .int (iI (v))), (4, .int (iI (0)))]) rfl ?_
        refine r_aload_n (pc := 47) C dX5_change_47 rfl 0 rfl ?_
        refine r_iload_n (pc := 48) C dX5_change_48 rfl 1 rfl ?_
        refine r_cVi (pc := 49) C (c_m_isTenant g x h_x ρ σ hS hn) yX5_isTenant_w O_41 rfl rfl t_905 ⟨by decide, by decide⟩ (Nat.le_of_ble_eq_true rfl) rfl dX5_change_49 ?_
        refine r_ifz_eq (pc := 52) C 73 dX5_change_52 (by decide) (fun h52 => ?_) (fun h52 => ?_)
        · skip
          refine r_aload_n (pc := 73) C dX5_change_73 rfl 0 rfl ?_
          refine r_ldc (pc := 74) C (-1000001) t_854 (by decide) dX5_change_74 ?_
          refine r_cVi (pc := 76) C (c_finds g 0 (by decide) σ) yX5_finds_w O_41 rfl rfl t_855 ⟨by decide, by decide⟩ (Nat.le_of_ble_eq_true rfl) (by rw [show ((-1000001) : Int) = -1000001 - ((0 : Nat) : Int) by decide]; rfl) dX5_change_76 ?_
          exact r_retM (pc := 79) C (by first | (exfalso; omega; done) | ((try (first | rw [if_pos (by omega)] | rw [if_neg (by omega)])); (try (first | rw [if_pos (by omega)] | rw [if_neg (by omega)])); (try (first | rw [if_pos (by omega)] | rw [if_neg (by omega)])); (try (first | rw [if_pos (by omega)] | rw [if_neg (by omega)])); (try rfl))) ((((wr_n _ _ _ (by omega)).trans hS)).trans (congrArg mkS (by first | (exfalso; omega; done) | ((try (first | rw [if_pos (by omega)] | rw [if_neg (by omega)])); (try (first | rw [if_pos (by omega)] | rw [if_neg (by omega)])); (try (first | rw [if_pos (by omega)] | rw [if_neg (by omega)])); (try (first | rw [if_pos (by omega)] | rw [if_neg (by omega)])); (try rfl))))) (fun k hk => (rfl).trans (congrFun (by first | (exfalso; omega; done) | ((try (first | rw [if_pos (by omega)] | rw [if_neg (by omega)])); (try (first | rw [if_pos (by omega)] | rw [if_neg (by omega)])); (try (first | rw [if_pos (by omega)] | rw [if_neg (by omega)])); (try (first | rw [if_pos (by omega)] | rw [if_neg (by omega)])); (try rfl))) k)) dX5_change_79
        · skip
          refine r_iload (pc := 55) C dX5_change_55 4 rfl ?_
          refine r_if_eq (pc := 57) C 73 ⟨by omega, by omega⟩ dX5_change_57 (by decide) (fun h57 => ?_) (fun h57 => ?_)
          · skip
            refine r_aload_n (pc := 73) C dX5_change_73 rfl 0 rfl ?_
            refine r_ldc (pc := 74) C (-1000001) t_854 (by decide) dX5_change_74 ?_
            refine r_cVi (pc := 76) C (c_finds g 0 (by decide) σ) yX5_finds_w O_41 rfl rfl t_855 ⟨by decide, by decide⟩ (Nat.le_of_ble_eq_true rfl) (by rw [show ((-1000001) : Int) = -1000001 - ((0 : Nat) : Int) by decide]; rfl) dX5_change_76 ?_
            exact r_retM (pc := 79) C (by first | (exfalso; omega; done) | ((try (first | rw [if_pos (by omega)] | rw [if_neg (by omega)])); (try (first | rw [if_pos (by omega)] | rw [if_neg (by omega)])); (try (first | rw [if_pos (by omega)] | rw [if_neg (by omega)])); (try (first | rw [if_pos (by omega)] | rw [if_neg (by omega)])); (try rfl))) ((((wr_n _ _ _ (by omega)).trans hS)).trans (congrArg mkS (by first | (exfalso; omega; done) | ((try (first | rw [if_pos (by omega)] | rw [if_neg (by omega)])); (try (first | rw [if_pos (by omega)] | rw [if_neg (by omega)])); (try (first | rw [if_pos (by omega)] | rw [if_neg (by omega)])); (try (first | rw [if_pos (by omega)] | rw [if_neg (by omega)])); (try rfl))))) (fun k hk => (rfl).trans (congrFun (by first | (exfalso; omega; done) | ((try (first | rw [if_pos (by omega)] | rw [if_neg (by omega)])); (try (first | rw [if_pos (by omega)] | rw [if_neg (by omega)])); (try (first | rw [if_pos (by omega)] | rw [if_neg (by omega)])); (try (first | rw [if_pos (by omega)] | rw [if_neg (by omega)])); (try rfl))) k)) dX5_change_79
          · skip
            skip
            refine r_aload_n (pc := 60) C dX5_change_60 rfl 0 rfl ?_
            refine r_iload_n (pc := 61) C dX5_change_61 rfl 1 rfl ?_
            refine r_iload_n (pc := 62) C dX5_change_62 rfl 2 rfl ?_
            refine r_cSi (pc := 63) C (c_place g x w σ) yX5_place_w rfl t_879 ⟨by decide, by decide⟩ (Nat.le_of_ble_eq_true rfl) rfl dX5_change_63 ?_
            refine r_iload_n (pc := 66) C dX5_change_66 rfl 3 rfl ?_
            refine r_cVi (pc := 67) C (c_becomes g (19 + 3 * x.toNat) 5 x.toNat (by omega) (cidx_G (by omega)) v ρ σ hS) yX5_becomes_w O_41 rfl rfl t_850 ⟨by decide, by decide⟩ (Nat.le_of_ble_eq_true rfl) (by rw [show 17 + 3 * x + w = (((19 + 3 * x.toNat) : Nat) : Int) by omega]; rfl) dX5_change_67 ?_
            refine r_goto (pc := 70) C 79 dX5_change_70 (by decide) ?_
            exact r_retM (pc := 79) C (by first | (exfalso; omega; done) | ((try (first | rw [if_pos (by omega)] | rw [if_neg (by omega)])); (try (first | rw [if_pos (by omega)] | rw [if_neg (by omega)])); (try (first | rw [if_pos (by omega)] | rw [if_neg (by omega)])); (try (first | rw [if_pos (by omega)] | rw [if_neg (by omega)])); (try rfl))) (((us_s _ _ _)).trans (congrArg mkS (by first | (exfalso; omega; done) | ((try (first | rw [if_pos (by omega)] | rw [if_neg (by omega)])); (try (first | rw [if_pos (by omega)] | rw [if_neg (by omega)])); (try (first | rw [if_pos (by omega)] | rw [if_neg (by omega)])); (try (first | rw [if_pos (by omega)] | rw [if_neg (by omega)])); (try rfl))))) (fun k hk => (us_n _ _ hk.1).trans (congrFun (by first | (exfalso; omega; done) | ((try (first | rw [if_pos (by omega)] | rw [if_neg (by omega)])); (try (first | rw [if_pos (by omega)] | rw [if_neg (by omega)])); (try (first | rw [if_pos (by omega)] | rw [if_neg (by omega)])); (try (first | rw [if_pos (by omega)] | rw [if_neg (by omega)])); (try rfl))) k)) dX5_change_79
      · skip
        refine r_iload_n (pc := 28) C dX5_change_28 rfl 3 rfl ?_
        refine r_i2l (pc := 29) C h_v dX5_change_29 ?_
        refine r_lconst (pc := 30) C (n := 0) dX5_change_30 (by decide) ?_
        refine r_ldc2 (pc := 31) C 99999 t_929 (by decide) dX5_change_31 ?_
        refine r_cSi (pc := 34) C (c_in g v 0 99999 ⟨by have := h_v.1; omega, by have := h_v.2; omega⟩ ⟨by omega, by omega⟩ ⟨by omega, by omega⟩ σ) yX5_in_w rfl t_846 ⟨by decide, by decide⟩ (Nat.le_of_ble_eq_true rfl) rfl dX5_change_34 ?_
        refine r_ifz_eq (pc := 37) C 44 dX5_change_37 (by decide) (fun h37 => ?_) (fun h37 => ?_)
        · skip
          refine r_iconst (pc := 44) C dX5_change_44 ?_
          refine r_istore (pc := 45) C dX5_change_45 (by decide) [1, 2, 3, 4, 0] (lv' := [(0, .ref (gA g 41)), (1, .int (iI (x))), (2, .int (iI (w))), (3, .int (iI (v))), (4, .int (iI (0)))]) rfl ?_
          refine r_aload_n (pc := 47) C dX5_change_47 rfl 0 rfl ?_
          refine r_iload_n (pc := 48) C dX5_change_48 rfl 1 rfl ?_
          refine r_cVi (pc := 49) C (c_m_isTenant g x h_x ρ σ hS hn) yX5_isTenant_w O_41 rfl rfl t_905 ⟨by decide, by decide⟩ (Nat.le_of_ble_eq_true rfl) rfl dX5_change_49 ?_
          refine r_ifz_eq (pc := 52) C 73 dX5_change_52 (by decide) (fun h52 => ?_) (fun h52 => ?_)
          · skip
            refine r_aload_n (pc := 73) C dX5_change_73 rfl 0 rfl ?_
            refine r_ldc (pc := 74) C (-1000001) t_854 (by decide) dX5_change_74 ?_
            refine r_cVi (pc := 76) C (c_finds g 0 (by decide) σ) yX5_finds_w O_41 rfl rfl t_855 ⟨by decide, by decide⟩ (Nat.le_of_ble_eq_true rfl) (by rw [show ((-1000001) : Int) = -1000001 - ((0 : Nat) : Int) by decide]; rfl) dX5_change_76 ?_
            exact r_retM (pc := 79) C (by first | (exfalso; omega; done) | ((try (first | rw [if_pos (by omega)] | rw [if_neg (by omega)])); (try (first | rw [if_pos (by omega)] | rw [if_neg (by omega)])); (try (first | rw [if_pos (by omega)] | rw [if_neg (by omega)])); (try (first | rw [if_pos (by omega)] | rw [if_neg (by omega)])); (try rfl))) ((((wr_n _ _ _ (by omega)).trans hS)).trans (congrArg mkS (by first | (exfalso; omega; done) | ((try (first | rw [if_pos (by omega)] | rw [if_neg (by omega)])); (try (first | rw [if_pos (by omega)] | rw [if_neg (by omega)])); (try (first | rw [if_pos (by omega)] | rw [if_neg (by omega)])); (try (first | rw [if_pos (by omega)] | rw [if_neg (by omega)])); (try rfl))))) (fun k hk => (rfl).trans (congrFun (by first | (exfalso; omega; done) | ((try (first | rw [if_pos (by omega)] | rw [if_neg (by omega)])); (try (first | rw [if_pos (by omega)] | rw [if_neg (by omega)])); (try (first | rw [if_pos (by omega)] | rw [if_neg (by omega)])); (try (first | rw [if_pos (by omega)] | rw [if_neg (by omega)])); (try rfl))) k)) dX5_change_79
          · skip
            refine r_iload (pc := 55) C dX5_change_55 4 rfl ?_
            refine r_if_eq (pc := 57) C 73 ⟨by omega, by omega⟩ dX5_change_57 (by decide) (fun h57 => ?_) (fun h57 => ?_)
            · skip
              refine r_aload_n (pc := 73) C dX5_change_73 rfl 0 rfl ?_
              refine r_ldc (pc := 74) C (-1000001) t_854 (by decide) dX5_change_74 ?_
              refine r_cVi (pc := 76) C (c_finds g 0 (by decide) σ) yX5_finds_w O_41 rfl rfl t_855 ⟨by decide, by decide⟩ (Nat.le_of_ble_eq_true rfl) (by rw [show ((-1000001) : Int) = -1000001 - ((0 : Nat) : Int) by decide]; rfl) dX5_change_76 ?_
              exact r_retM (pc := 79) C (by first | (exfalso; omega; done) | ((try (first | rw [if_pos (by omega)] | rw [if_neg (by omega)])); (try (first | rw [if_pos (by omega)] | rw [if_neg (by omega)])); (try (first | rw [if_pos (by omega)] | rw [if_neg (by omega)])); (try (first | rw [if_pos (by omega)] | rw [if_neg (by omega)])); (try rfl))) ((((wr_n _ _ _ (by omega)).trans hS)).trans (congrArg mkS (by first | (exfalso; omega; done) | ((try (first | rw [if_pos (by omega)] | rw [if_neg (by omega)])); (try (first | rw [if_pos (by omega)] | rw [if_neg (by omega)])); (try (first | rw [if_pos (by omega)] | rw [if_neg (by omega)])); (try (first | rw [if_pos (by omega)] | rw [if_neg (by omega)])); (try rfl))))) (fun k hk => (rfl).trans (congrFun (by first | (exfalso; omega; done) | ((try (first | rw [if_pos (by omega)] | rw [if_neg (by omega)])); (try (first | rw [if_pos (by omega)] | rw [if_neg (by omega)])); (try (first | rw [if_pos (by omega)] | rw [if_neg (by omega)])); (try (first | rw [if_pos (by omega)] | rw [if_neg (by omega)])); (try rfl))) k)) dX5_change_79
            · skip
              skip
              refine r_aload_n (pc := 60) C dX5_change_60 rfl 0 rfl ?_
              refine r_iload_n (pc := 61) C dX5_change_61 rfl 1 rfl ?_
              refine r_iload_n (pc := 62) C dX5_change_62 rfl 2 rfl ?_
              refine r_cSi (pc := 63) C (c_place g x w σ) yX5_place_w rfl t_879 ⟨by decide, by decide⟩ (Nat.le_of_ble_eq_true rfl) rfl dX5_change_63 ?_
              refine r_iload_n (pc := 66) C dX5_change_66 rfl 3 rfl ?_
              refine r_cVi (pc := 67) C (c_becomes g (19 + 3 * x.toNat) 5 x.toNat (by omega) (cidx_G (by omega)) v ρ σ hS) yX5_becomes_w O_41 rfl rfl t_850 ⟨by decide, by decide⟩ (Nat.le_of_ble_eq_true rfl) (by rw [show 17 + 3 * x + w = (((19 + 3 * x.toNat) : Nat) : Int) by omega]; rfl) dX5_change_67 ?_
              refine r_goto (pc := 70) C 79 dX5_change_70 (by decide) ?_
              exact r_retM (pc := 79) C (by first | (exfalso; omega; done) | ((try (first | rw [if_pos (by omega)] | rw [if_neg (by omega)])); (try (first | rw [if_pos (by omega)] | rw [if_neg (by omega)])); (try (first | rw [if_pos (by omega)] | rw [if_neg (by omega)])); (try (first | rw [if_pos (by omega)] | rw [if_neg (by omega)])); (try rfl))) (((us_s _ _ _)).trans (congrArg mkS (by first | (exfalso; omega; done) | ((try (first | rw [if_pos (by omega)] | rw [if_neg (by omega)])); (try (first | rw [if_pos (by omega)] | rw [if_neg (by omega)])); (try (first | rw [if_pos (by omega)] | rw [if_neg (by omega)])); (try (first | rw [if_pos (by omega)] | rw [if_neg (by omega)])); (try rfl))))) (fun k hk => (us_n _ _ hk.1).trans (congrFun (by first | (exfalso; omega; done) | ((try (first | rw [if_pos (by omega)] | rw [if_neg (by omega)])); (try (first | rw [if_pos (by omega)] | rw [if_neg (by omega)])); (try (first | rw [if_pos (by omega)] | rw [if_neg (by omega)])); (try (first | rw [if_pos (by omega)] | rw [if_neg (by omega)])); (try rfl))) k)) dX5_change_79
        · skip
          refine r_iconst (pc := 40) C dX5_change_40 ?_
          refine r_goto (pc := 41) C 45 dX5_change_41 (by decide) ?_
          refine r_istore (pc := 45) C dX5_change_45 (by decide) [1, 2, 3, 4, 0] (lv' := [(0, .ref (gA g 41)), (1, .int (iI (x))), (2, .int (iI (w))), (3, .int (iI (v))), (4, .int (iI (1)))]) rfl ?_
          refine r_aload_n (pc := 47) C dX5_change_47 rfl 0 rfl ?_
          refine r_iload_n (pc := 48) C dX5_change_48 rfl 1 rfl ?_
          refine r_cVi (pc := 49) C (c_m_isTenant g x h_x ρ σ hS hn) yX5_isTenant_w O_41 rfl rfl t_905 ⟨by decide, by decide⟩ (Nat.le_of_ble_eq_true rfl) rfl dX5_change_49 ?_
          refine r_ifz_eq (pc := 52) C 73 dX5_change_52 (by decide) (fun h52 => ?_) (fun h52 => ?_)
          · skip
            refine r_aload_n (pc := 73) C dX5_change_73 rfl 0 rfl ?_
            refine r_ldc (pc := 74) C (-1000001) t_854 (by decide) dX5_change_74 ?_
            refine r_cVi (pc := 76) C (c_finds g 0 (by decide) σ) yX5_finds_w O_41 rfl rfl t_855 ⟨by decide, by decide⟩ (Nat.le_of_ble_eq_true rfl) (by rw [show ((-1000001) : Int) = -1000001 - ((0 : Nat) : Int) by decide]; rfl) dX5_change_76 ?_
            exact r_retM (pc := 79) C (by first | (exfalso; omega; done) | ((try (first | rw [if_pos (by omega)] | rw [if_neg (by omega)])); (try (first | rw [if_pos (by omega)] | rw [if_neg (by omega)])); (try (first | rw [if_pos (by omega)] | rw [if_neg (by omega)])); (try (first | rw [if_pos (by omega)] | rw [if_neg (by omega)])); (try rfl))) ((((wr_n _ _ _ (by omega)).trans hS)).trans (congrArg mkS (by first | (exfalso; omega; done) | ((try (first | rw [if_pos (by omega)] | rw [if_neg (by omega)])); (try (first | rw [if_pos (by omega)] | rw [if_neg (by omega)])); (try (first | rw [if_pos (by omega)] | rw [if_neg (by omega)])); (try (first | rw [if_pos (by omega)] | rw [if_neg (by omega)])); (try rfl))))) (fun k hk => (rfl).trans (congrFun (by first | (exfalso; omega; done) | ((try (first | rw [if_pos (by omega)] | rw [if_neg (by omega)])); (try (first | rw [if_pos (by omega)] | rw [if_neg (by omega)])); (try (first | rw [if_pos (by omega)] | rw [if_neg (by omega)])); (try (first | rw [if_pos (by omega)] | rw [if_neg (by omega)])); (try rfl))) k)) dX5_change_79
          · skip
            refine r_iload (pc := 55) C dX5_change_55 4 rfl ?_
            refine r_if_eq (pc := 57) C 73 ⟨by omega, by omega⟩ dX5_change_57 (by decide) (fun h57 => ?_) (fun h57 => ?_)
            · skip
              refine r_aload_n (pc := 73) C dX5_change_73 rfl 0 rfl ?_
              refine r_ldc (pc := 74) C (-1000001) t_854 (by decide) dX5_change_74 ?_
              refine r_cVi (pc := 76) C (c_finds g 0 (by decide) σ) yX5_finds_w O_41 rfl rfl t_855 ⟨by decide, by decide⟩ (Nat.le_of_ble_eq_true rfl) (by rw [show ((-1000001) : Int) = -1000001 - ((0 : Nat) : Int) by decide]; rfl) dX5_change_76 ?_
              exact r_retM (pc := 79) C (by first | (exfalso; omega; done) | ((try (first | rw [if_pos (by omega)] | rw [if_neg (by omega)])); (try (first | rw [if_pos (by omega)] | rw [if_neg (by omega)])); (try (first | rw [if_pos (by omega)] | rw [if_neg (by omega)])); (try (first | rw [if_pos (by omega)] | rw [if_neg (by omega)])); (try rfl))) ((((wr_n _ _ _ (by omega)).trans hS)).trans (congrArg mkS (by first | (exfalso; omega; done) | ((try (first | rw [if_pos (by omega)] | rw [if_neg (by omega)])); (try (first | rw [if_pos (by omega)] | rw [if_neg (by omega)])); (try (first | rw [if_pos (by omega)] | rw [if_neg (by omega)])); (try (first | rw [if_pos (by omega)] | rw [if_neg (by omega)])); (try rfl))))) (fun k hk => (rfl).trans (congrFun (by first | (exfalso; omega; done) | ((try (first | rw [if_pos (by omega)] | rw [if_neg (by omega)])); (try (first | rw [if_pos (by omega)] | rw [if_neg (by omega)])); (try (first | rw [if_pos (by omega)] | rw [if_neg (by omega)])); (try (first | rw [if_pos (by omega)] | rw [if_neg (by omega)])); (try rfl))) k)) dX5_change_79
            · skip
              skip
              refine r_aload_n (pc := 60) C dX5_change_60 rfl 0 rfl ?_
              refine r_iload_n (pc := 61) C dX5_change_61 rfl 1 rfl ?_
              refine r_iload_n (pc := 62) C dX5_change_62 rfl 2 rfl ?_
              refine r_cSi (pc := 63) C (c_place g x w σ) yX5_place_w rfl t_879 ⟨by decide, by decide⟩ (Nat.le_of_ble_eq_true rfl) rfl dX5_change_63 ?_
              refine r_iload_n (pc := 66) C dX5_change_66 rfl 3 rfl ?_
              refine r_cVi (pc := 67) C (c_becomes g (19 + 3 * x.toNat) 5 x.toNat (by omega) (cidx_G (by omega)) v ρ σ hS) yX5_becomes_w O_41 rfl rfl t_850 ⟨by decide, by decide⟩ (Nat.le_of_ble_eq_true rfl) (by rw [show 17 + 3 * x + w = (((19 + 3 * x.toNat) : Nat) : Int) by omega]; rfl) dX5_change_67 ?_
              refine r_goto (pc := 70) C 79 dX5_change_70 (by decide) ?_
              exact r_retM (pc := 79) C (by first | (exfalso; omega; done) | ((try (first | rw [if_pos (by omega)] | rw [if_neg (by omega)])); (try (first | rw [if_pos (by omega)] | rw [if_neg (by omega)])); (try (first | rw [if_pos (by omega)] | rw [if_neg (by omega)])); (try (first | rw [if_pos (by omega)] | rw [if_neg (by omega)])); (try rfl))) (((us_s _ _ _)).trans (congrArg mkS (by first | (exfalso; omega; done) | ((try (first | rw [if_pos (by omega)] | rw [if_neg (by omega)])); (try (first | rw [if_pos (by omega)] | rw [if_neg (by omega)])); (try (first | rw [if_pos (by omega)] | rw [if_neg (by omega)])); (try (first | rw [if_pos (by omega)] | rw [if_neg (by omega)])); (try rfl))))) (fun k hk => (us_n _ _ hk.1).trans (congrFun (by first | (exfalso; omega; done) | ((try (first | rw [if_pos (by omega)] | rw [if_neg (by omega)])); (try (first | rw [if_pos (by omega)] | rw [if_neg (by omega)])); (try (first | rw [if_pos (by omega)] | rw [if_neg (by omega)])); (try (first | rw [if_pos (by omega)] | rw [if_neg (by omega)])); (try rfl))) k)) dX5_change_79
    · skip
      refine r_iload_n (pc := 16) C dX5_change_16 rfl 3 rfl ?_
      refine r_cSi (pc := 17) C (c_m_isSurface g v h_v σ) yX5_isSurface_w rfl t_842 ⟨by decide, by decide⟩ (Nat.le_of_ble_eq_true rfl) rfl dX5_change_17 ?_
      refine r_goto (pc := 20) C 45 dX5_change_20 (by decide) ?_
      refine r_istore (pc := 45) C dX5_change_45 (by decide) [1, 2, 3, 4, 0] (lv' := [(0, .ref (gA g 41)), (1, .int (iI (x))), (2, .int (iI (w))), (3, .int (iI (v))), (4, .int (iI (b01 (0 ≤ v ∧ v ≤ 11))))]) rfl ?_
      refine r_aload_n (pc := 47) C dX5_change_47 rfl 0 rfl ?_
      refine r_iload_n (pc := 48) C dX5_change_48 rfl 1 rfl ?_
      refine r_cVi (pc := 49) C (c_m_isTenant g x h_x ρ σ hS hn) yX5_isTenant_w O_41 rfl rfl t_905 ⟨by decide, by decide⟩ (Nat.le_of_ble_eq_true rfl) rfl dX5_change_49 ?_
      refine r_ifz_eq (pc := 52) C 73 dX5_change_52 (by decide) (fun h52 => ?_) (fun h52 => ?_)
      · skip
        refine r_aload_n (pc := 73) C dX5_change_73 rfl 0 rfl ?_
        refine r_ldc (pc := 74) C (-1000001) t_854 (by decide) dX5_change_74 ?_
        refine r_cVi (pc := 76) C (c_finds g 0 (by decide) σ) yX5_finds_w O_41 rfl rfl t_855 ⟨by decide, by decide⟩ (Nat.le_of_ble_eq_true rfl) (by rw [show ((-1000001) : Int) = -1000001 - ((0 : Nat) : Int) by decide]; rfl) dX5_change_76 ?_
        exact r_retM (pc := 79) C (by first | (exfalso; omega; done) | ((try (first | rw [if_pos (by omega)] | rw [if_neg (by omega)])); (try (first | rw [if_pos (by omega)] | rw [if_neg (by omega)])); (try (first | rw [if_pos (by omega)] | rw [if_neg (by omega)])); (try (first | rw [if_pos (by omega)] | rw [if_neg (by omega)])); (try rfl))) ((((wr_n _ _ _ (by omega)).trans hS)).trans (congrArg mkS (by first | (exfalso; omega; done) | ((try (first | rw [if_pos (by omega)] | rw [if_neg (by omega)])); (try (first | rw [if_pos (by omega)] | rw [if_neg (by omega)])); (try (first | rw [if_pos (by omega)] | rw [if_neg (by omega)])); (try (first | rw [if_pos (by omega)] | rw [if_neg (by omega)])); (try rfl))))) (fun k hk => (rfl).trans (congrFun (by first | (exfalso; omega; done) | ((try (first | rw [if_pos (by omega)] | rw [if_neg (by omega)])); (try (first | rw [if_pos (by omega)] | rw [if_neg (by omega)])); (try (first | rw [if_pos (by omega)] | rw [if_neg (by omega)])); (try (first | rw [if_pos (by omega)] | rw [if_neg (by omega)])); (try rfl))) k)) dX5_change_79
      · skip
        refine r_iload (pc := 55) C dX5_change_55 4 rfl ?_
        refine r_ifz_eq (pc := 57) C 73 dX5_change_57 (by decide) (fun h57 => ?_) (fun h57 => ?_)
        · skip
          refine r_aload_n (pc := 73) C dX5_change_73 rfl 0 rfl ?_
          refine r_ldc (pc := 74) C (-1000001) t_854 (by decide) dX5_change_74 ?_
          refine r_cVi (pc := 76) C (c_finds g 0 (by decide) σ) yX5_finds_w O_41 rfl rfl t_855 ⟨by decide, by decide⟩ (Nat.le_of_ble_eq_true rfl) (by rw [show ((-1000001) : Int) = -1000001 - ((0 : Nat) : Int) by decide]; rfl) dX5_change_76 ?_
          exact r_retM (pc := 79) C (by first | (exfalso; omega; done) | ((try (first | rw [if_pos (by omega)] | rw [if_neg (by omega)])); (try (first | rw [if_pos (by omega)] | rw [if_neg (by omega)])); (try (first | rw [if_pos (by omega)] | rw [if_neg (by omega)])); (try (first | rw [if_pos (by omega)] | rw [if_neg (by omega)])); (try rfl))) ((((wr_n _ _ _ (by omega)).trans hS)).trans (congrArg mkS (by first | (exfalso; omega; done) | ((try (first | rw [if_pos (by omega)] | rw [if_neg (by omega)])); (try (first | rw [if_pos (by omega)] | rw [if_neg (by omega)])); (try (first | rw [if_pos (by omega)] | rw [if_neg (by omega)])); (try (first | rw [if_pos (by omega)] | rw [if_neg (by omega)])); (try rfl))))) (fun k hk => (rfl).trans (congrFun (by first | (exfalso; omega; done) | ((try (first | rw [if_pos (by omega)] | rw [if_neg (by omega)])); (try (first | rw [if_pos (by omega)] | rw [if_neg (by omega)])); (try (first | rw [if_pos (by omega)] | rw [if_neg (by omega)])); (try (first | rw [if_pos (by omega)] | rw [if_neg (by omega)])); (try rfl))) k)) dX5_change_79
        · skip
          skip
          refine r_aload_n (pc := 60) C dX5_change_60 rfl 0 rfl ?_
          refine r_iload_n (pc := 61) C dX5_change_61 rfl 1 rfl ?_
          refine r_iload_n (pc := 62) C dX5_change_62 rfl 2 rfl ?_
          refine r_cSi (pc := 63) C (c_place g x w σ) yX5_place_w rfl t_879 ⟨by decide, by decide⟩ (Nat.le_of_ble_eq_true rfl) rfl dX5_change_63 ?_
          refine r_iload_n (pc := 66) C dX5_change_66 rfl 3 rfl ?_
          refine r_cVi (pc := 67) C (c_becomes g (18 + 3 * x.toNat) 4 x.toNat (by omega) (cidx_A (by omega)) v ρ σ hS) yX5_becomes_w O_41 rfl rfl t_850 ⟨by decide, by decide⟩ (Nat.le_of_ble_eq_true rfl) (by rw [show 17 + 3 * x + w = (((18 + 3 * x.toNat) : Nat) : Int) by omega]; rfl) dX5_change_67 ?_
          refine r_goto (pc := 70) C 79 dX5_change_70 (by decide) ?_
          exact r_retM (pc := 79) C (by first | (exfalso; omega; done) | ((try (first | rw [if_pos (by omega)] | rw [if_neg (by omega)])); (try (first | rw [if_pos (by omega)] | rw [if_neg (by omega)])); (try (first | rw [if_pos (by omega)] | rw [if_neg (by omega)])); (try (first | rw [if_pos (by omega)] | rw [if_neg (by omega)])); (try rfl))) (((us_s _ _ _)).trans (congrArg mkS (by first | (exfalso; omega; done) | ((try (first | rw [if_pos (by omega)] | rw [if_neg (by omega)])); (try (first | rw [if_pos (by omega)] | rw [if_neg (by omega)])); (try (first | rw [if_pos (by omega)] | rw [if_neg (by omega)])); (try (first | rw [if_pos (by omega)] | rw [if_neg (by omega)])); (try rfl))))) (fun k hk => (us_n _ _ hk.1).trans (congrFun (by first | (exfalso; omega; done) | ((try (first | rw [if_pos (by omega)] | rw [if_neg (by omega)])); (try (first | rw [if_pos (by omega)] | rw [if_neg (by omega)])); (try (first | rw [if_pos (by omega)] | rw [if_neg (by omega)])); (try (first | rw [if_pos (by omega)] | rw [if_neg (by omega)])); (try rfl))) k)) dX5_change_79
  · skip
    refine r_iload_n (pc := 4) C dX5_change_4 rfl 3 rfl ?_
    refine r_cSi (pc := 5) C (c_m_isKind g v h_v σ) yX5_isKind_w rfl t_892 ⟨by decide, by decide⟩ (Nat.le_of_ble_eq_true rfl) rfl dX5_change_5 ?_
    refine r_goto (pc := 8) C 45 dX5_change_8 (by decide) ?_
    refine r_istore (pc := 45) C dX5_change_45 (by decide) [1, 2, 3, 4, 0] (lv' := [(0, .ref (gA g 41)), (1, .int (iI (x))), (2, .int (iI (w))), (3, .int (iI (v))), (4, .int (iI (b01 (0 ≤ v ∧ v ≤ 6))))]) rfl ?_
    refine r_aload_n (pc := 47) C dX5_change_47 rfl 0 rfl ?_
    refine r_iload_n (pc := 48) C dX5_change_48 rfl 1 rfl ?_
    refine r_cVi (pc := 49) C (c_m_isTenant g x h_x ρ σ hS hn) yX5_isTenant_w O_41 rfl rfl t_905 ⟨by decide, by decide⟩ (Nat.le_of_ble_eq_true rfl) rfl dX5_change_49 ?_
    refine r_ifz_eq (pc := 52) C 73 dX5_change_52 (by decide) (fun h52 => ?_) (fun h52 => ?_)
    · skip
      refine r_aload_n (pc := 73) C dX5_change_73 rfl 0 rfl ?_
      refine r_ldc (pc := 74) C (-1000001) t_854 (by decide) dX5_change_74 ?_
      refine r_cVi (pc := 76) C (c_finds g 0 (by decide) σ) yX5_finds_w O_41 rfl rfl t_855 ⟨by decide, by decide⟩ (Nat.le_of_ble_eq_true rfl) (by rw [show ((-1000001) : Int) = -1000001 - ((0 : Nat) : Int) by decide]; rfl) dX5_change_76 ?_
      exact r_retM (pc := 79) C (by first | (exfalso; omega; done) | ((try (first | rw [if_pos (by omega)] | rw [if_neg (by omega)])); (try (first | rw [if_pos (by omega)] | rw [if_neg (by omega)])); (try (first | rw [if_pos (by omega)] | rw [if_neg (by omega)])); (try (first | rw [if_pos (by omega)] | rw [if_neg (by omega)])); (try rfl))) ((((wr_n _ _ _ (by omega)).trans hS)).trans (congrArg mkS (by first | (exfalso; omega; done) | ((try (first | rw [if_pos (by omega)] | rw [if_neg (by omega)])); (try (first | rw [if_pos (by omega)] | rw [if_neg (by omega)])); (try (first | rw [if_pos (by omega)] | rw [if_neg (by omega)])); (try (first | rw [if_pos (by omega)] | rw [if_neg (by omega)])); (try rfl))))) (fun k hk => (rfl).trans (congrFun (by first | (exfalso; omega; done) | ((try (first | rw [if_pos (by omega)] | rw [if_neg (by omega)])); (try (first | rw [if_pos (by omega)] | rw [if_neg (by omega)])); (try (first | rw [if_pos (by omega)] | rw [if_neg (by omega)])); (try (first | rw [if_pos (by omega)] | rw [if_neg (by omega)])); (try rfl))) k)) dX5_change_79
    · skip
      refine r_iload (pc := 55) C dX5_change_55 4 rfl ?_
      refine r_ifz_eq (pc := 57) C 73 dX5_change_57 (by decide) (fun h57 => ?_) (fun h57 => ?_)
      · skip
        refine r_aload_n (pc := 73) C dX5_change_73 rfl 0 rfl ?_
        refine r_ldc (pc := 74) C (-1000001) t_854 (by decide) dX5_change_74 ?_
        refine r_cVi (pc := 76) C (c_finds g 0 (by decide) σ) yX5_finds_w O_41 rfl rfl t_855 ⟨by decide, by decide⟩ (Nat.le_of_ble_eq_true rfl) (by rw [show ((-1000001) : Int) = -1000001 - ((0 : Nat) : Int) by decide]; rfl) dX5_change_76 ?_
        exact r_retM (pc := 79) C (by first | (exfalso; omega; done) | ((try (first | rw [if_pos (by omega)] | rw [if_neg (by omega)])); (try (first | rw [if_pos (by omega)] | rw [if_neg (by omega)])); (try (first | rw [if_pos (by omega)] | rw [if_neg (by omega)])); (try (first | rw [if_pos (by omega)] | rw [if_neg (by omega)])); (try rfl))) ((((wr_n _ _ _ (by omega)).trans hS)).trans (congrArg mkS (by first | (exfalso; omega; done) | ((try (first | rw [if_pos (by omega)] | rw [if_neg (by omega)])); (try (first | rw [if_pos (by omega)] | rw [if_neg (by omega)])); (try (first | rw [if_pos (by omega)] | rw [if_neg (by omega)])); (try (first | rw [if_pos (by omega)] | rw [if_neg (by omega)])); (try rfl))))) (fun k hk => (rfl).trans (congrFun (by first | (exfalso; omega; done) | ((try (first | rw [if_pos (by omega)] | rw [if_neg (by omega)])); (try (first | rw [if_pos (by omega)] | rw [if_neg (by omega)])); (try (first | rw [if_pos (by omega)] | rw [if_neg (by omega)])); (try (first | rw [if_pos (by omega)] | rw [if_neg (by omega)])); (try rfl))) k)) dX5_change_79
      · skip
        skip
        refine r_aload_n (pc := 60) C dX5_change_60 rfl 0 rfl ?_
        refine r_iload_n (pc := 61) C dX5_change_61 rfl 1 rfl ?_
        refine r_iload_n (pc := 62) C dX5_change_62 rfl 2 rfl ?_
        refine r_cSi (pc := 63) C (c_place g x w σ) yX5_place_w rfl t_879 ⟨by decide, by decide⟩ (Nat.le_of_ble_eq_true rfl) rfl dX5_change_63 ?_
        refine r_iload_n (pc := 66) C dX5_change_66 rfl 3 rfl ?_
        refine r_cVi (pc := 67) C (c_becomes g (17 + 3 * x.toNat) 3 x.toNat (by omega) (cidx_K (by omega)) v ρ σ hS) yX5_becomes_w O_41 rfl rfl t_850 ⟨by decide, by decide⟩ (Nat.le_of_ble_eq_true rfl) (by rw [show 17 + 3 * x + w = (((17 + 3 * x.toNat) : Nat) : Int) by omega]; rfl) dX5_change_67 ?_
        refine r_goto (pc := 70) C 79 dX5_change_70 (by decide) ?_
        exact r_retM (pc := 79) C (by first | (exfalso; omega; done) | ((try (first | rw [if_pos (by omega)] | rw [if_neg (by omega)])); (try (first | rw [if_pos (by omega)] | rw [if_neg (by omega)])); (try (first | rw [if_pos (by omega)] | rw [if_neg (by omega)])); (try (first | rw [if_pos (by omega)] | rw [if_neg (by omega)])); (try rfl))) (((us_s _ _ _)).trans (congrArg mkS (by first | (exfalso; omega; done) | ((try (first | rw [if_pos (by omega)] | rw [if_neg (by omega)])); (try (first | rw [if_pos (by omega)] | rw [if_neg (by omega)])); (try (first | rw [if_pos (by omega)] | rw [if_neg (by omega)])); (try (first | rw [if_pos (by omega)] | rw [if_neg (by omega)])); (try rfl))))) (fun k hk => (us_n _ _ hk.1).trans (congrFun (by first | (exfalso; omega; done) | ((try (first | rw [if_pos (by omega)] | rw [if_neg (by omega)])); (try (first | rw [if_pos (by omega)] | rw [if_neg (by omega)])); (try (first | rw [if_pos (by omega)] | rw [if_neg (by omega)])); (try (first | rw [if_pos (by omega)] | rw [if_neg (by omega)])); (try rfl))) k)) dX5_change_79
set_option maxHeartbeats 4000000 in
set_option maxRecDepth 100000 in
theorem e_mark (g : Gt) (x f : Int) (h_x : rng x) (h_f : rng f) (ρ σ : Sg) (hS : σ 42 = mkS ρ) (hW : RW ρ 0) (h6 : σ 41 6 = 255) : Mt g yX5_mark cX5_mark 3 (some FieldType.int) 2 [.ref (gA g 41), .int (iI (x)), .int (iI (f))] σ (pM (if (0 ≤ x ∧ x < ρ 0 7) ∧ 0 ≤ f ∧ f < 12 then ρ 6 (12 * x.toNat + f.toNat) else (-1000001 - ((0 : Nat) : Int))) (ρ) (if (0 ≤ x ∧ x < ρ 0 7) ∧ 0 ≤ f ∧ f < 12 then σ else finM 0 σ)) := by
  obtain ⟨hn, hfl, hw, hdy, hz, hD_, hK_, hA_, hG_, hM_, hP_⟩ := id hW
  have hD : rgD (ρ 1) := hD_
  have hK : rgK (ρ 3) := hK_
  have hA : rgA (ρ 4) := hA_
  have hG : rgG (ρ 5) := hG_
  have hM : rgM (ρ 6) := hM_
  have hP : ∀ j, j < 10 → -1 ≤ ρ 7 j ∧ ρ 7 j < ρ 0 7 := hP_
  have ho_x := h_x.1; have hp_x := h_x.2
  have ho_f := h_f.1; have hp_f := h_f.2
  refine mt_of (own := RX5) (by decide) rfl (Nat.le_of_ble_eq_true rfl) (fun E C => ?_)
  show J g E (pM (if (0 ≤ x ∧ x < ρ 0 7) ∧ 0 ≤ f ∧ f < 12 then ρ 6 (12 * x.toNat + f.toNat) else (-1000001 - ((0 : Nat) : Int))) (ρ) (if (0 ≤ x ∧ x < ρ 0 7) ∧ 0 ≤ f ∧ f < 12 then σ else finM 0 σ)) 3 0 [(0, .ref (gA g 41)), (1, .int (iI (x))), (2, .int (iI (f)))] [] σ
  refine r_aload_n (pc := 0) C dX5_mark_0 rfl 0 rfl ?_
  refine r_iload_n (pc := 1) C dX5_mark_1 rfl 1 rfl ?_
  refine r_cVi (pc := 2) C (c_m_isTenant g x h_x ρ σ hS hn) yX5_isTenant_w O_41 rfl rfl t_905 ⟨by decide, by decide⟩ (Nat.le_of_ble_eq_true rfl) rfl dX5_mark_2 ?_
  refine r_ifz_eq (pc := 5) C 28 dX5_mark_5 (by decide) (fun h5 => ?_) (fun h5 => ?_)
  · skip
    refine r_aload_n (pc := 28) C dX5_mark_28 rfl 0 rfl ?_
    refine r_ldc (pc := 29) C (-1000001) t_854 (by decide) dX5_mark_29 ?_
    refine r_cVi (pc := 31) C (c_finds g 0 (by decide) σ) yX5_finds_w O_41 rfl rfl t_855 ⟨by decide, by decide⟩ (Nat.le_of_ble_eq_true rfl) (by rw [show ((-1000001) : Int) = -1000001 - ((0 : Nat) : Int) by decide]; rfl) dX5_mark_31 ?_
    exact r_retM (pc := 34) C (by first | (exfalso; omega; done) | ((try (first | rw [if_pos (by omega)] | rw [if_neg (by omega)])); (try (first | rw [if_pos (by omega)] | rw [if_neg (by omega)])); (try (first | rw [if_pos (by omega)] | rw [if_neg (by omega)])); (try (first | rw [if_pos (by omega)] | rw [if_neg (by omega)])); (try rfl))) ((((wr_n _ _ _ (by omega)).trans hS)).trans (congrArg mkS (by first | (exfalso; omega; done) | ((try (first | rw [if_pos (by omega)] | rw [if_neg (by omega)])); (try (first | rw [if_pos (by omega)] | rw [if_neg (by omega)])); (try (first | rw [if_pos (by omega)] | rw [if_neg (by omega)])); (try (first | rw [if_pos (by omega)] | rw [if_neg (by omega)])); (try rfl))))) (fun k hk => (rfl).trans (congrFun (by first | (exfalso; omega; done) | ((try (first | rw [if_pos (by omega)] | rw [if_neg (by omega)])); (try (first | rw [if_pos (by omega)] | rw [if_neg (by omega)])); (try (first | rw [if_pos (by omega)] | rw [if_neg (by omega)])); (try (first | rw [if_pos (by omega)] | rw [if_neg (by omega)])); (try rfl))) k)) dX5_mark_34
  · skip
    refine r_iload_n (pc := 8) C dX5_mark_8 rfl 2 rfl ?_
    refine r_cSi (pc := 9) C (c_m_isSurface g f h_f σ) yX5_isSurface_w rfl t_842 ⟨by decide, by decide⟩ (Nat.le_of_ble_eq_true rfl) rfl dX5_mark_9 ?_
    refine r_ifz_eq (pc := 12) C 28 dX5_mark_12 (by decide) (fun h12 => ?_) (fun h12 => ?_)
    · skip
      refine r_aload_n (pc := 28) C dX5_mark_28 rfl 0 rfl ?_
      refine r_ldc (pc := 29) C (-1000001) t_854 (by decide) dX5_mark_29 ?_
      refine r_cVi (pc := 31) C (c_finds g 0 (by decide) σ) yX5_finds_w O_41 rfl rfl t_855 ⟨by decide, by decide⟩ (Nat.le_of_ble_eq_true rfl) (by rw [show ((-1000001) : Int) = -1000001 - ((0 : Nat) : Int) by decide]; rfl) dX5_mark_31 ?_
      exact r_retM (pc := 34) C (by first | (exfalso; omega; done) | ((try (first | rw [if_pos (by omega)] | rw [if_neg (by omega)])); (try (first | rw [if_pos (by omega)] | rw [if_neg (by omega)])); (try (first | rw [if_pos (by omega)] | rw [if_neg (by omega)])); (try (first | rw [if_pos (by omega)] | rw [if_neg (by omega)])); (try rfl))) ((((wr_n _ _ _ (by omega)).trans hS)).trans (congrArg mkS (by first | (exfalso; omega; done) | ((try (first | rw [if_pos (by omega)] | rw [if_neg (by omega)])); (try (first | rw [if_pos (by omega)] | rw [if_neg (by omega)])); (try (first | rw [if_pos (by omega)] | rw [if_neg (by omega)])); (try (first | rw [if_pos (by omega)] | rw [if_neg (by omega)])); (try rfl))))) (fun k hk => (rfl).trans (congrFun (by first | (exfalso; omega; done) | ((try (first | rw [if_pos (by omega)] | rw [if_neg (by omega)])); (try (first | rw [if_pos (by omega)] | rw [if_neg (by omega)])); (try (first | rw [if_pos (by omega)] | rw [if_neg (by omega)])); (try (first | rw [if_pos (by omega)] | rw [if_neg (by omega)])); (try rfl))) k)) dX5_mark_34
    · skip
      refine r_aload_n (pc := 15) C dX5_mark_15 rfl 0 rfl ?_
      refine r_getR5 (pc := 16) C 0 (k' := 42) rfl O_41 (by decide) rfl t_780 dX5_mark_16 ?_
      refine r_iload_n (pc := 19) C dX5_mark_19 rfl 1 rfl ?_
      refine r_iload_n (pc := 20) C dX5_mark_20 rfl 2 rfl ?_
      refine r_cSi (pc := 21) C (c_markAt g x f σ) yX5_markAt_w rfl t_868 ⟨by decide, by decide⟩ (Nat.le_of_ble_eq_true rfl) rfl dX5_mark_21 ?_
      refine r_iald (pc := 24) C (41 + (12 * x.toNat + f.toNat)) A_42 (by omega) (by omega) dX5_mark_24 ?_
      refine r_top (show _ = ρ 6 (12 * x.toNat + f.toNat) from (congrFun hS _).trans (mkS_at (cidx_M (by omega)))) ?_
      refine r_goto (pc := 25) C 34 dX5_mark_25 (by decide) ?_
      exact r_retM (pc := 34) C (by first | (exfalso; omega; done) | ((try (first | rw [if_pos (by omega)] | rw [if_neg (by omega)])); (try (first | rw [if_pos (by omega)] | rw [if_neg (by omega)])); (try (first | rw [if_pos (by omega)] | rw [if_neg (by omega)])); (try (first | rw [if_pos (by omega)] | rw [if_neg (by omega)])); (try rfl))) ((hS).trans (congrArg mkS (by first | (exfalso; omega; done) | ((try (first | rw [if_pos (by omega)] | rw [if_neg (by omega)])); (try (first | rw [if_pos (by omega)] | rw [if_neg (by omega)])); (try (first | rw [if_pos (by omega)] | rw [if_neg (by omega)])); (try (first | rw [if_pos (by omega)] | rw [if_neg (by omega)])); (try rfl))))) (fun k hk => (rfl).trans (congrFun (by first | (exfalso; omega; done) | ((try (first | rw [if_pos (by omega)] | rw [if_neg (by omega)])); (try (first | rw [if_pos (by omega)] | rw [if_neg (by omega)])); (try (first | rw [if_pos (by omega)] | rw [if_neg (by omega)])); (try (first | rw [if_pos (by omega)] | rw [if_neg (by omega)])); (try rfl))) k)) dX5_mark_34
set_option maxHeartbeats 4000000 in
set_option maxRecDepth 100000 in
theorem e_charter (g : Gt) (x f v : Int) (h_x : rng x) (h_f : rng f) (h_v : rng v) (ρ σ : Sg) (hS : σ 42 = mkS ρ) (hW : RW ρ 0) (h6 : σ 41 6 = 255) : Mt g yX5_charter cX5_charter 4 (some FieldType.int) 2 [.ref (gA g 41), .int (iI (x)), .int (iI (f)), .int (iI (v))] σ (pM (if (0 ≤ x ∧ x < ρ 0 7) ∧ (0 ≤ f ∧ f < 12) ∧ 0 ≤ v ∧ v ≤ 99 then ρ 6 (12 * x.toNat + f.toNat) else (-1000001 - ((0 : Nat) : Int))) (if (0 ≤ x ∧ x < ρ 0 7) ∧ (0 ≤ f ∧ f < 12) ∧ 0 ≤ v ∧ v ≤ 99 then wr ρ 6 (12 * x.toNat + f.toNat) v else ρ) (if (0 ≤ x ∧ x < ρ 0 7) ∧ (0 ≤ f ∧ f < 12) ∧ 0 ≤ v ∧ v ≤ 99 then σ else finM 0 σ)) := by
  obtain ⟨hn, hfl, hw, hdy, hz, hD_, hK_, hA_, hG_, hM_, hP_⟩ := id hW
  have hD : rgD (ρ 1) := hD_
  have hK : rgK (ρ 3) := hK_
  have hA : rgA (ρ 4) := hA_
  have hG : rgG (ρ 5) := hG_
  have hM : rgM (ρ 6) := hM_
  have hP : ∀ j, j < 10 → -1 ≤ ρ 7 j ∧ ρ 7 j < ρ 0 7 := hP_
  have ho_x := h_x.1; have hp_x := h_x.2
  have ho_f := h_f.1; have hp_f := h_f.2
  have ho_v := h_v.1; have hp_v := h_v.2
  refine mt_of (own := RX5) (by decide) rfl (Nat.le_of_ble_eq_true rfl) (fun E C => ?_)
  show J g E (pM (if (0 ≤ x ∧ x < ρ 0 7) ∧ (0 ≤ f ∧ f < 12) ∧ 0 ≤ v ∧ v ≤ 99 then ρ 6 (12 * x.toNat + f.toNat) else (-1000001 - ((0 : Nat) : Int))) (if (0 ≤ x ∧ x < ρ 0 7) ∧ (0 ≤ f ∧ f < 12) ∧ 0 ≤ v ∧ v ≤ 99 then wr ρ 6 (12 * x.toNat + f.toNat) v else ρ) (if (0 ≤ x ∧ x < ρ 0 7) ∧ (0 ≤ f ∧ f < 12) ∧ 0 ≤ v ∧ v ≤ 99 then σ else finM 0 σ)) 4 0 [(0, .ref (gA g 41)), (1, .int (iI (x))), (2, .int (iI (f))), (3, .int (iI (v)))] [] σ
  refine r_aload_n (pc := 0) C dX5_charter_0 rfl 0 rfl ?_
  refine r_iload_n (pc := 1) C dX5_charter_1 rfl 1 rfl ?_
  refine r_cVi (pc := 2) C (c_m_isTenant g x h_x ρ σ hS hn) yX5_isTenant_w O_41 rfl rfl t_905 ⟨by decide, by decide⟩ (Nat.le_of_ble_eq_true rfl) rfl dX5_charter_2 ?_
  refine r_ifz_eq (pc := 5) C 40 dX5_charter_5 (by decide) (fun h5 => ?_) (fun h5 => ?_)
  · skip
    refine r_aload_n (pc := 40) C dX5_charter_40 rfl 0 rfl ?_
    refine r_ldc (pc := 41) C (-1000001) t_854 (by decide) dX5_charter_41 ?_
    refine r_cVi (pc := 43) C (c_finds g 0 (by decide) σ) yX5_finds_w O_41 rfl rfl t_855 ⟨by decide, by decide⟩ (Nat.le_of_ble_eq_true rfl) (by rw [show ((-1000001) : Int) = -1000001 - ((0 : Nat) : Int) by decide]; rfl) dX5_charter_43 ?_
    exact r_retM (pc := 46) C (by first | (exfalso; omega; done) | ((try (first | rw [if_pos (by omega)] | rw [if_neg (by omega)])); (try (first | rw [if_pos (by omega)] | rw [if_neg (by omega)])); (try (first | rw [if_pos (by omega)] | rw [if_neg (by omega)])); (try (first | rw [if_pos (by omega)] | rw [if_neg (by omega)])); (try rfl))) ((((wr_n _ _ _ (by omega)).trans hS)).trans (congrArg mkS (by first | (exfalso; omega; done) | ((try (first | rw [if_pos (by omega)] | rw [if_neg (by omega)])); (try (first | rw [if_pos (by omega)] | rw [if_neg (by omega)])); (try (first | rw [if_pos (by omega)] | rw [if_neg (by omega)])); (try (first | rw [if_pos (by omega)] | rw [if_neg (by omega)])); (try rfl))))) (fun k hk => (rfl).trans (congrFun (by first | (exfalso; omega; done) | ((try (first | rw [if_pos (by omega)] | rw [if_neg (by omega)])); (try (first | rw [if_pos (by omega)] | rw [if_neg (by omega)])); (try (first | rw [if_pos (by omega)] | rw [if_neg (by omega)])); (try (first | rw [if_pos (by omega)] | rw [if_neg (by omega)])); (try rfl))) k)) dX5_charter_46
  · skip
    refine r_iload_n (pc := 8) C dX5_charter_8 rfl 2 rfl ?_
    refine r_cSi (pc := 9) C (c_m_isSurface g f h_f σ) yX5_isSurface_w rfl t_842 ⟨by decide, by decide⟩ (Nat.le_of_ble_eq_true rfl) rfl dX5_charter_9 ?_
    refine r_ifz_eq (pc := 12) C 40 dX5_charter_12 (by decide) (fun h12 => ?_) (fun h12 => ?_)
    · skip
      refine r_aload_n (pc := 40) C dX5_charter_40 rfl 0 rfl ?_
      refine r_ldc (pc := 41) C (-1000001) t_854 (by decide) dX5_charter_41 ?_
      refine r_cVi (pc := 43) C (c_finds g 0 (by decide) σ) yX5_finds_w O_41 rfl rfl t_855 ⟨by decide, by decide⟩ (Nat.le_of_ble_eq_true rfl) (by rw [show ((-1000001) : Int) = -1000001 - ((0 : Nat) : Int) by decide]; rfl) dX5_charter_43 ?_
      exact r_retM (pc := 46) C (by first | (exfalso; omega; done) | ((try (first | rw [if_pos (by omega)] | rw [if_neg (by omega)])); (try (first | rw [if_pos (by omega)] | rw [if_neg (by omega)])); (try (first | rw [if_pos (by omega)] | rw [if_neg (by omega)])); (try (first | rw [if_pos (by omega)] | rw [if_neg (by omega)])); (try rfl))) ((((wr_n _ _ _ (by omega)).trans hS)).trans (congrArg mkS (by first | (exfalso; omega; done) | ((try (first | rw [if_pos (by omega)] | rw [if_neg (by omega)])); (try (first | rw [if_pos (by omega)] | rw [if_neg (by omega)])); (try (first | rw [if_pos (by omega)] | rw [if_neg (by omega)])); (try (first | rw [if_pos (by omega)] | rw [if_neg (by omega)])); (try rfl))))) (fun k hk => (rfl).trans (congrFun (by first | (exfalso; omega; done) | ((try (first | rw [if_pos (by omega)] | rw [if_neg (by omega)])); (try (first | rw [if_pos (by omega)] | rw [if_neg (by omega)])); (try (first | rw [if_pos (by omega)] | rw [if_neg (by omega)])); (try (first | rw [if_pos (by omega)] | rw [if_neg (by omega)])); (try rfl))) k)) dX5_charter_46
    · skip
      refine r_iload_n (pc := 15) C dX5_charter_15 rfl 3 rfl ?_
      refine r_i2l (pc := 16) C h_v dX5_charter_16 ?_
      refine r_lconst (pc := 17) C (n := 0) dX5_charter_17 (by decide) ?_
      refine r_ldc2 (pc := 18) C 99 t_886 (by decide) dX5_charter_18 ?_
      refine r_cSi (pc := 21) C (c_in g v 0 99 ⟨by have := h_v.1; omega, by have := h_v.2; omega⟩ ⟨by omega, by omega⟩ ⟨by omega, by omega⟩ σ) yX5_in_w rfl t_846 ⟨by decide, by decide⟩ (Nat.le_of_ble_eq_true rfl) rfl dX5_charter_21 ?_
      refine r_ifz_eq (pc := 24) C 40 dX5_charter_24 (by decide) (fun h24 => ?_) (fun h24 => ?_)
      · skip
        refine r_aload_n (pc := 40) C dX5_charter_40 rfl 0 rfl ?_
        refine r_ldc (pc := 41) C (-1000001) t_854 (by decide) dX5_charter_41 ?_
        refine r_cVi (pc := 43) C (c_finds g 0 (by decide) σ) yX5_finds_w O_41 rfl rfl t_855 ⟨by decide, by decide⟩ (Nat.le_of_ble_eq_true rfl) (by rw [show ((-1000001) : Int) = -1000001 - ((0 : Nat) : Int) by decide]; rfl) dX5_charter_43 ?_
        exact r_retM (pc := 46) C (by first | (exfalso; omega; done) | ((try (first | rw [if_pos (by omega)] | rw [if_neg (by omega)])); (try (first | rw [if_pos (by omega)] | rw [if_neg (by omega)])); (try (first | rw [if_pos (by omega)] | rw [if_neg (by omega)])); (try (first | rw [if_pos (by omega)] | rw [if_neg (by omega)])); (try rfl))) ((((wr_n _ _ _ (by omega)).trans hS)).trans (congrArg mkS (by first | (exfalso; omega; done) | ((try (first | rw [if_pos (by omega)] | rw [if_neg (by omega)])); (try (first | rw [if_pos (by omega)] | rw [if_neg (by omega)])); (try (first | rw [if_pos (by omega)] | rw [if_neg (by omega)])); (try (first | rw [if_pos (by omega)] | rw [if_neg (by omega)])); (try rfl))))) (fun k hk => (rfl).trans (congrFun (by first | (exfalso; omega; done) | ((try (first | rw [if_pos (by omega)] | rw [if_neg (by omega)])); (try (first | rw [if_pos (by omega)] | rw [if_neg (by omega)])); (try (first | rw [if_pos (by omega)] | rw [if_neg (by omega)])); (try (first | rw [if_pos (by omega)] | rw [if_neg (by omega)])); (try rfl))) k)) dX5_charter_46
      · skip
        refine r_aload_n (pc := 27) C dX5_charter_27 rfl 0 rfl ?_
        refine r_iload_n (pc := 28) C dX5_charter_28 rfl 1 rfl ?_
        refine r_iload_n (pc := 29) C dX5_charter_29 rfl 2 rfl ?_
        refine r_cSi (pc := 30) C (c_markAt g x f σ) yX5_markAt_w rfl t_868 ⟨by decide, by decide⟩ (Nat.le_of_ble_eq_true rfl) rfl dX5_charter_30 ?_
        refine r_iload_n (pc := 33) C dX5_charter_33 rfl 3 rfl ?_
        refine r_cVi (pc := 34) C (c_becomes g (41 + (12 * x.toNat + f.toNat)) 6 (12 * x.toNat + f.toNat) (by omega) (cidx_M (by omega)) v ρ σ hS) yX5_becomes_w O_41 rfl rfl t_850 ⟨by decide, by decide⟩ (Nat.le_of_ble_eq_true rfl) (by rw [show 41 + 12 * x + f = (((41 + (12 * x.toNat + f.toNat)) : Nat) : Int) by omega]; rfl) dX5_charter_34 ?_
        refine r_goto (pc := 37) C 46 dX5_charter_37 (by decide) ?_
        exact r_retM (pc := 46) C (by first | (exfalso; omega; done) | ((try (first | rw [if_pos (by omega)] | rw [if_neg (by omega)])); (try (first | rw [if_pos (by omega)] | rw [if_neg (by omega)])); (try (first | rw [if_pos (by omega)] | rw [if_neg (by omega)])); (try (first | rw [if_pos (by omega)] | rw [if_neg (by omega)])); (try rfl))) (((us_s _ _ _)).trans (congrArg mkS (by first | (exfalso; omega; done) | ((try (first | rw [if_pos (by omega)] | rw [if_neg (by omega)])); (try (first | rw [if_pos (by omega)] | rw [if_neg (by omega)])); (try (first | rw [if_pos (by omega)] | rw [if_neg (by omega)])); (try (first | rw [if_pos (by omega)] | rw [if_neg (by omega)])); (try rfl))))) (fun k hk => (us_n _ _ hk.1).trans (congrFun (by first | (exfalso; omega; done) | ((try (first | rw [if_pos (by omega)] | rw [if_neg (by omega)])); (try (first | rw [if_pos (by omega)] | rw [if_neg (by omega)])); (try (first | rw [if_pos (by omega)] | rw [if_neg (by omega)])); (try (first | rw [if_pos (by omega)] | rw [if_neg (by omega)])); (try rfl))) k)) dX5_charter_46
set_option maxHeartbeats 4000000 in
set_option maxRecDepth 100000 in
theorem e_swap (g : Gt) (x y : Int) (h_x : rng x) (h_y : rng y) (ρ σ : Sg) (hS : σ 42 = mkS ρ) (hW : RW ρ 0) (h6 : σ 41 6 = 255) : Mt g yX5_swap cX5_swap 3 (some FieldType.int) 3 [.ref (gA g 41), .int (iI (x)), .int (iI (y))] σ (pM (if (0 ≤ x ∧ x < ρ 0 7) ∧ (0 ≤ y ∧ y < ρ 0 7) ∧ ¬ x = y then (if ρ 4 y.toNat = ρ 4 x.toNat then 0 else 1) else (-1000001 - ((0 : Nat) : Int))) (if (0 ≤ x ∧ x < ρ 0 7) ∧ (0 ≤ y ∧ y < ρ 0 7) ∧ ¬ x = y then wr (wr ρ 4 x.toNat (ρ 4 y.toNat)) 4 y.toNat (ρ 4 x.toNat) else ρ) (if (0 ≤ x ∧ x < ρ 0 7) ∧ (0 ≤ y ∧ y < ρ 0 7) ∧ ¬ x = y then σ else finM 0 σ)) := by
  obtain ⟨hn, hfl, hw, hdy, hz, hD_, hK_, hA_, hG_, hM_, hP_⟩ := id hW
  have hD : rgD (ρ 1) := hD_
  have hK : rgK (ρ 3) := hK_
  have hA : rgA (ρ 4) := hA_
  have hG : rgG (ρ 5) := hG_
  have hM : rgM (ρ 6) := hM_
  have hP : ∀ j, j < 10 → -1 ≤ ρ 7 j ∧ ρ 7 j < ρ 0 7 := hP_
  have ho_x := h_x.1; have hp_x := h_x.2
  have ho_y := h_y.1; have hp_y := h_y.2
  refine mt_of (own := RX5) (by decide) rfl (Nat.le_of_ble_eq_true rfl) (fun E C => ?_)
  show J g E (pM (if (0 ≤ x ∧ x < ρ 0 7) ∧ (0 ≤ y ∧ y < ρ 0 7) ∧ ¬ x = y then (if ρ 4 y.toNat = ρ 4 x.toNat then 0 else 1) else (-1000001 - ((0 : Nat) : Int))) (if (0 ≤ x ∧ x < ρ 0 7) ∧ (0 ≤ y ∧ y < ρ 0 7) ∧ ¬ x = y then wr (wr ρ 4 x.toNat (ρ 4 y.toNat)) 4 y.toNat (ρ 4 x.toNat) else ρ) (if (0 ≤ x ∧ x < ρ 0 7) ∧ (0 ≤ y ∧ y < ρ 0 7) ∧ ¬ x = y then σ else finM 0 σ)) 3 0 [(0, .ref (gA g 41)), (1, .int (iI (x))), (2, .int (iI (y)))] [] σ
  refine r_aload_n (pc := 0) C dX5_swap_0 rfl 0 rfl ?_
  refine r_iload_n (pc := 1) C dX5_swap_1 rfl 1 rfl ?_
  refine r_cVi (pc := 2) C (c_m_isTenant g x h_x ρ σ hS hn) yX5_isTenant_w O_41 rfl rfl t_905 ⟨by decide, by decide⟩ (Nat.le_of_ble_eq_true rfl) rfl dX5_swap_2 ?_
  refine r_ifz_eq (pc := 5) C 30 dX5_swap_5 (by decide) (fun h5 => ?_) (fun h5 => ?_)
  · skip
    refine r_aload_n (pc := 30) C dX5_swap_30 rfl 0 rfl ?_
    refine r_ldc (pc := 31) C (-1000001) t_854 (by decide) dX5_swap_31 ?_
    refine r_cVi (pc := 33) C (c_finds g 0 (by decide) σ) yX5_finds_w O_41 rfl rfl t_855 ⟨by decide, by decide⟩ (Nat.le_of_ble_eq_true rfl) (by rw [show ((-1000001) : Int) = -1000001 - ((0 : Nat) : Int) by decide]; rfl) dX5_swap_33 ?_
    exact r_retM (pc := 36) C (by first | exact (if_pos (by omega)).symm | exact (if_neg (by omega)).symm) ((((wr_n _ _ _ (by omega)).trans hS)).trans (congrArg mkS (by first | (exfalso; omega; done) | ((try (first | rw [if_pos (by omega)] | rw [if_neg (by omega)])); (try (first | rw [if_pos (by omega)] | rw [if_neg (by omega)])); (try (first | rw [if_pos (by omega)] | rw [if_neg (by omega)])); (try (first | rw [if_pos (by omega)] | rw [if_neg (by omega)])); (try rfl))))) (fun k hk => (rfl).trans (congrFun (by first | (exfalso; omega; done) | ((try (first | rw [if_pos (by omega)] | rw [if_neg (by omega)])); (try (first | rw [if_pos (by omega)] | rw [if_neg (by omega)])); (try (first | rw [if_pos (by omega)] | rw [if_neg (by omega)])); (try (first | rw [if_pos (by omega)] | rw [if_neg (by omega)])); (try rfl))) k)) dX5_swap_36
  · skip
    refine r_aload_n (pc := 8) C dX5_swap_8 rfl 0 rfl ?_
    refine r_iload_n (pc := 9) C dX5_swap_9 rfl 2 rfl ?_
    refine r_cVi (pc := 10) C (c_m_isTenant g y h_y ρ σ hS hn) yX5_isTenant_w O_41 rfl rfl t_905 ⟨by decide, by decide⟩ (Nat.le_of_ble_eq_true rfl) rfl dX5_swap_10 ?_
    refine r_ifz_eq (pc := 13) C 30 dX5_swap_13 (by decide) (fun h13 => ?_) (fun h13 => ?_)
    · skip
      refine r_aload_n (pc := 30) C dX5_swap_30 rfl 0 rfl ?_
      refine r_ldc (pc := 31) C (-1000001) t_854 (by decide) dX5_swap_31 ?_
      refine r_cVi (pc := 33) C (c_finds g 0 (by decide) σ) yX5_finds_w O_41 rfl rfl t_855 ⟨by decide, by decide⟩ (Nat.le_of_ble_eq_true rfl) (by rw [show ((-1000001) : Int) = -1000001 - ((0 : Nat) : Int) by decide]; rfl) dX5_swap_33 ?_
      exact r_retM (pc := 36) C (by first | exact (if_pos (by omega)).symm | exact (if_neg (by omega)).symm) ((((wr_n _ _ _ (by omega)).trans hS)).trans (congrArg mkS (by first | (exfalso; omega; done) | ((try (first | rw [if_pos (by omega)] | rw [if_neg (by omega)])); (try (first | rw [if_pos (by omega)] | rw [if_neg (by omega)])); (try (first | rw [if_pos (by omega)] | rw [if_neg (by omega)])); (try (first | rw [if_pos (by omega)] | rw [if_neg (by omega)])); (try rfl))))) (fun k hk => (rfl).trans (congrFun (by first | (exfalso; omega; done) | ((try (first | rw [if_pos (by omega)] | rw [if_neg (by omega)])); (try (first | rw [if_pos (by omega)] | rw [if_neg (by omega)])); (try (first | rw [if_pos (by omega)] | rw [if_neg (by omega)])); (try (first | rw [if_pos (by omega)] | rw [if_neg (by omega)])); (try rfl))) k)) dX5_swap_36
    · skip
      refine r_iload_n (pc := 16) C dX5_swap_16 rfl 1 rfl ?_
      refine r_iload_n (pc := 17) C dX5_swap_17 rfl 2 rfl ?_
      refine r_icmp_eq (pc := 18) C 30 h_x h_y dX5_swap_18 (by decide) (fun h18 => ?_) (fun h18 => ?_)
      · skip
        refine r_aload_n (pc := 30) C dX5_swap_30 rfl 0 rfl ?_
        refine r_ldc (pc := 31) C (-1000001) t_854 (by decide) dX5_swap_31 ?_
        refine r_cVi (pc := 33) C (c_finds g 0 (by decide) σ) yX5_finds_w O_41 rfl rfl t_855 ⟨by decide, by decide⟩ (Nat.le_of_ble_eq_true rfl) (by rw [show ((-1000001) : Int) = -1000001 - ((0 : Nat) : Int) by decide]; rfl) dX5_swap_33 ?_
        exact r_retM (pc := 36) C (by first | exact (if_pos (by omega)).symm | exact (if_neg (by omega)).symm) ((((wr_n _ _ _ (by omega)).trans hS)).trans (congrArg mkS (by first | (exfalso; omega; done) | ((try (first | rw [if_pos (by omega)] | rw [if_neg (by omega)])); (try (first | rw [if_pos (by omega)] | rw [if_neg (by omega)])); (try (first | rw [if_pos (by omega)] | rw [if_neg (by omega)])); (try (first | rw [if_pos (by omega)] | rw [if_neg (by omega)])); (try rfl))))) (fun k hk => (rfl).trans (congrFun (by first | (exfalso; omega; done) | ((try (first | rw [if_pos (by omega)] | rw [if_neg (by omega)])); (try (first | rw [if_pos (by omega)] | rw [if_neg (by omega)])); (try (first | rw [if_pos (by omega)] | rw [if_neg (by omega)])); (try (first | rw [if_pos (by omega)] | rw [if_neg (by omega)])); (try rfl))) k)) dX5_swap_36
      · skip
        refine r_aload_n (pc := 21) C dX5_swap_21 rfl 0 rfl ?_
        refine r_iload_n (pc := 22) C dX5_swap_22 rfl 1 rfl ?_
        refine r_iload_n (pc := 23) C dX5_swap_23 rfl 2 rfl ?_
        refine r_cVi (pc := 24) C (c_swaps g x.toNat y.toNat (by omega) (by omega) (by omega) ρ σ hS hA) yX5_swaps_w O_41 rfl rfl t_942 ⟨by decide, by decide⟩ (Nat.le_of_ble_eq_true rfl) (by rw [show ((x.toNat : Nat) : Int) = x by omega, show ((y.toNat : Nat) : Int) = y by omega]; rfl) dX5_swap_24 ?_
        refine r_goto (pc := 27) C 36 dX5_swap_27 (by decide) ?_
        exact r_retM (pc := 36) C (by first | exact (if_pos (by omega)).symm | exact (if_neg (by omega)).symm) (((us_s _ _ _)).trans (congrArg mkS (by first | (exfalso; omega; done) | ((try (first | rw [if_pos (by omega)] | rw [if_neg (by omega)])); (try (first | rw [if_pos (by omega)] | rw [if_neg (by omega)])); (try (first | rw [if_pos (by omega)] | rw [if_neg (by omega)])); (try (first | rw [if_pos (by omega)] | rw [if_neg (by omega)])); (try rfl))))) (fun k hk => (us_n _ _ hk.1).trans (congrFun (by first | (exfalso; omega; done) | ((try (first | rw [if_pos (by omega)] | rw [if_neg (by omega)])); (try (first | rw [if_pos (by omega)] | rw [if_neg (by omega)])); (try (first | rw [if_pos (by omega)] | rw [if_neg (by omega)])); (try (first | rw [if_pos (by omega)] | rw [if_neg (by omega)])); (try rfl))) k)) dX5_swap_36
set_option maxHeartbeats 4000000 in
set_option maxRecDepth 100000 in
theorem e_sneeze (g : Gt) (x n : Int) (h_x : rng x) (h_n : rng n) (ρ σ : Sg) (hS : σ 42 = mkS ρ) (hW : RW ρ 0) (h6 : σ 41 6 = 255) : Mt g yX5_sneeze cX5_sneeze 3 (some FieldType.int) 2 [.ref (gA g 41), .int (iI (x)), .int (iI (n))] σ (pM (if (0 ≤ x ∧ x < 12) ∧ -11 ≤ n ∧ n ≤ 11 then ρ 1 x.toNat else (-1000001 - ((0 : Nat) : Int))) (if (0 ≤ x ∧ x < 12) ∧ -11 ≤ n ∧ n ≤ 11 then us ρ 1 (bwD (ρ 1) x.toNat n) else ρ) (if (0 ≤ x ∧ x < 12) ∧ -11 ≤ n ∧ n ≤ 11 then σ else finM 0 σ)) := by
  obtain ⟨hn, hfl, hw, hdy, hz, hD_, hK_, hA_, hG_, hM_, hP_⟩ := id hW
  have hD : rgD (ρ 1) := hD_
  have hK : rgK (ρ 3) := hK_
  have hA : rgA (ρ 4) := hA_
  have hG : rgG (ρ 5) := hG_
  have hM : rgM (ρ 6) := hM_
  have hP : ∀ j, j < 10 → -1 ≤ ρ 7 j ∧ ρ 7 j < ρ 0 7 := hP_
  have ho_x := h_x.1; have hp_x := h_x.2
  have ho_n := h_n.1; have hp_n := h_n.2
  refine mt_of (own := RX5) (by decide) rfl (Nat.le_of_ble_eq_true rfl) (fun E C => ?_)
  show J g E (pM (if (0 ≤ x ∧ x < 12) ∧ -11 ≤ n ∧ n ≤ 11 then ρ 1 x.toNat else (-1000001 - ((0 : Nat) : Int))) (if (0 ≤ x ∧ x < 12) ∧ -11 ≤ n ∧ n ≤ 11 then us ρ 1 (bwD (ρ 1) x.toNat n) else ρ) (if (0 ≤ x ∧ x < 12) ∧ -11 ≤ n ∧ n ≤ 11 then σ else finM 0 σ)) 3 0 [(0, .ref (gA g 41)), (1, .int (iI (x))), (2, .int (iI (n)))] [] σ
  refine r_iload_n (pc := 0) C dX5_sneeze_0 rfl 1 rfl ?_
  refine r_cSi (pc := 1) C (c_m_isSurface g x h_x σ) yX5_isSurface_w rfl t_842 ⟨by decide, by decide⟩ (Nat.le_of_ble_eq_true rfl) rfl dX5_sneeze_1 ?_
  refine r_ifz_eq (pc := 4) C 30 dX5_sneeze_4 (by decide) (fun h4 => ?_) (fun h4 => ?_)
  · skip
    refine r_aload_n (pc := 30) C dX5_sneeze_30 rfl 0 rfl ?_
    refine r_ldc (pc := 31) C (-1000001) t_854 (by decide) dX5_sneeze_31 ?_
    refine r_cVi (pc := 33) C (c_finds g 0 (by decide) σ) yX5_finds_w O_41 rfl rfl t_855 ⟨by decide, by decide⟩ (Nat.le_of_ble_eq_true rfl) (by rw [show ((-1000001) : Int) = -1000001 - ((0 : Nat) : Int) by decide]; rfl) dX5_sneeze_33 ?_
    exact r_retM (pc := 36) C (by first | (exfalso; omega; done) | ((try (first | rw [if_pos (by omega)] | rw [if_neg (by omega)])); (try (first | rw [if_pos (by omega)] | rw [if_neg (by omega)])); (try (first | rw [if_pos (by omega)] | rw [if_neg (by omega)])); (try (first | rw [if_pos (by omega)] | rw [if_neg (by omega)])); (try rfl))) ((((wr_n _ _ _ (by omega)).trans hS)).trans (congrArg mkS (by first | (exfalso; omega; done) | ((try (first | rw [if_pos (by omega)] | rw [if_neg (by omega)])); (try (first | rw [if_pos (by omega)] | rw [if_neg (by omega)])); (try (first | rw [if_pos (by omega)] | rw [if_neg (by omega)])); (try (first | rw [if_pos (by omega)] | rw [if_neg (by omega)])); (try rfl))))) (fun k hk => (rfl).trans (congrFun (by first | (exfalso; omega; done) | ((try (first | rw [if_pos (by omega)] | rw [if_neg (by omega)])); (try (first | rw [if_pos (by omega)] | rw [if_neg (by omega)])); (try (first | rw [if_pos (by omega)] | rw [if_neg (by omega)])); (try (first | rw [if_pos (by omega)] | rw [if_neg (by omega)])); (try rfl))) k)) dX5_sneeze_36
  · skip
    refine r_iload_n (pc := 7) C dX5_sneeze_7 rfl 2 rfl ?_
    refine r_i2l (pc := 8) C h_n dX5_sneeze_8 ?_
    refine r_ldc2 (pc := 9) C (-11) t_950 (by decide) dX5_sneeze_9 ?_
    refine r_ldc2 (pc := 12) C 11 t_845 (by decide) dX5_sneeze_12 ?_
    refine r_cSi (pc := 15) C (c_in g n (-11) 11 ⟨by have := h_n.1; omega, by have := h_n.2; omega⟩ ⟨by omega, by omega⟩ ⟨by omega, by omega⟩ σ) yX5_in_w rfl t_846 ⟨by decide, by decide⟩ (Nat.le_of_ble_eq_true rfl) rfl dX5_sneeze_15 ?_
    refine r_ifz_eq (pc := 18) C 30 dX5_sneeze_18 (by decide) (fun h18 => ?_) (fun h18 => ?_)
    · skip
      refine r_aload_n (pc := 30) C dX5_sneeze_30 rfl 0 rfl ?_
      refine r_ldc (pc := 31) C (-1000001) t_854 (by decide) dX5_sneeze_31 ?_
      refine r_cVi (pc := 33) C (c_finds g 0 (by decide) σ) yX5_finds_w O_41 rfl rfl t_855 ⟨by decide, by decide⟩ (Nat.le_of_ble_eq_true rfl) (by rw [show ((-1000001) : Int) = -1000001 - ((0 : Nat) : Int) by decide]; rfl) dX5_sneeze_33 ?_
      exact r_retM (pc := 36) C (by first | (exfalso; omega; done) | ((try (first | rw [if_pos (by omega)] | rw [if_neg (by omega)])); (try (first | rw [if_pos (by omega)] | rw [if_neg (by omega)])); (try (first | rw [if_pos (by omega)] | rw [if_neg (by omega)])); (try (first | rw [if_pos (by omega)] | rw [if_neg (by omega)])); (try rfl))) ((((wr_n _ _ _ (by omega)).trans hS)).trans (congrArg mkS (by first | (exfalso; omega; done) | ((try (first | rw [if_pos (by omega)] | rw [if_neg (by omega)])); (try (first | rw [if_pos (by omega)] | rw [if_neg (by omega)])); (try (first | rw [if_pos (by omega)] | rw [if_neg (by omega)])); (try (first | rw [if_pos (by omega)] | rw [if_neg (by omega)])); (try rfl))))) (fun k hk => (rfl).trans (congrFun (by first | (exfalso; omega; done) | ((try (first | rw [if_pos (by omega)] | rw [if_neg (by omega)])); (try (first | rw [if_pos (by omega)] | rw [if_neg (by omega)])); (try (first | rw [if_pos (by omega)] | rw [if_neg (by omega)])); (try (first | rw [if_pos (by omega)] | rw [if_neg (by omega)])); (try rfl))) k)) dX5_sneeze_36
    · skip
      refine r_aload_n (pc := 21) C dX5_sneeze_21 rfl 0 rfl ?_
      refine r_iload_n (pc := 22) C dX5_sneeze_22 rfl 1 rfl ?_
      refine r_iload_n (pc := 23) C dX5_sneeze_23 rfl 2 rfl ?_
      refine r_cVi (pc := 24) C (c_blows g x.toNat (by omega) n ⟨by omega, by omega⟩ ρ σ hS hD) yX5_blows_w O_41 rfl rfl t_951 ⟨by decide, by decide⟩ (Nat.le_of_ble_eq_true rfl) (by rw [show ((x.toNat : Nat) : Int) = x by omega]; rfl) dX5_sneeze_24 ?_
      refine r_goto (pc := 27) C 36 dX5_sneeze_27 (by decide) ?_
      exact r_retM (pc := 36) C (by first | (exfalso; omega; done) | ((try (first | rw [if_pos (by omega)] | rw [if_neg (by omega)])); (try (first | rw [if_pos (by omega)] | rw [if_neg (by omega)])); (try (first | rw [if_pos (by omega)] | rw [if_neg (by omega)])); (try (first | rw [if_pos (by omega)] | rw [if_neg (by omega)])); (try rfl))) (((us_s _ _ _)).trans (congrArg mkS (by first | (exfalso; omega; done) | ((try (first | rw [if_pos (by omega)] | rw [if_neg (by omega)])); (try (first | rw [if_pos (by omega)] | rw [if_neg (by omega)])); (try (first | rw [if_pos (by omega)] | rw [if_neg (by omega)])); (try (first | rw [if_pos (by omega)] | rw [if_neg (by omega)])); (try rfl))))) (fun k hk => (us_n _ _ hk.1).trans (congrFun (by first | (exfalso; omega; done) | ((try (first | rw [if_pos (by omega)] | rw [if_neg (by omega)])); (try (first | rw [if_pos (by omega)] | rw [if_neg (by omega)])); (try (first | rw [if_pos (by omega)] | rw [if_neg (by omega)])); (try (first | rw [if_pos (by omega)] | rw [if_neg (by omega)])); (try rfl))) k)) dX5_sneeze_36
set_option maxHeartbeats 4000000 in
set_option maxRecDepth 100000 in
theorem e_go (g : Gt) (n : Int) (h_n : rng n) (ρ σ : Sg) (hS : σ 42 = mkS ρ) (hW : RW ρ 0) (h6 : σ 41 6 = 255) : Mt g yX5_go cX5_go 2 (some FieldType.int) 6 [.ref (gA g 41), .int (iI (n))] σ (pM (if 1 ≤ n ∧ n ≤ 40 then (if 99999 < ρ 0 10 + n then (-1000001 - ((4 : Nat) : Int)) else sumF (dsM 255 n.toNat ρ 1) 12) else (-1000001 - ((0 : Nat) : Int))) (if 1 ≤ n ∧ n ≤ 40 then (if 99999 < ρ 0 10 + n then ρ else dsM 255 n.toNat ρ) else ρ) (if 1 ≤ n ∧ n ≤ 40 then (if 99999 < ρ 0 10 + n then finM 4 σ else σ) else finM 0 σ)) := by
  obtain ⟨hn, hfl, hw, hdy, hz, hD_, hK_, hA_, hG_, hM_, hP_⟩ := id hW
  have hD : rgD (ρ 1) := hD_
  have hK : rgK (ρ 3) := hK_
  have hA : rgA (ρ 4) := hA_
  have hG : rgG (ρ 5) := hG_
  have hM : rgM (ρ 6) := hM_
  have hP : ∀ j, j < 10 → -1 ≤ ρ 7 j ∧ ρ 7 j < ρ 0 7 := hP_
  have ho_n := h_n.1; have hp_n := h_n.2
  refine mt_of (own := RX5) (by decide) rfl (Nat.le_of_ble_eq_true rfl) (fun E C => ?_)
  show J g E (pM (if 1 ≤ n ∧ n ≤ 40 then (if 99999 < ρ 0 10 + n then (-1000001 - ((4 : Nat) : Int)) else sumF (dsM 255 n.toNat ρ 1) 12) else (-1000001 - ((0 : Nat) : Int))) (if 1 ≤ n ∧ n ≤ 40 then (if 99999 < ρ 0 10 + n then ρ else dsM 255 n.toNat ρ) else ρ) (if 1 ≤ n ∧ n ≤ 40 then (if 99999 < ρ 0 10 + n then finM 4 σ else σ) else finM 0 σ)) 2 0 [(0, .ref (gA g 41)), (1, .int (iI (n)))] [] σ
  refine r_iload_n (pc := 0) C dX5_go_0 rfl 1 rfl ?_
  refine r_i2l (pc := 1) C h_n dX5_go_1 ?_
  refine r_lconst (pc := 2) C (n := 1) dX5_go_2 (by decide) ?_
  refine r_ldc2 (pc := 3) C 40 t_965 (by decide) dX5_go_3 ?_
  refine r_cSi (pc := 6) C (c_in g n 1 40 ⟨by have := h_n.1; omega, by have := h_n.2; omega⟩ ⟨by omega, by omega⟩ ⟨by omega, by omega⟩ σ) yX5_in_w rfl t_846 ⟨by decide, by decide⟩ (Nat.le_of_ble_eq_true rfl) rfl dX5_go_6 ?_
  refine r_ifz_ne (pc := 9) C 19 dX5_go_9 (by decide) (fun h9 => ?_) (fun h9 => ?_)
  · skip
    refine r_aload_n (pc := 19) C dX5_go_19 rfl 0 rfl ?_
    refine r_getR5 (pc := 20) C 0 (k' := 42) rfl O_41 (by decide) rfl t_780 dX5_go_20 ?_
    refine r_iconst (pc := 23) C dX5_go_23 ?_
    refine r_iald (pc := 24) C 0 A_42 (by omega) (by omega) dX5_go_24 ?_
    refine r_top (show _ = ρ 0 10 from (congrFun hS _).trans (mkS_at rfl)) ?_
    refine r_iload_n (pc := 25) C dX5_go_25 rfl 1 rfl ?_
    refine r_iadd (pc := 26) C dX5_go_26 ?_
    refine r_ldc (pc := 27) C 99999 t_966 (by decide) dX5_go_27 ?_
    refine r_icmp_le (pc := 29) C 39 ⟨by omega, by omega⟩ ⟨by omega, by omega⟩ dX5_go_29 (by decide) (fun h29 => ?_) (fun h29 => ?_)
    · skip
      refine r_aload_n (pc := 39) C dX5_go_39 rfl 0 rfl ?_
      refine r_iload_n (pc := 40) C dX5_go_40 rfl 1 rfl ?_
      refine r_cVd (pc := 41) C (c_goesOn g 255 ⟨by decide, by decide⟩ n.toNat (by omega) ρ σ hS (RM_of hW) h6) yX5_goesOn_w O_41 rfl rfl t_968 ⟨by decide, by decide⟩ (Nat.le_of_ble_eq_true rfl) (by rw [show ((n.toNat : Nat) : Int) = n by omega]; rfl) dX5_go_41 (fun s41 hm41_ hT41 => ?_)
      refine r_aload_n (pc := 44) C dX5_go_44 rfl 0 rfl ?_
      refine r_cVi (pc := 45) C (c_dustAll g  (dsM 255 n.toNat ρ) s41 hm41_ ) yX5_dustAll_w O_41 rfl rfl t_992 ⟨by decide, by decide⟩ (Nat.le_of_ble_eq_true rfl) rfl dX5_go_45 ?_
      exact r_retM (pc := 48) C (by first | (exfalso; omega; done) | ((try (first | rw [if_pos (by omega)] | rw [if_neg (by omega)])); (try (first | rw [if_pos (by omega)] | rw [if_neg (by omega)])); (try (first | rw [if_pos (by omega)] | rw [if_neg (by omega)])); (try (first | rw [if_pos (by omega)] | rw [if_neg (by omega)])); (try rfl))) ((hm41_).trans (congrArg mkS (by first | (exfalso; omega; done) | ((try (first | rw [if_pos (by omega)] | rw [if_neg (by omega)])); (try (first | rw [if_pos (by omega)] | rw [if_neg (by omega)])); (try (first | rw [if_pos (by omega)] | rw [if_neg (by omega)])); (try (first | rw [if_pos (by omega)] | rw [if_neg (by omega)])); (try rfl))))) (fun k hk => (hT41 k hk.1 hk.2.2.2.1).trans (congrFun (by first | (exfalso; omega; done) | ((try (first | rw [if_pos (by omega)] | rw [if_neg (by omega)])); (try (first | rw [if_pos (by omega)] | rw [if_neg (by omega)])); (try (first | rw [if_pos (by omega)] | rw [if_neg (by omega)])); (try (first | rw [if_pos (by omega)] | rw [if_neg (by omega)])); (try rfl))) k)) dX5_go_48
    · skip
      refine r_aload_n (pc := 32) C dX5_go_32 rfl 0 rfl ?_
      refine r_ldc (pc := 33) C (-1000005) t_967 (by decide) dX5_go_33 ?_
      refine r_cVi (pc := 35) C (c_finds g 4 (by decide) σ) yX5_finds_w O_41 rfl rfl t_855 ⟨by decide, by decide⟩ (Nat.le_of_ble_eq_true rfl) (by rw [show ((-1000005) : Int) = -1000001 - ((4 : Nat) : Int) by decide]; rfl) dX5_go_35 ?_
      exact r_retM (pc := 38) C (by first | (exfalso; omega; done) | ((try (first | rw [if_pos (by omega)] | rw [if_neg (by omega)])); (try (first | rw [if_pos (by omega)] | rw [if_neg (by omega)])); (try (first | rw [if_pos (by omega)] | rw [if_neg (by omega)])); (try (first | rw [if_pos (by omega)] | rw [if_neg (by omega)])); (try rfl))) ((((wr_n _ _ _ (by omega)).trans hS)).trans (congrArg mkS (by first | (exfalso; omega; done) | ((try (first | rw [if_pos (by omega)] | rw [if_neg (by omega)])); (try (first | rw [if_pos (by omega)] | rw [if_neg (by omega)])); (try (first | rw [if_pos (by omega)] | rw [if_neg (by omega)])); (try (first | rw [if_pos (by omega)] | rw [if_neg (by omega)])); (try rfl))))) (fun k hk => (rfl).trans (congrFun (by first | (exfalso; omega; done) | ((try (first | rw [if_pos (by omega)] | rw [if_neg (by omega)])); (try (first | rw [if_pos (by omega)] | rw [if_neg (by omega)])); (try (first | rw [if_pos (by omega)] | rw [if_neg (by omega)])); (try (first | rw [if_pos (by omega)] | rw [if_neg (by omega)])); (try rfl))) k)) dX5_go_38
  · skip
    refine r_aload_n (pc := 12) C dX5_go_12 rfl 0 rfl ?_
    refine r_ldc (pc := 13) C (-1000001) t_854 (by decide) dX5_go_13 ?_
    refine r_cVi (pc := 15) C (c_finds g 0 (by decide) σ) yX5_finds_w O_41 rfl rfl t_855 ⟨by decide, by decide⟩ (Nat.le_of_ble_eq_true rfl) (by rw [show ((-1000001) : Int) = -1000001 - ((0 : Nat) : Int) by decide]; rfl) dX5_go_15 ?_
    exact r_retM (pc := 18) C (by first | (exfalso; omega; done) | ((try (first | rw [if_pos (by omega)] | rw [if_neg (by omega)])); (try (first | rw [if_pos (by omega)] | rw [if_neg (by omega)])); (try (first | rw [if_pos (by omega)] | rw [if_neg (by omega)])); (try (first | rw [if_pos (by omega)] | rw [if_neg (by omega)])); (try rfl))) ((((wr_n _ _ _ (by omega)).trans hS)).trans (congrArg mkS (by first | (exfalso; omega; done) | ((try (first | rw [if_pos (by omega)] | rw [if_neg (by omega)])); (try (first | rw [if_pos (by omega)] | rw [if_neg (by omega)])); (try (first | rw [if_pos (by omega)] | rw [if_neg (by omega)])); (try (first | rw [if_pos (by omega)] | rw [if_neg (by omega)])); (try rfl))))) (fun k hk => (rfl).trans (congrFun (by first | (exfalso; omega; done) | ((try (first | rw [if_pos (by omega)] | rw [if_neg (by omega)])); (try (first | rw [if_pos (by omega)] | rw [if_neg (by omega)])); (try (first | rw [if_pos (by omega)] | rw [if_neg (by omega)])); (try (first | rw [if_pos (by omega)] | rw [if_neg (by omega)])); (try rfl))) k)) dX5_go_18
set_option maxHeartbeats 4000000 in
set_option maxRecDepth 100000 in
theorem e_now (g : Gt) (w : Int) (h_w : rng w) (ρ σ : Sg) (hS : σ 42 = mkS ρ) (hW : RW ρ 0) (h6 : σ 41 6 = 255) : Mt g yX5_now cX5_now 2 (some FieldType.int) 4 [.ref (gA g 41), .int (iI (w))] σ (pM (if 0 ≤ w ∧ w ≤ 5 then (if w = 0 then ρ 0 10 else if w = 1 then sumF (ρ 1) 12 else if w = 2 then sumF (ρ 5) (ρ 0 7).toNat else if w = 3 then setF (fun f => decide (0 ≤ holder (ρ 0 7) (ρ 6) f)) 12 else if w = 4 then setF (fun t => decide (setF (fun f => decide (holder (ρ 0 7) (ρ 6) f = (t : Int))) 12 = 0)) (ρ 0 7).toNat else richF (ρ 5) (ρ 0 7).toNat) else (-1000001 - ((0 : Nat) : Int))) (ρ) (if 0 ≤ w ∧ w ≤ 5 then σ else finM 0 σ)) := by
  obtain ⟨hn, hfl, hw, hdy, hz, hD_, hK_, hA_, hG_, hM_, hP_⟩ := id hW
  have hD : rgD (ρ 1) := hD_
  have hK : rgK (ρ 3) := hK_
  have hA : rgA (ρ 4) := hA_
  have hG : rgG (ρ 5) := hG_
  have hM : rgM (ρ 6) := hM_
  have hP : ∀ j, j < 10 → -1 ≤ ρ 7 j ∧ ρ 7 j < ρ 0 7 := hP_
  have ho_w := h_w.1; have hp_w := h_w.2
  refine mt_of (own := RX5) (by decide) rfl (Nat.le_of_ble_eq_true rfl) (fun E C => ?_)
  show J g E (pM (if 0 ≤ w ∧ w ≤ 5 then (if w = 0 then ρ 0 10 else if w = 1 then sumF (ρ 1) 12 else if w = 2 then sumF (ρ 5) (ρ 0 7).toNat else if w = 3 then setF (fun f => decide (0 ≤ holder (ρ 0 7) (ρ 6) f)) 12 else if w = 4 then setF (fun t => decide (setF (fun f => decide (holder (ρ 0 7) (ρ 6) f = (t : Int))) 12 = 0)) (ρ 0 7).toNat else richF (ρ 5) (ρ 0 7).toNat) else (-1000001 - ((0 : Nat) : Int))) (ρ) (if 0 ≤ w ∧ w ≤ 5 then σ else finM 0 σ)) 2 0 [(0, .ref (gA g 41)), (1, .int (iI (w)))] [] σ
  refine r_iload_n (pc := 0) C dX5_now_0 rfl 1 rfl ?_
  by_cases hs1_0 : w = 0
  · refine r_tabIn C 0 40 dX5_now_1 hs1_0 ⟨by decide, by decide⟩ (by decide) (by decide) rfl (by decide) ?_
    refine r_aload_n (pc := 40) C dX5_now_40 rfl 0 rfl ?_
    refine r_getR5 (pc := 41) C 0 (k' := 42) rfl O_41 (by decide) rfl t_780 dX5_now_41 ?_
    refine r_iconst (pc := 44) C dX5_now_44 ?_
    refine r_iald (pc := 45) C 0 A_42 (by omega) (by omega) dX5_now_45 ?_
    refine r_top (show _ = ρ 0 10 from (congrFun hS _).trans (mkS_at rfl)) ?_
    exact r_retM (pc := 46) C (by first | (exfalso; omega; done) | ((try (first | rw [if_pos (by omega)] | rw [if_neg (by omega)])); (try (first | rw [if_pos (by omega)] | rw [if_neg (by omega)])); (try (first | rw [if_pos (by omega)] | rw [if_neg (by omega)])); (try (first | rw [if_pos (by omega)] | rw [if_neg (by omega)])); (try (first | rw [if_pos (by omega)] | rw [if_neg (by omega)])); (try (first | rw [if_pos (by omega)] | rw [if_neg (by omega)])); (try (first | rw [if_pos (by omega)] | rw [if_neg (by omega)])); (try rfl))) ((hS).trans (congrArg mkS (by first | (exfalso; omega; done) | ((try (first | rw [if_pos (by omega)] | rw [if_neg (by omega)])); (try (first | rw [if_pos (by omega)] | rw [if_neg (by omega)])); (try (first | rw [if_pos (by omega)] | rw [if_neg (by omega)])); (try (first | rw [if_pos (by omega)] | rw [if_neg (by omega)])); (try (first | rw [if_pos (by omega)] | rw [if_neg (by omega)])); (try (first | rw [if_pos (by omega)] | rw [if_neg (by omega)])); (try (first | rw [if_pos (by omega)] | rw [if_neg (by omega)])); (try rfl))))) (fun k hk => (rfl).trans (congrFun (by first | (exfalso; omega; done) | ((try (first | rw [if_pos (by omega)] | rw [if_neg (by omega)])); (try (first | rw [if_pos (by omega)] | rw [if_neg (by omega)])); (try (first | rw [if_pos (by omega)] | rw [if_neg (by omega)])); (try (first | rw [if_pos (by omega)] | rw [if_neg (by omega)])); (try (first | rw [if_pos (by omega)] | rw [if_neg (by omega)])); (try (first | rw [if_pos (by omega)] | rw [if_neg (by omega)])); (try (first | rw [if_pos (by omega)] | rw [if_neg (by omega)])); (try rfl))) k)) dX5_now_46
  by_cases hs1_1 : w = 1
  · refine r_tabIn C 1 47 dX5_now_1 hs1_1 ⟨by decide, by decide⟩ (by decide) (by decide) rfl (by decide) ?_
    refine r_aload_n (pc := 47) C dX5_now_47 rfl 0 rfl ?_
    refine r_cVi (pc := 48) C (c_dustAll g  ρ σ hS ) yX5_dustAll_w O_41 rfl rfl t_992 ⟨by decide, by decide⟩ (Nat.le_of_ble_eq_true rfl) rfl dX5_now_48 ?_
    exact r_retM (pc := 51) C (by first | (exfalso; omega; done) | ((try (first | rw [if_pos (by omega)] | rw [if_neg (by omega)])); (try (first | rw [if_pos (by omega)] | rw [if_neg (by omega)])); (try (first | rw [if_pos (by omega)] | rw [if_neg (by omega)])); (try (first | rw [if_pos (by omega)] | rw [if_neg (by omega)])); (try (first | rw [if_pos (by omega)] | rw [if_neg (by omega)])); (try (first | rw [if_pos (by omega)] | rw [if_neg (by omega)])); (try (first | rw [if_pos (by omega)] | rw [if_neg (by omega)])); (try rfl))) ((hS).trans (congrArg mkS (by first | (exfalso; omega; done) | ((try (first | rw [if_pos (by omega)] | rw [if_neg (by omega)])); (try (first | rw [if_pos (by omega)] | rw [if_neg (by omega)])); (try (first | rw [if_pos (by omega)] | rw [if_neg (by omega)])); (try (first | rw [if_pos (by omega)] | rw [if_neg (by omega)])); (try (first | rw [if_pos (by omega)] | rw [if_neg (by omega)])); (try (first | rw [if_pos (by omega)] | rw [if_neg (by omega)])); (try (first | rw [if_pos (by omega)] | rw [if_neg (by omega)])); (try rfl))))) (fun k hk => (rfl).trans (congrFun (by first | (exfalso; omega; done) | ((try (first | rw [if_pos (by omega)] | rw [if_neg (by omega)])); (try (first | rw [if_pos (by omega)] | rw [if_neg (by omega)])); (try (first | rw [if_pos (by omega)] | rw [if_neg (by omega)])); (try (first | rw [if_pos (by omega)] | rw [if_neg (by omega)])); (try (first | rw [if_pos (by omega)] | rw [if_neg (by omega)])); (try (first | rw [if_pos (by omega)] | rw [if_neg (by omega)])); (try (first | rw [if_pos (by omega)] | rw [if_neg (by omega)])); (try rfl))) k)) dX5_now_51
  by_cases hs1_2 : w = 2
  · refine r_tabIn C 2 52 dX5_now_1 hs1_2 ⟨by decide, by decide⟩ (by decide) (by decide) rfl (by decide) ?_
    refine r_aload_n (pc := 52) C dX5_now_52 rfl 0 rfl ?_
    refine r_cVi (pc := 53) C (c_goodsAll g  ρ σ hS hn) yX5_goodsAll_w O_41 rfl rfl t_1000 ⟨by decide, by decide⟩ (Nat.le_of_ble_eq_true rfl) rfl dX5_now_53 ?_
    exact r_retM (pc := 56) C (by first | (exfalso; omega; done) | ((try (first | rw [if_pos (by omega)] | rw [if_neg (by omega)])); (try (first | rw [if_pos (by omega)] | rw [if_neg (by omega)])); (try (first | rw [if_pos (by omega)] | rw [if_neg (by omega)])); (try (first | rw [if_pos (by omega)] | rw [if_neg (by omega)])); (try (first | rw [if_pos (by omega)] | rw [if_neg (by omega)])); (try (first | rw [if_pos (by omega)] | rw [if_neg (by omega)])); (try (first | rw [if_pos (by omega)] | rw [if_neg (by omega)])); (try rfl))) ((hS).trans (congrArg mkS (by first | (exfalso; omega; done) | ((try (first | rw [if_pos (by omega)] | rw [if_neg (by omega)])); (try (first | rw [if_pos (by omega)] | rw [if_neg (by omega)])); (try (first | rw [if_pos (by omega)] | rw [if_neg (by omega)])); (try (first | rw [if_pos (by omega)] | rw [if_neg (by omega)])); (try (first | rw [if_pos (by omega)] | rw [if_neg (by omega)])); (try (first | rw [if_pos (by omega)] | rw [if_neg (by omega)])); (try (first | rw [if_pos (by omega)] | rw [if_neg (by omega)])); (try rfl))))) (fun k hk => (rfl).trans (congrFun (by first | (exfalso; omega; done) | ((try (first | rw [if_pos (by omega)] | rw [if_neg (by omega)])); (try (first | rw [if_pos (by omega)] | rw [if_neg (by omega)])); (try (first | rw [if_pos (by omega)] | rw [if_neg (by omega)])); (try (first | rw [if_pos (by omega)] | rw [if_neg (by omega)])); (try (first | rw [if_pos (by omega)] | rw [if_neg (by omega)])); (try (first | rw [if_pos (by omega)] | rw [if_neg (by omega)])); (try (first | rw [if_pos (by omega)] | rw [if_neg (by omega)])); (try rfl))) k)) dX5_now_56
  by_cases hs1_3 : w = 3
  · refine r_tabIn C 3 57 dX5_now_1 hs1_3 ⟨by decide, by decide⟩ (by decide) (by decide) rfl (by decide) ?_
    refine r_aload_n (pc := 57) C dX5_now_57 rfl 0 rfl ?_
    refine r_cVi (pc := 58) C (c_heldOnes g  ρ σ hS hn hM) yX5_heldOnes_w O_41 rfl rfl t_1004 ⟨by decide, by decide⟩ (Nat.le_of_ble_eq_true rfl) rfl dX5_now_58 ?_
    exact r_retM (pc := 61) C (by first | (exfalso; omega; done) | ((try (first | rw [if_pos (by omega)] | rw [if_neg (by omega)])); (try (first | rw [if_pos (by omega)] | rw [if_neg (by omega)])); (try (first | rw [if_pos (by omega)] | rw [if_neg (by omega)])); (try (first | rw [if_pos (by omega)] | rw [if_neg (by omega)])); (try (first | rw [if_pos (by omega)] | rw [if_neg (by omega)])); (try (first | rw [if_pos (by omega)] | rw [if_neg (by omega)])); (try (first | rw [if_pos (by omega)] | rw [if_neg (by omega)])); (try rfl))) ((hS).trans (congrArg mkS (by first | (exfalso; omega; done) | ((try (first | rw [if_pos (by omega)] | rw [if_neg (by omega)])); (try (first | rw [if_pos (by omega)] | rw [if_neg (by omega)])); (try (first | rw [if_pos (by omega)] | rw [if_neg (by omega)])); (try (first | rw [if_pos (by omega)] | rw [if_neg (by omega)])); (try (first | rw [if_pos (by omega)] | rw [if_neg (by omega)])); (try (first | rw [if_pos (by omega)] | rw [if_neg (by omega)])); (try (first | rw [if_pos (by omega)] | rw [if_neg (by omega)])); (try rfl))))) (fun k hk => (rfl).trans (congrFun (by first | (exfalso; omega; done) | ((try (first | rw [if_pos (by omega)] | rw [if_neg (by omega)])); (try (first | rw [if_pos (by omega)] | rw [if_neg (by omega)])); (try (first | rw [if_pos (by omega)] | rw [if_neg (by omega)])); (try (first | rw [if_pos (by omega)] | rw [if_neg (by omega)])); (try (first | rw [if_pos (by omega)] | rw [if_neg (by omega)])); (try (first | rw [if_pos (by omega)] | rw [if_neg (by omega)])); (try (first | rw [if_pos (by omega)] | rw [if_neg (by omega)])); (try rfl))) k)) dX5_now_61
  by_cases hs1_4 : w = 4
  · refine r_tabIn C 4 62 dX5_now_1 hs1_4 ⟨by decide, by decide⟩ (by decide) (by decide) rfl (by decide) ?_
    refine r_aload_n (pc := 62) C dX5_now_62 rfl 0 rfl ?_
    refine r_cVi (pc := 63) C (c_m_landless g  ρ σ hS hn hM) yX5_landless_w O_41 rfl rfl t_1008 ⟨by decide, by decide⟩ (Nat.le_of_ble_eq_true rfl) rfl dX5_now_63 ?_
    exact r_retM (pc := 66) C (by first | (exfalso; omega; done) | ((try (first | rw [if_pos (by omega)] | rw [if_neg (by omega)])); (try (first | rw [if_pos (by omega)] | rw [if_neg (by omega)])); (try (first | rw [if_pos (by omega)] | rw [if_neg (by omega)])); (try (first | rw [if_pos (by omega)] | rw [if_neg (by omega)])); (try (first | rw [if_pos (by omega)] | rw [if_neg (by omega)])); (try (first | rw [if_pos (by omega)] | rw [if_neg (by omega)])); (try (first | rw [if_pos (by omega)] | rw [if_neg (by omega)])); (try rfl))) ((hS).trans (congrArg mkS (by first | (exfalso; omega; done) | ((try (first | rw [if_pos (by omega)] | rw [if_neg (by omega)])); (try (first | rw [if_pos (by omega)] | rw [if_neg (by omega)])); (try (first | rw [if_pos (by omega)] | rw [if_neg (by omega)])); (try (first | rw [if_pos (by omega)] | rw [if_neg (by omega)])); (try (first | rw [if_pos (by omega)] | rw [if_neg (by omega)])); (try (first | rw [if_pos (by omega)] | rw [if_neg (by omega)])); (try (first | rw [if_pos (by omega)] | rw [if_neg (by omega)])); (try rfl))))) (fun k hk => (rfl).trans (congrFun (by first | (exfalso; omega; done) | ((try (first | rw [if_pos (by omega)] | rw [if_neg (by omega)])); (try (first | rw [if_pos (by omega)] | rw [if_neg (by omega)])); (try (first | rw [if_pos (by omega)] | rw [if_neg (by omega)])); (try (first | rw [if_pos (by omega)] | rw [if_neg (by omega)])); (try (first | rw [if_pos (by omega)] | rw [if_neg (by omega)])); (try (first | rw [if_pos (by omega)] | rw [if_neg (by omega)])); (try (first | rw [if_pos (by omega)] | rw [if_neg (by omega)])); (try rfl))) k)) dX5_now_66
  by_cases hs1_5 : w = 5
  · refine r_tabIn C 5 67 dX5_now_1 hs1_5 ⟨by decide, by decide⟩ (by decide) (by decide) rfl (by decide) ?_
    refine r_aload_n (pc := 67) C dX5_now_67 rfl 0 rfl ?_
    refine r_cVi (pc := 68) C (c_m_richest g  ρ σ hS hn hG) yX5_richest_w O_41 rfl rfl t_1012 ⟨by decide, by decide⟩ (Nat.le_of_ble_eq_true rfl) rfl dX5_now_68 ?_
    exact r_retM (pc := 71) C (by first | (exfalso; omega; done) | ((try (first | rw [if_pos (by omega)] | rw [if_neg (by omega)])); (try (first | rw [if_pos (by omega)] | rw [if_neg (by omega)])); (try (first | rw [if_pos (by omega)] | rw [if_neg (by omega)])); (try (first | rw [if_pos (by omega)] | rw [if_neg (by omega)])); (try (first | rw [if_pos (by omega)] | rw [if_neg (by omega)])); (try (first | rw [if_pos (by omega)] | rw [if_neg (by omega)])); (try (first | rw [if_pos (by omega)] | rw [if_neg (by omega)])); (try rfl))) ((hS).trans (congrArg mkS (by first | (exfalso; omega; done) | ((try (first | rw [if_pos (by omega)] | rw [if_neg (by omega)])); (try (first | rw [if_pos (by omega)] | rw [if_neg (by omega)])); (try (first | rw [if_pos (by omega)] | rw [if_neg (by omega)])); (try (first | rw [if_pos (by omega)] | rw [if_neg (by omega)])); (try (first | rw [if_pos (by omega)] | rw [if_neg (by omega)])); (try (first | rw [if_pos (by omega)] | rw [if_neg (by omega)])); (try (first | rw [if_pos (by omega)] | rw [if_neg (by omega)])); (try rfl))))) (fun k hk => (rfl).trans (congrFun (by first | (exfalso; omega; done) | ((try (first | rw [if_pos (by omega)] | rw [if_neg (by omega)])); (try (first | rw [if_pos (by omega)] | rw [if_neg (by omega)])); (try (first | rw [if_pos (by omega)] | rw [if_neg (by omega)])); (try (first | rw [if_pos (by omega)] | rw [if_neg (by omega)])); (try (first | rw [if_pos (by omega)] | rw [if_neg (by omega)])); (try (first | rw [if_pos (by omega)] | rw [if_neg (by omega)])); (try (first | rw [if_pos (by omega)] | rw [if_neg (by omega)])); (try rfl))) k)) dX5_now_71
  refine r_tabOut (pc := 1) C 72 dX5_now_1 h_w (by omega) (by decide) ?_
  refine r_aload_n (pc := 72) C dX5_now_72 rfl 0 rfl ?_
  refine r_ldc (pc := 73) C (-1000001) t_854 (by decide) dX5_now_73 ?_
  refine r_cVi (pc := 75) C (c_finds g 0 (by decide) σ) yX5_finds_w O_41 rfl rfl t_855 ⟨by decide, by decide⟩ (Nat.le_of_ble_eq_true rfl) (by rw [show ((-1000001) : Int) = -1000001 - ((0 : Nat) : Int) by decide]; rfl) dX5_now_75 ?_
  exact r_retM (pc := 78) C (by first | (exfalso; omega; done) | ((try (first | rw [if_pos (by omega)] | rw [if_neg (by omega)])); (try (first | rw [if_pos (by omega)] | rw [if_neg (by omega)])); (try (first | rw [if_pos (by omega)] | rw [if_neg (by omega)])); (try (first | rw [if_pos (by omega)] | rw [if_neg (by omega)])); (try (first | rw [if_pos (by omega)] | rw [if_neg (by omega)])); (try (first | rw [if_pos (by omega)] | rw [if_neg (by omega)])); (try (first | rw [if_pos (by omega)] | rw [if_neg (by omega)])); (try rfl))) ((((wr_n _ _ _ (by omega)).trans hS)).trans (congrArg mkS (by first | (exfalso; omega; done) | ((try (first | rw [if_pos (by omega)] | rw [if_neg (by omega)])); (try (first | rw [if_pos (by omega)] | rw [if_neg (by omega)])); (try (first | rw [if_pos (by omega)] | rw [if_neg (by omega)])); (try (first | rw [if_pos (by omega)] | rw [if_neg (by omega)])); (try (first | rw [if_pos (by omega)] | rw [if_neg (by omega)])); (try (first | rw [if_pos (by omega)] | rw [if_neg (by omega)])); (try (first | rw [if_pos (by omega)] | rw [if_neg (by omega)])); (try rfl))))) (fun k hk => (rfl).trans (congrFun (by first | (exfalso; omega; done) | ((try (first | rw [if_pos (by omega)] | rw [if_neg (by omega)])); (try (first | rw [if_pos (by omega)] | rw [if_neg (by omega)])); (try (first | rw [if_pos (by omega)] | rw [if_neg (by omega)])); (try (first | rw [if_pos (by omega)] | rw [if_neg (by omega)])); (try (first | rw [if_pos (by omega)] | rw [if_neg (by omega)])); (try (first | rw [if_pos (by omega)] | rw [if_neg (by omega)])); (try (first | rw [if_pos (by omega)] | rw [if_neg (by omega)])); (try rfl))) k)) dX5_now_78
