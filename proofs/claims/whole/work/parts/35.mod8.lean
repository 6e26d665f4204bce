theorem us_52 {σ : Sg} {T F : Nat → Int} {k : Nat} (hk : k ≠ 53) : us (us σ 53 T) 52 F k = us σ 52 F k := by
  by_cases h : k = 52
  · subst h
    rw [us_s, us_s]
  · rw [us_n _ _ h, us_n _ _ h, us_n _ _ hk]
def sn1M (ρ : Sg) : Sg := dyM 255 (us (wr ρ 0 11 (zz (ρ 0 11))) 1 (bwD (ρ 1) (snf (ρ 0 11)) 1))
def snR : Nat → Sg → Sg
  | 0, ρ => ρ
  | k + 1, ρ => sn1M (snR k ρ)
theorem snd_RM {ρ : Sg} (h : RM_ ρ) : RM_ (us (wr ρ 0 11 (zz (ρ 0 11))) 1 (bwD (ρ 1) (snf (ρ 0 11)) 1)) := by
  obtain ⟨hn, hfl, hw, hD, hK, hA, hG, hM⟩ := h
  exact ⟨hn, hfl, hw, bwD_rng (snf_lt _) hD, hK, hA, hG, hM⟩
theorem snR_RM {ρ : Sg} (h : RM_ ρ) : ∀ k, RM_ (snR k ρ)
  | 0 => h
  | k + 1 => dyM_RM (snd_RM (snR_RM h k))
set_option maxHeartbeats 4000000 in
set_option maxRecDepth 100000 in
theorem e_copy (g : Gt) (x f t o n : Int) (h_x : rng x) (h_f : rng f) (h_t : rng t) (h_o : rng o) (h_n : rng n) (ρ σ : Sg) (hS : σ 42 = mkS ρ) (hb : ∀ s, s < 4 → (σ 50 s = 0 ∨ σ 50 s = 8 ∨ σ 50 s = 16 ∨ σ 50 s = 32) ∧ 0 ≤ σ 51 s ∧ σ 51 s ≤ 40) : Mt g yX5_copy cX5_copy 7 (some FieldType.int) 2 [.ref (gA g 41), .int (iI (x)), .int (iI (f)), .int (iI (t)), .int (iI (o)), .int (iI (n))] σ (pM (if (0 ≤ x ∧ x < 4) ∧ 0 ≤ t ∧ t < 4 then (if σ 50 x.toNat = 0 ∨ σ 50 t.toNat = 0 then (-1000001 - ((5 : Nat) : Int)) else if σ 50 x.toNat = σ 50 t.toNat then (if (0 ≤ f ∧ 0 ≤ n ∧ f ≤ σ 51 x.toNat ∧ n ≤ σ 51 x.toNat - f) ∧ 0 ≤ o ∧ 0 ≤ n ∧ o ≤ σ 51 t.toNat ∧ n ≤ σ 51 t.toNat - o then n else (-1000001 - ((0 : Nat) : Int))) else (-1000001 - ((2 : Nat) : Int))) else (-1000001 - ((0 : Nat) : Int))) (ρ) (if (0 ≤ x ∧ x < 4) ∧ 0 ≤ t ∧ t < 4 then (if σ 50 x.toNat = 0 ∨ σ 50 t.toNat = 0 then finM 5 σ else if σ 50 x.toNat = σ 50 t.toNat then (if (0 ≤ f ∧ 0 ≤ n ∧ f ≤ σ 51 x.toNat ∧ n ≤ σ 51 x.toNat - f) ∧ 0 ≤ o ∧ 0 ≤ n ∧ o ≤ σ 51 t.toNat ∧ n ≤ σ 51 t.toNat - o then us σ 52 (mapTo2 (40 * t.toNat + o.toNat) (fun j => σ 52 (40 * x.toNat + f.toNat + (j - (40 * t.toNat + o.toNat)))) (σ 52) n.toNat) else finM 0 σ) else finM 2 σ) else finM 0 σ)) := by
  have ho_x := h_x.1; have hp_x := h_x.2
  have ho_f := h_f.1; have hp_f := h_f.2
  have ho_t := h_t.1; have hp_t := h_t.2
  have ho_o := h_o.1; have hp_o := h_o.2
  have ho_n := h_n.1; have hp_n := h_n.2
  refine mt_of (own := RX5) (by decide) rfl (Nat.le_of_ble_eq_true rfl) (fun E C => ?_)
  show J g E (pM (if (0 ≤ x ∧ x < 4) ∧ 0 ≤ t ∧ t < 4 then (if σ 50 x.toNat = 0 ∨ σ 50 t.toNat = 0 then (-1000001 - ((5 : Nat) : Int)) else if σ 50 x.toNat = σ 50 t.toNat then (if (0 ≤ f ∧ 0 ≤ n ∧ f ≤ σ 51 x.toNat ∧ n ≤ σ 51 x.toNat - f) ∧ 0 ≤ o ∧ 0 ≤ n ∧ o ≤ σ 51 t.toNat ∧ n ≤ σ 51 t.toNat - o then n else (-1000001 - ((0 : Nat) : Int))) else (-1000001 - ((2 : Nat) : Int))) else (-1000001 - ((0 : Nat) : Int))) (ρ) (if (0 ≤ x ∧ x < 4) ∧ 0 ≤ t ∧ t < 4 then (if σ 50 x.toNat = 0 ∨ σ 50 t.toNat = 0 then finM 5 σ else if σ 50 x.toNat = σ 50 t.toNat then (if (0 ≤ f ∧ 0 ≤ n ∧ f ≤ σ 51 x.toNat ∧ n ≤ σ 51 x.toNat - f) ∧ 0 ≤ o ∧ 0 ≤ n ∧ o ≤ σ 51 t.toNat ∧ n ≤ σ 51 t.toNat - o then us σ 52 (mapTo2 (40 * t.toNat + o.toNat) (fun j => σ 52 (40 * x.toNat + f.toNat + (j - (40 * t.toNat + o.toNat)))) (σ 52) n.toNat) else finM 0 σ) else finM 2 σ) else finM 0 σ)) 7 0 [(0, .ref (gA g 41)), (1, .int (iI (x))), (2, .int (iI (f))), (3, .int (iI (t))), (4, .int (iI (o))), (5, .int (iI (n)))] [] σ
  refine r_iload_n (pc := 0) C dX5_copy_0 rfl 1 rfl ?_
  refine r_cSi (pc := 1) C (c_m_isOne g x h_x σ) yX5_isOne_w rfl t_1124 ⟨by decide, by decide⟩ (Nat.le_of_ble_eq_true rfl) rfl dX5_copy_1 ?_
  refine r_ifz_eq (pc := 4) C 14 dX5_copy_4 (by decide) (fun h4 => ?_) (fun h4 => ?_)
  · skip
    refine r_aload_n (pc := 14) C dX5_copy_14 rfl 0 rfl ?_
    refine r_ldc (pc := 15) C (-1000001) t_854 (by decide) dX5_copy_15 ?_
    refine r_cVi (pc := 17) C (c_finds g 0 (by decide) σ) yX5_finds_w O_41 rfl rfl t_855 ⟨by decide, by decide⟩ (Nat.le_of_ble_eq_true rfl) (by rw [show ((-1000001) : Int) = -1000001 - ((0 : Nat) : Int) by decide]; rfl) dX5_copy_17 ?_
    exact r_retM (pc := 20) C (by first | (exfalso; omega; done) | ((try (first | rw [if_pos (by omega)] | rw [if_neg (by omega)])); (try (first | rw [if_pos (by omega)] | rw [if_neg (by omega)])); (try (first | rw [if_pos (by omega)] | rw [if_neg (by omega)])); (try (first | rw [if_pos (by omega)] | rw [if_neg (by omega)])); (try rfl))) ((((wr_n _ _ _ (by omega)).trans hS)).trans (congrArg mkS (by first | (exfalso; omega; done) | ((try (first | rw [if_pos (by omega)] | rw [if_neg (by omega)])); (try (first | rw [if_pos (by omega)] | rw [if_neg (by omega)])); (try (first | rw [if_pos (by omega)] | rw [if_neg (by omega)])); (try (first | rw [if_pos (by omega)] | rw [if_neg (by omega)])); (try rfl))))) (fun k hk => (rfl).trans (congrFun (by first | (exfalso; omega; done) | ((try (first | rw [if_pos (by omega)] | rw [if_neg (by omega)])); (try (first | rw [if_pos (by omega)] | rw [if_neg (by omega)])); (try (first | rw [if_pos (by omega)] | rw [if_neg (by omega)])); (try (first | rw [if_pos (by omega)] | rw [if_neg (by omega)])); (try rfl))) k)) dX5_copy_20
  · skip
    refine r_iload_n (pc := 7) C dX5_copy_7 rfl 3 rfl ?_
    refine r_cSi (pc := 8) C (c_m_isOne g t h_t σ) yX5_isOne_w rfl t_1124 ⟨by decide, by decide⟩ (Nat.le_of_ble_eq_true rfl) rfl dX5_copy_8 ?_
    refine r_ifz_ne (pc := 11) C 21 dX5_copy_11 (by decide) (fun h11 => ?_) (fun h11 => ?_)
    · skip
      have hbx := hb x.toNat (by omega)
      have hbt := hb t.toNat (by omega)
      refine r_aload_n (pc := 21) C dX5_copy_21 rfl 0 rfl ?_
      refine r_getR5 (pc := 22) C 15 (k' := 50) rfl O_41 (by decide) rfl t_795 dX5_copy_22 ?_
      refine r_iload_n (pc := 25) C dX5_copy_25 rfl 1 rfl ?_
      refine r_iald (pc := 26) C x.toNat A_50 (by omega) (by omega) dX5_copy_26 ?_
      refine r_if_eq (pc := 27) C 39 ⟨by omega, by omega⟩ dX5_copy_27 (by decide) (fun h27 => ?_) (fun h27 => ?_)
      · skip
        refine r_aload_n (pc := 39) C dX5_copy_39 rfl 0 rfl ?_
        refine r_ldcw (pc := 40) C (-1000006) t_1127 (by decide) dX5_copy_40 ?_
        refine r_cVi (pc := 43) C (c_finds g 5 (by decide) σ) yX5_finds_w O_41 rfl rfl t_855 ⟨by decide, by decide⟩ (Nat.le_of_ble_eq_true rfl) (by rw [show ((-1000006) : Int) = -1000001 - ((5 : Nat) : Int) by decide]; rfl) dX5_copy_43 ?_
        exact r_retM (pc := 46) C (by first | (exfalso; omega; done) | ((try (first | rw [if_pos (by omega)] | rw [if_neg (by omega)])); (try (first | rw [if_pos (by omega)] | rw [if_neg (by omega)])); (try (first | rw [if_pos (by omega)] | rw [if_neg (by omega)])); (try (first | rw [if_pos (by omega)] | rw [if_neg (by omega)])); (try rfl))) ((((wr_n _ _ _ (by omega)).trans hS)).trans (congrArg mkS (by first | (exfalso; omega; done) | ((try (first | rw [if_pos (by omega)] | rw [if_neg (by omega)])); (try (first | rw [if_pos (by omega)] | rw [if_neg (by omega)])); (try (first | rw [if_pos (by omega)] | rw [if_neg (by omega)])); (try (first | rw [if_pos (by omega)] | rw [if_neg (by omega)])); (try rfl))))) (fun k hk => (rfl).trans (congrFun (by first | (exfalso; omega; done) | ((try (first | rw [if_pos (by omega)] | rw [if_neg (by omega)])); (try (first | rw [if_pos (by omega)] | rw [if_neg (by omega)])); (try (first | rw [if_pos (by omega)] | rw [if_neg (by omega)])); (try (first | rw [if_pos (by omega)] | rw [if_neg (by omega)])); (try rfl))) k)) dX5_copy_46
      · skip
        refine r_aload_n (pc := 30) C dX5_copy_30 rfl 0 rfl ?_
        refine r_getR5 (pc := 31) C 15 (k' := 50) rfl O_41 (by decide) rfl t_795 dX5_copy_31 ?_
        refine r_iload_n (pc := 34) C dX5_copy_34 rfl 3 rfl ?_
        refine r_iald (pc := 35) C t.toNat A_50 (by omega) (by omega) dX5_copy_35 ?_
        refine r_if_ne (pc := 36) C 47 ⟨by omega, by omega⟩ dX5_copy_36 (by decide) (fun h36 => ?_) (fun h36 => ?_)
        · skip
          refine r_aload_n (pc := 47) C dX5_copy_47 rfl 0 rfl ?_
          refine r_getR5 (pc := 48) C 15 (k' := 50) rfl O_41 (by decide) rfl t_795 dX5_copy_48 ?_
          refine r_iload_n (pc := 51) C dX5_copy_51 rfl 1 rfl ?_
          refine r_iald (pc := 52) C x.toNat A_50 (by omega) (by omega) dX5_copy_52 ?_
          refine r_aload_n (pc := 53) C dX5_copy_53 rfl 0 rfl ?_
          refine r_getR5 (pc := 54) C 15 (k' := 50) rfl O_41 (by decide) rfl t_795 dX5_copy_54 ?_
          refine r_iload_n (pc := 57) C dX5_copy_57 rfl 3 rfl ?_
          refine r_iald (pc := 58) C t.toNat A_50 (by omega) (by omega) dX5_copy_58 ?_
          refine r_icmp_eq (pc := 59) C 70 ⟨by omega, by omega⟩ ⟨by omega, by omega⟩ dX5_copy_59 (by decide) (fun h59 => ?_) (fun h59 => ?_)
          · skip
            refine r_iload_n (pc := 70) C dX5_copy_70 rfl 2 rfl ?_
            refine r_if_lt (pc := 71) C 111 h_f dX5_copy_71 (by decide) (fun h71 => ?_) (fun h71 => ?_)
            · skip
              refine r_aload_n (pc := 111) C dX5_copy_111 rfl 0 rfl ?_
              refine r_ldc (pc := 112) C (-1000001) t_854 (by decide) dX5_copy_112 ?_
              refine r_cVi (pc := 114) C (c_finds g 0 (by decide) σ) yX5_finds_w O_41 rfl rfl t_855 ⟨by decide, by decide⟩ (Nat.le_of_ble_eq_true rfl) (by rw [show ((-1000001) : Int) = -1000001 - ((0 : Nat) : Int) by decide]; rfl) dX5_copy_114 ?_
              exact r_retM (pc := 117) C (by first | (exfalso; omega; done) | ((try (first | rw [if_pos (by omega)] | rw [if_neg (by omega)])); (try (first | rw [if_pos (by omega)] | rw [if_neg (by omega)])); (try (first | rw [if_pos (by omega)] | rw [if_neg (by omega)])); (try (first | rw [if_pos (by omega)] | rw [if_neg (by omega)])); (try rfl))) ((((wr_n _ _ _ (by omega)).trans hS)).trans (congrArg mkS (by first | (exfalso; omega; done) | ((try (first | rw [if_pos (by omega)] | rw [if_neg (by omega)])); (try (first | rw [if_pos (by omega)] | rw [if_neg (by omega)])); (try (first | rw [if_pos (by omega)] | rw [if_neg (by omega)])); (try (first | rw [if_pos (by omega)] | rw [if_neg (by omega)])); (try rfl))))) (fun k hk => (rfl).trans (congrFun (by first | (exfalso; omega; done) | ((try (first | rw [if_pos (by omega)] | rw [if_neg (by omega)])); (try (first | rw [if_pos (by omega)] | rw [if_neg (by omega)])); (try (first | rw [if_pos (by omega)] | rw [if_neg (by omega)])); (try (first | rw [if_pos (by omega)] | rw [if_neg (by omega)])); (try rfl))) k)) dX5_copy_117
            · skip
              refine r_iload (pc := 74) C dX5_copy_74 4 rfl ?_
              refine r_if_lt (pc := 76) C 111 h_o dX5_copy_76 (by decide) (fun h76 => ?_) (fun h76 => ?_)
              · skip
                refine r_aload_n (pc := 111) C dX5_copy_111 rfl 0 rfl ?_
                refine r_ldc (pc := 112) C (-1000001) t_854 (by decide) dX5_copy_112 ?_
                refine r_cVi (pc := 114) C (c_finds g 0 (by decide) σ) yX5_finds_w O_41 rfl rfl t_855 ⟨by decide, by decide⟩ (Nat.le_of_ble_eq_true rfl) (by rw [show ((-1000001) : Int) = -1000001 - ((0 : Nat) : Int) by decide]; rfl) dX5_copy_114 ?_
                exact r_retM (pc := 117) C (by first | (exfalso; omega; done) | ((try (first | rw [if_pos (by omega)] | rw [if_neg (by omega)])); (try (first | rw [if_pos (by omega)] | rw [if_neg (by omega)])); (try (first | rw [if_pos (by omega)] | rw [if_neg (by omega)])); (try (first | rw [if_pos (by omega)] | rw [if_neg (by omega)])); (try rfl))) ((((wr_n _ _ _ (by omega)).trans hS)).trans (congrArg mkS (by first | (exfalso; omega; done) | ((try (first | rw [if_pos (by omega)] | rw [if_neg (by omega)])); (try (first | rw [if_pos (by omega)] | rw [if_neg (by omega)])); (try (first | rw [if_pos (by omega)] | rw [if_neg (by omega)])); (try (first | rw [if_pos (by omega)] | rw [if_neg (by omega)])); (try rfl))))) (fun k hk => (rfl).trans (congrFun (by first | (exfalso; omega; done) | ((try (first | rw [if_pos (by omega)] | rw [if_neg (by omega)])); (try (first | rw [if_pos (by omega)] | rw [if_neg (by omega)])); (try (first | rw [if_pos (by omega)] | rw [if_neg (by omega)])); (try (first | rw [if_pos (by omega)] | rw [if_neg (by omega)])); (try rfl))) k)) dX5_copy_117
              · skip
                refine r_iload (pc := 79) C dX5_copy_79 5 rfl ?_
                refine r_if_lt (pc := 81) C 111 h_n dX5_copy_81 (by decide) (fun h81 => ?_) (fun h81 => ?_)
                · skip
                  refine r_aload_n (pc := 111) C dX5_copy_111 rfl 0 rfl ?_
                  refine r_ldc (pc := 112) C (-1000001) t_854 (by decide) dX5_copy_112 ?_
                  refine r_cVi (pc := 114) C (c_finds g 0 (by decide) σ) yX5_finds_w O_41 rfl rfl t_855 ⟨by decide, by decide⟩ (Nat.le_of_ble_eq_true rfl) (by rw [show ((-1000001) : Int) = -1000001 - ((0 : Nat) : Int) by decide]; rfl) dX5_copy_114 ?_
                  exact r_retM (pc := 117) C (by first | (exfalso; omega; done) | ((try (first | rw [if_pos (by omega)] | rw [if_neg (by omega)])); (try (first | rw [if_pos (by omega)] | rw [if_neg (by omega)])); (try (first | rw [if_pos (by omega)] | rw [if_neg (by omega)])); (try (first | rw [if_pos (by omega)] | rw [if_neg (by omega)])); (try rfl))) ((((wr_n _ _ _ (by omega)).trans hS)).trans (congrArg mkS (by first | (exfalso; omega; done) | ((try (first | rw [if_pos (by omega)] | rw [if_neg (by omega)])); (try (first | rw [if_pos (by omega)] | rw [if_neg (by omega)])); (try (first | rw [if_pos (by omega)] | rw [if_neg (by omega)])); (try (first | rw [if_pos (by omega)] | rw [if_neg (by omega)])); (try rfl))))) (fun k hk => (rfl).trans (congrFun (by first | (exfalso; omega; done) | ((try (first | rw [if_pos (by omega)] | rw [if_neg (by omega)])); (try (first | rw [if_pos (by omega)] | rw [if_neg (by omega)])); (try (first | rw [if_pos (by omega)] | rw [if_neg (by omega)])); (try (first | rw [if_pos (by omega)] | rw [if_neg (by omega)])); (try rfl))) k)) dX5_copy_117
                · skip
                  refine r_iload (pc := 84) C dX5_copy_84 5 rfl ?_
                  refine r_aload_n (pc := 86) C dX5_copy_86 rfl 0 rfl ?_
                  refine r_getR5 (pc := 87) C 16 (k' := 51) rfl O_41 (by decide) rfl t_796 dX5_copy_87 ?_
                  refine r_iload_n (pc := 90) C dX5_copy_90 rfl 1 rfl ?_
                  refine r_iald (pc := 91) C x.toNat A_51 (by omega) (by omega) dX5_copy_91 ?_
                  refine r_iload_n (pc := 92) C dX5_copy_92 rfl 2 rfl ?_
                  refine r_isub (pc := 93) C dX5_copy_93 ?_
                  refine r_icmp_gt (pc := 94) C 111 h_n ⟨by omega, by omega⟩ dX5_copy_94 (by decide) (fun h94 => ?_) (fun h94 => ?_)
                  · skip
                    refine r_aload_n (pc := 111) C dX5_copy_111 rfl 0 rfl ?_
                    refine r_ldc (pc := 112) C (-1000001) t_854 (by decide) dX5_copy_112 ?_
                    refine r_cVi (pc := 114) C (c_finds g 0 (by decide) σ) yX5_finds_w O_41 rfl rfl t_855 ⟨by decide, by decide⟩ (Nat.le_of_ble_eq_true rfl) (by rw [show ((-1000001) : Int) = -1000001 - ((0 : Nat) : Int) by decide]; rfl) dX5_copy_114 ?_
                    exact r_retM (pc := 117) C (by first | (exfalso; omega; done) | ((try (first | rw [if_pos (by omega)] | rw [if_neg (by omega)])); (try (first | rw [if_pos (by omega)] | rw [if_neg (by omega)])); (try (first | rw [if_pos (by omega)] | rw [if_neg (by omega)])); (try (first | rw [if_pos (by omega)] | rw [if_neg (by omega)])); (try rfl))) ((((wr_n _ _ _ (by omega)).trans hS)).trans (congrArg mkS (by first | (exfalso; omega; done) | ((try (first | rw [if_pos (by omega)] | rw [if_neg (by omega)])); (try (first | rw [if_pos (by omega)] | rw [if_neg (by omega)])); (try (first | rw [if_pos (by omega)] | rw [if_neg (by omega)])); (try (first | rw [if_pos (by omega)] | rw [if_neg (by omega)])); (try rfl))))) (fun k hk => (rfl).trans (congrFun (by first | (exfalso; omega; done) | ((try (first | rw [if_pos (by omega)] | rw [if_neg (by omega)])); (try (first | rw [if_pos (by omega)] | rw [if_neg (by omega)])); (try (first | rw [if_pos (by omega)] | rw [if_neg (by omega)])); (try (first | rw [if_pos (by omega)] | rw [if_neg (by omega)])); (try rfl))) k)) dX5_copy_117
                  · skip
                    refine r_iload (pc := 97) C dX5_copy_97 5 rfl ?_
                    refine r_aload_n (pc := 99) C dX5_copy_99 rfl 0 rfl ?_
                    refine r_getR5 (pc := 100) C 16 (k' := 51) rfl O_41 (by decide) rfl t_796 dX5_copy_100 ?_
                    refine r_iload_n (pc := 103) C dX5_copy_103 rfl 3 rfl ?_
                    refine r_iald (pc := 104) C t.toNat A_51 (by omega) (by omega) dX5_copy_104 ?_
                    refine r_iload (pc := 105) C dX5_copy_105 4 rfl ?_
                    refine r_isub (pc := 107) C dX5_copy_107 ?_
                    refine r_icmp_le (pc := 108) C 118 h_n ⟨by omega, by omega⟩ dX5_copy_108 (by decide) (fun h108 => ?_) (fun h108 => ?_)
                    · skip
                      refine r_iconst (pc := 118) C dX5_copy_118 ?_
                      refine r_istore (pc := 119) C dX5_copy_119 (by decide) [1, 2, 3, 4, 5, 6, 0] (lv' := [(0, .ref (gA g 41)), (1, .int (iI (x))), (2, .int (iI (f))), (3, .int (iI (t))), (4, .int (iI (o))), (5, .int (iI (n))), (6, .int (iI (0)))]) rfl ?_
                      have L121 : ∀ (n_ : Nat) (i : Nat) (x121_6 : Int) (s121 : Sg), n.toNat - i < n_ → ((i : Int) ≤ n) → x121_6 = (i : Int) → s121 = (us σ 53 (mapTo (fun j => σ 52 (40 * x.toNat + f.toNat + j)) (σ 53) i)) → J g E (pM (if (0 ≤ x ∧ x < 4) ∧ 0 ≤ t ∧ t < 4 then (if σ 50 x.toNat = 0 ∨ σ 50 t.toNat = 0 then (-1000001 - ((5 : Nat) : Int)) else if σ 50 x.toNat = σ 50 t.toNat then (if (0 ≤ f ∧ 0 ≤ n ∧ f ≤ σ 51 x.toNat ∧ n ≤ σ 51 x.toNat - f) ∧ 0 ≤ o ∧ 0 ≤ n ∧ o ≤ σ 51 t.toNat ∧ n ≤ σ 51 t.toNat - o then n else (-1000001 - ((0 : Nat) : Int))) else (-1000001 - ((2 : Nat) : Int))) else (-1000001 - ((0 : Nat) : Int))) (ρ) (if (0 ≤ x ∧ x < 4) ∧ 0 ≤ t ∧ t < 4 then (if σ 50 x.toNat = 0 ∨ σ 50 t.toNat = 0 then finM 5 σ else if σ 50 x.toNat = σ 50 t.toNat then (if (0 ≤ f ∧ 0 ≤ n ∧ f ≤ σ 51 x.toNat ∧ n ≤ σ 51 x.toNat - f) ∧ 0 ≤ o ∧ 0 ≤ n ∧ o ≤ σ 51 t.toNat ∧ n ≤ σ 51 t.toNat - o then us σ 52 (mapTo2 (40 * t.toNat + o.toNat) (fun j => σ 52 (40 * x.toNat + f.toNat + (j - (40 * t.toNat + o.toNat)))) (σ 52) n.toNat) else finM 0 σ) else finM 2 σ) else finM 0 σ)) 7 121 [(0, .ref (gA g 41)), (1, .int (iI (x))), (2, .int (iI (f))), (3, .int (iI (t))), (4, .int (iI (o))), (5, .int (iI (n))), (6, .int (iI (x121_6)))] [] s121 := by
                        intro n_
                        induction n_ with
                        | zero => intro i x121_6 s121 hm_; exact absurd hm_ (Nat.not_lt_zero _)
                        | succ n_ ih121 =>
                          intro i x121_6 s121 hm121 hi121_0 e121_0 es121
                          subst e121_0 es121
                          refine r_iload (pc := 121) C dX5_copy_121 6 rfl ?_
                          refine r_iload (pc := 123) C dX5_copy_123 5 rfl ?_
                          refine r_icmp_ge (pc := 125) C 155 ⟨by omega, by omega⟩ h_n dX5_copy_125 (by decide) (fun h125 => ?_) (fun h125 => ?_)
                          · skip
                            refine r_iconst (pc := 155) C dX5_copy_155 ?_
                            refine r_istore (pc := 156) C dX5_copy_156 (by decide) [1, 2, 3, 4, 5, 6, 0] (lv' := [(0, .ref (gA g 41)), (1, .int (iI (x))), (2, .int (iI (f))), (3, .int (iI (t))), (4, .int (iI (o))), (5, .int (iI (n))), (6, .int (iI (0)))]) rfl ?_
                            have L158 : ∀ (n_ : Nat) (k : Nat) (x158_6 : Int) (s158 : Sg), n.toNat - k < n_ → ((k : Int) ≤ n) → x158_6 = (k : Int) → s158 = (us (us σ 53 (mapTo (fun j => σ 52 (40 * x.toNat + f.toNat + j)) (σ 53) n.toNat)) 52 (mapTo2 (40 * t.toNat + o.toNat) (fun j => σ 52 (40 * x.toNat + f.toNat + (j - (40 * t.toNat + o.toNat)))) (σ 52) k)) → J g E (pM (if (0 ≤ x ∧ x < 4) ∧ 0 ≤ t ∧ t < 4 then (if σ 50 x.toNat = 0 ∨ σ 50 t.toNat = 0 then (-1000001 - ((5 : Nat) : Int)) else if σ 50 x.toNat = σ 50 t.toNat then (if (0 ≤ f ∧ 0 ≤ n ∧ f ≤ σ 51 x.toNat ∧ n ≤ σ 51 x.toNat - f) ∧ 0 ≤ o ∧ 0 ≤ n ∧ o ≤ σ 51 t.toNat ∧ n ≤ σ 51 t.toNat - o then n else (-1000001 - ((0 : Nat) : Int))) else (-1000001 - ((2 : Nat) : Int))) else (-1000001 - ((0 : Nat) : Int))) (ρ) (if (0 ≤ x ∧ x < 4) ∧ 0 ≤ t ∧ t < 4 then (if σ 50 x.toNat = 0 ∨ σ 50 t.toNat = 0 then finM 5 σ else if σ 50 x.toNat = σ 50 t.toNat then (if (0 ≤ f ∧ 0 ≤ n ∧ f ≤ σ 51 x.toNat ∧ n ≤ σ 51 x.toNat - f) ∧ 0 ≤ o ∧ 0 ≤ n ∧ o ≤ σ 51 t.toNat ∧ n ≤ σ 51 t.toNat - o then us σ 52 (mapTo2 (40 * t.toNat + o.toNat) (fun j => σ 52 (40 * x.toNat + f.toNat + (j - (40 * t.toNat + o.toNat)))) (σ 52) n.toNat) else finM 0 σ) else finM 2 σ) else finM 0 σ)) 7 158 [(0, .ref (gA g 41)), (1, .int (iI (x))), (2, .int (iI (f))), (3, .int (iI (t))), (4, .int (iI (o))), (5, .int (iI (n))), (6, .int (iI (x158_6)))] [] s158 := by
                              intro n_
                              induction n_ with
                              | zero => intro k x158_6 s158 hm_; exact absurd hm_ (Nat.not_lt_zero _)
                              | succ n_ ih158 =>
                                intro k x158_6 s158 hm158 hi158_0 e158_0 es158
                                subst e158_0 es158
                                refine r_iload (pc := 158) C dX5_copy_158 6 rfl ?_
                                refine r_iload (pc := 160) C dX5_copy_160 5 rfl ?_
                                refine r_icmp_ge (pc := 162) C 193 ⟨by omega, by omega⟩ h_n dX5_copy_162 (by decide) (fun h162 => ?_) (fun h162 => ?_)
                                · skip
                                  refine r_iload (pc := 193) C dX5_copy_193 5 rfl ?_
                                  exact r_retM (pc := 195) C (((if_pos (by omega)).trans ((if_neg (by omega)).trans ((if_pos (by omega)).trans (if_pos (by omega))))).symm) (((us_n _ _ (by omega)).trans ((us_n _ _ (by omega)).trans hS))) (fun c hc => (us_52 hc.2.2.2.2.2).trans (by rw [show k = n.toNat by omega]; exact congrFun (((if_pos (by omega)).trans ((if_neg (by omega)).trans ((if_pos (by omega)).trans (if_pos (by omega))))).symm) c)) dX5_copy_195
                                · skip
                                  refine r_aload_n (pc := 165) C dX5_copy_165 rfl 0 rfl ?_
                                  refine r_getR5 (pc := 166) C 17 (k' := 52) rfl O_41 (by decide) rfl t_797 dX5_copy_166 ?_
                                  refine r_bipush (pc := 169) C dX5_copy_169 (by decide) ?_
                                  refine r_iload_n (pc := 171) C dX5_copy_171 rfl 3 rfl ?_
                                  refine r_imul (pc := 172) C dX5_copy_172 ?_
                                  refine r_iload (pc := 173) C dX5_copy_173 4 rfl ?_
                                  refine r_iadd (pc := 175) C dX5_copy_175 ?_
                                  refine r_iload (pc := 176) C dX5_copy_176 6 rfl ?_
                                  refine r_iadd (pc := 178) C dX5_copy_178 ?_
                                  refine r_aload_n (pc := 179) C dX5_copy_179 rfl 0 rfl ?_
                                  refine r_getR5 (pc := 180) C 18 (k' := 53) rfl O_41 (by decide) rfl t_798 dX5_copy_180 ?_
                                  refine r_iload (pc := 183) C dX5_copy_183 6 rfl ?_
                                  refine r_iald (pc := 185) C k A_53 (by omega) (by omega) dX5_copy_185 ?_
                                  refine r_top ((us_o2 (k := 52) (k' := 53) _ _ _ (by omega)).trans (us_s2 _ _ _ _)) ?_
                                  refine r_top (show (mapTo (fun j => σ 52 (40 * x.toNat + f.toNat + j)) (σ 53) n.toNat) k = σ 52 (40 * x.toNat + f.toNat + k) from mapTo_lt (show k < n.toNat by omega)) ?_
                                  refine r_iast (pc := 186) C ((40 * t.toNat + o.toNat) + k) A_52 (by omega) (by omega) dX5_copy_186 ?_
                                  refine r_iinc (pc := 187) C dX5_copy_187 6 rfl (by decide) [1, 2, 3, 4, 5, 6, 0] (lv' := [(0, .ref (gA g 41)), (1, .int (iI (x))), (2, .int (iI (f))), (3, .int (iI (t))), (4, .int (iI (o))), (5, .int (iI (n))), (6, .int (iI ((k : Int) + 1)))]) rfl ?_
                                  refine r_goto (pc := 190) C 158 dX5_copy_190 (by decide) ?_
                                  exact ih158 (k + 1) _ _ (by omega) (by omega) (by omega) ((wr_us _ _ _ _ _).trans (congrArg (us _ 52) ((congrArg (up _ _) (show σ 52 (40 * x.toNat + f.toNat + k) = σ 52 (40 * x.toNat + f.toNat + ((40 * t.toNat + o.toNat) + k - (40 * t.toNat + o.toNat))) by rw [Nat.add_sub_cancel_left])).trans (mapTo2_s (40 * t.toNat + o.toNat) (fun j => σ 52 (40 * x.toNat + f.toNat + (j - (40 * t.toNat + o.toNat)))) _ _))))
                            exact L158 _ 0 _ _ (Nat.lt_succ_self _) (by omega) (rfl) (by rw [mapTo2_0, show i = n.toNat by omega]; exact (us_idx rfl).symm)
                          · skip
                            refine r_aload_n (pc := 128) C dX5_copy_128 rfl 0 rfl ?_
                            refine r_getR5 (pc := 129) C 18 (k' := 53) rfl O_41 (by decide) rfl t_798 dX5_copy_129 ?_
                            refine r_iload (pc := 132) C dX5_copy_132 6 rfl ?_
                            refine r_aload_n (pc := 134) C dX5_copy_134 rfl 0 rfl ?_
                            refine r_getR5 (pc := 135) C 17 (k' := 52) rfl O_41 (by decide) rfl t_797 dX5_copy_135 ?_
                            refine r_bipush (pc := 138) C dX5_copy_138 (by decide) ?_
                            refine r_iload_n (pc := 140) C dX5_copy_140 rfl 1 rfl ?_
                            refine r_imul (pc := 141) C dX5_copy_141 ?_
                            refine r_iload_n (pc := 142) C dX5_copy_142 rfl 2 rfl ?_
                            refine r_iadd (pc := 143) C dX5_copy_143 ?_
                            refine r_iload (pc := 144) C dX5_copy_144 6 rfl ?_
                            refine r_iadd (pc := 146) C dX5_copy_146 ?_
                            refine r_iald (pc := 147) C (40 * x.toNat + f.toNat + i) A_52 (by omega) (by omega) dX5_copy_147 ?_
                            refine r_top (us_o2 (k := 53) (k' := 52) _ _ _ (by omega)) ?_
                            refine r_iast (pc := 148) C i A_53 (by omega) (by omega) dX5_copy_148 ?_
                            refine r_iinc (pc := 149) C dX5_copy_149 6 rfl (by decide) [1, 2, 3, 4, 5, 6, 0] (lv' := [(0, .ref (gA g 41)), (1, .int (iI (x))), (2, .int (iI (f))), (3, .int (iI (t))), (4, .int (iI (o))), (5, .int (iI (n))), (6, .int (iI ((i : Int) + 1)))]) rfl ?_
                            refine r_goto (pc := 152) C 121 dX5_copy_152 (by decide) ?_
                            exact ih121 (i + 1) _ _ (by omega) (by omega) (by omega) ((wr_us _ _ _ _ _).trans (congrArg (us _ 53) (mapTo_s (fun j => σ 52 (40 * x.toNat + f.toNat + j)) _ _)))
                      exact L121 _ 0 _ _ (Nat.lt_succ_self _) (by omega) (rfl) (by rw [mapTo_0, us_id])
                    · skip
                      refine r_aload_n (pc := 111) C dX5_copy_111 rfl 0 rfl ?_
                      refine r_ldc (pc := 112) C (-1000001) t_854 (by decide) dX5_copy_112 ?_
                      refine r_cVi (pc := 114) C (c_finds g 0 (by decide) σ) yX5_finds_w O_41 rfl rfl t_855 ⟨by decide, by decide⟩ (Nat.le_of_ble_eq_true rfl) (by rw [show ((-1000001) : Int) = -1000001 - ((0 : Nat) : Int) by decide]; rfl) dX5_copy_114 ?_
                      exact r_retM (pc := 117) C (by first | (exfalso; omega; done) | ((try (first | rw [if_pos (by omega)] | rw [if_neg (by omega)])); (try (first | rw [if_pos (by omega)] | rw [if_neg (by omega)])); (try (first | rw [if_pos (by omega)] | rw [if_neg (by omega)])); (try (first | rw [if_pos (by omega)] | rw [if_neg (by omega)])); (try rfl))) ((((wr_n _ _ _ (by omega)).trans hS)).trans (congrArg mkS (by first | (exfalso; omega; done) | ((try (first | rw [if_pos (by omega)] | rw [if_neg (by omega)])); (try (first | rw [if_pos (by omega)] | rw [if_neg (by omega)])); (try (first | rw [if_pos (by omega)] | rw [if_neg (by omega)])); (try (first | rw [if_pos (by omega)] | rw [if_neg (by omega)])); (try rfl))))) (fun k hk => (rfl).trans (congrFun (by first | (exfalso; omega; done) | ((try (first | rw [if_pos (by omega)] | rw [if_neg (by omega)])); (try (first | rw [if_pos (by omega)] | rw [if_neg (by omega)])); (try (first | rw [if_pos (by omega)] | rw [if_neg (by omega)])); (try (first | rw [if_pos (by omega)] | rw [if_neg (by omega)])); (try rfl))) k)) dX5_copy_117
          · skip
            refine r_aload_n (pc := 62) C dX5_copy_62 rfl 0 rfl ?_
            refine r_ldcw (pc := 63) C (-1000003) t_1263 (by decide) dX5_copy_63 ?_
            refine r_cVi (pc := 66) C (c_finds g 2 (by decide) σ) yX5_finds_w O_41 rfl rfl t_855 ⟨by decide, by decide⟩ (Nat.le_of_ble_eq_true rfl) (by rw [show ((-1000003) : Int) = -1000001 - ((2 : Nat) : Int) by decide]; rfl) dX5_copy_66 ?_
            exact r_retM (pc := 69) C (by first | (exfalso; omega; done) | ((try (first | rw [if_pos (by omega)] | rw [if_neg (by omega)])); (try (first | rw [if_pos (by omega)] | rw [if_neg (by omega)])); (try (first | rw [if_pos (by omega)] | rw [if_neg (by omega)])); (try (first | rw [if_pos (by omega)] | rw [if_neg (by omega)])); (try rfl))) ((((wr_n _ _ _ (by omega)).trans hS)).trans (congrArg mkS (by first | (exfalso; omega; done) | ((try (first | rw [if_pos (by omega)] | rw [if_neg (by omega)])); (try (first | rw [if_pos (by omega)] | rw [if_neg (by omega)])); (try (first | rw [if_pos (by omega)] | rw [if_neg (by omega)])); (try (first | rw [if_pos (by omega)] | rw [if_neg (by omega)])); (try rfl))))) (fun k hk => (rfl).trans (congrFun (by first | (exfalso; omega; done) | ((try (first | rw [if_pos (by omega)] | rw [if_neg (by omega)])); (try (first | rw [if_pos (by omega)] | rw [if_neg (by omega)])); (try (first | rw [if_pos (by omega)] | rw [if_neg (by omega)])); (try (first | rw [if_pos (by omega)] | rw [if_neg (by omega)])); (try rfl))) k)) dX5_copy_69
        · skip
          refine r_aload_n (pc := 39) C dX5_copy_39 rfl 0 rfl ?_
          refine r_ldcw (pc := 40) C (-1000006) t_1127 (by decide) dX5_copy_40 ?_
          refine r_cVi (pc := 43) C (c_finds g 5 (by decide) σ) yX5_finds_w O_41 rfl rfl t_855 ⟨by decide, by decide⟩ (Nat.le_of_ble_eq_true rfl) (by rw [show ((-1000006) : Int) = -1000001 - ((5 : Nat) : Int) by decide]; rfl) dX5_copy_43 ?_
          exact r_retM (pc := 46) C (by first | (exfalso; omega; done) | ((try (first | rw [if_pos (by omega)] | rw [if_neg (by omega)])); (try (first | rw [if_pos (by omega)] | rw [if_neg (by omega)])); (try (first | rw [if_pos (by omega)] | rw [if_neg (by omega)])); (try (first | rw [if_pos (by omega)] | rw [if_neg (by omega)])); (try rfl))) ((((wr_n _ _ _ (by omega)).trans hS)).trans (congrArg mkS (by first | (exfalso; omega; done) | ((try (first | rw [if_pos (by omega)] | rw [if_neg (by omega)])); (try (first | rw [if_pos (by omega)] | rw [if_neg (by omega)])); (try (first | rw [if_pos (by omega)] | rw [if_neg (by omega)])); (try (first | rw [if_pos (by omega)] | rw [if_neg (by omega)])); (try rfl))))) (fun k hk => (rfl).trans (congrFun (by first | (exfalso; omega; done) | ((try (first | rw [if_pos (by omega)] | rw [if_neg (by omega)])); (try (first | rw [if_pos (by omega)] | rw [if_neg (by omega)])); (try (first | rw [if_pos (by omega)] | rw [if_neg (by omega)])); (try (first | rw [if_pos (by omega)] | rw [if_neg (by omega)])); (try rfl))) k)) dX5_copy_46
    · skip
      refine r_aload_n (pc := 14) C dX5_copy_14 rfl 0 rfl ?_
      refine r_ldc (pc := 15) C (-1000001) t_854 (by decide) dX5_copy_15 ?_
      refine r_cVi (pc := 17) C (c_finds g 0 (by decide) σ) yX5_finds_w O_41 rfl rfl t_855 ⟨by decide, by decide⟩ (Nat.le_of_ble_eq_true rfl) (by rw [show ((-1000001) : Int) = -1000001 - ((0 : Nat) : Int) by decide]; rfl) dX5_copy_17 ?_
      exact r_retM (pc := 20) C (by first | (exfalso; omega; done) | ((try (first | rw [if_pos (by omega)] | rw [if_neg (by omega)])); (try (first | rw [if_pos (by omega)] | rw [if_neg (by omega)])); (try (first | rw [if_pos (by omega)] | rw [if_neg (by omega)])); (try (first | rw [if_pos (by omega)] | rw [if_neg (by omega)])); (try rfl))) ((((wr_n _ _ _ (by omega)).trans hS)).trans (congrArg mkS (by first | (exfalso; omega; done) | ((try (first | rw [if_pos (by omega)] | rw [if_neg (by omega)])); (try (first | rw [if_pos (by omega)] | rw [if_neg (by omega)])); (try (first | rw [if_pos (by omega)] | rw [if_neg (by omega)])); (try (first | rw [if_pos (by omega)] | rw [if_neg (by omega)])); (try rfl))))) (fun k hk => (rfl).trans (congrFun (by first | (exfalso; omega; done) | ((try (first | rw [if_pos (by omega)] | rw [if_neg (by omega)])); (try (first | rw [if_pos (by omega)] | rw [if_neg (by omega)])); (try (first | rw [if_pos (by omega)] | rw [if_neg (by omega)])); (try (first | rw [if_pos (by omega)] | rw [if_neg (by omega)])); (try rfl))) k)) dX5_copy_20
set_option maxHeartbeats 4000000 in
set_option maxRecDepth 100000 in
theorem c_isTold (g : Gt) (s t : Nat) (hs : s < 4) (ht : t < 8) (N : Nat → Int) (len : Int) (hl : 0 ≤ len ∧ len ≤ 40) (hNr : ∀ j, j < 40 → rng (N j)) (ρ σ : Sg) (hS : σ 42 = mkS ρ) (hR : RM_ ρ) (h6 : σ 41 6 = 255) (hlen : σ 51 s = len) (hN : ∀ j, j < 40 → σ 52 (40 * s + j) = N j) : Mt g yX5_isTold cX5_isTold 6 (some FieldType.boolean) 6 [.ref (gA g 41), .int (iI ((s : Int))), .int (iI ((t : Int)))] σ (pM (b01 (tlG (ρ 0 7) (ρ 0 8) (ρ 0 9) (ρ 3) (ρ 4) (ρ 1, ρ 5, ρ 6) t N len = true)) ρ σ) := by
  refine mt_of (own := RX5) (by decide) rfl (Nat.le_of_ble_eq_true rfl) (fun E C => ?_)
  show J g E (pM (b01 (tlG (ρ 0 7) (ρ 0 8) (ρ 0 9) (ρ 3) (ρ 4) (ρ 1, ρ 5, ρ 6) t N len = true)) ρ σ) 6 0 [(0, .ref (gA g 41)), (1, .int (iI ((s : Int)))), (2, .int (iI ((t : Int))))] [] σ
  refine r_aload_n (pc := 0) C dX5_isTold_0 rfl 0 rfl ?_
  refine r_cVv (pc := 1) C (c_laysAside g σ) yX5_laysAside_w O_41 rfl rfl t_1024 ⟨by decide, by decide⟩ (Nat.le_of_ble_eq_true rfl) rfl dX5_isTold_1 ?_
  refine r_iconst (pc := 4) C dX5_isTold_4 ?_
  refine r_istore_n (pc := 5) C dX5_isTold_5 rfl (by decide) [1, 2, 3, 0] (lv' := [(0, .ref (gA g 41)), (1, .int (iI ((s : Int)))), (2, .int (iI ((t : Int)))), (3, .int (iI (1)))]) rfl ?_
  refine r_iconst (pc := 6) C dX5_isTold_6 ?_
  refine r_istore (pc := 7) C dX5_isTold_7 (by decide) [1, 2, 3, 4, 0] (lv' := [(0, .ref (gA g 41)), (1, .int (iI ((s : Int)))), (2, .int (iI ((t : Int)))), (3, .int (iI (1))), (4, .int (iI (0)))]) rfl ?_
  have L9 : ∀ (n_ : Nat) (i : Nat) (k : Int) (x9_4 : Int) (s9 : Sg), 40 - i < n_ → ((i ≤ 40 ∧ (i : Int) ≤ len) ∧ (k = 0 ∨ k = 1)) → (s9 42 = mkS (dsM 255 i ρ)) → (s9 45 = mkS ρ) → (∀ c, (c ≠ 42 ∧ c ≠ 44 ∧ c ≠ 45 ∧ c ≠ 47 ∧ c ≠ 48 ∧ c ≠ 53) → s9 c = σ c) → (tlG (ρ 0 7) (ρ 0 8) (ρ 0 9) (ρ 3) (ρ 4) (ρ 1, ρ 5, ρ 6) t N len = if k = 1 then tld N len (fun i => (daysC (ρ 0 7) (ρ 0 8) (ρ 0 9) (ρ 3) (ρ 4) 255 i (ρ 1, ρ 5, ρ 6)).2.1 t) (41 - i) i else false) → x9_4 = (i : Int) → J g E (pM (b01 (tlG (ρ 0 7) (ρ 0 8) (ρ 0 9) (ρ 3) (ρ 4) (ρ 1, ρ 5, ρ 6) t N len = true)) ρ σ) 6 9 [(0, .ref (gA g 41)), (1, .int (iI ((s : Int)))), (2, .int (iI ((t : Int)))), (3, .int (iI (k))), (4, .int (iI (x9_4)))] [] s9 := by
    intro n_
    induction n_ with
    | zero => intro i k x9_4 s9 hm_; exact absurd hm_ (Nat.not_lt_zero _)
    | succ n_ ih9 =>
      intro i k x9_4 s9 hm9 hi9_0 hi9_1 hi9_2 hi9_3 hi9_4 e9_0 
      subst e9_0 
      refine r_iload (pc := 9) C dX5_isTold_9 4 rfl ?_
      refine r_aload_n (pc := 11) C dX5_isTold_11 rfl 0 rfl ?_
      refine r_getR5 (pc := 12) C 16 (k' := 51) rfl O_41 (by decide) rfl t_796 dX5_isTold_12 ?_
      refine r_iload_n (pc := 15) C dX5_isTold_15 rfl 1 rfl ?_
      refine r_iald (pc := 16) C s A_51 (by omega) (by omega) dX5_isTold_16 ?_
      refine r_top (show s9 51 s = len from (congrFun (hi9_3 51 (by decide)) s).trans hlen) ?_
      refine r_icmp_ge (pc := 17) C 71 ⟨by omega, by omega⟩ ⟨by omega, by omega⟩ dX5_isTold_17 (by decide) (fun h17 => ?_) (fun h17 => ?_)
      · skip
        refine r_aload_n (pc := 71) C dX5_isTold_71 rfl 0 rfl ?_
        refine r_iload_n (pc := 72) C dX5_isTold_72 rfl 3 rfl ?_
        refine r_if_eq (pc := 73) C 80 ⟨by omega, by omega⟩ dX5_isTold_73 (by decide) (fun h73 => ?_) (fun h73 => ?_)
        · skip
          refine r_iconst (pc := 80) C dX5_isTold_80 ?_
          refine r_cVi (pc := 81) C (c_takesBack g 0 s9) yX5_takesBack_w O_41 rfl rfl t_1028 ⟨by decide, by decide⟩ (Nat.le_of_ble_eq_true rfl) rfl dX5_isTold_81 ?_
          refine r_iconst (pc := 84) C dX5_isTold_84 ?_
          refine r_icmp_ne (pc := 85) C 92 ⟨by omega, by omega⟩ ⟨by omega, by omega⟩ dX5_isTold_85 (by decide) (fun h85 => ?_) (fun h85 => ?_)
          · skip
            refine r_iconst (pc := 92) C dX5_isTold_92 ?_
            exact r_retMz (pc := 93) C (Or.inl rfl) (b01_0 (by first | (exfalso; omega; done) | (rw [hi9_4, if_neg (by omega)]; decide))) (((us_s _ _ _).trans (hi9_2))) (fun k hk => (us_n _ _ hk.1).trans (hi9_3 k hk)) dX5_isTold_93
          · skip
            refine r_iconst (pc := 88) C dX5_isTold_88 ?_
            refine r_goto (pc := 89) C 93 dX5_isTold_89 (by decide) ?_
            exact r_retMz (pc := 93) C (Or.inr rfl) (b01_1 (by first | (exfalso; omega; done) | (rw [hi9_4, if_pos (by omega), show 41 - i = 41 - (i + 1) + 1 by omega, tld, if_neg (by omega)]))) (((us_s _ _ _).trans (hi9_2))) (fun k hk => (us_n _ _ hk.1).trans (hi9_3 k hk)) dX5_isTold_93
        · skip
          refine r_iconst (pc := 76) C dX5_isTold_76 ?_
          refine r_goto (pc := 77) C 81 dX5_isTold_77 (by decide) ?_
          refine r_cVi (pc := 81) C (c_takesBack g 1 s9) yX5_takesBack_w O_41 rfl rfl t_1028 ⟨by decide, by decide⟩ (Nat.le_of_ble_eq_true rfl) rfl dX5_isTold_81 ?_
          refine r_iconst (pc := 84) C dX5_isTold_84 ?_
          refine r_icmp_ne (pc := 85) C 92 ⟨by omega, by omega⟩ ⟨by omega, by omega⟩ dX5_isTold_85 (by decide) (fun h85 => ?_) (fun h85 => ?_)
          · skip
            refine r_iconst (pc := 92) C dX5_isTold_92 ?_
            exact r_retMz (pc := 93) C (Or.inl rfl) (b01_0 (by first | (exfalso; omega; done) | (rw [hi9_4, if_neg (by omega)]; decide))) (((us_s _ _ _).trans (hi9_2))) (fun k hk => (us_n _ _ hk.1).trans (hi9_3 k hk)) dX5_isTold_93
          · skip
            refine r_iconst (pc := 88) C dX5_isTold_88 ?_
            refine r_goto (pc := 89) C 93 dX5_isTold_89 (by decide) ?_
            exact r_retMz (pc := 93) C (Or.inr rfl) (b01_1 (by first | (exfalso; omega; done) | (rw [hi9_4, if_pos (by omega), show 41 - i = 41 - (i + 1) + 1 by omega, tld, if_neg (by omega)]))) (((us_s _ _ _).trans (hi9_2))) (fun k hk => (us_n _ _ hk.1).trans (hi9_3 k hk)) dX5_isTold_93
      · skip
        refine r_iload_n (pc := 20) C dX5_isTold_20 rfl 3 rfl ?_
        refine r_if_eq (pc := 21) C 71 ⟨by omega, by omega⟩ dX5_isTold_21 (by decide) (fun h21 => ?_) (fun h21 => ?_)
        · skip
          refine r_aload_n (pc := 71) C dX5_isTold_71 rfl 0 rfl ?_
          refine r_iload_n (pc := 72) C dX5_isTold_72 rfl 3 rfl ?_
          refine r_if_eq (pc := 73) C 80 ⟨by omega, by omega⟩ dX5_isTold_73 (by decide) (fun h73 => ?_) (fun h73 => ?_)
          · skip
            refine r_iconst (pc := 80) C dX5_isTold_80 ?_
            refine r_cVi (pc := 81) C (c_takesBack g 0 s9) yX5_takesBack_w O_41 rfl rfl t_1028 ⟨by decide, by decide⟩ (Nat.le_of_ble_eq_true rfl) rfl dX5_isTold_81 ?_
            refine r_iconst (pc := 84) C dX5_isTold_84 ?_
            refine r_icmp_ne (pc := 85) C 92 ⟨by omega, by omega⟩ ⟨by omega, by omega⟩ dX5_isTold_85 (by decide) (fun h85 => ?_) (fun h85 => ?_)
            · skip
              refine r_iconst (pc := 92) C dX5_isTold_92 ?_
              exact r_retMz (pc := 93) C (Or.inl rfl) (b01_0 (by first | (exfalso; omega; done) | (rw [hi9_4, if_neg (by omega)]; decide))) (((us_s _ _ _).trans (hi9_2))) (fun k hk => (us_n _ _ hk.1).trans (hi9_3 k hk)) dX5_isTold_93
            · skip
              refine r_iconst (pc := 88) C dX5_isTold_88 ?_
              refine r_goto (pc := 89) C 93 dX5_isTold_89 (by decide) ?_
              exact r_retMz (pc := 93) C (Or.inr rfl) (b01_1 (by first | (exfalso; omega; done) | (rw [hi9_4, if_pos (by omega), show 41 - i = 41 - (i + 1) + 1 by omega, tld, if_neg (by omega)]))) (((us_s _ _ _).trans (hi9_2))) (fun k hk => (us_n _ _ hk.1).trans (hi9_3 k hk)) dX5_isTold_93
          · skip
            refine r_iconst (pc := 76) C dX5_isTold_76 ?_
            refine r_goto (pc := 77) C 81 dX5_isTold_77 (by decide) ?_
            refine r_cVi (pc := 81) C (c_takesBack g 1 s9) yX5_takesBack_w O_41 rfl rfl t_1028 ⟨by decide, by decide⟩ (Nat.le_of_ble_eq_true rfl) rfl dX5_isTold_81 ?_
            refine r_iconst (pc := 84) C dX5_isTold_84 ?_
            refine r_icmp_ne (pc := 85) C 92 ⟨by omega, by omega⟩ ⟨by omega, by omega⟩ dX5_isTold_85 (by decide) (fun h85 => ?_) (fun h85 => ?_)
            · skip
              refine r_iconst (pc := 92) C dX5_isTold_92 ?_
              exact r_retMz (pc := 93) C (Or.inl rfl) (b01_0 (by first | (exfalso; omega; done) | (rw [hi9_4, if_neg (by omega)]; decide))) (((us_s _ _ _).trans (hi9_2))) (fun k hk => (us_n _ _ hk.1).trans (hi9_3 k hk)) dX5_isTold_93
            · skip
              refine r_iconst (pc := 88) C dX5_isTold_88 ?_
              refine r_goto (pc := 89) C 93 dX5_isTold_89 (by decide) ?_
              exact r_retMz (pc := 93) C (Or.inr rfl) (b01_1 (by first | (exfalso; omega; done) | (rw [hi9_4, if_pos (by omega), show 41 - i = 41 - (i + 1) + 1 by omega, tld, if_neg (by omega)]))) (((us_s _ _ _).trans (hi9_2))) (fun k hk => (us_n _ _ hk.1).trans (hi9_3 k hk)) dX5_isTold_93
        · skip
          refine r_aload_n (pc := 24) C dX5_isTold_24 rfl 0 rfl ?_
          refine r_getR5 (pc := 25) C 17 (k' := 52) rfl O_41 (by decide) rfl t_797 dX5_isTold_25 ?_
          refine r_bipush (pc := 28) C dX5_isTold_28 (by decide) ?_
          refine r_iload_n (pc := 30) C dX5_isTold_30 rfl 1 rfl ?_
          refine r_imul (pc := 31) C dX5_isTold_31 ?_
          refine r_iload (pc := 32) C dX5_isTold_32 4 rfl ?_
          refine r_iadd (pc := 34) C dX5_isTold_34 ?_
          refine r_iald (pc := 35) C (40 * s + i) A_52 (by omega) (by omega) dX5_isTold_35 ?_
          refine r_top (show s9 52 (40 * s + i) = N i from (congrFun (hi9_3 52 (by decide)) _).trans (hN i (by omega))) ?_
          have hr := hNr i (by omega)
          have hr1 := hr.1; have hr2 := hr.2
          refine r_istore (pc := 36) C dX5_isTold_36 (by decide) [1, 2, 3, 4, 5, 0] (lv' := [(0, .ref (gA g 41)), (1, .int (iI ((s : Int)))), (2, .int (iI ((t : Int)))), (3, .int (iI (k))), (4, .int (iI ((i : Int)))), (5, .int (iI (N i)))]) rfl ?_
          refine r_iload (pc := 38) C dX5_isTold_38 5 rfl ?_
          refine r_iconst (pc := 40) C dX5_isTold_40 ?_
          refine r_icmp_eq (pc := 41) C 55 ⟨by omega, by omega⟩ ⟨by omega, by omega⟩ dX5_isTold_41 (by decide) (fun h41 => ?_) (fun h41 => ?_)
          · skip
            refine r_iconst (pc := 55) C dX5_isTold_55 ?_
            refine r_goto (pc := 56) C 60 dX5_isTold_56 (by decide) ?_
            refine r_istore_n (pc := 60) C dX5_isTold_60 rfl (by decide) [1, 2, 3, 0, 4, 5] (lv' := [(0, .ref (gA g 41)), (1, .int (iI ((s : Int)))), (2, .int (iI ((t : Int)))), (3, .int (iI (1))), (4, .int (iI ((i : Int)))), (5, .int (iI (N i)))]) rfl ?_
            refine r_aload_n (pc := 61) C dX5_isTold_61 rfl 0 rfl ?_
            refine r_cVd (pc := 62) C (c_day g 255 ⟨by decide, by decide⟩ (dsM 255 i ρ) s9 hi9_1 (dsM_RM hR i) ((congrFun (hi9_3 41 (by decide)) 6).trans h6)) yX5_day_w O_41 rfl rfl t_972 ⟨by decide, by decide⟩ (Nat.le_of_ble_eq_true rfl) rfl dX5_isTold_62 (fun s62 hm62_ hT62 => ?_)
            refine r_iinc (pc := 65) C dX5_isTold_65 4 rfl (by decide) [1, 2, 3, 4, 0, 5] (lv' := [(0, .ref (gA g 41)), (1, .int (iI ((s : Int)))), (2, .int (iI ((t : Int)))), (3, .int (iI (1))), (4, .int (iI ((i : Int) + 1))), (5, .int (iI (N i)))]) rfl ?_
            refine r_goto (pc := 68) C 9 dX5_isTold_68 (by decide) ?_
            refine r_lv [0, 1, 2, 3, 4] (lv' := [(0, .ref (gA g 41)), (1, .int (iI ((s : Int)))), (2, .int (iI ((t : Int)))), (3, .int (iI (1))), (4, .int (iI ((i : Int) + 1)))]) rfl ?_
            exact ih9 (i + 1) _ _ _ (by omega) (by omega) (by exact hm62_) (by exact (hT62 45 (by decide) (by decide)).trans hi9_2) (by exact fun c hc => (hT62 c hc.1 hc.2.2.2.1).trans (hi9_3 c hc)) (by rw [hi9_4, if_pos (by omega), show 41 - i = 41 - (i + 1) + 1 by omega, tld, if_pos (by omega)]; first | (rw [if_pos (by omega), if_pos (by omega)]; done) | (rw [if_neg (by omega), if_neg (by omega)]; done)) (by omega)
          · skip
            refine r_iload (pc := 44) C dX5_isTold_44 5 rfl ?_
            refine r_aload_n (pc := 46) C dX5_isTold_46 rfl 0 rfl ?_
            refine r_iload_n (pc := 47) C dX5_isTold_47 rfl 2 rfl ?_
            refine r_iconst (pc := 48) C dX5_isTold_48 ?_
            refine r_cVi (pc := 49) C (c_its_2 g t (by omega) (dsM 255 i ρ) s9 hi9_1) yX5_its_w O_41 rfl rfl t_875 ⟨by decide, by decide⟩ (Nat.le_of_ble_eq_true rfl) rfl dX5_isTold_49 ?_
            have hg1 := (dsM_RM (m := 255) hR i).2.2.2.2.2.2.1 t ht
            rw [dsM_G] at hg1
            refine r_top (show _ = (daysC (ρ 0 7) (ρ 0 8) (ρ 0 9) (ρ 3) (ρ 4) 255 i (ρ 1, ρ 5, ρ 6)).2.1 t by rw [dsM_G]) ?_
            skip
            refine r_icmp_ne (pc := 52) C 59 ⟨by omega, by omega⟩ ⟨by omega, by omega⟩ dX5_isTold_52 (by decide) (fun h52 => ?_) (fun h52 => ?_)
            · skip
              refine r_iconst (pc := 59) C dX5_isTold_59 ?_
              refine r_istore_n (pc := 60) C dX5_isTold_60 rfl (by decide) [1, 2, 3, 0, 4, 5] (lv' := [(0, .ref (gA g 41)), (1, .int (iI ((s : Int)))), (2, .int (iI ((t : Int)))), (3, .int (iI (0))), (4, .int (iI ((i : Int)))), (5, .int (iI (N i)))]) rfl ?_
              refine r_aload_n (pc := 61) C dX5_isTold_61 rfl 0 rfl ?_
              refine r_cVd (pc := 62) C (c_day g 255 ⟨by decide, by decide⟩ (dsM 255 i ρ) s9 hi9_1 (dsM_RM hR i) ((congrFun (hi9_3 41 (by decide)) 6).trans h6)) yX5_day_w O_41 rfl rfl t_972 ⟨by decide, by decide⟩ (Nat.le_of_ble_eq_true rfl) rfl dX5_isTold_62 (fun s62 hm62_ hT62 => ?_)
              refine r_iinc (pc := 65) C dX5_isTold_65 4 rfl (by decide) [1, 2, 3, 4, 0, 5] (lv' := [(0, .ref (gA g 41)), (1, .int (iI ((s : Int)))), (2, .int (iI ((t : Int)))), (3, .int (iI (0))), (4, .int (iI ((i : Int) + 1))), (5, .int (iI (N i)))]) rfl ?_
              refine r_goto (pc := 68) C 9 dX5_isTold_68 (by decide) ?_
              refine r_lv [0, 1, 2, 3, 4] (lv' := [(0, .ref (gA g 41)), (1, .int (iI ((s : Int)))), (2, .int (iI ((t : Int)))), (3, .int (iI (0))), (4, .int (iI ((i : Int) + 1)))]) rfl ?_
              exact ih9 (i + 1) _ _ _ (by omega) (by omega) (by exact hm62_) (by exact (hT62 45 (by decide) (by decide)).trans hi9_2) (by exact fun c hc => (hT62 c hc.1 hc.2.2.2.1).trans (hi9_3 c hc)) (by rw [hi9_4, if_pos (by omega), show 41 - i = 41 - (i + 1) + 1 by omega, tld, if_pos (by omega)]; first | (rw [if_pos (by omega), if_pos (by omega)]; done) | (rw [if_neg (by omega), if_neg (by omega)]; done)) (by omega)
            · skip
              refine r_iconst (pc := 55) C dX5_isTold_55 ?_
              refine r_goto (pc := 56) C 60 dX5_isTold_56 (by decide) ?_
              refine r_istore_n (pc := 60) C dX5_isTold_60 rfl (by decide) [1, 2, 3, 0, 4, 5] (lv' := [(0, .ref (gA g 41)), (1, .int (iI ((s : Int)))), (2, .int (iI ((t : Int)))), (3, .int (iI (1))), (4, .int (iI ((i : Int)))), (5, .int (iI (N i)))]) rfl ?_
              refine r_aload_n (pc := 61) C dX5_isTold_61 rfl 0 rfl ?_
              refine r_cVd (pc := 62) C (c_day g 255 ⟨by decide, by decide⟩ (dsM 255 i ρ) s9 hi9_1 (dsM_RM hR i) ((congrFun (hi9_3 41 (by decide)) 6).trans h6)) yX5_day_w O_41 rfl rfl t_972 ⟨by decide, by decide⟩ (Nat.le_of_ble_eq_true rfl) rfl dX5_isTold_62 (fun s62 hm62_ hT62 => ?_)
              refine r_iinc (pc := 65) C dX5_isTold_65 4 rfl (by decide) [1, 2, 3, 4, 0, 5] (lv' := [(0, .ref (gA g 41)), (1, .int (iI ((s : Int)))), (2, .int (iI ((t : Int)))), (3, .int (iI (1))), (4, .int (iI ((i : Int) + 1))), (5, .int (iI (N i)))]) rfl ?_
              refine r_goto (pc := 68) C 9 dX5_isTold_68 (by decide) ?_
              refine r_lv [0, 1, 2, 3, 4] (lv' := [(0, .ref (gA g 41)), (1, .int (iI ((s : Int)))), (2, .int (iI ((t : Int)))), (3, .int (iI (1))), (4, .int (iI ((i : Int) + 1)))]) rfl ?_
              exact ih9 (i + 1) _ _ _ (by omega) (by omega) (by exact hm62_) (by exact (hT62 45 (by decide) (by decide)).trans hi9_2) (by exact fun c hc => (hT62 c hc.1 hc.2.2.2.1).trans (hi9_3 c hc)) (by rw [hi9_4, if_pos (by omega), show 41 - i = 41 - (i + 1) + 1 by omega, tld, if_pos (by omega)]; first | (rw [if_pos (by omega), if_pos (by omega)]; done) | (rw [if_neg (by omega), if_neg (by omega)]; done)) (by omega)
  exact L9 _ 0 1 _ _ (Nat.lt_succ_self _) (by omega) (by exact (us_n _ _ (by decide)).trans hS) (by exact (us_s _ _ _).trans hS) (by exact fun c hc => us_n _ _ hc.2.2.1) (by exact (if_pos rfl).symm) (rfl)
set_option maxHeartbeats 4000000 in
set_option maxRecDepth 100000 in
theorem c_fitsBy_1 (g : Gt) (s t : Nat) (hs : s < 4) (ht : t < 8) (N : Nat → Int) (len : Int) (hl : 0 ≤ len ∧ len ≤ 40) (hNr : ∀ j, j < 40 → rng (N j)) (ρ σ : Sg) (hS : σ 42 = mkS ρ) (hR : RM_ ρ) (h6 : σ 41 6 = 255) (hlen : σ 51 s = len) (hN : ∀ j, j < 40 → σ 52 (40 * s + j) = N j) : Mt g yX5_fitsBy cX5_fitsBy 8 (some FieldType.int) 7 [.ref (gA g 41), .int (iI ((s : Int))), .int (iI ((t : Int))), .int (iI (1)), .int (iI (11))] σ (pM (setF (fun c => tlG (ρ 0 7) (ρ 0 8) (ρ 0 9) (ρ 3) (up (ρ 4) t (c : Int)) (ρ 1, ρ 5, ρ 6) t N len) 12) ρ σ) := by
  refine mt_of (own := RX5) (by decide) rfl (Nat.le_of_ble_eq_true rfl) (fun E C => ?_)
  show J g E (pM (setF (fun c => tlG (ρ 0 7) (ρ 0 8) (ρ 0 9) (ρ 3) (up (ρ 4) t (c : Int)) (ρ 1, ρ 5, ρ 6) t N len) 12) ρ σ) 8 0 [(0, .ref (gA g 41)), (1, .int (iI ((s : Int)))), (2, .int (iI ((t : Int)))), (3, .int (iI (1))), (4, .int (iI (11)))] [] σ
  refine r_aload_n (pc := 0) C dX5_fitsBy_0 rfl 0 rfl ?_
  refine r_iload_n (pc := 1) C dX5_fitsBy_1 rfl 2 rfl ?_
  refine r_iload_n (pc := 2) C dX5_fitsBy_2 rfl 3 rfl ?_
  refine r_cVi (pc := 3) C (c_its_1 g t (by omega) ρ σ hS) yX5_its_w O_41 rfl rfl t_875 ⟨by decide, by decide⟩ (Nat.le_of_ble_eq_true rfl) rfl dX5_fitsBy_3 ?_
  refine r_istore (pc := 6) C dX5_fitsBy_6 (by decide) [1, 2, 3, 4, 5, 0] (lv' := [(0, .ref (gA g 41)), (1, .int (iI ((s : Int)))), (2, .int (iI ((t : Int)))), (3, .int (iI (1))), (4, .int (iI (11))), (5, .int (iI (ρ 4 t)))]) rfl ?_
  refine r_iconst (pc := 8) C dX5_fitsBy_8 ?_
  refine r_istore (pc := 9) C dX5_fitsBy_9 (by decide) [1, 2, 3, 4, 5, 6, 0] (lv' := [(0, .ref (gA g 41)), (1, .int (iI ((s : Int)))), (2, .int (iI ((t : Int)))), (3, .int (iI (1))), (4, .int (iI (11))), (5, .int (iI (ρ 4 t))), (6, .int (iI (0)))]) rfl ?_
  refine r_iconst (pc := 11) C dX5_fitsBy_11 ?_
  refine r_istore (pc := 12) C dX5_fitsBy_12 (by decide) [1, 2, 3, 4, 5, 6, 7, 0] (lv' := [(0, .ref (gA g 41)), (1, .int (iI ((s : Int)))), (2, .int (iI ((t : Int)))), (3, .int (iI (1))), (4, .int (iI (11))), (5, .int (iI (ρ 4 t))), (6, .int (iI (0))), (7, .int (iI (0)))]) rfl ?_
  have L14 : ∀ (n_ : Nat) (i : Nat) (v : Int) (x14_6 x14_7 : Int) (s14 : Sg), 12 - i < n_ → (i ≤ 12) → (s14 42 = mkS (wr ρ 4 t v)) → (∀ c, (c ≠ 42 ∧ c ≠ 44 ∧ c ≠ 45 ∧ c ≠ 47 ∧ c ≠ 48 ∧ c ≠ 53) → s14 c = σ c) → x14_6 = setF (fun c => tlG (ρ 0 7) (ρ 0 8) (ρ 0 9) (ρ 3) (up (ρ 4) t (c : Int)) (ρ 1, ρ 5, ρ 6) t N len) i → x14_7 = (i : Int) → J g E (pM (setF (fun c => tlG (ρ 0 7) (ρ 0 8) (ρ 0 9) (ρ 3) (up (ρ 4) t (c : Int)) (ρ 1, ρ 5, ρ 6) t N len) 12) ρ σ) 8 14 [(0, .ref (gA g 41)), (1, .int (iI ((s : Int)))), (2, .int (iI ((t : Int)))), (3, .int (iI (1))), (4, .int (iI (11))), (5, .int (iI (ρ 4 t))), (6, .int (iI (x14_6))), (7, .int (iI (x14_7)))] [] s14 := by
    intro n_
    induction n_ with
    | zero => intro i v x14_6 x14_7 s14 hm_; exact absurd hm_ (Nat.not_lt_zero _)
    | succ n_ ih14 =>
      intro i v x14_6 x14_7 s14 hm14 hi14_0 hi14_1 hi14_2 e14_0 e14_1 
      subst e14_0 e14_1 
      refine r_iload (pc := 14) C dX5_fitsBy_14 7 rfl ?_
      refine r_iload (pc := 16) C dX5_fitsBy_16 4 rfl ?_
      refine r_icmp_gt (pc := 18) C 61 ⟨by omega, by omega⟩ ⟨by omega, by omega⟩ dX5_fitsBy_18 (by decide) (fun h18 => ?_) (fun h18 => ?_)
      · skip
        refine r_aload_n (pc := 61) C dX5_fitsBy_61 rfl 0 rfl ?_
        refine r_getR5 (pc := 62) C 0 (k' := 42) rfl O_41 (by decide) rfl t_780 dX5_fitsBy_62 ?_
        refine r_iload_n (pc := 65) C dX5_fitsBy_65 rfl 2 rfl ?_
        refine r_iload_n (pc := 66) C dX5_fitsBy_66 rfl 3 rfl ?_
        refine r_cSi (pc := 67) C (c_place g (t : Int) 1 s14) yX5_place_w rfl t_879 ⟨by decide, by decide⟩ (Nat.le_of_ble_eq_true rfl) rfl dX5_fitsBy_67 ?_
        refine r_iload (pc := 70) C dX5_fitsBy_70 5 rfl ?_
        refine r_iast (pc := 72) C (18 + 3 * t) A_42 (by omega) (by omega) dX5_fitsBy_72 ?_
        refine r_sg (wrS hi14_1 (cidx_A (by omega))) ?_
        refine r_iload (pc := 73) C dX5_fitsBy_73 6 rfl ?_
        exact r_retM (pc := 75) C (by rw [show i = 12 by omega]) ((us_s _ _ _).trans (congrArg mkS (wr_back _ _ _ _))) (fun k hk => (us_n _ _ hk.1).trans (hi14_2 k hk)) dX5_fitsBy_75
      · skip
        refine r_aload_n (pc := 21) C dX5_fitsBy_21 rfl 0 rfl ?_
        refine r_getR5 (pc := 22) C 0 (k' := 42) rfl O_41 (by decide) rfl t_780 dX5_fitsBy_22 ?_
        refine r_iload_n (pc := 25) C dX5_fitsBy_25 rfl 2 rfl ?_
        refine r_iload_n (pc := 26) C dX5_fitsBy_26 rfl 3 rfl ?_
        refine r_cSi (pc := 27) C (c_place g (t : Int) 1 s14) yX5_place_w rfl t_879 ⟨by decide, by decide⟩ (Nat.le_of_ble_eq_true rfl) rfl dX5_fitsBy_27 ?_
        refine r_iload (pc := 30) C dX5_fitsBy_30 7 rfl ?_
        refine r_iast (pc := 32) C (18 + 3 * t) A_42 (by omega) (by omega) dX5_fitsBy_32 ?_
        refine r_sg (wrS hi14_1 (cidx_A (by omega))) ?_
        refine r_sg (congrArg (fun q => us s14 42 (mkS q)) (wr_wr _ _ _ _ _)) ?_
        refine r_iload (pc := 33) C dX5_fitsBy_33 6 rfl ?_
        refine r_aload_n (pc := 35) C dX5_fitsBy_35 rfl 0 rfl ?_
        refine r_iload_n (pc := 36) C dX5_fitsBy_36 rfl 1 rfl ?_
        refine r_iload_n (pc := 37) C dX5_fitsBy_37 rfl 2 rfl ?_
        refine r_cVm (pc := 38) C (c_isTold g s t hs ht N len hl hNr (wr ρ 4 t (i : Int)) (us s14 42 (mkS (wr ρ 4 t (i : Int)))) (us_s _ _ _) (RMw4 hR (by omega)) ((us_o2 _ _ _ (by decide)).trans ((congrFun (hi14_2 41 (by decide)) 6).trans h6)) ((congrFun ((us_n _ _ (by decide)).trans (hi14_2 51 (by decide))) s).trans hlen) (fun j hj => (congrFun ((us_n _ _ (by decide)).trans (hi14_2 52 (by decide))) _).trans (hN j hj))) yX5_isTold_w O_41 rfl rfl t_1132 ⟨by decide, by decide⟩ (Nat.le_of_ble_eq_true rfl) rfl dX5_fitsBy_38 (fun s38 hm38_ hT38 => ?_)
        refine r_top (show _ = b01 (tlG (ρ 0 7) (ρ 0 8) (ρ 0 9) (ρ 3) (up (ρ 4) t (i : Int)) (ρ 1, ρ 5, ρ 6) t N len = true) from rfl) ?_
        refine r_ifz_eq (pc := 41) C 51 dX5_fitsBy_41 (by decide) (fun h41 => ?_) (fun h41 => ?_)
        · skip
          refine r_iconst (pc := 51) C dX5_fitsBy_51 ?_
          refine r_ior (pc := 52) C dX5_fitsBy_52 ?_
          refine r_istore (pc := 53) C dX5_fitsBy_53 (by decide) [1, 2, 3, 4, 5, 6, 0, 7] (lv' := [(0, .ref (gA g 41)), (1, .int (iI ((s : Int)))), (2, .int (iI ((t : Int)))), (3, .int (iI (1))), (4, .int (iI (11))), (5, .int (iI (ρ 4 t))), (6, .int (iI (bor (setF (fun c => tlG (ρ 0 7) (ρ 0 8) (ρ 0 9) (ρ 3) (up (ρ 4) t (c : Int)) (ρ 1, ρ 5, ρ 6) t N len) i) 0))), (7, .int (iI ((i : Int))))]) rfl ?_
          refine r_iinc (pc := 55) C dX5_fitsBy_55 7 rfl (by decide) [1, 2, 3, 4, 5, 6, 7, 0] (lv' := [(0, .ref (gA g 41)), (1, .int (iI ((s : Int)))), (2, .int (iI ((t : Int)))), (3, .int (iI (1))), (4, .int (iI (11))), (5, .int (iI (ρ 4 t))), (6, .int (iI (bor (setF (fun c => tlG (ρ 0 7) (ρ 0 8) (ρ 0 9) (ρ 3) (up (ρ 4) t (c : Int)) (ρ 1, ρ 5, ρ 6) t N len) i) 0))), (7, .int (iI ((i : Int) + 1)))]) rfl ?_
          refine r_goto (pc := 58) C 14 dX5_fitsBy_58 (by decide) ?_
          exact ih14 (i + 1) (i : Int) _ _ _ (by omega) (by omega) (by exact hm38_) (by exact fun c hc => (hT38 c hc).trans ((us_n _ _ hc.1).trans (hi14_2 c hc))) (by first | rw [setF, if_pos h41] | (rw [setF, if_neg h41]; exact bor_0 (setF_rng _ _))) (by omega)
        · skip
          refine r_iconst (pc := 44) C dX5_fitsBy_44 ?_
          refine r_iload (pc := 45) C dX5_fitsBy_45 7 rfl ?_
          refine r_ishl (pc := 47) C dX5_fitsBy_47 ?_
          refine r_goto (pc := 48) C 52 dX5_fitsBy_48 (by decide) ?_
          refine r_ior (pc := 52) C dX5_fitsBy_52 ?_
          refine r_istore (pc := 53) C dX5_fitsBy_53 (by decide) [1, 2, 3, 4, 5, 6, 0, 7] (lv' := [(0, .ref (gA g 41)), (1, .int (iI ((s : Int)))), (2, .int (iI ((t : Int)))), (3, .int (iI (1))), (4, .int (iI (11))), (5, .int (iI (ρ 4 t))), (6, .int (iI (bor (setF (fun c => tlG (ρ 0 7) (ρ 0 8) (ρ 0 9) (ρ 3) (up (ρ 4) t (c : Int)) (ρ 1, ρ 5, ρ 6) t N len) i) (bshl 1 (i : Int))))), (7, .int (iI ((i : Int))))]) rfl ?_
          refine r_iinc (pc := 55) C dX5_fitsBy_55 7 rfl (by decide) [1, 2, 3, 4, 5, 6, 7, 0] (lv' := [(0, .ref (gA g 41)), (1, .int (iI ((s : Int)))), (2, .int (iI ((t : Int)))), (3, .int (iI (1))), (4, .int (iI (11))), (5, .int (iI (ρ 4 t))), (6, .int (iI (bor (setF (fun c => tlG (ρ 0 7) (ρ 0 8) (ρ 0 9) (ρ 3) (up (ρ 4) t (c : Int)) (ρ 1, ρ 5, ρ 6) t N len) i) (bshl 1 (i : Int))))), (7, .int (iI ((i : Int) + 1)))]) rfl ?_
          refine r_goto (pc := 58) C 14 dX5_fitsBy_58 (by decide) ?_
          exact ih14 (i + 1) (i : Int) _ _ _ (by omega) (by omega) (by exact hm38_) (by exact fun c hc => (hT38 c hc).trans ((us_n _ _ hc.1).trans (hi14_2 c hc))) (by first | rw [setF, if_pos h41] | (rw [setF, if_neg h41]; exact bor_0 (setF_rng _ _))) (by omega)
  exact L14 _ 0 (ρ 4 t) _ _ _ (Nat.lt_succ_self _) (by omega) (by rw [wr_idd]; exact hS) (by exact fun _ _ => rfl) (rfl) (rfl)
set_option maxHeartbeats 4000000 in
set_option maxRecDepth 100000 in
theorem c_fitsBy_0 (g : Gt) (s t : Nat) (hs : s < 4) (ht : t < 8) (N : Nat → Int) (len : Int) (hl : 0 ≤ len ∧ len ≤ 40) (hNr : ∀ j, j < 40 → rng (N j)) (ρ σ : Sg) (hS : σ 42 = mkS ρ) (hR : RM_ ρ) (h6 : σ 41 6 = 255) (hlen : σ 51 s = len) (hN : ∀ j, j < 40 → σ 52 (40 * s + j) = N j) : Mt g yX5_fitsBy cX5_fitsBy 8 (some FieldType.int) 7 [.ref (gA g 41), .int (iI ((s : Int))), .int (iI ((t : Int))), .int (iI (0)), .int (iI (6))] σ (pM (setF (fun c => tlG (ρ 0 7) (ρ 0 8) (ρ 0 9) (up (ρ 3) t (c : Int)) (ρ 4) (ρ 1, ρ 5, ρ 6) t N len) 7) ρ σ) := by
  refine mt_of (own := RX5) (by decide) rfl (Nat.le_of_ble_eq_true rfl) (fun E C => ?_)
  show J g E (pM (setF (fun c => tlG (ρ 0 7) (ρ 0 8) (ρ 0 9) (up (ρ 3) t (c : Int)) (ρ 4) (ρ 1, ρ 5, ρ 6) t N len) 7) ρ σ) 8 0 [(0, .ref (gA g 41)), (1, .int (iI ((s : Int)))), (2, .int (iI ((t : Int)))), (3, .int (iI (0))), (4, .int (iI (6)))] [] σ
  refine r_aload_n (pc := 0) C dX5_fitsBy_0 rfl 0 rfl ?_
  refine r_iload_n (pc := 1) C dX5_fitsBy_1 rfl 2 rfl ?_
  refine r_iload_n (pc := 2) C dX5_fitsBy_2 rfl 3 rfl ?_
  refine r_cVi (pc := 3) C (c_its_0 g t (by omega) ρ σ hS) yX5_its_w O_41 rfl rfl t_875 ⟨by decide, by decide⟩ (Nat.le_of_ble_eq_true rfl) rfl dX5_fitsBy_3 ?_
  refine r_istore (pc := 6) C dX5_fitsBy_6 (by decide) [1, 2, 3, 4, 5, 0] (lv' := [(0, .ref (gA g 41)), (1, .int (iI ((s : Int)))), (2, .int (iI ((t : Int)))), (3, .int (iI (0))), (4, .int (iI (6))), (5, .int (iI (ρ 3 t)))]) rfl ?_
  refine r_iconst (pc := 8) C dX5_fitsBy_8 ?_
  refine r_istore (pc := 9) C dX5_fitsBy_9 (by decide) [1, 2, 3, 4, 5, 6, 0] (lv' := [(0, .ref (gA g 41)), (1, .int (iI ((s : Int)))), (2, .int (iI ((t : Int)))), (3, .int (iI (0))), (4, .int (iI (6))), (5, .int (iI (ρ 3 t))), (6, .int (iI (0)))]) rfl ?_
  refine r_iconst (pc := 11) C dX5_fitsBy_11 ?_
  refine r_istore (pc := 12) C dX5_fitsBy_12 (by decide) [1, 2, 3, 4, 5, 6, 7, 0] (lv' := [(0, .ref (gA g 41)), (1, .int (iI ((s : Int)))), (2, .int (iI ((t : Int)))), (3, .int (iI (0))), (4, .int (iI (6))), (5, .int (iI (ρ 3 t))), (6, .int (iI (0))), (7, .int (iI (0)))]) rfl ?_
  have L14 : ∀ (n_ : Nat) (i : Nat) (v : Int) (x14_6 x14_7 : Int) (s14 : Sg), 7 - i < n_ → (i ≤ 7) → (s14 42 = mkS (wr ρ 3 t v)) → (∀ c, (c ≠ 42 ∧ c ≠ 44 ∧ c ≠ 45 ∧ c ≠ 47 ∧ c ≠ 48 ∧ c ≠ 53) → s14 c = σ c) → x14_6 = setF (fun c => tlG (ρ 0 7) (ρ 0 8) (ρ 0 9) (up (ρ 3) t (c : Int)) (ρ 4) (ρ 1, ρ 5, ρ 6) t N len) i → x14_7 = (i : Int) → J g E (pM (setF (fun c => tlG (ρ 0 7) (ρ 0 8) (ρ 0 9) (up (ρ 3) t (c : Int)) (ρ 4) (ρ 1, ρ 5, ρ 6) t N len) 7) ρ σ) 8 14 [(0, .ref (gA g 41)), (1, .int (iI ((s : Int)))), (2, .int (iI ((t : Int)))), (3, .int (iI (0))), (4, .int (iI (6))), (5, .int (iI (ρ 3 t))), (6, .int (iI (x14_6))), (7, .int (iI (x14_7)))] [] s14 := by
    intro n_
    induction n_ with
    | zero => intro i v x14_6 x14_7 s14 hm_; exact absurd hm_ (Nat.not_lt_zero _)
    | succ n_ ih14 =>
      intro i v x14_6 x14_7 s14 hm14 hi14_0 hi14_1 hi14_2 e14_0 e14_1 
      subst e14_0 e14_1 
      refine r_iload (pc := 14) C dX5_fitsBy_14 7 rfl ?_
      refine r_iload (pc := 16) C dX5_fitsBy_16 4 rfl ?_
      refine r_icmp_gt (pc := 18) C 61 ⟨by omega, by omega⟩ ⟨by omega, by omega⟩ dX5_fitsBy_18 (by decide) (fun h18 => ?_) (fun h18 => ?_)
      · skip
        refine r_aload_n (pc := 61) C dX5_fitsBy_61 rfl 0 rfl ?_
        refine r_getR5 (pc := 62) C 0 (k' := 42) rfl O_41 (by decide) rfl t_780 dX5_fitsBy_62 ?_
        refine r_iload_n (pc := 65) C dX5_fitsBy_65 rfl 2 rfl ?_
        refine r_iload_n (pc := 66) C dX5_fitsBy_66 rfl 3 rfl ?_
        refine r_cSi (pc := 67) C (c_place g (t : Int) 0 s14) yX5_place_w rfl t_879 ⟨by decide, by decide⟩ (Nat.le_of_ble_eq_true rfl) rfl dX5_fitsBy_67 ?_
        refine r_iload (pc := 70) C dX5_fitsBy_70 5 rfl ?_
        refine r_iast (pc := 72) C (17 + 3 * t) A_42 (by omega) (by omega) dX5_fitsBy_72 ?_
        refine r_sg (wrS hi14_1 (cidx_K (by omega))) ?_
        refine r_iload (pc := 73) C dX5_fitsBy_73 6 rfl ?_
        exact r_retM (pc := 75) C (by rw [show i = 7 by omega]) ((us_s _ _ _).trans (congrArg mkS (wr_back _ _ _ _))) (fun k hk => (us_n _ _ hk.1).trans (hi14_2 k hk)) dX5_fitsBy_75
      · skip
        refine r_aload_n (pc := 21) C dX5_fitsBy_21 rfl 0 rfl ?_
        refine r_getR5 (pc := 22) C 0 (k' := 42) rfl O_41 (by decide) rfl t_780 dX5_fitsBy_22 ?_
        refine r_iload_n (pc := 25) C dX5_fitsBy_25 rfl 2 rfl ?_
        refine r_iload_n (pc := 26) C dX5_fitsBy_26 rfl 3 rfl ?_
        refine r_cSi (pc := 27) C (c_place g (t : Int) 0 s14) yX5_place_w rfl t_879 ⟨by decide, by decide⟩ (Nat.le_of_ble_eq_true rfl) rfl dX5_fitsBy_27 ?_
        refine r_iload (pc := 30) C dX5_fitsBy_30 7 rfl ?_
        refine r_iast (pc := 32) C (17 + 3 * t) A_42 (by omega) (by omega) dX5_fitsBy_32 ?_
        refine r_sg (wrS hi14_1 (cidx_K (by omega))) ?_
        refine r_sg (congrArg (fun q => us s14 42 (mkS q)) (wr_wr _ _ _ _ _)) ?_
        refine r_iload (pc := 33) C dX5_fitsBy_33 6 rfl ?_
        refine r_aload_n (pc := 35) C dX5_fitsBy_35 rfl 0 rfl ?_
        refine r_iload_n (pc := 36) C dX5_fitsBy_36 rfl 1 rfl ?_
        refine r_iload_n (pc := 37) C dX5_fitsBy_37 rfl 2 rfl ?_
        refine r_cVm (pc := 38) C (c_isTold g s t hs ht N len hl hNr (wr ρ 3 t (i : Int)) (us s14 42 (mkS (wr ρ 3 t (i : Int)))) (us_s _ _ _) (RMw3 hR (by omega)) ((us_o2 _ _ _ (by decide)).trans ((congrFun (hi14_2 41 (by decide)) 6).trans h6)) ((congrFun ((us_n _ _ (by decide)).trans (hi14_2 51 (by decide))) s).trans hlen) (fun j hj => (congrFun ((us_n _ _ (by decide)).trans (hi14_2 52 (by decide))) _).trans (hN j hj))) yX5_isTold_w O_41 rfl rfl t_1132 ⟨by decide, by decide⟩ (Nat.le_of_ble_eq_true rfl) rfl dX5_fitsBy_38 (fun s38 hm38_ hT38 => ?_)
        refine r_top (show _ = b01 (tlG (ρ 0 7) (ρ 0 8) (ρ 0 9) (up (ρ 3) t (i : Int)) (ρ 4) (ρ 1, ρ 5, ρ 6) t N len = true) from rfl) ?_
        refine r_ifz_eq (pc := 41) C 51 dX5_fitsBy_41 (by decide) (fun h41 => ?_) (fun h41 => ?_)
        · skip
          refine r_iconst (pc := 51) C dX5_fitsBy_51 ?_
          refine r_ior (pc := 52) C dX5_fitsBy_52 ?_
          refine r_istore (pc := 53) C dX5_fitsBy_53 (by decide) [1, 2, 3, 4, 5, 6, 0, 7] (lv' := [(0, .ref (gA g 41)), (1, .int (iI ((s : Int)))), (2, .int (iI ((t : Int)))), (3, .int (iI (0))), (4, .int (iI (6))), (5, .int (iI (ρ 3 t))), (6, .int (iI (bor (setF (fun c => tlG (ρ 0 7) (ρ 0 8) (ρ 0 9) (up (ρ 3) t (c : Int)) (ρ 4) (ρ 1, ρ 5, ρ 6) t N len) i) 0))), (7, .int (iI ((i : Int))))]) rfl ?_
          refine r_iinc (pc := 55) C dX5_fitsBy_55 7 rfl (by decide) [1, 2, 3, 4, 5, 6, 7, 0] (lv' := [(0, .ref (gA g 41)), (1, .int (iI ((s : Int)))), (2, .int (iI ((t : Int)))), (3, .int (iI (0))), (4, .int (iI (6))), (5, .int (iI (ρ 3 t))), (6, .int (iI (bor (setF (fun c => tlG (ρ 0 7) (ρ 0 8) (ρ 0 9) (up (ρ 3) t (c : Int)) (ρ 4) (ρ 1, ρ 5, ρ 6) t N len) i) 0))), (7, .int (iI ((i : Int) + 1)))]) rfl ?_
          refine r_goto (pc := 58) C 14 dX5_fitsBy_58 (by decide) ?_
          exact ih14 (i + 1) (i : Int) _ _ _ (by omega) (by omega) (by exact hm38_) (by exact fun c hc => (hT38 c hc).trans ((us_n _ _ hc.1).trans (hi14_2 c hc))) (by first | rw [setF, if_pos h41] | (rw [setF, if_neg h41]; exact bor_0 (setF_rng _ _))) (by omega)
        · skip
          refine r_iconst (pc := 44) C dX5_fitsBy_44 ?_
          refine r_iload (pc := 45) C dX5_fitsBy_45 7 rfl ?_
          refine r_ishl (pc := 47) C dX5_fitsBy_47 ?_
          refine r_goto (pc := 48) C 52 dX5_fitsBy_48 (by decide) ?_
          refine r_ior (pc := 52) C dX5_fitsBy_52 ?_
          refine r_istore (pc := 53) C dX5_fitsBy_53 (by decide) [1, 2, 3, 4, 5, 6, 0, 7] (lv' := [(0, .ref (gA g 41)), (1, .int (iI ((s : Int)))), (2, .int (iI ((t : Int)))), (3, .int (iI (0))), (4, .int (iI (6))), (5, .int (iI (ρ 3 t))), (6, .int (iI (bor (setF (fun c => tlG (ρ 0 7) (ρ 0 8) (ρ 0 9) (up (ρ 3) t (c : Int)) (ρ 4) (ρ 1, ρ 5, ρ 6) t N len) i) (bshl 1 (i : Int))))), (7, .int (iI ((i : Int))))]) rfl ?_
          refine r_iinc (pc := 55) C dX5_fitsBy_55 7 rfl (by decide) [1, 2, 3, 4, 5, 6, 7, 0] (lv' := [(0, .ref (gA g 41)), (1, .int (iI ((s : Int)))), (2, .int (iI ((t : Int)))), (3, .int (iI (0))), (4, .int (iI (6))), (5, .int (iI (ρ 3 t))), (6, .int (iI (bor (setF (fun c => tlG (ρ 0 7) (ρ 0 8) (ρ 0 9) (up (ρ 3) t (c : Int)) (ρ 4) (ρ 1, ρ 5, ρ 6) t N len) i) (bshl 1 (i : Int))))), (7, .int (iI ((i : Int) + 1)))]) rfl ?_
          refine r_goto (pc := 58) C 14 dX5_fitsBy_58 (by decide) ?_
          exact ih14 (i + 1) (i : Int) _ _ _ (by omega) (by omega) (by exact hm38_) (by exact fun c hc => (hT38 c hc).trans ((us_n _ _ hc.1).trans (hi14_2 c hc))) (by first | rw [setF, if_pos h41] | (rw [setF, if_neg h41]; exact bor_0 (setF_rng _ _))) (by omega)
  exact L14 _ 0 (ρ 3 t) _ _ _ (Nat.lt_succ_self _) (by omega) (by rw [wr_idd]; exact hS) (by exact fun _ _ => rfl) (rfl) (rfl)
set_option maxHeartbeats 4000000 in
set_option maxRecDepth 100000 in
theorem c_wrongTold_a (g : Gt) (x y : Int) (h_x : rng x) (h_y : rng y) (hx : ¬ (0 ≤ x ∧ x < 4)) (ρ σ : Sg) (hS : σ 42 = mkS ρ) : Mt g yX5_wrongTold cX5_wrongTold 4 (some FieldType.int) 3 [.ref (gA g 41), .int (iI (x)), .int (iI (y))] σ (pI (-1000001) σ) := by
  refine mt_of (own := RX5) (by decide) rfl (Nat.le_of_ble_eq_true rfl) (fun E C => ?_)
  show J g E (pI (-1000001) σ) 4 0 [(0, .ref (gA g 41)), (1, .int (iI (x))), (2, .int (iI (y)))] [] σ
  refine r_aload_n (pc := 0) C dX5_wrongTold_0 rfl 0 rfl ?_
  refine r_iload_n (pc := 1) C dX5_wrongTold_1 rfl 1 rfl ?_
  refine r_cVi (pc := 2) C (c_wrong_a g x h_x hx σ) yX5_wrong_w O_41 rfl rfl t_1120 ⟨by decide, by decide⟩ (Nat.le_of_ble_eq_true rfl) rfl dX5_wrongTold_2 ?_
  refine r_istore_n (pc := 5) C dX5_wrongTold_5 rfl (by decide) [1, 2, 3, 0] (lv' := [(0, .ref (gA g 41)), (1, .int (iI (x))), (2, .int (iI (y))), (3, .int (iI ((-1000001))))]) rfl ?_
  refine r_iload_n (pc := 6) C dX5_wrongTold_6 rfl 3 rfl ?_
  refine r_if_eq (pc := 7) C 14 ⟨by omega, by omega⟩ dX5_wrongTold_7 (by decide) (fun h7 => ?_) (fun h7 => ?_)
  · skip
    omega
  · skip
    refine r_iload_n (pc := 10) C dX5_wrongTold_10 rfl 3 rfl ?_
    refine r_goto (pc := 11) C 28 dX5_wrongTold_11 (by decide) ?_
    exact r_reti (pc := 28) C (rfl) (rfl) dX5_wrongTold_28
set_option maxHeartbeats 4000000 in
set_option maxRecDepth 100000 in
theorem c_wrongTold_b (g : Gt) (x y : Int) (h_x : rng x) (h_y : rng y) (hx : 0 ≤ x ∧ x < 4) (ρ σ : Sg) (hS : σ 42 = mkS ρ) (hB : σ 50 x.toNat = 0) : Mt g yX5_wrongTold cX5_wrongTold 4 (some FieldType.int) 3 [.ref (gA g 41), .int (iI (x)), .int (iI (y))] σ (pI (-1000006) σ) := by
  refine mt_of (own := RX5) (by decide) rfl (Nat.le_of_ble_eq_true rfl) (fun E C => ?_)
  show J g E (pI (-1000006) σ) 4 0 [(0, .ref (gA g 41)), (1, .int (iI (x))), (2, .int (iI (y)))] [] σ
  refine r_aload_n (pc := 0) C dX5_wrongTold_0 rfl 0 rfl ?_
  refine r_iload_n (pc := 1) C dX5_wrongTold_1 rfl 1 rfl ?_
  refine r_cVi (pc := 2) C (c_wrong_b g x.toNat (by omega) σ hB) yX5_wrong_w O_41 rfl rfl t_1120 ⟨by decide, by decide⟩ (Nat.le_of_ble_eq_true rfl) (by rw [show ((x.toNat : Nat) : Int) = x by omega]; rfl) dX5_wrongTold_2 ?_
  refine r_istore_n (pc := 5) C dX5_wrongTold_5 rfl (by decide) [1, 2, 3, 0] (lv' := [(0, .ref (gA g 41)), (1, .int (iI (x))), (2, .int (iI (y))), (3, .int (iI ((-1000006))))]) rfl ?_
  refine r_iload_n (pc := 6) C dX5_wrongTold_6 rfl 3 rfl ?_
  refine r_if_eq (pc := 7) C 14 ⟨by omega, by omega⟩ dX5_wrongTold_7 (by decide) (fun h7 => ?_) (fun h7 => ?_)
  · skip
    omega
  · skip
    refine r_iload_n (pc := 10) C dX5_wrongTold_10 rfl 3 rfl ?_
    refine r_goto (pc := 11) C 28 dX5_wrongTold_11 (by decide) ?_
    exact r_reti (pc := 28) C (rfl) (rfl) dX5_wrongTold_28
set_option maxHeartbeats 4000000 in
set_option maxRecDepth 100000 in
theorem c_wrongTold_c (g : Gt) (x y : Int) (h_x : rng x) (h_y : rng y) (hx : 0 ≤ x ∧ x < 4) (ρ σ : Sg) (hS : σ 42 = mkS ρ) (hn : 0 ≤ ρ 0 7 ∧ ρ 0 7 ≤ 8) (hB : ¬ σ 50 x.toNat = 0) (hb : ∀ s, s < 4 → (σ 50 s = 0 ∨ σ 50 s = 8 ∨ σ 50 s = 16 ∨ σ 50 s = 32) ∧ 0 ≤ σ 51 s ∧ σ 51 s ≤ 40) (hy : ¬ (0 ≤ y ∧ y < ρ 0 7)) : Mt g yX5_wrongTold cX5_wrongTold 4 (some FieldType.int) 3 [.ref (gA g 41), .int (iI (x)), .int (iI (y))] σ (pI (-1000001) σ) := by
  refine mt_of (own := RX5) (by decide) rfl (Nat.le_of_ble_eq_true rfl) (fun E C => ?_)
  show J g E (pI (-1000001) σ) 4 0 [(0, .ref (gA g 41)), (1, .int (iI (x))), (2, .int (iI (y)))] [] σ
  refine r_aload_n (pc := 0) C dX5_wrongTold_0 rfl 0 rfl ?_
  refine r_iload_n (pc := 1) C dX5_wrongTold_1 rfl 1 rfl ?_
  refine r_cVi (pc := 2) C (c_wrong_c g x.toNat (by omega) σ hB ⟨by have := (hb x.toNat (by omega)).1; omega, by have := (hb x.toNat (by omega)).1; omega⟩) yX5_wrong_w O_41 rfl rfl t_1120 ⟨by decide, by decide⟩ (Nat.le_of_ble_eq_true rfl) (by rw [show ((x.toNat : Nat) : Int) = x by omega]; rfl) dX5_wrongTold_2 ?_
  refine r_istore_n (pc := 5) C dX5_wrongTold_5 rfl (by decide) [1, 2, 3, 0] (lv' := [(0, .ref (gA g 41)), (1, .int (iI (x))), (2, .int (iI (y))), (3, .int (iI (0)))]) rfl ?_
  refine r_iload_n (pc := 6) C dX5_wrongTold_6 rfl 3 rfl ?_
  refine r_if_eq (pc := 7) C 14 ⟨by omega, by omega⟩ dX5_wrongTold_7 (by decide) (fun h7 => ?_) (fun h7 => ?_)
  · skip
    refine r_aload_n (pc := 14) C dX5_wrongTold_14 rfl 0 rfl ?_
    refine r_iload_n (pc := 15) C dX5_wrongTold_15 rfl 2 rfl ?_
    refine r_cVi (pc := 16) C (c_m_isTenant g y h_y ρ σ hS hn) yX5_isTenant_w O_41 rfl rfl t_905 ⟨by decide, by decide⟩ (Nat.le_of_ble_eq_true rfl) rfl dX5_wrongTold_16 ?_
    refine r_ifz_eq (pc := 19) C 26 dX5_wrongTold_19 (by decide) (fun h19 => ?_) (fun h19 => ?_)
    · skip
      refine r_ldc (pc := 26) C (-1000001) t_854 (by decide) dX5_wrongTold_26 ?_
      exact r_reti (pc := 28) C (rfl) (rfl) dX5_wrongTold_28
    · skip
      omega
  · skip
    omega
set_option maxHeartbeats 4000000 in
set_option maxRecDepth 100000 in
theorem c_wrongTold_d (g : Gt) (x y : Int) (h_x : rng x) (h_y : rng y) (hx : 0 ≤ x ∧ x < 4) (ρ σ : Sg) (hS : σ 42 = mkS ρ) (hn : 0 ≤ ρ 0 7 ∧ ρ 0 7 ≤ 8) (hB : ¬ σ 50 x.toNat = 0) (hb : ∀ s, s < 4 → (σ 50 s = 0 ∨ σ 50 s = 8 ∨ σ 50 s = 16 ∨ σ 50 s = 32) ∧ 0 ≤ σ 51 s ∧ σ 51 s ≤ 40) (hy : 0 ≤ y ∧ y < ρ 0 7) : Mt g yX5_wrongTold cX5_wrongTold 4 (some FieldType.int) 3 [.ref (gA g 41), .int (iI (x)), .int (iI (y))] σ (pI (0) σ) := by
  refine mt_of (own := RX5) (by decide) rfl (Nat.le_of_ble_eq_true rfl) (fun E C => ?_)
  show J g E (pI (0) σ) 4 0 [(0, .ref (gA g 41)), (1, .int (iI (x))), (2, .int (iI (y)))] [] σ
  refine r_aload_n (pc := 0) C dX5_wrongTold_0 rfl 0 rfl ?_
  refine r_iload_n (pc := 1) C dX5_wrongTold_1 rfl 1 rfl ?_
  refine r_cVi (pc := 2) C (c_wrong_c g x.toNat (by omega) σ hB ⟨by have := (hb x.toNat (by omega)).1; omega, by have := (hb x.toNat (by omega)).1; omega⟩) yX5_wrong_w O_41 rfl rfl t_1120 ⟨by decide, by decide⟩ (Nat.le_of_ble_eq_true rfl) (by rw [show ((x.toNat : Nat) : Int) = x by omega]; rfl) dX5_wrongTold_2 ?_
  refine r_istore_n (pc := 5) C dX5_wrongTold_5 rfl (by decide) [1, 2, 3, 0] (lv' := [(0, .ref (gA g 41)), (1, .int (iI (x))), (2, .int (iI (y))), (3, .int (iI (0)))]) rfl ?_
  refine r_iload_n (pc := 6) C dX5_wrongTold_6 rfl 3 rfl ?_
  refine r_if_eq (pc := 7) C 14 ⟨by omega, by omega⟩ dX5_wrongTold_7 (by decide) (fun h7 => ?_) (fun h7 => ?_)
  · skip
    refine r_aload_n (pc := 14) C dX5_wrongTold_14 rfl 0 rfl ?_
    refine r_iload_n (pc := 15) C dX5_wrongTold_15 rfl 2 rfl ?_
    refine r_cVi (pc := 16) C (c_m_isTenant g y h_y ρ σ hS hn) yX5_isTenant_w O_41 rfl rfl t_905 ⟨by decide, by decide⟩ (Nat.le_of_ble_eq_true rfl) rfl dX5_wrongTold_16 ?_
    refine r_ifz_eq (pc := 19) C 26 dX5_wrongTold_19 (by decide) (fun h19 => ?_) (fun h19 => ?_)
    · skip
      omega
    · skip
      refine r_iconst (pc := 22) C dX5_wrongTold_22 ?_
      refine r_goto (pc := 23) C 28 dX5_wrongTold_23 (by decide) ?_
      exact r_reti (pc := 28) C (rfl) (rfl) dX5_wrongTold_28
  · skip
    omega
set_option maxHeartbeats 4000000 in
set_option maxRecDepth 100000 in
theorem e_fits_a (g : Gt) (x y : Int) (h_x : rng x) (h_y : rng y) (ρ σ : Sg) (hS : σ 42 = mkS ρ) (hW : RW ρ 0) (hx : ¬ (0 ≤ x ∧ x < 4)) : Mt g yX5_fits cX5_fits 4 (some FieldType.int) 8 [.ref (gA g 41), .int (iI (x)), .int (iI (y))] σ (pM ((-1000001 - ((0 : Nat) : Int))) (ρ) (finM 0 σ)) := by
  obtain ⟨hn, hfl, hw, hdy, hz, hD_, hK_, hA_, hG_, hM_, hP_⟩ := id hW
  have hD : rgD (ρ 1) := hD_
  have hK : rgK (ρ 3) := hK_
  have hA : rgA (ρ 4) := hA_
  have hG : rgG (ρ 5) := hG_
  have hM : rgM (ρ 6) := hM_
  have hP : ∀ j, j < 10 → -1 ≤ ρ 7 j ∧ ρ 7 j < ρ 0 7 := hP_
  have ho_x := h_x.1; have hp_x := h_x.2
  have ho_y := h_y.1; have hp_y := h_y.2
  refine mt_of (own := RX5) (by decide) rfl (Nat.le_of_ble_eq_true rfl) (fun E C => ?_)
  show J g E (pM ((-1000001 - ((0 : Nat) : Int))) (ρ) (finM 0 σ)) 4 0 [(0, .ref (gA g 41)), (1, .int (iI (x))), (2, .int (iI (y)))] [] σ
  refine r_aload_n (pc := 0) C dX5_fits_0 rfl 0 rfl ?_
  refine r_iload_n (pc := 1) C dX5_fits_1 rfl 1 rfl ?_
  refine r_iload_n (pc := 2) C dX5_fits_2 rfl 2 rfl ?_
  refine r_cVi (pc := 3) C (c_wrongTold_a g x y h_x h_y hx ρ σ hS ) yX5_wrongTold_w O_41 rfl rfl t_1116 ⟨by decide, by decide⟩ (Nat.le_of_ble_eq_true rfl) rfl dX5_fits_3 ?_
  refine r_istore_n (pc := 6) C dX5_fits_6 rfl (by decide) [1, 2, 3, 0] (lv' := [(0, .ref (gA g 41)), (1, .int (iI (x))), (2, .int (iI (y))), (3, .int (iI ((-1000001))))]) rfl ?_
  refine r_iload_n (pc := 7) C dX5_fits_7 rfl 3 rfl ?_
  refine r_if_eq (pc := 8) C 19 ⟨by omega, by omega⟩ dX5_fits_8 (by decide) (fun h8 => ?_) (fun h8 => ?_)
  · skip
    omega
  · skip
    refine r_aload_n (pc := 11) C dX5_fits_11 rfl 0 rfl ?_
    refine r_iload_n (pc := 12) C dX5_fits_12 rfl 3 rfl ?_
    refine r_cVi (pc := 13) C (c_finds g 0 (by decide) σ) yX5_finds_w O_41 rfl rfl t_855 ⟨by decide, by decide⟩ (Nat.le_of_ble_eq_true rfl) (by rw [show ((-1000001) : Int) = -1000001 - ((0 : Nat) : Int) by decide]; rfl) dX5_fits_13 ?_
    refine r_goto (pc := 16) C 28 dX5_fits_16 (by decide) ?_
    exact r_retM (pc := 28) C (by first | (exfalso; omega; done) | ((try (first | rw [if_pos (by omega)] | rw [if_neg (by omega)])); (try rfl))) ((((wr_n _ _ _ (by omega)).trans hS)).trans (congrArg mkS (by first | (exfalso; omega; done) | ((try (first | rw [if_pos (by omega)] | rw [if_neg (by omega)])); (try rfl))))) (fun k hk => (rfl).trans (congrFun (by first | (exfalso; omega; done) | ((try (first | rw [if_pos (by omega)] | rw [if_neg (by omega)])); (try rfl))) k)) dX5_fits_28
set_option maxHeartbeats 4000000 in
set_option maxRecDepth 100000 in
theorem e_fits_b (g : Gt) (x y : Int) (h_x : rng x) (h_y : rng y) (ρ σ : Sg) (hS : σ 42 = mkS ρ) (hW : RW ρ 0) (hx : 0 ≤ x ∧ x < 4) (hB : σ 50 x.toNat = 0) : Mt g yX5_fits cX5_fits 4 (some FieldType.int) 8 [.ref (gA g 41), .int (iI (x)), .int (iI (y))] σ (pM ((-1000001 - ((5 : Nat) : Int))) (ρ) (finM 5 σ)) := by
  obtain ⟨hn, hfl, hw, hdy, hz, hD_, hK_, hA_, hG_, hM_, hP_⟩ := id hW
  have hD : rgD (ρ 1) := hD_
  have hK : rgK (ρ 3) := hK_
  have hA : rgA (ρ 4) := hA_
  have hG : rgG (ρ 5) := hG_
  have hM : rgM (ρ 6) := hM_
  have hP : ∀ j, j < 10 → -1 ≤ ρ 7 j ∧ ρ 7 j < ρ 0 7 := hP_
  have ho_x := h_x.1; have hp_x := h_x.2
  have ho_y := h_y.1; have hp_y := h_y.2
  refine mt_of (own := RX5) (by decide) rfl (Nat.le_of_ble_eq_true rfl) (fun E C => ?_)
  show J g E (pM ((-1000001 - ((5 : Nat) : Int))) (ρ) (finM 5 σ)) 4 0 [(0, .ref (gA g 41)), (1, .int (iI (x))), (2, .int (iI (y)))] [] σ
  refine r_aload_n (pc := 0) C dX5_fits_0 rfl 0 rfl ?_
  refine r_iload_n (pc := 1) C dX5_fits_1 rfl 1 rfl ?_
  refine r_iload_n (pc := 2) C dX5_fits_2 rfl 2 rfl ?_
  refine r_cVi (pc := 3) C (c_wrongTold_b g x y h_x h_y hx ρ σ hS hB) yX5_wrongTold_w O_41 rfl rfl t_1116 ⟨by decide, by decide⟩ (Nat.le_of_ble_eq_true rfl) rfl dX5_fits_3 ?_
  refine r_istore_n (pc := 6) C dX5_fits_6 rfl (by decide) [1, 2, 3, 0] (lv' := [(0, .ref (gA g 41)), (1, .int (iI (x))), (2, .int (iI (y))), (3, .int (iI ((-1000006))))]) rfl ?_
  refine r_iload_n (pc := 7) C dX5_fits_7 rfl 3 rfl ?_
  refine r_if_eq (pc := 8) C 19 ⟨by omega, by omega⟩ dX5_fits_8 (by decide) (fun h8 => ?_) (fun h8 => ?_)
  · skip
    omega
  · skip
    refine r_aload_n (pc := 11) C dX5_fits_11 rfl 0 rfl ?_
    refine r_iload_n (pc := 12) C dX5_fits_12 rfl 3 rfl ?_
    refine r_cVi (pc := 13) C (c_finds g 5 (by decide) σ) yX5_finds_w O_41 rfl rfl t_855 ⟨by decide, by decide⟩ (Nat.le_of_ble_eq_true rfl) (by rw [show ((-1000006) : Int) = -1000001 - ((5 : Nat) : Int) by decide]; rfl) dX5_fits_13 ?_
    refine r_goto (pc := 16) C 28 dX5_fits_16 (by decide) ?_
    exact r_retM (pc := 28) C (by first | (exfalso; omega; done) | ((try (first | rw [if_pos (by omega)] | rw [if_neg (by omega)])); (try rfl))) ((((wr_n _ _ _ (by omega)).trans hS)).trans (congrArg mkS (by first | (exfalso; omega; done) | ((try (first | rw [if_pos (by omega)] | rw [if_neg (by omega)])); (try rfl))))) (fun k hk => (rfl).trans (congrFun (by first | (exfalso; omega; done) | ((try (first | rw [if_pos (by omega)] | rw [if_neg (by omega)])); (try rfl))) k)) dX5_fits_28
set_option maxHeartbeats 4000000 in
set_option maxRecDepth 100000 in
theorem e_fits_c (g : Gt) (x y : Int) (h_x : rng x) (h_y : rng y) (ρ σ : Sg) (hS : σ 42 = mkS ρ) (hW : RW ρ 0) (hx : 0 ≤ x ∧ x < 4) (hB : ¬ σ 50 x.toNat = 0) (h6 : σ 41 6 = 255) (hb : ∀ s, s < 4 → (σ 50 s = 0 ∨ σ 50 s = 8 ∨ σ 50 s = 16 ∨ σ 50 s = 32) ∧ 0 ≤ σ 51 s ∧ σ 51 s ≤ 40) (hN : ∀ j, j < 160 → rng (σ 52 j)) (hy : ¬ (0 ≤ y ∧ y < ρ 0 7)) : Mt g yX5_fits cX5_fits 4 (some FieldType.int) 8 [.ref (gA g 41), .int (iI (x)), .int (iI (y))] σ (pM ((-1000001 - ((0 : Nat) : Int))) (ρ) (finM 0 σ)) := by
  obtain ⟨hn, hfl, hw, hdy, hz, hD_, hK_, hA_, hG_, hM_, hP_⟩ := id hW
  have hD : rgD (ρ 1) := hD_
  have hK : rgK (ρ 3) := hK_
  have hA : rgA (ρ 4) := hA_
  have hG : rgG (ρ 5) := hG_
  have hM : rgM (ρ 6) := hM_
  have hP : ∀ j, j < 10 → -1 ≤ ρ 7 j ∧ ρ 7 j < ρ 0 7 := hP_
  have ho_x := h_x.1; have hp_x := h_x.2
  have ho_y := h_y.1; have hp_y := h_y.2
  refine mt_of (own := RX5) (by decide) rfl (Nat.le_of_ble_eq_true rfl) (fun E C => ?_)
  show J g E (pM ((-1000001 - ((0 : Nat) : Int))) (ρ) (finM 0 σ)) 4 0 [(0, .ref (gA g 41)), (1, .int (iI (x))), (2, .int (iI (y)))] [] σ
  refine r_aload_n (pc := 0) C dX5_fits_0 rfl 0 rfl ?_
  refine r_iload_n (pc := 1) C dX5_fits_1 rfl 1 rfl ?_
  refine r_iload_n (pc := 2) C dX5_fits_2 rfl 2 rfl ?_
  refine r_cVi (pc := 3) C (c_wrongTold_c g x y h_x h_y hx ρ σ hS hn hB hb hy) yX5_wrongTold_w O_41 rfl rfl t_1116 ⟨by decide, by decide⟩ (Nat.le_of_ble_eq_true rfl) rfl dX5_fits_3 ?_
  refine r_istore_n (pc := 6) C dX5_fits_6 rfl (by decide) [1, 2, 3, 0] (lv' := [(0, .ref (gA g 41)), (1, .int (iI (x))), (2, .int (iI (y))), (3, .int (iI ((-1000001))))]) rfl ?_
  refine r_iload_n (pc := 7) C dX5_fits_7 rfl 3 rfl ?_
  refine r_if_eq (pc := 8) C 19 ⟨by omega, by omega⟩ dX5_fits_8 (by decide) (fun h8 => ?_) (fun h8 => ?_)
  · skip
    omega
  · skip
    refine r_aload_n (pc := 11) C dX5_fits_11 rfl 0 rfl ?_
    refine r_iload_n (pc := 12) C dX5_fits_12 rfl 3 rfl ?_
    refine r_cVi (pc := 13) C (c_finds g 0 (by decide) σ) yX5_finds_w O_41 rfl rfl t_855 ⟨by decide, by decide⟩ (Nat.le_of_ble_eq_true rfl) (by rw [show ((-1000001) : Int) = -1000001 - ((0 : Nat) : Int) by decide]; rfl) dX5_fits_13 ?_
    refine r_goto (pc := 16) C 28 dX5_fits_16 (by decide) ?_
    exact r_retM (pc := 28) C (by first | (exfalso; omega; done) | ((try (first | rw [if_pos (by omega)] | rw [if_neg (by omega)])); (try rfl))) ((((wr_n _ _ _ (by omega)).trans hS)).trans (congrArg mkS (by first | (exfalso; omega; done) | ((try (first | rw [if_pos (by omega)] | rw [if_neg (by omega)])); (try rfl))))) (fun k hk => (rfl).trans (congrFun (by first | (exfalso; omega; done) | ((try (first | rw [if_pos (by omega)] | rw [if_neg (by omega)])); (try rfl))) k)) dX5_fits_28
set_option maxHeartbeats 4000000 in
set_option maxRecDepth 100000 in
theorem e_fits_d (g : Gt) (x y : Int) (h_x : rng x) (h_y : rng y) (ρ σ : Sg) (hS : σ 42 = mkS ρ) (hW : RW ρ 0) (hx : 0 ≤ x ∧ x < 4) (hB : ¬ σ 50 x.toNat = 0) (h6 : σ 41 6 = 255) (hb : ∀ s, s < 4 → (σ 50 s = 0 ∨ σ 50 s = 8 ∨ σ 50 s = 16 ∨ σ 50 s = 32) ∧ 0 ≤ σ 51 s ∧ σ 51 s ≤ 40) (hN : ∀ j, j < 160 → rng (σ 52 j)) (hy : 0 ≤ y ∧ y < ρ 0 7) : Mt g yX5_fits cX5_fits 4 (some FieldType.int) 8 [.ref (gA g 41), .int (iI (x)), .int (iI (y))] σ (pM (setF (fun c => tlG (ρ 0 7) (ρ 0 8) (ρ 0 9) (ρ 3) (up (ρ 4) y.toNat (c : Int)) (ρ 1, ρ 5, ρ 6) y.toNat (fun j => σ 52 (40 * x.toNat + j)) (σ 51 x.toNat)) 12) (ρ) (σ)) := by
  obtain ⟨hn, hfl, hw, hdy, hz, hD_, hK_, hA_, hG_, hM_, hP_⟩ := id hW
  have hD : rgD (ρ 1) := hD_
  have hK : rgK (ρ 3) := hK_
  have hA : rgA (ρ 4) := hA_
  have hG : rgG (ρ 5) := hG_
  have hM : rgM (ρ 6) := hM_
  have hP : ∀ j, j < 10 → -1 ≤ ρ 7 j ∧ ρ 7 j < ρ 0 7 := hP_
  have ho_x := h_x.1; have hp_x := h_x.2
  have ho_y := h_y.1; have hp_y := h_y.2
  refine mt_of (own := RX5) (by decide) rfl (Nat.le_of_ble_eq_true rfl) (fun E C => ?_)
  show J g E (pM (setF (fun c => tlG (ρ 0 7) (ρ 0 8) (ρ 0 9) (ρ 3) (up (ρ 4) y.toNat (c : Int)) (ρ 1, ρ 5, ρ 6) y.toNat (fun j => σ 52 (40 * x.toNat + j)) (σ 51 x.toNat)) 12) (ρ) (σ)) 4 0 [(0, .ref (gA g 41)), (1, .int (iI (x))), (2, .int (iI (y)))] [] σ
  refine r_aload_n (pc := 0) C dX5_fits_0 rfl 0 rfl ?_
  refine r_iload_n (pc := 1) C dX5_fits_1 rfl 1 rfl ?_
  refine r_iload_n (pc := 2) C dX5_fits_2 rfl 2 rfl ?_
  refine r_cVi (pc := 3) C (c_wrongTold_d g x y h_x h_y hx ρ σ hS hn hB hb hy) yX5_wrongTold_w O_41 rfl rfl t_1116 ⟨by decide, by decide⟩ (Nat.le_of_ble_eq_true rfl) rfl dX5_fits_3 ?_
  refine r_istore_n (pc := 6) C dX5_fits_6 rfl (by decide) [1, 2, 3, 0] (lv' := [(0, .ref (gA g 41)), (1, .int (iI (x))), (2, .int (iI (y))), (3, .int (iI (0)))]) rfl ?_
  refine r_iload_n (pc := 7) C dX5_fits_7 rfl 3 rfl ?_
  refine r_if_eq (pc := 8) C 19 ⟨by omega, by omega⟩ dX5_fits_8 (by decide) (fun h8 => ?_) (fun h8 => ?_)
  · skip
    refine r_aload_n (pc := 19) C dX5_fits_19 rfl 0 rfl ?_
    refine r_iload_n (pc := 20) C dX5_fits_20 rfl 1 rfl ?_
    refine r_iload_n (pc := 21) C dX5_fits_21 rfl 2 rfl ?_
    refine r_iconst (pc := 22) C dX5_fits_22 ?_
    refine r_bipush (pc := 23) C dX5_fits_23 (by decide) ?_
    refine r_cVm (pc := 25) C (c_fitsBy_1 g x.toNat y.toNat (by omega) (by omega) (fun j => σ 52 (40 * x.toNat + j)) (σ 51 x.toNat) (hb x.toNat (by omega)).2 (fun j hj => hN _ (by omega)) ρ σ hS (RM_of hW) h6 rfl (fun _ _ => rfl)) yX5_fitsBy_w O_41 rfl rfl t_1128 ⟨by decide, by decide⟩ (Nat.le_of_ble_eq_true rfl) (by rw [show ((x.toNat : Nat) : Int) = x by omega, show ((y.toNat : Nat) : Int) = y by omega]; rfl) dX5_fits_25 (fun s25 hm25_ hT25 => ?_)
    exact r_retM (pc := 28) C (by first | (exfalso; omega; done) | ((try (first | rw [if_pos (by omega)] | rw [if_neg (by omega)])); (try rfl))) ((hm25_).trans (congrArg mkS (by first | (exfalso; omega; done) | ((try (first | rw [if_pos (by omega)] | rw [if_neg (by omega)])); (try rfl))))) (fun k hk => (hT25 k hk).trans (congrFun (by first | (exfalso; omega; done) | ((try (first | rw [if_pos (by omega)] | rw [if_neg (by omega)])); (try rfl))) k)) dX5_fits_28
  · skip
    omega
theorem e_fits (g : Gt) (x y : Int) (h_x : rng x) (h_y : rng y) (ρ σ : Sg) (hS : σ 42 = mkS ρ) (hW : RW ρ 0) (h6 : σ 41 6 = 255) (hb : ∀ s, s < 4 → (σ 50 s = 0 ∨ σ 50 s = 8 ∨ σ 50 s = 16 ∨ σ 50 s = 32) ∧ 0 ≤ σ 51 s ∧ σ 51 s ≤ 40) (hN : ∀ j, j < 160 → rng (σ 52 j)) : Mt g yX5_fits cX5_fits 4 (some FieldType.int) 8 [.ref (gA g 41), .int (iI (x)), .int (iI (y))] σ (pM (if 0 ≤ x ∧ x < 4 then (if σ 50 x.toNat = 0 then (-1000001 - ((5 : Nat) : Int)) else if 0 ≤ y ∧ y < ρ 0 7 then setF (fun c => tlG (ρ 0 7) (ρ 0 8) (ρ 0 9) (ρ 3) (up (ρ 4) y.toNat (c : Int)) (ρ 1, ρ 5, ρ 6) y.toNat (fun j => σ 52 (40 * x.toNat + j)) (σ 51 x.toNat)) 12 else (-1000001 - ((0 : Nat) : Int))) else (-1000001 - ((0 : Nat) : Int))) (ρ) (if 0 ≤ x ∧ x < 4 then (if σ 50 x.toNat = 0 then finM 5 σ else if 0 ≤ y ∧ y < ρ 0 7 then σ else finM 0 σ) else finM 0 σ)) := by
  by_cases hx : 0 ≤ x ∧ x < 4
  · by_cases hB : σ 50 x.toNat = 0
    · (repeat rw [if_pos hx]); (repeat rw [if_pos hB])
      exact e_fits_b g x y h_x h_y ρ σ hS hW hx hB
    · by_cases hy : 0 ≤ y ∧ y < ρ 0 7
      · (repeat rw [if_pos hx]); (repeat rw [if_neg hB]); (repeat rw [if_pos hy])
        exact e_fits_d g x y h_x h_y ρ σ hS hW hx hB h6 hb hN hy
      · (repeat rw [if_pos hx]); (repeat rw [if_neg hB]); (repeat rw [if_neg hy])
        exact e_fits_c g x y h_x h_y ρ σ hS hW hx hB h6 hb hN hy
  · (repeat rw [if_neg hx])
    exact e_fits_a g x y h_x h_y ρ σ hS hW hx
set_option maxHeartbeats 4000000 in
set_option maxRecDepth 100000 in
theorem e_kinds_a (g : Gt) (x y : Int) (h_x : rng x) (h_y : rng y) (ρ σ : Sg) (hS : σ 42 = mkS ρ) (hW : RW ρ 0) (hx : ¬ (0 ≤ x ∧ x < 4)) : Mt g yX5_kinds cX5_kinds 4 (some FieldType.int) 8 [.ref (gA g 41), .int (iI (x)), .int (iI (y))] σ (pM ((-1000001 - ((0 : Nat) : Int))) (ρ) (finM 0 σ)) := by
  obtain ⟨hn, hfl, hw, hdy, hz, hD_, hK_, hA_, hG_, hM_, hP_⟩ := id hW
  have hD : rgD (ρ 1) := hD_
  have hK : rgK (ρ 3) := hK_
  have hA : rgA (ρ 4) := hA_
  have hG : rgG (ρ 5) := hG_
  have hM : rgM (ρ 6) := hM_
  have hP : ∀ j, j < 10 → -1 ≤ ρ 7 j ∧ ρ 7 j < ρ 0 7 := hP_
  have ho_x := h_x.1; have hp_x := h_x.2
  have ho_y := h_y.1; have hp_y := h_y.2
  refine mt_of (own := RX5) (by decide) rfl (Nat.le_of_ble_eq_true rfl) (fun E C => ?_)
  show J g E (pM ((-1000001 - ((0 : Nat) : Int))) (ρ) (finM 0 σ)) 4 0 [(0, .ref (gA g 41)), (1, .int (iI (x))), (2, .int (iI (y)))] [] σ
  refine r_aload_n (pc := 0) C dX5_kinds_0 rfl 0 rfl ?_
  refine r_iload_n (pc := 1) C dX5_kinds_1 rfl 1 rfl ?_
  refine r_iload_n (pc := 2) C dX5_kinds_2 rfl 2 rfl ?_
  refine r_cVi (pc := 3) C (c_wrongTold_a g x y h_x h_y hx ρ σ hS ) yX5_wrongTold_w O_41 rfl rfl t_1116 ⟨by decide, by decide⟩ (Nat.le_of_ble_eq_true rfl) rfl dX5_kinds_3 ?_
  refine r_istore_n (pc := 6) C dX5_kinds_6 rfl (by decide) [1, 2, 3, 0] (lv' := [(0, .ref (gA g 41)), (1, .int (iI (x))), (2, .int (iI (y))), (3, .int (iI ((-1000001))))]) rfl ?_
  refine r_iload_n (pc := 7) C dX5_kinds_7 rfl 3 rfl ?_
  refine r_if_eq (pc := 8) C 19 ⟨by omega, by omega⟩ dX5_kinds_8 (by decide) (fun h8 => ?_) (fun h8 => ?_)
  · skip
    omega
  · skip
    refine r_aload_n (pc := 11) C dX5_kinds_11 rfl 0 rfl ?_
    refine r_iload_n (pc := 12) C dX5_kinds_12 rfl 3 rfl ?_
    refine r_cVi (pc := 13) C (c_finds g 0 (by decide) σ) yX5_finds_w O_41 rfl rfl t_855 ⟨by decide, by decide⟩ (Nat.le_of_ble_eq_true rfl) (by rw [show ((-1000001) : Int) = -1000001 - ((0 : Nat) : Int) by decide]; rfl) dX5_kinds_13 ?_
    refine r_goto (pc := 16) C 28 dX5_kinds_16 (by decide) ?_
    exact r_retM (pc := 28) C (by first | (exfalso; omega; done) | ((try (first | rw [if_pos (by omega)] | rw [if_neg (by omega)])); (try rfl))) ((((wr_n _ _ _ (by omega)).trans hS)).trans (congrArg mkS (by first | (exfalso; omega; done) | ((try (first | rw [if_pos (by omega)] | rw [if_neg (by omega)])); (try rfl))))) (fun k hk => (rfl).trans (congrFun (by first | (exfalso; omega; done) | ((try (first | rw [if_pos (by omega)] | rw [if_neg (by omega)])); (try rfl))) k)) dX5_kinds_28
set_option maxHeartbeats 4000000 in
set_option maxRecDepth 100000 in
theorem e_kinds_b (g : Gt) (x y : Int) (h_x : rng x) (h_y : rng y) (ρ σ : Sg) (hS : σ 42 = mkS ρ) (hW : RW ρ 0) (hx : 0 ≤ x ∧ x < 4) (hB : σ 50 x.toNat = 0) : Mt g yX5_kinds cX5_kinds 4 (some FieldType.int) 8 [.ref (gA g 41), .int (iI (x)), .int (iI (y))] σ (pM ((-1000001 - ((5 : Nat) : Int))) (ρ) (finM 5 σ)) := by
  obtain ⟨hn, hfl, hw, hdy, hz, hD_, hK_, hA_, hG_, hM_, hP_⟩ := id hW
  have hD : rgD (ρ 1) := hD_
  have hK : rgK (ρ 3) := hK_
  have hA : rgA (ρ 4) := hA_
  have hG : rgG (ρ 5) := hG_
  have hM : rgM (ρ 6) := hM_
  have hP : ∀ j, j < 10 → -1 ≤ ρ 7 j ∧ ρ 7 j < ρ 0 7 := hP_
  have ho_x := h_x.1; have hp_x := h_x.2
  have ho_y := h_y.1; have hp_y := h_y.2
  refine mt_of (own := RX5) (by decide) rfl (Nat.le_of_ble_eq_true rfl) (fun E C => ?_)
  show J g E (pM ((-1000001 - ((5 : Nat) : Int))) (ρ) (finM 5 σ)) 4 0 [(0, .ref (gA g 41)), (1, .int (iI (x))), (2, .int (iI (y)))] [] σ
  refine r_aload_n (pc := 0) C dX5_kinds_0 rfl 0 rfl ?_
  refine r_iload_n (pc := 1) C dX5_kinds_1 rfl 1 rfl ?_
  refine r_iload_n (pc := 2) C dX5_kinds_2 rfl 2 rfl ?_
  refine r_cVi (pc := 3) C (c_wrongTold_b g x y h_x h_y hx ρ σ hS hB) yX5_wrongTold_w O_41 rfl rfl t_1116 ⟨by decide, by decide⟩ (Nat.le_of_ble_eq_true rfl) rfl dX5_kinds_3 ?_
  refine r_istore_n (pc := 6) C dX5_kinds_6 rfl (by decide) [1, 2, 3, 0] (lv' := [(0, .ref (gA g 41)), (1, .int (iI (x))), (2, .int (iI (y))), (3, .int (iI ((-1000006))))]) rfl ?_
  refine r_iload_n (pc := 7) C dX5_kinds_7 rfl 3 rfl ?_
  refine r_if_eq (pc := 8) C 19 ⟨by omega, by omega⟩ dX5_kinds_8 (by decide) (fun h8 => ?_) (fun h8 => ?_)
  · skip
    omega
  · skip
    refine r_aload_n (pc := 11) C dX5_kinds_11 rfl 0 rfl ?_
    refine r_iload_n (pc := 12) C dX5_kinds_12 rfl 3 rfl ?_
    refine r_cVi (pc := 13) C (c_finds g 5 (by decide) σ) yX5_finds_w O_41 rfl rfl t_855 ⟨by decide, by decide⟩ (Nat.le_of_ble_eq_true rfl) (by rw [show ((-1000006) : Int) = -1000001 - ((5 : Nat) : Int) by decide]; rfl) dX5_kinds_13 ?_
    refine r_goto (pc := 16) C 28 dX5_kinds_16 (by decide) ?_
    exact r_retM (pc := 28) C (by first | (exfalso; omega; done) | ((try (first | rw [if_pos (by omega)] | rw [if_neg (by omega)])); (try rfl))) ((((wr_n _ _ _ (by omega)).trans hS)).trans (congrArg mkS (by first | (exfalso; omega; done) | ((try (first | rw [if_pos (by omega)] | rw [if_neg (by omega)])); (try rfl))))) (fun k hk => (rfl).trans (congrFun (by first | (exfalso; omega; done) | ((try (first | rw [if_pos (by omega)] | rw [if_neg (by omega)])); (try rfl))) k)) dX5_kinds_28
set_option maxHeartbeats 4000000 in
set_option maxRecDepth 100000 in
theorem e_kinds_c (g : Gt) (x y : Int) (h_x : rng x) (h_y : rng y) (ρ σ : Sg) (hS : σ 42 = mkS ρ) (hW : RW ρ 0) (hx : 0 ≤ x ∧ x < 4) (hB : ¬ σ 50 x.toNat = 0) (h6 : σ 41 6 = 255) (hb : ∀ s, s < 4 → (σ 50 s = 0 ∨ σ 50 s = 8 ∨ σ 50 s = 16 ∨ σ 50 s = 32) ∧ 0 ≤ σ 51 s ∧ σ 51 s ≤ 40) (hN : ∀ j, j < 160 → rng (σ 52 j)) (hy : ¬ (0 ≤ y ∧ y < ρ 0 7)) : Mt g yX5_kinds cX5_kinds 4 (some FieldType.int) 8 [.ref (gA g 41), .int (iI (x)), .int (iI (y))] σ (pM ((-1000001 - ((0 : Nat) : Int))) (ρ) (finM 0 σ)) := by
  obtain ⟨hn, hfl, hw, hdy, hz, hD_, hK_, hA_, hG_, hM_, hP_⟩ := id hW
  have hD : rgD (ρ 1) := hD_
  have hK : rgK (ρ 3) := hK_
  have hA : rgA (ρ 4) := hA_
  have hG : rgG (ρ 5) := hG_
  have hM : rgM (ρ 6) := hM_
  have hP : ∀ j, j < 10 → -1 ≤ ρ 7 j ∧ ρ 7 j < ρ 0 7 := hP_
  have ho_x := h_x.1; have hp_x := h_x.2
  have ho_y := h_y.1; have hp_y := h_y.2
  refine mt_of (own := RX5) (by decide) rfl (Nat.le_of_ble_eq_true rfl) (fun E C => ?_)
  show J g E (pM ((-1000001 - ((0 : Nat) : Int))) (ρ) (finM 0 σ)) 4 0 [(0, .ref (gA g 41)), (1, .int (iI (x))), (2, .int (iI (y)))] [] σ
  refine r_aload_n (pc := 0) C dX5_kinds_0 rfl 0 rfl ?_
  refine r_iload_n (pc := 1) C dX5_kinds_1 rfl 1 rfl ?_
  refine r_iload_n (pc := 2) C dX5_kinds_2 rfl 2 rfl ?_
  refine r_cVi (pc := 3) C (c_wrongTold_c g x y h_x h_y hx ρ σ hS hn hB hb hy) yX5_wrongTold_w O_41 rfl rfl t_1116 ⟨by decide, by decide⟩ (Nat.le_of_ble_eq_true rfl) rfl dX5_kinds_3 ?_
  refine r_istore_n (pc := 6) C dX5_kinds_6 rfl (by decide) [1, 2, 3, 0] (lv' := [(0, .ref (gA g 41)), (1, .int (iI (x))), (2, .int (iI (y))), (3, .int (iI ((-1000001))))]) rfl ?_
  refine r_iload_n (pc := 7) C dX5_kinds_7 rfl 3 rfl ?_
  refine r_if_eq (pc := 8) C 19 ⟨by omega, by omega⟩ dX5_kinds_8 (by decide) (fun h8 => ?_) (fun h8 => ?_)
  · skip
    omega
  · skip
    refine r_aload_n (pc := 11) C dX5_kinds_11 rfl 0 rfl ?_
    refine r_iload_n (pc := 12) C dX5_kinds_12 rfl 3 rfl ?_
    refine r_cVi (pc := 13) C (c_finds g 0 (by decide) σ) yX5_finds_w O_41 rfl rfl t_855 ⟨by decide, by decide⟩ (Nat.le_of_ble_eq_true rfl) (by rw [show ((-1000001) : Int) = -1000001 - ((0 : Nat) : Int) by decide]; rfl) dX5_kinds_13 ?_
    refine r_goto (pc := 16) C 28 dX5_kinds_16 (by decide) ?_
    exact r_retM (pc := 28) C (by first | (exfalso; omega; done) | ((try (first | rw [if_pos (by omega)] | rw [if_neg (by omega)])); (try rfl))) ((((wr_n _ _ _ (by omega)).trans hS)).trans (congrArg mkS (by first | (exfalso; omega; done) | ((try (first | rw [if_pos (by omega)] | rw [if_neg (by omega)])); (try rfl))))) (fun k hk => (rfl).trans (congrFun (by first | (exfalso; omega; done) | ((try (first | rw [if_pos (by omega)] | rw [if_neg (by omega)])); (try rfl))) k)) dX5_kinds_28
set_option maxHeartbeats 4000000 in
set_option maxRecDepth 100000 in
theorem e_kinds_d (g : Gt) (x y : Int) (h_x : rng x) (h_y : rng y) (ρ σ : Sg) (hS : σ 42 = mkS ρ) (hW : RW ρ 0) (hx : 0 ≤ x ∧ x < 4) (hB : ¬ σ 50 x.toNat = 0) (h6 : σ 41 6 = 255) (hb : ∀ s, s < 4 → (σ 50 s = 0 ∨ σ 50 s = 8 ∨ σ 50 s = 16 ∨ σ 50 s = 32) ∧ 0 ≤ σ 51 s ∧ σ 51 s ≤ 40) (hN : ∀ j, j < 160 → rng (σ 52 j)) (hy : 0 ≤ y ∧ y < ρ 0 7) : Mt g yX5_kinds cX5_kinds 4 (some FieldType.int) 8 [.ref (gA g 41), .int (iI (x)), .int (iI (y))] σ (pM (setF (fun c => tlG (ρ 0 7) (ρ 0 8) (ρ 0 9) (up (ρ 3) y.toNat (c : Int)) (ρ 4) (ρ 1, ρ 5, ρ 6) y.toNat (fun j => σ 52 (40 * x.toNat + j)) (σ 51 x.toNat)) 7) (ρ) (σ)) := by
  obtain ⟨hn, hfl, hw, hdy, hz, hD_, hK_, hA_, hG_, hM_, hP_⟩ := id hW
  have hD : rgD (ρ 1) := hD_
  have hK : rgK (ρ 3) := hK_
  have hA : rgA (ρ 4) := hA_
  have hG : rgG (ρ 5) := hG_
  have hM : rgM (ρ 6) := hM_
  have hP : ∀ j, j < 10 → -1 ≤ ρ 7 j ∧ ρ 7 j < ρ 0 7 := hP_
  have ho_x := h_x.1; have hp_x := h_x.2
  have ho_y := h_y.1; have hp_y := h_y.2
  refine mt_of (own := RX5) (by decide) rfl (Nat.le_of_ble_eq_true rfl) (fun E C => ?_)
  show J g E (pM (setF (fun c => tlG (ρ 0 7) (ρ 0 8) (ρ 0 9) (up (ρ 3) y.toNat (c : Int)) (ρ 4) (ρ 1, ρ 5, ρ 6) y.toNat (fun j => σ 52 (40 * x.toNat + j)) (σ 51 x.toNat)) 7) (ρ) (σ)) 4 0 [(0, .ref (gA g 41)), (1, .int (iI (x))), (2, .int (iI (y)))] [] σ
  refine r_aload_n (pc := 0) C dX5_kinds_0 rfl 0 rfl ?_
  refine r_iload_n (pc := 1) C dX5_kinds_1 rfl 1 rfl ?_
  refine r_iload_n (pc := 2) C dX5_kinds_2 rfl 2 rfl ?_
  refine r_cVi (pc := 3) C (c_wrongTold_d g x y h_x h_y hx ρ σ hS hn hB hb hy) yX5_wrongTold_w O_41 rfl rfl t_1116 ⟨by decide, by decide⟩ (Nat.le_of_ble_eq_true rfl) rfl dX5_kinds_3 ?_
  refine r_istore_n (pc := 6) C dX5_kinds_6 rfl (by decide) [1, 2, 3, 0] (lv' := [(0, .ref (gA g 41)), (1, .int (iI (x))), (2, .int (iI (y))), (3, .int (iI (0)))]) rfl ?_
  refine r_iload_n (pc := 7) C dX5_kinds_7 rfl 3 rfl ?_
  refine r_if_eq (pc := 8) C 19 ⟨by omega, by omega⟩ dX5_kinds_8 (by decide) (fun h8 => ?_) (fun h8 => ?_)
  · skip
    refine r_aload_n (pc := 19) C dX5_kinds_19 rfl 0 rfl ?_
    refine r_iload_n (pc := 20) C dX5_kinds_20 rfl 1 rfl ?_
    refine r_iload_n (pc := 21) C dX5_kinds_21 rfl 2 rfl ?_
    refine r_iconst (pc := 22) C dX5_kinds_22 ?_
    refine r_bipush (pc := 23) C dX5_kinds_23 (by decide) ?_
    refine r_cVm (pc := 25) C (c_fitsBy_0 g x.toNat y.toNat (by omega) (by omega) (fun j => σ 52 (40 * x.toNat + j)) (σ 51 x.toNat) (hb x.toNat (by omega)).2 (fun j hj => hN _ (by omega)) ρ σ hS (RM_of hW) h6 rfl (fun _ _ => rfl)) yX5_fitsBy_w O_41 rfl rfl t_1128 ⟨by decide, by decide⟩ (Nat.le_of_ble_eq_true rfl) (by rw [show ((x.toNat : Nat) : Int) = x by omega, show ((y.toNat : Nat) : Int) = y by omega]; rfl) dX5_kinds_25 (fun s25 hm25_ hT25 => ?_)
    exact r_retM (pc := 28) C (by first | (exfalso; omega; done) | ((try (first | rw [if_pos (by omega)] | rw [if_neg (by omega)])); (try rfl))) ((hm25_).trans (congrArg mkS (by first | (exfalso; omega; done) | ((try (first | rw [if_pos (by omega)] | rw [if_neg (by omega)])); (try rfl))))) (fun k hk => (hT25 k hk).trans (congrFun (by first | (exfalso; omega; done) | ((try (first | rw [if_pos (by omega)] | rw [if_neg (by omega)])); (try rfl))) k)) dX5_kinds_28
  · skip
    omega
theorem e_kinds (g : Gt) (x y : Int) (h_x : rng x) (h_y : rng y) (ρ σ : Sg) (hS : σ 42 = mkS ρ) (hW : RW ρ 0) (h6 : σ 41 6 = 255) (hb : ∀ s, s < 4 → (σ 50 s = 0 ∨ σ 50 s = 8 ∨ σ 50 s = 16 ∨ σ 50 s = 32) ∧ 0 ≤ σ 51 s ∧ σ 51 s ≤ 40) (hN : ∀ j, j < 160 → rng (σ 52 j)) : Mt g yX5_kinds cX5_kinds 4 (some FieldType.int) 8 [.ref (gA g 41), .int (iI (x)), .int (iI (y))] σ (pM (if 0 ≤ x ∧ x < 4 then (if σ 50 x.toNat = 0 then (-1000001 - ((5 : Nat) : Int)) else if 0 ≤ y ∧ y < ρ 0 7 then setF (fun c => tlG (ρ 0 7) (ρ 0 8) (ρ 0 9) (up (ρ 3) y.toNat (c : Int)) (ρ 4) (ρ 1, ρ 5, ρ 6) y.toNat (fun j => σ 52 (40 * x.toNat + j)) (σ 51 x.toNat)) 7 else (-1000001 - ((0 : Nat) : Int))) else (-1000001 - ((0 : Nat) : Int))) (ρ) (if 0 ≤ x ∧ x < 4 then (if σ 50 x.toNat = 0 then finM 5 σ else if 0 ≤ y ∧ y < ρ 0 7 then σ else finM 0 σ) else finM 0 σ)) := by
  by_cases hx : 0 ≤ x ∧ x < 4
  · by_cases hB : σ 50 x.toNat = 0
    · (repeat rw [if_pos hx]); (repeat rw [if_pos hB])
      exact e_kinds_b g x y h_x h_y ρ σ hS hW hx hB
    · by_cases hy : 0 ≤ y ∧ y < ρ 0 7
      · (repeat rw [if_pos hx]); (repeat rw [if_neg hB]); (repeat rw [if_pos hy])
        exact e_kinds_d g x y h_x h_y ρ σ hS hW hx hB h6 hb hN hy
      · (repeat rw [if_pos hx]); (repeat rw [if_neg hB]); (repeat rw [if_neg hy])
        exact e_kinds_c g x y h_x h_y ρ σ hS hW hx hB h6 hb hN hy
  · (repeat rw [if_neg hx])
    exact e_kinds_a g x y h_x h_y ρ σ hS hW hx
set_option maxHeartbeats 4000000 in
set_option maxRecDepth 100000 in
theorem c_m_draw (g : Gt) (ρ σ : Sg) (hS : σ 42 = mkS ρ) : Mt g yX5_draw cX5_draw 1 (some FieldType.int) 0 [.ref (gA g 41)] σ (pI (bushr (zz (ρ 0 11)) 8) (us σ 42 (mkS (wr ρ 0 11 (zz (ρ 0 11)))))) := by
  refine mt_of (own := RX5) (by decide) rfl (Nat.le_of_ble_eq_true rfl) (fun E C => ?_)
  show J g E (pI (bushr (zz (ρ 0 11)) 8) (us σ 42 (mkS (wr ρ 0 11 (zz (ρ 0 11)))))) 1 0 [(0, .ref (gA g 41))] [] σ
  refine r_aload_n (pc := 0) C dX5_draw_0 rfl 0 rfl ?_
  refine r_getR5 (pc := 1) C 0 (k' := 42) rfl O_41 (by decide) rfl t_780 dX5_draw_1 ?_
  refine r_iconst (pc := 4) C dX5_draw_4 ?_
  refine r_aload_n (pc := 5) C dX5_draw_5 rfl 0 rfl ?_
  refine r_getR5 (pc := 6) C 0 (k' := 42) rfl O_41 (by decide) rfl t_780 dX5_draw_6 ?_
  refine r_iconst (pc := 9) C dX5_draw_9 ?_
  refine r_iald (pc := 10) C 4 A_42 (by omega) (by omega) dX5_draw_10 ?_
  refine r_top (show _ = ρ 0 11 from (congrFun hS _).trans (mkS_at rfl)) ?_
  refine r_ldc (pc := 11) C 1103515245 t_1148 (by decide) dX5_draw_11 ?_
  refine r_imul (pc := 13) C dX5_draw_13 ?_
  refine r_sipush (pc := 14) C dX5_draw_14 (by decide) ?_
  refine r_iadd (pc := 17) C dX5_draw_17 ?_
  refine r_topI (show _ = iI (zz (ρ 0 11)) from (iI_of _).symm) ?_
  skip
  refine r_iast (pc := 18) C 4 A_42 (by omega) (by omega) dX5_draw_18 ?_
  refine r_sg (wrS hS rfl) ?_
  refine r_aload_n (pc := 19) C dX5_draw_19 rfl 0 rfl ?_
  refine r_getR5 (pc := 20) C 0 (k' := 42) rfl O_41 (by decide) rfl t_780 dX5_draw_20 ?_
  refine r_iconst (pc := 23) C dX5_draw_23 ?_
  refine r_iald (pc := 24) C 4 A_42 (by omega) (by omega) dX5_draw_24 ?_
  refine r_top (show _ = zz (ρ 0 11) from (congrFun (us_s _ _ _) _).trans ((mkS_at rfl).trans (wr_s2 _ _ _ _))) ?_
  refine r_bipush (pc := 25) C dX5_draw_25 (by decide) ?_
  refine r_iushr (pc := 27) C dX5_draw_27 ?_
  exact r_reti (pc := 28) C (rfl) (rfl) dX5_draw_28
set_option maxHeartbeats 4000000 in
set_option maxRecDepth 100000 in
theorem e_sneezes (g : Gt) (n : Int) (h_n : rng n) (ρ σ : Sg) (hS : σ 42 = mkS ρ) (hW : RW ρ 0) (h6 : σ 41 6 = 255) : Mt g yX5_sneezes cX5_sneezes 4 (some FieldType.int) 5 [.ref (gA g 41), .int (iI (n))] σ (pM (if 1 ≤ n ∧ n ≤ 20 then (if 99999 < ρ 0 10 + n then (-1000001 - ((4 : Nat) : Int)) else sumF (snR n.toNat ρ 1) 12) else (-1000001 - ((0 : Nat) : Int))) (if 1 ≤ n ∧ n ≤ 20 then (if 99999 < ρ 0 10 + n then ρ else snR n.toNat ρ) else ρ) (if 1 ≤ n ∧ n ≤ 20 then (if 99999 < ρ 0 10 + n then finM 4 σ else σ) else finM 0 σ)) := by
  obtain ⟨hn, hfl, hw, hdy, hz, hD_, hK_, hA_, hG_, hM_, hP_⟩ := id hW
  have hD : rgD (ρ 1) := hD_
  have hK : rgK (ρ 3) := hK_
  have hA : rgA (ρ 4) := hA_
  have hG : rgG (ρ 5) := hG_
  have hM : rgM (ρ 6) := hM_
  have hP : ∀ j, j < 10 → -1 ≤ ρ 7 j ∧ ρ 7 j < ρ 0 7 := hP_
  have ho_n := h_n.1; have hp_n := h_n.2
  refine mt_of (own := RX5) (by decide) rfl (Nat.le_of_ble_eq_true rfl) (fun E C => ?_)
  show J g E (pM (if 1 ≤ n ∧ n ≤ 20 then (if 99999 < ρ 0 10 + n then (-1000001 - ((4 : Nat) : Int)) else sumF (snR n.toNat ρ 1) 12) else (-1000001 - ((0 : Nat) : Int))) (if 1 ≤ n ∧ n ≤ 20 then (if 99999 < ρ 0 10 + n then ρ else snR n.toNat ρ) else ρ) (if 1 ≤ n ∧ n ≤ 20 then (if 99999 < ρ 0 10 + n then finM 4 σ else σ) else finM 0 σ)) 4 0 [(0, .ref (gA g 41)), (1, .int (iI (n)))] [] σ
  refine r_iload_n (pc := 0) C dX5_sneezes_0 rfl 1 rfl ?_
  refine r_i2l (pc := 1) C h_n dX5_sneezes_1 ?_
  refine r_lconst (pc := 2) C (n := 1) dX5_sneezes_2 (by decide) ?_
  refine r_ldc2 (pc := 3) C 20 t_1100 (by decide) dX5_sneezes_3 ?_
  refine r_cSi (pc := 6) C (c_in g n 1 20 ⟨by have := h_n.1; omega, by have := h_n.2; omega⟩ ⟨by omega, by omega⟩ ⟨by omega, by omega⟩ σ) yX5_in_w rfl t_846 ⟨by decide, by decide⟩ (Nat.le_of_ble_eq_true rfl) rfl dX5_sneezes_6 ?_
  refine r_ifz_ne (pc := 9) C 19 dX5_sneezes_9 (by decide) (fun h9 => ?_) (fun h9 => ?_)
  · skip
    refine r_aload_n (pc := 19) C dX5_sneezes_19 rfl 0 rfl ?_
    refine r_getR5 (pc := 20) C 0 (k' := 42) rfl O_41 (by decide) rfl t_780 dX5_sneezes_20 ?_
    refine r_iconst (pc := 23) C dX5_sneezes_23 ?_
    refine r_iald (pc := 24) C 0 A_42 (by omega) (by omega) dX5_sneezes_24 ?_
    refine r_top (show _ = ρ 0 10 from (congrFun hS _).trans (mkS_at rfl)) ?_
    refine r_iload_n (pc := 25) C dX5_sneezes_25 rfl 1 rfl ?_
    refine r_iadd (pc := 26) C dX5_sneezes_26 ?_
    refine r_ldc (pc := 27) C 99999 t_966 (by decide) dX5_sneezes_27 ?_
    refine r_icmp_le (pc := 29) C 39 ⟨by omega, by omega⟩ ⟨by omega, by omega⟩ dX5_sneezes_29 (by decide) (fun h29 => ?_) (fun h29 => ?_)
    · skip
      refine r_iconst (pc := 39) C dX5_sneezes_39 ?_
      refine r_istore_n (pc := 40) C dX5_sneezes_40 rfl (by decide) [1, 2, 0] (lv' := [(0, .ref (gA g 41)), (1, .int (iI (n))), (2, .int (iI (0)))]) rfl ?_
      have L41 : ∀ (n_ : Nat) (i : Nat) (x41_2 : Int) (s41 : Sg), n.toNat - i < n_ → ((i : Int) ≤ n) → (s41 42 = mkS (snR i ρ)) → (∀ c, (c ≠ 42 ∧ c ≠ 44 ∧ c ≠ 45 ∧ c ≠ 47 ∧ c ≠ 48 ∧ c ≠ 53) → s41 c = σ c) → x41_2 = (i : Int) → J g E (pM (if 1 ≤ n ∧ n ≤ 20 then (if 99999 < ρ 0 10 + n then (-1000001 - ((4 : Nat) : Int)) else sumF (snR n.toNat ρ 1) 12) else (-1000001 - ((0 : Nat) : Int))) (if 1 ≤ n ∧ n ≤ 20 then (if 99999 < ρ 0 10 + n then ρ else snR n.toNat ρ) else ρ) (if 1 ≤ n ∧ n ≤ 20 then (if 99999 < ρ 0 10 + n then finM 4 σ else σ) else finM 0 σ)) 4 41 [(0, .ref (gA g 41)), (1, .int (iI (n))), (2, .int (iI (x41_2)))] [] s41 := by
        intro n_
        induction n_ with
        | zero => intro i x41_2 s41 hm_; exact absurd hm_ (Nat.not_lt_zero _)
        | succ n_ ih41 =>
          intro i x41_2 s41 hm41 hi41_0 hi41_1 hi41_2 e41_0 
          subst e41_0 
          have hRi := snR_RM (RM_of hW) i
          have hbu := bushr_8 (zz ((snR i ρ) 0 11))
          refine r_iload_n (pc := 41) C dX5_sneezes_41 rfl 2 rfl ?_
          refine r_iload_n (pc := 42) C dX5_sneezes_42 rfl 1 rfl ?_
          refine r_icmp_ge (pc := 43) C 69 ⟨by omega, by omega⟩ h_n dX5_sneezes_43 (by decide) (fun h43 => ?_) (fun h43 => ?_)
          · skip
            refine r_aload_n (pc := 69) C dX5_sneezes_69 rfl 0 rfl ?_
            refine r_cVi (pc := 70) C (c_dustAll g  (snR i ρ) s41 hi41_1 ) yX5_dustAll_w O_41 rfl rfl t_992 ⟨by decide, by decide⟩ (Nat.le_of_ble_eq_true rfl) rfl dX5_sneezes_70 ?_
            exact r_retM (pc := 73) C (by rw [show i = n.toNat by omega]; exact ((if_pos (by omega)).trans (if_neg (by omega))).symm) ((hi41_1).trans (by rw [show i = n.toNat by omega]; exact congrArg mkS (((if_pos (by omega)).trans (if_neg (by omega))).symm))) (fun k hk => (hi41_2 k hk).trans (congrFun (((if_pos (by omega)).trans (if_neg (by omega))).symm) k)) dX5_sneezes_73
          · skip
            refine r_aload_n (pc := 46) C dX5_sneezes_46 rfl 0 rfl ?_
            refine r_aload_n (pc := 47) C dX5_sneezes_47 rfl 0 rfl ?_
            refine r_cVi (pc := 48) C (c_m_draw g (snR i ρ) s41 hi41_1) yX5_draw_w O_41 rfl rfl t_1144 ⟨by decide, by decide⟩ (Nat.le_of_ble_eq_true rfl) rfl dX5_sneezes_48 ?_
            refine r_bipush (pc := 51) C dX5_sneezes_51 (by decide) ?_
            refine r_irem (pc := 53) C (by omega) (by omega) (by omega) (by omega) dX5_sneezes_53 ?_
            refine r_iconst (pc := 54) C dX5_sneezes_54 ?_
            refine r_cVi (pc := 55) C (c_blows g (snf ((snR i ρ) 0 11)) (snf_lt _) 1 ⟨by omega, by omega⟩ (wr (snR i ρ) 0 11 (zz ((snR i ρ) 0 11))) (us s41 42 (mkS (wr (snR i ρ) 0 11 (zz ((snR i ρ) 0 11))))) (us_s _ _ _) hRi.2.2.2.1) yX5_blows_w O_41 rfl rfl t_951 ⟨by decide, by decide⟩ (Nat.le_of_ble_eq_true rfl) (by rw [show bushr (zz ((snR i ρ) 0 11)) 8 % 12 = (((snf ((snR i ρ) 0 11)) : Nat) : Int) by unfold snf; omega]; rfl) dX5_sneezes_55 ?_
            refine r_sg (us_us _ _ _ _) ?_
            refine r_sg (show _ = (us s41 42 (mkS (us (wr (snR i ρ) 0 11 (zz ((snR i ρ) 0 11))) 1 (bwD ((snR i ρ) 1) (snf ((snR i ρ) 0 11)) 1)))) from rfl) ?_
            refine r_top (show _ = (snR i ρ) 1 (snf ((snR i ρ) 0 11)) from rfl) ?_
            refine r_istore_n (pc := 58) C dX5_sneezes_58 rfl (by decide) [1, 2, 3, 0] (lv' := [(0, .ref (gA g 41)), (1, .int (iI (n))), (2, .int (iI ((i : Int)))), (3, .int (iI ((snR i ρ) 1 (snf ((snR i ρ) 0 11)))))]) rfl ?_
            refine r_aload_n (pc := 59) C dX5_sneezes_59 rfl 0 rfl ?_
            refine r_cVd (pc := 60) C (c_day g 255 ⟨by decide, by decide⟩ (us (wr (snR i ρ) 0 11 (zz ((snR i ρ) 0 11))) 1 (bwD ((snR i ρ) 1) (snf ((snR i ρ) 0 11)) 1)) (us s41 42 (mkS (us (wr (snR i ρ) 0 11 (zz ((snR i ρ) 0 11))) 1 (bwD ((snR i ρ) 1) (snf ((snR i ρ) 0 11)) 1)))) (us_s _ _ _) (snd_RM hRi) ((us_o2 _ _ _ (by decide)).trans ((congrFun (hi41_2 41 (by decide)) 6).trans h6))) yX5_day_w O_41 rfl rfl t_972 ⟨by decide, by decide⟩ (Nat.le_of_ble_eq_true rfl) rfl dX5_sneezes_60 (fun s60 hm60_ hT60 => ?_)
            refine r_iinc (pc := 63) C dX5_sneezes_63 2 rfl (by decide) [1, 2, 0, 3] (lv' := [(0, .ref (gA g 41)), (1, .int (iI (n))), (2, .int (iI ((i : Int) + 1))), (3, .int (iI ((snR i ρ) 1 (snf ((snR i ρ) 0 11)))))]) rfl ?_
            refine r_goto (pc := 66) C 41 dX5_sneezes_66 (by decide) ?_
            refine r_lv [0, 1, 2] (lv' := [(0, .ref (gA g 41)), (1, .int (iI (n))), (2, .int (iI ((i : Int) + 1)))]) rfl ?_
            exact ih41 (i + 1) _ _ (by omega) (by omega) (by exact hm60_) (by exact fun c hc => (hT60 c hc.1 hc.2.2.2.1).trans ((us_n _ _ hc.1).trans (hi41_2 c hc))) (by omega)
      exact L41 _ 0 _ _ (Nat.lt_succ_self _) (by omega) (by exact hS) (by exact fun _ _ => rfl) (rfl)
    · skip
      refine r_aload_n (pc := 32) C dX5_sneezes_32 rfl 0 rfl ?_
      refine r_ldc (pc := 33) C (-1000005) t_967 (by decide) dX5_sneezes_33 ?_
      refine r_cVi (pc := 35) C (c_finds g 4 (by decide) σ) yX5_finds_w O_41 rfl rfl t_855 ⟨by decide, by decide⟩ (Nat.le_of_ble_eq_true rfl) (by rw [show ((-1000005) : Int) = -1000001 - ((4 : Nat) : Int) by decide]; rfl) dX5_sneezes_35 ?_
      exact r_retM (pc := 38) C (by first | (exfalso; omega; done) | ((try (first | rw [if_pos (by omega)] | rw [if_neg (by omega)])); (try (first | rw [if_pos (by omega)] | rw [if_neg (by omega)])); (try (first | rw [if_pos (by omega)] | rw [if_neg (by omega)])); (try (first | rw [if_pos (by omega)] | rw [if_neg (by omega)])); (try rfl))) ((((wr_n _ _ _ (by omega)).trans hS)).trans (congrArg mkS (by first | (exfalso; omega; done) | ((try (first | rw [if_pos (by omega)] | rw [if_neg (by omega)])); (try (first | rw [if_pos (by omega)] | rw [if_neg (by omega)])); (try (first | rw [if_pos (by omega)] | rw [if_neg (by omega)])); (try (first | rw [if_pos (by omega)] | rw [if_neg (by omega)])); (try rfl))))) (fun k hk => (rfl).trans (congrFun (by first | (exfalso; omega; done) | ((try (first | rw [if_pos (by omega)] | rw [if_neg (by omega)])); (try (first | rw [if_pos (by omega)] | rw [if_neg (by omega)])); (try (first | rw [if_pos (by omega)] | rw [if_neg (by omega)])); (try (first | rw [if_pos (by omega)] | rw [if_neg (by omega)])); (try rfl))) k)) dX5_sneezes_38
  · skip
    refine r_aload_n (pc := 12) C dX5_sneezes_12 rfl 0 rfl ?_
    refine r_ldc (pc := 13) C (-1000001) t_854 (by decide) dX5_sneezes_13 ?_
    refine r_cVi (pc := 15) C (c_finds g 0 (by decide) σ) yX5_finds_w O_41 rfl rfl t_855 ⟨by decide, by decide⟩ (Nat.le_of_ble_eq_true rfl) (by rw [show ((-1000001) : Int) = -1000001 - ((0 : Nat) : Int) by decide]; rfl) dX5_sneezes_15 ?_
    exact r_retM (pc := 18) C (by first | (exfalso; omega; done) | ((try (first | rw [if_pos (by omega)] | rw [if_neg (by omega)])); (try (first | rw [if_pos (by omega)] | rw [if_neg (by omega)])); (try (first | rw [if_pos (by omega)] | rw [if_neg (by omega)])); (try (first | rw [if_pos (by omega)] | rw [if_neg (by omega)])); (try rfl))) ((((wr_n _ _ _ (by omega)).trans hS)).trans (congrArg mkS (by first | (exfalso; omega; done) | ((try (first | rw [if_pos (by omega)] | rw [if_neg (by omega)])); (try (first | rw [if_pos (by omega)] | rw [if_neg (by omega)])); (try (first | rw [if_pos (by omega)] | rw [if_neg (by omega)])); (try (first | rw [if_pos (by omega)] | rw [if_neg (by omega)])); (try rfl))))) (fun k hk => (rfl).trans (congrFun (by first | (exfalso; omega; done) | ((try (first | rw [if_pos (by omega)] | rw [if_neg (by omega)])); (try (first | rw [if_pos (by omega)] | rw [if_neg (by omega)])); (try (first | rw [if_pos (by omega)] | rw [if_neg (by omega)])); (try (first | rw [if_pos (by omega)] | rw [if_neg (by omega)])); (try rfl))) k)) dX5_sneezes_18
set_option maxHeartbeats 4000000 in
set_option maxRecDepth 100000 in
theorem e_odds (g : Gt) (n w : Int) (h_n : rng n) (h_w : rng w) (ρ σ : Sg) (hS : σ 42 = mkS ρ) (hW : RW ρ 0) : Mt g yX5_odds cX5_odds 8 (some FieldType.long) 4 [.ref (gA g 41), .int (iI (n)), .int (iI (w))] σ (pL (if (0 ≤ n ∧ n ≤ 14) ∧ 0 ≤ w ∧ w ≤ 1 then pwr (if w = 0 then (12 - bitc (setF (fun f => decide (0 ≤ holder (ρ 0 7) (ρ 6) f)) 12)) / gdF (12 - bitc (setF (fun f => decide (0 ≤ holder (ρ 0 7) (ρ 6) f)) 12)) 12 else 12 / gdF (12 - bitc (setF (fun f => decide (0 ≤ holder (ρ 0 7) (ρ 6) f)) 12)) 12) n.toNat else (-1000001 - ((0 : Nat) : Int))) (if (0 ≤ n ∧ n ≤ 14) ∧ 0 ≤ w ∧ w ≤ 1 then σ else finM 0 σ)) := by
  obtain ⟨hn, hfl, hw, hdy, hz, hD_, hK_, hA_, hG_, hM_, hP_⟩ := id hW
  have hD : rgD (ρ 1) := hD_
  have hK : rgK (ρ 3) := hK_
  have hA : rgA (ρ 4) := hA_
  have hG : rgG (ρ 5) := hG_
  have hM : rgM (ρ 6) := hM_
  have hP : ∀ j, j < 10 → -1 ≤ ρ 7 j ∧ ρ 7 j < ρ 0 7 := hP_
  have hso := setF_12 (fun f => decide (0 ≤ holder (ρ 0 7) (ρ 6) f))
  have hf1 := bitc_12 hso
  have hf2 := gdF_rng (12 - bitc (setF (fun f => decide (0 ≤ holder (ρ 0 7) (ρ 6) f)) 12)) 12 (by omega)
  refine mt_of (own := RX5) (by decide) rfl (Nat.le_of_ble_eq_true rfl) (fun E C => ?_)
  show J g E (pL (if (0 ≤ n ∧ n ≤ 14) ∧ 0 ≤ w ∧ w ≤ 1 then pwr (if w = 0 then (12 - bitc (setF (fun f => decide (0 ≤ holder (ρ 0 7) (ρ 6) f)) 12)) / gdF (12 - bitc (setF (fun f => decide (0 ≤ holder (ρ 0 7) (ρ 6) f)) 12)) 12 else 12 / gdF (12 - bitc (setF (fun f => decide (0 ≤ holder (ρ 0 7) (ρ 6) f)) 12)) 12) n.toNat else (-1000001 - ((0 : Nat) : Int))) (if (0 ≤ n ∧ n ≤ 14) ∧ 0 ≤ w ∧ w ≤ 1 then σ else finM 0 σ)) 8 0 [(0, .ref (gA g 41)), (1, .int (iI (n))), (2, .int (iI (w)))] [] σ
  refine r_iload_n (pc := 0) C dX5_odds_0 rfl 1 rfl ?_
  refine r_i2l (pc := 1) C h_n dX5_odds_1 ?_
  refine r_lconst (pc := 2) C (n := 0) dX5_odds_2 (by decide) ?_
  refine r_ldc2 (pc := 3) C 14 t_1153 (by decide) dX5_odds_3 ?_
  refine r_cSi (pc := 6) C (c_in g n 0 14 ⟨by have := h_n.1; omega, by have := h_n.2; omega⟩ ⟨by omega, by omega⟩ ⟨by omega, by omega⟩ σ) yX5_in_w rfl t_846 ⟨by decide, by decide⟩ (Nat.le_of_ble_eq_true rfl) rfl dX5_odds_6 ?_
  refine r_ifz_eq (pc := 9) C 22 dX5_odds_9 (by decide) (fun h9 => ?_) (fun h9 => ?_)
  · skip
    refine r_aload_n (pc := 22) C dX5_odds_22 rfl 0 rfl ?_
    refine r_ldc (pc := 23) C (-1000001) t_854 (by decide) dX5_odds_23 ?_
    refine r_cVi (pc := 25) C (c_finds g 0 (by decide) σ) yX5_finds_w O_41 rfl rfl t_855 ⟨by decide, by decide⟩ (Nat.le_of_ble_eq_true rfl) (by rw [show ((-1000001) : Int) = -1000001 - ((0 : Nat) : Int) by decide]; rfl) dX5_odds_25 ?_
    refine r_i2l (pc := 28) C ⟨by omega, by omega⟩ dX5_odds_28 ?_
    exact r_retl (pc := 29) C (by first | (exfalso; omega; done) | ((first | rw [if_pos (by omega)] | rw [if_neg (by omega)]); (try rfl))) (by first | (exfalso; omega; done) | ((first | rw [if_pos (by omega)] | rw [if_neg (by omega)]); (try rfl))) dX5_odds_29
  · skip
    refine r_iload_n (pc := 12) C dX5_odds_12 rfl 2 rfl ?_
    refine r_i2l (pc := 13) C h_w dX5_odds_13 ?_
    refine r_lconst (pc := 14) C (n := 0) dX5_odds_14 (by decide) ?_
    refine r_lconst (pc := 15) C (n := 1) dX5_odds_15 (by decide) ?_
    refine r_cSi (pc := 16) C (c_in g w 0 1 ⟨by have := h_w.1; omega, by have := h_w.2; omega⟩ ⟨by omega, by omega⟩ ⟨by omega, by omega⟩ σ) yX5_in_w rfl t_846 ⟨by decide, by decide⟩ (Nat.le_of_ble_eq_true rfl) rfl dX5_odds_16 ?_
    refine r_ifz_ne (pc := 19) C 30 dX5_odds_19 (by decide) (fun h19 => ?_) (fun h19 => ?_)
    · skip
      refine r_bipush (pc := 30) C dX5_odds_30 (by decide) ?_
      refine r_aload_n (pc := 32) C dX5_odds_32 rfl 0 rfl ?_
      refine r_cVi (pc := 33) C (c_heldOnes g  ρ σ hS hn hM) yX5_heldOnes_w O_41 rfl rfl t_1004 ⟨by decide, by decide⟩ (Nat.le_of_ble_eq_true rfl) rfl dX5_odds_33 ?_
      refine r_cSi (pc := 36) C (c_ones g (setF (fun f => decide (0 ≤ holder (ρ 0 7) (ρ 6) f)) 12) (by omega) σ) yX5_ones_w rfl t_1101 ⟨by decide, by decide⟩ (Nat.le_of_ble_eq_true rfl) rfl dX5_odds_36 ?_
      refine r_isub (pc := 39) C dX5_odds_39 ?_
      refine r_istore_n (pc := 40) C dX5_odds_40 rfl (by decide) [1, 2, 3, 0] (lv' := [(0, .ref (gA g 41)), (1, .int (iI (n))), (2, .int (iI (w))), (3, .int (iI (12 - (bitc (setF (fun f => decide (0 ≤ holder (ρ 0 7) (ρ 6) f)) 12)))))]) rfl ?_
      refine r_bipush (pc := 41) C dX5_odds_41 (by decide) ?_
      refine r_istore (pc := 43) C dX5_odds_43 (by decide) [1, 2, 3, 4, 0] (lv' := [(0, .ref (gA g 41)), (1, .int (iI (n))), (2, .int (iI (w))), (3, .int (iI (12 - (bitc (setF (fun f => decide (0 ≤ holder (ρ 0 7) (ρ 6) f)) 12))))), (4, .int (iI (12)))]) rfl ?_
      have L45 : ∀ (n_ : Nat) (e : Nat) (x45_4 : Int), e < n_ → (1 ≤ e ∧ e ≤ 12) → (gdF (12 - bitc (setF (fun f => decide (0 ≤ holder (ρ 0 7) (ρ 6) f)) 12)) 12 = gdF (12 - bitc (setF (fun f => decide (0 ≤ holder (ρ 0 7) (ρ 6) f)) 12)) e) → x45_4 = (e : Int) → J g E (pL (if (0 ≤ n ∧ n ≤ 14) ∧ 0 ≤ w ∧ w ≤ 1 then pwr (if w = 0 then (12 - bitc (setF (fun f => decide (0 ≤ holder (ρ 0 7) (ρ 6) f)) 12)) / gdF (12 - bitc (setF (fun f => decide (0 ≤ holder (ρ 0 7) (ρ 6) f)) 12)) 12 else 12 / gdF (12 - bitc (setF (fun f => decide (0 ≤ holder (ρ 0 7) (ρ 6) f)) 12)) 12) n.toNat else (-1000001 - ((0 : Nat) : Int))) (if (0 ≤ n ∧ n ≤ 14) ∧ 0 ≤ w ∧ w ≤ 1 then σ else finM 0 σ)) 8 45 [(0, .ref (gA g 41)), (1, .int (iI (n))), (2, .int (iI (w))), (3, .int (iI (12 - (bitc (setF (fun f => decide (0 ≤ holder (ρ 0 7) (ρ 6) f)) 12))))), (4, .int (iI (x45_4)))] [] σ := by
        intro n_
        induction n_ with
        | zero => intro e x45_4  hm_; exact absurd hm_ (Nat.not_lt_zero _)
        | succ n_ ih45 =>
          intro e x45_4  hm45 hi45_0 hi45_1 e45_0 
          subst e45_0 
          have hm1 := Int.emod_nonneg (12 - bitc (setF (fun f => decide (0 ≤ holder (ρ 0 7) (ρ 6) f)) 12)) (show (e : Int) ≠ 0 by omega)
          have hm2 := Int.emod_lt_of_pos (12 - bitc (setF (fun f => decide (0 ≤ holder (ρ 0 7) (ρ 6) f)) 12)) (show (0 : Int) < (e : Int) by omega)
          have hm3 := Int.emod_nonneg 12 (show (e : Int) ≠ 0 by omega)
          have hm4 := Int.emod_lt_of_pos 12 (show (0 : Int) < (e : Int) by omega)
          refine r_iload_n (pc := 45) C dX5_odds_45 rfl 3 rfl ?_
          refine r_iload (pc := 46) C dX5_odds_46 4 rfl ?_
          refine r_irem (pc := 48) C (by omega) (by omega) (by omega) (by omega) dX5_odds_48 ?_
          refine r_if_ne (pc := 49) C 60 ⟨by omega, by omega⟩ dX5_odds_49 (by decide) (fun h49 => ?_) (fun h49 => ?_)
          · skip
            have h2e : 2 ≤ e := by rcases (show e = 1 ∨ 2 ≤ e by omega) with q | q <;> (first | exact q | (subst q; omega))
            refine r_iinc (pc := 60) C dX5_odds_60 4 rfl (by decide) [1, 2, 3, 4, 0] (lv' := [(0, .ref (gA g 41)), (1, .int (iI (n))), (2, .int (iI (w))), (3, .int (iI (12 - (bitc (setF (fun f => decide (0 ≤ holder (ρ 0 7) (ρ 6) f)) 12))))), (4, .int (iI ((e : Int) + (-1))))]) rfl ?_
            refine r_goto (pc := 63) C 45 dX5_odds_63 (by decide) ?_
            exact ih45 (e - 1) _ (by omega) (by omega) (by rw [hi45_1, gdF_step _ (by omega), if_pos (by omega)]) (by omega)
          · skip
            refine r_bipush (pc := 52) C dX5_odds_52 (by decide) ?_
            refine r_iload (pc := 54) C dX5_odds_54 4 rfl ?_
            refine r_irem (pc := 56) C (by omega) (by omega) (by omega) (by omega) dX5_odds_56 ?_
            refine r_if_eq (pc := 57) C 66 ⟨by omega, by omega⟩ dX5_odds_57 (by decide) (fun h57 => ?_) (fun h57 => ?_)
            · skip
              have hg : gdF (12 - bitc (setF (fun f => decide (0 ≤ holder (ρ 0 7) (ρ 6) f)) 12)) 12 = (e : Int) := by rw [hi45_1]; rcases (show e = 1 ∨ 2 ≤ e by omega) with q | q <;> (first | (subst q; rfl) | (rw [gdF_step _ q, if_neg (by omega)]))
              have hq1 : 0 ≤ (12 - bitc (setF (fun f => decide (0 ≤ holder (ρ 0 7) (ρ 6) f)) 12)) / gdF (12 - bitc (setF (fun f => decide (0 ≤ holder (ρ 0 7) (ρ 6) f)) 12)) 12 ∧ (12 - bitc (setF (fun f => decide (0 ≤ holder (ρ 0 7) (ρ 6) f)) 12)) / gdF (12 - bitc (setF (fun f => decide (0 ≤ holder (ρ 0 7) (ρ 6) f)) 12)) 12 ≤ 12 := ⟨Int.ediv_nonneg (by omega) (by omega), by have := Int.ediv_le_self (a := (12 - bitc (setF (fun f => decide (0 ≤ holder (ρ 0 7) (ρ 6) f)) 12))) (gdF (12 - bitc (setF (fun f => decide (0 ≤ holder (ρ 0 7) (ρ 6) f)) 12)) 12) (by omega); omega⟩
              have hq2 : 0 ≤ 12 / gdF (12 - bitc (setF (fun f => decide (0 ≤ holder (ρ 0 7) (ρ 6) f)) 12)) 12 ∧ 12 / gdF (12 - bitc (setF (fun f => decide (0 ≤ holder (ρ 0 7) (ρ 6) f)) 12)) 12 ≤ 12 := ⟨Int.ediv_nonneg (by omega) (by omega), Int.ediv_le_self (a := 12) (gdF (12 - bitc (setF (fun f => decide (0 ≤ holder (ρ 0 7) (ρ 6) f)) 12)) 12) (by omega)⟩
              have hpt : 0 ≤ (if w = 0 then (12 - bitc (setF (fun f => decide (0 ≤ holder (ρ 0 7) (ρ 6) f)) 12)) / gdF (12 - bitc (setF (fun f => decide (0 ≤ holder (ρ 0 7) (ρ 6) f)) 12)) 12 else 12 / gdF (12 - bitc (setF (fun f => decide (0 ≤ holder (ρ 0 7) (ρ 6) f)) 12)) 12) ∧ (if w = 0 then (12 - bitc (setF (fun f => decide (0 ≤ holder (ρ 0 7) (ρ 6) f)) 12)) / gdF (12 - bitc (setF (fun f => decide (0 ≤ holder (ρ 0 7) (ρ 6) f)) 12)) 12 else 12 / gdF (12 - bitc (setF (fun f => decide (0 ≤ holder (ρ 0 7) (ρ 6) f)) 12)) 12) ≤ 12 := by split <;> assumption
              refine r_lconst (pc := 66) C (n := 1) dX5_odds_66 (by decide) ?_
              refine r_lstore (pc := 67) C dX5_odds_67 (by decide) [1, 2, 3, 4, 5, 0] (lv' := [(0, .ref (gA g 41)), (1, .int (iI (n))), (2, .int (iI (w))), (3, .int (iI (12 - (bitc (setF (fun f => decide (0 ≤ holder (ρ 0 7) (ρ 6) f)) 12))))), (4, .int (iI ((e : Int)))), (5, .long (iL (1)))]) rfl ?_
              refine r_iconst (pc := 69) C dX5_odds_69 ?_
              refine r_istore (pc := 70) C dX5_odds_70 (by decide) [1, 2, 3, 4, 5, 6, 0] (lv' := [(0, .ref (gA g 41)), (1, .int (iI (n))), (2, .int (iI (w))), (3, .int (iI (12 - (bitc (setF (fun f => decide (0 ≤ holder (ρ 0 7) (ρ 6) f)) 12))))), (4, .int (iI ((e : Int)))), (5, .long (iL (1))), (7, .int (iI (0)))]) rfl ?_
              have L72 : ∀ (n_ : Nat) (i : Nat) (x72_5 x72_7 : Int), n.toNat - i < n_ → ((i : Int) ≤ n) → x72_5 = pwr (if w = 0 then (12 - bitc (setF (fun f => decide (0 ≤ holder (ρ 0 7) (ρ 6) f)) 12)) / gdF (12 - bitc (setF (fun f => decide (0 ≤ holder (ρ 0 7) (ρ 6) f)) 12)) 12 else 12 / gdF (12 - bitc (setF (fun f => decide (0 ≤ holder (ρ 0 7) (ρ 6) f)) 12)) 12) i → x72_7 = (i : Int) → J g E (pL (if (0 ≤ n ∧ n ≤ 14) ∧ 0 ≤ w ∧ w ≤ 1 then pwr (if w = 0 then (12 - bitc (setF (fun f => decide (0 ≤ holder (ρ 0 7) (ρ 6) f)) 12)) / gdF (12 - bitc (setF (fun f => decide (0 ≤ holder (ρ 0 7) (ρ 6) f)) 12)) 12 else 12 / gdF (12 - bitc (setF (fun f => decide (0 ≤ holder (ρ 0 7) (ρ 6) f)) 12)) 12) n.toNat else (-1000001 - ((0 : Nat) : Int))) (if (0 ≤ n ∧ n ≤ 14) ∧ 0 ≤ w ∧ w ≤ 1 then σ else finM 0 σ)) 8 72 [(0, .ref (gA g 41)), (1, .int (iI (n))), (2, .int (iI (w))), (3, .int (iI (12 - (bitc (setF (fun f => decide (0 ≤ holder (ρ 0 7) (ρ 6) f)) 12))))), (4, .int (iI ((e : Int)))), (5, .long (iL (x72_5))), (7, .int (iI (x72_7)))] [] σ := by
                intro n_
                induction n_ with
                | zero => intro i x72_5 x72_7  hm_; exact absurd hm_ (Nat.not_lt_zero _)
                | succ n_ ih72 =>
                  intro i x72_5 x72_7  hm72 hi72_0 e72_0 e72_1 
                  subst e72_0 e72_1 
                  refine r_iload (pc := 72) C dX5_odds_72 6 rfl ?_
                  refine r_iload_n (pc := 74) C dX5_odds_74 rfl 1 rfl ?_
                  refine r_icmp_ge (pc := 75) C 107 ⟨by omega, by omega⟩ h_n dX5_odds_75 (by decide) (fun h75 => ?_) (fun h75 => ?_)
                  · skip
                    refine r_lload (pc := 107) C dX5_odds_107 5 rfl ?_
                    exact r_retl (pc := 109) C (by rw [show i = n.toNat by omega]; exact (if_pos (by omega)).symm) ((if_pos (by omega)).symm) dX5_odds_109
                  · skip
                    refine r_lload (pc := 78) C dX5_odds_78 5 rfl ?_
                    refine r_iload_n (pc := 80) C dX5_odds_80 rfl 2 rfl ?_
                    refine r_if_ne (pc := 81) C 92 h_w dX5_odds_81 (by decide) (fun h81 => ?_) (fun h81 => ?_)
                    · skip
                      refine r_bipush (pc := 92) C dX5_odds_92 (by decide) ?_
                      refine r_iload (pc := 94) C dX5_odds_94 4 rfl ?_
                      refine r_idiv (pc := 96) C (by omega) (by omega) (by omega) (by omega) dX5_odds_96 ?_
                      refine r_top (show _ = (if w = 0 then (12 - bitc (setF (fun f => decide (0 ≤ holder (ρ 0 7) (ρ 6) f)) 12)) / gdF (12 - bitc (setF (fun f => decide (0 ≤ holder (ρ 0 7) (ρ 6) f)) 12)) 12 else 12 / gdF (12 - bitc (setF (fun f => decide (0 ≤ holder (ρ 0 7) (ρ 6) f)) 12)) 12) by rw [hg]; exact (if_neg (by omega)).symm) ?_
                      skip
                      refine r_i2l (pc := 97) C ⟨by omega, by omega⟩ dX5_odds_97 ?_
                      refine r_lmul (pc := 98) C dX5_odds_98 ?_
                      refine r_lstore (pc := 99) C dX5_odds_99 (by decide) [1, 2, 3, 4, 5, 0, 6] (lv' := [(0, .ref (gA g 41)), (1, .int (iI (n))), (2, .int (iI (w))), (3, .int (iI (12 - (bitc (setF (fun f => decide (0 ≤ holder (ρ 0 7) (ρ 6) f)) 12))))), (4, .int (iI ((e : Int)))), (5, .long (iL ((pwr (if w = 0 then (12 - bitc (setF (fun f => decide (0 ≤ holder (ρ 0 7) (ρ 6) f)) 12)) / gdF (12 - bitc (setF (fun f => decide (0 ≤ holder (ρ 0 7) (ρ 6) f)) 12)) 12 else 12 / gdF (12 - bitc (setF (fun f => decide (0 ≤ holder (ρ 0 7) (ρ 6) f)) 12)) 12) i) * (if w = 0 then (12 - bitc (setF (fun f => decide (0 ≤ holder (ρ 0 7) (ρ 6) f)) 12)) / gdF (12 - bitc (setF (fun f => decide (0 ≤ holder (ρ 0 7) (ρ 6) f)) 12)) 12 else 12 / gdF (12 - bitc (setF (fun f => decide (0 ≤ holder (ρ 0 7) (ρ 6) f)) 12)) 12)))), (7, .int (iI ((i : Int))))]) rfl ?_
                      refine r_iinc (pc := 101) C dX5_odds_101 6 rfl (by decide) [1, 2, 3, 4, 5, 6, 0] (lv' := [(0, .ref (gA g 41)), (1, .int (iI (n))), (2, .int (iI (w))), (3, .int (iI (12 - (bitc (setF (fun f => decide (0 ≤ holder (ρ 0 7) (ρ 6) f)) 12))))), (4, .int (iI ((e : Int)))), (5, .long (iL ((pwr (if w = 0 then (12 - bitc (setF (fun f => decide (0 ≤ holder (ρ 0 7) (ρ 6) f)) 12)) / gdF (12 - bitc (setF (fun f => decide (0 ≤ holder (ρ 0 7) (ρ 6) f)) 12)) 12 else 12 / gdF (12 - bitc (setF (fun f => decide (0 ≤ holder (ρ 0 7) (ρ 6) f)) 12)) 12) i) * (if w = 0 then (12 - bitc (setF (fun f => decide (0 ≤ holder (ρ 0 7) (ρ 6) f)) 12)) / gdF (12 - bitc (setF (fun f => decide (0 ≤ holder (ρ 0 7) (ρ 6) f)) 12)) 12 else 12 / gdF (12 - bitc (setF (fun f => decide (0 ≤ holder (ρ 0 7) (ρ 6) f)) 12)) 12)))), (7, .int (iI ((i : Int) + 1)))]) rfl ?_
                      refine r_goto (pc := 104) C 72 dX5_odds_104 (by decide) ?_
                      exact ih72 (i + 1) _ _ (by omega) (by omega) (rfl) (by omega)
                    · skip
                      refine r_iload_n (pc := 84) C dX5_odds_84 rfl 3 rfl ?_
                      refine r_iload (pc := 85) C dX5_odds_85 4 rfl ?_
                      refine r_idiv (pc := 87) C (by omega) (by omega) (by omega) (by omega) dX5_odds_87 ?_
                      refine r_top (show _ = (if w = 0 then (12 - bitc (setF (fun f => decide (0 ≤ holder (ρ 0 7) (ρ 6) f)) 12)) / gdF (12 - bitc (setF (fun f => decide (0 ≤ holder (ρ 0 7) (ρ 6) f)) 12)) 12 else 12 / gdF (12 - bitc (setF (fun f => decide (0 ≤ holder (ρ 0 7) (ρ 6) f)) 12)) 12) by rw [hg]; exact (if_pos (by omega)).symm) ?_
                      skip
                      refine r_i2l (pc := 88) C ⟨by omega, by omega⟩ dX5_odds_88 ?_
                      refine r_goto (pc := 89) C 98 dX5_odds_89 (by decide) ?_
                      refine r_lmul (pc := 98) C dX5_odds_98 ?_
                      refine r_lstore (pc := 99) C dX5_odds_99 (by decide) [1, 2, 3, 4, 5, 0, 6] (lv' := [(0, .ref (gA g 41)), (1, .int (iI (n))), (2, .int (iI (w))), (3, .int (iI (12 - (bitc (setF (fun f => decide (0 ≤ holder (ρ 0 7) (ρ 6) f)) 12))))), (4, .int (iI ((e : Int)))), (5, .long (iL ((pwr (if w = 0 then (12 - bitc (setF (fun f => decide (0 ≤ holder (ρ 0 7) (ρ 6) f)) 12)) / gdF (12 - bitc (setF (fun f => decide (0 ≤ holder (ρ 0 7) (ρ 6) f)) 12)) 12 else 12 / gdF (12 - bitc (setF (fun f => decide (0 ≤ holder (ρ 0 7) (ρ 6) f)) 12)) 12) i) * (if w = 0 then (12 - bitc (setF (fun f => decide (0 ≤ holder (ρ 0 7) (ρ 6) f)) 12)) / gdF (12 - bitc (setF (fun f => decide (0 ≤ holder (ρ 0 7) (ρ 6) f)) 12)) 12 else 12 / gdF (12 - bitc (setF (fun f => decide (0 ≤ holder (ρ 0 7) (ρ 6) f)) 12)) 12)))), (7, .int (iI ((i : Int))))]) rfl ?_
                      refine r_iinc (pc := 101) C dX5_odds_101 6 rfl (by decide) [1, 2, 3, 4, 5, 6, 0] (lv' := [(0, .ref (gA g 41)), (1, .int (iI (n))), (2, .int (iI (w))), (3, .int (iI (12 - (bitc (setF (fun f => decide (0 ≤ holder (ρ 0 7) (ρ 6) f)) 12))))), (4, .int (iI ((e : Int)))), (5, .long (iL ((pwr (if w = 0 then (12 - bitc (setF (fun f => decide (0 ≤ holder (ρ 0 7) (ρ 6) f)) 12)) / gdF (12 - bitc (setF (fun f => decide (0 ≤ holder (ρ 0 7) (ρ 6) f)) 12)) 12 else 12 / gdF (12 - bitc (setF (fun f => decide (0 ≤ holder (ρ 0 7) (ρ 6) f)) 12)) 12) i) * (if w = 0 then (12 - bitc (setF (fun f => decide (0 ≤ holder (ρ 0 7) (ρ 6) f)) 12)) / gdF (12 - bitc (setF (fun f => decide (0 ≤ holder (ρ 0 7) (ρ 6) f)) 12)) 12 else 12 / gdF (12 - bitc (setF (fun f => decide (0 ≤ holder (ρ 0 7) (ρ 6) f)) 12)) 12)))), (7, .int (iI ((i : Int) + 1)))]) rfl ?_
                      refine r_goto (pc := 104) C 72 dX5_odds_104 (by decide) ?_
                      exact ih72 (i + 1) _ _ (by omega) (by omega) (rfl) (by omega)
              exact L72 _ 0 _ _ (Nat.lt_succ_self _) (by omega) (rfl) (rfl)
            · skip
              have h2e : 2 ≤ e := by rcases (show e = 1 ∨ 2 ≤ e by omega) with q | q <;> (first | exact q | (subst q; omega))
              refine r_iinc (pc := 60) C dX5_odds_60 4 rfl (by decide) [1, 2, 3, 4, 0] (lv' := [(0, .ref (gA g 41)), (1, .int (iI (n))), (2, .int (iI (w))), (3, .int (iI (12 - (bitc (setF (fun f => decide (0 ≤ holder (ρ 0 7) (ρ 6) f)) 12))))), (4, .int (iI ((e : Int) + (-1))))]) rfl ?_
              refine r_goto (pc := 63) C 45 dX5_odds_63 (by decide) ?_
              exact ih45 (e - 1) _ (by omega) (by omega) (by rw [hi45_1, gdF_step _ (by omega), if_pos (by omega)]) (by omega)
      exact L45 _ 12 _ (Nat.lt_succ_self _) (by omega) (by rfl) (rfl)
    · skip
      refine r_aload_n (pc := 22) C dX5_odds_22 rfl 0 rfl ?_
      refine r_ldc (pc := 23) C (-1000001) t_854 (by decide) dX5_odds_23 ?_
      refine r_cVi (pc := 25) C (c_finds g 0 (by decide) σ) yX5_finds_w O_41 rfl rfl t_855 ⟨by decide, by decide⟩ (Nat.le_of_ble_eq_true rfl) (by rw [show ((-1000001) : Int) = -1000001 - ((0 : Nat) : Int) by decide]; rfl) dX5_odds_25 ?_
      refine r_i2l (pc := 28) C ⟨by omega, by omega⟩ dX5_odds_28 ?_
      exact r_retl (pc := 29) C (by first | (exfalso; omega; done) | ((first | rw [if_pos (by omega)] | rw [if_neg (by omega)]); (try rfl))) (by first | (exfalso; omega; done) | ((first | rw [if_pos (by omega)] | rw [if_neg (by omega)]); (try rfl))) dX5_odds_29
