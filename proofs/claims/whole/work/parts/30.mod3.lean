set_option maxHeartbeats 4000000 in
set_option maxRecDepth 100000 in
theorem c_draughts (g : Gt) (ρ σ : Sg) (hS : σ 42 = mkS ρ) (hfl : 0 ≤ ρ 0 8 ∧ ρ 0 8 ≤ 99) (hw : -3 ≤ ρ 0 9 ∧ ρ 0 9 ≤ 3) (hD : rgD (ρ 1)) : Mt g yX5_draughts cX5_draughts 2 none 1 [.ref (gA g 41)] σ (pDv (us ρ 1 (dyD (ρ 0 9) (ρ 0 8) (ρ 1))) σ) := by
  refine mt_of (own := RX5) (by decide) rfl (Nat.le_of_ble_eq_true rfl) (fun E C => ?_)
  show J g E (pDv (us ρ 1 (dyD (ρ 0 9) (ρ 0 8) (ρ 1))) σ) 2 0 [(0, .ref (gA g 41))] [] σ
  refine r_iconst (pc := 0) C dX5_draughts_0 ?_
  refine r_istore_n (pc := 1) C dX5_draughts_1 rfl (by decide) [1, 0] (lv' := [(0, .ref (gA g 41)), (1, .int (iI (0)))]) rfl ?_
  have L2 : ∀ (n_ : Nat) (i : Nat) (x2_1 : Int) (s2 : Sg), 12 - i < n_ → (i ≤ 12) → x2_1 = (i : Int) → s2 = (us σ 47 (mapTo (fun q => ρ 1 q - ρ 1 q / 10) (σ 47) i)) → J g E (pDv (us ρ 1 (dyD (ρ 0 9) (ρ 0 8) (ρ 1))) σ) 2 2 [(0, .ref (gA g 41)), (1, .int (iI (x2_1)))] [] s2 := by
    intro n_
    induction n_ with
    | zero => intro i x2_1 s2 hm_; exact absurd hm_ (Nat.not_lt_zero _)
    | succ n_ ih2 =>
      intro i x2_1 s2 hm2 hi2_0 e2_0 es2
      subst e2_0 es2
      refine r_iload_n (pc := 2) C dX5_draughts_2 rfl 1 rfl ?_
      refine r_bipush (pc := 3) C dX5_draughts_3 (by decide) ?_
      refine r_icmp_ge (pc := 5) C 40 ⟨by omega, by omega⟩ ⟨by omega, by omega⟩ dX5_draughts_5 (by decide) (fun h5 => ?_) (fun h5 => ?_)
      · skip
        refine r_iconst (pc := 40) C dX5_draughts_40 ?_
        refine r_istore_n (pc := 41) C dX5_draughts_41 rfl (by decide) [1, 0] (lv' := [(0, .ref (gA g 41)), (1, .int (iI (0)))]) rfl ?_
        have L42 : ∀ (n_ : Nat) (j : Nat) (x42_1 : Int) (s42 : Sg), 12 - j < n_ → (j ≤ 12) → x42_1 = (j : Int) → s42 = (us σ 47 (thF (ρ 0 9) (ρ 1) (mapTo (fun q => ρ 1 q - ρ 1 q / 10) (σ 47) 12) j)) → J g E (pDv (us ρ 1 (dyD (ρ 0 9) (ρ 0 8) (ρ 1))) σ) 2 42 [(0, .ref (gA g 41)), (1, .int (iI (x42_1)))] [] s42 := by
          intro n_
          induction n_ with
          | zero => intro j x42_1 s42 hm_; exact absurd hm_ (Nat.not_lt_zero _)
          | succ n_ ih42 =>
            intro j x42_1 s42 hm42 hi42_0 e42_0 es42
            subst e42_0 es42
            refine r_iload_n (pc := 42) C dX5_draughts_42 rfl 1 rfl ?_
            refine r_bipush (pc := 43) C dX5_draughts_43 (by decide) ?_
            refine r_icmp_ge (pc := 45) C 84 ⟨by omega, by omega⟩ ⟨by omega, by omega⟩ dX5_draughts_45 (by decide) (fun h45 => ?_) (fun h45 => ?_)
            · skip
              refine r_iconst (pc := 84) C dX5_draughts_84 ?_
              refine r_istore_n (pc := 85) C dX5_draughts_85 rfl (by decide) [1, 0] (lv' := [(0, .ref (gA g 41)), (1, .int (iI (0)))]) rfl ?_
              have L86 : ∀ (n_ : Nat) (k : Nat) (x86_1 : Int) (s86 : Sg), 12 - k < n_ → (k ≤ 12) → x86_1 = (k : Int) → s86 = (us (us σ 47 (thF (ρ 0 9) (ρ 1) (mapTo (fun q => ρ 1 q - ρ 1 q / 10) (σ 47) 12) 12)) 42 (mkS (us ρ 1 (mapTo (fun j => min (min (blD (ρ 0 9) (ρ 1) j) 9999 + ρ 0 8) 9999) (ρ 1) k)))) → J g E (pDv (us ρ 1 (dyD (ρ 0 9) (ρ 0 8) (ρ 1))) σ) 2 86 [(0, .ref (gA g 41)), (1, .int (iI (x86_1)))] [] s86 := by
                intro n_
                induction n_ with
                | zero => intro k x86_1 s86 hm_; exact absurd hm_ (Nat.not_lt_zero _)
                | succ n_ ih86 =>
                  intro k x86_1 s86 hm86 hi86_0 e86_0 es86
                  subst e86_0 es86
                  refine r_iload_n (pc := 86) C dX5_draughts_86 rfl 1 rfl ?_
                  refine r_bipush (pc := 87) C dX5_draughts_87 (by decide) ?_
                  refine r_icmp_ge (pc := 89) C 131 ⟨by omega, by omega⟩ ⟨by omega, by omega⟩ dX5_draughts_89 (by decide) (fun h89 => ?_) (fun h89 => ?_)
                  · skip
                    exact r_retD (pc := 131) C (by rw [us_s, show k = 12 by omega, dyD_mod hD]) (fun c h1 h2 => by rw [us_n _ _ h1, us_n _ _ h2]) dX5_draughts_131
                  · skip
                    refine r_aload_n (pc := 92) C dX5_draughts_92 rfl 0 rfl ?_
                    refine r_getR5 (pc := 93) C 0 (k' := 42) rfl O_41 (by decide) rfl t_780 dX5_draughts_93 ?_
                    refine r_iconst (pc := 96) C dX5_draughts_96 ?_
                    refine r_iload_n (pc := 97) C dX5_draughts_97 rfl 1 rfl ?_
                    refine r_iadd (pc := 98) C dX5_draughts_98 ?_
                    refine r_aload_n (pc := 99) C dX5_draughts_99 rfl 0 rfl ?_
                    refine r_getR5 (pc := 100) C 7 (k' := 47) rfl O_41 (by decide) rfl t_787 dX5_draughts_100 ?_
                    refine r_iload_n (pc := 103) C dX5_draughts_103 rfl 1 rfl ?_
                    have hb := blD_rng (w := ρ 0 9) hD k (by omega)
                    rw [mapTo_lt (show k < 12 by omega)] at hb
                    refine r_iald (pc := 104) C k A_47 (by omega) (by omega) dX5_draughts_104 ?_
                    refine r_top ((us_o2 (k := 42) (k' := 47) _ _ _ (by omega)).trans (us_s2 _ _ _ _)) ?_
                    refine r_top (show (thF (ρ 0 9) (ρ 1) (mapTo (fun q => ρ 1 q - ρ 1 q / 10) (σ 47) 12) 12) k = blD (ρ 0 9) (ρ 1) k from thF_is (ρ 0 9) (ρ 1) (σ 47) hw k (by omega)) ?_
                    refine r_sipush (pc := 105) C dX5_draughts_105 (by decide) ?_
                    refine r_cSi (pc := 108) C (c_heldTo g (blD (ρ 0 9) (ρ 1) k) 9999 ⟨by omega, by omega⟩ ⟨by omega, by omega⟩ (us (us σ 47 (thF (ρ 0 9) (ρ 1) (mapTo (fun q => ρ 1 q - ρ 1 q / 10) (σ 47) 12) 12)) 42 (mkS (us ρ 1 (mapTo (fun j => min (min (blD (ρ 0 9) (ρ 1) j) 9999 + ρ 0 8) 9999) (ρ 1) k))))) yX5_heldTo_w rfl t_958 ⟨by decide, by decide⟩ (Nat.le_of_ble_eq_true rfl) rfl dX5_draughts_108 ?_
                    refine r_aload_n (pc := 111) C dX5_draughts_111 rfl 0 rfl ?_
                    refine r_getR5 (pc := 112) C 0 (k' := 42) rfl O_41 (by decide) rfl t_780 dX5_draughts_112 ?_
                    refine r_iconst (pc := 115) C dX5_draughts_115 ?_
                    refine r_iald (pc := 116) C 2 A_42 (by omega) (by omega) dX5_draughts_116 ?_
                    refine r_top (show _ = ρ 0 8 from (congrFun (us_s _ _ _) _).trans ((mkS_at rfl).trans (us_o2 (k := 1) (k' := 0) _ _ _ (by omega)))) ?_
                    refine r_iadd (pc := 117) C dX5_draughts_117 ?_
                    refine r_sipush (pc := 118) C dX5_draughts_118 (by decide) ?_
                    refine r_cSi (pc := 121) C (c_heldTo g ((min (blD (ρ 0 9) (ρ 1) k) 9999) + (ρ 0 8)) 9999 ⟨by omega, by omega⟩ ⟨by omega, by omega⟩ (us (us σ 47 (thF (ρ 0 9) (ρ 1) (mapTo (fun q => ρ 1 q - ρ 1 q / 10) (σ 47) 12) 12)) 42 (mkS (us ρ 1 (mapTo (fun j => min (min (blD (ρ 0 9) (ρ 1) j) 9999 + ρ 0 8) 9999) (ρ 1) k))))) yX5_heldTo_w rfl t_958 ⟨by decide, by decide⟩ (Nat.le_of_ble_eq_true rfl) rfl dX5_draughts_121 ?_
                    refine r_iast (pc := 124) C (5 + k) A_42 (by omega) (by omega) dX5_draughts_124 ?_
                    refine r_sg (wrS2 (cidx_D (by omega))) ?_
                    refine r_iinc (pc := 125) C dX5_draughts_125 1 rfl (by decide) [1, 0] (lv' := [(0, .ref (gA g 41)), (1, .int (iI ((k : Int) + 1)))]) rfl ?_
                    refine r_goto (pc := 128) C 86 dX5_draughts_128 (by decide) ?_
                    exact ih86 (k + 1) _ _ (by omega) (by omega) (by omega) (congrArg (fun q => us (us σ 47 (thF (ρ 0 9) (ρ 1) (mapTo (fun q => ρ 1 q - ρ 1 q / 10) (σ 47) 12) 12)) 42 (mkS q)) ((wr_us _ _ _ _ _).trans (congrArg (us _ 1) (mapTo_s (fun j => min (min (blD (ρ 0 9) (ρ 1) j) 9999 + ρ 0 8) 9999) _ _))))
              exact L86 _ 0 _ _ (Nat.lt_succ_self _) (by omega) (rfl) (by rw [show j = 12 by omega, mapTo_0, us_id, ← hS]; exact (us_idx (us_n _ _ (by decide)).symm).symm)
            · skip
              refine r_aload_n (pc := 48) C dX5_draughts_48 rfl 0 rfl ?_
              refine r_getR5 (pc := 49) C 7 (k' := 47) rfl O_41 (by decide) rfl t_787 dX5_draughts_49 ?_
              refine r_iload_n (pc := 52) C dX5_draughts_52 rfl 1 rfl ?_
              refine r_aload_n (pc := 53) C dX5_draughts_53 rfl 0 rfl ?_
              refine r_getR5 (pc := 54) C 0 (k' := 42) rfl O_41 (by decide) rfl t_780 dX5_draughts_54 ?_
              refine r_iconst (pc := 57) C dX5_draughts_57 ?_
              refine r_iald (pc := 58) C 3 A_42 (by omega) (by omega) dX5_draughts_58 ?_
              refine r_top (show _ = ρ 0 9 from (congrFun ((us_n _ _ (by omega)).trans hS) _).trans (mkS_at rfl)) ?_
              refine r_iadd (pc := 59) C dX5_draughts_59 ?_
              have hmd := md_lt ((j : Int) + ρ 0 9)
              refine r_cSi (pc := 60) C (c_round g ((j : Int) + (ρ 0 9)) (by omega) (us σ 47 (thF (ρ 0 9) (ρ 1) (mapTo (fun q => ρ 1 q - ρ 1 q / 10) (σ 47) 12) j))) yX5_round_w rfl t_955 ⟨by decide, by decide⟩ (Nat.le_of_ble_eq_true rfl) rfl dX5_draughts_60 ?_
              refine r_dup2 (pc := 63) C rfl rfl dX5_draughts_63 ?_
              refine r_iald (pc := 64) C (md ((j : Int) + (ρ 0 9))) A_47 (by omega) (by omega) dX5_draughts_64 ?_
              refine r_top (us_s2 _ _ _ _) ?_
              refine r_aload_n (pc := 65) C dX5_draughts_65 rfl 0 rfl ?_
              refine r_getR5 (pc := 66) C 0 (k' := 42) rfl O_41 (by decide) rfl t_780 dX5_draughts_66 ?_
              refine r_iconst (pc := 69) C dX5_draughts_69 ?_
              refine r_iload_n (pc := 70) C dX5_draughts_70 rfl 1 rfl ?_
              refine r_iadd (pc := 71) C dX5_draughts_71 ?_
              have hd := hD j (by omega)
              refine r_iald (pc := 72) C (5 + j) A_42 (by omega) (by omega) dX5_draughts_72 ?_
              refine r_top (show _ = ρ 1 j from (congrFun ((us_n _ _ (by omega)).trans hS) _).trans (mkS_at (cidx_D (by omega)))) ?_
              refine r_bipush (pc := 73) C dX5_draughts_73 (by decide) ?_
              refine r_idiv (pc := 75) C (by omega) (by omega) (by omega) (by omega) dX5_draughts_75 ?_
              refine r_iadd (pc := 76) C dX5_draughts_76 ?_
              refine r_iast (pc := 77) C (md ((j : Int) + (ρ 0 9))) A_47 (by omega) (by omega) dX5_draughts_77 ?_
              refine r_iinc (pc := 78) C dX5_draughts_78 1 rfl (by decide) [1, 0] (lv' := [(0, .ref (gA g 41)), (1, .int (iI ((j : Int) + 1)))]) rfl ?_
              refine r_goto (pc := 81) C 42 dX5_draughts_81 (by decide) ?_
              exact ih42 (j + 1) _ _ (by omega) (by omega) (by omega) ((wr_us _ _ _ _ _).trans rfl)
        exact L42 _ 0 _ _ (Nat.lt_succ_self _) (by omega) (rfl) (by rw [show i = 12 by omega]; rfl)
      · skip
        refine r_aload_n (pc := 8) C dX5_draughts_8 rfl 0 rfl ?_
        refine r_getR5 (pc := 9) C 7 (k' := 47) rfl O_41 (by decide) rfl t_787 dX5_draughts_9 ?_
        refine r_iload_n (pc := 12) C dX5_draughts_12 rfl 1 rfl ?_
        refine r_aload_n (pc := 13) C dX5_draughts_13 rfl 0 rfl ?_
        refine r_getR5 (pc := 14) C 0 (k' := 42) rfl O_41 (by decide) rfl t_780 dX5_draughts_14 ?_
        refine r_iconst (pc := 17) C dX5_draughts_17 ?_
        refine r_iload_n (pc := 18) C dX5_draughts_18 rfl 1 rfl ?_
        refine r_iadd (pc := 19) C dX5_draughts_19 ?_
        have hd := hD i (by omega)
        refine r_iald (pc := 20) C (5 + i) A_42 (by omega) (by omega) dX5_draughts_20 ?_
        refine r_top (show _ = ρ 1 i from (congrFun ((us_n _ _ (by omega)).trans hS) _).trans (mkS_at (cidx_D (by omega)))) ?_
        refine r_aload_n (pc := 21) C dX5_draughts_21 rfl 0 rfl ?_
        refine r_getR5 (pc := 22) C 0 (k' := 42) rfl O_41 (by decide) rfl t_780 dX5_draughts_22 ?_
        refine r_iconst (pc := 25) C dX5_draughts_25 ?_
        refine r_iload_n (pc := 26) C dX5_draughts_26 rfl 1 rfl ?_
        refine r_iadd (pc := 27) C dX5_draughts_27 ?_
        refine r_iald (pc := 28) C (5 + i) A_42 (by omega) (by omega) dX5_draughts_28 ?_
        refine r_top (show _ = ρ 1 i from (congrFun ((us_n _ _ (by omega)).trans hS) _).trans (mkS_at (cidx_D (by omega)))) ?_
        refine r_bipush (pc := 29) C dX5_draughts_29 (by decide) ?_
        refine r_idiv (pc := 31) C (by omega) (by omega) (by omega) (by omega) dX5_draughts_31 ?_
        refine r_isub (pc := 32) C dX5_draughts_32 ?_
        refine r_iast (pc := 33) C i A_47 (by omega) (by omega) dX5_draughts_33 ?_
        refine r_iinc (pc := 34) C dX5_draughts_34 1 rfl (by decide) [1, 0] (lv' := [(0, .ref (gA g 41)), (1, .int (iI ((i : Int) + 1)))]) rfl ?_
        refine r_goto (pc := 37) C 2 dX5_draughts_37 (by decide) ?_
        exact ih2 (i + 1) _ _ (by omega) (by omega) (by omega) ((wr_us _ _ _ _ _).trans (congrArg (us _ 47) (mapTo_s (fun q => ρ 1 q - ρ 1 q / 10) _ _)))
  exact L2 _ 0 _ _ (Nat.lt_succ_self _) (by omega) (rfl) (by rw [mapTo_0, us_id])
set_option maxHeartbeats 4000000 in
set_option maxRecDepth 100000 in
theorem c_marks (g : Gt) (t : Nat) (ρ σ : Sg) (hS : σ 42 = mkS ρ) (hn : 0 ≤ ρ 0 7 ∧ ρ 0 7 ≤ 8) (hD : rgD (ρ 1)) (hK : rgK (ρ 3)) (hA : rgA (ρ 4)) (hG : rgG (ρ 5)) (hM : rgM (ρ 6)) (ht : (t : Int) < ρ 0 7) : Mt g yX5_marks cX5_marks 6 none 3 [.ref (gA g 41), .int (iI ((t : Int)))] σ (pV (us σ 42 (mkS (us ρ 6 (mkI t (ρ 4 t).toNat (leav (ρ 3 t) (ρ 1 (ρ 4 t).toNat) (ρ 5 t)) (ρ 6) (ρ 0 7).toNat))))) := by
  have ha := hA t (by omega)
  have hl := leav_rng (k := ρ 3 t) (d := ρ 1 (ρ 4 t).toNat) (hG t (by omega))
  have hm := hM (12 * t + (ρ 4 t).toNat) (by omega)
  refine mt_of (own := RX5) (by decide) rfl (Nat.le_of_ble_eq_true rfl) (fun E C => ?_)
  show J g E (pV (us σ 42 (mkS (us ρ 6 (mkI t (ρ 4 t).toNat (leav (ρ 3 t) (ρ 1 (ρ 4 t).toNat) (ρ 5 t)) (ρ 6) (ρ 0 7).toNat))))) 6 0 [(0, .ref (gA g 41)), (1, .int (iI ((t : Int))))] [] σ
  refine r_aload_n (pc := 0) C dX5_marks_0 rfl 0 rfl ?_
  refine r_iload_n (pc := 1) C dX5_marks_1 rfl 1 rfl ?_
  refine r_iconst (pc := 2) C dX5_marks_2 ?_
  refine r_cVi (pc := 3) C (c_its_1 g t (by omega) ρ σ hS) yX5_its_w O_41 rfl rfl t_875 ⟨by decide, by decide⟩ (Nat.le_of_ble_eq_true rfl) rfl dX5_marks_3 ?_
  refine r_istore_n (pc := 6) C dX5_marks_6 rfl (by decide) [1, 2, 0] (lv' := [(0, .ref (gA g 41)), (1, .int (iI ((t : Int)))), (2, .int (iI (ρ 4 t)))]) rfl ?_
  refine r_iload_n (pc := 7) C dX5_marks_7 rfl 1 rfl ?_
  refine r_iload_n (pc := 8) C dX5_marks_8 rfl 2 rfl ?_
  refine r_cSi (pc := 9) C (c_markAt g (t : Int) (ρ 4 t) σ) yX5_markAt_w rfl t_868 ⟨by decide, by decide⟩ (Nat.le_of_ble_eq_true rfl) rfl dX5_marks_9 ?_
  refine r_istore_n (pc := 12) C dX5_marks_12 rfl (by decide) [1, 2, 3, 0] (lv' := [(0, .ref (gA g 41)), (1, .int (iI ((t : Int)))), (2, .int (iI (ρ 4 t))), (3, .int (iI (41 + 12 * (t : Int) + (ρ 4 t))))]) rfl ?_
  refine r_aload_n (pc := 13) C dX5_marks_13 rfl 0 rfl ?_
  refine r_getR5 (pc := 14) C 0 (k' := 42) rfl O_41 (by decide) rfl t_780 dX5_marks_14 ?_
  refine r_iload_n (pc := 17) C dX5_marks_17 rfl 3 rfl ?_
  refine r_aload_n (pc := 18) C dX5_marks_18 rfl 0 rfl ?_
  refine r_getR5 (pc := 19) C 0 (k' := 42) rfl O_41 (by decide) rfl t_780 dX5_marks_19 ?_
  refine r_iload_n (pc := 22) C dX5_marks_22 rfl 3 rfl ?_
  refine r_iald (pc := 23) C (41 + (12 * t + ((ρ 4 t).toNat))) A_42 (by omega) (by omega) dX5_marks_23 ?_
  refine r_top (show _ = ρ 6 (12 * t + ((ρ 4 t).toNat)) from (congrFun hS _).trans (mkS_at (cidx_M (by omega)))) ?_
  refine r_aload_n (pc := 24) C dX5_marks_24 rfl 0 rfl ?_
  refine r_iload_n (pc := 25) C dX5_marks_25 rfl 1 rfl ?_
  refine r_cVi (pc := 26) C (c_leaves g t (by omega) ρ σ hS hD hK hA hG) yX5_leaves_w O_41 rfl rfl t_909 ⟨by decide, by decide⟩ (Nat.le_of_ble_eq_true rfl) rfl dX5_marks_26 ?_
  refine r_iadd (pc := 29) C dX5_marks_29 ?_
  refine r_bipush (pc := 30) C dX5_marks_30 (by decide) ?_
  refine r_cSi (pc := 32) C (c_heldTo g ((ρ 6 (12 * t + ((ρ 4 t).toNat))) + (leav (ρ 3 t) (ρ 1 (ρ 4 t).toNat) (ρ 5 t))) 99 ⟨by omega, by omega⟩ ⟨by omega, by omega⟩ σ) yX5_heldTo_w rfl t_958 ⟨by decide, by decide⟩ (Nat.le_of_ble_eq_true rfl) rfl dX5_marks_32 ?_
  refine r_iast (pc := 35) C (41 + (12 * t + ((ρ 4 t).toNat))) A_42 (by omega) (by omega) dX5_marks_35 ?_
  refine r_sg (wrS hS (cidx_M (by omega))) ?_
  refine r_iconst (pc := 36) C dX5_marks_36 ?_
  refine r_istore (pc := 37) C dX5_marks_37 (by decide) [1, 2, 3, 4, 0] (lv' := [(0, .ref (gA g 41)), (1, .int (iI ((t : Int)))), (2, .int (iI (ρ 4 t))), (3, .int (iI (41 + 12 * (t : Int) + (ρ 4 t)))), (4, .int (iI (0)))]) rfl ?_
  have L39 : ∀ (n_ : Nat) (i : Nat) (x39_4 : Int) (s39 : Sg), (ρ 0 7).toNat - i < n_ → ((i : Int) ≤ ρ 0 7) → x39_4 = (i : Int) → s39 = (us σ 42 (mkS (us ρ 6 (mmI t (ρ 4 t).toNat (leav (ρ 3 t) (ρ 1 (ρ 4 t).toNat) (ρ 5 t)) (ρ 6) i)))) → J g E (pV (us σ 42 (mkS (us ρ 6 (mkI t (ρ 4 t).toNat (leav (ρ 3 t) (ρ 1 (ρ 4 t).toNat) (ρ 5 t)) (ρ 6) (ρ 0 7).toNat))))) 6 39 [(0, .ref (gA g 41)), (1, .int (iI ((t : Int)))), (2, .int (iI (ρ 4 t))), (3, .int (iI (41 + 12 * (t : Int) + (ρ 4 t)))), (4, .int (iI (x39_4)))] [] s39 := by
    intro n_
    induction n_ with
    | zero => intro i x39_4 s39 hm_; exact absurd hm_ (Nat.not_lt_zero _)
    | succ n_ ih39 =>
      intro i x39_4 s39 hm39 hi39_0 e39_0 es39
      subst e39_0 es39
      have hmm := mmI_rng (t := t) (f := (ρ 4 t).toNat) (by omega) hl.1 hM i
      refine r_iload (pc := 39) C dX5_marks_39 4 rfl ?_
      refine r_aload_n (pc := 41) C dX5_marks_41 rfl 0 rfl ?_
      refine r_getR5 (pc := 42) C 0 (k' := 42) rfl O_41 (by decide) rfl t_780 dX5_marks_42 ?_
      refine r_iconst (pc := 45) C dX5_marks_45 ?_
      refine r_iald (pc := 46) C 1 A_42 (by omega) (by omega) dX5_marks_46 ?_
      refine r_top (show _ = ρ 0 7 from (congrFun (us_s _ _ _) _).trans ((mkS_at rfl).trans (us_o2 (k := 6) (k' := 0) _ _ _ (by omega)))) ?_
      refine r_icmp_ge (pc := 47) C 95 ⟨by omega, by omega⟩ ⟨by omega, by omega⟩ dX5_marks_47 (by decide) (fun h47 => ?_) (fun h47 => ?_)
      · skip
        exact r_retv (pc := 95) C (by rw [show i = (ρ 0 7).toNat by omega, mmI_is (by omega) (by omega)]) dX5_marks_95
      · skip
        refine r_iload (pc := 50) C dX5_marks_50 4 rfl ?_
        refine r_iload_n (pc := 52) C dX5_marks_52 rfl 2 rfl ?_
        refine r_cSi (pc := 53) C (c_markAt g (i : Int) (ρ 4 t) (us σ 42 (mkS (us ρ 6 (mmI t (ρ 4 t).toNat (leav (ρ 3 t) (ρ 1 (ρ 4 t).toNat) (ρ 5 t)) (ρ 6) i))))) yX5_markAt_w rfl t_868 ⟨by decide, by decide⟩ (Nat.le_of_ble_eq_true rfl) rfl dX5_marks_53 ?_
        refine r_istore (pc := 56) C dX5_marks_56 (by decide) [1, 2, 3, 4, 5, 0] (lv' := [(0, .ref (gA g 41)), (1, .int (iI ((t : Int)))), (2, .int (iI (ρ 4 t))), (3, .int (iI (41 + 12 * (t : Int) + (ρ 4 t)))), (4, .int (iI ((i : Int)))), (5, .int (iI (41 + 12 * (i : Int) + (ρ 4 t))))]) rfl ?_
        refine r_aload_n (pc := 58) C dX5_marks_58 rfl 0 rfl ?_
        refine r_getR5 (pc := 59) C 0 (k' := 42) rfl O_41 (by decide) rfl t_780 dX5_marks_59 ?_
        refine r_iload (pc := 62) C dX5_marks_62 5 rfl ?_
        refine r_dup2 (pc := 64) C rfl rfl dX5_marks_64 ?_
        have hz := hmm (12 * i + (ρ 4 t).toNat) (by omega)
        refine r_iald (pc := 65) C (41 + (12 * i + ((ρ 4 t).toNat))) A_42 (by omega) (by omega) dX5_marks_65 ?_
        refine r_top (show _ = (mmI t (ρ 4 t).toNat (leav (ρ 3 t) (ρ 1 (ρ 4 t).toNat) (ρ 5 t)) (ρ 6) i) (12 * i + ((ρ 4 t).toNat)) from (congrFun (us_s _ _ _) _).trans ((mkS_at (cidx_M (by omega))).trans (us_s2 _ _ _ _))) ?_
        refine r_iload (pc := 66) C dX5_marks_66 4 rfl ?_
        refine r_iload_n (pc := 68) C dX5_marks_68 rfl 1 rfl ?_
        refine r_icmp_eq (pc := 69) C 86 ⟨by omega, by omega⟩ ⟨by omega, by omega⟩ dX5_marks_69 (by decide) (fun h69 => ?_) (fun h69 => ?_)
        · skip
          refine r_iconst (pc := 86) C dX5_marks_86 ?_
          refine r_isub (pc := 87) C dX5_marks_87 ?_
          refine r_iast (pc := 88) C (41 + (12 * i + ((ρ 4 t).toNat))) A_42 (by omega) (by omega) dX5_marks_88 ?_
          refine r_sg (wrS2 (cidx_M (by omega))) ?_
          refine r_iinc (pc := 89) C dX5_marks_89 4 rfl (by decide) [1, 2, 3, 4, 0, 5] (lv' := [(0, .ref (gA g 41)), (1, .int (iI ((t : Int)))), (2, .int (iI (ρ 4 t))), (3, .int (iI (41 + 12 * (t : Int) + (ρ 4 t)))), (4, .int (iI ((i : Int) + 1))), (5, .int (iI (41 + 12 * (i : Int) + (ρ 4 t))))]) rfl ?_
          refine r_goto (pc := 92) C 39 dX5_marks_92 (by decide) ?_
          refine r_lv [0, 1, 2, 3, 4] (lv' := [(0, .ref (gA g 41)), (1, .int (iI ((t : Int)))), (2, .int (iI (ρ 4 t))), (3, .int (iI (41 + 12 * (t : Int) + (ρ 4 t)))), (4, .int (iI ((i : Int) + 1)))]) rfl ?_
          exact ih39 (i + 1) _ _ (by omega) (by omega) (by omega) (congrArg (fun q => us σ 42 (mkS q)) ((wr_us _ _ _ _ _).trans (congrArg (us ρ 6) (by first | rw [mmI, if_pos (by omega)] | rw [mmI, if_neg (by omega)]))))
        · skip
          refine r_aload_n (pc := 72) C dX5_marks_72 rfl 0 rfl ?_
          refine r_getR5 (pc := 73) C 0 (k' := 42) rfl O_41 (by decide) rfl t_780 dX5_marks_73 ?_
          refine r_iload (pc := 76) C dX5_marks_76 5 rfl ?_
          refine r_iald (pc := 78) C (41 + (12 * i + ((ρ 4 t).toNat))) A_42 (by omega) (by omega) dX5_marks_78 ?_
          refine r_top (show _ = (mmI t (ρ 4 t).toNat (leav (ρ 3 t) (ρ 1 (ρ 4 t).toNat) (ρ 5 t)) (ρ 6) i) (12 * i + ((ρ 4 t).toNat)) from (congrFun (us_s _ _ _) _).trans ((mkS_at (cidx_M (by omega))).trans (us_s2 _ _ _ _))) ?_
          refine r_if_le (pc := 79) C 86 ⟨by omega, by omega⟩ dX5_marks_79 (by decide) (fun h79 => ?_) (fun h79 => ?_)
          · skip
            refine r_iconst (pc := 86) C dX5_marks_86 ?_
            refine r_isub (pc := 87) C dX5_marks_87 ?_
            refine r_iast (pc := 88) C (41 + (12 * i + ((ρ 4 t).toNat))) A_42 (by omega) (by omega) dX5_marks_88 ?_
            refine r_sg (wrS2 (cidx_M (by omega))) ?_
            refine r_iinc (pc := 89) C dX5_marks_89 4 rfl (by decide) [1, 2, 3, 4, 0, 5] (lv' := [(0, .ref (gA g 41)), (1, .int (iI ((t : Int)))), (2, .int (iI (ρ 4 t))), (3, .int (iI (41 + 12 * (t : Int) + (ρ 4 t)))), (4, .int (iI ((i : Int) + 1))), (5, .int (iI (41 + 12 * (i : Int) + (ρ 4 t))))]) rfl ?_
            refine r_goto (pc := 92) C 39 dX5_marks_92 (by decide) ?_
            refine r_lv [0, 1, 2, 3, 4] (lv' := [(0, .ref (gA g 41)), (1, .int (iI ((t : Int)))), (2, .int (iI (ρ 4 t))), (3, .int (iI (41 + 12 * (t : Int) + (ρ 4 t)))), (4, .int (iI ((i : Int) + 1)))]) rfl ?_
            exact ih39 (i + 1) _ _ (by omega) (by omega) (by omega) (congrArg (fun q => us σ 42 (mkS q)) ((wr_us _ _ _ _ _).trans (congrArg (us ρ 6) (by first | rw [mmI, if_pos (by omega)] | rw [mmI, if_neg (by omega)]))))
          · skip
            refine r_iconst (pc := 82) C dX5_marks_82 ?_
            refine r_goto (pc := 83) C 87 dX5_marks_83 (by decide) ?_
            refine r_isub (pc := 87) C dX5_marks_87 ?_
            refine r_iast (pc := 88) C (41 + (12 * i + ((ρ 4 t).toNat))) A_42 (by omega) (by omega) dX5_marks_88 ?_
            refine r_sg (wrS2 (cidx_M (by omega))) ?_
            refine r_iinc (pc := 89) C dX5_marks_89 4 rfl (by decide) [1, 2, 3, 4, 0, 5] (lv' := [(0, .ref (gA g 41)), (1, .int (iI ((t : Int)))), (2, .int (iI (ρ 4 t))), (3, .int (iI (41 + 12 * (t : Int) + (ρ 4 t)))), (4, .int (iI ((i : Int) + 1))), (5, .int (iI (41 + 12 * (i : Int) + (ρ 4 t))))]) rfl ?_
            refine r_goto (pc := 92) C 39 dX5_marks_92 (by decide) ?_
            refine r_lv [0, 1, 2, 3, 4] (lv' := [(0, .ref (gA g 41)), (1, .int (iI ((t : Int)))), (2, .int (iI (ρ 4 t))), (3, .int (iI (41 + 12 * (t : Int) + (ρ 4 t)))), (4, .int (iI ((i : Int) + 1)))]) rfl ?_
            exact ih39 (i + 1) _ _ (by omega) (by omega) (by omega) (congrArg (fun q => us σ 42 (mkS q)) ((wr_us _ _ _ _ _).trans (congrArg (us ρ 6) (by first | rw [mmI, if_pos (by omega)] | rw [mmI, if_neg (by omega)]))))
  exact L39 _ 0 _ _ (Nat.lt_succ_self _) (by omega) (rfl) (rfl)
set_option maxHeartbeats 4000000 in
set_option maxRecDepth 100000 in
theorem c_day (g : Gt) (m : Int) (hm : rng m) (ρ σ : Sg) (hS : σ 42 = mkS ρ) (hW : RM_ ρ) (h6 : σ 41 6 = m) : Mt g yX5_day cX5_day 3 none 4 [.ref (gA g 41)] σ (pDv (dyM m ρ) σ) := by
  obtain ⟨hn, hfl, hw, hD, hK, hA, hG, hM⟩ := id hW
  have hD1 := dyD_rng (w := ρ 0 9) hfl hD
  have hqn := swF_rng (K := ρ 3) (m := m) (q := (dyD (ρ 0 9) (ρ 0 8) (ρ 1), ρ 5)) hA hD1 hG (ρ 0 7).toNat (by omega)
  have hmn := mkT_rng (n := (ρ 0 7).toNat) (K := ρ 3) (D := (swF (ρ 3) (ρ 4) m (dyD (ρ 0 9) (ρ 0 8) (ρ 1), ρ 5) (ρ 0 7).toNat).1) (by omega) hA hqn.2 hM (ρ 0 7).toNat (by omega)
  refine mt_of (own := RX5) (by decide) rfl (Nat.le_of_ble_eq_true rfl) (fun E C => ?_)
  show J g E (pDv (dyM m ρ) σ) 3 0 [(0, .ref (gA g 41))] [] σ
  refine r_aload_n (pc := 0) C dX5_day_0 rfl 0 rfl ?_
  refine r_cVd (pc := 1) C (c_draughts g ρ σ hS hfl hw hD) yX5_draughts_w O_41 rfl rfl t_976 ⟨by decide, by decide⟩ (Nat.le_of_ble_eq_true rfl) rfl dX5_day_1 (fun s1 hm1_ hT1 => ?_)
  refine r_iconst (pc := 4) C dX5_day_4 ?_
  refine r_istore_n (pc := 5) C dX5_day_5 rfl (by decide) [1, 0] (lv' := [(0, .ref (gA g 41)), (1, .int (iI (0)))]) rfl ?_
  have L6 : ∀ (n_ : Nat) (i : Nat) (x6_1 : Int) (s6 : Sg), (ρ 0 7).toNat - i < n_ → ((i : Int) ≤ ρ 0 7) → x6_1 = (i : Int) → s6 = (us s1 42 (mkS (us (us ρ 1 ((swF (ρ 3) (ρ 4) m (dyD (ρ 0 9) (ρ 0 8) (ρ 1), ρ 5) i).1)) 5 ((swF (ρ 3) (ρ 4) m (dyD (ρ 0 9) (ρ 0 8) (ρ 1), ρ 5) i).2)))) → J g E (pDv (dyM m ρ) σ) 3 6 [(0, .ref (gA g 41)), (1, .int (iI (x6_1)))] [] s6 := by
    intro n_
    induction n_ with
    | zero => intro i x6_1 s6 hm_; exact absurd hm_ (Nat.not_lt_zero _)
    | succ n_ ih6 =>
      intro i x6_1 s6 hm6 hi6_0 e6_0 es6
      subst e6_0 es6
      have hq := swF_rng (K := ρ 3) (m := m) (q := (dyD (ρ 0 9) (ρ 0 8) (ρ 1), ρ 5)) hA hD1 hG i (by omega)
      refine r_iload_n (pc := 6) C dX5_day_6 rfl 1 rfl ?_
      refine r_aload_n (pc := 7) C dX5_day_7 rfl 0 rfl ?_
      refine r_getR5 (pc := 8) C 0 (k' := 42) rfl O_41 (by decide) rfl t_780 dX5_day_8 ?_
      refine r_iconst (pc := 11) C dX5_day_11 ?_
      refine r_iald (pc := 12) C 1 A_42 (by omega) (by omega) dX5_day_12 ?_
      refine r_top (show _ = ρ 0 7 from (congrFun (us_s _ _ _) _).trans (((mkS_at rfl).trans (us_o2 (k := 5) (k' := 0) _ _ _ (by omega))).trans (us_o2 (k := 1) (k' := 0) _ _ _ (by omega)))) ?_
      refine r_icmp_ge (pc := 13) C 39 ⟨by omega, by omega⟩ ⟨by omega, by omega⟩ dX5_day_13 (by decide) (fun h13 => ?_) (fun h13 => ?_)
      · skip
        refine r_iconst (pc := 39) C dX5_day_39 ?_
        refine r_istore_n (pc := 40) C dX5_day_40 rfl (by decide) [1, 0] (lv' := [(0, .ref (gA g 41)), (1, .int (iI (0)))]) rfl ?_
        have L41 : ∀ (n_ : Nat) (j : Nat) (x41_1 : Int) (s41 : Sg), (ρ 0 7).toNat - j < n_ → ((j : Int) ≤ ρ 0 7) → x41_1 = (j : Int) → s41 = (us s1 42 (mkS (us (us (us ρ 1 ((swF (ρ 3) (ρ 4) m (dyD (ρ 0 9) (ρ 0 8) (ρ 1), ρ 5) (ρ 0 7).toNat).1)) 5 ((swF (ρ 3) (ρ 4) m (dyD (ρ 0 9) (ρ 0 8) (ρ 1), ρ 5) (ρ 0 7).toNat).2)) 6 (mkT (ρ 0 7).toNat (ρ 3) (ρ 4) (swF (ρ 3) (ρ 4) m (dyD (ρ 0 9) (ρ 0 8) (ρ 1), ρ 5) (ρ 0 7).toNat).1 (swF (ρ 3) (ρ 4) m (dyD (ρ 0 9) (ρ 0 8) (ρ 1), ρ 5) (ρ 0 7).toNat).2 (ρ 6) j)))) → J g E (pDv (dyM m ρ) σ) 3 41 [(0, .ref (gA g 41)), (1, .int (iI (x41_1)))] [] s41 := by
          intro n_
          induction n_ with
          | zero => intro j x41_1 s41 hm_; exact absurd hm_ (Nat.not_lt_zero _)
          | succ n_ ih41 =>
            intro j x41_1 s41 hm41 hi41_0 e41_0 es41
            subst e41_0 es41
            have hmj := mkT_rng (n := (ρ 0 7).toNat) (K := ρ 3) (D := (swF (ρ 3) (ρ 4) m (dyD (ρ 0 9) (ρ 0 8) (ρ 1), ρ 5) (ρ 0 7).toNat).1) (by omega) hA hqn.2 hM j (by omega)
            refine r_iload_n (pc := 41) C dX5_day_41 rfl 1 rfl ?_
            refine r_aload_n (pc := 42) C dX5_day_42 rfl 0 rfl ?_
            refine r_getR5 (pc := 43) C 0 (k' := 42) rfl O_41 (by decide) rfl t_780 dX5_day_43 ?_
            refine r_iconst (pc := 46) C dX5_day_46 ?_
            refine r_iald (pc := 47) C 1 A_42 (by omega) (by omega) dX5_day_47 ?_
            refine r_top (show _ = ρ 0 7 from (congrFun (us_s _ _ _) _).trans ((((mkS_at rfl).trans (us_o2 (k := 6) (k' := 0) _ _ _ (by omega))).trans (us_o2 (k := 5) (k' := 0) _ _ _ (by omega))).trans (us_o2 (k := 1) (k' := 0) _ _ _ (by omega)))) ?_
            refine r_icmp_ge (pc := 48) C 62 ⟨by omega, by omega⟩ ⟨by omega, by omega⟩ dX5_day_48 (by decide) (fun h48 => ?_) (fun h48 => ?_)
            · skip
              refine r_iconst (pc := 62) C dX5_day_62 ?_
              refine r_istore_n (pc := 63) C dX5_day_63 rfl (by decide) [1, 0] (lv' := [(0, .ref (gA g 41)), (1, .int (iI (0)))]) rfl ?_
              have L64 : ∀ (n_ : Nat) (k : Nat) (x64_1 : Int) (s64 : Sg), 12 - k < n_ → (k ≤ 12) → x64_1 = (k : Int) → s64 = (us s1 42 (mkS (us (us (us (us ρ 1 ((swF (ρ 3) (ρ 4) m (dyD (ρ 0 9) (ρ 0 8) (ρ 1), ρ 5) (ρ 0 7).toNat).1)) 5 ((swF (ρ 3) (ρ 4) m (dyD (ρ 0 9) (ρ 0 8) (ρ 1), ρ 5) (ρ 0 7).toNat).2)) 6 (mkT (ρ 0 7).toNat (ρ 3) (ρ 4) (swF (ρ 3) (ρ 4) m (dyD (ρ 0 9) (ρ 0 8) (ρ 1), ρ 5) (ρ 0 7).toNat).1 (swF (ρ 3) (ρ 4) m (dyD (ρ 0 9) (ρ 0 8) (ρ 1), ρ 5) (ρ 0 7).toNat).2 (ρ 6) (ρ 0 7).toNat)) 5 (rnF (ρ 0 7) (mkT (ρ 0 7).toNat (ρ 3) (ρ 4) (swF (ρ 3) (ρ 4) m (dyD (ρ 0 9) (ρ 0 8) (ρ 1), ρ 5) (ρ 0 7).toNat).1 (swF (ρ 3) (ρ 4) m (dyD (ρ 0 9) (ρ 0 8) (ρ 1), ρ 5) (ρ 0 7).toNat).2 (ρ 6) (ρ 0 7).toNat) (swF (ρ 3) (ρ 4) m (dyD (ρ 0 9) (ρ 0 8) (ρ 1), ρ 5) (ρ 0 7).toNat).1 (swF (ρ 3) (ρ 4) m (dyD (ρ 0 9) (ρ 0 8) (ρ 1), ρ 5) (ρ 0 7).toNat).2 k)))) → J g E (pDv (dyM m ρ) σ) 3 64 [(0, .ref (gA g 41)), (1, .int (iI (x64_1)))] [] s64 := by
                intro n_
                induction n_ with
                | zero => intro k x64_1 s64 hm_; exact absurd hm_ (Nat.not_lt_zero _)
                | succ n_ ih64 =>
                  intro k x64_1 s64 hm64 hi64_0 e64_0 es64
                  subst e64_0 es64
                  have hr := rnF_rng (M := mkT (ρ 0 7).toNat (ρ 3) (ρ 4) (swF (ρ 3) (ρ 4) m (dyD (ρ 0 9) (ρ 0 8) (ρ 1), ρ 5) (ρ 0 7).toNat).1 (swF (ρ 3) (ρ 4) m (dyD (ρ 0 9) (ρ 0 8) (ρ 1), ρ 5) (ρ 0 7).toNat).2 (ρ 6) (ρ 0 7).toNat) hn hqn.1 hqn.2 k (by omega)
                  have hh := holder_rng (ρ 0 7) (mkT (ρ 0 7).toNat (ρ 3) (ρ 4) (swF (ρ 3) (ρ 4) m (dyD (ρ 0 9) (ρ 0 8) (ρ 1), ρ 5) (ρ 0 7).toNat).1 (swF (ρ 3) (ρ 4) m (dyD (ρ 0 9) (ρ 0 8) (ρ 1), ρ 5) (ρ 0 7).toNat).2 (ρ 6) (ρ 0 7).toNat) k hn.1
                  refine r_iload_n (pc := 64) C dX5_day_64 rfl 1 rfl ?_
                  refine r_bipush (pc := 65) C dX5_day_65 (by decide) ?_
                  refine r_icmp_ge (pc := 67) C 102 ⟨by omega, by omega⟩ ⟨by omega, by omega⟩ dX5_day_67 (by decide) (fun h67 => ?_) (fun h67 => ?_)
                  · skip
                    refine r_aload_n (pc := 102) C dX5_day_102 rfl 0 rfl ?_
                    refine r_getR5 (pc := 103) C 0 (k' := 42) rfl O_41 (by decide) rfl t_780 dX5_day_103 ?_
                    refine r_iconst (pc := 106) C dX5_day_106 ?_
                    refine r_dup2 (pc := 107) C rfl rfl dX5_day_107 ?_
                    refine r_iald (pc := 108) C 0 A_42 (by omega) (by omega) dX5_day_108 ?_
                    refine r_top (show _ = ρ 0 10 from (congrFun (us_s _ _ _) _).trans (((((mkS_at rfl).trans (us_o2 (k := 5) (k' := 0) _ _ _ (by omega))).trans (us_o2 (k := 6) (k' := 0) _ _ _ (by omega))).trans (us_o2 (k := 5) (k' := 0) _ _ _ (by omega))).trans (us_o2 (k := 1) (k' := 0) _ _ _ (by omega)))) ?_
                    refine r_iconst (pc := 109) C dX5_day_109 ?_
                    refine r_iadd (pc := 110) C dX5_day_110 ?_
                    refine r_iast (pc := 111) C 0 A_42 (by omega) (by omega) dX5_day_111 ?_
                    refine r_sg (wrS2 rfl) ?_
                    exact r_retD (pc := 112) C ((us_s _ _ _).trans (mkS_cong2 (fun c hc h2 => by rw [show k = 12 by omega]; rcases (show c = 0 ∨ c = 1 ∨ c = 3 ∨ c = 4 ∨ c = 5 ∨ c = 6 ∨ c = 7 by omega) with rfl | rfl | rfl | rfl | rfl | rfl | rfl <;> rfl))) (fun c h1 h2 => by rw [us_n _ _ h1, hT1 c h1 h2]) dX5_day_112
                  · skip
                    refine r_aload_n (pc := 70) C dX5_day_70 rfl 0 rfl ?_
                    refine r_iload_n (pc := 71) C dX5_day_71 rfl 1 rfl ?_
                    refine r_cVi (pc := 72) C (c_m_holderOf g k (by omega) (us (us (us (us ρ 1 ((swF (ρ 3) (ρ 4) m (dyD (ρ 0 9) (ρ 0 8) (ρ 1), ρ 5) (ρ 0 7).toNat).1)) 5 ((swF (ρ 3) (ρ 4) m (dyD (ρ 0 9) (ρ 0 8) (ρ 1), ρ 5) (ρ 0 7).toNat).2)) 6 (mkT (ρ 0 7).toNat (ρ 3) (ρ 4) (swF (ρ 3) (ρ 4) m (dyD (ρ 0 9) (ρ 0 8) (ρ 1), ρ 5) (ρ 0 7).toNat).1 (swF (ρ 3) (ρ 4) m (dyD (ρ 0 9) (ρ 0 8) (ρ 1), ρ 5) (ρ 0 7).toNat).2 (ρ 6) (ρ 0 7).toNat)) 5 (rnF (ρ 0 7) (mkT (ρ 0 7).toNat (ρ 3) (ρ 4) (swF (ρ 3) (ρ 4) m (dyD (ρ 0 9) (ρ 0 8) (ρ 1), ρ 5) (ρ 0 7).toNat).1 (swF (ρ 3) (ρ 4) m (dyD (ρ 0 9) (ρ 0 8) (ρ 1), ρ 5) (ρ 0 7).toNat).2 (ρ 6) (ρ 0 7).toNat) (swF (ρ 3) (ρ 4) m (dyD (ρ 0 9) (ρ 0 8) (ρ 1), ρ 5) (ρ 0 7).toNat).1 (swF (ρ 3) (ρ 4) m (dyD (ρ 0 9) (ρ 0 8) (ρ 1), ρ 5) (ρ 0 7).toNat).2 k)) (us s1 42 (mkS (us (us (us (us ρ 1 ((swF (ρ 3) (ρ 4) m (dyD (ρ 0 9) (ρ 0 8) (ρ 1), ρ 5) (ρ 0 7).toNat).1)) 5 ((swF (ρ 3) (ρ 4) m (dyD (ρ 0 9) (ρ 0 8) (ρ 1), ρ 5) (ρ 0 7).toNat).2)) 6 (mkT (ρ 0 7).toNat (ρ 3) (ρ 4) (swF (ρ 3) (ρ 4) m (dyD (ρ 0 9) (ρ 0 8) (ρ 1), ρ 5) (ρ 0 7).toNat).1 (swF (ρ 3) (ρ 4) m (dyD (ρ 0 9) (ρ 0 8) (ρ 1), ρ 5) (ρ 0 7).toNat).2 (ρ 6) (ρ 0 7).toNat)) 5 (rnF (ρ 0 7) (mkT (ρ 0 7).toNat (ρ 3) (ρ 4) (swF (ρ 3) (ρ 4) m (dyD (ρ 0 9) (ρ 0 8) (ρ 1), ρ 5) (ρ 0 7).toNat).1 (swF (ρ 3) (ρ 4) m (dyD (ρ 0 9) (ρ 0 8) (ρ 1), ρ 5) (ρ 0 7).toNat).2 (ρ 6) (ρ 0 7).toNat) (swF (ρ 3) (ρ 4) m (dyD (ρ 0 9) (ρ 0 8) (ρ 1), ρ 5) (ρ 0 7).toNat).1 (swF (ρ 3) (ρ 4) m (dyD (ρ 0 9) (ρ 0 8) (ρ 1), ρ 5) (ρ 0 7).toNat).2 k)))) (us_s _ _ _) hn hmn) yX5_holderOf_w O_41 rfl rfl t_864 ⟨by decide, by decide⟩ (Nat.le_of_ble_eq_true rfl) rfl dX5_day_72 ?_
                    refine r_top (show _ = holder ((ρ 0 7)) ((mkT (ρ 0 7).toNat (ρ 3) (ρ 4) (swF (ρ 3) (ρ 4) m (dyD (ρ 0 9) (ρ 0 8) (ρ 1), ρ 5) (ρ 0 7).toNat).1 (swF (ρ 3) (ρ 4) m (dyD (ρ 0 9) (ρ 0 8) (ρ 1), ρ 5) (ρ 0 7).toNat).2 (ρ 6) (ρ 0 7).toNat)) k from rfl) ?_
                    refine r_istore_n (pc := 75) C dX5_day_75 rfl (by decide) [1, 2, 0] (lv' := [(0, .ref (gA g 41)), (1, .int (iI ((k : Int)))), (2, .int (iI (holder ((ρ 0 7)) ((mkT (ρ 0 7).toNat (ρ 3) (ρ 4) (swF (ρ 3) (ρ 4) m (dyD (ρ 0 9) (ρ 0 8) (ρ 1), ρ 5) (ρ 0 7).toNat).1 (swF (ρ 3) (ρ 4) m (dyD (ρ 0 9) (ρ 0 8) (ρ 1), ρ 5) (ρ 0 7).toNat).2 (ρ 6) (ρ 0 7).toNat)) k)))]) rfl ?_
                    refine r_iload_n (pc := 76) C dX5_day_76 rfl 2 rfl ?_
                    refine r_if_lt (pc := 77) C 96 ⟨by omega, by omega⟩ dX5_day_77 (by decide) (fun h77 => ?_) (fun h77 => ?_)
                    · skip
                      refine r_iinc (pc := 96) C dX5_day_96 1 rfl (by decide) [1, 0, 2] (lv' := [(0, .ref (gA g 41)), (1, .int (iI ((k : Int) + 1))), (2, .int (iI (holder ((ρ 0 7)) ((mkT (ρ 0 7).toNat (ρ 3) (ρ 4) (swF (ρ 3) (ρ 4) m (dyD (ρ 0 9) (ρ 0 8) (ρ 1), ρ 5) (ρ 0 7).toNat).1 (swF (ρ 3) (ρ 4) m (dyD (ρ 0 9) (ρ 0 8) (ρ 1), ρ 5) (ρ 0 7).toNat).2 (ρ 6) (ρ 0 7).toNat)) k)))]) rfl ?_
                      refine r_goto (pc := 99) C 64 dX5_day_99 (by decide) ?_
                      refine r_lv [0, 1] (lv' := [(0, .ref (gA g 41)), (1, .int (iI ((k : Int) + 1)))]) rfl ?_
                      exact ih64 (k + 1) _ _ (by omega) (by omega) (by omega) (by first | (rw [rnF, if_pos (by omega)]) | exact congrArg (fun q => us s1 42 (mkS q)) ((wr_us _ _ _ _ _).trans (congrArg (us _ 5) (by rw [rnF, if_neg (by omega)]))))
                    · skip
                      refine r_aload_n (pc := 80) C dX5_day_80 rfl 0 rfl ?_
                      refine r_iload_n (pc := 81) C dX5_day_81 rfl 2 rfl ?_
                      refine r_aload_n (pc := 82) C dX5_day_82 rfl 0 rfl ?_
                      refine r_getR5 (pc := 83) C 0 (k' := 42) rfl O_41 (by decide) rfl t_780 dX5_day_83 ?_
                      refine r_iconst (pc := 86) C dX5_day_86 ?_
                      refine r_iload_n (pc := 87) C dX5_day_87 rfl 1 rfl ?_
                      refine r_iadd (pc := 88) C dX5_day_88 ?_
                      have hd := hqn.1 k (by omega)
                      refine r_iald (pc := 89) C (5 + k) A_42 (by omega) (by omega) dX5_day_89 ?_
                      refine r_top (show _ = ((swF (ρ 3) (ρ 4) m (dyD (ρ 0 9) (ρ 0 8) (ρ 1), ρ 5) (ρ 0 7).toNat).1) k from (congrFun (us_s _ _ _) _).trans (((((mkS_at (cidx_D (by omega))).trans (us_o2 (k := 5) (k' := 1) _ _ _ (by omega))).trans (us_o2 (k := 6) (k' := 1) _ _ _ (by omega))).trans (us_o2 (k := 5) (k' := 1) _ _ _ (by omega))).trans (us_s2 _ _ _ _))) ?_
                      refine r_bipush (pc := 90) C dX5_day_90 (by decide) ?_
                      refine r_idiv (pc := 92) C (by omega) (by omega) (by omega) (by omega) dX5_day_92 ?_
                      refine r_cVv (pc := 93) C (c_gets g ((holder ((ρ 0 7)) ((mkT (ρ 0 7).toNat (ρ 3) (ρ 4) (swF (ρ 3) (ρ 4) m (dyD (ρ 0 9) (ρ 0 8) (ρ 1), ρ 5) (ρ 0 7).toNat).1 (swF (ρ 3) (ρ 4) m (dyD (ρ 0 9) (ρ 0 8) (ρ 1), ρ 5) (ρ 0 7).toNat).2 (ρ 6) (ρ 0 7).toNat)) k).toNat) (by omega) ((((swF (ρ 3) (ρ 4) m (dyD (ρ 0 9) (ρ 0 8) (ρ 1), ρ 5) (ρ 0 7).toNat).1) k) / 20) ⟨by omega, by omega⟩ (us (us (us (us ρ 1 ((swF (ρ 3) (ρ 4) m (dyD (ρ 0 9) (ρ 0 8) (ρ 1), ρ 5) (ρ 0 7).toNat).1)) 5 ((swF (ρ 3) (ρ 4) m (dyD (ρ 0 9) (ρ 0 8) (ρ 1), ρ 5) (ρ 0 7).toNat).2)) 6 (mkT (ρ 0 7).toNat (ρ 3) (ρ 4) (swF (ρ 3) (ρ 4) m (dyD (ρ 0 9) (ρ 0 8) (ρ 1), ρ 5) (ρ 0 7).toNat).1 (swF (ρ 3) (ρ 4) m (dyD (ρ 0 9) (ρ 0 8) (ρ 1), ρ 5) (ρ 0 7).toNat).2 (ρ 6) (ρ 0 7).toNat)) 5 (rnF (ρ 0 7) (mkT (ρ 0 7).toNat (ρ 3) (ρ 4) (swF (ρ 3) (ρ 4) m (dyD (ρ 0 9) (ρ 0 8) (ρ 1), ρ 5) (ρ 0 7).toNat).1 (swF (ρ 3) (ρ 4) m (dyD (ρ 0 9) (ρ 0 8) (ρ 1), ρ 5) (ρ 0 7).toNat).2 (ρ 6) (ρ 0 7).toNat) (swF (ρ 3) (ρ 4) m (dyD (ρ 0 9) (ρ 0 8) (ρ 1), ρ 5) (ρ 0 7).toNat).1 (swF (ρ 3) (ρ 4) m (dyD (ρ 0 9) (ρ 0 8) (ρ 1), ρ 5) (ρ 0 7).toNat).2 k)) (us s1 42 (mkS (us (us (us (us ρ 1 ((swF (ρ 3) (ρ 4) m (dyD (ρ 0 9) (ρ 0 8) (ρ 1), ρ 5) (ρ 0 7).toNat).1)) 5 ((swF (ρ 3) (ρ 4) m (dyD (ρ 0 9) (ρ 0 8) (ρ 1), ρ 5) (ρ 0 7).toNat).2)) 6 (mkT (ρ 0 7).toNat (ρ 3) (ρ 4) (swF (ρ 3) (ρ 4) m (dyD (ρ 0 9) (ρ 0 8) (ρ 1), ρ 5) (ρ 0 7).toNat).1 (swF (ρ 3) (ρ 4) m (dyD (ρ 0 9) (ρ 0 8) (ρ 1), ρ 5) (ρ 0 7).toNat).2 (ρ 6) (ρ 0 7).toNat)) 5 (rnF (ρ 0 7) (mkT (ρ 0 7).toNat (ρ 3) (ρ 4) (swF (ρ 3) (ρ 4) m (dyD (ρ 0 9) (ρ 0 8) (ρ 1), ρ 5) (ρ 0 7).toNat).1 (swF (ρ 3) (ρ 4) m (dyD (ρ 0 9) (ρ 0 8) (ρ 1), ρ 5) (ρ 0 7).toNat).2 (ρ 6) (ρ 0 7).toNat) (swF (ρ 3) (ρ 4) m (dyD (ρ 0 9) (ρ 0 8) (ρ 1), ρ 5) (ρ 0 7).toNat).1 (swF (ρ 3) (ρ 4) m (dyD (ρ 0 9) (ρ 0 8) (ρ 1), ρ 5) (ρ 0 7).toNat).2 k)))) (us_s _ _ _) hr) yX5_gets_w O_41 rfl rfl t_984 ⟨by decide, by decide⟩ (Nat.le_of_ble_eq_true rfl) (by rw [show (((holder ((ρ 0 7)) ((mkT (ρ 0 7).toNat (ρ 3) (ρ 4) (swF (ρ 3) (ρ 4) m (dyD (ρ 0 9) (ρ 0 8) (ρ 1), ρ 5) (ρ 0 7).toNat).1 (swF (ρ 3) (ρ 4) m (dyD (ρ 0 9) (ρ 0 8) (ρ 1), ρ 5) (ρ 0 7).toNat).2 (ρ 6) (ρ 0 7).toNat)) k).toNat : Nat) : Int) = holder ((ρ 0 7)) ((mkT (ρ 0 7).toNat (ρ 3) (ρ 4) (swF (ρ 3) (ρ 4) m (dyD (ρ 0 9) (ρ 0 8) (ρ 1), ρ 5) (ρ 0 7).toNat).1 (swF (ρ 3) (ρ 4) m (dyD (ρ 0 9) (ρ 0 8) (ρ 1), ρ 5) (ρ 0 7).toNat).2 (ρ 6) (ρ 0 7).toNat)) k by omega]; rfl) dX5_day_93 ?_
                      refine r_sg (us_us _ _ _ _) ?_
                      refine r_sg (show _ = (us s1 42 (mkS (wr (us (us (us (us ρ 1 ((swF (ρ 3) (ρ 4) m (dyD (ρ 0 9) (ρ 0 8) (ρ 1), ρ 5) (ρ 0 7).toNat).1)) 5 ((swF (ρ 3) (ρ 4) m (dyD (ρ 0 9) (ρ 0 8) (ρ 1), ρ 5) (ρ 0 7).toNat).2)) 6 (mkT (ρ 0 7).toNat (ρ 3) (ρ 4) (swF (ρ 3) (ρ 4) m (dyD (ρ 0 9) (ρ 0 8) (ρ 1), ρ 5) (ρ 0 7).toNat).1 (swF (ρ 3) (ρ 4) m (dyD (ρ 0 9) (ρ 0 8) (ρ 1), ρ 5) (ρ 0 7).toNat).2 (ρ 6) (ρ 0 7).toNat)) 5 (rnF (ρ 0 7) (mkT (ρ 0 7).toNat (ρ 3) (ρ 4) (swF (ρ 3) (ρ 4) m (dyD (ρ 0 9) (ρ 0 8) (ρ 1), ρ 5) (ρ 0 7).toNat).1 (swF (ρ 3) (ρ 4) m (dyD (ρ 0 9) (ρ 0 8) (ρ 1), ρ 5) (ρ 0 7).toNat).2 (ρ 6) (ρ 0 7).toNat) (swF (ρ 3) (ρ 4) m (dyD (ρ 0 9) (ρ 0 8) (ρ 1), ρ 5) (ρ 0 7).toNat).1 (swF (ρ 3) (ρ 4) m (dyD (ρ 0 9) (ρ 0 8) (ρ 1), ρ 5) (ρ 0 7).toNat).2 k)) 5 ((holder ((ρ 0 7)) ((mkT (ρ 0 7).toNat (ρ 3) (ρ 4) (swF (ρ 3) (ρ 4) m (dyD (ρ 0 9) (ρ 0 8) (ρ 1), ρ 5) (ρ 0 7).toNat).1 (swF (ρ 3) (ρ 4) m (dyD (ρ 0 9) (ρ 0 8) (ρ 1), ρ 5) (ρ 0 7).toNat).2 (ρ 6) (ρ 0 7).toNat)) k).toNat) (gn ((rnF (ρ 0 7) (mkT (ρ 0 7).toNat (ρ 3) (ρ 4) (swF (ρ 3) (ρ 4) m (dyD (ρ 0 9) (ρ 0 8) (ρ 1), ρ 5) (ρ 0 7).toNat).1 (swF (ρ 3) (ρ 4) m (dyD (ρ 0 9) (ρ 0 8) (ρ 1), ρ 5) (ρ 0 7).toNat).2 (ρ 6) (ρ 0 7).toNat) (swF (ρ 3) (ρ 4) m (dyD (ρ 0 9) (ρ 0 8) (ρ 1), ρ 5) (ρ 0 7).toNat).1 (swF (ρ 3) (ρ 4) m (dyD (ρ 0 9) (ρ 0 8) (ρ 1), ρ 5) (ρ 0 7).toNat).2 k) ((holder ((ρ 0 7)) ((mkT (ρ 0 7).toNat (ρ 3) (ρ 4) (swF (ρ 3) (ρ 4) m (dyD (ρ 0 9) (ρ 0 8) (ρ 1), ρ 5) (ρ 0 7).toNat).1 (swF (ρ 3) (ρ 4) m (dyD (ρ 0 9) (ρ 0 8) (ρ 1), ρ 5) (ρ 0 7).toNat).2 (ρ 6) (ρ 0 7).toNat)) k).toNat)) ((((swF (ρ 3) (ρ 4) m (dyD (ρ 0 9) (ρ 0 8) (ρ 1), ρ 5) (ρ 0 7).toNat).1) k) / 20))))) from rfl) ?_
                      refine r_iinc (pc := 96) C dX5_day_96 1 rfl (by decide) [1, 0, 2] (lv' := [(0, .ref (gA g 41)), (1, .int (iI ((k : Int) + 1))), (2, .int (iI (holder ((ρ 0 7)) ((mkT (ρ 0 7).toNat (ρ 3) (ρ 4) (swF (ρ 3) (ρ 4) m (dyD (ρ 0 9) (ρ 0 8) (ρ 1), ρ 5) (ρ 0 7).toNat).1 (swF (ρ 3) (ρ 4) m (dyD (ρ 0 9) (ρ 0 8) (ρ 1), ρ 5) (ρ 0 7).toNat).2 (ρ 6) (ρ 0 7).toNat)) k)))]) rfl ?_
                      refine r_goto (pc := 99) C 64 dX5_day_99 (by decide) ?_
                      refine r_lv [0, 1] (lv' := [(0, .ref (gA g 41)), (1, .int (iI ((k : Int) + 1)))]) rfl ?_
                      exact ih64 (k + 1) _ _ (by omega) (by omega) (by omega) (by first | (rw [rnF, if_pos (by omega)]) | exact congrArg (fun q => us s1 42 (mkS q)) ((wr_us _ _ _ _ _).trans (congrArg (us _ 5) (by rw [rnF, if_neg (by omega)]))))
              exact L64 _ 0 _ _ (Nat.lt_succ_self _) (by omega) (rfl) (by rw [show j = (ρ 0 7).toNat by omega]; exact congrArg (fun q => us s1 42 (mkS q)) (us_idx rfl).symm)
            · skip
              refine r_aload_n (pc := 51) C dX5_day_51 rfl 0 rfl ?_
              refine r_iload_n (pc := 52) C dX5_day_52 rfl 1 rfl ?_
              refine r_cVv (pc := 53) C (c_marks g j (us (us (us ρ 1 ((swF (ρ 3) (ρ 4) m (dyD (ρ 0 9) (ρ 0 8) (ρ 1), ρ 5) (ρ 0 7).toNat).1)) 5 ((swF (ρ 3) (ρ 4) m (dyD (ρ 0 9) (ρ 0 8) (ρ 1), ρ 5) (ρ 0 7).toNat).2)) 6 (mkT (ρ 0 7).toNat (ρ 3) (ρ 4) (swF (ρ 3) (ρ 4) m (dyD (ρ 0 9) (ρ 0 8) (ρ 1), ρ 5) (ρ 0 7).toNat).1 (swF (ρ 3) (ρ 4) m (dyD (ρ 0 9) (ρ 0 8) (ρ 1), ρ 5) (ρ 0 7).toNat).2 (ρ 6) j)) (us s1 42 (mkS (us (us (us ρ 1 ((swF (ρ 3) (ρ 4) m (dyD (ρ 0 9) (ρ 0 8) (ρ 1), ρ 5) (ρ 0 7).toNat).1)) 5 ((swF (ρ 3) (ρ 4) m (dyD (ρ 0 9) (ρ 0 8) (ρ 1), ρ 5) (ρ 0 7).toNat).2)) 6 (mkT (ρ 0 7).toNat (ρ 3) (ρ 4) (swF (ρ 3) (ρ 4) m (dyD (ρ 0 9) (ρ 0 8) (ρ 1), ρ 5) (ρ 0 7).toNat).1 (swF (ρ 3) (ρ 4) m (dyD (ρ 0 9) (ρ 0 8) (ρ 1), ρ 5) (ρ 0 7).toNat).2 (ρ 6) j)))) (us_s _ _ _) hn hqn.1 hK hA hqn.2 hmj (show ((j : Nat) : Int) < (ρ 0 7) by omega)) yX5_marks_w O_41 rfl rfl t_988 ⟨by decide, by decide⟩ (Nat.le_of_ble_eq_true rfl) rfl dX5_day_53 ?_
              refine r_sg (us_us _ _ _ _) ?_
              refine r_iinc (pc := 56) C dX5_day_56 1 rfl (by decide) [1, 0] (lv' := [(0, .ref (gA g 41)), (1, .int (iI ((j : Int) + 1)))]) rfl ?_
              refine r_goto (pc := 59) C 41 dX5_day_59 (by decide) ?_
              exact ih41 (j + 1) _ _ (by omega) (by omega) (by omega) (congrArg (fun q => us s1 42 (mkS q)) ((us_us _ _ _ _).trans rfl))
        exact L41 _ 0 _ _ (Nat.lt_succ_self _) (by omega) (rfl) (by rw [show i = (ρ 0 7).toNat by omega]; exact congrArg (fun q => us s1 42 (mkS q)) (us_idx rfl).symm)
      · skip
        refine r_aload_n (pc := 16) C dX5_day_16 rfl 0 rfl ?_
        refine r_getI5 (pc := 17) C 6 rfl O_41 (by decide) rfl t_786 dX5_day_17 ?_
        refine r_top (us_o2 (k := 42) (k' := 41) _ _ _ (by omega)) ?_
        refine r_top (show s1 41 6 = m from (congrFun (hT1 41 (by decide) (by decide)) 6).trans h6) ?_
        refine r_iload_n (pc := 20) C dX5_day_20 rfl 1 rfl ?_
        refine r_ishr (pc := 21) C dX5_day_21 ?_
        refine r_iconst (pc := 22) C dX5_day_22 ?_
        refine r_iand (pc := 23) C dX5_day_23 ?_
        refine r_iconst (pc := 24) C dX5_day_24 ?_
        refine r_icmp_ne (pc := 25) C 33 (band_rng _ _) ⟨by omega, by omega⟩ dX5_day_25 (by decide) (fun h25 => ?_) (fun h25 => ?_)
        · skip
          refine r_iinc (pc := 33) C dX5_day_33 1 rfl (by decide) [1, 0] (lv' := [(0, .ref (gA g 41)), (1, .int (iI ((i : Int) + 1)))]) rfl ?_
          refine r_goto (pc := 36) C 6 dX5_day_36 (by decide) ?_
          exact ih6 (i + 1) _ _ (by omega) (by omega) (by omega) (by first | (rw [swF, if_neg h25]) | exact congrArg (fun q => us s1 42 (mkS q)) ((us15 _ _ _ _ _).trans (by show us (us ρ 1 (sw1 (ρ 3) (ρ 4) i (swF (ρ 3) (ρ 4) m (dyD (ρ 0 9) (ρ 0 8) (ρ 1), ρ 5) i)).1) 5 (sw1 (ρ 3) (ρ 4) i (swF (ρ 3) (ρ 4) m (dyD (ρ 0 9) (ρ 0 8) (ρ 1), ρ 5) i)).2 = _; rw [swF, if_pos h25])))
        · skip
          refine r_aload_n (pc := 28) C dX5_day_28 rfl 0 rfl ?_
          refine r_iload_n (pc := 29) C dX5_day_29 rfl 1 rfl ?_
          refine r_cVv (pc := 30) C (c_m_sweep g i (by omega) (us (us ρ 1 ((swF (ρ 3) (ρ 4) m (dyD (ρ 0 9) (ρ 0 8) (ρ 1), ρ 5) i).1)) 5 ((swF (ρ 3) (ρ 4) m (dyD (ρ 0 9) (ρ 0 8) (ρ 1), ρ 5) i).2)) (us s1 42 (mkS (us (us ρ 1 ((swF (ρ 3) (ρ 4) m (dyD (ρ 0 9) (ρ 0 8) (ρ 1), ρ 5) i).1)) 5 ((swF (ρ 3) (ρ 4) m (dyD (ρ 0 9) (ρ 0 8) (ρ 1), ρ 5) i).2)))) (us_s _ _ _) hq.1 hK hA hq.2) yX5_sweep_w O_41 rfl rfl t_980 ⟨by decide, by decide⟩ (Nat.le_of_ble_eq_true rfl) rfl dX5_day_30 ?_
          refine r_sg (us_us _ _ _ _) ?_
          refine r_iinc (pc := 33) C dX5_day_33 1 rfl (by decide) [1, 0] (lv' := [(0, .ref (gA g 41)), (1, .int (iI ((i : Int) + 1)))]) rfl ?_
          refine r_goto (pc := 36) C 6 dX5_day_36 (by decide) ?_
          exact ih6 (i + 1) _ _ (by omega) (by omega) (by omega) (by first | (rw [swF, if_neg h25]) | exact congrArg (fun q => us s1 42 (mkS q)) ((us15 _ _ _ _ _).trans (by show us (us ρ 1 (sw1 (ρ 3) (ρ 4) i (swF (ρ 3) (ρ 4) m (dyD (ρ 0 9) (ρ 0 8) (ρ 1), ρ 5) i)).1) 5 (sw1 (ρ 3) (ρ 4) i (swF (ρ 3) (ρ 4) m (dyD (ρ 0 9) (ρ 0 8) (ρ 1), ρ 5) i)).2 = _; rw [swF, if_pos h25])))
  exact L6 _ 0 _ _ (Nat.lt_succ_self _) (by omega) (rfl) ((us_idx ((congrArg mkS (us_idx rfl)).trans hm1_.symm)).symm)
set_option maxHeartbeats 4000000 in
set_option maxRecDepth 100000 in
theorem c_goesOn (g : Gt) (m : Int) (hm : rng m) (n : Nat) (hn2 : n ≤ 60) (ρ σ : Sg) (hS : σ 42 = mkS ρ) (hW : RM_ ρ) (h6 : σ 41 6 = m) : Mt g yX5_goesOn cX5_goesOn 3 none 5 [.ref (gA g 41), .int (iI ((n : Int)))] σ (pDv (dsM m n ρ) σ) := by
  refine mt_of (own := RX5) (by decide) rfl (Nat.le_of_ble_eq_true rfl) (fun E C => ?_)
  show J g E (pDv (dsM m n ρ) σ) 3 0 [(0, .ref (gA g 41)), (1, .int (iI ((n : Int))))] [] σ
  refine r_iconst (pc := 0) C dX5_goesOn_0 ?_
  refine r_istore_n (pc := 1) C dX5_goesOn_1 rfl (by decide) [1, 2, 0] (lv' := [(0, .ref (gA g 41)), (1, .int (iI ((n : Int)))), (2, .int (iI (0)))]) rfl ?_
  have L2 : ∀ (n_ : Nat) (i : Nat) (x2_2 : Int) (s2 : Sg), n - i < n_ → (i ≤ n) → (s2 42 = mkS (dsM m i ρ)) → (∀ c, c ≠ 42 → c ≠ 47 → s2 c = σ c) → x2_2 = (i : Int) → J g E (pDv (dsM m n ρ) σ) 3 2 [(0, .ref (gA g 41)), (1, .int (iI ((n : Int)))), (2, .int (iI (x2_2)))] [] s2 := by
    intro n_
    induction n_ with
    | zero => intro i x2_2 s2 hm_; exact absurd hm_ (Nat.not_lt_zero _)
    | succ n_ ih2 =>
      intro i x2_2 s2 hm2 hi2_0 hi2_1 hi2_2 e2_0 
      subst e2_0 
      refine r_iload_n (pc := 2) C dX5_goesOn_2 rfl 2 rfl ?_
      refine r_iload_n (pc := 3) C dX5_goesOn_3 rfl 1 rfl ?_
      refine r_icmp_ge (pc := 4) C 17 ⟨by omega, by omega⟩ ⟨by omega, by omega⟩ dX5_goesOn_4 (by decide) (fun h4 => ?_) (fun h4 => ?_)
      · skip
        exact r_retD (pc := 17) C (by rw [hi2_1, show i = n by omega]) (hi2_2) dX5_goesOn_17
      · skip
        refine r_aload_n (pc := 7) C dX5_goesOn_7 rfl 0 rfl ?_
        refine r_cVd (pc := 8) C (c_day g m hm (dsM m i ρ) s2 hi2_1 (dsM_RM hW i) ((congrFun (hi2_2 41 (by decide) (by decide)) 6).trans h6)) yX5_day_w O_41 rfl rfl t_972 ⟨by decide, by decide⟩ (Nat.le_of_ble_eq_true rfl) rfl dX5_goesOn_8 (fun s8 hm8_ hT8 => ?_)
        refine r_iinc (pc := 11) C dX5_goesOn_11 2 rfl (by decide) [1, 2, 0] (lv' := [(0, .ref (gA g 41)), (1, .int (iI ((n : Int)))), (2, .int (iI ((i : Int) + 1)))]) rfl ?_
        refine r_goto (pc := 14) C 2 dX5_goesOn_14 (by decide) ?_
        exact ih2 (i + 1) _ _ (by omega) (by omega) (by exact hm8_) (by exact fun c h1 h2 => (hT8 c h1 h2).trans (hi2_2 c h1 h2)) (by omega)
  exact L2 _ 0 _ _ (Nat.lt_succ_self _) (by omega) (by exact hS) (by exact fun _ _ _ => rfl) (rfl)
