theorem kd_is {σ : Sg} {ty vl : Nat → Int} {pos : Nat → Nat} {K k : Nat} (hV : TV σ ty vl pos K) (hk : k ≤ K) : kdM (wdM (σ 49) (σ 41 10).toNat (pos k) 0) = if ty k = 1 ∧ 0 ≤ vl k ∧ vl k < 7 then vl k else -1 := by
  have h0 := hV.wd k hk 0 (by decide)
  have h1 := hV.wd k hk 1 (by decide)
  have h2 := hV.wd k hk 2 (by decide)
  have h3 := hV.wd k hk 3 (by decide)
  have h4 := hV.wd k hk 4 (by decide)
  have h5 := hV.wd k hk 5 (by decide)
  have h6 := hV.wd k hk 6 (by decide)
  have e0 : wcd 0 = 676791764 := rfl
  have e1 : wcd 1 = 409156 := rfl
  have e2 : wcd 2 = 427300 := rfl
  have e3 : wcd 3 = 24416759 := rfl
  have e4 : wcd 4 = 77177328 := rfl
  have e5 : wcd 5 = 3124 := rfl
  have e6 : wcd 6 = 267570 := rfl
  rw [e0] at h0
  rw [e1] at h1
  rw [e2] at h2
  rw [e3] at h3
  rw [e4] at h4
  rw [e5] at h5
  rw [e6] at h6
  unfold kdM
  generalize wdM (σ 49) (σ 41 10).toNat (pos k) 0 = x at *
  by_cases q0 : x = 676791764
  · have := h0.mp q0
    rw [if_pos q0, if_pos (by omega)]
    omega
  by_cases q1 : x = 409156
  · have := h1.mp q1
    rw [if_neg q0, if_pos q1, if_pos (by omega)]
    omega
  by_cases q2 : x = 427300
  · have := h2.mp q2
    rw [if_neg q0, if_neg q1, if_pos q2, if_pos (by omega)]
    omega
  by_cases q3 : x = 24416759
  · have := h3.mp q3
    rw [if_neg q0, if_neg q1, if_neg q2, if_pos q3, if_pos (by omega)]
    omega
  by_cases q4 : x = 77177328
  · have := h4.mp q4
    rw [if_neg q0, if_neg q1, if_neg q2, if_neg q3, if_pos q4, if_pos (by omega)]
    omega
  by_cases q5 : x = 3124
  · have := h5.mp q5
    rw [if_neg q0, if_neg q1, if_neg q2, if_neg q3, if_neg q4, if_pos q5, if_pos (by omega)]
    omega
  by_cases q6 : x = 267570
  · have := h6.mp q6
    rw [if_neg q0, if_neg q1, if_neg q2, if_neg q3, if_neg q4, if_neg q5, if_pos q6, if_pos (by omega)]
    omega
  rw [if_neg q0, if_neg q1, if_neg q2, if_neg q3, if_neg q4, if_neg q5, if_neg q6]
  have g0 := fun e => q0 (h0.mpr e)
  have g1 := fun e => q1 (h1.mpr e)
  have g2 := fun e => q2 (h2.mpr e)
  have g3 := fun e => q3 (h3.mpr e)
  have g4 := fun e => q4 (h4.mpr e)
  have g5 := fun e => q5 (h5.mpr e)
  have g6 := fun e => q6 (h6.mpr e)
  rw [if_neg (by omega)]
theorem pX_of {σ : Sg} {pos : Nat → Nat} {r r2 : It} {v : Option Value} {s : Sg} (h : pX σ pos r v s) (e : r2 = r) : pX σ pos r2 v s := by
  rw [e]
  exact h
set_option maxHeartbeats 4000000 in
set_option maxRecDepth 100000 in
theorem c_item (g : Gt) {ty vl : Nat → Int} {pos : Nat → Nat} {K : Nat} (k : Nat) (v : Int) (ρ σ : Sg) (hl : 0 ≤ σ 41 10 ∧ σ 41 10 ≤ 120) (hB : ∀ j, j < 120 → 0 ≤ σ 49 j ∧ σ 49 j ≤ 255) (hV : TV σ ty vl pos K) (hk : k ≤ K) (hn : 0 ≤ ρ 0 7 ∧ ρ 0 7 ≤ 8) (hD : rgD (ρ 1)) : Mt g yX5_item cX5_item 4 none 7 [.ref (gA g 41)] (MS2 σ ((pos k : Nat) : Int) ((tE (σ 49) (σ 41 10).toNat (pos k) : Nat) : Int) v 0 ρ) (pX σ pos (itm 0 adS_0 ty vl k ρ)) := by
  refine mt_of (own := RX5) (by decide) rfl (Nat.le_of_ble_eq_true rfl) (fun E C => ?_)
  show J g E (pX σ pos (itm 0 adS_0 ty vl k ρ)) 4 0 [(0, .ref (gA g 41))] [] (MS2 σ ((pos k : Nat) : Int) ((tE (σ 49) (σ 41 10).toNat (pos k) : Nat) : Int) v 0 ρ)
  refine r_aload_n (pc := 0) C dX5_item_0 rfl 0 rfl ?_
  refine r_cVi (pc := 1) C (c_kindHere g (pos k) v 0 (Or.inl rfl) ρ σ hl hB (hV.le k hk)) yX5_kindHere_w O_41 rfl rfl t_1197 ⟨by decide, by decide⟩ (Nat.le_of_ble_eq_true rfl) rfl dX5_item_1 ?_
  have hkd := kd_is hV hk
  have hkr : -1 ≤ kdM (wdM (σ 49) (σ 41 10).toNat (pos k) 0) ∧ kdM (wdM (σ 49) (σ 41 10).toNat (pos k) 0) ≤ 6 := by rw [hkd]; split <;> omega
  refine r_istore_n (pc := 4) C dX5_item_4 rfl (by decide) [1, 0] (lv' := [(0, .ref (gA g 41)), (1, .int (iI (kdM (wdM (σ 49) (σ 41 10).toNat (pos k) 0))))]) rfl ?_
  refine r_aload_n (pc := 5) C dX5_item_5 rfl 0 rfl ?_
  refine r_cVl (pc := 6) C (c_word g (pos k) v 0 (Or.inl rfl) ρ σ hl hB (hV.le k hk)) yX5_word_w O_41 rfl rfl t_1201 ⟨by decide, by decide⟩ (Nat.le_of_ble_eq_true rfl) rfl dX5_item_6 ?_
  have hwd6 := wdM_rng (σ 49) (σ 41 10).toNat (pos k) 0
  have hw7 := hV.wd k hk 7 (by decide)
  have hw8 := hV.wd k hk 8 (by decide)
  have hw9 := hV.wd k hk 9 (by decide)
  rw [show wcd 7 = 153204 from rfl] at hw7
  rw [show wcd 8 = 198028 from rfl] at hw8
  rw [show wcd 9 = 4900691220 from rfl] at hw9
  refine r_lstore_n (pc := 9) C dX5_item_9 rfl (by decide) [1, 2, 0] (lv' := [(0, .ref (gA g 41)), (1, .int (iI (kdM (wdM (σ 49) (σ 41 10).toNat (pos k) 0)))), (2, .long (iL (wdM (σ 49) (σ 41 10).toNat (pos k) 0)))]) rfl ?_
  refine r_iload_n (pc := 10) C dX5_item_10 rfl 1 rfl ?_
  refine r_if_lt (pc := 11) C 22 ⟨by omega, by omega⟩ dX5_item_11 (by decide) (fun h11 => ?_) (fun h11 => ?_)
  · skip
    have hA : ¬ (ty k = 1 ∧ 0 ≤ vl k ∧ vl k < 7) := by intro q; rw [if_pos q] at hkd; omega
    refine r_lload_n (pc := 22) C dX5_item_22 rfl 2 rfl ?_
    refine r_ldc2 (pc := 23) C 153204 t_1233 (by decide) dX5_item_23 ?_
    refine r_lcb_ne (pc := 26) C 37 ⟨by omega, by omega⟩ ⟨by omega, by omega⟩ dX5_item_26 dX5_item_27 (by decide) (fun h26 => ?_) (fun h26 => ?_)
    · skip
      have h7 := fun q => h26 (hw7.mpr q)
      refine r_lload_n (pc := 37) C dX5_item_37 rfl 2 rfl ?_
      refine r_ldc2 (pc := 38) C 4900691220 t_1238 (by decide) dX5_item_38 ?_
      refine r_lcb_ne (pc := 41) C 52 ⟨by omega, by omega⟩ ⟨by omega, by omega⟩ dX5_item_41 dX5_item_42 (by decide) (fun h41 => ?_) (fun h41 => ?_)
      · skip
        have h9 := fun q => h41 (hw9.mpr q)
        refine r_aload_n (pc := 52) C dX5_item_52 rfl 0 rfl ?_
        refine r_lload_n (pc := 53) C dX5_item_53 rfl 2 rfl ?_
        refine r_ldc2 (pc := 54) C 198028 t_1243 (by decide) dX5_item_54 ?_
        refine r_lcb_ne (pc := 57) C 65 ⟨by omega, by omega⟩ ⟨by omega, by omega⟩ dX5_item_57 dX5_item_58 (by decide) (fun h57 => ?_) (fun h57 => ?_)
        · skip
          have h8 := fun q => h57 (hw8.mpr q)
          refine r_iconst (pc := 65) C dX5_item_65 ?_
          refine r_cVv (pc := 66) C (c_must_n g ((pos k : Nat) : Int) ((tE (σ 49) (σ 41 10).toNat (pos k) : Nat) : Int) v ρ σ hl hB) yX5_must_w O_41 rfl rfl t_1218 ⟨by decide, by decide⟩ (Nat.le_of_ble_eq_true rfl) rfl dX5_item_66 ?_
          refine r_aload_n (pc := 69) C dX5_item_69 rfl 0 rfl ?_
          refine r_iconst (pc := 70) C dX5_item_70 ?_
          refine r_bipush (pc := 71) C dX5_item_71 (by decide) ?_
          refine r_cVv (pc := 73) C (c_number_w g 99 ((pos k : Nat) : Int) ((tE (σ 49) (σ 41 10).toNat (pos k) : Nat) : Int) v ρ σ hl hB) yX5_number_w O_41 rfl rfl t_1227 ⟨by decide, by decide⟩ (Nat.le_of_ble_eq_true rfl) rfl dX5_item_73 ?_
          refine r_aload_n (pc := 76) C dX5_item_76 rfl 0 rfl ?_
          refine r_getR5 (pc := 77) C 0 (k' := 42) rfl O_41 (by decide) rfl t_780 dX5_item_77 ?_
          refine r_iconst (pc := 80) C dX5_item_80 ?_
          refine r_aload_n (pc := 81) C dX5_item_81 rfl 0 rfl ?_
          refine r_getI5 (pc := 82) C 14 rfl O_41 (by decide) rfl t_794 dX5_item_82 ?_
          refine r_top (show _ = 1 from rfl) ?_
          refine r_if_eq (pc := 85) C 97 ⟨by omega, by omega⟩ dX5_item_85 (by decide) (fun h85 => ?_) (fun h85 => ?_)
          · skip
            omega
          · skip
            refine r_aload_n (pc := 88) C dX5_item_88 rfl 0 rfl ?_
            refine r_getR5 (pc := 89) C 0 (k' := 42) rfl O_41 (by decide) rfl t_780 dX5_item_89 ?_
            refine r_iconst (pc := 92) C dX5_item_92 ?_
            refine r_iald (pc := 93) C 2 A_42 (by omega) (by omega) dX5_item_93 ?_
            refine r_top (show _ = ρ 0 8 from (congrFun (show (MS2 σ ((pos k : Nat) : Int) ((tE (σ 49) (σ 41 10).toNat (pos k) : Nat) : Int) v 1 ρ) 42 = mkS ρ from rfl) _).trans (mkS_at rfl)) ?_
            refine r_goto (pc := 94) C 101 dX5_item_94 (by decide) ?_
            refine r_iast (pc := 101) C 2 A_42 (by omega) (by omega) dX5_item_101 ?_
            refine r_sg (MS_42 rfl) ?_
            have hr_ : itm 0 adS_0 ty vl k ρ = (false, k, ρ) := (if_neg hA).trans ((if_neg h7).trans ((if_neg h8).trans (if_neg h9)))
            exact r_vret C (pX_no hr_) dX5_item_102
        · skip
          have h8 := hw8.mp h57
          have hkK : k < K := hV.lt hk (by omega)
          refine r_iconst (pc := 61) C dX5_item_61 ?_
          refine r_goto (pc := 62) C 66 dX5_item_62 (by decide) ?_
          refine r_cVv (pc := 66) C (m_y g k v ρ σ hl hB hV (by omega)) yX5_must_w O_41 rfl rfl t_1218 ⟨by decide, by decide⟩ (Nat.le_of_ble_eq_true rfl) rfl dX5_item_66 ?_
          refine r_aload_n (pc := 69) C dX5_item_69 rfl 0 rfl ?_
          refine r_iconst (pc := 70) C dX5_item_70 ?_
          refine r_bipush (pc := 71) C dX5_item_71 (by decide) ?_
          by_cases hc73_0 : ty (k + 1) = 2 ∧ vl (k + 1) ≤ 99
          · skip
            refine r_cVv (pc := 73) C (n_y g (k + 1) 99 (by omega) v ρ σ hl hB hV (by omega) hc73_0) yX5_number_w O_41 rfl rfl t_1227 ⟨by decide, by decide⟩ (Nat.le_of_ble_eq_true rfl) rfl dX5_item_73 ?_
            have hx73 : (k + 1) + 1 ≤ K := hV.lt (k := (k + 1)) (by omega) (by omega)
            have hy73 := hV.tk.2.2.2 (k + 1) (by omega)
            have t73 : tkN ty vl (k + 1) 99 = (vl (k + 1), (k + 1) + 1) := if_pos hc73_0
            refine r_aload_n (pc := 76) C dX5_item_76 rfl 0 rfl ?_
            refine r_getR5 (pc := 77) C 0 (k' := 42) rfl O_41 (by decide) rfl t_780 dX5_item_77 ?_
            refine r_iconst (pc := 80) C dX5_item_80 ?_
            refine r_aload_n (pc := 81) C dX5_item_81 rfl 0 rfl ?_
            refine r_getI5 (pc := 82) C 14 rfl O_41 (by decide) rfl t_794 dX5_item_82 ?_
            refine r_top (show _ = 0 from rfl) ?_
            refine r_if_eq (pc := 85) C 97 ⟨by omega, by omega⟩ dX5_item_85 (by decide) (fun h85 => ?_) (fun h85 => ?_)
            · skip
              refine r_aload_n (pc := 97) C dX5_item_97 rfl 0 rfl ?_
              refine r_getI5 (pc := 98) C 13 rfl O_41 (by decide) rfl t_793 dX5_item_98 ?_
              refine r_top (show _ = vl (k + 1) from rfl) ?_
              refine r_iast (pc := 101) C 2 A_42 (by omega) (by omega) dX5_item_101 ?_
              refine r_sg (MS_42 rfl) ?_
              have hr_ : itm 0 adS_0 ty vl k ρ = (true, ((k + 1) + 1), (wr ρ 0 8 (vl (k + 1)))) := (if_neg hA).trans ((if_neg h7).trans ((if_pos h8).trans (by simp only [itF, t73]; rw [if_neg (by omega)])))
              exact r_vret C (pX_ok hr_) dX5_item_102
            · skip
              omega
          · skip
            refine r_cVv (pc := 73) C (n_n g (k + 1) 99 (by omega) v ρ σ hl hB hV (by omega) hc73_0) yX5_number_w O_41 rfl rfl t_1227 ⟨by decide, by decide⟩ (Nat.le_of_ble_eq_true rfl) rfl dX5_item_73 ?_
            have t73 : tkN ty vl (k + 1) 99 = (-1, (k + 1)) := if_neg hc73_0
            refine r_aload_n (pc := 76) C dX5_item_76 rfl 0 rfl ?_
            refine r_getR5 (pc := 77) C 0 (k' := 42) rfl O_41 (by decide) rfl t_780 dX5_item_77 ?_
            refine r_iconst (pc := 80) C dX5_item_80 ?_
            refine r_aload_n (pc := 81) C dX5_item_81 rfl 0 rfl ?_
            refine r_getI5 (pc := 82) C 14 rfl O_41 (by decide) rfl t_794 dX5_item_82 ?_
            refine r_top (show _ = 1 from rfl) ?_
            refine r_if_eq (pc := 85) C 97 ⟨by omega, by omega⟩ dX5_item_85 (by decide) (fun h85 => ?_) (fun h85 => ?_)
            · skip
              omega
            · skip
              refine r_aload_n (pc := 88) C dX5_item_88 rfl 0 rfl ?_
              refine r_getR5 (pc := 89) C 0 (k' := 42) rfl O_41 (by decide) rfl t_780 dX5_item_89 ?_
              refine r_iconst (pc := 92) C dX5_item_92 ?_
              refine r_iald (pc := 93) C 2 A_42 (by omega) (by omega) dX5_item_93 ?_
              refine r_top (show _ = ρ 0 8 from (congrFun (show (MS2 σ ((pos (k + 1) : Nat) : Int) ((tE (σ 49) (σ 41 10).toNat (pos (k + 1)) : Nat) : Int) (nvv σ ty pos (k + 1)) 1 ρ) 42 = mkS ρ from rfl) _).trans (mkS_at rfl)) ?_
              refine r_goto (pc := 94) C 101 dX5_item_94 (by decide) ?_
              refine r_iast (pc := 101) C 2 A_42 (by omega) (by omega) dX5_item_101 ?_
              refine r_sg (MS_42 rfl) ?_
              have hr_ : itm 0 adS_0 ty vl k ρ = (false, (k + 1), ρ) := (if_neg hA).trans ((if_neg h7).trans ((if_pos h8).trans (by simp only [itF, t73]; rfl)))
              exact r_vret C (pX_no hr_) dX5_item_102
      · skip
        have h9 := hw9.mp h41
        refine r_aload_n (pc := 45) C dX5_item_45 rfl 0 rfl ?_
        refine r_callV (pc := 46) C (c_draughtItem g k v ρ σ hl hB hV hk h9.1) yX5_draughtItem_w O_41 rfl rfl t_1239 ⟨by decide, by decide⟩ (Nat.le_of_ble_eq_true rfl) rfl dX5_item_46 (fun v_ s_ hp46 => ?_)
        obtain ⟨rfl, v2, ρ2, rfl, h3⟩ := hp46
        refine r_goto (pc := 49) C 102 dX5_item_49 (by decide) ?_
        exact r_vret C (pX_of (r := itW 0 ty vl k ρ) ⟨rfl, v2, ρ2, rfl, h3⟩ ((if_neg hA).trans ((if_neg h7).trans ((if_neg (by omega)).trans (if_pos h9))))) dX5_item_102
    · skip
      have h7 := hw7.mp h26
      refine r_aload_n (pc := 30) C dX5_item_30 rfl 0 rfl ?_
      refine r_callV (pc := 31) C (c_dustItem g k v ρ σ hl hB hV hk h7.1 hD) yX5_dustItem_w O_41 rfl rfl t_1234 ⟨by decide, by decide⟩ (Nat.le_of_ble_eq_true rfl) rfl dX5_item_31 (fun v_ s_ hp31 => ?_)
      obtain ⟨rfl, v2, ρ2, rfl, h3⟩ := hp31
      refine r_goto (pc := 34) C 102 dX5_item_34 (by decide) ?_
      exact r_vret C (pX_of (r := itD 0 ty vl k ρ) ⟨rfl, v2, ρ2, rfl, h3⟩ ((if_neg hA).trans (if_pos h7))) dX5_item_102
  · skip
    have hA : ty k = 1 ∧ 0 ≤ vl k ∧ vl k < 7 := Classical.byContradiction (fun q => by rw [if_neg q] at hkd; omega)
    have hek : kdM (wdM (σ 49) (σ 41 10).toNat (pos k) 0) = vl k := by rw [hkd, if_pos hA]
    refine r_aload_n (pc := 14) C dX5_item_14 rfl 0 rfl ?_
    refine r_iload_n (pc := 15) C dX5_item_15 rfl 1 rfl ?_
    refine r_callV (pc := 16) C (c_tenantItem g (vl k) k v ρ σ hl hB hV hk hA.1 hn) yX5_tenantItem_w O_41 rfl rfl t_1214 ⟨by decide, by decide⟩ (Nat.le_of_ble_eq_true rfl) (by rw [hek]; rfl) dX5_item_16 (fun v_ s_ hp16 => ?_)
    obtain ⟨rfl, v2, ρ2, rfl, h3⟩ := hp16
    refine r_goto (pc := 19) C 102 dX5_item_19 (by decide) ?_
    exact r_vret C (pX_of (r := itT 0 adS_0 ty vl k (vl k) ρ) ⟨rfl, v2, ρ2, rfl, h3⟩ (if_pos hA)) dX5_item_102
