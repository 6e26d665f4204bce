theorem ad0_at (kd : Int) (ρ : Sg) : adS_0 kd 0 ρ 4 (ρ 0 7).toNat = 0 := if_pos rfl
theorem ad0_f (kd : Int) (f : Nat) (ρ : Sg) : adS_0 kd f ρ = wr (adS_0 kd 0 ρ) 4 (ρ 0 7).toNat (f : Int) := by
  funext k
  by_cases h : k = 4
  · subst h
    show up (ρ 4) _ _ = up (up (ρ 4) _ _) _ _
    rw [up_up]
  · rw [wr_n _ _ _ h]
    unfold adS_0
    by_cases h1 : k = 0
    · subst h1
      rfl
    · rw [wr_n _ _ _ h1, wr_n _ _ _ h1]
      by_cases h2 : k = 6
      · subst h2
        rfl
      · rw [us_n _ _ h2, us_n _ _ h2]
        by_cases h3 : k = 5
        · subst h3
          rfl
        · rw [wr_n _ _ _ h3, wr_n _ _ _ h3, wr_n _ _ _ h, wr_n _ _ _ h]
theorem ad0_5 (kd : Int) (f : Nat) (ρ : Sg) : wr (adS_0 kd f ρ) 5 (ρ 0 7).toNat 0 = adS_0 kd f ρ := by
  have e : adS_0 kd f ρ 5 (ρ 0 7).toNat = 0 := if_pos rfl
  have h := wr_idd (adS_0 kd f ρ) 5 (ρ 0 7).toNat
  rw [e] at h
  exact h
theorem ad0_6 (kd : Int) (f : Nat) (ρ : Sg) (x : Int) {j : Nat} (hj : j < 12) : wr (wr (adS_0 kd f ρ) 5 (ρ 0 7).toNat x) 6 (12 * (ρ 0 7).toNat + j) 0 = wr (adS_0 kd f ρ) 5 (ρ 0 7).toNat x := by
  have e : wr (adS_0 kd f ρ) 5 (ρ 0 7).toNat x 6 (12 * (ρ 0 7).toNat + j) = 0 := if_pos (by omega)
  have h := wr_idd (wr (adS_0 kd f ρ) 5 (ρ 0 7).toNat x) 6 (12 * (ρ 0 7).toNat + j)
  rw [e] at h
  exact h
set_option maxHeartbeats 4000000 in
set_option maxRecDepth 100000 in
theorem c_tenantItem (g : Gt) (kd : Int) {ty vl : Nat → Int} {pos : Nat → Nat} {K : Nat} (k : Nat) (v : Int) (ρ σ : Sg) (hl : 0 ≤ σ 41 10 ∧ σ 41 10 ≤ 120) (hB : ∀ j, j < 120 → 0 ≤ σ 49 j ∧ σ 49 j ≤ 255) (hV : TV σ ty vl pos K) (hk : k ≤ K) (hty : ty k = 1) (hn : 0 ≤ ρ 0 7 ∧ ρ 0 7 ≤ 8) : Mt g yX5_tenantItem cX5_tenantItem 3 none 6 [.ref (gA g 41), .int (iI (kd))] (MS2 σ ((pos k : Nat) : Int) ((tE (σ 49) (σ 41 10).toNat (pos k) : Nat) : Int) v 0 ρ) (pX σ pos (itT 0 adS_0 ty vl k kd ρ)) := by
  have hkK : k < K := hV.lt hk (by omega)
  refine mt_of (own := RX5) (by decide) rfl (Nat.le_of_ble_eq_true rfl) (fun E C => ?_)
  show J g E (pX σ pos (itT 0 adS_0 ty vl k kd ρ)) 3 0 [(0, .ref (gA g 41)), (1, .int (iI (kd)))] [] (MS2 σ ((pos k : Nat) : Int) ((tE (σ 49) (σ 41 10).toNat (pos k) : Nat) : Int) v 0 ρ)
  refine r_aload_n (pc := 0) C dX5_tenantItem_0 rfl 0 rfl ?_
  refine r_aload_n (pc := 1) C dX5_tenantItem_1 rfl 0 rfl ?_
  refine r_getR5 (pc := 2) C 0 (k' := 42) rfl O_41 (by decide) rfl t_780 dX5_tenantItem_2 ?_
  refine r_iconst (pc := 5) C dX5_tenantItem_5 ?_
  refine r_iald (pc := 6) C 1 A_42 (by omega) (by omega) dX5_tenantItem_6 ?_
  refine r_top (show _ = ρ 0 7 from (congrFun (show (MS2 σ ((pos k : Nat) : Int) ((tE (σ 49) (σ 41 10).toNat (pos k) : Nat) : Int) v 0 ρ) 42 = mkS ρ from rfl) _).trans (mkS_at rfl)) ?_
  refine r_bipush (pc := 7) C dX5_tenantItem_7 (by decide) ?_
  refine r_icmp_ge (pc := 9) C 16 ⟨by omega, by omega⟩ ⟨by omega, by omega⟩ dX5_tenantItem_9 (by decide) (fun h9 => ?_) (fun h9 => ?_)
  · skip
    refine r_iconst (pc := 16) C dX5_tenantItem_16 ?_
    refine r_cVv (pc := 17) C (c_must_n g ((pos k : Nat) : Int) ((tE (σ 49) (σ 41 10).toNat (pos k) : Nat) : Int) v ρ σ hl hB) yX5_must_w O_41 rfl rfl t_1218 ⟨by decide, by decide⟩ (Nat.le_of_ble_eq_true rfl) rfl dX5_tenantItem_17 ?_
    refine r_aload_n (pc := 20) C dX5_tenantItem_20 rfl 0 rfl ?_
    refine r_getI5 (pc := 21) C 14 rfl O_41 (by decide) rfl t_794 dX5_tenantItem_21 ?_
    refine r_top (show _ = 1 from rfl) ?_
    refine r_if_eq (pc := 24) C 28 ⟨by omega, by omega⟩ dX5_tenantItem_24 (by decide) (fun h24 => ?_) (fun h24 => ?_)
    · skip
      omega
    · skip
      have hr_ : itT 0 adS_0 ty vl k kd ρ = (false, k, ρ) := by simp only [itT]; (try (first | rw [if_pos trivial] | rw [if_neg not_false] | rw [if_pos rfl] | rw [if_neg (by omega)] | rw [if_pos (by omega)]))
      exact r_vret C (pX_no hr_) dX5_tenantItem_27
  · skip
    refine r_iconst (pc := 12) C dX5_tenantItem_12 ?_
    refine r_goto (pc := 13) C 17 dX5_tenantItem_13 (by decide) ?_
    refine r_cVv (pc := 17) C (m_y g k v ρ σ hl hB hV (by omega)) yX5_must_w O_41 rfl rfl t_1218 ⟨by decide, by decide⟩ (Nat.le_of_ble_eq_true rfl) rfl dX5_tenantItem_17 ?_
    refine r_aload_n (pc := 20) C dX5_tenantItem_20 rfl 0 rfl ?_
    refine r_getI5 (pc := 21) C 14 rfl O_41 (by decide) rfl t_794 dX5_tenantItem_21 ?_
    refine r_top (show _ = 0 from rfl) ?_
    refine r_if_eq (pc := 24) C 28 ⟨by omega, by omega⟩ dX5_tenantItem_24 (by decide) (fun h24 => ?_) (fun h24 => ?_)
    · skip
      refine r_aload_n (pc := 28) C dX5_tenantItem_28 rfl 0 rfl ?_
      refine r_iload_n (pc := 29) C dX5_tenantItem_29 rfl 1 rfl ?_
      refine r_iconst (pc := 30) C dX5_tenantItem_30 ?_
      refine r_cVi (pc := 31) C (c_adds g kd 0 ρ (MS2 σ ((pos (k + 1) : Nat) : Int) ((tE (σ 49) (σ 41 10).toNat (pos (k + 1)) : Nat) : Int) v 0 ρ) (show (MS2 σ ((pos (k + 1) : Nat) : Int) ((tE (σ 49) (σ 41 10).toNat (pos (k + 1)) : Nat) : Int) v 0 ρ) 42 = mkS ρ from rfl) (by omega)) yX5_adds_w O_41 rfl rfl t_897 ⟨by decide, by decide⟩ (Nat.le_of_ble_eq_true rfl) rfl dX5_tenantItem_31 ?_
      refine r_sg (MS_us _ _ _ _ _ _ _) ?_
      refine r_istore_n (pc := 34) C dX5_tenantItem_34 rfl (by decide) [1, 2, 0] (lv' := [(0, .ref (gA g 41)), (1, .int (iI (kd))), (2, .int (iI (ρ 0 7)))]) rfl ?_
      refine r_aload_n (pc := 35) C dX5_tenantItem_35 rfl 0 rfl ?_
      refine r_ldc2 (pc := 36) C 52 t_1222 (by decide) dX5_tenantItem_36 ?_
      refine r_iload_n (pc := 39) C dX5_tenantItem_39 rfl 2 rfl ?_
      refine r_iconst (pc := 40) C dX5_tenantItem_40 ?_
      refine r_cSi (pc := 41) C (c_place g (ρ 0 7) 1 (MS2 σ ((pos (k + 1) : Nat) : Int) ((tE (σ 49) (σ 41 10).toNat (pos (k + 1)) : Nat) : Int) v 0 (adS_0 kd 0 ρ))) yX5_place_w rfl t_879 ⟨by decide, by decide⟩ (Nat.le_of_ble_eq_true rfl) rfl dX5_tenantItem_41 ?_
      refine r_bipush (pc := 44) C dX5_tenantItem_44 (by decide) ?_
      by_cases hc46_0 : (ty (k + 1) = 1 ∧ vl (k + 1) = ((10 : Nat) : Int)) ∧ ty ((k + 1) + 1) = 2 ∧ vl ((k + 1) + 1) ≤ 11
      · skip
        refine r_cVv (pc := 46) C (pe_y g 52 (by omega) (18 + 3 * ((ρ 0 7).toNat)) 4 ((ρ 0 7).toNat) (by omega) (cidx_A (by omega)) 11 (by omega) (k + 1) v (adS_0 kd 0 ρ) σ hl hB hV (by omega) ((hV.wd (k + 1) (by omega) 10 (by decide)).mpr hc46_0.1) (hV.lt (k := (k + 1)) (by omega) (by omega)) hc46_0.2) yX5_perhaps_w O_41 rfl rfl t_1223 ⟨by decide, by decide⟩ (Nat.le_of_ble_eq_true rfl) (by rw [show 17 + 3 * (ρ 0 7) + 1 = (((18 + 3 * ((ρ 0 7).toNat)) : Nat) : Int) by omega]; rfl) dX5_tenantItem_46 ?_
        have ha46 : ((k + 1) + 1) ≤ K := hV.lt (k := (k + 1)) (by omega) (by omega)
        have hb46 : ((k + 1) + 1) + 1 ≤ K := hV.lt (k := ((k + 1) + 1)) (by omega) (by omega)
        have hz46 := hV.tk.2.2.2 ((k + 1) + 1) (by omega)
        have t46 : bhN ty vl (k + 1) 10 11 = (vl ((k + 1) + 1), ((k + 1) + 1) + 1) := (if_pos hc46_0.1).trans (if_pos hc46_0.2)
        refine r_aload_n (pc := 49) C dX5_tenantItem_49 rfl 0 rfl ?_
        refine r_ldc2 (pc := 50) C 7847059 t_1231 (by decide) dX5_tenantItem_50 ?_
        refine r_iload_n (pc := 53) C dX5_tenantItem_53 rfl 2 rfl ?_
        refine r_iconst (pc := 54) C dX5_tenantItem_54 ?_
        refine r_cSi (pc := 55) C (c_place g (ρ 0 7) 2 (MS2 σ ((pos (((k + 1) + 1) + 1) : Nat) : Int) ((tE (σ 49) (σ 41 10).toNat (pos (((k + 1) + 1) + 1)) : Nat) : Int) (vl ((k + 1) + 1)) 0 (wr (adS_0 kd 0 ρ) 4 ((ρ 0 7).toNat) (vl ((k + 1) + 1))))) yX5_place_w rfl t_879 ⟨by decide, by decide⟩ (Nat.le_of_ble_eq_true rfl) rfl dX5_tenantItem_55 ?_
        refine r_sipush (pc := 58) C dX5_tenantItem_58 (by decide) ?_
        by_cases hc61_0 : (ty (((k + 1) + 1) + 1) = 1 ∧ vl (((k + 1) + 1) + 1) = ((11 : Nat) : Int)) ∧ ty ((((k + 1) + 1) + 1) + 1) = 2 ∧ vl ((((k + 1) + 1) + 1) + 1) ≤ 9999
        · skip
          refine r_cVv (pc := 61) C (pe_y g 7847059 (by omega) (19 + 3 * ((ρ 0 7).toNat)) 5 ((ρ 0 7).toNat) (by omega) (cidx_G (by omega)) 9999 (by omega) (((k + 1) + 1) + 1) (vl ((k + 1) + 1)) (wr (adS_0 kd 0 ρ) 4 ((ρ 0 7).toNat) (vl ((k + 1) + 1))) σ hl hB hV (by omega) ((hV.wd (((k + 1) + 1) + 1) (by omega) 11 (by decide)).mpr hc61_0.1) (hV.lt (k := (((k + 1) + 1) + 1)) (by omega) (by omega)) hc61_0.2) yX5_perhaps_w O_41 rfl rfl t_1223 ⟨by decide, by decide⟩ (Nat.le_of_ble_eq_true rfl) (by rw [show 17 + 3 * (ρ 0 7) + 2 = (((19 + 3 * ((ρ 0 7).toNat)) : Nat) : Int) by omega]; rfl) dX5_tenantItem_61 ?_
          have ha61 : ((((k + 1) + 1) + 1) + 1) ≤ K := hV.lt (k := (((k + 1) + 1) + 1)) (by omega) (by omega)
          have hb61 : ((((k + 1) + 1) + 1) + 1) + 1 ≤ K := hV.lt (k := ((((k + 1) + 1) + 1) + 1)) (by omega) (by omega)
          have hz61 := hV.tk.2.2.2 ((((k + 1) + 1) + 1) + 1) (by omega)
          have t61 : bhN ty vl (((k + 1) + 1) + 1) 11 9999 = (vl ((((k + 1) + 1) + 1) + 1), ((((k + 1) + 1) + 1) + 1) + 1) := (if_pos hc61_0.1).trans (if_pos hc61_0.2)
          refine r_aload_n (pc := 64) C dX5_tenantItem_64 rfl 0 rfl ?_
          refine r_ldc2 (pc := 65) C 13683059 t_1232 (by decide) dX5_tenantItem_65 ?_
          refine r_iload_n (pc := 68) C dX5_tenantItem_68 rfl 2 rfl ?_
          refine r_aload_n (pc := 69) C dX5_tenantItem_69 rfl 0 rfl ?_
          refine r_iload_n (pc := 70) C dX5_tenantItem_70 rfl 2 rfl ?_
          refine r_iconst (pc := 71) C dX5_tenantItem_71 ?_
          refine r_cVi (pc := 72) C (c_its_1 g ((ρ 0 7).toNat) (by omega) (wr (wr (adS_0 kd 0 ρ) 4 ((ρ 0 7).toNat) (vl ((k + 1) + 1))) 5 ((ρ 0 7).toNat) (vl ((((k + 1) + 1) + 1) + 1))) (MS2 σ ((pos (((((k + 1) + 1) + 1) + 1) + 1) : Nat) : Int) ((tE (σ 49) (σ 41 10).toNat (pos (((((k + 1) + 1) + 1) + 1) + 1)) : Nat) : Int) (vl ((((k + 1) + 1) + 1) + 1)) 0 (wr (wr (adS_0 kd 0 ρ) 4 ((ρ 0 7).toNat) (vl ((k + 1) + 1))) 5 ((ρ 0 7).toNat) (vl ((((k + 1) + 1) + 1) + 1)))) (show (MS2 σ ((pos (((((k + 1) + 1) + 1) + 1) + 1) : Nat) : Int) ((tE (σ 49) (σ 41 10).toNat (pos (((((k + 1) + 1) + 1) + 1) + 1)) : Nat) : Int) (vl ((((k + 1) + 1) + 1) + 1)) 0 (wr (wr (adS_0 kd 0 ρ) 4 ((ρ 0 7).toNat) (vl ((k + 1) + 1))) 5 ((ρ 0 7).toNat) (vl ((((k + 1) + 1) + 1) + 1)))) 42 = mkS (wr (wr (adS_0 kd 0 ρ) 4 ((ρ 0 7).toNat) (vl ((k + 1) + 1))) 5 ((ρ 0 7).toNat) (vl ((((k + 1) + 1) + 1) + 1))) from rfl)) yX5_its_w O_41 rfl rfl t_875 ⟨by decide, by decide⟩ (Nat.le_of_ble_eq_true rfl) (by rw [show (((ρ 0 7).toNat : Nat) : Int) = ρ 0 7 by omega]; rfl) dX5_tenantItem_72 ?_
          refine r_top ((wr_o2 (k := 5) (k' := 4) _ _ _ _ (by omega)).trans (wr_s2 _ _ _ _)) ?_
          skip
          refine r_cSi (pc := 75) C (c_markAt g (ρ 0 7) (vl ((k + 1) + 1)) (MS2 σ ((pos (((((k + 1) + 1) + 1) + 1) + 1) : Nat) : Int) ((tE (σ 49) (σ 41 10).toNat (pos (((((k + 1) + 1) + 1) + 1) + 1)) : Nat) : Int) (vl ((((k + 1) + 1) + 1) + 1)) 0 (wr (wr (adS_0 kd 0 ρ) 4 ((ρ 0 7).toNat) (vl ((k + 1) + 1))) 5 ((ρ 0 7).toNat) (vl ((((k + 1) + 1) + 1) + 1))))) yX5_markAt_w rfl t_868 ⟨by decide, by decide⟩ (Nat.le_of_ble_eq_true rfl) rfl dX5_tenantItem_75 ?_
          refine r_bipush (pc := 78) C dX5_tenantItem_78 (by decide) ?_
          by_cases hc80_0 : (ty (((((k + 1) + 1) + 1) + 1) + 1) = 1 ∧ vl (((((k + 1) + 1) + 1) + 1) + 1) = ((12 : Nat) : Int)) ∧ ty ((((((k + 1) + 1) + 1) + 1) + 1) + 1) = 2 ∧ vl ((((((k + 1) + 1) + 1) + 1) + 1) + 1) ≤ 99
          · skip
            refine r_cVv (pc := 80) C (pe_y g 13683059 (by omega) (41 + (12 * ((ρ 0 7).toNat) + ((vl ((k + 1) + 1)).toNat))) 6 (12 * ((ρ 0 7).toNat) + ((vl ((k + 1) + 1)).toNat)) (by omega) (cidx_M (by omega)) 99 (by omega) (((((k + 1) + 1) + 1) + 1) + 1) (vl ((((k + 1) + 1) + 1) + 1)) (wr (wr (adS_0 kd 0 ρ) 4 ((ρ 0 7).toNat) (vl ((k + 1) + 1))) 5 ((ρ 0 7).toNat) (vl ((((k + 1) + 1) + 1) + 1))) σ hl hB hV (by omega) ((hV.wd (((((k + 1) + 1) + 1) + 1) + 1) (by omega) 12 (by decide)).mpr hc80_0.1) (hV.lt (k := (((((k + 1) + 1) + 1) + 1) + 1)) (by omega) (by omega)) hc80_0.2) yX5_perhaps_w O_41 rfl rfl t_1223 ⟨by decide, by decide⟩ (Nat.le_of_ble_eq_true rfl) (by rw [show 41 + 12 * (ρ 0 7) + (vl ((k + 1) + 1)) = (((41 + (12 * ((ρ 0 7).toNat) + ((vl ((k + 1) + 1)).toNat))) : Nat) : Int) by omega]; rfl) dX5_tenantItem_80 ?_
            have ha80 : ((((((k + 1) + 1) + 1) + 1) + 1) + 1) ≤ K := hV.lt (k := (((((k + 1) + 1) + 1) + 1) + 1)) (by omega) (by omega)
            have hb80 : ((((((k + 1) + 1) + 1) + 1) + 1) + 1) + 1 ≤ K := hV.lt (k := ((((((k + 1) + 1) + 1) + 1) + 1) + 1)) (by omega) (by omega)
            have hz80 := hV.tk.2.2.2 ((((((k + 1) + 1) + 1) + 1) + 1) + 1) (by omega)
            have t80 : bhN ty vl (((((k + 1) + 1) + 1) + 1) + 1) 12 99 = (vl ((((((k + 1) + 1) + 1) + 1) + 1) + 1), ((((((k + 1) + 1) + 1) + 1) + 1) + 1) + 1) := (if_pos hc80_0.1).trans (if_pos hc80_0.2)
            have hr_ : itT 0 adS_0 ty vl k kd ρ = (true, (((((((k + 1) + 1) + 1) + 1) + 1) + 1) + 1), (wr (wr (wr (adS_0 kd 0 ρ) 4 ((ρ 0 7).toNat) (vl ((k + 1) + 1))) 5 ((ρ 0 7).toNat) (vl ((((k + 1) + 1) + 1) + 1))) 6 (12 * ((ρ 0 7).toNat) + ((vl ((k + 1) + 1)).toNat)) (vl ((((((k + 1) + 1) + 1) + 1) + 1) + 1)))) := by
              simp only [itT, t80, t61, t46]
              (try (first | rw [if_pos trivial] | rw [if_neg not_false] | rw [if_pos rfl] | rw [if_neg (by omega)] | rw [if_pos (by omega)])); (try (first | rw [if_pos trivial] | rw [if_neg not_false] | rw [if_pos rfl] | rw [if_neg (by omega)] | rw [if_pos (by omega)])); (try (first | rw [if_pos trivial] | rw [if_neg not_false] | rw [if_pos rfl] | rw [if_neg (by omega)] | rw [if_pos (by omega)])); (try (first | rw [if_pos trivial] | rw [if_neg not_false] | rw [if_pos rfl] | rw [if_neg (by omega)] | rw [if_pos (by omega)]))
              refine congrArg (fun q => (true, (((((((k + 1) + 1) + 1) + 1) + 1) + 1) + 1), q)) ?_
              show wr (wr (adS_0 kd (vl ((k + 1) + 1)).toNat ρ) 5 (ρ 0 7).toNat (vl ((((k + 1) + 1) + 1) + 1))) 6 (12 * (ρ 0 7).toNat + (vl ((k + 1) + 1)).toNat) (vl ((((((k + 1) + 1) + 1) + 1) + 1) + 1)) = _
              (rw [ad0_f kd (vl ((k + 1) + 1)).toNat ρ, show (((vl ((k + 1) + 1)).toNat : Nat) : Int) = vl ((k + 1) + 1) by omega])
              try rfl
            exact r_vret C (pX_ok hr_) dX5_tenantItem_83
          by_cases hc80_1 : ty (((((k + 1) + 1) + 1) + 1) + 1) = 1 ∧ vl (((((k + 1) + 1) + 1) + 1) + 1) = ((12 : Nat) : Int)
          · skip
            refine r_cVv (pc := 80) C (pe_n g 13683059 (by omega) (41 + (12 * ((ρ 0 7).toNat) + ((vl ((k + 1) + 1)).toNat))) 6 (12 * ((ρ 0 7).toNat) + ((vl ((k + 1) + 1)).toNat)) (by omega) (cidx_M (by omega)) 99 (by omega) (((((k + 1) + 1) + 1) + 1) + 1) (vl ((((k + 1) + 1) + 1) + 1)) (wr (wr (adS_0 kd 0 ρ) 4 ((ρ 0 7).toNat) (vl ((k + 1) + 1))) 5 ((ρ 0 7).toNat) (vl ((((k + 1) + 1) + 1) + 1))) σ hl hB hV (by omega) ((hV.wd (((((k + 1) + 1) + 1) + 1) + 1) (by omega) 12 (by decide)).mpr hc80_1) (hV.lt (k := (((((k + 1) + 1) + 1) + 1) + 1)) (by omega) (by omega)) (fun q => hc80_0 ⟨hc80_1, q⟩)) yX5_perhaps_w O_41 rfl rfl t_1223 ⟨by decide, by decide⟩ (Nat.le_of_ble_eq_true rfl) (by rw [show 41 + 12 * (ρ 0 7) + (vl ((k + 1) + 1)) = (((41 + (12 * ((ρ 0 7).toNat) + ((vl ((k + 1) + 1)).toNat))) : Nat) : Int) by omega]; rfl) dX5_tenantItem_80 ?_
            have ha80 : ((((((k + 1) + 1) + 1) + 1) + 1) + 1) ≤ K := hV.lt (k := (((((k + 1) + 1) + 1) + 1) + 1)) (by omega) (by omega)
            have t80 : bhN ty vl (((((k + 1) + 1) + 1) + 1) + 1) 12 99 = (-1, ((((((k + 1) + 1) + 1) + 1) + 1) + 1)) := (if_pos hc80_1).trans (if_neg (fun q => hc80_0 ⟨hc80_1, q⟩))
            have hr_ : itT 0 adS_0 ty vl k kd ρ = (false, ((((((k + 1) + 1) + 1) + 1) + 1) + 1), ρ) := by simp only [itT, t80, t61, t46]; (try (first | rw [if_pos trivial] | rw [if_neg not_false] | rw [if_pos rfl] | rw [if_neg (by omega)] | rw [if_pos (by omega)])); (try (first | rw [if_pos trivial] | rw [if_neg not_false] | rw [if_pos rfl] | rw [if_neg (by omega)] | rw [if_pos (by omega)])); (try (first | rw [if_pos trivial] | rw [if_neg not_false] | rw [if_pos rfl] | rw [if_neg (by omega)] | rw [if_pos (by omega)])); (try (first | rw [if_pos trivial] | rw [if_neg not_false] | rw [if_pos rfl] | rw [if_neg (by omega)] | rw [if_pos (by omega)]))
            exact r_vret C (pX_no hr_) dX5_tenantItem_83
          · skip
            refine r_cVv (pc := 80) C (pe_0 g 13683059 (by omega) (41 + (12 * ((ρ 0 7).toNat) + ((vl ((k + 1) + 1)).toNat))) 6 (12 * ((ρ 0 7).toNat) + ((vl ((k + 1) + 1)).toNat)) (by omega) (cidx_M (by omega)) 99 (by omega) (((((k + 1) + 1) + 1) + 1) + 1) (vl ((((k + 1) + 1) + 1) + 1)) (wr (wr (adS_0 kd 0 ρ) 4 ((ρ 0 7).toNat) (vl ((k + 1) + 1))) 5 ((ρ 0 7).toNat) (vl ((((k + 1) + 1) + 1) + 1))) σ hl hB hV (by omega) (fun q => hc80_1 ((hV.wd (((((k + 1) + 1) + 1) + 1) + 1) (by omega) 12 (by decide)).mp q))) yX5_perhaps_w O_41 rfl rfl t_1223 ⟨by decide, by decide⟩ (Nat.le_of_ble_eq_true rfl) (by rw [show 41 + 12 * (ρ 0 7) + (vl ((k + 1) + 1)) = (((41 + (12 * ((ρ 0 7).toNat) + ((vl ((k + 1) + 1)).toNat))) : Nat) : Int) by omega]; rfl) dX5_tenantItem_80 ?_
            have t80 : bhN ty vl (((((k + 1) + 1) + 1) + 1) + 1) 12 99 = (0, (((((k + 1) + 1) + 1) + 1) + 1)) := if_neg hc80_1
            have hr_ : itT 0 adS_0 ty vl k kd ρ = (true, (((((k + 1) + 1) + 1) + 1) + 1), (wr (wr (adS_0 kd 0 ρ) 4 ((ρ 0 7).toNat) (vl ((k + 1) + 1))) 5 ((ρ 0 7).toNat) (vl ((((k + 1) + 1) + 1) + 1)))) := by
              simp only [itT, t80, t61, t46]
              (try (first | rw [if_pos trivial] | rw [if_neg not_false] | rw [if_pos rfl] | rw [if_neg (by omega)] | rw [if_pos (by omega)])); (try (first | rw [if_pos trivial] | rw [if_neg not_false] | rw [if_pos rfl] | rw [if_neg (by omega)] | rw [if_pos (by omega)])); (try (first | rw [if_pos trivial] | rw [if_neg not_false] | rw [if_pos rfl] | rw [if_neg (by omega)] | rw [if_pos (by omega)])); (try (first | rw [if_pos trivial] | rw [if_neg not_false] | rw [if_pos rfl] | rw [if_neg (by omega)] | rw [if_pos (by omega)]))
              refine congrArg (fun q => (true, (((((k + 1) + 1) + 1) + 1) + 1), q)) ?_
              show wr (wr (adS_0 kd (vl ((k + 1) + 1)).toNat ρ) 5 (ρ 0 7).toNat (vl ((((k + 1) + 1) + 1) + 1))) 6 (12 * (ρ 0 7).toNat + (vl ((k + 1) + 1)).toNat) (0) = _
              (try rw [ad0_6 kd (vl ((k + 1) + 1)).toNat ρ _ (j := (vl ((k + 1) + 1)).toNat) (by omega)])
              (rw [ad0_f kd (vl ((k + 1) + 1)).toNat ρ, show (((vl ((k + 1) + 1)).toNat : Nat) : Int) = vl ((k + 1) + 1) by omega])
              try rfl
            exact r_vret C (pX_ok hr_) dX5_tenantItem_83
        by_cases hc61_1 : ty (((k + 1) + 1) + 1) = 1 ∧ vl (((k + 1) + 1) + 1) = ((11 : Nat) : Int)
        · skip
          refine r_cVv (pc := 61) C (pe_n g 7847059 (by omega) (19 + 3 * ((ρ 0 7).toNat)) 5 ((ρ 0 7).toNat) (by omega) (cidx_G (by omega)) 9999 (by omega) (((k + 1) + 1) + 1) (vl ((k + 1) + 1)) (wr (adS_0 kd 0 ρ) 4 ((ρ 0 7).toNat) (vl ((k + 1) + 1))) σ hl hB hV (by omega) ((hV.wd (((k + 1) + 1) + 1) (by omega) 11 (by decide)).mpr hc61_1) (hV.lt (k := (((k + 1) + 1) + 1)) (by omega) (by omega)) (fun q => hc61_0 ⟨hc61_1, q⟩)) yX5_perhaps_w O_41 rfl rfl t_1223 ⟨by decide, by decide⟩ (Nat.le_of_ble_eq_true rfl) (by rw [show 17 + 3 * (ρ 0 7) + 2 = (((19 + 3 * ((ρ 0 7).toNat)) : Nat) : Int) by omega]; rfl) dX5_tenantItem_61 ?_
          have ha61 : ((((k + 1) + 1) + 1) + 1) ≤ K := hV.lt (k := (((k + 1) + 1) + 1)) (by omega) (by omega)
          have t61 : bhN ty vl (((k + 1) + 1) + 1) 11 9999 = (-1, ((((k + 1) + 1) + 1) + 1)) := (if_pos hc61_1).trans (if_neg (fun q => hc61_0 ⟨hc61_1, q⟩))
          refine r_aload_n (pc := 64) C dX5_tenantItem_64 rfl 0 rfl ?_
          refine r_ldc2 (pc := 65) C 13683059 t_1232 (by decide) dX5_tenantItem_65 ?_
          refine r_iload_n (pc := 68) C dX5_tenantItem_68 rfl 2 rfl ?_
          refine r_aload_n (pc := 69) C dX5_tenantItem_69 rfl 0 rfl ?_
          refine r_iload_n (pc := 70) C dX5_tenantItem_70 rfl 2 rfl ?_
          refine r_iconst (pc := 71) C dX5_tenantItem_71 ?_
          refine r_cVi (pc := 72) C (c_its_1 g ((ρ 0 7).toNat) (by omega) (wr (adS_0 kd 0 ρ) 4 ((ρ 0 7).toNat) (vl ((k + 1) + 1))) (MS2 σ ((pos ((((k + 1) + 1) + 1) + 1) : Nat) : Int) ((tE (σ 49) (σ 41 10).toNat (pos ((((k + 1) + 1) + 1) + 1)) : Nat) : Int) (nvv σ ty pos ((((k + 1) + 1) + 1) + 1)) 1 (wr (adS_0 kd 0 ρ) 4 ((ρ 0 7).toNat) (vl ((k + 1) + 1)))) (show (MS2 σ ((pos ((((k + 1) + 1) + 1) + 1) : Nat) : Int) ((tE (σ 49) (σ 41 10).toNat (pos ((((k + 1) + 1) + 1) + 1)) : Nat) : Int) (nvv σ ty pos ((((k + 1) + 1) + 1) + 1)) 1 (wr (adS_0 kd 0 ρ) 4 ((ρ 0 7).toNat) (vl ((k + 1) + 1)))) 42 = mkS (wr (adS_0 kd 0 ρ) 4 ((ρ 0 7).toNat) (vl ((k + 1) + 1))) from rfl)) yX5_its_w O_41 rfl rfl t_875 ⟨by decide, by decide⟩ (Nat.le_of_ble_eq_true rfl) (by rw [show (((ρ 0 7).toNat : Nat) : Int) = ρ 0 7 by omega]; rfl) dX5_tenantItem_72 ?_
          refine r_top (wr_s2 _ _ _ _) ?_
          skip
          refine r_cSi (pc := 75) C (c_markAt g (ρ 0 7) (vl ((k + 1) + 1)) (MS2 σ ((pos ((((k + 1) + 1) + 1) + 1) : Nat) : Int) ((tE (σ 49) (σ 41 10).toNat (pos ((((k + 1) + 1) + 1) + 1)) : Nat) : Int) (nvv σ ty pos ((((k + 1) + 1) + 1) + 1)) 1 (wr (adS_0 kd 0 ρ) 4 ((ρ 0 7).toNat) (vl ((k + 1) + 1))))) yX5_markAt_w rfl t_868 ⟨by decide, by decide⟩ (Nat.le_of_ble_eq_true rfl) rfl dX5_tenantItem_75 ?_
          refine r_bipush (pc := 78) C dX5_tenantItem_78 (by decide) ?_
          refine r_cVv (pc := 80) C (pe_w g 13683059 (by omega) (41 + (12 * ((ρ 0 7).toNat) + ((vl ((k + 1) + 1)).toNat))) 6 (12 * ((ρ 0 7).toNat) + ((vl ((k + 1) + 1)).toNat)) (by omega) (cidx_M (by omega)) 99 (by omega) ((((k + 1) + 1) + 1) + 1) (nvv σ ty pos ((((k + 1) + 1) + 1) + 1)) (wr (adS_0 kd 0 ρ) 4 ((ρ 0 7).toNat) (vl ((k + 1) + 1))) σ hl hB hV (by omega)) yX5_perhaps_w O_41 rfl rfl t_1223 ⟨by decide, by decide⟩ (Nat.le_of_ble_eq_true rfl) (by rw [show 41 + 12 * (ρ 0 7) + (vl ((k + 1) + 1)) = (((41 + (12 * ((ρ 0 7).toNat) + ((vl ((k + 1) + 1)).toNat))) : Nat) : Int) by omega]; rfl) dX5_tenantItem_80 ?_
          have hr_ : itT 0 adS_0 ty vl k kd ρ = (false, ((((k + 1) + 1) + 1) + 1), ρ) := by simp only [itT, t61, t46]; (try (first | rw [if_pos trivial] | rw [if_neg not_false] | rw [if_pos rfl] | rw [if_neg (by omega)] | rw [if_pos (by omega)])); (try (first | rw [if_pos trivial] | rw [if_neg not_false] | rw [if_pos rfl] | rw [if_neg (by omega)] | rw [if_pos (by omega)])); (try (first | rw [if_pos trivial] | rw [if_neg not_false] | rw [if_pos rfl] | rw [if_neg (by omega)] | rw [if_pos (by omega)])); (try (first | rw [if_pos trivial] | rw [if_neg not_false] | rw [if_pos rfl] | rw [if_neg (by omega)] | rw [if_pos (by omega)]))
          exact r_vret C (pX_no hr_) dX5_tenantItem_83
        · skip
          refine r_cVv (pc := 61) C (pe_0 g 7847059 (by omega) (19 + 3 * ((ρ 0 7).toNat)) 5 ((ρ 0 7).toNat) (by omega) (cidx_G (by omega)) 9999 (by omega) (((k + 1) + 1) + 1) (vl ((k + 1) + 1)) (wr (adS_0 kd 0 ρ) 4 ((ρ 0 7).toNat) (vl ((k + 1) + 1))) σ hl hB hV (by omega) (fun q => hc61_1 ((hV.wd (((k + 1) + 1) + 1) (by omega) 11 (by decide)).mp q))) yX5_perhaps_w O_41 rfl rfl t_1223 ⟨by decide, by decide⟩ (Nat.le_of_ble_eq_true rfl) (by rw [show 17 + 3 * (ρ 0 7) + 2 = (((19 + 3 * ((ρ 0 7).toNat)) : Nat) : Int) by omega]; rfl) dX5_tenantItem_61 ?_
          have t61 : bhN ty vl (((k + 1) + 1) + 1) 11 9999 = (0, (((k + 1) + 1) + 1)) := if_neg hc61_1
          refine r_aload_n (pc := 64) C dX5_tenantItem_64 rfl 0 rfl ?_
          refine r_ldc2 (pc := 65) C 13683059 t_1232 (by decide) dX5_tenantItem_65 ?_
          refine r_iload_n (pc := 68) C dX5_tenantItem_68 rfl 2 rfl ?_
          refine r_aload_n (pc := 69) C dX5_tenantItem_69 rfl 0 rfl ?_
          refine r_iload_n (pc := 70) C dX5_tenantItem_70 rfl 2 rfl ?_
          refine r_iconst (pc := 71) C dX5_tenantItem_71 ?_
          refine r_cVi (pc := 72) C (c_its_1 g ((ρ 0 7).toNat) (by omega) (wr (adS_0 kd 0 ρ) 4 ((ρ 0 7).toNat) (vl ((k + 1) + 1))) (MS2 σ ((pos (((k + 1) + 1) + 1) : Nat) : Int) ((tE (σ 49) (σ 41 10).toNat (pos (((k + 1) + 1) + 1)) : Nat) : Int) (vl ((k + 1) + 1)) 0 (wr (adS_0 kd 0 ρ) 4 ((ρ 0 7).toNat) (vl ((k + 1) + 1)))) (show (MS2 σ ((pos (((k + 1) + 1) + 1) : Nat) : Int) ((tE (σ 49) (σ 41 10).toNat (pos (((k + 1) + 1) + 1)) : Nat) : Int) (vl ((k + 1) + 1)) 0 (wr (adS_0 kd 0 ρ) 4 ((ρ 0 7).toNat) (vl ((k + 1) + 1)))) 42 = mkS (wr (adS_0 kd 0 ρ) 4 ((ρ 0 7).toNat) (vl ((k + 1) + 1))) from rfl)) yX5_its_w O_41 rfl rfl t_875 ⟨by decide, by decide⟩ (Nat.le_of_ble_eq_true rfl) (by rw [show (((ρ 0 7).toNat : Nat) : Int) = ρ 0 7 by omega]; rfl) dX5_tenantItem_72 ?_
          refine r_top (wr_s2 _ _ _ _) ?_
          skip
          refine r_cSi (pc := 75) C (c_markAt g (ρ 0 7) (vl ((k + 1) + 1)) (MS2 σ ((pos (((k + 1) + 1) + 1) : Nat) : Int) ((tE (σ 49) (σ 41 10).toNat (pos (((k + 1) + 1) + 1)) : Nat) : Int) (vl ((k + 1) + 1)) 0 (wr (adS_0 kd 0 ρ) 4 ((ρ 0 7).toNat) (vl ((k + 1) + 1))))) yX5_markAt_w rfl t_868 ⟨by decide, by decide⟩ (Nat.le_of_ble_eq_true rfl) rfl dX5_tenantItem_75 ?_
          refine r_bipush (pc := 78) C dX5_tenantItem_78 (by decide) ?_
          by_cases hc80_0 : (ty (((k + 1) + 1) + 1) = 1 ∧ vl (((k + 1) + 1) + 1) = ((12 : Nat) : Int)) ∧ ty ((((k + 1) + 1) + 1) + 1) = 2 ∧ vl ((((k + 1) + 1) + 1) + 1) ≤ 99
          · skip
            refine r_cVv (pc := 80) C (pe_y g 13683059 (by omega) (41 + (12 * ((ρ 0 7).toNat) + ((vl ((k + 1) + 1)).toNat))) 6 (12 * ((ρ 0 7).toNat) + ((vl ((k + 1) + 1)).toNat)) (by omega) (cidx_M (by omega)) 99 (by omega) (((k + 1) + 1) + 1) (vl ((k + 1) + 1)) (wr (adS_0 kd 0 ρ) 4 ((ρ 0 7).toNat) (vl ((k + 1) + 1))) σ hl hB hV (by omega) ((hV.wd (((k + 1) + 1) + 1) (by omega) 12 (by decide)).mpr hc80_0.1) (hV.lt (k := (((k + 1) + 1) + 1)) (by omega) (by omega)) hc80_0.2) yX5_perhaps_w O_41 rfl rfl t_1223 ⟨by decide, by decide⟩ (Nat.le_of_ble_eq_true rfl) (by rw [show 41 + 12 * (ρ 0 7) + (vl ((k + 1) + 1)) = (((41 + (12 * ((ρ 0 7).toNat) + ((vl ((k + 1) + 1)).toNat))) : Nat) : Int) by omega]; rfl) dX5_tenantItem_80 ?_
            have ha80 : ((((k + 1) + 1) + 1) + 1) ≤ K := hV.lt (k := (((k + 1) + 1) + 1)) (by omega) (by omega)
            have hb80 : ((((k + 1) + 1) + 1) + 1) + 1 ≤ K := hV.lt (k := ((((k + 1) + 1) + 1) + 1)) (by omega) (by omega)
            have hz80 := hV.tk.2.2.2 ((((k + 1) + 1) + 1) + 1) (by omega)
            have t80 : bhN ty vl (((k + 1) + 1) + 1) 12 99 = (vl ((((k + 1) + 1) + 1) + 1), ((((k + 1) + 1) + 1) + 1) + 1) := (if_pos hc80_0.1).trans (if_pos hc80_0.2)
            have hr_ : itT 0 adS_0 ty vl k kd ρ = (true, (((((k + 1) + 1) + 1) + 1) + 1), (wr (wr (adS_0 kd 0 ρ) 4 ((ρ 0 7).toNat) (vl ((k + 1) + 1))) 6 (12 * ((ρ 0 7).toNat) + ((vl ((k + 1) + 1)).toNat)) (vl ((((k + 1) + 1) + 1) + 1)))) := by
              simp only [itT, t80, t61, t46]
              (try (first | rw [if_pos trivial] | rw [if_neg not_false] | rw [if_pos rfl] | rw [if_neg (by omega)] | rw [if_pos (by omega)])); (try (first | rw [if_pos trivial] | rw [if_neg not_false] | rw [if_pos rfl] | rw [if_neg (by omega)] | rw [if_pos (by omega)])); (try (first | rw [if_pos trivial] | rw [if_neg not_false] | rw [if_pos rfl] | rw [if_neg (by omega)] | rw [if_pos (by omega)])); (try (first | rw [if_pos trivial] | rw [if_neg not_false] | rw [if_pos rfl] | rw [if_neg (by omega)] | rw [if_pos (by omega)]))
              refine congrArg (fun q => (true, (((((k + 1) + 1) + 1) + 1) + 1), q)) ?_
              show wr (wr (adS_0 kd (vl ((k + 1) + 1)).toNat ρ) 5 (ρ 0 7).toNat (0)) 6 (12 * (ρ 0 7).toNat + (vl ((k + 1) + 1)).toNat) (vl ((((k + 1) + 1) + 1) + 1)) = _
              (try rw [ad0_5 kd (vl ((k + 1) + 1)).toNat ρ])
              (rw [ad0_f kd (vl ((k + 1) + 1)).toNat ρ, show (((vl ((k + 1) + 1)).toNat : Nat) : Int) = vl ((k + 1) + 1) by omega])
              try rfl
            exact r_vret C (pX_ok hr_) dX5_tenantItem_83
          by_cases hc80_1 : ty (((k + 1) + 1) + 1) = 1 ∧ vl (((k + 1) + 1) + 1) = ((12 : Nat) : Int)
          · skip
            refine r_cVv (pc := 80) C (pe_n g 13683059 (by omega) (41 + (12 * ((ρ 0 7).toNat) + ((vl ((k + 1) + 1)).toNat))) 6 (12 * ((ρ 0 7).toNat) + ((vl ((k + 1) + 1)).toNat)) (by omega) (cidx_M (by omega)) 99 (by omega) (((k + 1) + 1) + 1) (vl ((k + 1) + 1)) (wr (adS_0 kd 0 ρ) 4 ((ρ 0 7).toNat) (vl ((k + 1) + 1))) σ hl hB hV (by omega) ((hV.wd (((k + 1) + 1) + 1) (by omega) 12 (by decide)).mpr hc80_1) (hV.lt (k := (((k + 1) + 1) + 1)) (by omega) (by omega)) (fun q => hc80_0 ⟨hc80_1, q⟩)) yX5_perhaps_w O_41 rfl rfl t_1223 ⟨by decide, by decide⟩ (Nat.le_of_ble_eq_true rfl) (by rw [show 41 + 12 * (ρ 0 7) + (vl ((k + 1) + 1)) = (((41 + (12 * ((ρ 0 7).toNat) + ((vl ((k + 1) + 1)).toNat))) : Nat) : Int) by omega]; rfl) dX5_tenantItem_80 ?_
            have ha80 : ((((k + 1) + 1) + 1) + 1) ≤ K := hV.lt (k := (((k + 1) + 1) + 1)) (by omega) (by omega)
            have t80 : bhN ty vl (((k + 1) + 1) + 1) 12 99 = (-1, ((((k + 1) + 1) + 1) + 1)) := (if_pos hc80_1).trans (if_neg (fun q => hc80_0 ⟨hc80_1, q⟩))
            have hr_ : itT 0 adS_0 ty vl k kd ρ = (false, ((((k + 1) + 1) + 1) + 1), ρ) := by simp only [itT, t80, t61, t46]; (try (first | rw [if_pos trivial] | rw [if_neg not_false] | rw [if_pos rfl] | rw [if_neg (by omega)] | rw [if_pos (by omega)])); (try (first | rw [if_pos trivial] | rw [if_neg not_false] | rw [if_pos rfl] | rw [if_neg (by omega)] | rw [if_pos (by omega)])); (try (first | rw [if_pos trivial] | rw [if_neg not_false] | rw [if_pos rfl] | rw [if_neg (by omega)] | rw [if_pos (by omega)])); (try (first | rw [if_pos trivial] | rw [if_neg not_false] | rw [if_pos rfl] | rw [if_neg (by omega)] | rw [if_pos (by omega)]))
            exact r_vret C (pX_no hr_) dX5_tenantItem_83
          · skip
            refine r_cVv (pc := 80) C (pe_0 g 13683059 (by omega) (41 + (12 * ((ρ 0 7).toNat) + ((vl ((k + 1) + 1)).toNat))) 6 (12 * ((ρ 0 7).toNat) + ((vl ((k + 1) + 1)).toNat)) (by omega) (cidx_M (by omega)) 99 (by omega) (((k + 1) + 1) + 1) (vl ((k + 1) + 1)) (wr (adS_0 kd 0 ρ) 4 ((ρ 0 7).toNat) (vl ((k + 1) + 1))) σ hl hB hV (by omega) (fun q => hc80_1 ((hV.wd (((k + 1) + 1) + 1) (by omega) 12 (by decide)).mp q))) yX5_perhaps_w O_41 rfl rfl t_1223 ⟨by decide, by decide⟩ (Nat.le_of_ble_eq_true rfl) (by rw [show 41 + 12 * (ρ 0 7) + (vl ((k + 1) + 1)) = (((41 + (12 * ((ρ 0 7).toNat) + ((vl ((k + 1) + 1)).toNat))) : Nat) : Int) by omega]; rfl) dX5_tenantItem_80 ?_
            have t80 : bhN ty vl (((k + 1) + 1) + 1) 12 99 = (0, (((k + 1) + 1) + 1)) := if_neg hc80_1
            have hr_ : itT 0 adS_0 ty vl k kd ρ = (true, (((k + 1) + 1) + 1), (wr (adS_0 kd 0 ρ) 4 ((ρ 0 7).toNat) (vl ((k + 1) + 1)))) := by
              simp only [itT, t80, t61, t46]
              (try (first | rw [if_pos trivial] | rw [if_neg not_false] | rw [if_pos rfl] | rw [if_neg (by omega)] | rw [if_pos (by omega)])); (try (first | rw [if_pos trivial] | rw [if_neg not_false] | rw [if_pos rfl] | rw [if_neg (by omega)] | rw [if_pos (by omega)])); (try (first | rw [if_pos trivial] | rw [if_neg not_false] | rw [if_pos rfl] | rw [if_neg (by omega)] | rw [if_pos (by omega)])); (try (first | rw [if_pos trivial] | rw [if_neg not_false] | rw [if_pos rfl] | rw [if_neg (by omega)] | rw [if_pos (by omega)]))
              refine congrArg (fun q => (true, (((k + 1) + 1) + 1), q)) ?_
              show wr (wr (adS_0 kd (vl ((k + 1) + 1)).toNat ρ) 5 (ρ 0 7).toNat (0)) 6 (12 * (ρ 0 7).toNat + (vl ((k + 1) + 1)).toNat) (0) = _
              (try rw [ad0_6 kd (vl ((k + 1) + 1)).toNat ρ _ (j := (vl ((k + 1) + 1)).toNat) (by omega)])
              (try rw [ad0_5 kd (vl ((k + 1) + 1)).toNat ρ])
              (rw [ad0_f kd (vl ((k + 1) + 1)).toNat ρ, show (((vl ((k + 1) + 1)).toNat : Nat) : Int) = vl ((k + 1) + 1) by omega])
              try rfl
            exact r_vret C (pX_ok hr_) dX5_tenantItem_83
      by_cases hc46_1 : ty (k + 1) = 1 ∧ vl (k + 1) = ((10 : Nat) : Int)
      · skip
        refine r_cVv (pc := 46) C (pe_n g 52 (by omega) (18 + 3 * ((ρ 0 7).toNat)) 4 ((ρ 0 7).toNat) (by omega) (cidx_A (by omega)) 11 (by omega) (k + 1) v (adS_0 kd 0 ρ) σ hl hB hV (by omega) ((hV.wd (k + 1) (by omega) 10 (by decide)).mpr hc46_1) (hV.lt (k := (k + 1)) (by omega) (by omega)) (fun q => hc46_0 ⟨hc46_1, q⟩)) yX5_perhaps_w O_41 rfl rfl t_1223 ⟨by decide, by decide⟩ (Nat.le_of_ble_eq_true rfl) (by rw [show 17 + 3 * (ρ 0 7) + 1 = (((18 + 3 * ((ρ 0 7).toNat)) : Nat) : Int) by omega]; rfl) dX5_tenantItem_46 ?_
        have ha46 : ((k + 1) + 1) ≤ K := hV.lt (k := (k + 1)) (by omega) (by omega)
        have t46 : bhN ty vl (k + 1) 10 11 = (-1, ((k + 1) + 1)) := (if_pos hc46_1).trans (if_neg (fun q => hc46_0 ⟨hc46_1, q⟩))
        refine r_aload_n (pc := 49) C dX5_tenantItem_49 rfl 0 rfl ?_
        refine r_ldc2 (pc := 50) C 7847059 t_1231 (by decide) dX5_tenantItem_50 ?_
        refine r_iload_n (pc := 53) C dX5_tenantItem_53 rfl 2 rfl ?_
        refine r_iconst (pc := 54) C dX5_tenantItem_54 ?_
        refine r_cSi (pc := 55) C (c_place g (ρ 0 7) 2 (MS2 σ ((pos ((k + 1) + 1) : Nat) : Int) ((tE (σ 49) (σ 41 10).toNat (pos ((k + 1) + 1)) : Nat) : Int) (nvv σ ty pos ((k + 1) + 1)) 1 (adS_0 kd 0 ρ))) yX5_place_w rfl t_879 ⟨by decide, by decide⟩ (Nat.le_of_ble_eq_true rfl) rfl dX5_tenantItem_55 ?_
        refine r_sipush (pc := 58) C dX5_tenantItem_58 (by decide) ?_
        refine r_cVv (pc := 61) C (pe_w g 7847059 (by omega) (19 + 3 * ((ρ 0 7).toNat)) 5 ((ρ 0 7).toNat) (by omega) (cidx_G (by omega)) 9999 (by omega) ((k + 1) + 1) (nvv σ ty pos ((k + 1) + 1)) (adS_0 kd 0 ρ) σ hl hB hV (by omega)) yX5_perhaps_w O_41 rfl rfl t_1223 ⟨by decide, by decide⟩ (Nat.le_of_ble_eq_true rfl) (by rw [show 17 + 3 * (ρ 0 7) + 2 = (((19 + 3 * ((ρ 0 7).toNat)) : Nat) : Int) by omega]; rfl) dX5_tenantItem_61 ?_
        refine r_aload_n (pc := 64) C dX5_tenantItem_64 rfl 0 rfl ?_
        refine r_ldc2 (pc := 65) C 13683059 t_1232 (by decide) dX5_tenantItem_65 ?_
        refine r_iload_n (pc := 68) C dX5_tenantItem_68 rfl 2 rfl ?_
        refine r_aload_n (pc := 69) C dX5_tenantItem_69 rfl 0 rfl ?_
        refine r_iload_n (pc := 70) C dX5_tenantItem_70 rfl 2 rfl ?_
        refine r_iconst (pc := 71) C dX5_tenantItem_71 ?_
        refine r_cVi (pc := 72) C (c_its_1 g ((ρ 0 7).toNat) (by omega) (adS_0 kd 0 ρ) (MS2 σ ((pos ((k + 1) + 1) : Nat) : Int) ((tE (σ 49) (σ 41 10).toNat (pos ((k + 1) + 1)) : Nat) : Int) (nvv σ ty pos ((k + 1) + 1)) 1 (adS_0 kd 0 ρ)) (show (MS2 σ ((pos ((k + 1) + 1) : Nat) : Int) ((tE (σ 49) (σ 41 10).toNat (pos ((k + 1) + 1)) : Nat) : Int) (nvv σ ty pos ((k + 1) + 1)) 1 (adS_0 kd 0 ρ)) 42 = mkS (adS_0 kd 0 ρ) from rfl)) yX5_its_w O_41 rfl rfl t_875 ⟨by decide, by decide⟩ (Nat.le_of_ble_eq_true rfl) (by rw [show (((ρ 0 7).toNat : Nat) : Int) = ρ 0 7 by omega]; rfl) dX5_tenantItem_72 ?_
        refine r_top (show _ = 0 from ad0_at kd ρ) ?_
        refine r_cSi (pc := 75) C (c_markAt g (ρ 0 7) 0 (MS2 σ ((pos ((k + 1) + 1) : Nat) : Int) ((tE (σ 49) (σ 41 10).toNat (pos ((k + 1) + 1)) : Nat) : Int) (nvv σ ty pos ((k + 1) + 1)) 1 (adS_0 kd 0 ρ))) yX5_markAt_w rfl t_868 ⟨by decide, by decide⟩ (Nat.le_of_ble_eq_true rfl) rfl dX5_tenantItem_75 ?_
        refine r_bipush (pc := 78) C dX5_tenantItem_78 (by decide) ?_
        refine r_cVv (pc := 80) C (pe_w g 13683059 (by omega) (41 + (12 * ((ρ 0 7).toNat) + 0)) 6 (12 * ((ρ 0 7).toNat) + 0) (by omega) (cidx_M (by omega)) 99 (by omega) ((k + 1) + 1) (nvv σ ty pos ((k + 1) + 1)) (adS_0 kd 0 ρ) σ hl hB hV (by omega)) yX5_perhaps_w O_41 rfl rfl t_1223 ⟨by decide, by decide⟩ (Nat.le_of_ble_eq_true rfl) (by rw [show 41 + 12 * (ρ 0 7) + 0 = (((41 + (12 * ((ρ 0 7).toNat) + 0)) : Nat) : Int) by omega]; rfl) dX5_tenantItem_80 ?_
        have hr_ : itT 0 adS_0 ty vl k kd ρ = (false, ((k + 1) + 1), ρ) := by simp only [itT, t46]; (try (first | rw [if_pos trivial] | rw [if_neg not_false] | rw [if_pos rfl] | rw [if_neg (by omega)] | rw [if_pos (by omega)])); (try (first | rw [if_pos trivial] | rw [if_neg not_false] | rw [if_pos rfl] | rw [if_neg (by omega)] | rw [if_pos (by omega)])); (try (first | rw [if_pos trivial] | rw [if_neg not_false] | rw [if_pos rfl] | rw [if_neg (by omega)] | rw [if_pos (by omega)])); (try (first | rw [if_pos trivial] | rw [if_neg not_false] | rw [if_pos rfl] | rw [if_neg (by omega)] | rw [if_pos (by omega)]))
        exact r_vret C (pX_no hr_) dX5_tenantItem_83
      · skip
        refine r_cVv (pc := 46) C (pe_0 g 52 (by omega) (18 + 3 * ((ρ 0 7).toNat)) 4 ((ρ 0 7).toNat) (by omega) (cidx_A (by omega)) 11 (by omega) (k + 1) v (adS_0 kd 0 ρ) σ hl hB hV (by omega) (fun q => hc46_1 ((hV.wd (k + 1) (by omega) 10 (by decide)).mp q))) yX5_perhaps_w O_41 rfl rfl t_1223 ⟨by decide, by decide⟩ (Nat.le_of_ble_eq_true rfl) (by rw [show 17 + 3 * (ρ 0 7) + 1 = (((18 + 3 * ((ρ 0 7).toNat)) : Nat) : Int) by omega]; rfl) dX5_tenantItem_46 ?_
        have t46 : bhN ty vl (k + 1) 10 11 = (0, (k + 1)) := if_neg hc46_1
        refine r_aload_n (pc := 49) C dX5_tenantItem_49 rfl 0 rfl ?_
        refine r_ldc2 (pc := 50) C 7847059 t_1231 (by decide) dX5_tenantItem_50 ?_
        refine r_iload_n (pc := 53) C dX5_tenantItem_53 rfl 2 rfl ?_
        refine r_iconst (pc := 54) C dX5_tenantItem_54 ?_
        refine r_cSi (pc := 55) C (c_place g (ρ 0 7) 2 (MS2 σ ((pos (k + 1) : Nat) : Int) ((tE (σ 49) (σ 41 10).toNat (pos (k + 1)) : Nat) : Int) v 0 (adS_0 kd 0 ρ))) yX5_place_w rfl t_879 ⟨by decide, by decide⟩ (Nat.le_of_ble_eq_true rfl) rfl dX5_tenantItem_55 ?_
        refine r_sipush (pc := 58) C dX5_tenantItem_58 (by decide) ?_
        by_cases hc61_0 : (ty (k + 1) = 1 ∧ vl (k + 1) = ((11 : Nat) : Int)) ∧ ty ((k + 1) + 1) = 2 ∧ vl ((k + 1) + 1) ≤ 9999
        · skip
          refine r_cVv (pc := 61) C (pe_y g 7847059 (by omega) (19 + 3 * ((ρ 0 7).toNat)) 5 ((ρ 0 7).toNat) (by omega) (cidx_G (by omega)) 9999 (by omega) (k + 1) v (adS_0 kd 0 ρ) σ hl hB hV (by omega) ((hV.wd (k + 1) (by omega) 11 (by decide)).mpr hc61_0.1) (hV.lt (k := (k + 1)) (by omega) (by omega)) hc61_0.2) yX5_perhaps_w O_41 rfl rfl t_1223 ⟨by decide, by decide⟩ (Nat.le_of_ble_eq_true rfl) (by rw [show 17 + 3 * (ρ 0 7) + 2 = (((19 + 3 * ((ρ 0 7).toNat)) : Nat) : Int) by omega]; rfl) dX5_tenantItem_61 ?_
          have ha61 : ((k + 1) + 1) ≤ K := hV.lt (k := (k + 1)) (by omega) (by omega)
          have hb61 : ((k + 1) + 1) + 1 ≤ K := hV.lt (k := ((k + 1) + 1)) (by omega) (by omega)
          have hz61 := hV.tk.2.2.2 ((k + 1) + 1) (by omega)
          have t61 : bhN ty vl (k + 1) 11 9999 = (vl ((k + 1) + 1), ((k + 1) + 1) + 1) := (if_pos hc61_0.1).trans (if_pos hc61_0.2)
          refine r_aload_n (pc := 64) C dX5_tenantItem_64 rfl 0 rfl ?_
          refine r_ldc2 (pc := 65) C 13683059 t_1232 (by decide) dX5_tenantItem_65 ?_
          refine r_iload_n (pc := 68) C dX5_tenantItem_68 rfl 2 rfl ?_
          refine r_aload_n (pc := 69) C dX5_tenantItem_69 rfl 0 rfl ?_
          refine r_iload_n (pc := 70) C dX5_tenantItem_70 rfl 2 rfl ?_
          refine r_iconst (pc := 71) C dX5_tenantItem_71 ?_
          refine r_cVi (pc := 72) C (c_its_1 g ((ρ 0 7).toNat) (by omega) (wr (adS_0 kd 0 ρ) 5 ((ρ 0 7).toNat) (vl ((k + 1) + 1))) (MS2 σ ((pos (((k + 1) + 1) + 1) : Nat) : Int) ((tE (σ 49) (σ 41 10).toNat (pos (((k + 1) + 1) + 1)) : Nat) : Int) (vl ((k + 1) + 1)) 0 (wr (adS_0 kd 0 ρ) 5 ((ρ 0 7).toNat) (vl ((k + 1) + 1)))) (show (MS2 σ ((pos (((k + 1) + 1) + 1) : Nat) : Int) ((tE (σ 49) (σ 41 10).toNat (pos (((k + 1) + 1) + 1)) : Nat) : Int) (vl ((k + 1) + 1)) 0 (wr (adS_0 kd 0 ρ) 5 ((ρ 0 7).toNat) (vl ((k + 1) + 1)))) 42 = mkS (wr (adS_0 kd 0 ρ) 5 ((ρ 0 7).toNat) (vl ((k + 1) + 1))) from rfl)) yX5_its_w O_41 rfl rfl t_875 ⟨by decide, by decide⟩ (Nat.le_of_ble_eq_true rfl) (by rw [show (((ρ 0 7).toNat : Nat) : Int) = ρ 0 7 by omega]; rfl) dX5_tenantItem_72 ?_
          refine r_top (wr_o2 (k := 5) (k' := 4) _ _ _ _ (by omega)) ?_
          refine r_top (show _ = 0 from ad0_at kd ρ) ?_
          refine r_cSi (pc := 75) C (c_markAt g (ρ 0 7) 0 (MS2 σ ((pos (((k + 1) + 1) + 1) : Nat) : Int) ((tE (σ 49) (σ 41 10).toNat (pos (((k + 1) + 1) + 1)) : Nat) : Int) (vl ((k + 1) + 1)) 0 (wr (adS_0 kd 0 ρ) 5 ((ρ 0 7).toNat) (vl ((k + 1) + 1))))) yX5_markAt_w rfl t_868 ⟨by decide, by decide⟩ (Nat.le_of_ble_eq_true rfl) rfl dX5_tenantItem_75 ?_
          refine r_bipush (pc := 78) C dX5_tenantItem_78 (by decide) ?_
          by_cases hc80_0 : (ty (((k + 1) + 1) + 1) = 1 ∧ vl (((k + 1) + 1) + 1) = ((12 : Nat) : Int)) ∧ ty ((((k + 1) + 1) + 1) + 1) = 2 ∧ vl ((((k + 1) + 1) + 1) + 1) ≤ 99
          · skip
            refine r_cVv (pc := 80) C (pe_y g 13683059 (by omega) (41 + (12 * ((ρ 0 7).toNat) + 0)) 6 (12 * ((ρ 0 7).toNat) + 0) (by omega) (cidx_M (by omega)) 99 (by omega) (((k + 1) + 1) + 1) (vl ((k + 1) + 1)) (wr (adS_0 kd 0 ρ) 5 ((ρ 0 7).toNat) (vl ((k + 1) + 1))) σ hl hB hV (by omega) ((hV.wd (((k + 1) + 1) + 1) (by omega) 12 (by decide)).mpr hc80_0.1) (hV.lt (k := (((k + 1) + 1) + 1)) (by omega) (by omega)) hc80_0.2) yX5_perhaps_w O_41 rfl rfl t_1223 ⟨by decide, by decide⟩ (Nat.le_of_ble_eq_true rfl) (by rw [show 41 + 12 * (ρ 0 7) + 0 = (((41 + (12 * ((ρ 0 7).toNat) + 0)) : Nat) : Int) by omega]; rfl) dX5_tenantItem_80 ?_
            have ha80 : ((((k + 1) + 1) + 1) + 1) ≤ K := hV.lt (k := (((k + 1) + 1) + 1)) (by omega) (by omega)
            have hb80 : ((((k + 1) + 1) + 1) + 1) + 1 ≤ K := hV.lt (k := ((((k + 1) + 1) + 1) + 1)) (by omega) (by omega)
            have hz80 := hV.tk.2.2.2 ((((k + 1) + 1) + 1) + 1) (by omega)
            have t80 : bhN ty vl (((k + 1) + 1) + 1) 12 99 = (vl ((((k + 1) + 1) + 1) + 1), ((((k + 1) + 1) + 1) + 1) + 1) := (if_pos hc80_0.1).trans (if_pos hc80_0.2)
            have hr_ : itT 0 adS_0 ty vl k kd ρ = (true, (((((k + 1) + 1) + 1) + 1) + 1), (wr (wr (adS_0 kd 0 ρ) 5 ((ρ 0 7).toNat) (vl ((k + 1) + 1))) 6 (12 * ((ρ 0 7).toNat) + 0) (vl ((((k + 1) + 1) + 1) + 1)))) := by
              simp only [itT, t80, t61, t46]
              (try (first | rw [if_pos trivial] | rw [if_neg not_false] | rw [if_pos rfl] | rw [if_neg (by omega)] | rw [if_pos (by omega)])); (try (first | rw [if_pos trivial] | rw [if_neg not_false] | rw [if_pos rfl] | rw [if_neg (by omega)] | rw [if_pos (by omega)])); (try (first | rw [if_pos trivial] | rw [if_neg not_false] | rw [if_pos rfl] | rw [if_neg (by omega)] | rw [if_pos (by omega)])); (try (first | rw [if_pos trivial] | rw [if_neg not_false] | rw [if_pos rfl] | rw [if_neg (by omega)] | rw [if_pos (by omega)]))
              refine congrArg (fun q => (true, (((((k + 1) + 1) + 1) + 1) + 1), q)) ?_
              show wr (wr (adS_0 kd 0 ρ) 5 (ρ 0 7).toNat (vl ((k + 1) + 1))) 6 (12 * (ρ 0 7).toNat + 0) (vl ((((k + 1) + 1) + 1) + 1)) = _
              try rfl
            exact r_vret C (pX_ok hr_) dX5_tenantItem_83
          by_cases hc80_1 : ty (((k + 1) + 1) + 1) = 1 ∧ vl (((k + 1) + 1) + 1) = ((12 : Nat) : Int)
          · skip
            refine r_cVv (pc := 80) C (pe_n g 13683059 (by omega) (41 + (12 * ((ρ 0 7).toNat) + 0)) 6 (12 * ((ρ 0 7).toNat) + 0) (by omega) (cidx_M (by omega)) 99 (by omega) (((k + 1) + 1) + 1) (vl ((k + 1) + 1)) (wr (adS_0 kd 0 ρ) 5 ((ρ 0 7).toNat) (vl ((k + 1) + 1))) σ hl hB hV (by omega) ((hV.wd (((k + 1) + 1) + 1) (by omega) 12 (by decide)).mpr hc80_1) (hV.lt (k := (((k + 1) + 1) + 1)) (by omega) (by omega)) (fun q => hc80_0 ⟨hc80_1, q⟩)) yX5_perhaps_w O_41 rfl rfl t_1223 ⟨by decide, by decide⟩ (Nat.le_of_ble_eq_true rfl) (by rw [show 41 + 12 * (ρ 0 7) + 0 = (((41 + (12 * ((ρ 0 7).toNat) + 0)) : Nat) : Int) by omega]; rfl) dX5_tenantItem_80 ?_
            have ha80 : ((((k + 1) + 1) + 1) + 1) ≤ K := hV.lt (k := (((k + 1) + 1) + 1)) (by omega) (by omega)
            have t80 : bhN ty vl (((k + 1) + 1) + 1) 12 99 = (-1, ((((k + 1) + 1) + 1) + 1)) := (if_pos hc80_1).trans (if_neg (fun q => hc80_0 ⟨hc80_1, q⟩))
            have hr_ : itT 0 adS_0 ty vl k kd ρ = (false, ((((k + 1) + 1) + 1) + 1), ρ) := by simp only [itT, t80, t61, t46]; (try (first | rw [if_pos trivial] | rw [if_neg not_false] | rw [if_pos rfl] | rw [if_neg (by omega)] | rw [if_pos (by omega)])); (try (first | rw [if_pos trivial] | rw [if_neg not_false] | rw [if_pos rfl] | rw [if_neg (by omega)] | rw [if_pos (by omega)])); (try (first | rw [if_pos trivial] | rw [if_neg not_false] | rw [if_pos rfl] | rw [if_neg (by omega)] | rw [if_pos (by omega)])); (try (first | rw [if_pos trivial] | rw [if_neg not_false] | rw [if_pos rfl] | rw [if_neg (by omega)] | rw [if_pos (by omega)]))
            exact r_vret C (pX_no hr_) dX5_tenantItem_83
          · skip
            refine r_cVv (pc := 80) C (pe_0 g 13683059 (by omega) (41 + (12 * ((ρ 0 7).toNat) + 0)) 6 (12 * ((ρ 0 7).toNat) + 0) (by omega) (cidx_M (by omega)) 99 (by omega) (((k + 1) + 1) + 1) (vl ((k + 1) + 1)) (wr (adS_0 kd 0 ρ) 5 ((ρ 0 7).toNat) (vl ((k + 1) + 1))) σ hl hB hV (by omega) (fun q => hc80_1 ((hV.wd (((k + 1) + 1) + 1) (by omega) 12 (by decide)).mp q))) yX5_perhaps_w O_41 rfl rfl t_1223 ⟨by decide, by decide⟩ (Nat.le_of_ble_eq_true rfl) (by rw [show 41 + 12 * (ρ 0 7) + 0 = (((41 + (12 * ((ρ 0 7).toNat) + 0)) : Nat) : Int) by omega]; rfl) dX5_tenantItem_80 ?_
            have t80 : bhN ty vl (((k + 1) + 1) + 1) 12 99 = (0, (((k + 1) + 1) + 1)) := if_neg hc80_1
            have hr_ : itT 0 adS_0 ty vl k kd ρ = (true, (((k + 1) + 1) + 1), (wr (adS_0 kd 0 ρ) 5 ((ρ 0 7).toNat) (vl ((k + 1) + 1)))) := by
              simp only [itT, t80, t61, t46]
              (try (first | rw [if_pos trivial] | rw [if_neg not_false] | rw [if_pos rfl] | rw [if_neg (by omega)] | rw [if_pos (by omega)])); (try (first | rw [if_pos trivial] | rw [if_neg not_false] | rw [if_pos rfl] | rw [if_neg (by omega)] | rw [if_pos (by omega)])); (try (first | rw [if_pos trivial] | rw [if_neg not_false] | rw [if_pos rfl] | rw [if_neg (by omega)] | rw [if_pos (by omega)])); (try (first | rw [if_pos trivial] | rw [if_neg not_false] | rw [if_pos rfl] | rw [if_neg (by omega)] | rw [if_pos (by omega)]))
              refine congrArg (fun q => (true, (((k + 1) + 1) + 1), q)) ?_
              show wr (wr (adS_0 kd 0 ρ) 5 (ρ 0 7).toNat (vl ((k + 1) + 1))) 6 (12 * (ρ 0 7).toNat + 0) (0) = _
              (try rw [ad0_6 kd 0 ρ _ (j := 0) (by omega)])
              try rfl
            exact r_vret C (pX_ok hr_) dX5_tenantItem_83
        by_cases hc61_1 : ty (k + 1) = 1 ∧ vl (k + 1) = ((11 : Nat) : Int)
        · skip
          refine r_cVv (pc := 61) C (pe_n g 7847059 (by omega) (19 + 3 * ((ρ 0 7).toNat)) 5 ((ρ 0 7).toNat) (by omega) (cidx_G (by omega)) 9999 (by omega) (k + 1) v (adS_0 kd 0 ρ) σ hl hB hV (by omega) ((hV.wd (k + 1) (by omega) 11 (by decide)).mpr hc61_1) (hV.lt (k := (k + 1)) (by omega) (by omega)) (fun q => hc61_0 ⟨hc61_1, q⟩)) yX5_perhaps_w O_41 rfl rfl t_1223 ⟨by decide, by decide⟩ (Nat.le_of_ble_eq_true rfl) (by rw [show 17 + 3 * (ρ 0 7) + 2 = (((19 + 3 * ((ρ 0 7).toNat)) : Nat) : Int) by omega]; rfl) dX5_tenantItem_61 ?_
          have ha61 : ((k + 1) + 1) ≤ K := hV.lt (k := (k + 1)) (by omega) (by omega)
          have t61 : bhN ty vl (k + 1) 11 9999 = (-1, ((k + 1) + 1)) := (if_pos hc61_1).trans (if_neg (fun q => hc61_0 ⟨hc61_1, q⟩))
          refine r_aload_n (pc := 64) C dX5_tenantItem_64 rfl 0 rfl ?_
          refine r_ldc2 (pc := 65) C 13683059 t_1232 (by decide) dX5_tenantItem_65 ?_
          refine r_iload_n (pc := 68) C dX5_tenantItem_68 rfl 2 rfl ?_
          refine r_aload_n (pc := 69) C dX5_tenantItem_69 rfl 0 rfl ?_
          refine r_iload_n (pc := 70) C dX5_tenantItem_70 rfl 2 rfl ?_
          refine r_iconst (pc := 71) C dX5_tenantItem_71 ?_
          refine r_cVi (pc := 72) C (c_its_1 g ((ρ 0 7).toNat) (by omega) (adS_0 kd 0 ρ) (MS2 σ ((pos ((k + 1) + 1) : Nat) : Int) ((tE (σ 49) (σ 41 10).toNat (pos ((k + 1) + 1)) : Nat) : Int) (nvv σ ty pos ((k + 1) + 1)) 1 (adS_0 kd 0 ρ)) (show (MS2 σ ((pos ((k + 1) + 1) : Nat) : Int) ((tE (σ 49) (σ 41 10).toNat (pos ((k + 1) + 1)) : Nat) : Int) (nvv σ ty pos ((k + 1) + 1)) 1 (adS_0 kd 0 ρ)) 42 = mkS (adS_0 kd 0 ρ) from rfl)) yX5_its_w O_41 rfl rfl t_875 ⟨by decide, by decide⟩ (Nat.le_of_ble_eq_true rfl) (by rw [show (((ρ 0 7).toNat : Nat) : Int) = ρ 0 7 by omega]; rfl) dX5_tenantItem_72 ?_
          refine r_top (show _ = 0 from ad0_at kd ρ) ?_
          refine r_cSi (pc := 75) C (c_markAt g (ρ 0 7) 0 (MS2 σ ((pos ((k + 1) + 1) : Nat) : Int) ((tE (σ 49) (σ 41 10).toNat (pos ((k + 1) + 1)) : Nat) : Int) (nvv σ ty pos ((k + 1) + 1)) 1 (adS_0 kd 0 ρ))) yX5_markAt_w rfl t_868 ⟨by decide, by decide⟩ (Nat.le_of_ble_eq_true rfl) rfl dX5_tenantItem_75 ?_
          refine r_bipush (pc := 78) C dX5_tenantItem_78 (by decide) ?_
          refine r_cVv (pc := 80) C (pe_w g 13683059 (by omega) (41 + (12 * ((ρ 0 7).toNat) + 0)) 6 (12 * ((ρ 0 7).toNat) + 0) (by omega) (cidx_M (by omega)) 99 (by omega) ((k + 1) + 1) (nvv σ ty pos ((k + 1) + 1)) (adS_0 kd 0 ρ) σ hl hB hV (by omega)) yX5_perhaps_w O_41 rfl rfl t_1223 ⟨by decide, by decide⟩ (Nat.le_of_ble_eq_true rfl) (by rw [show 41 + 12 * (ρ 0 7) + 0 = (((41 + (12 * ((ρ 0 7).toNat) + 0)) : Nat) : Int) by omega]; rfl) dX5_tenantItem_80 ?_
          have hr_ : itT 0 adS_0 ty vl k kd ρ = (false, ((k + 1) + 1), ρ) := by simp only [itT, t61, t46]; (try (first | rw [if_pos trivial] | rw [if_neg not_false] | rw [if_pos rfl] | rw [if_neg (by omega)] | rw [if_pos (by omega)])); (try (first | rw [if_pos trivial] | rw [if_neg not_false] | rw [if_pos rfl] | rw [if_neg (by omega)] | rw [if_pos (by omega)])); (try (first | rw [if_pos trivial] | rw [if_neg not_false] | rw [if_pos rfl] | rw [if_neg (by omega)] | rw [if_pos (by omega)])); (try (first | rw [if_pos trivial] | rw [if_neg not_false] | rw [if_pos rfl] | rw [if_neg (by omega)] | rw [if_pos (by omega)]))
          exact r_vret C (pX_no hr_) dX5_tenantItem_83
        · skip
          refine r_cVv (pc := 61) C (pe_0 g 7847059 (by omega) (19 + 3 * ((ρ 0 7).toNat)) 5 ((ρ 0 7).toNat) (by omega) (cidx_G (by omega)) 9999 (by omega) (k + 1) v (adS_0 kd 0 ρ) σ hl hB hV (by omega) (fun q => hc61_1 ((hV.wd (k + 1) (by omega) 11 (by decide)).mp q))) yX5_perhaps_w O_41 rfl rfl t_1223 ⟨by decide, by decide⟩ (Nat.le_of_ble_eq_true rfl) (by rw [show 17 + 3 * (ρ 0 7) + 2 = (((19 + 3 * ((ρ 0 7).toNat)) : Nat) : Int) by omega]; rfl) dX5_tenantItem_61 ?_
          have t61 : bhN ty vl (k + 1) 11 9999 = (0, (k + 1)) := if_neg hc61_1
          refine r_aload_n (pc := 64) C dX5_tenantItem_64 rfl 0 rfl ?_
          refine r_ldc2 (pc := 65) C 13683059 t_1232 (by decide) dX5_tenantItem_65 ?_
          refine r_iload_n (pc := 68) C dX5_tenantItem_68 rfl 2 rfl ?_
          refine r_aload_n (pc := 69) C dX5_tenantItem_69 rfl 0 rfl ?_
          refine r_iload_n (pc := 70) C dX5_tenantItem_70 rfl 2 rfl ?_
          refine r_iconst (pc := 71) C dX5_tenantItem_71 ?_
          refine r_cVi (pc := 72) C (c_its_1 g ((ρ 0 7).toNat) (by omega) (adS_0 kd 0 ρ) (MS2 σ ((pos (k + 1) : Nat) : Int) ((tE (σ 49) (σ 41 10).toNat (pos (k + 1)) : Nat) : Int) v 0 (adS_0 kd 0 ρ)) (show (MS2 σ ((pos (k + 1) : Nat) : Int) ((tE (σ 49) (σ 41 10).toNat (pos (k + 1)) : Nat) : Int) v 0 (adS_0 kd 0 ρ)) 42 = mkS (adS_0 kd 0 ρ) from rfl)) yX5_its_w O_41 rfl rfl t_875 ⟨by decide, by decide⟩ (Nat.le_of_ble_eq_true rfl) (by rw [show (((ρ 0 7).toNat : Nat) : Int) = ρ 0 7 by omega]; rfl) dX5_tenantItem_72 ?_
          refine r_top (show _ = 0 from ad0_at kd ρ) ?_
          refine r_cSi (pc := 75) C (c_markAt g (ρ 0 7) 0 (MS2 σ ((pos (k + 1) : Nat) : Int) ((tE (σ 49) (σ 41 10).toNat (pos (k + 1)) : Nat) : Int) v 0 (adS_0 kd 0 ρ))) yX5_markAt_w rfl t_868 ⟨by decide, by decide⟩ (Nat.le_of_ble_eq_true rfl) rfl dX5_tenantItem_75 ?_
          refine r_bipush (pc := 78) C dX5_tenantItem_78 (by decide) ?_
          by_cases hc80_0 : (ty (k + 1) = 1 ∧ vl (k + 1) = ((12 : Nat) : Int)) ∧ ty ((k + 1) + 1) = 2 ∧ vl ((k + 1) + 1) ≤ 99
          · skip
            refine r_cVv (pc := 80) C (pe_y g 13683059 (by omega) (41 + (12 * ((ρ 0 7).toNat) + 0)) 6 (12 * ((ρ 0 7).toNat) + 0) (by omega) (cidx_M (by omega)) 99 (by omega) (k + 1) v (adS_0 kd 0 ρ) σ hl hB hV (by omega) ((hV.wd (k + 1) (by omega) 12 (by decide)).mpr hc80_0.1) (hV.lt (k := (k + 1)) (by omega) (by omega)) hc80_0.2) yX5_perhaps_w O_41 rfl rfl t_1223 ⟨by decide, by decide⟩ (Nat.le_of_ble_eq_true rfl) (by rw [show 41 + 12 * (ρ 0 7) + 0 = (((41 + (12 * ((ρ 0 7).toNat) + 0)) : Nat) : Int) by omega]; rfl) dX5_tenantItem_80 ?_
            have ha80 : ((k + 1) + 1) ≤ K := hV.lt (k := (k + 1)) (by omega) (by omega)
            have hb80 : ((k + 1) + 1) + 1 ≤ K := hV.lt (k := ((k + 1) + 1)) (by omega) (by omega)
            have hz80 := hV.tk.2.2.2 ((k + 1) + 1) (by omega)
            have t80 : bhN ty vl (k + 1) 12 99 = (vl ((k + 1) + 1), ((k + 1) + 1) + 1) := (if_pos hc80_0.1).trans (if_pos hc80_0.2)
            have hr_ : itT 0 adS_0 ty vl k kd ρ = (true, (((k + 1) + 1) + 1), (wr (adS_0 kd 0 ρ) 6 (12 * ((ρ 0 7).toNat) + 0) (vl ((k + 1) + 1)))) := by
              simp only [itT, t80, t61, t46]
              (try (first | rw [if_pos trivial] | rw [if_neg not_false] | rw [if_pos rfl] | rw [if_neg (by omega)] | rw [if_pos (by omega)])); (try (first | rw [if_pos trivial] | rw [if_neg not_false] | rw [if_pos rfl] | rw [if_neg (by omega)] | rw [if_pos (by omega)])); (try (first | rw [if_pos trivial] | rw [if_neg not_false] | rw [if_pos rfl] | rw [if_neg (by omega)] | rw [if_pos (by omega)])); (try (first | rw [if_pos trivial] | rw [if_neg not_false] | rw [if_pos rfl] | rw [if_neg (by omega)] | rw [if_pos (by omega)]))
              refine congrArg (fun q => (true, (((k + 1) + 1) + 1), q)) ?_
              show wr (wr (adS_0 kd 0 ρ) 5 (ρ 0 7).toNat (0)) 6 (12 * (ρ 0 7).toNat + 0) (vl ((k + 1) + 1)) = _
              (try rw [ad0_5 kd 0 ρ])
              try rfl
            exact r_vret C (pX_ok hr_) dX5_tenantItem_83
          by_cases hc80_1 : ty (k + 1) = 1 ∧ vl (k + 1) = ((12 : Nat) : Int)
          · skip
            refine r_cVv (pc := 80) C (pe_n g 13683059 (by omega) (41 + (12 * ((ρ 0 7).toNat) + 0)) 6 (12 * ((ρ 0 7).toNat) + 0) (by omega) (cidx_M (by omega)) 99 (by omega) (k + 1) v (adS_0 kd 0 ρ) σ hl hB hV (by omega) ((hV.wd (k + 1) (by omega) 12 (by decide)).mpr hc80_1) (hV.lt (k := (k + 1)) (by omega) (by omega)) (fun q => hc80_0 ⟨hc80_1, q⟩)) yX5_perhaps_w O_41 rfl rfl t_1223 ⟨by decide, by decide⟩ (Nat.le_of_ble_eq_true rfl) (by rw [show 41 + 12 * (ρ 0 7) + 0 = (((41 + (12 * ((ρ 0 7).toNat) + 0)) : Nat) : Int) by omega]; rfl) dX5_tenantItem_80 ?_
            have ha80 : ((k + 1) + 1) ≤ K := hV.lt (k := (k + 1)) (by omega) (by omega)
            have t80 : bhN ty vl (k + 1) 12 99 = (-1, ((k + 1) + 1)) := (if_pos hc80_1).trans (if_neg (fun q => hc80_0 ⟨hc80_1, q⟩))
            have hr_ : itT 0 adS_0 ty vl k kd ρ = (false, ((k + 1) + 1), ρ) := by simp only [itT, t80, t61, t46]; (try (first | rw [if_pos trivial] | rw [if_neg not_false] | rw [if_pos rfl] | rw [if_neg (by omega)] | rw [if_pos (by omega)])); (try (first | rw [if_pos trivial] | rw [if_neg not_false] | rw [if_pos rfl] | rw [if_neg (by omega)] | rw [if_pos (by omega)])); (try (first | rw [if_pos trivial] | rw [if_neg not_false] | rw [if_pos rfl] | rw [if_neg (by omega)] | rw [if_pos (by omega)])); (try (first | rw [if_pos trivial] | rw [if_neg not_false] | rw [if_pos rfl] | rw [if_neg (by omega)] | rw [if_pos (by omega)]))
            exact r_vret C (pX_no hr_) dX5_tenantItem_83
          · skip
            refine r_cVv (pc := 80) C (pe_0 g 13683059 (by omega) (41 + (12 * ((ρ 0 7).toNat) + 0)) 6 (12 * ((ρ 0 7).toNat) + 0) (by omega) (cidx_M (by omega)) 99 (by omega) (k + 1) v (adS_0 kd 0 ρ) σ hl hB hV (by omega) (fun q => hc80_1 ((hV.wd (k + 1) (by omega) 12 (by decide)).mp q))) yX5_perhaps_w O_41 rfl rfl t_1223 ⟨by decide, by decide⟩ (Nat.le_of_ble_eq_true rfl) (by rw [show 41 + 12 * (ρ 0 7) + 0 = (((41 + (12 * ((ρ 0 7).toNat) + 0)) : Nat) : Int) by omega]; rfl) dX5_tenantItem_80 ?_
            have t80 : bhN ty vl (k + 1) 12 99 = (0, (k + 1)) := if_neg hc80_1
            have hr_ : itT 0 adS_0 ty vl k kd ρ = (true, (k + 1), (adS_0 kd 0 ρ)) := by
              simp only [itT, t80, t61, t46]
              (try (first | rw [if_pos trivial] | rw [if_neg not_false] | rw [if_pos rfl] | rw [if_neg (by omega)] | rw [if_pos (by omega)])); (try (first | rw [if_pos trivial] | rw [if_neg not_false] | rw [if_pos rfl] | rw [if_neg (by omega)] | rw [if_pos (by omega)])); (try (first | rw [if_pos trivial] | rw [if_neg not_false] | rw [if_pos rfl] | rw [if_neg (by omega)] | rw [if_pos (by omega)])); (try (first | rw [if_pos trivial] | rw [if_neg not_false] | rw [if_pos rfl] | rw [if_neg (by omega)] | rw [if_pos (by omega)]))
              refine congrArg (fun q => (true, (k + 1), q)) ?_
              show wr (wr (adS_0 kd 0 ρ) 5 (ρ 0 7).toNat (0)) 6 (12 * (ρ 0 7).toNat + 0) (0) = _
              (try rw [ad0_6 kd 0 ρ _ (j := 0) (by omega)])
              (try rw [ad0_5 kd 0 ρ])
              try rfl
            exact r_vret C (pX_ok hr_) dX5_tenantItem_83
    · skip
      omega
