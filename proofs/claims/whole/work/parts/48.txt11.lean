def pX (σ : Sg) (pos : Nat → Nat) (r : It) : Option Value → Sg → Prop := fun v s => v = none ∧ ∃ (v2 : Int) (ρ2 : Sg), s = PS σ pos r.2.1 v2 (if r.1 = true then 0 else 1) ρ2 ∧ (r.1 = true → ρ2 = r.2.2)
theorem pX_ok {σ ρ2 : Sg} {pos : Nat → Nat} {r : It} {k : Nat} {v2 : Int} (h : r = (true, k, ρ2)) : pX σ pos r none (PS σ pos k v2 0 ρ2) := by
  subst h
  exact ⟨rfl, v2, ρ2, rfl, fun _ => rfl⟩
theorem pX_no {σ ρ2 ρ3 : Sg} {pos : Nat → Nat} {r : It} {k : Nat} {v2 : Int} (h : r = (false, k, ρ3)) : pX σ pos r none (PS σ pos k v2 1 ρ2) := by
  subst h
  exact ⟨rfl, v2, ρ2, rfl, fun q => absurd q Bool.false_ne_true⟩
set_option maxHeartbeats 4000000 in
set_option maxRecDepth 100000 in
theorem c_dustItem (g : Gt) {ty vl : Nat → Int} {pos : Nat → Nat} {K : Nat} (k : Nat) (v : Int) (ρ σ : Sg) (hl : 0 ≤ σ 41 10 ∧ σ 41 10 ≤ 120) (hB : ∀ j, j < 120 → 0 ≤ σ 49 j ∧ σ 49 j ≤ 255) (hV : TV σ ty vl pos K) (hk : k ≤ K) (hty : ty k = 1) (hD : rgD (ρ 1)) : Mt g yX5_dustItem cX5_dustItem 2 none 5 [.ref (gA g 41)] (MS2 σ ((pos k : Nat) : Int) ((tE (σ 49) (σ 41 10).toNat (pos k) : Nat) : Int) v 0 ρ) (pX σ pos (itD 0 ty vl k ρ)) := by
  have hkK : k < K := hV.lt hk (by omega)
  refine mt_of (own := RX5) (by decide) rfl (Nat.le_of_ble_eq_true rfl) (fun E C => ?_)
  show J g E (pX σ pos (itD 0 ty vl k ρ)) 2 0 [(0, .ref (gA g 41))] [] (MS2 σ ((pos k : Nat) : Int) ((tE (σ 49) (σ 41 10).toNat (pos k) : Nat) : Int) v 0 ρ)
  refine r_aload_n (pc := 0) C dX5_dustItem_0 rfl 0 rfl ?_
  refine r_iconst (pc := 1) C dX5_dustItem_1 ?_
  refine r_cVv (pc := 2) C (m_y g k v ρ σ hl hB hV (by omega)) yX5_must_w O_41 rfl rfl t_1218 ⟨by decide, by decide⟩ (Nat.le_of_ble_eq_true rfl) rfl dX5_dustItem_2 ?_
  refine r_aload_n (pc := 5) C dX5_dustItem_5 rfl 0 rfl ?_
  refine r_iconst (pc := 6) C dX5_dustItem_6 ?_
  refine r_bipush (pc := 7) C dX5_dustItem_7 (by decide) ?_
  by_cases hc9_0 : ty (k + 1) = 2 ∧ vl (k + 1) ≤ 11
  · skip
    refine r_cVv (pc := 9) C (n_y g (k + 1) 11 (by omega) v ρ σ hl hB hV (by omega) hc9_0) yX5_number_w O_41 rfl rfl t_1227 ⟨by decide, by decide⟩ (Nat.le_of_ble_eq_true rfl) rfl dX5_dustItem_9 ?_
    have hx9 : (k + 1) + 1 ≤ K := hV.lt (k := (k + 1)) (by omega) (by omega)
    have hy9 := hV.tk.2.2.2 (k + 1) (by omega)
    have t9 : tkN ty vl (k + 1) 11 = (vl (k + 1), (k + 1) + 1) := if_pos hc9_0
    refine r_aload_n (pc := 12) C dX5_dustItem_12 rfl 0 rfl ?_
    refine r_getI5 (pc := 13) C 14 rfl O_41 (by decide) rfl t_794 dX5_dustItem_13 ?_
    refine r_top (show _ = 0 from rfl) ?_
    refine r_if_eq (pc := 16) C 23 ⟨by omega, by omega⟩ dX5_dustItem_16 (by decide) (fun h16 => ?_) (fun h16 => ?_)
    · skip
      refine r_iconst (pc := 23) C dX5_dustItem_23 ?_
      refine r_aload_n (pc := 24) C dX5_dustItem_24 rfl 0 rfl ?_
      refine r_getI5 (pc := 25) C 13 rfl O_41 (by decide) rfl t_793 dX5_dustItem_25 ?_
      refine r_top (show _ = vl (k + 1) from rfl) ?_
      refine r_iadd (pc := 28) C dX5_dustItem_28 ?_
      refine r_istore_n (pc := 29) C dX5_dustItem_29 rfl (by decide) [1, 0] (lv' := [(0, .ref (gA g 41)), (1, .int (iI (5 + (vl (k + 1)))))]) rfl ?_
      refine r_aload_n (pc := 30) C dX5_dustItem_30 rfl 0 rfl ?_
      refine r_iconst (pc := 31) C dX5_dustItem_31 ?_
      refine r_sipush (pc := 32) C dX5_dustItem_32 (by decide) ?_
      by_cases hc35_0 : ty ((k + 1) + 1) = 2 ∧ vl ((k + 1) + 1) ≤ 9999
      · skip
        refine r_cVv (pc := 35) C (n_y g ((k + 1) + 1) 9999 (by omega) (vl (k + 1)) ρ σ hl hB hV (by omega) hc35_0) yX5_number_w O_41 rfl rfl t_1227 ⟨by decide, by decide⟩ (Nat.le_of_ble_eq_true rfl) rfl dX5_dustItem_35 ?_
        have hx35 : ((k + 1) + 1) + 1 ≤ K := hV.lt (k := ((k + 1) + 1)) (by omega) (by omega)
        have hy35 := hV.tk.2.2.2 ((k + 1) + 1) (by omega)
        have t35 : tkN ty vl ((k + 1) + 1) 9999 = (vl ((k + 1) + 1), ((k + 1) + 1) + 1) := if_pos hc35_0
        refine r_aload_n (pc := 38) C dX5_dustItem_38 rfl 0 rfl ?_
        refine r_getR5 (pc := 39) C 0 (k' := 42) rfl O_41 (by decide) rfl t_780 dX5_dustItem_39 ?_
        refine r_iload_n (pc := 42) C dX5_dustItem_42 rfl 1 rfl ?_
        refine r_aload_n (pc := 43) C dX5_dustItem_43 rfl 0 rfl ?_
        refine r_getI5 (pc := 44) C 14 rfl O_41 (by decide) rfl t_794 dX5_dustItem_44 ?_
        refine r_top (show _ = 0 from rfl) ?_
        refine r_if_eq (pc := 47) C 59 ⟨by omega, by omega⟩ dX5_dustItem_47 (by decide) (fun h47 => ?_) (fun h47 => ?_)
        · skip
          refine r_aload_n (pc := 59) C dX5_dustItem_59 rfl 0 rfl ?_
          refine r_getI5 (pc := 60) C 13 rfl O_41 (by decide) rfl t_793 dX5_dustItem_60 ?_
          refine r_top (show _ = vl ((k + 1) + 1) from rfl) ?_
          refine r_iast (pc := 63) C (5 + (vl (k + 1)).toNat) A_42 (by omega) (by omega) dX5_dustItem_63 ?_
          refine r_sg (MS_42 (cidx_D (by omega))) ?_
          have hr_ : itD 0 ty vl k ρ = (true, (((k + 1) + 1) + 1), (wr ρ 1 ((vl (k + 1)).toNat) (vl ((k + 1) + 1)))) := by simp only [itD, t35, t9]; (try (first | rw [if_pos rfl] | rw [if_neg (by omega)] | rw [if_pos (by omega)])); (try (first | rw [if_pos rfl] | rw [if_neg (by omega)] | rw [if_pos (by omega)])); (try rfl)
          exact r_vret C (pX_ok hr_) dX5_dustItem_64
        · skip
          omega
      · skip
        refine r_cVv (pc := 35) C (n_n g ((k + 1) + 1) 9999 (by omega) (vl (k + 1)) ρ σ hl hB hV (by omega) hc35_0) yX5_number_w O_41 rfl rfl t_1227 ⟨by decide, by decide⟩ (Nat.le_of_ble_eq_true rfl) rfl dX5_dustItem_35 ?_
        have t35 : tkN ty vl ((k + 1) + 1) 9999 = (-1, ((k + 1) + 1)) := if_neg hc35_0
        refine r_aload_n (pc := 38) C dX5_dustItem_38 rfl 0 rfl ?_
        refine r_getR5 (pc := 39) C 0 (k' := 42) rfl O_41 (by decide) rfl t_780 dX5_dustItem_39 ?_
        refine r_iload_n (pc := 42) C dX5_dustItem_42 rfl 1 rfl ?_
        refine r_aload_n (pc := 43) C dX5_dustItem_43 rfl 0 rfl ?_
        refine r_getI5 (pc := 44) C 14 rfl O_41 (by decide) rfl t_794 dX5_dustItem_44 ?_
        refine r_top (show _ = 1 from rfl) ?_
        refine r_if_eq (pc := 47) C 59 ⟨by omega, by omega⟩ dX5_dustItem_47 (by decide) (fun h47 => ?_) (fun h47 => ?_)
        · skip
          omega
        · skip
          refine r_aload_n (pc := 50) C dX5_dustItem_50 rfl 0 rfl ?_
          refine r_getR5 (pc := 51) C 0 (k' := 42) rfl O_41 (by decide) rfl t_780 dX5_dustItem_51 ?_
          refine r_iload_n (pc := 54) C dX5_dustItem_54 rfl 1 rfl ?_
          refine r_iald (pc := 55) C (5 + (vl (k + 1)).toNat) A_42 (by omega) (by omega) dX5_dustItem_55 ?_
          refine r_top (show _ = ρ 1 ((vl (k + 1)).toNat) from (congrFun (show (MS2 σ ((pos ((k + 1) + 1) : Nat) : Int) ((tE (σ 49) (σ 41 10).toNat (pos ((k + 1) + 1)) : Nat) : Int) (nvv σ ty pos ((k + 1) + 1)) 1 ρ) 42 = mkS ρ from rfl) _).trans (mkS_at (cidx_D (by omega)))) ?_
          refine r_goto (pc := 56) C 63 dX5_dustItem_56 (by decide) ?_
          refine r_iast (pc := 63) C (5 + (vl (k + 1)).toNat) A_42 (by omega) (by omega) dX5_dustItem_63 ?_
          refine r_sg (MS_42 (cidx_D (by omega))) ?_
          have hr_ : itD 0 ty vl k ρ = (false, ((k + 1) + 1), ρ) := by simp only [itD, t35, t9]; (try (first | rw [if_pos rfl] | rw [if_neg (by omega)] | rw [if_pos (by omega)])); (try (first | rw [if_pos rfl] | rw [if_neg (by omega)] | rw [if_pos (by omega)])); (try rfl)
          exact r_vret C (pX_no hr_) dX5_dustItem_64
    · skip
      omega
  · skip
    refine r_cVv (pc := 9) C (n_n g (k + 1) 11 (by omega) v ρ σ hl hB hV (by omega) hc9_0) yX5_number_w O_41 rfl rfl t_1227 ⟨by decide, by decide⟩ (Nat.le_of_ble_eq_true rfl) rfl dX5_dustItem_9 ?_
    have t9 : tkN ty vl (k + 1) 11 = (-1, (k + 1)) := if_neg hc9_0
    refine r_aload_n (pc := 12) C dX5_dustItem_12 rfl 0 rfl ?_
    refine r_getI5 (pc := 13) C 14 rfl O_41 (by decide) rfl t_794 dX5_dustItem_13 ?_
    refine r_top (show _ = 1 from rfl) ?_
    refine r_if_eq (pc := 16) C 23 ⟨by omega, by omega⟩ dX5_dustItem_16 (by decide) (fun h16 => ?_) (fun h16 => ?_)
    · skip
      omega
    · skip
      refine r_iconst (pc := 19) C dX5_dustItem_19 ?_
      refine r_goto (pc := 20) C 29 dX5_dustItem_20 (by decide) ?_
      refine r_istore_n (pc := 29) C dX5_dustItem_29 rfl (by decide) [1, 0] (lv' := [(0, .ref (gA g 41)), (1, .int (iI (5)))]) rfl ?_
      refine r_aload_n (pc := 30) C dX5_dustItem_30 rfl 0 rfl ?_
      refine r_iconst (pc := 31) C dX5_dustItem_31 ?_
      refine r_sipush (pc := 32) C dX5_dustItem_32 (by decide) ?_
      refine r_cVv (pc := 35) C (c_number_w g 9999 ((pos (k + 1) : Nat) : Int) ((tE (σ 49) (σ 41 10).toNat (pos (k + 1)) : Nat) : Int) (nvv σ ty pos (k + 1)) ρ σ hl hB) yX5_number_w O_41 rfl rfl t_1227 ⟨by decide, by decide⟩ (Nat.le_of_ble_eq_true rfl) rfl dX5_dustItem_35 ?_
      refine r_aload_n (pc := 38) C dX5_dustItem_38 rfl 0 rfl ?_
      refine r_getR5 (pc := 39) C 0 (k' := 42) rfl O_41 (by decide) rfl t_780 dX5_dustItem_39 ?_
      refine r_iload_n (pc := 42) C dX5_dustItem_42 rfl 1 rfl ?_
      refine r_aload_n (pc := 43) C dX5_dustItem_43 rfl 0 rfl ?_
      refine r_getI5 (pc := 44) C 14 rfl O_41 (by decide) rfl t_794 dX5_dustItem_44 ?_
      refine r_top (show _ = 1 from rfl) ?_
      refine r_if_eq (pc := 47) C 59 ⟨by omega, by omega⟩ dX5_dustItem_47 (by decide) (fun h47 => ?_) (fun h47 => ?_)
      · skip
        omega
      · skip
        refine r_aload_n (pc := 50) C dX5_dustItem_50 rfl 0 rfl ?_
        refine r_getR5 (pc := 51) C 0 (k' := 42) rfl O_41 (by decide) rfl t_780 dX5_dustItem_51 ?_
        refine r_iload_n (pc := 54) C dX5_dustItem_54 rfl 1 rfl ?_
        refine r_iald (pc := 55) C 5 A_42 (by omega) (by omega) dX5_dustItem_55 ?_
        refine r_top (show _ = ρ 1 0 from (congrFun (show (MS2 σ ((pos (k + 1) : Nat) : Int) ((tE (σ 49) (σ 41 10).toNat (pos (k + 1)) : Nat) : Int) (nvv σ ty pos (k + 1)) 1 ρ) 42 = mkS ρ from rfl) _).trans (mkS_at (show cidx 5 = (1, 0) from rfl))) ?_
        refine r_goto (pc := 56) C 63 dX5_dustItem_56 (by decide) ?_
        refine r_iast (pc := 63) C 5 A_42 (by omega) (by omega) dX5_dustItem_63 ?_
        refine r_sg (MS_42 (show cidx 5 = (1, 0) from rfl)) ?_
        have hr_ : itD 0 ty vl k ρ = (false, (k + 1), ρ) := by simp only [itD, t9]; (try (first | rw [if_pos rfl] | rw [if_neg (by omega)] | rw [if_pos (by omega)])); (try (first | rw [if_pos rfl] | rw [if_neg (by omega)] | rw [if_pos (by omega)])); (try rfl)
        exact r_vret C (pX_no hr_) dX5_dustItem_64
set_option maxHeartbeats 4000000 in
set_option maxRecDepth 100000 in
theorem c_draughtItem (g : Gt) {ty vl : Nat → Int} {pos : Nat → Nat} {K : Nat} (k : Nat) (v : Int) (ρ σ : Sg) (hl : 0 ≤ σ 41 10 ∧ σ 41 10 ≤ 120) (hB : ∀ j, j < 120 → 0 ≤ σ 49 j ∧ σ 49 j ≤ 255) (hV : TV σ ty vl pos K) (hk : k ≤ K) (hty : ty k = 1) : Mt g yX5_draughtItem cX5_draughtItem 2 none 5 [.ref (gA g 41)] (MS2 σ ((pos k : Nat) : Int) ((tE (σ 49) (σ 41 10).toNat (pos k) : Nat) : Int) v 0 ρ) (pX σ pos (itW 0 ty vl k ρ)) := by
  have hkK : k < K := hV.lt hk (by omega)
  refine mt_of (own := RX5) (by decide) rfl (Nat.le_of_ble_eq_true rfl) (fun E C => ?_)
  show J g E (pX σ pos (itW 0 ty vl k ρ)) 2 0 [(0, .ref (gA g 41))] [] (MS2 σ ((pos k : Nat) : Int) ((tE (σ 49) (σ 41 10).toNat (pos k) : Nat) : Int) v 0 ρ)
  refine r_aload_n (pc := 0) C dX5_draughtItem_0 rfl 0 rfl ?_
  refine r_iconst (pc := 1) C dX5_draughtItem_1 ?_
  refine r_cVv (pc := 2) C (m_y g k v ρ σ hl hB hV (by omega)) yX5_must_w O_41 rfl rfl t_1218 ⟨by decide, by decide⟩ (Nat.le_of_ble_eq_true rfl) rfl dX5_draughtItem_2 ?_
  refine r_aload_n (pc := 5) C dX5_draughtItem_5 rfl 0 rfl ?_
  refine r_getI5 (pc := 6) C 14 rfl O_41 (by decide) rfl t_794 dX5_draughtItem_6 ?_
  refine r_top (show _ = 0 from rfl) ?_
  refine r_if_ne (pc := 9) C 29 ⟨by omega, by omega⟩ dX5_draughtItem_9 (by decide) (fun h9 => ?_) (fun h9 => ?_)
  · skip
    omega
  · skip
    have hle1 := hV.le (k + 1) (by omega)
    refine r_aload_n (pc := 12) C dX5_draughtItem_12 rfl 0 rfl ?_
    refine r_aload_n (pc := 13) C dX5_draughtItem_13 rfl 0 rfl ?_
    refine r_getI5 (pc := 14) C 11 rfl O_41 (by decide) rfl t_791 dX5_draughtItem_14 ?_
    refine r_top (show _ = ((pos (k + 1) : Nat) : Int) from rfl) ?_
    refine r_cVi (pc := 17) C (c_byteAt g (pos (k + 1)) (by omega) (MS2 σ ((pos (k + 1) : Nat) : Int) ((tE (σ 49) (σ 41 10).toNat (pos (k + 1)) : Nat) : Int) v 0 ρ) hl hB) yX5_byteAt_w O_41 rfl rfl t_1179 ⟨by decide, by decide⟩ (Nat.le_of_ble_eq_true rfl) rfl dX5_draughtItem_17 ?_
    refine r_top (show _ = btA (σ 49) (σ 41 10).toNat (pos (k + 1)) from rfl) ?_
    have hbt17 := btA_rng (B := σ 49) (L := (σ 41 10).toNat) (p := (pos (k + 1))) (by omega) hB
    refine r_bipush (pc := 20) C dX5_draughtItem_20 (by decide) ?_
    refine r_icmp_ne (pc := 22) C 29 ⟨by omega, by omega⟩ ⟨by omega, by omega⟩ dX5_draughtItem_22 (by decide) (fun h22 => ?_) (fun h22 => ?_)
    · skip
      have h4 : ¬ ty (k + 1) = 4 := fun q => h22 ((hV.mi (k + 1) (by omega)).mpr q)
      have tsg : sgN ty (k + 1) 4 = k + 1 := if_neg h4
      refine r_iconst (pc := 29) C dX5_draughtItem_29 ?_
      refine r_istore_n (pc := 30) C dX5_draughtItem_30 rfl (by decide) [1, 0] (lv' := [(0, .ref (gA g 41)), (1, .int (iI (0)))]) rfl ?_
      refine r_iload_n (pc := 31) C dX5_draughtItem_31 rfl 1 rfl ?_
      refine r_if_eq (pc := 32) C 40 ⟨by omega, by omega⟩ dX5_draughtItem_32 (by decide) (fun h32 => ?_) (fun h32 => ?_)
      · skip
        refine r_aload_n (pc := 40) C dX5_draughtItem_40 rfl 0 rfl ?_
        refine r_iconst (pc := 41) C dX5_draughtItem_41 ?_
        refine r_iconst (pc := 42) C dX5_draughtItem_42 ?_
        by_cases hc43_0 : ty (k + 1) = 2 ∧ vl (k + 1) ≤ 3
        · skip
          refine r_cVv (pc := 43) C (n_y g (k + 1) 3 (by omega) v ρ σ hl hB hV (by omega) hc43_0) yX5_number_w O_41 rfl rfl t_1227 ⟨by decide, by decide⟩ (Nat.le_of_ble_eq_true rfl) rfl dX5_draughtItem_43 ?_
          have hx43 : (k + 1) + 1 ≤ K := hV.lt (k := (k + 1)) (by omega) (by omega)
          have hy43 := hV.tk.2.2.2 (k + 1) (by omega)
          have t43 : tkN ty vl (k + 1) 3 = (vl (k + 1), (k + 1) + 1) := if_pos hc43_0
          refine r_aload_n (pc := 46) C dX5_draughtItem_46 rfl 0 rfl ?_
          refine r_getR5 (pc := 47) C 0 (k' := 42) rfl O_41 (by decide) rfl t_780 dX5_draughtItem_47 ?_
          refine r_iconst (pc := 50) C dX5_draughtItem_50 ?_
          refine r_aload_n (pc := 51) C dX5_draughtItem_51 rfl 0 rfl ?_
          refine r_getI5 (pc := 52) C 14 rfl O_41 (by decide) rfl t_794 dX5_draughtItem_52 ?_
          refine r_top (show _ = 0 from rfl) ?_
          refine r_if_eq (pc := 55) C 67 ⟨by omega, by omega⟩ dX5_draughtItem_55 (by decide) (fun h55 => ?_) (fun h55 => ?_)
          · skip
            refine r_iload_n (pc := 67) C dX5_draughtItem_67 rfl 1 rfl ?_
            refine r_if_eq (pc := 68) C 79 ⟨by omega, by omega⟩ dX5_draughtItem_68 (by decide) (fun h68 => ?_) (fun h68 => ?_)
            · skip
              refine r_aload_n (pc := 79) C dX5_draughtItem_79 rfl 0 rfl ?_
              refine r_getI5 (pc := 80) C 13 rfl O_41 (by decide) rfl t_793 dX5_draughtItem_80 ?_
              refine r_top (show _ = vl (k + 1) from rfl) ?_
              refine r_iast (pc := 83) C 3 A_42 (by omega) (by omega) dX5_draughtItem_83 ?_
              refine r_sg (MS_42 rfl) ?_
              have hr_ : itW 0 ty vl k ρ = (true, ((k + 1) + 1), (wr ρ 0 9 (vl (k + 1)))) := by simp only [itW, t43, tsg]; (try (first | rw [if_pos rfl] | rw [if_neg (by omega)] | rw [if_pos (by omega)])); (try (first | rw [if_pos rfl] | rw [if_neg (by omega)] | rw [if_pos (by omega)])); (try rfl)
              exact r_vret C (pX_ok hr_) dX5_draughtItem_84
            · skip
              omega
          · skip
            omega
        · skip
          refine r_cVv (pc := 43) C (n_n g (k + 1) 3 (by omega) v ρ σ hl hB hV (by omega) hc43_0) yX5_number_w O_41 rfl rfl t_1227 ⟨by decide, by decide⟩ (Nat.le_of_ble_eq_true rfl) rfl dX5_draughtItem_43 ?_
          have t43 : tkN ty vl (k + 1) 3 = (-1, (k + 1)) := if_neg hc43_0
          refine r_aload_n (pc := 46) C dX5_draughtItem_46 rfl 0 rfl ?_
          refine r_getR5 (pc := 47) C 0 (k' := 42) rfl O_41 (by decide) rfl t_780 dX5_draughtItem_47 ?_
          refine r_iconst (pc := 50) C dX5_draughtItem_50 ?_
          refine r_aload_n (pc := 51) C dX5_draughtItem_51 rfl 0 rfl ?_
          refine r_getI5 (pc := 52) C 14 rfl O_41 (by decide) rfl t_794 dX5_draughtItem_52 ?_
          refine r_top (show _ = 1 from rfl) ?_
          refine r_if_eq (pc := 55) C 67 ⟨by omega, by omega⟩ dX5_draughtItem_55 (by decide) (fun h55 => ?_) (fun h55 => ?_)
          · skip
            omega
          · skip
            refine r_aload_n (pc := 58) C dX5_draughtItem_58 rfl 0 rfl ?_
            refine r_getR5 (pc := 59) C 0 (k' := 42) rfl O_41 (by decide) rfl t_780 dX5_draughtItem_59 ?_
            refine r_iconst (pc := 62) C dX5_draughtItem_62 ?_
            refine r_iald (pc := 63) C 3 A_42 (by omega) (by omega) dX5_draughtItem_63 ?_
            refine r_top (show _ = ρ 0 9 from (congrFun (show (MS2 σ ((pos (k + 1) : Nat) : Int) ((tE (σ 49) (σ 41 10).toNat (pos (k + 1)) : Nat) : Int) (nvv σ ty pos (k + 1)) 1 ρ) 42 = mkS ρ from rfl) _).trans (mkS_at rfl)) ?_
            refine r_goto (pc := 64) C 83 dX5_draughtItem_64 (by decide) ?_
            refine r_iast (pc := 83) C 3 A_42 (by omega) (by omega) dX5_draughtItem_83 ?_
            refine r_sg (MS_42 rfl) ?_
            have hr_ : itW 0 ty vl k ρ = (false, (k + 1), ρ) := by simp only [itW, t43, tsg]; (try (first | rw [if_pos rfl] | rw [if_neg (by omega)] | rw [if_pos (by omega)])); (try (first | rw [if_pos rfl] | rw [if_neg (by omega)] | rw [if_pos (by omega)])); (try rfl)
            exact r_vret C (pX_no hr_) dX5_draughtItem_84
      · skip
        omega
    · skip
      have h4 : ty (k + 1) = 4 := (hV.mi (k + 1) (by omega)).mp h22
      have h4lt : k + 1 < K := hV.lt (k := k + 1) (by omega) (by omega)
      have tsg : sgN ty (k + 1) 4 = k + 1 + 1 := if_pos h4
      refine r_iconst (pc := 25) C dX5_draughtItem_25 ?_
      refine r_goto (pc := 26) C 30 dX5_draughtItem_26 (by decide) ?_
      refine r_istore_n (pc := 30) C dX5_draughtItem_30 rfl (by decide) [1, 0] (lv' := [(0, .ref (gA g 41)), (1, .int (iI (1)))]) rfl ?_
      refine r_iload_n (pc := 31) C dX5_draughtItem_31 rfl 1 rfl ?_
      refine r_if_eq (pc := 32) C 40 ⟨by omega, by omega⟩ dX5_draughtItem_32 (by decide) (fun h32 => ?_) (fun h32 => ?_)
      · skip
        omega
      · skip
        refine r_aload_n (pc := 35) C dX5_draughtItem_35 rfl 0 rfl ?_
        refine r_iconst (pc := 36) C dX5_draughtItem_36 ?_
        refine r_cVv (pc := 37) C (m_y g (k + 1) v ρ σ hl hB hV h4lt) yX5_must_w O_41 rfl rfl t_1218 ⟨by decide, by decide⟩ (Nat.le_of_ble_eq_true rfl) rfl dX5_draughtItem_37 ?_
        refine r_aload_n (pc := 40) C dX5_draughtItem_40 rfl 0 rfl ?_
        refine r_iconst (pc := 41) C dX5_draughtItem_41 ?_
        refine r_iconst (pc := 42) C dX5_draughtItem_42 ?_
        by_cases hc43_0 : ty ((k + 1) + 1) = 2 ∧ vl ((k + 1) + 1) ≤ 3
        · skip
          refine r_cVv (pc := 43) C (n_y g ((k + 1) + 1) 3 (by omega) v ρ σ hl hB hV (by omega) hc43_0) yX5_number_w O_41 rfl rfl t_1227 ⟨by decide, by decide⟩ (Nat.le_of_ble_eq_true rfl) rfl dX5_draughtItem_43 ?_
          have hx43 : ((k + 1) + 1) + 1 ≤ K := hV.lt (k := ((k + 1) + 1)) (by omega) (by omega)
          have hy43 := hV.tk.2.2.2 ((k + 1) + 1) (by omega)
          have t43 : tkN ty vl ((k + 1) + 1) 3 = (vl ((k + 1) + 1), ((k + 1) + 1) + 1) := if_pos hc43_0
          refine r_aload_n (pc := 46) C dX5_draughtItem_46 rfl 0 rfl ?_
          refine r_getR5 (pc := 47) C 0 (k' := 42) rfl O_41 (by decide) rfl t_780 dX5_draughtItem_47 ?_
          refine r_iconst (pc := 50) C dX5_draughtItem_50 ?_
          refine r_aload_n (pc := 51) C dX5_draughtItem_51 rfl 0 rfl ?_
          refine r_getI5 (pc := 52) C 14 rfl O_41 (by decide) rfl t_794 dX5_draughtItem_52 ?_
          refine r_top (show _ = 0 from rfl) ?_
          refine r_if_eq (pc := 55) C 67 ⟨by omega, by omega⟩ dX5_draughtItem_55 (by decide) (fun h55 => ?_) (fun h55 => ?_)
          · skip
            refine r_iload_n (pc := 67) C dX5_draughtItem_67 rfl 1 rfl ?_
            refine r_if_eq (pc := 68) C 79 ⟨by omega, by omega⟩ dX5_draughtItem_68 (by decide) (fun h68 => ?_) (fun h68 => ?_)
            · skip
              omega
            · skip
              refine r_aload_n (pc := 71) C dX5_draughtItem_71 rfl 0 rfl ?_
              refine r_getI5 (pc := 72) C 13 rfl O_41 (by decide) rfl t_793 dX5_draughtItem_72 ?_
              refine r_top (show _ = vl ((k + 1) + 1) from rfl) ?_
              refine r_ineg (pc := 75) C dX5_draughtItem_75 ?_
              refine r_goto (pc := 76) C 83 dX5_draughtItem_76 (by decide) ?_
              refine r_iast (pc := 83) C 3 A_42 (by omega) (by omega) dX5_draughtItem_83 ?_
              refine r_sg (MS_42 rfl) ?_
              have hr_ : itW 0 ty vl k ρ = (true, (((k + 1) + 1) + 1), (wr ρ 0 9 (-(vl ((k + 1) + 1))))) := by simp only [itW, t43, tsg]; (try (first | rw [if_pos rfl] | rw [if_neg (by omega)] | rw [if_pos (by omega)])); (try (first | rw [if_pos rfl] | rw [if_neg (by omega)] | rw [if_pos (by omega)])); (try rfl)
              exact r_vret C (pX_ok hr_) dX5_draughtItem_84
          · skip
            omega
        · skip
          refine r_cVv (pc := 43) C (n_n g ((k + 1) + 1) 3 (by omega) v ρ σ hl hB hV (by omega) hc43_0) yX5_number_w O_41 rfl rfl t_1227 ⟨by decide, by decide⟩ (Nat.le_of_ble_eq_true rfl) rfl dX5_draughtItem_43 ?_
          have t43 : tkN ty vl ((k + 1) + 1) 3 = (-1, ((k + 1) + 1)) := if_neg hc43_0
          refine r_aload_n (pc := 46) C dX5_draughtItem_46 rfl 0 rfl ?_
          refine r_getR5 (pc := 47) C 0 (k' := 42) rfl O_41 (by decide) rfl t_780 dX5_draughtItem_47 ?_
          refine r_iconst (pc := 50) C dX5_draughtItem_50 ?_
          refine r_aload_n (pc := 51) C dX5_draughtItem_51 rfl 0 rfl ?_
          refine r_getI5 (pc := 52) C 14 rfl O_41 (by decide) rfl t_794 dX5_draughtItem_52 ?_
          refine r_top (show _ = 1 from rfl) ?_
          refine r_if_eq (pc := 55) C 67 ⟨by omega, by omega⟩ dX5_draughtItem_55 (by decide) (fun h55 => ?_) (fun h55 => ?_)
          · skip
            omega
          · skip
            refine r_aload_n (pc := 58) C dX5_draughtItem_58 rfl 0 rfl ?_
            refine r_getR5 (pc := 59) C 0 (k' := 42) rfl O_41 (by decide) rfl t_780 dX5_draughtItem_59 ?_
            refine r_iconst (pc := 62) C dX5_draughtItem_62 ?_
            refine r_iald (pc := 63) C 3 A_42 (by omega) (by omega) dX5_draughtItem_63 ?_
            refine r_top (show _ = ρ 0 9 from (congrFun (show (MS2 σ ((pos ((k + 1) + 1) : Nat) : Int) ((tE (σ 49) (σ 41 10).toNat (pos ((k + 1) + 1)) : Nat) : Int) (nvv σ ty pos ((k + 1) + 1)) 1 ρ) 42 = mkS ρ from rfl) _).trans (mkS_at rfl)) ?_
            refine r_goto (pc := 64) C 83 dX5_draughtItem_64 (by decide) ?_
            refine r_iast (pc := 83) C 3 A_42 (by omega) (by omega) dX5_draughtItem_83 ?_
            refine r_sg (MS_42 rfl) ?_
            have hr_ : itW 0 ty vl k ρ = (false, ((k + 1) + 1), ρ) := by simp only [itW, t43, tsg]; (try (first | rw [if_pos rfl] | rw [if_neg (by omega)] | rw [if_pos (by omega)])); (try (first | rw [if_pos rfl] | rw [if_neg (by omega)] | rw [if_pos (by omega)])); (try rfl)
            exact r_vret C (pX_no hr_) dX5_draughtItem_84
