def pX (σ : Sg) (pos : Nat → Nat) (r : It) : Option Value → Sg → Prop := fun v s => v = none ∧ ∃ (v2 : Int) (ρ2 : Sg), s = PS σ pos r.2.1 v2 (if r.1 = true then 0 else 1) ρ2 ∧ (r.1 = true → ρ2 = r.2.2)
theorem pX_ok {σ ρ2 : Sg} {pos : Nat → Nat} {r : It} {k : Nat} {v2 : Int} (h : r = (true, k, ρ2)) : pX σ pos r none (PS σ pos k v2 0 ρ2) := by
  subst h
  exact ⟨rfl, v2, ρ2, rfl, fun _ => rfl⟩
theorem pX_no {σ ρ2 ρ3 : Sg} {pos : Nat → Nat} {r : It} {k : Nat} {v2 : Int} (h : r = (false, k, ρ3)) : pX σ pos r none (PS σ pos k v2 1 ρ2) := by
  subst h
  exact ⟨rfl, v2, ρ2, rfl, fun q => absurd q Bool.false_ne_true⟩
set_option maxHeartbeats 4000000 in
set_option maxRecDepth 100000 in
theorem c_dustItem (g : Gt) {ty vl : Nat → Int} {pos : Nat → Nat} {K : Nat} (k : Nat) (v : Int) (ρ σ : Sg) (hl : 0 ≤ σ 41 10 ∧ σ 41 10 ≤ 120) (hB : ∀ j, j < 120 → 0 ≤ σ 49 j ∧ σ 49 j ≤ 255) (hV : TV σ ty vl pos K) (hk : k ≤ K) (hty : ty k = 1) (hD : rgD (ρ 1)) : Mt g yX5_dustItem cX5_dustItem 2 none 5 [.ref (gA g 41)] (MS2 σ ((pos k : Nat) : Int) ((tE (σ 49) (σ 41 10).toNat (pos k) : Nat) : Int) v 0 ρ) (pX σ pos (itD 0 ty vl k ρ)) := by
  have hkK : k < K := hV.lt hk (by omega)
  refine mt_of (own := RX5) (by decide) rfl (Nat.le_of_ble_eq_true rfl) (fun E C => ?_)
  show J g E (pX σ pos (itD 0 ty vl k ρ)) 2 0 [(0, .ref (gA g 41))] [] (MS2 σ ((pos k : Nat) : Int) ((tE (σ 49) (σ 41 10).toNat (pos k) : Nat) : Int) v 0 ρ)
  refine r_aload_n (pc := 0) C dX5_dustItem_0 rfl 0 rfl ?_
  refine r_iconst (pc := 1) C dX5_dustItem_1 ?_
  refine r_cVv (pc := 2) C (m_y g k v ρ σ hl hB hV (by omega)) yX5_must_w O_41 rfl rfl t_1218 ⟨by decide, by decide⟩ (Nat.le_of_ble_eq_true rfl) rfl dX5_dustItem_2 ?_
  refine r_aload_n (pc := 5) C dX5_dustItem_5 rfl 0 rfl ?_
  refine r_iconst (pc := 6) C dX5_dustItem_6 ?_
  refine r_bipush (pc := 7) C dX5_dustItem_7 (by decide) ?_
  by_cases hc9_0 : ty (k + 1) = 2 ∧ vl (k + 1) ≤ 11
  · skip
    refine r_cVv (pc := 9) C (n_y g (k + 1) 11 (by omega) v ρ σ hl hB hV (by omega) hc9_0) yX5_number_w O_41 rfl rfl t_1227 ⟨by decide, by decide⟩ (Nat.le_of_ble_eq_true rfl) rfl dX5_dustItem_9 ?_
    have hx9 : (k + 1) + 1 ≤ K := hV.lt (by omega) (by omega)
    have hy9 := hV.tk.2.2.2 (k + 1) (by omega)
    have t9 : tkN ty vl (k + 1) 11 = (vl (k + 1), (k + 1) + 1) := if_pos hc9_0
    refine r_aload_n (pc := 12) C dX5_dustItem_12 rfl 0 rfl ?_
    refine r_getI5 (pc := 13) C 14 rfl O_41 (by decide) rfl t_794 dX5_dustItem_13 ?_
    refine r_top (show _ = 0 from rfl) ?_
    refine r_if_eq (pc := 16) C 23 ⟨by omega, by omega⟩ dX5_dustItem_16 (by decide) (fun h16 => ?_) (fun h16 => ?_)
    · skip
      refine r_iconst (pc := 23) C dX5_dustItem_23 ?_
      refine r_aload_n (pc := 24) C dX5_dustItem_24 rfl 0 rfl ?_
      refine r_getI5 (pc := 25) C 13 rfl O_41 (by decide) rfl t_793 dX5_dustItem_25 ?_
      refine r_top (show _ = vl (k + 1) from rfl) ?_
      refine r_iadd (pc := 28) C dX5_dustItem_28 ?_
      refine r_istore_n (pc := 29) C dX5_dustItem_29 rfl (by decide) [1, 0] (lv' := [(0, .ref (gA g 41)), (1, .int (iI (5 + (vl (k + 1)))))]) rfl ?_
      refine r_aload_n (pc := 30) C dX5_dustItem_30 rfl 0 rfl ?_
      refine r_iconst (pc := 31) C dX5_dustItem_31 ?_
      refine r_sipush (pc := 32) C dX5_dustItem_32 (by decide) ?_
      by_cases hc35_0 : ty ((k + 1) + 1) = 2 ∧ vl ((k + 1) + 1) ≤ 9999
      · skip
        refine r_cVv (pc := 35) C (n_y g ((k + 1) + 1) 9999 (by omega) (vl (k + 1)) ρ σ hl hB hV (by omega) hc35_0) yX5_number_w O_41 rfl rfl t_1227 ⟨by decide, by decide⟩ (Nat.le_of_ble_eq_true rfl) rfl dX5_dustItem_35 ?_
        have hx35 : ((k + 1) + 1) + 1 ≤ K := hV.lt (by omega) (by omega)
        have hy35 := hV.tk.2.2.2 ((k + 1) + 1) (by omega)
        have t35 : tkN ty vl ((k + 1) + 1) 9999 = (vl ((k + 1) + 1), ((k + 1) + 1) + 1) := if_pos hc35_0
        refine r_aload_n (pc := 38) C dX5_dustItem_38 rfl 0 rfl ?_
        refine r_getR5 (pc := 39) C 0 (k' := 42) rfl O_41 (by decide) rfl t_780 dX5_dustItem_39 ?_
        refine r_iload_n (pc := 42) C dX5_dustItem_42 rfl 1 rfl ?_
        refine r_aload_n (pc := 43) C dX5_dustItem_43 rfl 0 rfl ?_
        refine r_getI5 (pc := 44) C 14 rfl O_41 (by decide) rfl t_794 dX5_dustItem_44 ?_
        refine r_top (show _ = 0 from rfl) ?_
        refine r_if_eq (pc := 47) C 59 ⟨by omega, by omega⟩ dX5_dustItem_47 (by decide) (fun h47 => ?_) (fun h47 => ?_)
        · skip
          refine r_aload_n (pc := 59) C dX5_dustItem_59 rfl 0 rfl ?_
          refine r_getI5 (pc := 60) C 13 rfl O_41 (by decide) rfl t_793 dX5_dustItem_60 ?_
          refine r_top (show _ = vl ((k + 1) + 1) from rfl) ?_
          refine r_iast (pc := 63) C (5 + (vl (k + 1)).toNat) A_42 (by omega) (by omega) dX5_dustItem_63 ?_
          refine r_sg (MS_42 (cidx_D (by omega))) ?_
          have hr_ : itD 0 ty vl k ρ = (true, (((k + 1) + 1) + 1), (wr ρ 1 ((vl (k + 1)).toNat) (vl ((k + 1) + 1)))) := by simp only [itD, t35, t9]; (try (first | rw [if_pos rfl] | rw [if_neg (by omega)] | rw [if_pos (by omega)])); (try (first | rw [if_pos rfl] | rw [if_neg (by omega)] | rw [if_pos (by omega)])); (try rfl)
          exact r_vret C (pX_ok hr_) dX5_dustItem_64
        · skip
          omega
      · skip
        refine r_cVv (pc := 35) C (n_n g ((k + 1) + 1) 9999 (by omega) (vl (k + 1)) ρ σ hl hB hV (by omega) hc35_0) yX5_number_w O_41 rfl rfl t_1227 ⟨by decide, by decide⟩ (Nat.le_of_ble_eq_true rfl) rfl dX5_dustItem_35 ?_
        have t35 : tkN ty vl ((k + 1) + 1) 9999 = (-1, ((k + 1) + 1)) := if_neg hc35_0
        refine r_aload_n (pc := 38) C dX5_dustItem_38 rfl 0 rfl ?_
        refine r_getR5 (pc := 39) C 0 (k' := 42) rfl O_41 (by decide) rfl t_780 dX5_dustItem_39 ?_
        refine r_iload_n (pc := 42) C dX5_dustItem_42 rfl 1 rfl ?_
        refine r_aload_n (pc := 43) C dX5_dustItem_43 rfl 0 rfl ?_
        refine r_getI5 (pc := 44) C 14 rfl O_41 (by decide) rfl t_794 dX5_dustItem_44 ?_
        refine r_top (show _ = 1 from rfl) ?_
        refine r_if_eq (pc := 47) C 59 ⟨by omega, by omega⟩ dX5_dustItem_47 (by decide) (fun h47 => ?_) (fun h47 => ?_)
        · skip
          omega
        · skip
          refine r_aload_n (pc := 50) C dX5_dustItem_50 rfl 0 rfl ?_
          refine r_getR5 (pc := 51) C 0 (k' := 42) rfl O_41 (by decide) rfl t_780 dX5_dustItem_51 ?_
          refine r_iload_n (pc := 54) C dX5_dustItem_54 rfl 1 rfl ?_
          refine r_iald (pc := 55) C (5 + (vl (k + 1)).toNat) A_42 (by omega) (by omega) dX5_dustItem_55 ?_
          refine r_top (show _ = ρ 1 ((vl (k + 1)).toNat) from (congrFun (show (MS2 σ ((pos ((k + 1) + 1) : Nat) : Int) ((tE (σ 49) (σ 41 10).toNat (pos ((k + 1) + 1)) : Nat) : Int) (nvv σ ty pos ((k + 1) + 1)) 1 ρ) 42 = mkS ρ from rfl) _).trans (mkS_at (cidx_D (by omega)))) ?_
          refine r_goto (pc := 56) C 63 dX5_dustItem_56 (by decide) ?_
          refine r_iast (pc := 63) C (5 + (vl (k + 1)).toNat) A_42 (by omega) (by omega) dX5_dustItem_63 ?_
          refine r_sg (MS_42 (cidx_D (by omega))) ?_
          have hr_ : itD 0 ty vl k ρ = (false, ((k + 1) + 1), ρ) := by simp only [itD, t35, t9]; (try (first | rw [if_pos rfl] | rw [if_neg (by omega)] | rw [if_pos (by omega)])); (try (first | rw [if_pos rfl] | rw [if_neg (by omega)] | rw [if_pos (by omega)])); (try rfl)
          exact r_vret C (pX_no hr_) dX5_dustItem_64
    · skip
      omega
  · skip
    refine r_cVv (pc := 9) C (n_n g (k + 1) 11 (by omega) v ρ σ hl hB hV (by omega) hc9_0) yX5_number_w O_41 rfl rfl t_1227 ⟨by decide, by decide⟩ (Nat.le_of_ble_eq_true rfl) rfl dX5_dustItem_9 ?_
    have t9 : tkN ty vl (k + 1) 11 = (-1, (k + 1)) := if_neg hc9_0
    refine r_aload_n (pc := 12) C dX5_dustItem_12 rfl 0 rfl ?_
    refine r_getI5 (pc := 13) C 14 rfl O_41 (by decide) rfl t_794 dX5_dustItem_13 ?_
    refine r_top (show _ = 1 from rfl) ?_
    refine r_if_eq (pc := 16) C 23 ⟨by omega, by omega⟩ dX5_dustItem_16 (by decide) (fun h16 => ?_) (fun h16 => ?_)
    · skip
      omega
    · skip
      refine r_iconst (pc := 19) C dX5_dustItem_19 ?_
      refine r_goto (pc := 20) C 29 dX5_dustItem_20 (by decide) ?_
      refine r_istore_n (pc := 29) C dX5_dustItem_29 rfl (by decide) [1, 0] (lv' := [(0, .ref (gA g 41)), (1, .int (iI (5)))]) rfl ?_
      refine r_aload_n (pc := 30) C dX5_dustItem_30 rfl 0 rfl ?_
      refine r_iconst (pc := 31) C dX5_dustItem_31 ?_
      refine r_sipush (pc := 32) C dX5_dustItem_32 (by decide) ?_
      refine r_cVv (pc := 35) C (c_number_w g 9999 ((pos (k + 1) : Nat) : Int) ((tE (σ 49) (σ 41 10).toNat (pos (k + 1)) : Nat) : Int) (nvv σ ty pos (k + 1)) ρ σ hl hB) yX5_number_w O_41 rfl rfl t_1227 ⟨by decide, by decide⟩ (Nat.le_of_ble_eq_true rfl) rfl dX5_dustItem_35 ?_
      refine r_aload_n (pc := 38) C dX5_dustItem_38 rfl 0 rfl ?_
      refine r_getR5 (pc := 39) C 0 (k' := 42) rfl O_41 (by decide) rfl t_780 dX5_dustItem_39 ?_
      refine r_iload_n (pc := 42) C dX5_dustItem_42 rfl 1 rfl ?_
      refine r_aload_n (pc := 43) C dX5_dustItem_43 rfl 0 rfl ?_
      refine r_getI5 (pc := 44) C 14 rfl O_41 (by decide) rfl t_794 dX5_dustItem_44 ?_
      refine r_top (show _ = 1 from rfl) ?_
      refine r_if_eq (pc := 47) C 59 ⟨by omega, by omega⟩ dX5_dustItem_47 (by decide) (fun h47 => ?_) (fun h47 => ?_)
      · skip
        omega
      · skip
        refine r_aload_n (pc := 50) C dX5_dustItem_50 rfl 0 rfl ?_
        refine r_getR5 (pc := 51) C 0 (k' := 42) rfl O_41 (by decide) rfl t_780 dX5_dustItem_51 ?_
        refine r_iload_n (pc := 54) C dX5_dustItem_54 rfl 1 rfl ?_
        refine r_iald (pc := 55) C 5 A_42 (by omega) (by omega) dX5_dustItem_55 ?_
        refine r_top (show _ = ρ 1 0 from (congrFun (show (MS2 σ ((pos (k + 1) : Nat) : Int) ((tE (σ 49) (σ 41 10).toNat (pos (k + 1)) : Nat) : Int) (nvv σ ty pos (k + 1)) 1 ρ) 42 = mkS ρ from rfl) _).trans (mkS_at (show cidx 5 = (1, 0) from rfl))) ?_
        refine r_goto (pc := 56) C 63 dX5_dustItem_56 (by decide) ?_
        refine r_iast (pc := 63) C 5 A_42 (by omega) (by omega) dX5_dustItem_63 ?_
        refine r_sg (MS_42 (show cidx 5 = (1, 0) from rfl)) ?_
        have hr_ : itD 0 ty vl k ρ = (false, (k + 1), ρ) := by simp only [itD, t9]; (try (first | rw [if_pos rfl] | rw [if_neg (by omega)] | rw [if_pos (by omega)])); (try (first | rw [if_pos rfl] | rw [if_neg (by omega)] | rw [if_pos (by omega)])); (try rfl)
        exact r_vret C (pX_no hr_) dX5_dustItem_64
