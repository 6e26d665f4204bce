theorem cnT_mono (B : Nat → Int) : ∀ i p, p ≤ i → cnT B p ≤ cnT B i
  | 0, p, h => by rw [show p = 0 by omega]; exact Nat.le_refl _
  | i + 1, p, h => by
    by_cases e : p = i + 1
    · rw [e]
      exact Nat.le_refl _
    · have ih := cnT_mono B i p (by omega)
      rw [cnT]
      split <;> omega
theorem cnT_lt {B : Nat → Int} {i p : Nat} (h : p < i) (hp : isSt B p = true) : cnT B p < cnT B i := by
  have h1 := cnT_mono B i (p + 1) (by omega)
  rw [cnT, if_pos hp] at h1
  omega
theorem cnT_ex (B : Nat → Int) : ∀ i j, j < cnT B i → ∃ p, p < i ∧ isSt B p = true ∧ cnT B p = j
  | 0, j, h => by
    have h2 : j < 0 := h
    omega
  | i + 1, j, h => by
    by_cases hs : isSt B i = true
    · rw [cnT, if_pos hs] at h
      by_cases e : j = cnT B i
      · exact ⟨i, by omega, hs, e.symm⟩
      · obtain ⟨p, h1, h2, h3⟩ := cnT_ex B i j (by omega)
        exact ⟨p, by omega, h2, h3⟩
    · rw [cnT, if_neg hs] at h
      obtain ⟨p, h1, h2, h3⟩ := cnT_ex B i j h
      exact ⟨p, by omega, h2, h3⟩
theorem tkA_at (B F A : Nat → Int) : ∀ i p, p < i → isSt B p = true → tkA B F A i (cnT B p) = F p
  | 0, p, h, _ => by omega
  | i + 1, p, h, hp => by
    by_cases e : p = i
    · subst e
      rw [tkA, if_pos hp]
      exact if_pos rfl
    · have ih := tkA_at B F A i p (by omega) hp
      by_cases hs : isSt B i = true
      · rw [tkA, if_pos hs, ← ih]
        have hl := cnT_lt (show p < i by omega) hp
        exact if_neg (by omega)
      · rw [tkA, if_neg hs]
        exact ih
theorem wdF_rng (B : Nat → Int) (s e : Nat) : ∀ f w, w + f ≤ 13 → -1 ≤ wdF B s e f w ∧ wdF B s e f w ≤ 12
  | 0, w, h => by
    show -1 ≤ (-1 : Int) ∧ (-1 : Int) ≤ 12
    omega
  | f + 1, w, h => by
    have ih := wdF_rng B s e f (w + 1) (by omega)
    unfold wdF
    split <;> omega
theorem vaF_rng {B : Nat → Int} {L s : Nat} (hs : s < L) : -1 ≤ vaF B L (tyB (B s)) s ∧ vaF B L (tyB (B s)) s ≤ 10000 ∧ (tyB (B s) = 2 → 0 ≤ vaF B L (tyB (B s)) s) := by
  unfold vaF
  by_cases h1 : tyB (B s) = 1
  · rw [if_pos h1]
    have h2 := wdF_rng B s (eR B L s) 13 0 (by omega)
    exact ⟨h2.1, by omega, fun q => by omega⟩
  · rw [if_neg h1]
    by_cases h2 : tyB (B s) = 2
    · rw [if_pos h2]
      have h3 := nuF_rng (B := B) (s := s) (eR B L s - s) (fun j hj => tyB_2 ((eR_in (B := B) (L := L) (s := s) (j := s + j) (by omega) (by omega)).trans h2))
      exact ⟨by omega, h3.2, fun _ => h3.1⟩
    · rw [if_neg h2]
      exact ⟨by omega, by omega, fun _ => by omega⟩
def Kt (σ : Sg) : Nat := cnT (σ 25) (σ 24 1).toNat
theorem splE_27 (σ : Sg) {p : Nat} (h : p < (σ 24 1).toNat) (hp : isSt (σ 25) p = true) : splE σ 27 (cnT (σ 25) p) = tyB (σ 25 p) := by
  have hl := cnT_lt h hp
  have e : splE σ 27 (cnT (σ 25) p) = up (tkA (σ 25) (fun i => tyB (σ 25 i)) (σ 27) (σ 24 1).toNat) (Kt σ) 6 (cnT (σ 25) p) := rfl
  rw [e, up_n _ _ (by unfold Kt; omega)]
  exact tkA_at (σ 25) (fun i => tyB (σ 25 i)) (σ 27) _ p h hp
theorem splE_28 (σ : Sg) {p : Nat} (h : p < (σ 24 1).toNat) (hp : isSt (σ 25) p = true) : splE σ 28 (cnT (σ 25) p) = (p : Int) := by
  have hl := cnT_lt h hp
  have e : splE σ 28 (cnT (σ 25) p) = up (tkA (σ 25) (fun i => (i : Int)) (σ 28) (σ 24 1).toNat) (Kt σ) (σ 24 1) (cnT (σ 25) p) := rfl
  rw [e, up_n _ _ (by unfold Kt; omega)]
  exact tkA_at (σ 25) (fun i => (i : Int)) (σ 28) _ p h hp
theorem splE_29 (σ : Sg) {p : Nat} (h : p < (σ 24 1).toNat) (hp : isSt (σ 25) p = true) : splE σ 29 (cnT (σ 25) p) = vaF (σ 25) (σ 24 1).toNat (tyB (σ 25 p)) p := by
  have hl := cnT_lt h hp
  have e : splE σ 29 (cnT (σ 25) p) = up (tkA (σ 25) (fun i => vaF (σ 25) (σ 24 1).toNat (tyB (σ 25 i)) i) (σ 29) (σ 24 1).toNat) (Kt σ) 0 (cnT (σ 25) p) := rfl
  rw [e, up_n _ _ (by unfold Kt; omega)]
  exact tkA_at (σ 25) (fun i => vaF (σ 25) (σ 24 1).toNat (tyB (σ 25 i)) i) (σ 29) _ p h hp
theorem splE_K27 (σ : Sg) : splE σ 27 (Kt σ) = 6 := by
  have e : splE σ 27 (Kt σ) = up (tkA (σ 25) (fun i => tyB (σ 25 i)) (σ 27) (σ 24 1).toNat) (Kt σ) 6 (Kt σ) := rfl
  rw [e]
  exact if_pos rfl
theorem splE_K28 (σ : Sg) : splE σ 28 (Kt σ) = σ 24 1 := by
  have e : splE σ 28 (Kt σ) = up (tkA (σ 25) (fun i => (i : Int)) (σ 28) (σ 24 1).toNat) (Kt σ) (σ 24 1) (Kt σ) := rfl
  rw [e]
  exact if_pos rfl
theorem splE_K29 (σ : Sg) : splE σ 29 (Kt σ) = 0 := by
  have e : splE σ 29 (Kt σ) = up (tkA (σ 25) (fun i => vaF (σ 25) (σ 24 1).toNat (tyB (σ 25 i)) i) (σ 29) (σ 24 1).toNat) (Kt σ) 0 (Kt σ) := rfl
  rw [e]
  exact if_pos rfl
theorem splE_Tk (σ : Sg) (hl : 0 ≤ σ 24 1 ∧ σ 24 1 ≤ 120) : TkK (splE σ 27) (splE σ 29) (Kt σ) := by
  refine ⟨?_, splE_K27 σ, ?_, ?_⟩
  · have h := cnT_le (σ 25) (σ 24 1).toNat
    unfold Kt
    omega
  · intro j hj
    by_cases e : j = Kt σ
    · rw [e, splE_K27]
      decide
    · obtain ⟨p, h1, h2, h3⟩ := cnT_ex (σ 25) (σ 24 1).toNat j (by unfold Kt at hj e; omega)
      rw [← h3, splE_27 σ h1 h2]
      have := tyB_rng (σ 25 p)
      omega
  · intro j hj
    by_cases e : j = Kt σ
    · rw [e, splE_K29]
      exact ⟨by decide, by decide, fun _ => by decide⟩
    · obtain ⟨p, h1, h2, h3⟩ := cnT_ex (σ 25) (σ 24 1).toNat j (by unfold Kt at hj e; omega)
      rw [← h3, splE_27 σ h1 h2, splE_29 σ h1 h2]
      exact vaF_rng h1
set_option maxHeartbeats 4000000 in
set_option maxRecDepth 100000 in
theorem d_text (g : Gt) (σ : Sg) (hl : 0 ≤ σ 24 1 ∧ σ 24 1 ≤ 120) (hB : ∀ j, j < 120 → 0 ≤ σ 25 j ∧ σ 25 j ≤ 255) (hn : 0 ≤ σ 0 7 ∧ σ 0 7 ≤ 8) (hr : rng (rdC (splE σ 27) (splE σ 29) (splE σ 28) 121 0 0 (bc_8_0 (wr (splE σ) 24 1 0))).1) : Mt g yX4_text cX4_text 2 (some FieldType.int) 8 [.ref (gA g 40)] σ (pI ((rdC (splE σ 27) (splE σ 29) (splE σ 28) 121 0 0 (bc_8_0 (wr (splE σ) 24 1 0))).1) (if 0 ≤ (rdC (splE σ 27) (splE σ 29) (splE σ 28) 121 0 0 (bc_8_0 (wr (splE σ) 24 1 0))).1 then bc_0_8 (rdC (splE σ 27) (splE σ 29) (splE σ 28) 121 0 0 (bc_8_0 (wr (splE σ) 24 1 0))).2 else (rdC (splE σ 27) (splE σ 29) (splE σ 28) 121 0 0 (bc_8_0 (wr (splE σ) 24 1 0))).2)) := by
  refine mt_of (own := RX4) (by decide) rfl (Nat.le_of_ble_eq_true rfl) (fun E C => ?_)
  show J g E (pI ((rdC (splE σ 27) (splE σ 29) (splE σ 28) 121 0 0 (bc_8_0 (wr (splE σ) 24 1 0))).1) (if 0 ≤ (rdC (splE σ 27) (splE σ 29) (splE σ 28) 121 0 0 (bc_8_0 (wr (splE σ) 24 1 0))).1 then bc_0_8 (rdC (splE σ 27) (splE σ 29) (splE σ 28) 121 0 0 (bc_8_0 (wr (splE σ) 24 1 0))).2 else (rdC (splE σ 27) (splE σ 29) (splE σ 28) 121 0 0 (bc_8_0 (wr (splE σ) 24 1 0))).2)) 2 0 [(0, .ref (gA g 40))] [] σ
  refine r_aload_n (pc := 0) C dX4_text_0 rfl 0 rfl ?_
  refine r_getR4 (pc := 1) C 5 (k' := 26) rfl O_40 (by decide) rfl t_221 dX4_text_1 ?_
  refine r_aload_n (pc := 4) C dX4_text_4 rfl 0 rfl ?_
  refine r_getR4 (pc := 5) C 4 (k' := 24) rfl O_40 (by decide) rfl t_220 dX4_text_5 ?_
  refine r_cVv (pc := 8) C (c_split g σ hl hB) yX3_split_w O_26 rfl rfl t_566 ⟨by decide, by decide⟩ (Nat.le_of_ble_eq_true rfl) rfl dX4_text_8 ?_
  refine r_aload_n (pc := 11) C dX4_text_11 rfl 0 rfl ?_
  refine r_getR4 (pc := 12) C 4 (k' := 24) rfl O_40 (by decide) rfl t_220 dX4_text_12 ?_
  refine r_iconst (pc := 15) C dX4_text_15 ?_
  refine r_put2 (pc := 16) C 1 rfl O_24 (by decide) rfl t_168 rfl (by decide +kernel) dX4_text_16 ?_
  refine r_aload_n (pc := 19) C dX4_text_19 rfl 0 rfl ?_
  refine r_getR4 (pc := 20) C 1 (k' := 8) rfl O_40 (by decide) rfl t_217 dX4_text_20 ?_
  refine r_aload_n (pc := 23) C dX4_text_23 rfl 0 rfl ?_
  refine r_getR4 (pc := 24) C 0 (k' := 0) rfl O_40 (by decide) rfl t_216 dX4_text_24 ?_
  refine r_cVv (pc := 27) C (c_become_8_0 g (wr (splE σ) 24 1 0)) yX0_become_w O_8 rfl rfl t_421 ⟨by decide, by decide⟩ (Nat.le_of_ble_eq_true rfl) rfl dX4_text_27 ?_
  refine r_aload_n (pc := 30) C dX4_text_30 rfl 0 rfl ?_
  refine r_getR4 (pc := 31) C 5 (k' := 26) rfl O_40 (by decide) rfl t_221 dX4_text_31 ?_
  refine r_aload_n (pc := 34) C dX4_text_34 rfl 0 rfl ?_
  refine r_getR4 (pc := 35) C 1 (k' := 8) rfl O_40 (by decide) rfl t_217 dX4_text_35 ?_
  refine r_cVi (pc := 38) C (c_readInto g (splE σ 27) (splE σ 29) (splE σ 28) (Kt σ) (splE_Tk σ hl) (bc_8_0 (wr (splE σ) 24 1 0)) rfl rfl rfl rfl rfl hn) yX3_readInto_w O_26 rfl rfl t_661 ⟨by decide, by decide⟩ (Nat.le_of_ble_eq_true rfl) rfl dX4_text_38 ?_
  refine r_istore_n (pc := 41) C dX4_text_41 rfl (by decide) [1, 0] (lv' := [(0, .ref (gA g 40)), (1, .int (iI ((rdC (splE σ 27) (splE σ 29) (splE σ 28) 121 0 0 (bc_8_0 (wr (splE σ) 24 1 0))).1)))]) rfl ?_
  refine r_iload_n (pc := 42) C dX4_text_42 rfl 1 rfl ?_
  refine r_if_lt (pc := 43) C 57 hr dX4_text_43 (by decide) (fun h43 => ?_) (fun h43 => ?_)
  · skip
    refine r_iload_n (pc := 57) C dX4_text_57 rfl 1 rfl ?_
    exact r_reti (pc := 58) C (rfl) ((if_neg (by omega)).symm) dX4_text_58
  · skip
    refine r_aload_n (pc := 46) C dX4_text_46 rfl 0 rfl ?_
    refine r_getR4 (pc := 47) C 0 (k' := 0) rfl O_40 (by decide) rfl t_216 dX4_text_47 ?_
    refine r_aload_n (pc := 50) C dX4_text_50 rfl 0 rfl ?_
    refine r_getR4 (pc := 51) C 1 (k' := 8) rfl O_40 (by decide) rfl t_217 dX4_text_51 ?_
    refine r_cVv (pc := 54) C (c_become_0_8 g (rdC (splE σ 27) (splE σ 29) (splE σ 28) 121 0 0 (bc_8_0 (wr (splE σ) 24 1 0))).2) yX0_become_w O_0 rfl rfl t_421 ⟨by decide, by decide⟩ (Nat.le_of_ble_eq_true rfl) rfl dX4_text_54 ?_
    refine r_iload_n (pc := 57) C dX4_text_57 rfl 1 rfl ?_
    exact r_reti (pc := 58) C (rfl) ((if_pos (by omega)).symm) dX4_text_58
