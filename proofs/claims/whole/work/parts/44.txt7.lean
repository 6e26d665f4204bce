/-! ===== the model's text ===== -/
def M41 (f : Nat → Int) (p e v w : Int) : Nat → Int := fun j => if j = 11 then p else if j = 12 then e else if j = 13 then v else if j = 14 then w else f j
def MS2 (σ : Sg) (p e v w : Int) (ρ : Sg) : Sg := us (us σ 41 (M41 (σ 41) p e v w)) 42 (mkS ρ)
theorem M41_11 (f : Nat → Int) (p e v w x : Int) : up (M41 f p e v w) 11 x = M41 f x e v w := by
  funext j
  unfold up M41
  by_cases h : j = 11 <;> simp [h]
theorem M41_12 (f : Nat → Int) (p e v w x : Int) : up (M41 f p e v w) 12 x = M41 f p x v w := by
  funext j
  unfold up M41
  by_cases h : j = 12 <;> simp [h]
theorem M41_13 (f : Nat → Int) (p e v w x : Int) : up (M41 f p e v w) 13 x = M41 f p e x w := by
  funext j
  unfold up M41
  by_cases h : j = 13 <;> simp [h]
theorem M41_14 (f : Nat → Int) (p e v w x : Int) : up (M41 f p e v w) 14 x = M41 f p e v x := by
  funext j
  unfold up M41
  by_cases h : j = 14 <;> simp [h]
theorem MS_w (σ : Sg) (p e v w p2 e2 v2 w2 : Int) (ρ : Sg) (i : Nat) (x : Int) (h : up (M41 (σ 41) p e v w) i x = M41 (σ 41) p2 e2 v2 w2) : wr (MS2 σ p e v w ρ) 41 i x = MS2 σ p2 e2 v2 w2 ρ := by
  funext k
  by_cases h1 : k = 41
  · subst h1
    rw [wr_s]
    exact h
  · rw [wr_n _ _ _ h1]
    by_cases h2 : k = 42
    · subst h2
      rfl
    · unfold MS2
      rw [us_n _ _ h2, us_n _ _ h1, us_n _ _ h2, us_n _ _ h1]
theorem MS_11 (σ : Sg) (p e v w : Int) (ρ : Sg) (x : Int) : wr (MS2 σ p e v w ρ) 41 11 x = MS2 σ x e v w ρ := MS_w σ p e v w _ _ _ _ ρ 11 x (M41_11 _ _ _ _ _ _)
theorem MS_12 (σ : Sg) (p e v w : Int) (ρ : Sg) (x : Int) : wr (MS2 σ p e v w ρ) 41 12 x = MS2 σ p x v w ρ := MS_w σ p e v w _ _ _ _ ρ 12 x (M41_12 _ _ _ _ _ _)
theorem MS_13 (σ : Sg) (p e v w : Int) (ρ : Sg) (x : Int) : wr (MS2 σ p e v w ρ) 41 13 x = MS2 σ p e x w ρ := MS_w σ p e v w _ _ _ _ ρ 13 x (M41_13 _ _ _ _ _ _)
theorem MS_14 (σ : Sg) (p e v w : Int) (ρ : Sg) (x : Int) : wr (MS2 σ p e v w ρ) 41 14 x = MS2 σ p e v x ρ := MS_w σ p e v w _ _ _ _ ρ 14 x (M41_14 _ _ _ _ _ _)
theorem MS_42 {σ ρ : Sg} {p e v w : Int} {i k j : Nat} {x : Int} (h : cidx i = (k, j)) : wr (MS2 σ p e v w ρ) 42 i x = MS2 σ p e v w (wr ρ k j x) := wrS2 h
def btA (B : Nat → Int) (L p : Nat) : Int := if p < L then B p else -1
theorem btA_rng {B : Nat → Int} {L p : Nat} (hL : L ≤ 120) (hB : ∀ j, j < 120 → 0 ≤ B j ∧ B j ≤ 255) : -1 ≤ btA B L p ∧ btA B L p ≤ 255 := by
  unfold btA
  split
  · have := hB p (by omega)
    omega
  · omega
def skp (B : Nat → Int) (L : Nat) : Nat → Nat → Nat
  | 0, q => q
  | f + 1, q => if btA B L q = 32 then skp B L f (q + 1) else q
theorem btA_lt {B : Nat → Int} {L p : Nat} (h : 0 ≤ btA B L p) : p < L ∧ btA B L p = B p := by
  unfold btA at h ⊢
  split at h
  · rename_i q
    exact ⟨q, if_pos q⟩
  · omega
theorem skp_le (B : Nat → Int) (L : Nat) : ∀ f q, q ≤ L → q ≤ skp B L f q ∧ skp B L f q ≤ L
  | 0, q, h => ⟨Nat.le_refl _, h⟩
  | f + 1, q, h => by
    unfold skp
    split
    · rename_i hb
      have h1 := (btA_lt (B := B) (L := L) (p := q) (by omega)).1
      have ih := skp_le B L f (q + 1) (by omega)
      omega
    · omega
/-- where the token that starts at p ends, as the model goes about it -/
def rM (B : Nat → Int) (L : Nat) (lt dg : Prop) [Decidable lt] [Decidable dg] : Nat → Nat → Nat
  | 0, q => q
  | f + 1, q => if (lt ∧ 97 ≤ btA B L q ∧ btA B L q ≤ 122) ∨ (dg ∧ 48 ≤ btA B L q ∧ btA B L q ≤ 57) then rM B L lt dg f (q + 1) else q
def tE (B : Nat → Int) (L p : Nat) : Nat := rM B L (97 ≤ btA B L p ∧ btA B L p ≤ 122) (48 ≤ btA B L p ∧ btA B L p ≤ 57) 121 (if p < L then p + 1 else p)
theorem rM_le (B : Nat → Int) (L : Nat) (lt dg : Prop) [Decidable lt] [Decidable dg] : ∀ f q, q ≤ L → q ≤ rM B L lt dg f q ∧ rM B L lt dg f q ≤ L
  | 0, q, h => ⟨Nat.le_refl _, h⟩
  | f + 1, q, h => by
    unfold rM
    split
    · rename_i hb
      have h1 := (btA_lt (B := B) (L := L) (p := q) (by omega)).1
      have ih := rM_le B L lt dg f (q + 1) (by omega)
      omega
    · omega
theorem tE_le {B : Nat → Int} {L p : Nat} (h : p ≤ L) : p ≤ tE B L p ∧ tE B L p ≤ L := by
  unfold tE
  split
  · have := rM_le B L (97 ≤ btA B L p ∧ btA B L p ≤ 122) (48 ≤ btA B L p ∧ btA B L p ≤ 57) 121 (p + 1) (by omega)
    omega
  · exact rM_le B L _ _ 121 p h
set_option maxHeartbeats 4000000 in
set_option maxRecDepth 100000 in
theorem c_byteAt (g : Gt) (p : Nat) (hp : p ≤ 200) (σ : Sg) (hl : 0 ≤ σ 41 10 ∧ σ 41 10 ≤ 120) (hB : ∀ j, j < 120 → 0 ≤ σ 49 j ∧ σ 49 j ≤ 255) : Mt g yX5_byteAt cX5_byteAt 2 (some FieldType.int) 0 [.ref (gA g 41), .int (iI ((p : Int)))] σ (pI (btA (σ 49) (σ 41 10).toNat p) σ) := by
  refine mt_of (own := RX5) (by decide) rfl (Nat.le_of_ble_eq_true rfl) (fun E C => ?_)
  show J g E (pI (btA (σ 49) (σ 41 10).toNat p) σ) 2 0 [(0, .ref (gA g 41)), (1, .int (iI ((p : Int))))] [] σ
  refine r_iload_n (pc := 0) C dX5_byteAt_0 rfl 1 rfl ?_
  refine r_aload_n (pc := 1) C dX5_byteAt_1 rfl 0 rfl ?_
  refine r_getI5 (pc := 2) C 10 rfl O_41 (by decide) rfl t_790 dX5_byteAt_2 ?_
  refine r_icmp_ge (pc := 5) C 17 ⟨by omega, by omega⟩ ⟨by omega, by omega⟩ dX5_byteAt_5 (by decide) (fun h5 => ?_) (fun h5 => ?_)
  · skip
    refine r_iconst (pc := 17) C dX5_byteAt_17 ?_
    exact r_reti (pc := 18) C (by unfold btA; first | rw [if_pos (by omega)] | rw [if_neg (by omega)]) (rfl) dX5_byteAt_18
  · skip
    refine r_aload_n (pc := 8) C dX5_byteAt_8 rfl 0 rfl ?_
    refine r_getR5 (pc := 9) C 9 (k' := 49) rfl O_41 (by decide) rfl t_789 dX5_byteAt_9 ?_
    refine r_iload_n (pc := 12) C dX5_byteAt_12 rfl 1 rfl ?_
    refine r_iald (pc := 13) C p A_49 (by omega) (by omega) dX5_byteAt_13 ?_
    refine r_goto (pc := 14) C 18 dX5_byteAt_14 (by decide) ?_
    exact r_reti (pc := 18) C (by unfold btA; first | rw [if_pos (by omega)] | rw [if_neg (by omega)]) (rfl) dX5_byteAt_18
