/-! ===== text: the bytes, read purely ===== -/
def tyB (b : Int) : Int := if 97 ≤ b ∧ b ≤ 122 then 1 else if 48 ≤ b ∧ b ≤ 57 then 2 else if b = 32 then 0 else if b = 59 then 3 else if b = 45 then 4 else 5
theorem tyB_rng (b : Int) : 0 ≤ tyB b ∧ tyB b ≤ 5 := by
  unfold tyB
  repeat' split
  all_goals omega
theorem tyB_1 {b : Int} (h : tyB b = 1) : 97 ≤ b ∧ b ≤ 122 := by
  unfold tyB at h
  by_cases h1 : 97 ≤ b ∧ b ≤ 122
  · exact h1
  · rw [if_neg h1] at h
    repeat' split at h
    all_goals omega
theorem tyB_2 {b : Int} (h : tyB b = 2) : 48 ≤ b ∧ b ≤ 57 := by
  unfold tyB at h
  by_cases h1 : 97 ≤ b ∧ b ≤ 122
  · rw [if_pos h1] at h
    omega
  · rw [if_neg h1] at h
    by_cases h2 : 48 ≤ b ∧ b ≤ 57
    · exact h2
    · rw [if_neg h2] at h
      repeat' split at h
      all_goals omega
/-- where a run ends -/
def rE (B : Nat → Int) (L : Nat) (c : Int) : Nat → Nat → Nat
  | 0, p => p
  | f + 1, p => if p < L ∧ tyB (B p) = c then rE B L c f (p + 1) else p
theorem rE_rng (B : Nat → Int) (L : Nat) (c : Int) : ∀ f p, p ≤ L → p ≤ rE B L c f p ∧ rE B L c f p ≤ L
  | 0, p, h => ⟨Nat.le_refl _, h⟩
  | f + 1, p, h => by
    unfold rE
    split
    · have ih := rE_rng B L c f (p + 1) (by omega)
      omega
    · omega
theorem rE_in (B : Nat → Int) (L : Nat) (c : Int) : ∀ f p j, p ≤ j → j < rE B L c f p → tyB (B j) = c
  | 0, p, j, h1, h2 => by
    have h3 : j < p := h2
    omega
  | f + 1, p, j, h1, h2 => by
    unfold rE at h2
    split at h2
    · rename_i q
      by_cases e : j = p
      · rw [e]
        exact q.2
      · exact rE_in B L c f (p + 1) j (by omega) h2
    · omega
def eR (B : Nat → Int) (L s : Nat) : Nat := rE B L (tyB (B s)) 120 (s + 1)
theorem eR_rng {B : Nat → Int} {L s : Nat} (h : s < L) : s + 1 ≤ eR B L s ∧ eR B L s ≤ L := rE_rng B L _ 120 (s + 1) (by omega)
theorem eR_in {B : Nat → Int} {L s j : Nat} (h1 : s ≤ j) (h2 : j < eR B L s) : tyB (B j) = tyB (B s) := by
  by_cases e : j = s
  · rw [e]
  · exact rE_in B L _ 120 (s + 1) j (by omega) h2
/-- the letters of a name, from a place on -/
def spF (q : Nat) (B : Nat → Int) (s : Nat) : Nat → Bool
  | 0 => true
  | j + 1 => spF q B s j && decide (B (s + j) = sby q j)
theorem spF_mono {q : Nat} {B : Nat → Int} {s : Nat} : ∀ n i, i ≤ n → spF q B s n = true → spF q B s i = true
  | 0, i, h, h2 => by
    rw [show i = 0 by omega]
    rfl
  | n + 1, i, h, h2 => by
    by_cases e : i = n + 1
    · rw [e]
      exact h2
    · unfold spF at h2
      rw [Bool.and_eq_true] at h2
      exact spF_mono n i (by omega) h2.1
def spB (q : Nat) (B : Nat → Int) (s e : Nat) : Bool := decide ((sln q : Int) = (e : Int) - (s : Int)) && spF q B s (e - s)
def wdF (B : Nat → Int) (s e : Nat) : Nat → Nat → Int
  | 0, _ => -1
  | f + 1, w => if spB w B s e = true then (w : Int) else wdF B s e f (w + 1)
def nuF (B : Nat → Int) (s : Nat) : Nat → Int
  | 0 => 0
  | j + 1 => min 10000 (nuF B s j * 10 + B (s + j) - 48)
theorem nuF_rng {B : Nat → Int} {s : Nat} : ∀ n, (∀ j, j < n → 48 ≤ B (s + j) ∧ B (s + j) ≤ 57) → 0 ≤ nuF B s n ∧ nuF B s n ≤ 10000
  | 0, _ => by
    show 0 ≤ (0 : Int) ∧ (0 : Int) ≤ 10000
    omega
  | n + 1, h => by
    have ih := nuF_rng n (fun j hj => h j (by omega))
    have h1 := h n (by omega)
    unfold nuF
    omega
def vaF (B : Nat → Int) (L : Nat) (t : Int) (s : Nat) : Int := if t = 1 then wdF B s (eR B L s) 13 0 else if t = 2 then nuF B s (eR B L s - s) else 0
/-- a token starts at i -/
def bfT (B : Nat → Int) : Nat → Int
  | 0 => 0
  | i + 1 => tyB (B i)
def isSt (B : Nat → Int) (i : Nat) : Bool := decide (tyB (B i) ≠ 0 ∧ ¬ (tyB (B i) = bfT B i ∧ (tyB (B i) = 1 ∨ tyB (B i) = 2)))
def cnT (B : Nat → Int) : Nat → Nat
  | 0 => 0
  | i + 1 => if isSt B i = true then cnT B i + 1 else cnT B i
theorem cnT_le (B : Nat → Int) : ∀ i, cnT B i ≤ i
  | 0 => Nat.le_refl _
  | i + 1 => by
    have ih := cnT_le B i
    unfold cnT
    split <;> omega
def tkA (B : Nat → Int) (F : Nat → Int) (A : Nat → Int) : Nat → (Nat → Int)
  | 0 => A
  | i + 1 => if isSt B i = true then up (tkA B F A i) (cnT B i) (F i) else tkA B F A i
theorem lku3 {a : Int} (h1 : ¬ a = 32) (h2 : ¬ a = 45) (h3 : ¬ a = 59) : Op.lookupswitch.offset (#[((32 : Int), (35 : Int)), (45, 39), (59, 37)] : Array (Int × Int)).toList 41 a = 41 := by
  simp [Op.lookupswitch.offset, Ne.symm, h1, h2, h3, eq_comm]
set_option maxHeartbeats 4000000 in
set_option maxRecDepth 100000 in
theorem c_typeOf (g : Gt) (b : Int) (hb : rng b) (σ : Sg) : Mt g yX3_typeOf cX3_typeOf 1 (some FieldType.int) 0 [.int (iI (b))] σ (pI (tyB b) σ) := by
  have hb1 := hb.1; have hb2 := hb.2
  refine mt_of (own := RX3) (by decide) rfl (Nat.le_of_ble_eq_true rfl) (fun E C => ?_)
  show J g E (pI (tyB b) σ) 1 0 [(0, .int (iI (b)))] [] σ
  refine r_iload_n (pc := 0) C dX3_typeOf_0 rfl 0 rfl ?_
  refine r_bipush (pc := 1) C dX3_typeOf_1 (by decide) ?_
  refine r_icmp_lt (pc := 3) C 14 hb ⟨by omega, by omega⟩ dX3_typeOf_3 (by decide) (fun h3 => ?_) (fun h3 => ?_)
  · skip
    refine r_iload_n (pc := 14) C dX3_typeOf_14 rfl 0 rfl ?_
    refine r_bipush (pc := 15) C dX3_typeOf_15 (by decide) ?_
    refine r_icmp_lt (pc := 17) C 28 hb ⟨by omega, by omega⟩ dX3_typeOf_17 (by decide) (fun h17 => ?_) (fun h17 => ?_)
    · skip
      refine r_iload_n (pc := 28) C dX3_typeOf_28 rfl 0 rfl ?_
      by_cases hl32 : b = 32
      · rw [hl32]
        refine r_lku (off := 35) (pc := 29) C 64 dX3_typeOf_29 ⟨by decide, by decide⟩ (by decide) (by decide) (by decide) ?_
        refine r_iconst (pc := 64) C dX3_typeOf_64 ?_
        exact r_reti (pc := 65) C (by first | (exfalso; omega; done) | (unfold tyB; (try (first | rw [if_pos (by omega)] | rw [if_neg (by omega)])); (try (first | rw [if_pos (by omega)] | rw [if_neg (by omega)])); (try (first | rw [if_pos (by omega)] | rw [if_neg (by omega)])); (try (first | rw [if_pos (by omega)] | rw [if_neg (by omega)])); (try (first | rw [if_pos (by omega)] | rw [if_neg (by omega)])))) (rfl) dX3_typeOf_65
      by_cases hl45 : b = 45
      · rw [hl45]
        refine r_lku (off := 39) (pc := 29) C 68 dX3_typeOf_29 ⟨by decide, by decide⟩ (by decide) (by decide) (by decide) ?_
        refine r_iconst (pc := 68) C dX3_typeOf_68 ?_
        exact r_reti (pc := 69) C (by first | (exfalso; omega; done) | (unfold tyB; (try (first | rw [if_pos (by omega)] | rw [if_neg (by omega)])); (try (first | rw [if_pos (by omega)] | rw [if_neg (by omega)])); (try (first | rw [if_pos (by omega)] | rw [if_neg (by omega)])); (try (first | rw [if_pos (by omega)] | rw [if_neg (by omega)])); (try (first | rw [if_pos (by omega)] | rw [if_neg (by omega)])))) (rfl) dX3_typeOf_69
      by_cases hl59 : b = 59
      · rw [hl59]
        refine r_lku (off := 37) (pc := 29) C 66 dX3_typeOf_29 ⟨by decide, by decide⟩ (by decide) (by decide) (by decide) ?_
        refine r_iconst (pc := 66) C dX3_typeOf_66 ?_
        exact r_reti (pc := 67) C (by first | (exfalso; omega; done) | (unfold tyB; (try (first | rw [if_pos (by omega)] | rw [if_neg (by omega)])); (try (first | rw [if_pos (by omega)] | rw [if_neg (by omega)])); (try (first | rw [if_pos (by omega)] | rw [if_neg (by omega)])); (try (first | rw [if_pos (by omega)] | rw [if_neg (by omega)])); (try (first | rw [if_pos (by omega)] | rw [if_neg (by omega)])))) (rfl) dX3_typeOf_67
      refine r_lku (off := 41) (pc := 29) C 70 dX3_typeOf_29 hb (by decide) (lku3 hl32 hl45 hl59) (by decide) ?_
      refine r_iconst (pc := 70) C dX3_typeOf_70 ?_
      exact r_reti (pc := 71) C (by first | (exfalso; omega; done) | (unfold tyB; (try (first | rw [if_pos (by omega)] | rw [if_neg (by omega)])); (try (first | rw [if_pos (by omega)] | rw [if_neg (by omega)])); (try (first | rw [if_pos (by omega)] | rw [if_neg (by omega)])); (try (first | rw [if_pos (by omega)] | rw [if_neg (by omega)])); (try (first | rw [if_pos (by omega)] | rw [if_neg (by omega)])))) (rfl) dX3_typeOf_71
    · skip
      refine r_iload_n (pc := 20) C dX3_typeOf_20 rfl 0 rfl ?_
      refine r_bipush (pc := 21) C dX3_typeOf_21 (by decide) ?_
      refine r_icmp_gt (pc := 23) C 28 hb ⟨by omega, by omega⟩ dX3_typeOf_23 (by decide) (fun h23 => ?_) (fun h23 => ?_)
      · skip
        refine r_iload_n (pc := 28) C dX3_typeOf_28 rfl 0 rfl ?_
        by_cases hl32 : b = 32
        · rw [hl32]
          refine r_lku (off := 35) (pc := 29) C 64 dX3_typeOf_29 ⟨by decide, by decide⟩ (by decide) (by decide) (by decide) ?_
          refine r_iconst (pc := 64) C dX3_typeOf_64 ?_
          exact r_reti (pc := 65) C (by first | (exfalso; omega; done) | (unfold tyB; (try (first | rw [if_pos (by omega)] | rw [if_neg (by omega)])); (try (first | rw [if_pos (by omega)] | rw [if_neg (by omega)])); (try (first | rw [if_pos (by omega)] | rw [if_neg (by omega)])); (try (first | rw [if_pos (by omega)] | rw [if_neg (by omega)])); (try (first | rw [if_pos (by omega)] | rw [if_neg (by omega)])))) (rfl) dX3_typeOf_65
        by_cases hl45 : b = 45
        · rw [hl45]
          refine r_lku (off := 39) (pc := 29) C 68 dX3_typeOf_29 ⟨by decide, by decide⟩ (by decide) (by decide) (by decide) ?_
          refine r_iconst (pc := 68) C dX3_typeOf_68 ?_
          exact r_reti (pc := 69) C (by first | (exfalso; omega; done) | (unfold tyB; (try (first | rw [if_pos (by omega)] | rw [if_neg (by omega)])); (try (first | rw [if_pos (by omega)] | rw [if_neg (by omega)])); (try (first | rw [if_pos (by omega)] | rw [if_neg (by omega)])); (try (first | rw [if_pos (by omega)] | rw [if_neg (by omega)])); (try (first | rw [if_pos (by omega)] | rw [if_neg (by omega)])))) (rfl) dX3_typeOf_69
        by_cases hl59 : b = 59
        · rw [hl59]
          refine r_lku (off := 37) (pc := 29) C 66 dX3_typeOf_29 ⟨by decide, by decide⟩ (by decide) (by decide) (by decide) ?_
          refine r_iconst (pc := 66) C dX3_typeOf_66 ?_
          exact r_reti (pc := 67) C (by first | (exfalso; omega; done) | (unfold tyB; (try (first | rw [if_pos (by omega)] | rw [if_neg (by omega)])); (try (first | rw [if_pos (by omega)] | rw [if_neg (by omega)])); (try (first | rw [if_pos (by omega)] | rw [if_neg (by omega)])); (try (first | rw [if_pos (by omega)] | rw [if_neg (by omega)])); (try (first | rw [if_pos (by omega)] | rw [if_neg (by omega)])))) (rfl) dX3_typeOf_67
        refine r_lku (off := 41) (pc := 29) C 70 dX3_typeOf_29 hb (by decide) (lku3 hl32 hl45 hl59) (by decide) ?_
        refine r_iconst (pc := 70) C dX3_typeOf_70 ?_
        exact r_reti (pc := 71) C (by first | (exfalso; omega; done) | (unfold tyB; (try (first | rw [if_pos (by omega)] | rw [if_neg (by omega)])); (try (first | rw [if_pos (by omega)] | rw [if_neg (by omega)])); (try (first | rw [if_pos (by omega)] | rw [if_neg (by omega)])); (try (first | rw [if_pos (by omega)] | rw [if_neg (by omega)])); (try (first | rw [if_pos (by omega)] | rw [if_neg (by omega)])))) (rfl) dX3_typeOf_71
      · skip
        refine r_iconst (pc := 26) C dX3_typeOf_26 ?_
        exact r_reti (pc := 27) C (by first | (exfalso; omega; done) | (unfold tyB; (try (first | rw [if_pos (by omega)] | rw [if_neg (by omega)])); (try (first | rw [if_pos (by omega)] | rw [if_neg (by omega)])); (try (first | rw [if_pos (by omega)] | rw [if_neg (by omega)])); (try (first | rw [if_pos (by omega)] | rw [if_neg (by omega)])); (try (first | rw [if_pos (by omega)] | rw [if_neg (by omega)])))) (rfl) dX3_typeOf_27
  · skip
    refine r_iload_n (pc := 6) C dX3_typeOf_6 rfl 0 rfl ?_
    refine r_bipush (pc := 7) C dX3_typeOf_7 (by decide) ?_
    refine r_icmp_gt (pc := 9) C 14 hb ⟨by omega, by omega⟩ dX3_typeOf_9 (by decide) (fun h9 => ?_) (fun h9 => ?_)
    · skip
      refine r_iload_n (pc := 14) C dX3_typeOf_14 rfl 0 rfl ?_
      refine r_bipush (pc := 15) C dX3_typeOf_15 (by decide) ?_
      refine r_icmp_lt (pc := 17) C 28 hb ⟨by omega, by omega⟩ dX3_typeOf_17 (by decide) (fun h17 => ?_) (fun h17 => ?_)
      · skip
        refine r_iload_n (pc := 28) C dX3_typeOf_28 rfl 0 rfl ?_
        by_cases hl32 : b = 32
        · rw [hl32]
          refine r_lku (off := 35) (pc := 29) C 64 dX3_typeOf_29 ⟨by decide, by decide⟩ (by decide) (by decide) (by decide) ?_
          refine r_iconst (pc := 64) C dX3_typeOf_64 ?_
          exact r_reti (pc := 65) C (by first | (exfalso; omega; done) | (unfold tyB; (try (first | rw [if_pos (by omega)] | rw [if_neg (by omega)])); (try (first | rw [if_pos (by omega)] | rw [if_neg (by omega)])); (try (first | rw [if_pos (by omega)] | rw [if_neg (by omega)])); (try (first | rw [if_pos (by omega)] | rw [if_neg (by omega)])); (try (first | rw [if_pos (by omega)] | rw [if_neg (by omega)])))) (rfl) dX3_typeOf_65
        by_cases hl45 : b = 45
        · rw [hl45]
          refine r_lku (off := 39) (pc := 29) C 68 dX3_typeOf_29 ⟨by decide, by decide⟩ (by decide) (by decide) (by decide) ?_
          refine r_iconst (pc := 68) C dX3_typeOf_68 ?_
          exact r_reti (pc := 69) C (by first | (exfalso; omega; done) | (unfold tyB; (try (first | rw [if_pos (by omega)] | rw [if_neg (by omega)])); (try (first | rw [if_pos (by omega)] | rw [if_neg (by omega)])); (try (first | rw [if_pos (by omega)] | rw [if_neg (by omega)])); (try (first | rw [if_pos (by omega)] | rw [if_neg (by omega)])); (try (first | rw [if_pos (by omega)] | rw [if_neg (by omega)])))) (rfl) dX3_typeOf_69
        by_cases hl59 : b = 59
        · rw [hl59]
          refine r_lku (off := 37) (pc := 29) C 66 dX3_typeOf_29 ⟨by decide, by decide⟩ (by decide) (by decide) (by decide) ?_
          refine r_iconst (pc := 66) C dX3_typeOf_66 ?_
          exact r_reti (pc := 67) C (by first | (exfalso; omega; done) | (unfold tyB; (try (first | rw [if_pos (by omega)] | rw [if_neg (by omega)])); (try (first | rw [if_pos (by omega)] | rw [if_neg (by omega)])); (try (first | rw [if_pos (by omega)] | rw [if_neg (by omega)])); (try (first | rw [if_pos (by omega)] | rw [if_neg (by omega)])); (try (first | rw [if_pos (by omega)] | rw [if_neg (by omega)])))) (rfl) dX3_typeOf_67
        refine r_lku (off := 41) (pc := 29) C 70 dX3_typeOf_29 hb (by decide) (lku3 hl32 hl45 hl59) (by decide) ?_
        refine r_iconst (pc := 70) C dX3_typeOf_70 ?_
        exact r_reti (pc := 71) C (by first | (exfalso; omega; done) | (unfold tyB; (try (first | rw [if_pos (by omega)] | rw [if_neg (by omega)])); (try (first | rw [if_pos (by omega)] | rw [if_neg (by omega)])); (try (first | rw [if_pos (by omega)] | rw [if_neg (by omega)])); (try (first | rw [if_pos (by omega)] | rw [if_neg (by omega)])); (try (first | rw [if_pos (by omega)] | rw [if_neg (by omega)])))) (rfl) dX3_typeOf_71
      · skip
        refine r_iload_n (pc := 20) C dX3_typeOf_20 rfl 0 rfl ?_
        refine r_bipush (pc := 21) C dX3_typeOf_21 (by decide) ?_
        refine r_icmp_gt (pc := 23) C 28 hb ⟨by omega, by omega⟩ dX3_typeOf_23 (by decide) (fun h23 => ?_) (fun h23 => ?_)
        · skip
          refine r_iload_n (pc := 28) C dX3_typeOf_28 rfl 0 rfl ?_
          by_cases hl32 : b = 32
          · rw [hl32]
            refine r_lku (off := 35) (pc := 29) C 64 dX3_typeOf_29 ⟨by decide, by decide⟩ (by decide) (by decide) (by decide) ?_
            refine r_iconst (pc := 64) C dX3_typeOf_64 ?_
            exact r_reti (pc := 65) C (by first | (exfalso; omega; done) | (unfold tyB; (try (first | rw [if_pos (by omega)] | rw [if_neg (by omega)])); (try (first | rw [if_pos (by omega)] | rw [if_neg (by omega)])); (try (first | rw [if_pos (by omega)] | rw [if_neg (by omega)])); (try (first | rw [if_pos (by omega)] | rw [if_neg (by omega)])); (try (first | rw [if_pos (by omega)] | rw [if_neg (by omega)])))) (rfl) dX3_typeOf_65
          by_cases hl45 : b = 45
          · rw [hl45]
            refine r_lku (off := 39) (pc := 29) C 68 dX3_typeOf_29 ⟨by decide, by decide⟩ (by decide) (by decide) (by decide) ?_
            refine r_iconst (pc := 68) C dX3_typeOf_68 ?_
            exact r_reti (pc := 69) C (by first | (exfalso; omega; done) | (unfold tyB; (try (first | rw [if_pos (by omega)] | rw [if_neg (by omega)])); (try (first | rw [if_pos (by omega)] | rw [if_neg (by omega)])); (try (first | rw [if_pos (by omega)] | rw [if_neg (by omega)])); (try (first | rw [if_pos (by omega)] | rw [if_neg (by omega)])); (try (first | rw [if_pos (by omega)] | rw [if_neg (by omega)])))) (rfl) dX3_typeOf_69
          by_cases hl59 : b = 59
          · rw [hl59]
            refine r_lku (off := 37) (pc := 29) C 66 dX3_typeOf_29 ⟨by decide, by decide⟩ (by decide) (by decide) (by decide) ?_
            refine r_iconst (pc := 66) C dX3_typeOf_66 ?_
            exact r_reti (pc := 67) C (by first | (exfalso; omega; done) | (unfold tyB; (try (first | rw [if_pos (by omega)] | rw [if_neg (by omega)])); (try (first | rw [if_pos (by omega)] | rw [if_neg (by omega)])); (try (first | rw [if_pos (by omega)] | rw [if_neg (by omega)])); (try (first | rw [if_pos (by omega)] | rw [if_neg (by omega)])); (try (first | rw [if_pos (by omega)] | rw [if_neg (by omega)])))) (rfl) dX3_typeOf_67
          refine r_lku (off := 41) (pc := 29) C 70 dX3_typeOf_29 hb (by decide) (lku3 hl32 hl45 hl59) (by decide) ?_
          refine r_iconst (pc := 70) C dX3_typeOf_70 ?_
          exact r_reti (pc := 71) C (by first | (exfalso; omega; done) | (unfold tyB; (try (first | rw [if_pos (by omega)] | rw [if_neg (by omega)])); (try (first | rw [if_pos (by omega)] | rw [if_neg (by omega)])); (try (first | rw [if_pos (by omega)] | rw [if_neg (by omega)])); (try (first | rw [if_pos (by omega)] | rw [if_neg (by omega)])); (try (first | rw [if_pos (by omega)] | rw [if_neg (by omega)])))) (rfl) dX3_typeOf_71
        · skip
          refine r_iconst (pc := 26) C dX3_typeOf_26 ?_
          exact r_reti (pc := 27) C (by first | (exfalso; omega; done) | (unfold tyB; (try (first | rw [if_pos (by omega)] | rw [if_neg (by omega)])); (try (first | rw [if_pos (by omega)] | rw [if_neg (by omega)])); (try (first | rw [if_pos (by omega)] | rw [if_neg (by omega)])); (try (first | rw [if_pos (by omega)] | rw [if_neg (by omega)])); (try (first | rw [if_pos (by omega)] | rw [if_neg (by omega)])))) (rfl) dX3_typeOf_27
    · skip
      refine r_iconst (pc := 12) C dX3_typeOf_12 ?_
      exact r_reti (pc := 13) C (by first | (exfalso; omega; done) | (unfold tyB; (try (first | rw [if_pos (by omega)] | rw [if_neg (by omega)])); (try (first | rw [if_pos (by omega)] | rw [if_neg (by omega)])); (try (first | rw [if_pos (by omega)] | rw [if_neg (by omega)])); (try (first | rw [if_pos (by omega)] | rw [if_neg (by omega)])); (try (first | rw [if_pos (by omega)] | rw [if_neg (by omega)])))) (rfl) dX3_typeOf_13
set_option maxHeartbeats 4000000 in
set_option maxRecDepth 100000 in
theorem c_endOfRun (g : Gt) (s : Nat) (σ : Sg) (hl : 0 ≤ σ 24 1 ∧ σ 24 1 ≤ 120) (hB : ∀ j, j < 120 → 0 ≤ σ 25 j ∧ σ 25 j ≤ 255) (hs : (s : Int) < σ 24 1) : Mt g yX2_endOfRun cX2_endOfRun 4 (some FieldType.int) 1 [.ref (gA g 24), .int (iI ((s : Int)))] σ (pI ((eR (σ 25) (σ 24 1).toNat s : Nat) : Int) σ) := by
  have hbs := hB s (by omega)
  have hts := tyB_rng (σ 25 s)
  refine mt_of (own := RX2) (by decide) rfl (Nat.le_of_ble_eq_true rfl) (fun E C => ?_)
  show J g E (pI ((eR (σ 25) (σ 24 1).toNat s : Nat) : Int) σ) 4 0 [(0, .ref (gA g 24)), (1, .int (iI ((s : Int))))] [] σ
  refine r_aload_n (pc := 0) C dX2_endOfRun_0 rfl 0 rfl ?_
  refine r_getR2 (pc := 1) C 0 (k' := 25) rfl O_24 (by decide) rfl t_164 dX2_endOfRun_1 ?_
  refine r_iload_n (pc := 4) C dX2_endOfRun_4 rfl 1 rfl ?_
  refine r_iald (pc := 5) C s A_25 (by omega) (by omega) dX2_endOfRun_5 ?_
  refine r_cSi (pc := 6) C (c_typeOf g (σ 25 s) ⟨by omega, by omega⟩ σ) yX3_typeOf_w rfl t_583 ⟨by decide, by decide⟩ (Nat.le_of_ble_eq_true rfl) rfl dX2_endOfRun_6 ?_
  refine r_istore_n (pc := 9) C dX2_endOfRun_9 rfl (by decide) [1, 2, 0] (lv' := [(0, .ref (gA g 24)), (1, .int (iI ((s : Int)))), (2, .int (iI (tyB (σ 25 s))))]) rfl ?_
  refine r_iload_n (pc := 10) C dX2_endOfRun_10 rfl 1 rfl ?_
  refine r_iconst (pc := 11) C dX2_endOfRun_11 ?_
  refine r_iadd (pc := 12) C dX2_endOfRun_12 ?_
  refine r_istore_n (pc := 13) C dX2_endOfRun_13 rfl (by decide) [1, 2, 3, 0] (lv' := [(0, .ref (gA g 24)), (1, .int (iI ((s : Int)))), (2, .int (iI (tyB (σ 25 s)))), (3, .int (iI ((s : Int) + 1)))]) rfl ?_
  have L14 : ∀ (n_ : Nat) (i : Nat) (x14_3 : Int), 120 - i < n_ → (i ≤ 119 ∧ ((s + 1 + i : Nat) : Int) ≤ σ 24 1) → (eR (σ 25) (σ 24 1).toNat s = rE (σ 25) (σ 24 1).toNat (tyB (σ 25 s)) (120 - i) (s + 1 + i)) → x14_3 = ((s + 1 + i : Nat) : Int) → J g E (pI ((eR (σ 25) (σ 24 1).toNat s : Nat) : Int) σ) 4 14 [(0, .ref (gA g 24)), (1, .int (iI ((s : Int)))), (2, .int (iI (tyB (σ 25 s)))), (3, .int (iI (x14_3)))] [] σ := by
    intro n_
    induction n_ with
    | zero => intro i x14_3  hm_; exact absurd hm_ (Nat.not_lt_zero _)
    | succ n_ ih14 =>
      intro i x14_3  hm14 hi14_0 hi14_1 e14_0 
      subst e14_0 
      refine r_iload_n (pc := 14) C dX2_endOfRun_14 rfl 3 rfl ?_
      refine r_aload_n (pc := 15) C dX2_endOfRun_15 rfl 0 rfl ?_
      refine r_getI2 (pc := 16) C 1 rfl O_24 (by decide) rfl t_166 dX2_endOfRun_16 ?_
      refine r_icmp_ge (pc := 19) C 41 ⟨by omega, by omega⟩ ⟨by omega, by omega⟩ dX2_endOfRun_19 (by decide) (fun h19 => ?_) (fun h19 => ?_)
      · skip
        refine r_iload_n (pc := 41) C dX2_endOfRun_41 rfl 3 rfl ?_
        exact r_reti (pc := 42) C (by rw [hi14_1, show 120 - i = 120 - (i + 1) + 1 by omega, rE, if_neg (by omega)]) (rfl) dX2_endOfRun_42
      · skip
        refine r_aload_n (pc := 22) C dX2_endOfRun_22 rfl 0 rfl ?_
        refine r_getR2 (pc := 23) C 0 (k' := 25) rfl O_24 (by decide) rfl t_164 dX2_endOfRun_23 ?_
        refine r_iload_n (pc := 26) C dX2_endOfRun_26 rfl 3 rfl ?_
        have hbi := hB (s + 1 + i) (by omega)
        refine r_iald (pc := 27) C (s + 1 + i) A_25 (by omega) (by omega) dX2_endOfRun_27 ?_
        have hti := tyB_rng (σ 25 (s + 1 + i))
        refine r_cSi (pc := 28) C (c_typeOf g (σ 25 (s + 1 + i)) ⟨by omega, by omega⟩ σ) yX3_typeOf_w rfl t_583 ⟨by decide, by decide⟩ (Nat.le_of_ble_eq_true rfl) rfl dX2_endOfRun_28 ?_
        refine r_iload_n (pc := 31) C dX2_endOfRun_31 rfl 2 rfl ?_
        refine r_icmp_ne (pc := 32) C 41 ⟨by omega, by omega⟩ ⟨by omega, by omega⟩ dX2_endOfRun_32 (by decide) (fun h32 => ?_) (fun h32 => ?_)
        · skip
          refine r_iload_n (pc := 41) C dX2_endOfRun_41 rfl 3 rfl ?_
          exact r_reti (pc := 42) C (by rw [hi14_1, show 120 - i = 120 - (i + 1) + 1 by omega, rE, if_neg (by omega)]) (rfl) dX2_endOfRun_42
        · skip
          refine r_iinc (pc := 35) C dX2_endOfRun_35 3 rfl (by decide) [1, 2, 3, 0] (lv' := [(0, .ref (gA g 24)), (1, .int (iI ((s : Int)))), (2, .int (iI (tyB (σ 25 s)))), (3, .int (iI (((s + 1 + i : Nat) : Int) + 1)))]) rfl ?_
          refine r_goto (pc := 38) C 14 dX2_endOfRun_38 (by decide) ?_
          exact ih14 (i + 1) _ (by omega) (by omega) (by rw [hi14_1, show 120 - i = 120 - (i + 1) + 1 by omega, rE, if_pos (by omega)]; rfl) (by omega)
  exact L14 _ 0 _ (Nat.lt_succ_self _) (by omega) (by rfl) (by omega)
set_option maxHeartbeats 4000000 in
set_option maxRecDepth 100000 in
theorem c_spells (g : Gt) (q : Nat) (hq : q < 14) (s e : Nat) (σ : Sg) (hB : ∀ j, j < 120 → 0 ≤ σ 25 j ∧ σ 25 j ≤ 255) (hse : s ≤ e ∧ e ≤ 120) : Mt g yX2_spells cX2_spells 5 (some FieldType.boolean) 4 [.ref (gA g 24), .ref (gK g q), .int (iI ((s : Int))), .int (iI ((e : Int)))] σ (pI (b01 (spB q (σ 25) s e = true)) σ) := by
  have hsl := sln_lt hq
  refine mt_of (own := RX2) (by decide) rfl (Nat.le_of_ble_eq_true rfl) (fun E C => ?_)
  show J g E (pI (b01 (spB q (σ 25) s e = true)) σ) 5 0 [(0, .ref (gA g 24)), (1, .ref (gK g q)), (2, .int (iI ((s : Int)))), (3, .int (iI ((e : Int))))] [] σ
  refine r_aload_n (pc := 0) C dX2_spells_0 rfl 1 rfl ?_
  refine r_cTi (pc := 1) C hq (c_slength g q hq σ) yJ0_length_8abf5_w rfl t_605 ⟨by decide, by decide⟩ (Nat.le_of_ble_eq_true rfl) rfl dX2_spells_1 ?_
  refine r_iload_n (pc := 4) C dX2_spells_4 rfl 3 rfl ?_
  refine r_iload_n (pc := 5) C dX2_spells_5 rfl 2 rfl ?_
  refine r_isub (pc := 6) C dX2_spells_6 ?_
  refine r_icmp_eq (pc := 7) C 12 ⟨by omega, by omega⟩ ⟨by omega, by omega⟩ dX2_spells_7 (by decide) (fun h7 => ?_) (fun h7 => ?_)
  · skip
    refine r_iload_n (pc := 12) C dX2_spells_12 rfl 2 rfl ?_
    refine r_istore (pc := 13) C dX2_spells_13 (by decide) [1, 2, 3, 4, 0] (lv' := [(0, .ref (gA g 24)), (1, .ref (gK g q)), (2, .int (iI ((s : Int)))), (3, .int (iI ((e : Int)))), (4, .int (iI ((s : Int))))]) rfl ?_
    have L15 : ∀ (n_ : Nat) (i : Nat) (x15_4 : Int), e - s - i < n_ → (s + i ≤ e) → (spF q (σ 25) s i = true) → x15_4 = ((s + i : Nat) : Int) → J g E (pI (b01 (spB q (σ 25) s e = true)) σ) 5 15 [(0, .ref (gA g 24)), (1, .ref (gK g q)), (2, .int (iI ((s : Int)))), (3, .int (iI ((e : Int)))), (4, .int (iI (x15_4)))] [] σ := by
      intro n_
      induction n_ with
      | zero => intro i x15_4  hm_; exact absurd hm_ (Nat.not_lt_zero _)
      | succ n_ ih15 =>
        intro i x15_4  hm15 hi15_0 hi15_1 e15_0 
        subst e15_0 
        refine r_iload (pc := 15) C dX2_spells_15 4 rfl ?_
        refine r_iload_n (pc := 17) C dX2_spells_17 rfl 3 rfl ?_
        refine r_icmp_ge (pc := 18) C 47 ⟨by omega, by omega⟩ ⟨by omega, by omega⟩ dX2_spells_18 (by decide) (fun h18 => ?_) (fun h18 => ?_)
        · skip
          refine r_iconst (pc := 47) C dX2_spells_47 ?_
          exact r_retz (pc := 48) C (Or.inr rfl) (b01_1 (by unfold spB; rw [decide_eq_true (by omega), Bool.true_and, show e - s = i by omega]; exact hi15_1)) (rfl) dX2_spells_48
        · skip
          refine r_aload_n (pc := 21) C dX2_spells_21 rfl 0 rfl ?_
          refine r_getR2 (pc := 22) C 0 (k' := 25) rfl O_24 (by decide) rfl t_164 dX2_spells_22 ?_
          refine r_iload (pc := 25) C dX2_spells_25 4 rfl ?_
          have hbi := hB (s + i) (by omega)
          refine r_iald (pc := 27) C (s + i) A_25 (by omega) (by omega) dX2_spells_27 ?_
          refine r_aload_n (pc := 28) C dX2_spells_28 rfl 1 rfl ?_
          refine r_iload (pc := 29) C dX2_spells_29 4 rfl ?_
          refine r_iload_n (pc := 31) C dX2_spells_31 rfl 2 rfl ?_
          refine r_isub (pc := 32) C dX2_spells_32 ?_
          have hby := sby_rng hq (j := i) (by omega)
          refine r_cTi (pc := 33) C hq (c_schar g q hq i (by omega) σ) yJ0_charAt_5068e_w rfl t_615 ⟨by decide, by decide⟩ (Nat.le_of_ble_eq_true rfl) (by rw [show ((s + i : Nat) : Int) - (s : Int) = ((i : Nat) : Int) by omega]; rfl) dX2_spells_33 ?_
          refine r_icmp_eq (pc := 36) C 41 ⟨by omega, by omega⟩ ⟨by omega, by omega⟩ dX2_spells_36 (by decide) (fun h36 => ?_) (fun h36 => ?_)
          · skip
            refine r_iinc (pc := 41) C dX2_spells_41 4 rfl (by decide) [1, 2, 3, 4, 0] (lv' := [(0, .ref (gA g 24)), (1, .ref (gK g q)), (2, .int (iI ((s : Int)))), (3, .int (iI ((e : Int)))), (4, .int (iI (((s + i : Nat) : Int) + 1)))]) rfl ?_
            refine r_goto (pc := 44) C 15 dX2_spells_44 (by decide) ?_
            exact ih15 (i + 1) _ (by omega) (by omega) (by rw [spF, hi15_1, Bool.true_and]; exact decide_eq_true (by omega)) (by omega)
          · skip
            refine r_iconst (pc := 39) C dX2_spells_39 ?_
            exact r_retz (pc := 40) C (Or.inl rfl) (b01_0 (by unfold spB; intro h; rw [Bool.and_eq_true] at h; have h2 := spF_mono _ (i + 1) (by omega) h.2; rw [spF, Bool.and_eq_true] at h2; have h3 := of_decide_eq_true h2.2; omega)) (rfl) dX2_spells_40
    exact L15 _ 0 _ (Nat.lt_succ_self _) (by omega) (by rfl) (by omega)
  · skip
    refine r_iconst (pc := 10) C dX2_spells_10 ?_
    exact r_retz (pc := 11) C (Or.inl rfl) (b01_0 (by unfold spB; rw [decide_eq_false (by omega), Bool.false_and]; decide)) (rfl) dX2_spells_11
def pS (g : Gt) (w : Nat) (σ2 : Sg) : Option Value → Sg → Prop := fun v s => v = some (.ref (gK g w)) ∧ s = σ2
set_option maxHeartbeats 4000000 in
set_option maxRecDepth 100000 in
theorem c_nameOf (g : Gt) (w : Nat) (hw : w < 13) (σ : Sg) : Mt g yX3_nameOf cX3_nameOf 1 (some (FieldType.object "java/lang/String")) 0 [.int (iI ((w : Int)))] σ (pS g w σ) := by
  refine mt_of (own := RX3) (by decide) rfl (Nat.le_of_ble_eq_true rfl) (fun E C => ?_)
  show J g E (pS g w σ) 1 0 [(0, .int (iI ((w : Int))))] [] σ
  refine r_iload_n (pc := 0) C dX3_nameOf_0 rfl 0 rfl ?_
  by_cases hs1_0 : (w : Int) = 0
  · refine r_tabIn C 0 68 dX3_nameOf_1 hs1_0 ⟨by decide, by decide⟩ (by decide) (by decide) rfl (by decide) ?_
    refine r_ldcS (pc := 68) C 0 (by decide) dX3_nameOf_68 ?_
    exact r_aret (pc := 70) C ⟨by rw [show w = 0 by omega], rfl⟩ dX3_nameOf_70
  by_cases hs1_1 : (w : Int) = 1
  · refine r_tabIn C 1 71 dX3_nameOf_1 hs1_1 ⟨by decide, by decide⟩ (by decide) (by decide) rfl (by decide) ?_
    refine r_ldcS (pc := 71) C 1 (by decide) dX3_nameOf_71 ?_
    exact r_aret (pc := 73) C ⟨by rw [show w = 1 by omega], rfl⟩ dX3_nameOf_73
  by_cases hs1_2 : (w : Int) = 2
  · refine r_tabIn C 2 74 dX3_nameOf_1 hs1_2 ⟨by decide, by decide⟩ (by decide) (by decide) rfl (by decide) ?_
    refine r_ldcS (pc := 74) C 2 (by decide) dX3_nameOf_74 ?_
    exact r_aret (pc := 76) C ⟨by rw [show w = 2 by omega], rfl⟩ dX3_nameOf_76
  by_cases hs1_3 : (w : Int) = 3
  · refine r_tabIn C 3 77 dX3_nameOf_1 hs1_3 ⟨by decide, by decide⟩ (by decide) (by decide) rfl (by decide) ?_
    refine r_ldcS (pc := 77) C 3 (by decide) dX3_nameOf_77 ?_
    exact r_aret (pc := 79) C ⟨by rw [show w = 3 by omega], rfl⟩ dX3_nameOf_79
  by_cases hs1_4 : (w : Int) = 4
  · refine r_tabIn C 4 80 dX3_nameOf_1 hs1_4 ⟨by decide, by decide⟩ (by decide) (by decide) rfl (by decide) ?_
    refine r_ldcS (pc := 80) C 4 (by decide) dX3_nameOf_80 ?_
    exact r_aret (pc := 82) C ⟨by rw [show w = 4 by omega], rfl⟩ dX3_nameOf_82
  by_cases hs1_5 : (w : Int) = 5
  · refine r_tabIn C 5 83 dX3_nameOf_1 hs1_5 ⟨by decide, by decide⟩ (by decide) (by decide) rfl (by decide) ?_
    refine r_ldcS (pc := 83) C 5 (by decide) dX3_nameOf_83 ?_
    exact r_aret (pc := 85) C ⟨by rw [show w = 5 by omega], rfl⟩ dX3_nameOf_85
  by_cases hs1_6 : (w : Int) = 6
  · refine r_tabIn C 6 86 dX3_nameOf_1 hs1_6 ⟨by decide, by decide⟩ (by decide) (by decide) rfl (by decide) ?_
    refine r_ldcS (pc := 86) C 6 (by decide) dX3_nameOf_86 ?_
    exact r_aret (pc := 88) C ⟨by rw [show w = 6 by omega], rfl⟩ dX3_nameOf_88
  by_cases hs1_7 : (w : Int) = 7
  · refine r_tabIn C 7 89 dX3_nameOf_1 hs1_7 ⟨by decide, by decide⟩ (by decide) (by decide) rfl (by decide) ?_
    refine r_ldcS (pc := 89) C 7 (by decide) dX3_nameOf_89 ?_
    exact r_aret (pc := 91) C ⟨by rw [show w = 7 by omega], rfl⟩ dX3_nameOf_91
  by_cases hs1_8 : (w : Int) = 8
  · refine r_tabIn C 8 92 dX3_nameOf_1 hs1_8 ⟨by decide, by decide⟩ (by decide) (by decide) rfl (by decide) ?_
    refine r_ldcS (pc := 92) C 8 (by decide) dX3_nameOf_92 ?_
    exact r_aret (pc := 94) C ⟨by rw [show w = 8 by omega], rfl⟩ dX3_nameOf_94
  by_cases hs1_9 : (w : Int) = 9
  · refine r_tabIn C 9 95 dX3_nameOf_1 hs1_9 ⟨by decide, by decide⟩ (by decide) (by decide) rfl (by decide) ?_
    refine r_ldcS (pc := 95) C 9 (by decide) dX3_nameOf_95 ?_
    exact r_aret (pc := 97) C ⟨by rw [show w = 9 by omega], rfl⟩ dX3_nameOf_97
  by_cases hs1_10 : (w : Int) = 10
  · refine r_tabIn C 10 98 dX3_nameOf_1 hs1_10 ⟨by decide, by decide⟩ (by decide) (by decide) rfl (by decide) ?_
    refine r_ldcS (pc := 98) C 10 (by decide) dX3_nameOf_98 ?_
    exact r_aret (pc := 100) C ⟨by rw [show w = 10 by omega], rfl⟩ dX3_nameOf_100
  by_cases hs1_11 : (w : Int) = 11
  · refine r_tabIn C 11 101 dX3_nameOf_1 hs1_11 ⟨by decide, by decide⟩ (by decide) (by decide) rfl (by decide) ?_
    refine r_ldcS (pc := 101) C 11 (by decide) dX3_nameOf_101 ?_
    exact r_aret (pc := 103) C ⟨by rw [show w = 11 by omega], rfl⟩ dX3_nameOf_103
  by_cases hs1_12 : (w : Int) = 12
  · refine r_tabIn C 12 104 dX3_nameOf_1 hs1_12 ⟨by decide, by decide⟩ (by decide) (by decide) rfl (by decide) ?_
    refine r_ldcS (pc := 104) C 12 (by decide) dX3_nameOf_104 ?_
    exact r_aret (pc := 106) C ⟨by rw [show w = 12 by omega], rfl⟩ dX3_nameOf_106
  refine r_tabOut (pc := 1) C 107 dX3_nameOf_1 ⟨by omega, by omega⟩ (by omega) (by decide) ?_
  refine r_ldcS (pc := 107) C 13 (by decide) dX3_nameOf_107 ?_
  exact r_aret (pc := 109) C ⟨by rw [show w = 13 by omega], rfl⟩ dX3_nameOf_109
set_option maxHeartbeats 4000000 in
set_option maxRecDepth 100000 in
theorem c_wordAt (g : Gt) (s : Nat) (σ : Sg) (hl : 0 ≤ σ 24 1 ∧ σ 24 1 ≤ 120) (hB : ∀ j, j < 120 → 0 ≤ σ 25 j ∧ σ 25 j ≤ 255) (hs : (s : Int) < σ 24 1) : Mt g yX3_wordAt cX3_wordAt 4 (some FieldType.int) 5 [.ref (gA g 24), .int (iI ((s : Int)))] σ (pI (wdF (σ 25) s (eR (σ 25) (σ 24 1).toNat s) 13 0) σ) := by
  have her := eR_rng (B := σ 25) (L := (σ 24 1).toNat) (s := s) (by omega)
  refine mt_of (own := RX3) (by decide) rfl (Nat.le_of_ble_eq_true rfl) (fun E C => ?_)
  show J g E (pI (wdF (σ 25) s (eR (σ 25) (σ 24 1).toNat s) 13 0) σ) 4 0 [(0, .ref (gA g 24)), (1, .int (iI ((s : Int))))] [] σ
  refine r_aload_n (pc := 0) C dX3_wordAt_0 rfl 0 rfl ?_
  refine r_iload_n (pc := 1) C dX3_wordAt_1 rfl 1 rfl ?_
  refine r_cVi (pc := 2) C (c_endOfRun g s σ hl hB (by omega)) yX2_endOfRun_w O_24 rfl rfl t_579 ⟨by decide, by decide⟩ (Nat.le_of_ble_eq_true rfl) rfl dX3_wordAt_2 ?_
  refine r_istore_n (pc := 5) C dX3_wordAt_5 rfl (by decide) [1, 2, 0] (lv' := [(0, .ref (gA g 24)), (1, .int (iI ((s : Int)))), (2, .int (iI (((eR (σ 25) (σ 24 1).toNat s : Nat) : Int))))]) rfl ?_
  refine r_iconst (pc := 6) C dX3_wordAt_6 ?_
  refine r_istore_n (pc := 7) C dX3_wordAt_7 rfl (by decide) [1, 2, 3, 0] (lv' := [(0, .ref (gA g 24)), (1, .int (iI ((s : Int)))), (2, .int (iI (((eR (σ 25) (σ 24 1).toNat s : Nat) : Int)))), (3, .int (iI (0)))]) rfl ?_
  have L8 : ∀ (n_ : Nat) (w : Nat) (x8_3 : Int), 13 - w < n_ → (w ≤ 13) → (wdF (σ 25) s (eR (σ 25) (σ 24 1).toNat s) 13 0 = wdF (σ 25) s (eR (σ 25) (σ 24 1).toNat s) (13 - w) w) → x8_3 = (w : Int) → J g E (pI (wdF (σ 25) s (eR (σ 25) (σ 24 1).toNat s) 13 0) σ) 4 8 [(0, .ref (gA g 24)), (1, .int (iI ((s : Int)))), (2, .int (iI (((eR (σ 25) (σ 24 1).toNat s : Nat) : Int)))), (3, .int (iI (x8_3)))] [] σ := by
    intro n_
    induction n_ with
    | zero => intro w x8_3  hm_; exact absurd hm_ (Nat.not_lt_zero _)
    | succ n_ ih8 =>
      intro w x8_3  hm8 hi8_0 hi8_1 e8_0 
      subst e8_0 
      refine r_iload_n (pc := 8) C dX3_wordAt_8 rfl 3 rfl ?_
      refine r_bipush (pc := 9) C dX3_wordAt_9 (by decide) ?_
      refine r_icmp_ge (pc := 11) C 35 ⟨by omega, by omega⟩ ⟨by omega, by omega⟩ dX3_wordAt_11 (by decide) (fun h11 => ?_) (fun h11 => ?_)
      · skip
        refine r_iconst (pc := 35) C dX3_wordAt_35 ?_
        exact r_reti (pc := 36) C (by rw [hi8_1, show 13 - w = 0 by omega, wdF]) (rfl) dX3_wordAt_36
      · skip
        refine r_aload_n (pc := 14) C dX3_wordAt_14 rfl 0 rfl ?_
        refine r_iload_n (pc := 15) C dX3_wordAt_15 rfl 3 rfl ?_
        refine r_callS (pc := 16) C (c_nameOf g w (by omega) σ) yX3_nameOf_w rfl t_584 ⟨by decide, by decide⟩ (Nat.le_of_ble_eq_true rfl) rfl dX3_wordAt_16 (fun v_ s_ hp16 => ?_)
        obtain ⟨rfl, hq_⟩ := hp16
        rw [hq_]
        refine r_iload_n (pc := 19) C dX3_wordAt_19 rfl 1 rfl ?_
        refine r_iload_n (pc := 20) C dX3_wordAt_20 rfl 2 rfl ?_
        refine r_cVi (pc := 21) C (c_spells g w (by omega) s (eR (σ 25) (σ 24 1).toNat s) σ hB (by omega)) yX2_spells_w O_24 rfl rfl t_601 ⟨by decide, by decide⟩ (Nat.le_of_ble_eq_true rfl) rfl dX3_wordAt_21 ?_
        refine r_ifz_eq (pc := 24) C 29 dX3_wordAt_24 (by decide) (fun h24 => ?_) (fun h24 => ?_)
        · skip
          refine r_iinc (pc := 29) C dX3_wordAt_29 3 rfl (by decide) [1, 2, 3, 0] (lv' := [(0, .ref (gA g 24)), (1, .int (iI ((s : Int)))), (2, .int (iI (((eR (σ 25) (σ 24 1).toNat s : Nat) : Int)))), (3, .int (iI ((w : Int) + 1)))]) rfl ?_
          refine r_goto (pc := 32) C 8 dX3_wordAt_32 (by decide) ?_
          exact ih8 (w + 1) _ (by omega) (by omega) (by rw [hi8_1, show 13 - w = 13 - (w + 1) + 1 by omega, wdF, if_neg h24]) (by omega)
        · skip
          refine r_iload_n (pc := 27) C dX3_wordAt_27 rfl 3 rfl ?_
          exact r_reti (pc := 28) C (by rw [hi8_1, show 13 - w = 13 - (w + 1) + 1 by omega, wdF, if_pos h24]) (rfl) dX3_wordAt_28
  exact L8 _ 0 _ (Nat.lt_succ_self _) (by omega) (by rfl) (rfl)
set_option maxHeartbeats 4000000 in
set_option maxRecDepth 100000 in
theorem c_numberAt (g : Gt) (s : Nat) (σ : Sg) (hl : 0 ≤ σ 24 1 ∧ σ 24 1 ≤ 120) (hB : ∀ j, j < 120 → 0 ≤ σ 25 j ∧ σ 25 j ≤ 255) (hs : (s : Int) < σ 24 1) (hd : tyB (σ 25 s) = 2) : Mt g yX3_numberAt cX3_numberAt 5 (some FieldType.int) 2 [.ref (gA g 24), .int (iI ((s : Int)))] σ (pI (nuF (σ 25) s ((eR (σ 25) (σ 24 1).toNat s) - s)) σ) := by
  have her := eR_rng (B := σ 25) (L := (σ 24 1).toNat) (s := s) (by omega)
  have hdg : ∀ j, j < (eR (σ 25) (σ 24 1).toNat s) - s → 48 ≤ σ 25 (s + j) ∧ σ 25 (s + j) ≤ 57 := fun j hj => tyB_2 ((eR_in (B := σ 25) (L := (σ 24 1).toNat) (s := s) (j := s + j) (by omega) (by omega)).trans hd)
  refine mt_of (own := RX3) (by decide) rfl (Nat.le_of_ble_eq_true rfl) (fun E C => ?_)
  show J g E (pI (nuF (σ 25) s ((eR (σ 25) (σ 24 1).toNat s) - s)) σ) 5 0 [(0, .ref (gA g 24)), (1, .int (iI ((s : Int))))] [] σ
  refine r_aload_n (pc := 0) C dX3_numberAt_0 rfl 0 rfl ?_
  refine r_iload_n (pc := 1) C dX3_numberAt_1 rfl 1 rfl ?_
  refine r_cVi (pc := 2) C (c_endOfRun g s σ hl hB (by omega)) yX2_endOfRun_w O_24 rfl rfl t_579 ⟨by decide, by decide⟩ (Nat.le_of_ble_eq_true rfl) rfl dX3_numberAt_2 ?_
  refine r_istore_n (pc := 5) C dX3_numberAt_5 rfl (by decide) [1, 2, 0] (lv' := [(0, .ref (gA g 24)), (1, .int (iI ((s : Int)))), (2, .int (iI (((eR (σ 25) (σ 24 1).toNat s : Nat) : Int))))]) rfl ?_
  refine r_iconst (pc := 6) C dX3_numberAt_6 ?_
  refine r_istore_n (pc := 7) C dX3_numberAt_7 rfl (by decide) [1, 2, 3, 0] (lv' := [(0, .ref (gA g 24)), (1, .int (iI ((s : Int)))), (2, .int (iI (((eR (σ 25) (σ 24 1).toNat s : Nat) : Int)))), (3, .int (iI (0)))]) rfl ?_
  refine r_iload_n (pc := 8) C dX3_numberAt_8 rfl 1 rfl ?_
  refine r_istore (pc := 9) C dX3_numberAt_9 (by decide) [1, 2, 3, 4, 0] (lv' := [(0, .ref (gA g 24)), (1, .int (iI ((s : Int)))), (2, .int (iI (((eR (σ 25) (σ 24 1).toNat s : Nat) : Int)))), (3, .int (iI (0))), (4, .int (iI ((s : Int))))]) rfl ?_
  have L11 : ∀ (n_ : Nat) (i : Nat) (x11_3 x11_4 : Int), (eR (σ 25) (σ 24 1).toNat s) - s - i < n_ → (s + i ≤ (eR (σ 25) (σ 24 1).toNat s)) → x11_3 = nuF (σ 25) s i → x11_4 = ((s + i : Nat) : Int) → J g E (pI (nuF (σ 25) s ((eR (σ 25) (σ 24 1).toNat s) - s)) σ) 5 11 [(0, .ref (gA g 24)), (1, .int (iI ((s : Int)))), (2, .int (iI (((eR (σ 25) (σ 24 1).toNat s : Nat) : Int)))), (3, .int (iI (x11_3))), (4, .int (iI (x11_4)))] [] σ := by
    intro n_
    induction n_ with
    | zero => intro i x11_3 x11_4  hm_; exact absurd hm_ (Nat.not_lt_zero _)
    | succ n_ ih11 =>
      intro i x11_3 x11_4  hm11 hi11_0 e11_0 e11_1 
      subst e11_0 e11_1 
      have hnr := nuF_rng (B := σ 25) (s := s) i (fun j hj => hdg j (by omega))
      refine r_iload (pc := 11) C dX3_numberAt_11 4 rfl ?_
      refine r_iload_n (pc := 13) C dX3_numberAt_13 rfl 2 rfl ?_
      refine r_icmp_ge (pc := 14) C 45 ⟨by omega, by omega⟩ ⟨by omega, by omega⟩ dX3_numberAt_14 (by decide) (fun h14 => ?_) (fun h14 => ?_)
      · skip
        refine r_iload_n (pc := 45) C dX3_numberAt_45 rfl 3 rfl ?_
        exact r_reti (pc := 46) C (by rw [show (eR (σ 25) (σ 24 1).toNat s) - s = i by omega]) (rfl) dX3_numberAt_46
      · skip
        refine r_sipush (pc := 17) C dX3_numberAt_17 (by decide) ?_
        refine r_iload_n (pc := 20) C dX3_numberAt_20 rfl 3 rfl ?_
        refine r_bipush (pc := 21) C dX3_numberAt_21 (by decide) ?_
        refine r_imul (pc := 23) C dX3_numberAt_23 ?_
        refine r_aload_n (pc := 24) C dX3_numberAt_24 rfl 0 rfl ?_
        refine r_getR2 (pc := 25) C 0 (k' := 25) rfl O_24 (by decide) rfl t_165 dX3_numberAt_25 ?_
        refine r_iload (pc := 28) C dX3_numberAt_28 4 rfl ?_
        have hdi := hdg i (by omega)
        refine r_iald (pc := 30) C (s + i) A_25 (by omega) (by omega) dX3_numberAt_30 ?_
        refine r_iadd (pc := 31) C dX3_numberAt_31 ?_
        refine r_bipush (pc := 32) C dX3_numberAt_32 (by decide) ?_
        refine r_isub (pc := 34) C dX3_numberAt_34 ?_
        refine r_min (pc := 35) C ⟨by omega, by omega⟩ ⟨by omega, by omega⟩ (by decide) (Nat.le_of_ble_eq_true rfl) t_656 dX3_numberAt_35 ?_
        refine r_istore_n (pc := 38) C dX3_numberAt_38 rfl (by decide) [1, 2, 3, 0, 4] (lv' := [(0, .ref (gA g 24)), (1, .int (iI ((s : Int)))), (2, .int (iI (((eR (σ 25) (σ 24 1).toNat s : Nat) : Int)))), (3, .int (iI (min 10000 ((((nuF (σ 25) s i) * 10) + (σ 25 (s + i))) - 48)))), (4, .int (iI (((s + i : Nat) : Int))))]) rfl ?_
        refine r_iinc (pc := 39) C dX3_numberAt_39 4 rfl (by decide) [1, 2, 3, 4, 0] (lv' := [(0, .ref (gA g 24)), (1, .int (iI ((s : Int)))), (2, .int (iI (((eR (σ 25) (σ 24 1).toNat s : Nat) : Int)))), (3, .int (iI (min 10000 ((((nuF (σ 25) s i) * 10) + (σ 25 (s + i))) - 48)))), (4, .int (iI (((s + i : Nat) : Int) + 1)))]) rfl ?_
        refine r_goto (pc := 42) C 11 dX3_numberAt_42 (by decide) ?_
        exact ih11 (i + 1) _ _ (by omega) (by omega) (rfl) (by omega)
  exact L11 _ 0 _ _ (Nat.lt_succ_self _) (by omega) (rfl) (by omega)
set_option maxHeartbeats 4000000 in
set_option maxRecDepth 100000 in
theorem c_valueAt (g : Gt) (t : Int) (s : Nat) (σ : Sg) (hl : 0 ≤ σ 24 1 ∧ σ 24 1 ≤ 120) (hB : ∀ j, j < 120 → 0 ≤ σ 25 j ∧ σ 25 j ≤ 255) (hs : (s : Int) < σ 24 1) (ht : t = tyB (σ 25 s)) : Mt g yX3_valueAt cX3_valueAt 3 (some FieldType.int) 6 [.ref (gA g 24), .int (iI (t)), .int (iI ((s : Int)))] σ (pI (vaF (σ 25) (σ 24 1).toNat t s) σ) := by
  have htr := tyB_rng (σ 25 s)
  refine mt_of (own := RX3) (by decide) rfl (Nat.le_of_ble_eq_true rfl) (fun E C => ?_)
  show J g E (pI (vaF (σ 25) (σ 24 1).toNat t s) σ) 3 0 [(0, .ref (gA g 24)), (1, .int (iI (t))), (2, .int (iI ((s : Int))))] [] σ
  refine r_iload_n (pc := 0) C dX3_valueAt_0 rfl 1 rfl ?_
  refine r_iconst (pc := 1) C dX3_valueAt_1 ?_
  refine r_icmp_ne (pc := 2) C 11 ⟨by omega, by omega⟩ ⟨by omega, by omega⟩ dX3_valueAt_2 (by decide) (fun h2 => ?_) (fun h2 => ?_)
  · skip
    refine r_iload_n (pc := 11) C dX3_valueAt_11 rfl 1 rfl ?_
    refine r_iconst (pc := 12) C dX3_valueAt_12 ?_
    refine r_icmp_ne (pc := 13) C 24 ⟨by omega, by omega⟩ ⟨by omega, by omega⟩ dX3_valueAt_13 (by decide) (fun h13 => ?_) (fun h13 => ?_)
    · skip
      refine r_iconst (pc := 24) C dX3_valueAt_24 ?_
      exact r_reti (pc := 25) C (by unfold vaF; (try (first | rw [if_pos (by omega)] | rw [if_neg (by omega)])); (try (first | rw [if_pos (by omega)] | rw [if_neg (by omega)]))) (rfl) dX3_valueAt_25
    · skip
      refine r_aload_n (pc := 16) C dX3_valueAt_16 rfl 0 rfl ?_
      refine r_iload_n (pc := 17) C dX3_valueAt_17 rfl 2 rfl ?_
      refine r_cSi (pc := 18) C (c_numberAt g s σ hl hB (by omega) (by omega)) yX3_numberAt_w rfl t_653 ⟨by decide, by decide⟩ (Nat.le_of_ble_eq_true rfl) rfl dX3_valueAt_18 ?_
      refine r_goto (pc := 21) C 25 dX3_valueAt_21 (by decide) ?_
      exact r_reti (pc := 25) C (by unfold vaF; (try (first | rw [if_pos (by omega)] | rw [if_neg (by omega)])); (try (first | rw [if_pos (by omega)] | rw [if_neg (by omega)]))) (rfl) dX3_valueAt_25
  · skip
    refine r_aload_n (pc := 5) C dX3_valueAt_5 rfl 0 rfl ?_
    refine r_iload_n (pc := 6) C dX3_valueAt_6 rfl 2 rfl ?_
    refine r_cSi (pc := 7) C (c_wordAt g s σ hl hB (by omega)) yX3_wordAt_w rfl t_576 ⟨by decide, by decide⟩ (Nat.le_of_ble_eq_true rfl) rfl dX3_valueAt_7 ?_
    exact r_reti (pc := 10) C (by unfold vaF; (try (first | rw [if_pos (by omega)] | rw [if_neg (by omega)])); (try (first | rw [if_pos (by omega)] | rw [if_neg (by omega)]))) (rfl) dX3_valueAt_10
