/-! ===== the class's tokens are the model's ===== -/
theorem rE_rM {B : Nat → Int} {L : Nat} {c : Int} {lt dg : Prop} [Decidable lt] [Decidable dg] (hc : ∀ q, (q < L ∧ tyB (B q) = c) ↔ ((lt ∧ 97 ≤ btA B L q ∧ btA B L q ≤ 122) ∨ (dg ∧ 48 ≤ btA B L q ∧ btA B L q ≤ 57))) : ∀ f1 f2 q, L ≤ q + f1 → L ≤ q + f2 → rE B L c f1 q = rM B L lt dg f2 q
  | 0, f2, q, h1, h2 => by
    rw [rM_stop (fun h => by have := ((hc q).mpr h).1; omega)]
    rfl
  | f1 + 1, f2, q, h1, h2 => by
    by_cases h : q < L ∧ tyB (B q) = c
    · obtain ⟨f2, rfl⟩ : ∃ g, f2 = g + 1 := ⟨f2 - 1, by omega⟩
      rw [rE, if_pos h, rM, if_pos ((hc q).mp h)]
      exact rE_rM hc f1 f2 (q + 1) (by omega) (by omega)
    · rw [rE, if_neg h, rM_stop (fun e => h ((hc q).mpr e))]
theorem tyB_i1 {b : Int} : tyB b = 1 ↔ 97 ≤ b ∧ b ≤ 122 := ⟨tyB_1, fun h => if_pos h⟩
theorem tyB_i2 {b : Int} : tyB b = 2 ↔ 48 ≤ b ∧ b ≤ 57 := ⟨tyB_2, fun h => (if_neg (by omega)).trans (if_pos h)⟩
theorem tyB_i0 {b : Int} : tyB b = 0 ↔ b = 32 := by
  unfold tyB
  constructor
  · intro h
    repeat' split at h
    all_goals omega
  · intro h
    subst h
    decide
theorem tyB_i3 {b : Int} : tyB b = 3 ↔ b = 59 := by
  unfold tyB
  constructor
  · intro h
    repeat' split at h
    all_goals omega
  · intro h
    subst h
    decide
theorem tyB_i4 {b : Int} : tyB b = 4 ↔ b = 45 := by
  unfold tyB
  constructor
  · intro h
    repeat' split at h
    all_goals omega
  · intro h
    subst h
    decide
theorem btA_in {B : Nat → Int} {L p : Nat} (h : p < L) : btA B L p = B p := if_pos h
theorem btA_no {B : Nat → Int} {L p : Nat} (h : ¬ p < L) : btA B L p = -1 := if_neg h
theorem tE_1 {B : Nat → Int} {L p : Nat} (hL : L ≤ 120) (hp : p < L) (h : tyB (B p) = 1 ∨ tyB (B p) = 2) : tE B L p = eR B L p := by
  unfold tE eR
  rw [if_pos hp]
  refine (rE_rM (fun q => ?_) 120 121 (p + 1) (by omega) (by omega)).symm
  rw [btA_in hp]
  by_cases hq : q < L
  · rw [btA_in hq]
    rcases h with h | h
    · have h1 := tyB_i1.mp h
      rw [h, tyB_i1]
      omega
    · have h1 := tyB_i2.mp h
      rw [h, tyB_i2]
      omega
  · rw [btA_no hq]
    omega
theorem tE_0 {B : Nat → Int} {L p : Nat} (hp : p < L) (h : ¬ (tyB (B p) = 1 ∨ tyB (B p) = 2)) : tE B L p = p + 1 := by
  unfold tE
  rw [if_pos hp]
  refine rM_stop (fun q => ?_) 121
  rw [btA_in hp] at q
  have h1 : ¬ (97 ≤ B p ∧ B p ≤ 122) := fun e => h (Or.inl (tyB_i1.mpr e))
  have h2 : ¬ (48 ≤ B p ∧ B p ≤ 57) := fun e => h (Or.inr (tyB_i2.mpr e))
  omega
theorem skp_in {B : Nat → Int} {L : Nat} : ∀ f q, q ≤ L → L ≤ q + f → (∀ j, q ≤ j → j < skp B L f q → B j = 32) ∧ (skp B L f q < L → B (skp B L f q) ≠ 32)
  | 0, q, h1, h2 => ⟨fun j a b => by have b2 : j < q := b; omega, fun a => by have a2 : q < L := a; omega⟩
  | f + 1, q, h1, h2 => by
    by_cases h : btA B L q = 32
    · have hq := btA_lt (B := B) (L := L) (p := q) (by omega)
      have ih := skp_in (B := B) (L := L) f (q + 1) (by omega) (by omega)
      rw [skp, if_pos h]
      refine ⟨fun j a b => ?_, ih.2⟩
      by_cases e : j = q
      · rw [e, ← hq.2]
        exact h
      · exact ih.1 j (by omega) b
    · rw [skp, if_neg h]
      refine ⟨fun j a b => by omega, fun a => ?_⟩
      rw [btA_in a] at h
      exact h
theorem cnT_flat {B : Nat → Int} {q : Nat} : ∀ n, q ≤ n → (∀ j, q ≤ j → j < n → ¬ isSt B j = true) → cnT B n = cnT B q
  | 0, h, _ => by rw [show q = 0 by omega]
  | n + 1, h, hj => by
    by_cases e : q = n + 1
    · rw [e]
    · rw [cnT, if_neg (hj n (by omega) (by omega))]
      exact cnT_flat n (by omega) (fun j a b => hj j a (by omega))
theorem isSt_32 {B : Nat → Int} {j : Nat} (h : B j = 32) : ¬ isSt B j = true := by
  intro q
  unfold isSt at q
  exact (of_decide_eq_true q).1 (tyB_i0.mpr h)
theorem rE_out {B : Nat → Int} {L : Nat} {c : Int} : ∀ f p, p ≤ L → L ≤ p + f → rE B L c f p < L → tyB (B (rE B L c f p)) ≠ c
  | 0, p, h1, h2, h3 => by have h4 : p < L := h3; omega
  | f + 1, p, h1, h2, h3 => by
    by_cases h : p < L ∧ tyB (B p) = c
    · rw [rE, if_pos h] at h3 ⊢
      exact rE_out f (p + 1) (by omega) (by omega) h3
    · rw [rE, if_neg h] at h3 ⊢
      exact fun e => h ⟨h3, e⟩
/-- behind a token, past blanks: the next start, or the end -/
theorem nxt {B : Nat → Int} {L p : Nat} (hL : L ≤ 120) (hp : p < L) (hs : isSt B p = true) : skp B L 120 (tE B L p) ≤ L ∧ cnT B (skp B L 120 (tE B L p)) = cnT B p + 1 ∧ (skp B L 120 (tE B L p) < L → isSt B (skp B L 120 (tE B L p)) = true) := by
  have hr := tE_le (B := B) (L := L) (p := p) (by omega)
  have hk := skp_le B L 120 (tE B L p) hr.2
  have hi := skp_in (B := B) (L := L) 120 (tE B L p) hr.2 (by omega)
  have hrun : p + 1 ≤ tE B L p ∧ (∀ j, p + 1 ≤ j → j < tE B L p → tyB (B j) = tyB (B p) ∧ (tyB (B p) = 1 ∨ tyB (B p) = 2)) ∧ (tE B L p < L → ¬ (tyB (B (tE B L p)) = tyB (B p) ∧ (tyB (B p) = 1 ∨ tyB (B p) = 2))) ∧ tyB (B (tE B L p - 1)) = tyB (B p) := by
    by_cases h : tyB (B p) = 1 ∨ tyB (B p) = 2
    · have e := tE_1 hL hp h
      have g := eR_rng (B := B) hp
      rw [e]
      refine ⟨g.1, fun j a b => ⟨eR_in (by omega) b, h⟩, fun a b => ?_, eR_in (L := L) (by omega) (by omega)⟩
      exact rE_out (B := B) (L := L) (c := tyB (B p)) 120 (p + 1) (by omega) (by omega) a b.1
    · have e := tE_0 hp h
      rw [e]
      exact ⟨Nat.le_refl _, fun j a b => by omega, fun _ b => h b.2, rfl⟩
  obtain ⟨r1, r2, r3, r4⟩ := hrun
  generalize tE B L p = e at *
  generalize skp B L 120 e = n at *
  refine ⟨hk.2, ?_, fun hn => ?_⟩
  · have h1 : cnT B (p + 1) = cnT B p + 1 := by rw [cnT, if_pos hs]
    rw [← h1]
    refine cnT_flat n (by omega) (fun j a b => ?_)
    by_cases hj : j < e
    · have h2 := r2 j a hj
      intro q
      unfold isSt at q
      have q2 := (of_decide_eq_true q).2
      refine q2 ⟨?_, by rw [h2.1]; exact h2.2⟩
      obtain ⟨i, rfl⟩ : ∃ i, j = i + 1 := ⟨j - 1, by omega⟩
      show tyB (B (i + 1)) = tyB (B i)
      rw [h2.1]
      by_cases hi2 : i = p
      · rw [hi2]
      · exact (r2 i (by omega) (by omega)).1.symm
    · exact isSt_32 (hi.1 j (by omega) b)
  · have h32 := hi.2 hn
    unfold isSt
    refine decide_eq_true ⟨fun q => h32 (tyB_i0.mp q), fun q => ?_⟩
    obtain ⟨i, hi3⟩ : ∃ i, n = i + 1 := ⟨n - 1, by omega⟩
    by_cases he : n = e
    · rw [he] at q
      have r4' := r4
      rw [show e = i + 1 by omega] at r4'
      have q1 : tyB (B e) = bfT B e := q.1
      rw [show e = i + 1 by omega] at q1
      have q3 : bfT B (i + 1) = tyB (B i) := rfl
      rw [q3, show tyB (B i) = tyB (B p) from r4'] at q1
      rw [show i + 1 = e by omega] at q1
      exact r3 (by omega) ⟨q1, by rw [← q1]; exact q.2⟩
    · have h5 := hi.1 i (by omega) (by omega)
      rw [hi3] at q
      have q1 : tyB (B (i + 1)) = tyB (B i) := q.1
      rw [h5] at q1
      have e0 : tyB 32 = 0 := by decide
      have := q.2
      omega
theorem nxt0 {B : Nat → Int} {L : Nat} (hL : L ≤ 120) : skp B L 120 0 ≤ L ∧ cnT B (skp B L 120 0) = 0 ∧ (skp B L 120 0 < L → isSt B (skp B L 120 0) = true) := by
  have hk := skp_le B L 120 0 (by omega)
  have hi := skp_in (B := B) (L := L) 120 0 (by omega) (by omega)
  generalize skp B L 120 0 = n at *
  refine ⟨hk.2, ?_, fun hn => ?_⟩
  · exact cnT_flat n (by omega) (fun j a b => isSt_32 (hi.1 j a b))
  · have h32 := hi.2 hn
    unfold isSt
    refine decide_eq_true ⟨fun q => h32 (tyB_i0.mp q), fun q => ?_⟩
    cases n with
    | zero =>
      have q1 : tyB (B 0) = 0 := q.1
      have := q.2
      omega
    | succ i =>
      have h5 := hi.1 i (by omega) (by omega)
      have q1 : tyB (B (i + 1)) = tyB (B i) := q.1
      rw [h5] at q1
      have e0 : tyB 32 = 0 := by decide
      have := q.2
      omega
/-- words -/
theorem wM_pos {B : Nat → Int} {s : Nat} : ∀ n, (∀ j, j < n → 97 ≤ B (s + j) ∧ B (s + j) ≤ 122) → 0 ≤ wM B s n ∧ wM B s n ≤ 1152921504606847000 ∧ (1 ≤ n → 1 ≤ wM B s n)
  | 0, _ => by
    show 0 ≤ (0 : Int) ∧ (0 : Int) ≤ 1152921504606847000 ∧ _
    omega
  | n + 1, h => by
    have ih := wM_pos n (fun j hj => h j (by omega))
    have h1 := h n (by omega)
    unfold wM wMs
    split
    · omega
    · rw [iL_toInt ⟨by omega, by omega⟩]
      omega
theorem wM_st {B : Nat → Int} {s n : Nat} (h : ∀ j, j < n + 1 → 97 ≤ B (s + j) ∧ B (s + j) ≤ 122) : (36028797018963967 < wM B s n ∧ wM B s (n + 1) = wM B s n) ∨ (wM B s n ≤ 36028797018963967 ∧ wM B s (n + 1) = 32 * wM B s n + (B (s + n) - 96)) := by
  have ih := wM_pos n (fun j hj => h j (by omega))
  have h1 := h n (by omega)
  rw [show wM B s (n + 1) = wMs (wM B s n) (B (s + n)) from rfl]
  unfold wMs
  split
  · exact Or.inl ⟨by omega, rfl⟩
  · rw [iL_toInt ⟨by omega, by omega⟩]
    exact Or.inr ⟨by omega, rfl⟩
def cdW (w : Nat) : Nat → Int
  | 0 => 0
  | i + 1 => 32 * cdW w i + (sby w i - 96)
theorem cdW_all : ∀ w, w < 13 → cdW w (sln w) = wcd w ∧ ∀ i, i ≤ sln w → 0 ≤ cdW w i ∧ cdW w i ≤ 36028797018963967 := by decide +kernel
theorem wM_is {B : Nat → Int} {s w : Nat} (hw : w < 13) : ∀ i n, i ≤ sln w → (∀ j, j < n → 97 ≤ B (s + j) ∧ B (s + j) ≤ 122) → (wM B s n = cdW w i ↔ (n = i ∧ ∀ j, j < n → B (s + j) = sby w j))
  | 0, n, hi, h => by
    have hp := wM_pos n h
    constructor
    · intro e
      have e2 : wM B s n = 0 := e
      have hn : n = 0 := by omega
      subst hn
      exact ⟨rfl, fun j hj => by omega⟩
    · rintro ⟨e, _⟩
      subst e
      rfl
  | i + 1, n, hi, h => by
    have hp := wM_pos n h
    have hc := (cdW_all w hw).2 i (by omega)
    have hd := sby_rng (i := w) (j := i) (by omega) (by omega)
    have e1 : cdW w (i + 1) = 32 * cdW w i + (sby w i - 96) := rfl
    cases n with
    | zero =>
      have e0 : wM B s 0 = 0 := rfl
      constructor
      · intro e
        omega
      · intro e
        omega
    | succ n =>
      have hb := h n (by omega)
      have ih := wM_is hw i n (by omega) (fun j hj => h j (by omega))
      have hc2 := (cdW_all w hw).2 (i + 1) hi
      rcases wM_st h with ⟨a, b⟩ | ⟨a, b⟩
      · constructor
        · intro e
          omega
        · rintro ⟨e, f⟩
          have hn : n = i := by omega
          have := ih.mpr ⟨hn, fun j hj => f j (by omega)⟩
          omega
      · constructor
        · intro e
          have g1 : wM B s n = cdW w i := by omega
          obtain ⟨g2, g3⟩ := ih.mp g1
          refine ⟨by omega, fun j hj => ?_⟩
          by_cases ej : j = n
          · subst ej
            subst g2
            omega
          · exact g3 j (by omega)
        · rintro ⟨e, f⟩
          have hn : n = i := by omega
          subst hn
          have g1 := ih.mpr ⟨rfl, fun j hj => f j (by omega)⟩
          have g2 := f n (by omega)
          omega
theorem spF_is {q : Nat} {B : Nat → Int} {s : Nat} : ∀ n, spF q B s n = true ↔ ∀ j, j < n → B (s + j) = sby q j
  | 0 => ⟨fun _ j hj => by omega, fun _ => rfl⟩
  | n + 1 => by
    rw [spF, Bool.and_eq_true, spF_is n, decide_eq_true_iff]
    constructor
    · rintro ⟨a, b⟩ j hj
      by_cases e : j = n
      · rw [e]
        exact b
      · exact a j (by omega)
    · intro a
      exact ⟨fun j hj => a j (by omega), a n (by omega)⟩
theorem spB_is {B : Nat → Int} {s e w : Nat} (hw : w < 13) (hse : s ≤ e) (h : ∀ j, j < e - s → 97 ≤ B (s + j) ∧ B (s + j) ≤ 122) : spB w B s e = true ↔ wM B s (e - s) = wcd w := by
  rw [← (cdW_all w hw).1, wM_is hw (sln w) (e - s) (Nat.le_refl _) h]
  unfold spB
  rw [Bool.and_eq_true, spF_is, decide_eq_true_iff]
  constructor
  · rintro ⟨a, b⟩
    exact ⟨by omega, b⟩
  · rintro ⟨a, b⟩
    exact ⟨by omega, b⟩
theorem wcd_inj : ∀ w, w < 13 → ∀ v, v < 13 → wcd w = wcd v → w = v := by decide +kernel
theorem wcd_pos : ∀ w, w < 13 → 0 < wcd w := by decide +kernel
theorem wdF_sp (B : Nat → Int) (s e : Nat) : ∀ f w0, (wdF B s e f w0 = -1 ∧ ∀ w, w0 ≤ w → w < w0 + f → ¬ spB w B s e = true) ∨ ∃ w : Nat, w0 ≤ w ∧ w < w0 + f ∧ wdF B s e f w0 = (w : Int) ∧ spB w B s e = true
  | 0, w0 => Or.inl ⟨rfl, fun w a b => by omega⟩
  | f + 1, w0 => by
    by_cases h : spB w0 B s e = true
    · exact Or.inr ⟨w0, Nat.le_refl _, by omega, if_pos h, h⟩
    · rcases wdF_sp B s e f (w0 + 1) with ⟨a, b⟩ | ⟨w, a, b, c, d⟩
      · refine Or.inl ⟨(if_neg h).trans a, fun w c d => ?_⟩
        by_cases e2 : w = w0
        · rw [e2]
          exact h
        · exact b w (by omega) (by omega)
      · exact Or.inr ⟨w, by omega, by omega, (if_neg h).trans c, d⟩
theorem wdF_is {B : Nat → Int} {s e w : Nat} (hw : w < 13) (hse : s ≤ e) (h : ∀ j, j < e - s → 97 ≤ B (s + j) ∧ B (s + j) ≤ 122) : wM B s (e - s) = wcd w ↔ wdF B s e 13 0 = (w : Int) := by
  rcases wdF_sp B s e 13 0 with ⟨a, b⟩ | ⟨v, a, b, c, d⟩
  · constructor
    · intro q
      exact absurd ((spB_is hw hse h).mpr q) (b w (by omega) (by omega))
    · intro q
      omega
  · have hv := (spB_is (by omega) hse h).mp d
    constructor
    · intro q
      rw [c, wcd_inj v (by omega) w hw (hv.symm.trans q)]
    · intro q
      have e2 : v = w := by omega
      rw [← e2]
      exact hv
theorem at_tok {σ : Sg} {k : Nat} (hk : k < Kt σ) : ∃ p, p < (σ 24 1).toNat ∧ isSt (σ 25) p = true ∧ cnT (σ 25) p = k ∧ splE σ 27 k = tyB (σ 25 p) ∧ (splE σ 28 k).toNat = p ∧ splE σ 29 k = vaF (σ 25) (σ 24 1).toNat (tyB (σ 25 p)) p := by
  obtain ⟨p, h1, h2, h3⟩ := cnT_ex (σ 25) (σ 24 1).toNat k hk
  refine ⟨p, h1, h2, h3, ?_, ?_, ?_⟩
  · rw [← h3]
    exact splE_27 σ h1 h2
  · rw [← h3, splE_28 σ h1 h2]
    omega
  · rw [← h3]
    exact splE_29 σ h1 h2
theorem pos_at {σ : Sg} {n : Nat} (hl : 0 ≤ σ 24 1 ∧ σ 24 1 ≤ 120) (h1 : n ≤ (σ 24 1).toNat) (h2 : n < (σ 24 1).toNat → isSt (σ 25) n = true) : (splE σ 28 (cnT (σ 25) n)).toNat = n := by
  by_cases h : n < (σ 24 1).toNat
  · rw [splE_28 σ h (h2 h)]
    omega
  · have e : n = (σ 24 1).toNat := by omega
    have e2 : cnT (σ 25) n = Kt σ := by rw [e]; rfl
    rw [e2, splE_K28, e]
theorem ty_not6 {σ : Sg} : ∀ k, k < Kt σ → splE σ 27 k ≠ 6 := by
  intro k hk
  obtain ⟨p, -, -, -, h, -⟩ := at_tok hk
  have := tyB_rng (σ 25 p)
  rw [h]
  omega
theorem TV_of {σ τ : Sg} (hB : τ 49 = σ 25) (hL : τ 41 10 = σ 24 1) (hl : 0 ≤ σ 24 1 ∧ σ 24 1 ≤ 120) : TV τ (splE σ 27) (splE σ 29) (fun k => (splE σ 28 k).toNat) (Kt σ) := by
  have hlt : (σ 24 1).toNat ≤ 120 := by omega
  unfold TV
  rw [hB, hL]
  have hend : (splE σ 28 (Kt σ)).toNat = (σ 24 1).toNat := by rw [splE_K28]
  have hbe : btA (σ 25) (σ 24 1).toNat (σ 24 1).toNat = -1 := btA_no (by omega)
  have he6 := splE_K27 σ
  refine ⟨splE_Tk σ hl, ?_, ?_, ?_, ?_, ?_, ?_, ?_, ?_⟩ <;> intro k hk
  · show (((splE σ 28 k).toNat : Nat) : Int) ≤ σ 24 1
    by_cases e : k = Kt σ
    · rw [e, hend]
      omega
    · obtain ⟨p, h1, -, -, -, h5, -⟩ := at_tok (σ := σ) (k := k) (by omega)
      rw [h5]
      omega
  · dsimp only
    by_cases e : k = Kt σ
    · rw [e, hend, hbe, he6]
      omega
    · obtain ⟨p, h1, -, -, h4, h5, -⟩ := at_tok (σ := σ) (k := k) (by omega)
      rw [h5, h4, btA_in h1, tyB_i2]
  · intro h2
    dsimp only
    by_cases e : k = Kt σ
    · rw [e] at h2
      omega
    · obtain ⟨p, h1, -, -, h4, h5, h6⟩ := at_tok (σ := σ) (k := k) (by omega)
      rw [h4] at h2
      have g := eR_rng (B := σ 25) h1
      have hn := nuM_is (B := σ 25) (s := p) (eR (σ 25) (σ 24 1).toNat p - p) (fun j hj => tyB_2 ((eR_in (B := σ 25) (L := (σ 24 1).toNat) (s := p) (j := p + j) (by omega) (by omega)).trans h2))
      rw [h5, h6, tE_1 hlt h1 (Or.inr h2)]
      unfold vaF
      rw [if_neg (by omega), if_pos h2]
      omega
  · dsimp only
    obtain ⟨p, h1, h2, h3, -, h5, -⟩ := at_tok (σ := σ) (k := k) hk
    have hn := nxt (B := σ 25) hlt h1 h2
    rw [h5, ← h3, ← hn.2.1, pos_at hl hn.1 hn.2.2]
  · intro w hw
    dsimp only
    have hp := wcd_pos w hw
    by_cases e : k = Kt σ
    · rw [e, hend, he6]
      unfold wdM
      rw [if_pos (Or.inr (by rw [hbe]; omega))]
      omega
    · obtain ⟨p, h1, -, -, h4, h5, h6⟩ := at_tok (σ := σ) (k := k) (by omega)
      rw [h5, h4, h6]
      by_cases h : tyB (σ 25 p) = 1
      · have hb := tyB_i1.mp h
        have g := eR_rng (B := σ 25) h1
        unfold wdM vaF
        rw [if_neg (by rw [btA_in h1]; omega), if_pos h, tE_1 hlt h1 (Or.inl h), wdF_is hw (by omega) (fun j hj => tyB_1 ((eR_in (B := σ 25) (L := (σ 24 1).toNat) (s := p) (j := p + j) (by omega) (by omega)).trans h))]
        exact ⟨fun q => ⟨h, q⟩, fun q => q.2⟩
      · have hb : ¬ (97 ≤ σ 25 p ∧ σ 25 p ≤ 122) := fun q => h (tyB_i1.mpr q)
        unfold wdM
        rw [if_pos (Or.inr (by rw [btA_in h1]; exact hb))]
        exact ⟨fun q => by omega, fun q => absurd q.1 h⟩
  · dsimp only
    by_cases e : k = Kt σ
    · rw [e, hend, hbe, he6]
      omega
    · obtain ⟨p, h1, -, -, h4, h5, -⟩ := at_tok (σ := σ) (k := k) (by omega)
      rw [h5, h4, btA_in h1, tyB_i4]
  · dsimp only
    by_cases e : k = Kt σ
    · rw [e, hend, hbe, he6]
      omega
    · obtain ⟨p, h1, -, -, h4, h5, -⟩ := at_tok (σ := σ) (k := k) (by omega)
      rw [h5, h4, btA_in h1, tyB_i3]
  · dsimp only
    by_cases e : k = Kt σ
    · rw [e, hend]
      constructor
      · intro q
        omega
      · intro q
        exact absurd rfl q
    · obtain ⟨p, h1, -, -, -, h5, -⟩ := at_tok (σ := σ) (k := k) (by omega)
      rw [h5]
      exact ⟨fun _ => e, fun _ => by omega⟩
