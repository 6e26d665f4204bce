/-! ===== text and odds ===== -/
theorem rd_tr {ty vl st : Nat → Int} {pos : Nat → Nat} {K : Nat} (hT : TkK ty vl K) (hp : ∀ k, k ≤ K → st k = (pos k : Int)) : ∀ (f n k : Nat) (τ ρ : Sg), k ≤ K → Tr τ ρ → (rdC ty vl st f n k τ).1 = (rdM ty vl pos f n k ρ).1 ∧ Tr (rdC ty vl st f n k τ).2 (rdM ty vl pos f n k ρ).2 ∧ ∀ c, (c < 8 ∨ 16 ≤ c) → c ≠ 26 → (rdC ty vl st f n k τ).2 c = τ c
  | 0, n, k, τ, ρ, hk, h => ⟨rfl, h, fun _ _ _ => rfl⟩
  | f + 1, n, k, τ, ρ, hk, h => by
    obtain ⟨a1, a2, a3⟩ := itm_tr (ty := ty) (vl := vl) (k := k) h
    have hik := itm0_k (k := k) ρ hT hk
    have hkp := fun c (hc : c < 8 ∨ 16 ≤ c) => itm_keep ty vl k τ hc
    rw [rdC, rdM, a1, a2]
    by_cases q : (itm 0 adS_0 ty vl k ρ).1 = true
    · rw [if_pos q, if_pos q]
      by_cases q3 : ty (itm 0 adS_0 ty vl k ρ).2.1 = 3
      · rw [if_pos q3, if_pos q3]
        have hlt : (itm 0 adS_0 ty vl k ρ).2.1 + 1 ≤ K := by
          rcases Nat.lt_or_eq_of_le hik.1 with e | e
          · exact e
          · rw [e] at q3
            have := hT.2.1
            omega
        obtain ⟨b1, b2, b3⟩ := rd_tr hT hp f (n + 1) ((itm 0 adS_0 ty vl k ρ).2.1 + 1) (wr (itm 8 adS_8 ty vl k τ).2.2 26 4 (((itm 0 adS_0 ty vl k ρ).2.1 + 1 : Nat) : Int)) (itm 0 adS_0 ty vl k ρ).2.2 hlt (Tr_o a3 (by decide) _ _)
        exact ⟨b1, b2, fun c hc h6 => (b3 c hc h6).trans ((wr_n _ _ _ h6).trans (hkp c hc))⟩
      · rw [if_neg q3, if_neg q3, hp _ hik.1]
        exact ⟨rfl, Tr_o a3 (by decide) _ _, fun c hc h6 => (wr_n _ _ _ h6).trans (hkp c hc)⟩
    · rw [if_neg q, if_neg q, hp _ hik.1]
      exact ⟨rfl, Tr_o a3 (by decide) _ _, fun c hc h6 => (wr_n _ _ _ h6).trans (hkp c hc)⟩
theorem rdM_ok {ty vl : Nat → Int} {pos : Nat → Nat} {K : Nat} (hT : TkK ty vl K) (hp : ∀ k, k ≤ K → pos k ≤ 120) : ∀ (f n k : Nat) (ρ : Sg), k ≤ K → RW ρ 0 → RW (rdM ty vl pos f n k ρ).2 0 ∧ -121 ≤ (rdM ty vl pos f n k ρ).1 ∧ (rdM ty vl pos f n k ρ).1 ≤ (n : Int) + (f : Int)
  | 0, n, k, ρ, hk, h => ⟨h, by show (-121 : Int) ≤ 0; decide, by show (0 : Int) ≤ (n : Int) + ((0 : Nat) : Int); omega⟩
  | f + 1, n, k, ρ, hk, h => by
    have hik := itm0_k (k := k) ρ hT hk
    have hW := itm_RW hT hk h
    have hpk := hp _ hik.1
    rw [rdM]
    by_cases q : (itm 0 adS_0 ty vl k ρ).1 = true
    · rw [if_pos q]
      by_cases q3 : ty (itm 0 adS_0 ty vl k ρ).2.1 = 3
      · rw [if_pos q3]
        have hlt : (itm 0 adS_0 ty vl k ρ).2.1 + 1 ≤ K := by
          rcases Nat.lt_or_eq_of_le hik.1 with e | e
          · exact e
          · rw [e] at q3
            have := hT.2.1
            omega
        have ih := rdM_ok hT hp f (n + 1) ((itm 0 adS_0 ty vl k ρ).2.1 + 1) _ hlt hW
        exact ⟨ih.1, ih.2.1, by have := ih.2.2; omega⟩
      · rw [if_neg q3]
        refine ⟨hW, ?_, ?_⟩
        · dsimp only
          split <;> omega
        · dsimp only
          split <;> omega
    · rw [if_neg q]
      exact ⟨hW, by dsimp only; omega, by dsimp only; omega⟩
theorem st_is {σ : Sg} (hl : 0 ≤ σ 24 1 ∧ σ 24 1 ≤ 120) : ∀ k, k ≤ Kt σ → splE σ 28 k = (((splE σ 28 k).toNat : Nat) : Int) ∧ (splE σ 28 k).toNat ≤ 120 := by
  intro k hk
  by_cases e : k = Kt σ
  · rw [e, splE_K28]
    omega
  · have hk2 : k < Kt σ := by omega
    obtain ⟨p, h1, h2, h3⟩ := cnT_ex (σ 25) (σ 24 1).toNat k hk2
    rw [← h3, splE_28 σ h1 h2]
    omega
theorem splE_o (σ : Sg) {k : Nat} (h : k ≠ 26 ∧ k ≠ 27 ∧ k ≠ 28 ∧ k ≠ 29) : splE σ k = σ k := by
  unfold splE adT splS
  rw [wr_n _ _ _ h.1, wr_n _ _ _ h.2.2.2, wr_n _ _ _ h.2.2.1, wr_n _ _ _ h.2.1, us_n _ _ h.2.2.2, us_n _ _ h.2.2.1, us_n _ _ h.2.1, us_n _ _ h.1]
theorem bc8_o (σ : Sg) {k : Nat} (h : k < 8 ∨ 16 ≤ k) : bc_8_0 σ k = σ k := by
  unfold bc_8_0
  rw [us_n _ _ (by omega), us_n _ _ (by omega), us_n _ _ (by omega), us_n _ _ (by omega), us_n _ _ (by omega), us_n _ _ (by omega), us_n _ _ (by omega)]
theorem bc8_tr (σ : Sg) : Tr (bc_8_0 σ) σ := by
  intro k hk h2
  rcases (show k = 0 ∨ k = 1 ∨ k = 3 ∨ k = 4 ∨ k = 5 ∨ k = 6 ∨ k = 7 by omega) with rfl | rfl | rfl | rfl | rfl | rfl | rfl <;> rfl
theorem bc08_o (σ : Sg) {k : Nat} (h : 8 ≤ k) : bc_0_8 σ k = σ k := by
  unfold bc_0_8
  rw [us_n _ _ (by omega), us_n _ _ (by omega), us_n _ _ (by omega), us_n _ _ (by omega), us_n _ _ (by omega), us_n _ _ (by omega), us_n _ _ (by omega)]
theorem bc08_k (σ : Sg) : ∀ k, k < 8 → k ≠ 2 → bc_0_8 σ k = σ (8 + k) := by
  intro k hk h2
  rcases (show k = 0 ∨ k = 1 ∨ k = 3 ∨ k = 4 ∨ k = 5 ∨ k = 6 ∨ k = 7 by omega) with rfl | rfl | rfl | rfl | rfl | rfl | rfl <;> rfl
theorem RW_at2 {σ τ : Sg} (h : ∀ k, k < 8 → k ≠ 2 → τ k = σ k) (hW : RW σ 0) : RW τ 0 := by
  unfold RW at hW ⊢
  rw [h 0 (by omega) (by omega), h (0 + 1) (by omega) (by omega), h (0 + 3) (by omega) (by omega), h (0 + 4) (by omega) (by omega), h (0 + 5) (by omega) (by omega), h (0 + 6) (by omega) (by omega), h (0 + 7) (by omega) (by omega)]
  exact hW
theorem st_text (g : Gt) (σ : Sg) (h : Rel σ) : LStp g yX4_text cX4_text 2 8 yX5_text cX5_text 2 8 [] σ := by
  have hW := h.2.1
  obtain ⟨r1, r2, r3, r4, r5, r6, r7⟩ := h.2.2
  have hl : 0 ≤ σ 24 1 ∧ σ 24 1 ≤ 120 := r3.2
  have hT := splE_Tk σ hl
  have hst := st_is hl
  have hτ : Tr (bc_8_0 (wr (splE σ) 24 1 0)) σ := by
    intro k hk h2
    rw [bc8_tr _ k hk h2, wr_n _ _ _ (by omega), splE_o σ (by omega)]
  have hrd := rd_tr (pos := fun k => (splE σ 28 k).toNat) hT (fun k hk => (hst k hk).1) 121 0 0 _ σ (Nat.zero_le _) hτ
  have hok := rdM_ok (pos := fun k => (splE σ 28 k).toNat) hT (fun k hk => (hst k hk).2) 121 0 0 σ (Nat.zero_le _) hW
  have hd := d_text g σ hl r4.2 hW.1 (by rw [hrd.1]; exact ⟨by omega, by omega⟩)
  generalize hRX : rdC (splE σ 27) (splE σ 29) (splE σ 28) 121 0 0 (bc_8_0 (wr (splE σ) 24 1 0)) = RX at *
  generalize hRM : rdM (splE σ 27) (splE σ 29) (fun k => (splE σ 28 k).toNat) 121 0 0 σ = RM at *
  obtain ⟨e1, e2, e3⟩ := hrd
  have e4 : ∀ c, (c < 8 ∨ 16 ≤ c) → c ≠ 24 → c ≠ 26 → c ≠ 27 → c ≠ 28 → c ≠ 29 → RX.2 c = σ c := fun c hc a1 a2 a3 a4 a5 => (e3 c hc a2).trans ((bc8_o _ hc).trans ((wr_n _ _ _ a1).trans (splE_o σ ⟨a2, a3, a4, a5⟩)))
  have e5 : RX.2 24 1 = 0 := by
    rw [e3 24 (by omega) (by omega), bc8_o _ (by omega)]
    rfl
  refine ⟨RX.1, _, hd, fun v s hp => ⟨hp.1, ?_⟩⟩
  obtain ⟨-, hs⟩ := hp
  have s8 : ∀ k, 8 ≤ k → s k = RX.2 k := by
    intro k hk
    rw [hs]
    split
    · exact bc08_o _ hk
    · rfl
  have sM : ∀ k, 40 < k → s k = σ k := fun k hk => (s8 k (by omega)).trans (e4 k (by omega) (by omega) (by omega) (by omega) (by omega) (by omega))
  have sR : ∀ k, k < 8 → k ≠ 2 → s k = (if 0 ≤ RM.1 then RM.2 else σ) k := by
    intro k hk h2
    rw [hs, e1]
    by_cases q : 0 ≤ RM.1
    · rw [if_pos q, if_pos q, bc08_k _ k hk h2]
      exact e2 k hk h2
    · rw [if_neg q, if_neg q]
      exact e4 k (by omega) (by omega) (by omega) (by omega) (by omega) (by omega)
  have u49 : (us s 44 (s 42)) 49 = σ 25 := (sM 49 (by decide)).trans r4.1.symm
  have u41 : (us s 44 (s 42)) 41 = σ 41 := sM 41 (by decide)
  have hV := TV_of (σ := σ) (τ := us s 44 (s 42)) u49 (by rw [u41]; exact r3.1.symm) hl
  have hn0 := nxt0 (B := σ 25) (L := (σ 24 1).toNat) (by omega)
  have h0 : skp ((us s 44 (s 42)) 49) ((us s 44 (s 42)) 41 10).toNat 120 0 = (splE σ 28 0).toNat := by
    rw [u49, u41, ← r3.1]
    have q := pos_at (σ := σ) hl hn0.1 hn0.2.2
    rw [hn0.2.1] at q
    exact q.symm
  have he := e_text g σ s (us s 44 (s 42)) rfl (sM 42 (by decide) |>.trans h.1) ((us_s _ _ _).trans ((sM 42 (by decide)).trans h.1)) (by rw [u41, ← r3.1]; exact hl) (by rw [u49]; exact r4.2) hV h0 ty_not6 hW
  rw [hRM] at he
  refine ⟨_, he, fun v2 t hq => ?_⟩
  obtain ⟨p1, p2, p3, p4, p5⟩ := hq
  refine ⟨by rw [p1, e1], ?_, ?_, ?_⟩
  · rw [p2]
    exact mkS_cg (fun k hk h2 => ((p3 k (by omega) (by omega) (by omega)).trans (sR k hk h2)).symm)
  · refine RW_at2 (fun k hk h2 => (p3 k (by omega) (by omega) (by omega)).trans (sR k hk h2)) ?_
    split
    · exact hok.1
    · exact hW
  · have o : ∀ k, (16 ≤ k ∧ k ≠ 24 ∧ k ≠ 26 ∧ k ≠ 27 ∧ k ≠ 28 ∧ k ≠ 29 ∧ k ≠ 41 ∧ k ≠ 42 ∧ k ≠ 44) → t k = σ k := fun k q => (p3 k (by omega) (by omega) (by omega)).trans ((s8 k (by omega)).trans (e4 k (by omega) (by omega) (by omega) (by omega) (by omega) (by omega)))
    have t5 : t 41 5 = σ 41 5 := (p5 5 (by decide)).trans (congrFun (sM 41 (by decide)) 5)
    have t6 : t 41 6 = σ 41 6 := (p5 6 (by decide)).trans (congrFun (sM 41 (by decide)) 6)
    have t24 : t 24 1 = 0 := by rw [p3 24 (by decide) (by decide) (by decide), s8 24 (by decide)]; exact e5
    unfold Rst
    rw [t5, t6, p4, t24, o 43 (by omega), o 40 (by omega), o 25 (by omega), o 49 (by omega), o 39 (by omega), o 46 (by omega)]
    refine ⟨fun q => ⟨(r1 q).1.trans (mkS_cg (fun k a _ => (o (16 + k) (by omega)).symm)), RW_at (fun k a => o (16 + k) (by omega)) (r1 q).2⟩, r2, ⟨rfl, by decide, by decide⟩, r4, r5, r6, fun q hq => ?_⟩
    have gg := r7 q hq
    unfold Sh at gg ⊢
    rw [o (31 + 2 * q) (by omega), o (32 + 2 * q) (by omega), o 50 (by omega), o 51 (by omega), o 52 (by omega)]
    exact gg
theorem Rel_fin {σ : Sg} (w : Nat) (h : Rel σ) : Rel (finM w (fin w σ)) := by
  have o : ∀ k, k ≠ 39 → k ≠ 46 → finM w (fin w σ) k = σ k := fun k a b => (finM_n w _ b).trans (fin_n w σ a)
  exact ⟨(o 42 (by decide) (by decide)).trans (h.1.trans (mkS_cg (fun k a _ => (o k (by omega) (by omega)).symm))), RW_at (fun k a => by rw [Nat.zero_add]; exact o k (by omega) (by omega)) h.2.1, Rst_fin w h.2.2⟩
def LStpL (g : Gt) (y4 : MethodName) (c4 : ByteArray) (n4 d4 : Nat) (y5 : MethodName) (c5 : ByteArray) (n5 d5 : Nat) (av : List Value) (σ : Sg) : Prop := ∃ (x : Int) (P : Option Value → Sg → Prop), Mt g y4 c4 n4 (some FieldType.long) d4 (.ref (gA g 40) :: av) σ P ∧ ∀ v s, P v s → v = some (.long (iL x)) ∧ ∃ Q : Option Value → Sg → Prop, Mt g y5 c5 n5 (some FieldType.long) d5 (.ref (gA g 41) :: av) s Q ∧ ∀ v2 t, Q v2 t → v2 = some (.long (iL x)) ∧ Rel t
theorem st_odds (g : Gt) (n w : Int) (h_n : rng n) (h_w : rng w) (σ : Sg) (h : Rel σ) : LStpL g yX4_odds cX4_odds 9 3 yX5_odds cX5_odds 8 4 [.int (iI n), .int (iI w)] σ := by
  have hW := h.2.1
  have hd := d_odds g n w h_n h_w σ hW
  rw [held_is (holder (σ 0 7) (σ 6)) (fun f => (holder_rng _ _ f (by have := hW.1; omega)).1)] at hd
  refine ⟨_, _, hd, fun v s hp => ⟨hp.1, ?_⟩⟩
  obtain ⟨-, hs⟩ := hp
  have hS : s 42 = mkS σ := by
    rw [hs]
    split
    · exact h.1
    · exact (fin_n 0 σ (by decide)).trans h.1
  refine ⟨_, e_odds g n w h_n h_w σ s hS hW, fun v2 t hq => ⟨hq.1, ?_⟩⟩
  obtain ⟨-, ht⟩ := hq
  rw [ht, hs]
  by_cases c : (0 ≤ n ∧ n ≤ 14) ∧ 0 ≤ w ∧ w ≤ 1
  · rw [if_pos c, if_pos c]
    exact h
  · rw [if_neg c, if_neg c]
    exact Rel_fin 0 h
