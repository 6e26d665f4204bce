theorem itm0_n (ty vl : Nat → Int) (k : Nat) (τ : Sg) (hn : 0 ≤ τ 0 7 ∧ τ 0 7 ≤ 8) : 0 ≤ (itm 0 adS_0 ty vl k τ).2.2 0 7 ∧ (itm 0 adS_0 ty vl k τ).2.2 0 7 ≤ 8 := by
  unfold itm
  split
  · unfold itT
    repeat' split
    all_goals (first | exact hn | (show 0 ≤ τ 0 7 + 1 ∧ τ 0 7 + 1 ≤ 8; omega))
  · split
    · unfold itD
      repeat' split
      all_goals exact hn
    · split
      · unfold itF
        repeat' split
        all_goals exact hn
      · split
        · unfold itW
          repeat' split
          all_goals exact hn
        · exact hn
theorem itm0_k {ty vl : Nat → Int} {K k : Nat} (τ : Sg) (h : TkK ty vl K) (hk : k ≤ K) : (itm 0 adS_0 ty vl k τ).2.1 ≤ K ∧ ((itm 0 adS_0 ty vl k τ).1 = true → k + 1 ≤ (itm 0 adS_0 ty vl k τ).2.1) := by
  have h1 : ty k = 1 → k + 1 ≤ K := fun q => (Nat.lt_or_eq_of_le hk).elim (fun e => e) (fun e => by rw [e] at q; have := h.2.1; omega)
  have d1 := tkN_ge ty vl (k + 1) 11
  have d2 := tkN_ge ty vl (tkN ty vl (k + 1) 11).2 9999
  have f1 := tkN_ge ty vl (k + 1) 99
  have w0 := sgN_ge ty (k + 1) 4
  have w1 := tkN_ge ty vl (sgN ty (k + 1) 4) 3
  have t1 := bhN_ge ty vl (k + 1) 10 11
  have t2 := bhN_ge ty vl (bhN ty vl (k + 1) 10 11).2 11 9999
  have t3 := bhN_ge ty vl (bhN ty vl (bhN ty vl (k + 1) 10 11).2 11 9999).2 12 99
  unfold itm
  split
  · rename_i q
    have l0 := h1 q.1
    have l1 := bhN_le (w := 10) (m := 11) h l0
    have l2 := bhN_le (w := 11) (m := 9999) h l1
    have l3 := bhN_le (w := 12) (m := 99) h l2
    unfold itT
    repeat' split
    all_goals (first | exact ⟨hk, fun q => absurd q Bool.false_ne_true⟩ | exact ⟨l1, fun q => absurd q Bool.false_ne_true⟩ | exact ⟨l2, fun q => absurd q Bool.false_ne_true⟩ | exact ⟨l3, fun q => absurd q Bool.false_ne_true⟩ | exact ⟨l3, fun _ => Nat.le_trans t1 (Nat.le_trans t2 t3)⟩)
  · split
    · rename_i q
      have l0 := h1 q.1
      have l1 := tkN_le (m := 11) h l0
      have l2 := tkN_le (m := 9999) h l1
      unfold itD
      repeat' split
      all_goals (first | exact ⟨l1, fun q => absurd q Bool.false_ne_true⟩ | exact ⟨l2, fun q => absurd q Bool.false_ne_true⟩ | exact ⟨l2, fun _ => Nat.le_trans d1 d2⟩)
    · split
      · rename_i q
        have l0 := h1 q.1
        have l1 := tkN_le (m := 99) h l0
        unfold itF
        repeat' split
        all_goals (first | exact ⟨l1, fun q => absurd q Bool.false_ne_true⟩ | exact ⟨l1, fun _ => f1⟩)
      · split
        · rename_i q
          have l0 := h1 q.1
          have l1 := sgN_le (c := 4) h l0 (by decide)
          have l2 := tkN_le (m := 3) h l1
          unfold itW
          repeat' split
          all_goals (first | exact ⟨l2, fun q => absurd q Bool.false_ne_true⟩ | exact ⟨l2, fun _ => Nat.le_trans w0 w1⟩)
        · exact ⟨hk, fun q => absurd q Bool.false_ne_true⟩
theorem RWw9 {σ : Sg} {x : Int} (hW : RW σ 0) (h : -3 ≤ x ∧ x ≤ 3) : RW (wr σ 0 9 x) 0 := by
  obtain ⟨h1, h2, h3, h4, h5, h6, h7, h8, h9, h10, h11⟩ := hW
  exact ⟨h1, h2, h, h4, h5, h6, h7, h8, h9, h10, h11⟩
theorem spot_up {P : Nat → Int} {n : Int} (h : ∀ j, j < 10 → -1 ≤ P j ∧ P j < n) : ∀ j, j < 10 → -1 ≤ P j ∧ P j < n + 1 := fun j hj => by
  have := h j hj
  omega
theorem itm_RW {ty vl : Nat → Int} {K k : Nat} {τ : Sg} (h : TkK ty vl K) (hk : k ≤ K) (hW : RW τ 0) : RW (itm 0 adS_0 ty vl k τ).2.2 0 := by
  have hq := hW
  obtain ⟨h1, h2, h3, h4, h5, h6, h7, h8, h9, h10, h11⟩ := hq
  have g1 : ty k = 1 → k + 1 ≤ K := fun q => (Nat.lt_or_eq_of_le hk).elim (fun e => e) (fun e => by rw [e] at q; have := h.2.1; omega)
  unfold itm
  split
  · rename_i q
    have l0 := g1 q.1
    have l1 := bhN_le (w := 10) (m := 11) h l0
    have l2 := bhN_le (w := 11) (m := 9999) h l1
    have v1 := bhN_v (w := 10) (m := 11) h l0 (by decide)
    have v2 := bhN_v (w := 11) (m := 9999) h l1 (by decide)
    have v3 := bhN_v (w := 12) (m := 99) h l2 (by decide)
    unfold itT
    repeat' split
    all_goals (try exact hW)
    refine ⟨(by show 0 ≤ τ 0 7 + 1 ∧ τ 0 7 + 1 ≤ 8; omega), h2, h3, h4, h5, h6, ?_, ?_, ?_, ?_, ?_⟩
    · intro j hj
      have := h7 j hj
      show 0 ≤ up (τ 3) _ (vl k) j ∧ up (τ 3) _ (vl k) j ≤ 6
      unfold up
      split <;> omega
    · intro j hj
      have := h8 j hj
      show 0 ≤ up (τ 4) _ _ j ∧ up (τ 4) _ _ j ≤ 11
      unfold up
      split <;> omega
    · intro j hj
      have := h9 j hj
      show 0 ≤ up (up (τ 5) _ 0) _ _ j ∧ up (up (τ 5) _ 0) _ _ j ≤ 99999
      unfold up
      repeat' split
      all_goals omega
    · intro j hj
      have := h10 j hj
      show 0 ≤ up (zr (τ 6) _ 12) _ _ j ∧ up (zr (τ 6) _ 12) _ _ j ≤ 99
      unfold up zr
      repeat' split
      all_goals omega
    · exact spot_up h11
  · split
    · rename_i q
      have l0 := g1 q.1
      have l1 := tkN_le (m := 11) h l0
      have v1 := tkN_v (m := 11) h l0 (by decide)
      have v2 := tkN_v (m := 9999) h l1 (by decide)
      unfold itD
      repeat' split
      all_goals (try exact hW)
      refine ⟨h1, h2, h3, h4, h5, ?_, h7, h8, h9, h10, h11⟩
      intro j hj
      have := h6 j hj
      show 0 ≤ up (τ 1) _ _ j ∧ up (τ 1) _ _ j ≤ 9999
      unfold up
      split <;> omega
    · split
      · rename_i q
        have v1 := tkN_v (m := 99) h (g1 q.1) (by decide)
        unfold itF
        repeat' split
        all_goals (try exact hW)
        exact ⟨h1, ⟨by show 0 ≤ (tkN ty vl (k + 1) 99).1; omega, v1.2⟩, h3, h4, h5, h6, h7, h8, h9, h10, h11⟩
      · split
        · rename_i q
          have l1 := sgN_le (c := 4) h (g1 q.1) (by decide)
          have v1 := tkN_v (m := 3) h l1 (by decide)
          unfold itW
          repeat' split
          all_goals (try exact hW)
          all_goals (refine RWw9 hW ?_; (try split) <;> omega)
        · exact hW
/-- the class's trial beside the model's row -/
def Tr (τ ρ : Sg) : Prop := ∀ j, j < 8 → j ≠ 2 → τ (8 + j) = ρ j
theorem Tr_wr {τ ρ : Sg} (h : Tr τ ρ) (k i : Nat) (x : Int) : Tr (wr τ (8 + k) i x) (wr ρ k i x) := by
  intro j hj h2
  by_cases e : j = k
  · subst e
    rw [wr_s, wr_s, h j hj h2]
  · rw [wr_n _ _ _ (by omega), wr_n _ _ _ e, h j hj h2]
theorem Tr_us {τ ρ : Sg} (h : Tr τ ρ) (k : Nat) {F G : Nat → Int} (e : F = G) : Tr (us τ (8 + k) F) (us ρ k G) := by
  subst e
  intro j hj h2
  by_cases e : j = k
  · subst e
    rw [us_s, us_s]
  · rw [us_n _ _ (by omega), us_n _ _ e, h j hj h2]
theorem Tr_o {τ ρ : Sg} (h : Tr τ ρ) {k : Nat} (hk : 16 ≤ k) (i : Nat) (x : Int) : Tr (wr τ k i x) ρ := fun j hj h2 => (wr_n _ _ _ (by omega)).trans (h j hj h2)
theorem Tr_ad {τ ρ : Sg} (h : Tr τ ρ) (kd : Int) (f : Nat) : Tr (adS_8 kd f τ) (adS_0 kd f ρ) := by
  have h0 : τ 8 = ρ 0 := h 0 (by omega) (by omega)
  have h6 : τ 14 = ρ 6 := h 6 (by omega) (by omega)
  unfold adS_8 adS_0
  rw [h0, h6]
  exact Tr_wr (Tr_us (Tr_wr (Tr_wr (Tr_wr h 3 _ _) 4 _ _) 5 _ _) 6 rfl) 0 _ _
theorem itm_tr {ty vl : Nat → Int} {k : Nat} {τ ρ : Sg} (h : Tr τ ρ) : (itm 8 adS_8 ty vl k τ).1 = (itm 0 adS_0 ty vl k ρ).1 ∧ (itm 8 adS_8 ty vl k τ).2.1 = (itm 0 adS_0 ty vl k ρ).2.1 ∧ Tr (itm 8 adS_8 ty vl k τ).2.2 (itm 0 adS_0 ty vl k ρ).2.2 := by
  have h0 : τ 8 = ρ 0 := h 0 (by omega) (by omega)
  unfold itm
  split
  · unfold itT
    rw [h0]
    repeat' split
    all_goals (first | exact ⟨rfl, rfl, h⟩ | exact ⟨rfl, rfl, Tr_wr (Tr_wr (Tr_ad h _ _) 5 _ _) 6 _ _⟩)
  · split
    · unfold itD
      repeat' split
      all_goals (first | exact ⟨rfl, rfl, h⟩ | exact ⟨rfl, rfl, Tr_wr h 1 _ _⟩)
    · split
      · unfold itF
        repeat' split
        all_goals (first | exact ⟨rfl, rfl, h⟩ | exact ⟨rfl, rfl, Tr_wr h 0 _ _⟩)
      · split
        · unfold itW
          repeat' split
          all_goals (first | exact ⟨rfl, rfl, h⟩ | exact ⟨rfl, rfl, Tr_wr h 0 _ _⟩)
        · exact ⟨rfl, rfl, h⟩
/-- the model's text, item by item -/
def rdM (ty vl : Nat → Int) (pos : Nat → Nat) : Nat → Nat → Nat → Sg → Int × Sg
  | 0, _, _, s => (0, s)
  | f + 1, n, k, s =>
    if (itm 0 adS_0 ty vl k s).1 = true then
      (if ty (itm 0 adS_0 ty vl k s).2.1 = 3 then rdM ty vl pos f (n + 1) ((itm 0 adS_0 ty vl k s).2.1 + 1) (itm 0 adS_0 ty vl k s).2.2
       else ((if ty (itm 0 adS_0 ty vl k s).2.1 = 6 then ((n + 1 : Nat) : Int) else -1 - (pos (itm 0 adS_0 ty vl k s).2.1 : Int)), (itm 0 adS_0 ty vl k s).2.2))
    else (-1 - (pos (itm 0 adS_0 ty vl k s).2.1 : Int), (itm 0 adS_0 ty vl k s).2.2)
def aft (ty vl : Nat → Int) (pos : Nat → Nat) (f n : Nat) (r : It) : Int × Sg := if r.1 = true then (if ty r.2.1 = 3 then rdM ty vl pos f n (r.2.1 + 1) r.2.2 else ((if ty r.2.1 = 6 then (n : Int) else -1 - (pos r.2.1 : Int)), r.2.2)) else (-1 - (pos r.2.1 : Int), r.2.2)
theorem rdM_aft (ty vl : Nat → Int) (pos : Nat → Nat) (f n k : Nat) (s : Sg) : rdM ty vl pos (f + 1) n k s = aft ty vl pos f (n + 1) (itm 0 adS_0 ty vl k s) := rfl
theorem aft_st {ty vl : Nat → Int} {pos : Nat → Nat} {f n k : Nat} {ρ : Sg} (h3 : ty k = 3) (hf : 1 ≤ f) : aft ty vl pos f n (true, k, ρ) = aft ty vl pos (f - 1) (n + 1) (itm 0 adS_0 ty vl (k + 1) ρ) := by
  obtain ⟨f, rfl⟩ : ∃ g, f = g + 1 := ⟨f - 1, by omega⟩
  exact (if_pos rfl).trans (if_pos h3)
theorem aft_t {ty vl : Nat → Int} {pos : Nat → Nat} {f n : Nat} {r : It} (h : r.1 = true) : aft ty vl pos f n r = aft ty vl pos f n (true, r.2.1, r.2.2) := by
  obtain ⟨a, b, c⟩ := r
  have e : a = true := h
  subst e
  rfl
theorem aft_f {ty vl : Nat → Int} {pos : Nat → Nat} {f n : Nat} {r : It} (h : ¬ r.1 = true) : (aft ty vl pos f n r).1 = -1 - (pos r.2.1 : Int) := congrArg Prod.fst (if_neg h)
theorem w0 (b : Bool) : (if b = true then (0 : Int) else 1) = 0 ↔ b = true := by
  cases b <;> simp
theorem w1 (b : Bool) : (if b = true then (0 : Int) else 1) = 1 ↔ ¬ b = true := by
  cases b <;> simp
theorem w01 (b : Bool) : (if b = true then (0 : Int) else 1) = 0 ∨ (if b = true then (0 : Int) else 1) = 1 := by
  cases b <;> simp
def pTx (x : Int) (ρ2 σ : Sg) : Option Value → Sg → Prop := fun v s => v = some (.int (iI x)) ∧ s 42 = mkS ρ2 ∧ (∀ k, k ≠ 41 → k ≠ 42 → k ≠ 44 → s k = σ k) ∧ s 41 10 = 0 ∧ ∀ j, j < 10 → s 41 j = σ 41 j
theorem tx_0 {σ ρ : Sg} (hS : σ 42 = mkS ρ) : wr (wr σ 41 14 0) 41 12 0 = MS2 σ (σ 41 11) ((0 : Nat) : Int) (σ 41 13) 0 ρ := by
  funext k
  by_cases h1 : k = 41
  · subst h1
    show up (up (σ 41) 14 0) 12 0 = M41 (σ 41) _ _ _ _
    funext j
    unfold up M41
    by_cases a : j = 12
    · subst a
      rfl
    · by_cases b : j = 14
      · subst b
        rfl
      · rw [if_neg a, if_neg b]
        by_cases c : j = 11
        · subst c
          rfl
        · by_cases d : j = 13
          · subst d
            rfl
          · rw [if_neg c, if_neg a, if_neg d]
  · rw [wr_n _ _ _ h1, wr_n _ _ _ h1]
    by_cases h2 : k = 42
    · subst h2
      exact hS
    · unfold MS2
      rw [us_n _ _ h2, us_n _ _ h1]
theorem pTx_of {σ0 σ ρ2 ρ3 : Sg} {f : Nat → Int} {p e v w x y : Int} (hσ : σ = us σ0 44 f) (hx : x = y) (hr : ρ2 = ρ3) : pTx y ρ3 σ0 (some (.int (iI x))) (wr (MS2 σ p e v w ρ2) 41 10 0) := by
  subst hx hr hσ
  refine ⟨rfl, rfl, fun k h1 h2 h4 => ?_, rfl, fun j hj => ?_⟩
  · rw [wr_n _ _ _ h1]
    unfold MS2
    rw [us_n _ _ h2, us_n _ _ h1, us_n _ _ h4]
  · show up (M41 (us σ0 44 f 41) p e v w) 10 0 j = σ0 41 j
    unfold up M41
    rw [if_neg (by omega), if_neg (by omega), if_neg (by omega), if_neg (by omega), if_neg (by omega)]
    rfl
theorem ts_is {σ : Sg} {p e v w : Int} {ρ ρ2 : Sg} (h : σ 44 = mkS ρ) : us (MS2 σ p e v w ρ2) 42 (MS2 σ p e v w ρ2 44) = MS2 σ p e v w ρ := by
  rw [show MS2 σ p e v w ρ2 44 = mkS ρ from h]
  exact us_us _ _ _ _
set_option maxHeartbeats 4000000 in
set_option maxRecDepth 100000 in
theorem e_text (g : Gt) {ty vl : Nat → Int} {pos : Nat → Nat} {K : Nat} (ρ σ0 σ : Sg) (hσ : σ = us σ0 44 (σ0 42)) (hS : σ 42 = mkS ρ) (h44 : σ 44 = mkS ρ) (hl : 0 ≤ σ 41 10 ∧ σ 41 10 ≤ 120) (hB : ∀ j, j < 120 → 0 ≤ σ 49 j ∧ σ 49 j ≤ 255) (hV : TV σ ty vl pos K) (h0 : skp (σ 49) (σ 41 10).toNat 120 0 = pos 0) (h6 : ∀ k, k < K → ty k ≠ 6) (hW : RW ρ 0) : Mt g yX5_text cX5_text 2 (some FieldType.int) 8 [.ref (gA g 41)] σ0 (pTx (rdM ty vl pos 121 0 0 ρ).1 (if 0 ≤ (rdM ty vl pos 121 0 0 ρ).1 then (rdM ty vl pos 121 0 0 ρ).2 else ρ) σ0) := by
  refine mt_of (own := RX5) (by decide) rfl (Nat.le_of_ble_eq_true rfl) (fun E C => ?_)
  show J g E (pTx (rdM ty vl pos 121 0 0 ρ).1 (if 0 ≤ (rdM ty vl pos 121 0 0 ρ).1 then (rdM ty vl pos 121 0 0 ρ).2 else ρ) σ0) 2 0 [(0, .ref (gA g 41))] [] σ0
  refine r_aload_n (pc := 0) C dX5_text_0 rfl 0 rfl ?_
  refine r_cVv (pc := 1) C (c_saves g σ0) yX5_saves_w O_41 rfl rfl t_1171 ⟨by decide, by decide⟩ (Nat.le_of_ble_eq_true rfl) rfl dX5_text_1 ?_
  refine r_sg hσ.symm ?_
  refine r_aload_n (pc := 4) C dX5_text_4 rfl 0 rfl ?_
  refine r_iconst (pc := 5) C dX5_text_5 ?_
  refine r_putZ5 (pc := 6) C 14 (Or.inl rfl) rfl O_41 (by decide) rfl t_794 rfl (by decide +kernel) dX5_text_6 ?_
  refine r_aload_n (pc := 9) C dX5_text_9 rfl 0 rfl ?_
  refine r_iconst (pc := 10) C dX5_text_10 ?_
  refine r_put5 (pc := 11) C 12 rfl O_41 (by decide) rfl t_792 rfl (by decide +kernel) dX5_text_11 ?_
  refine r_sg (tx_0 hS) ?_
  skip
  refine r_aload_n (pc := 14) C dX5_text_14 rfl 0 rfl ?_
  refine r_cVv (pc := 15) C (by have e := c_token g 0 (σ 41 11) (σ 41 13) 0 ρ σ hl hB (by omega); rw [h0] at e; exact e) yX5_token_w O_41 rfl rfl t_1175 ⟨by decide, by decide⟩ (Nat.le_of_ble_eq_true rfl) rfl dX5_text_15 ?_
  refine r_iconst (pc := 18) C dX5_text_18 ?_
  refine r_istore_n (pc := 19) C dX5_text_19 rfl (by decide) [1, 0] (lv' := [(0, .ref (gA g 41)), (1, .int (iI (1)))]) rfl ?_
  refine r_aload_n (pc := 20) C dX5_text_20 rfl 0 rfl ?_
  refine r_callV (pc := 21) C (c_item g 0 (σ 41 13) ρ σ hl hB hV (by omega) hW.1 hW.2.2.2.2.2.1) yX5_item_w O_41 rfl rfl t_1193 ⟨by decide, by decide⟩ (Nat.le_of_ble_eq_true rfl) rfl dX5_text_21 (fun v_ s_ hp21 => ?_)
  obtain ⟨rfl, v21, ρ21, rfl, hh21⟩ := hp21
  have hik21 := itm0_k (k := 0) ρ hV.tk (by omega)
  have hir21 := itm_RW (k := 0) hV.tk (by omega) hW
  have L24 : ∀ (n_ : Nat) (n : Nat) (f : Nat) (k : Nat) (v : Int) (w : Int) (ρ2 : Sg) (x24_1 : Int) (s24 : Sg), 121 - n < n_ → (((w = 0 ∨ w = 1) ∧ k ≤ K) ∧ n + f = 121 ∧ 1 ≤ n ∧ (w = 0 → n ≤ k)) → (w = 0 → RW ρ2 0) → (w = 0 → rdM ty vl pos 121 0 0 ρ = aft ty vl pos f n (true, k, ρ2)) → (w = 1 → (rdM ty vl pos 121 0 0 ρ).1 = -1 - (pos k : Int)) → x24_1 = (n : Int) → s24 = (MS2 σ ((pos k : Nat) : Int) ((tE (σ 49) (σ 41 10).toNat (pos k) : Nat) : Int) v w ρ2) → J g E (pTx (rdM ty vl pos 121 0 0 ρ).1 (if 0 ≤ (rdM ty vl pos 121 0 0 ρ).1 then (rdM ty vl pos 121 0 0 ρ).2 else ρ) σ0) 2 24 [(0, .ref (gA g 41)), (1, .int (iI (x24_1)))] [] s24 := by
    intro n_
    induction n_ with
    | zero => intro n f k v w ρ2 x24_1 s24 hm_; exact absurd hm_ (Nat.not_lt_zero _)
    | succ n_ ih24 =>
      intro n f k v w ρ2 x24_1 s24 hm24 hi24_0 hi24_1 hi24_2 hi24_3 e24_0 es24
      subst e24_0 es24
      have hK := hV.tk.1
      have hlek := hV.le k hi24_0.1.2
      refine r_aload_n (pc := 24) C dX5_text_24 rfl 0 rfl ?_
      refine r_getI5 (pc := 25) C 14 rfl O_41 (by decide) rfl t_794 dX5_text_25 ?_
      refine r_top (show _ = w from rfl) ?_
      refine r_if_ne (pc := 28) C 59 ⟨by omega, by omega⟩ dX5_text_28 (by decide) (fun h28 => ?_) (fun h28 => ?_)
      · skip
        obtain rfl : w = 1 := by omega
        skip
        refine r_aload_n (pc := 59) C dX5_text_59 rfl 0 rfl ?_
        refine r_aload_n (pc := 60) C dX5_text_60 rfl 0 rfl ?_
        refine r_getI5 (pc := 61) C 14 rfl O_41 (by decide) rfl t_794 dX5_text_61 ?_
        refine r_top (show _ = 1 from rfl) ?_
        refine r_if_ne (pc := 64) C 78 ⟨by omega, by omega⟩ dX5_text_64 (by decide) (fun h64 => ?_) (fun h64 => ?_)
        · skip
          refine r_iconst (pc := 78) C dX5_text_78 ?_
          refine r_goto (pc := 79) C 83 dX5_text_79 (by decide) ?_
          refine r_putZ5 (pc := 83) C 14 (Or.inr rfl) rfl O_41 (by decide) rfl t_794 rfl (by decide +kernel) dX5_text_83 ?_
          refine r_sg (MS_14 _ _ _ _ _ _ _) ?_
          refine r_aload_n (pc := 86) C dX5_text_86 rfl 0 rfl ?_
          refine r_getI5 (pc := 87) C 14 rfl O_41 (by decide) rfl t_794 dX5_text_87 ?_
          refine r_top (show _ = 1 from rfl) ?_
          refine r_if_eq (pc := 90) C 97 ⟨by omega, by omega⟩ dX5_text_90 (by decide) (fun h90 => ?_) (fun h90 => ?_)
          · skip
            omega
          · skip
            refine r_aload_n (pc := 93) C dX5_text_93 rfl 0 rfl ?_
            refine r_cVv (pc := 94) C (c_putsBack g (MS2 σ ((pos k : Nat) : Int) ((tE (σ 49) (σ 41 10).toNat (pos k) : Nat) : Int) v 1 ρ2)) yX5_putsBack_w O_41 rfl rfl t_1244 ⟨by decide, by decide⟩ (Nat.le_of_ble_eq_true rfl) rfl dX5_text_94 ?_
            refine r_sg (ts_is h44) ?_
            refine r_aload_n (pc := 97) C dX5_text_97 rfl 0 rfl ?_
            refine r_iconst (pc := 98) C dX5_text_98 ?_
            refine r_put5 (pc := 99) C 10 rfl O_41 (by decide) rfl t_790 rfl (by decide +kernel) dX5_text_99 ?_
            skip
            refine r_aload_n (pc := 102) C dX5_text_102 rfl 0 rfl ?_
            refine r_getI5 (pc := 103) C 14 rfl O_41 (by decide) rfl t_794 dX5_text_103 ?_
            refine r_top (show (wr (MS2 σ ((pos k : Nat) : Int) ((tE (σ 49) (σ 41 10).toNat (pos k) : Nat) : Int) v 1 ρ) 41 10 0) 41 14 = 1 from rfl) ?_
            refine r_if_eq (pc := 106) C 118 ⟨by omega, by omega⟩ dX5_text_106 (by decide) (fun h106 => ?_) (fun h106 => ?_)
            · skip
              omega
            · skip
              refine r_iconst (pc := 109) C dX5_text_109 ?_
              refine r_aload_n (pc := 110) C dX5_text_110 rfl 0 rfl ?_
              refine r_getI5 (pc := 111) C 11 rfl O_41 (by decide) rfl t_791 dX5_text_111 ?_
              refine r_top (show (wr (MS2 σ ((pos k : Nat) : Int) ((tE (σ 49) (σ 41 10).toNat (pos k) : Nat) : Int) v 1 ρ) 41 10 0) 41 11 = (pos k : Int) from rfl) ?_
              refine r_isub (pc := 114) C dX5_text_114 ?_
              refine r_goto (pc := 115) C 119 dX5_text_115 (by decide) ?_
              have hx := hi24_3 rfl
              exact r_iret C (pTx_of hσ hx.symm (if_neg (by omega)).symm) dX5_text_119
        · skip
          omega
      · skip
        obtain rfl : w = 0 := by omega
        refine r_aload_n (pc := 31) C dX5_text_31 rfl 0 rfl ?_
        refine r_aload_n (pc := 32) C dX5_text_32 rfl 0 rfl ?_
        refine r_getI5 (pc := 33) C 11 rfl O_41 (by decide) rfl t_791 dX5_text_33 ?_
        refine r_top (show _ = ((pos k : Nat) : Int) from rfl) ?_
        refine r_cVi (pc := 36) C (c_byteAt g (pos k) (by omega) (MS2 σ ((pos k : Nat) : Int) ((tE (σ 49) (σ 41 10).toNat (pos k) : Nat) : Int) v 0 ρ2) hl hB) yX5_byteAt_w O_41 rfl rfl t_1179 ⟨by decide, by decide⟩ (Nat.le_of_ble_eq_true rfl) rfl dX5_text_36 ?_
        refine r_top (show _ = btA (σ 49) (σ 41 10).toNat (pos k) from rfl) ?_
        have hbt36 := btA_rng (B := σ 49) (L := (σ 41 10).toNat) (p := (pos k)) (by omega) hB
        refine r_bipush (pc := 39) C dX5_text_39 (by decide) ?_
        refine r_icmp_ne (pc := 41) C 59 ⟨by omega, by omega⟩ ⟨by omega, by omega⟩ dX5_text_41 (by decide) (fun h41 => ?_) (fun h41 => ?_)
        · skip
          skip
          have hs3 : ¬ ty k = 3 := fun q => h41 ((hV.se k (by omega)).mpr q)
          refine r_aload_n (pc := 59) C dX5_text_59 rfl 0 rfl ?_
          refine r_aload_n (pc := 60) C dX5_text_60 rfl 0 rfl ?_
          refine r_getI5 (pc := 61) C 14 rfl O_41 (by decide) rfl t_794 dX5_text_61 ?_
          refine r_top (show _ = 0 from rfl) ?_
          refine r_if_ne (pc := 64) C 78 ⟨by omega, by omega⟩ dX5_text_64 (by decide) (fun h64 => ?_) (fun h64 => ?_)
          · skip
            omega
          · skip
            refine r_aload_n (pc := 67) C dX5_text_67 rfl 0 rfl ?_
            refine r_getI5 (pc := 68) C 11 rfl O_41 (by decide) rfl t_791 dX5_text_68 ?_
            refine r_top (show _ = ((pos k : Nat) : Int) from rfl) ?_
            refine r_aload_n (pc := 71) C dX5_text_71 rfl 0 rfl ?_
            refine r_getI5 (pc := 72) C 10 rfl O_41 (by decide) rfl t_790 dX5_text_72 ?_
            refine r_top (show _ = σ 41 10 from rfl) ?_
            refine r_icmp_ge (pc := 75) C 82 ⟨by omega, by omega⟩ ⟨by omega, by omega⟩ dX5_text_75 (by decide) (fun h75 => ?_) (fun h75 => ?_)
            · skip
              refine r_iconst (pc := 82) C dX5_text_82 ?_
              refine r_putZ5 (pc := 83) C 14 (Or.inl rfl) rfl O_41 (by decide) rfl t_794 rfl (by decide +kernel) dX5_text_83 ?_
              refine r_sg (MS_14 _ _ _ _ _ _ _) ?_
              refine r_aload_n (pc := 86) C dX5_text_86 rfl 0 rfl ?_
              refine r_getI5 (pc := 87) C 14 rfl O_41 (by decide) rfl t_794 dX5_text_87 ?_
              refine r_top (show _ = 0 from rfl) ?_
              refine r_if_eq (pc := 90) C 97 ⟨by omega, by omega⟩ dX5_text_90 (by decide) (fun h90 => ?_) (fun h90 => ?_)
              · skip
                refine r_aload_n (pc := 97) C dX5_text_97 rfl 0 rfl ?_
                refine r_iconst (pc := 98) C dX5_text_98 ?_
                refine r_put5 (pc := 99) C 10 rfl O_41 (by decide) rfl t_790 rfl (by decide +kernel) dX5_text_99 ?_
                skip
                refine r_aload_n (pc := 102) C dX5_text_102 rfl 0 rfl ?_
                refine r_getI5 (pc := 103) C 14 rfl O_41 (by decide) rfl t_794 dX5_text_103 ?_
                refine r_top (show (wr (MS2 σ ((pos k : Nat) : Int) ((tE (σ 49) (σ 41 10).toNat (pos k) : Nat) : Int) v 0 ρ2) 41 10 0) 41 14 = 0 from rfl) ?_
                refine r_if_eq (pc := 106) C 118 ⟨by omega, by omega⟩ dX5_text_106 (by decide) (fun h106 => ?_) (fun h106 => ?_)
                · skip
                  refine r_iload_n (pc := 118) C dX5_text_118 rfl 1 rfl ?_
                  have hK6 : ty k = 6 := by rw [show k = K from Classical.byContradiction fun q => (by have := (hV.en k (by omega)).mpr q; omega)]; exact hV.tk.2.1
                  have hx : rdM ty vl pos 121 0 0 ρ = ((n : Int), ρ2) := by rw [hi24_2 rfl]; show (if ty k = 3 then _ else ((if ty k = 6 then (n : Int) else -1 - (pos k : Int)), ρ2)) = _; rw [if_neg hs3, if_pos hK6]
                  exact r_iret C (by rw [hx]; exact pTx_of hσ rfl (if_pos (by show (0 : Int) ≤ (n : Int); omega)).symm) dX5_text_119
                · skip
                  omega
              · skip
                omega
            · skip
              refine r_iconst (pc := 78) C dX5_text_78 ?_
              refine r_goto (pc := 79) C 83 dX5_text_79 (by decide) ?_
              refine r_putZ5 (pc := 83) C 14 (Or.inr rfl) rfl O_41 (by decide) rfl t_794 rfl (by decide +kernel) dX5_text_83 ?_
              refine r_sg (MS_14 _ _ _ _ _ _ _) ?_
              refine r_aload_n (pc := 86) C dX5_text_86 rfl 0 rfl ?_
              refine r_getI5 (pc := 87) C 14 rfl O_41 (by decide) rfl t_794 dX5_text_87 ?_
              refine r_top (show _ = 1 from rfl) ?_
              refine r_if_eq (pc := 90) C 97 ⟨by omega, by omega⟩ dX5_text_90 (by decide) (fun h90 => ?_) (fun h90 => ?_)
              · skip
                omega
              · skip
                refine r_aload_n (pc := 93) C dX5_text_93 rfl 0 rfl ?_
                refine r_cVv (pc := 94) C (c_putsBack g (MS2 σ ((pos k : Nat) : Int) ((tE (σ 49) (σ 41 10).toNat (pos k) : Nat) : Int) v 1 ρ2)) yX5_putsBack_w O_41 rfl rfl t_1244 ⟨by decide, by decide⟩ (Nat.le_of_ble_eq_true rfl) rfl dX5_text_94 ?_
                refine r_sg (ts_is h44) ?_
                refine r_aload_n (pc := 97) C dX5_text_97 rfl 0 rfl ?_
                refine r_iconst (pc := 98) C dX5_text_98 ?_
                refine r_put5 (pc := 99) C 10 rfl O_41 (by decide) rfl t_790 rfl (by decide +kernel) dX5_text_99 ?_
                skip
                refine r_aload_n (pc := 102) C dX5_text_102 rfl 0 rfl ?_
                refine r_getI5 (pc := 103) C 14 rfl O_41 (by decide) rfl t_794 dX5_text_103 ?_
                refine r_top (show (wr (MS2 σ ((pos k : Nat) : Int) ((tE (σ 49) (σ 41 10).toNat (pos k) : Nat) : Int) v 1 ρ) 41 10 0) 41 14 = 1 from rfl) ?_
                refine r_if_eq (pc := 106) C 118 ⟨by omega, by omega⟩ dX5_text_106 (by decide) (fun h106 => ?_) (fun h106 => ?_)
                · skip
                  omega
                · skip
                  refine r_iconst (pc := 109) C dX5_text_109 ?_
                  refine r_aload_n (pc := 110) C dX5_text_110 rfl 0 rfl ?_
                  refine r_getI5 (pc := 111) C 11 rfl O_41 (by decide) rfl t_791 dX5_text_111 ?_
                  refine r_top (show (wr (MS2 σ ((pos k : Nat) : Int) ((tE (σ 49) (σ 41 10).toNat (pos k) : Nat) : Int) v 1 ρ) 41 10 0) 41 11 = (pos k : Int) from rfl) ?_
                  refine r_isub (pc := 114) C dX5_text_114 ?_
                  refine r_goto (pc := 115) C 119 dX5_text_115 (by decide) ?_
                  have hx : (rdM ty vl pos 121 0 0 ρ).1 = -1 - (pos k : Int) := by rw [hi24_2 rfl]; show (if ty k = 3 then _ else ((if ty k = 6 then (n : Int) else -1 - (pos k : Int)), ρ2)).1 = _; rw [if_neg hs3]; exact if_neg (h6 k (by have := (hV.en k (by omega)).mp (by omega); omega))
                  exact r_iret C (pTx_of hσ hx.symm (if_neg (by omega)).symm) dX5_text_119
        · skip
          have h3 : ty k = 3 := (hV.se k (by omega)).mp h41
          have hkK : k < K := hV.lt (by omega) (by omega)
          refine r_aload_n (pc := 44) C dX5_text_44 rfl 0 rfl ?_
          refine r_iconst (pc := 45) C dX5_text_45 ?_
          refine r_cVv (pc := 46) C (m_y g k v ρ2 σ hl hB hV (by omega)) yX5_must_w O_41 rfl rfl t_1218 ⟨by decide, by decide⟩ (Nat.le_of_ble_eq_true rfl) rfl dX5_text_46 ?_
          refine r_aload_n (pc := 49) C dX5_text_49 rfl 0 rfl ?_
          refine r_callV (pc := 50) C (c_item g (k + 1) v ρ2 σ hl hB hV (by omega) (hi24_1 rfl).1 (hi24_1 rfl).2.2.2.2.2.1) yX5_item_w O_41 rfl rfl t_1193 ⟨by decide, by decide⟩ (Nat.le_of_ble_eq_true rfl) rfl dX5_text_50 (fun v_ s_ hp50 => ?_)
          obtain ⟨rfl, v50, ρ50, rfl, hh50⟩ := hp50
          have hik50 := itm0_k (k := (k + 1)) ρ2 hV.tk (by omega)
          have hir50 := itm_RW (k := (k + 1)) hV.tk (by omega) (hi24_1 rfl)
          refine r_iinc (pc := 53) C dX5_text_53 1 rfl (by decide) [1, 0] (lv' := [(0, .ref (gA g 41)), (1, .int (iI ((n : Int) + 1)))]) rfl ?_
          refine r_goto (pc := 56) C 24 dX5_text_56 (by decide) ?_
          exact ih24 (n + 1) (f - 1) ((itm 0 adS_0 ty vl (k + 1) ρ2).2.1) v50 (if (itm 0 adS_0 ty vl (k + 1) ρ2).1 = true then 0 else 1) ρ50 _ _ (by omega) (by exact ⟨⟨w01 _, hik50.1⟩, by omega, by omega, fun q => by have := hik50.2 ((w0 _).mp q); omega⟩) (by exact fun q => by rw [hh50 ((w0 _).mp q)]; exact hir50) (by exact fun q => by rw [hi24_2 rfl, hh50 ((w0 _).mp q), aft_st h3 (by omega), aft_t ((w0 _).mp q)]) (by exact fun q => by rw [hi24_2 rfl, aft_st h3 (by omega)]; exact aft_f ((w1 _).mp q)) (by omega) (rfl)
  exact L24 _ 1 120 ((itm 0 adS_0 ty vl 0 ρ).2.1) v21 (if (itm 0 adS_0 ty vl 0 ρ).1 = true then 0 else 1) ρ21 _ _ (Nat.lt_succ_self _) (by exact ⟨⟨w01 _, hik21.1⟩, rfl, by omega, fun q => hik21.2 ((w0 _).mp q)⟩) (by exact fun q => by rw [hh21 ((w0 _).mp q)]; exact hir21) (by exact fun q => by rw [hh21 ((w0 _).mp q), rdM_aft, aft_t ((w0 _).mp q)]) (by exact fun q => by rw [rdM_aft]; exact aft_f ((w1 _).mp q)) (rfl) (rfl)
