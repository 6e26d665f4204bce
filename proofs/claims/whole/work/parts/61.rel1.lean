/-! ===== the class's cells and the model's, side by side ===== -/
theorem cidx_1 (i : Nat) : (cidx i).1 < 8 ∧ (cidx i).1 ≠ 2 := by
  unfold cidx
  repeat' split
  all_goals (constructor <;> (dsimp only; omega))
theorem mkS_cg {ρ τ : Sg} (h : ∀ k, k < 8 → k ≠ 2 → ρ k = τ k) : mkS ρ = mkS τ := by
  funext i
  have := cidx_1 i
  show ρ (cidx i).1 (cidx i).2 = τ (cidx i).1 (cidx i).2
  rw [h _ this.1 this.2]
def Kp (σ : Sg) : Sg := fun k => σ (16 + k)
def Sh (σ : Sg) (s : Nat) : Prop := (σ (31 + 2 * s) 1 = σ 50 s ∧ σ (31 + 2 * s) 2 = σ 51 s) ∧ ((σ (31 + 2 * s) 1 = 0 ∨ σ (31 + 2 * s) 1 = 8 ∨ σ (31 + 2 * s) 1 = 16 ∨ σ (31 + 2 * s) 1 = 32) ∧ 0 ≤ σ (31 + 2 * s) 2 ∧ σ (31 + 2 * s) 2 ≤ 40) ∧ ∀ j, j < 40 → rng (σ (32 + 2 * s) j) ∧ σ (32 + 2 * s) j = σ 52 (40 * s + j)
def Rst (σ : Sg) : Prop := (σ 41 5 = 1 → σ 43 = mkS (Kp σ) ∧ RW σ 16) ∧ (σ 40 3 = σ 41 5 ∧ (σ 41 5 = 0 ∨ σ 41 5 = 1)) ∧ (σ 24 1 = σ 41 10 ∧ 0 ≤ σ 24 1 ∧ σ 24 1 ≤ 120) ∧ (σ 25 = σ 49 ∧ ∀ j, j < 120 → 0 ≤ σ 25 j ∧ σ 25 j ≤ 255) ∧ σ 39 = σ 46 ∧ σ 41 6 = 255 ∧ ∀ s, s < 4 → Sh σ s
def Rel (σ : Sg) : Prop := σ 42 = mkS σ ∧ RW σ 0 ∧ Rst σ
theorem RW_at {σ τ : Sg} {b : Nat} (h : ∀ k, k < 8 → τ (b + k) = σ (b + k)) (hW : RW σ b) : RW τ b := by
  unfold RW at hW ⊢
  rw [show τ b = σ b from h 0 (by omega), h 1 (by omega), h 3 (by omega), h 4 (by omega), h 5 (by omega), h 6 (by omega), h 7 (by omega)]
  exact hW
def nCell (k : Nat) : Prop := k ≠ 42 ∧ k ≠ 44 ∧ k ≠ 45 ∧ k ≠ 47 ∧ k ≠ 48 ∧ k ≠ 53
theorem Rst_cong {σ τ : Sg} (h : ∀ k, 16 ≤ k → nCell k → τ k = σ k) (hR : Rst σ) : Rst τ := by
  obtain ⟨a, b, c, d, e, f, i⟩ := hR
  have h' : ∀ k, (16 ≤ k ∧ k ≠ 42 ∧ k ≠ 44 ∧ k ≠ 45 ∧ k ≠ 47 ∧ k ≠ 48 ∧ k ≠ 53) → τ k = σ k := fun k q => h k q.1 q.2
  have hK : mkS (Kp τ) = mkS (Kp σ) := mkS_cg (fun k hk _ => h' (16 + k) (by omega))
  unfold Rst
  rw [h' 41 (by omega), h' 43 (by omega), h' 40 (by omega), h' 24 (by omega), h' 25 (by omega), h' 49 (by omega), h' 39 (by omega), h' 46 (by omega), hK]
  refine ⟨fun q => ⟨(a q).1, RW_at (fun k hk => h' (16 + k) (by omega)) (a q).2⟩, b, c, d, e, f, fun s hs => ?_⟩
  have g := i s hs
  unfold Sh at g ⊢
  rw [h' (31 + 2 * s) (by omega), h' (32 + 2 * s) (by omega), h' 50 (by omega), h' 51 (by omega), h' 52 (by omega)]
  exact g
theorem fin_n (w : Nat) (σ : Sg) {k : Nat} (h : k ≠ 39) : fin w σ k = σ k := wr_n _ _ _ h
theorem finM_n (w : Nat) (σ : Sg) {k : Nat} (h : k ≠ 46) : finM w σ k = σ k := wr_n _ _ _ h
theorem Rst_fin {σ : Sg} (w : Nat) (hR : Rst σ) : Rst (finM w (fin w σ)) := by
  obtain ⟨a, b, c, d, e, f, i⟩ := hR
  have h' : ∀ k, k ≠ 39 → k ≠ 46 → finM w (fin w σ) k = σ k := fun k h1 h2 => (finM_n w _ h2).trans (fin_n w σ h1)
  have hK : mkS (Kp (finM w (fin w σ))) = mkS (Kp σ) := mkS_cg (fun k hk _ => h' (16 + k) (by omega) (by omega))
  unfold Rst
  rw [h' 41 (by decide) (by decide), h' 43 (by decide) (by decide), h' 40 (by decide) (by decide), h' 24 (by decide) (by decide), h' 25 (by decide) (by decide), h' 49 (by decide) (by decide), hK]
  refine ⟨fun q => ⟨(a q).1, RW_at (fun k hk => h' (16 + k) (by omega) (by omega)) (a q).2⟩, b, c, d, ?_, f, fun s hs => ?_⟩
  · show up (σ 39) w (σ 39 w + 1) = up (σ 46) w (σ 46 w + 1)
    rw [e]
  · have g := i s hs
    unfold Sh at g ⊢
    rw [h' (31 + 2 * s) (by omega) (by omega), h' (32 + 2 * s) (by omega) (by omega), h' 50 (by decide) (by decide), h' 51 (by decide) (by decide), h' 52 (by decide) (by decide)]
    exact g
/-- one call of the law: class, then model; the same answer, and the cells side by side again -/
def LStp (g : Gt) (y4 : MethodName) (c4 : ByteArray) (n4 d4 : Nat) (y5 : MethodName) (c5 : ByteArray) (n5 d5 : Nat) (av : List Value) (σ : Sg) : Prop := ∃ (x : Int) (P : Option Value → Sg → Prop), Mt g y4 c4 n4 (some FieldType.int) d4 (.ref (gA g 40) :: av) σ P ∧ ∀ v s, P v s → v = some (.int (iI x)) ∧ ∃ Q : Option Value → Sg → Prop, Mt g y5 c5 n5 (some FieldType.int) d5 (.ref (gA g 41) :: av) s Q ∧ ∀ v2 t, Q v2 t → v2 = some (.int (iI x)) ∧ Rel t
section STP
variable {g : Gt} {y4 : MethodName} {c4 : ByteArray} {n4 d4 : Nat} {y5 : MethodName} {c5 : ByteArray} {n5 d5 : Nat} {av : List Value} {x : Int} {σ σ1 ρ1 τ : Sg} {F : Sg → Sg}
theorem stp_X (h1 : ∀ k, 40 < k → σ1 k = σ k) (hF : ∀ s : Sg, (∀ k, (k < 8 ∨ 16 ≤ k) → s k = σ1 k) → ∀ k, (k < 8 ∨ 16 ≤ k) → F s k = τ k) (hr : ∀ k, k < 8 → k ≠ 2 → ρ1 k = τ k) (hW : RW τ 0) (hR : Rst τ)
    (hd : Mt g y4 c4 n4 (some FieldType.int) d4 (.ref (gA g 40) :: av) σ (pT x σ1)) (he : ∀ s : Sg, (∀ k, 40 < k → s k = σ k) → Mt g y5 c5 n5 (some FieldType.int) d5 (.ref (gA g 41) :: av) s (pM x ρ1 (F s))) : LStp g y4 c4 n4 d4 y5 c5 n5 d5 av σ := by
  refine ⟨x, _, hd, fun v s hp => ⟨hp.1, _, he s (fun k hk => (hp.2 k (Or.inr (by omega))).trans (h1 k hk)), fun v2 t hq => ⟨hq.1, ?_⟩⟩⟩
  have ht : ∀ k, (k < 8 ∨ 16 ≤ k) → nCell k → t k = τ k := fun k a b => (hq.2.2 k b).trans (hF s hp.2 k a)
  have h8 : ∀ k, k < 8 → t k = τ k := fun k a => ht k (Or.inl a) (by unfold nCell; omega)
  refine ⟨hq.2.1.trans (mkS_cg (fun k a b => (hr k a b).trans (h8 k a).symm)), RW_at (fun k a => by rw [Nat.zero_add]; exact h8 k a) hW, Rst_cong (fun k a b => ht k (Or.inr a) b) hR⟩
theorem stp_A (h : Rel σ) (hd : Mt g y4 c4 n4 (some FieldType.int) d4 (.ref (gA g 40) :: av) σ (pT x σ)) (he : ∀ s : Sg, (∀ k, 40 < k → s k = σ k) → Mt g y5 c5 n5 (some FieldType.int) d5 (.ref (gA g 41) :: av) s (pM x σ s)) : LStp g y4 c4 n4 d4 y5 c5 n5 d5 av σ :=
  stp_X (F := fun s => s) (fun _ _ => rfl) (fun _ hs k hk => hs k hk) (fun _ _ _ => rfl) h.2.1 h.2.2 hd he
theorem stp_C (h : Rel σ) (h1 : ∀ k, 16 ≤ k → σ1 k = σ k) (hr : ∀ k, k < 8 → k ≠ 2 → ρ1 k = σ1 k) (hW : RW σ1 0) (hd : Mt g y4 c4 n4 (some FieldType.int) d4 (.ref (gA g 40) :: av) σ (pT x σ1)) (he : ∀ s : Sg, (∀ k, 40 < k → s k = σ k) → Mt g y5 c5 n5 (some FieldType.int) d5 (.ref (gA g 41) :: av) s (pM x ρ1 s)) : LStp g y4 c4 n4 d4 y5 c5 n5 d5 av σ :=
  stp_X (F := fun s => s) (fun k hk => h1 k (by omega)) (fun _ hs k hk => hs k hk) hr hW (Rst_cong (fun k a _ => h1 k a) h.2.2) hd he
theorem stp_B (w : Nat) (h : Rel σ) (hd : Mt g y4 c4 n4 (some FieldType.int) d4 (.ref (gA g 40) :: av) σ (pT x (fin w σ))) (he : ∀ s : Sg, (∀ k, 40 < k → s k = σ k) → Mt g y5 c5 n5 (some FieldType.int) d5 (.ref (gA g 41) :: av) s (pM x σ (finM w s))) : LStp g y4 c4 n4 d4 y5 c5 n5 d5 av σ := by
  refine stp_X (σ1 := fin w σ) (τ := finM w (fin w σ)) (F := finM w) (fun k hk => fin_n w σ (by omega)) (fun s hs k hk => ?_) (fun k a b => ?_) ?_ (Rst_fin w h.2.2) hd he
  · by_cases e : k = 46
    · subst e
      show up (s 46) w (s 46 w + 1) = up (fin w σ 46) w (fin w σ 46 w + 1)
      rw [hs 46 hk]
    · rw [finM_n w _ e, finM_n w _ e]
      exact hs k hk
  · rw [finM_n w _ (by omega), fin_n w _ (by omega)]
  · exact RW_at (fun k a => by rw [Nat.zero_add, finM_n w _ (by omega), fin_n w _ (by omega)]) h.2.1
end STP
theorem Rel.S {σ s : Sg} (h : Rel σ) (hm : ∀ k, 40 < k → s k = σ k) : s 42 = mkS σ := (hm 42 (by decide)).trans h.1
theorem Rel.s6 {σ s : Sg} (h : Rel σ) (hm : ∀ k, 40 < k → s k = σ k) : s 41 6 = 255 := (congrFun (hm 41 (by decide)) 6).trans h.2.2.2.2.2.2.2.1
theorem Rel.sb {σ s : Sg} (h : Rel σ) (hm : ∀ k, 40 < k → s k = σ k) : ∀ q, q < 4 → (s 50 q = 0 ∨ s 50 q = 8 ∨ s 50 q = 16 ∨ s 50 q = 32) ∧ 0 ≤ s 51 q ∧ s 51 q ≤ 40 := fun q hq => by
  have g := h.2.2.2.2.2.2.2.2 q hq
  rw [hm 50 (by decide), hm 51 (by decide), ← g.1.1, ← g.1.2]
  exact g.2.1
theorem Rel.sN {σ s : Sg} (h : Rel σ) (hm : ∀ k, 40 < k → s k = σ k) : ∀ j, j < 160 → rng (s 52 j) := fun j hj => by
  have g := (h.2.2.2.2.2.2.2.2 (j / 40) (by omega)).2.2 (j % 40) (by omega)
  rw [hm 52 (by decide), show j = 40 * (j / 40) + j % 40 by omega, ← g.2]
  exact g.1
theorem Rel.cb {σ : Sg} (h : Rel σ) : ∀ s, s < 4 → (σ (31 + 2 * s) 1 = 0 ∨ σ (31 + 2 * s) 1 = 8 ∨ σ (31 + 2 * s) 1 = 16 ∨ σ (31 + 2 * s) 1 = 32) ∧ 0 ≤ σ (31 + 2 * s) 2 ∧ σ (31 + 2 * s) 2 ≤ 40 := fun s hs => (h.2.2.2.2.2.2.2.2 s hs).2.1
theorem Rel.cN {σ : Sg} (h : Rel σ) : ∀ s, s < 4 → ∀ j, j < 40 → rng (σ (32 + 2 * s) j) := fun s hs j hj => ((h.2.2.2.2.2.2.2.2 s hs).2.2 j hj).1
