/-! ===== what of σ the cells show ===== -/
def seen (k j : Nat) : Prop := match oc k with
  | some ci => j < nf ci ∧ rf k j = none
  | none => j < al k
theorem cw_cong {g : Gt} {σ σ' : Sg} {H : Heap} {D : va_G} (h : ∀ k, k < 54 → ∀ j, seen k j → σ k j = σ' k j) (hP : va_P D cls (cw g σ) H) : va_P D cls (cw g σ') H := by
  intro k q hk
  obtain ⟨h1, rfl⟩ := cw_inv hk
  have h2 := hP k _ (cw_at h1)
  have hs := h k h1
  unfold ce at h2 ⊢
  unfold seen at hs
  cases ho : oc k with
  | some ci =>
    rw [ho] at h2 hs
    have e : fl g σ k (nf ci) = fl g σ' k (nf ci) := by
      unfold fl
      refine List.map_congr_left (fun j hj => ?_)
      have hj2 := List.mem_range.mp hj
      unfold fv
      cases hr : rf k j with
      | some k' => rfl
      | none =>
        have e2 : σ k j = σ' k j := hs j ⟨hj2, hr⟩
        rw [e2]
    have h3 : va_at D cls (gA g k, .inr (ci, fl g σ k (nf ci))) H := h2
    rw [e] at h3
    exact h3
  | none =>
    rw [ho] at h2 hs
    by_cases h30 : k = 30
    · rw [if_pos h30] at h2 ⊢
      exact h2
    · rw [if_neg h30] at h2 ⊢
      have h3 : H[gA g k]? = some (arrV (gI g) (al k) (fun j => .int (iI (σ k j)))) := h2
      have e : arrV (gI g) (al k) (fun j => Value.int (iI (σ k j))) = arrV (gI g) (al k) (fun j => Value.int (iI (σ' k j))) := by
        unfold arrV
        congr 2
        funext j
        have e2 : σ k j.val = σ' k j.val := hs j.val j.isLt
        show Value.int (iI (σ k j.val)) = Value.int (iI (σ' k j.val))
        rw [e2]
      rw [e] at h3
      exact h3
theorem r_cong {g : Gt} {E : Ev} {post : Option Value → Sg → Prop} {nL pc : Nat} {lv : List (Nat × Value)} {st : List Value} {σ : Sg} (σ' : Sg) (h : ∀ k, k < 54 → ∀ j, seen k j → σ k j = σ' k j) (k : J g E post nL pc lv st σ') : J g E post nL pc lv st σ := by
  obtain ⟨p, e, R, s, m, args, below, meth, c⟩ := E
  exact fun ls H locs hl hP hS => k ls H locs hl (cw_cong h hP) hS
theorem seen_room {b j : Nat} (hb : b = 0 ∨ b = 8 ∨ b = 16) (h : seen b j) : 7 ≤ j ∧ j < 12 := by
  rcases hb with rfl | rfl | rfl <;>
  · have h1 : j < 12 ∧ rf _ j = none := h
    refine ⟨?_, h1.1⟩
    have h2 := h1.2
    unfold rf at h2
    by_cases h3 : j < 7
    · simp [h3] at h2
    · omega
theorem cpy_lt (f h : Nat → Int) {n j : Nat} (hj : j < n) : cpy f h 0 0 n j = f j := by
  unfold cpy
  rw [if_pos ⟨Nat.zero_le _, by omega⟩]
  congr 1
  omega
theorem us_s2 (σ : Sg) (k i : Nat) (f : Nat → Int) : us σ k f k i = f i := by rw [us_s]
theorem us_idx {τ : Sg} {k : Nat} {f : Nat → Int} (h : f = τ k) : us τ k f = τ := by rw [h, us_id]
theorem us_4 (τ : Sg) (k l : Nat) (h : k ≠ l) (a b c d : Nat → Int) : us (us (us (us τ k a) l b) k c) l d = us (us τ k c) l d := by
  funext q
  unfold us
  by_cases h1 : q = l
  · simp [h1]
  · by_cases h2 : q = k
    · simp [h2, h]
    · simp [h1, h2]
/-- a room's numbers are as they may be -/
def RW (σ : Sg) (b : Nat) : Prop := (0 ≤ σ b 7 ∧ σ b 7 ≤ 8) ∧ (0 ≤ σ b 8 ∧ σ b 8 ≤ 99) ∧ (-3 ≤ σ b 9 ∧ σ b 9 ≤ 3) ∧ (0 ≤ σ b 10 ∧ σ b 10 ≤ 99999) ∧ rng (σ b 11) ∧ rgD (σ (b + 1)) ∧ rgK (σ (b + 3)) ∧ rgA (σ (b + 4)) ∧ rgG (σ (b + 5)) ∧ rgM (σ (b + 6)) ∧ ∀ j, j < 10 → -1 ≤ σ (b + 7) j ∧ σ (b + 7) j < σ b 7
theorem bx12 {a : Int} (h : -20 ≤ a ∧ a ≤ 40) : bxor a 12 < 0 ↔ a < 0 := by
  have h1 : ∀ k : Nat, k < 61 → (bxor ((k : Int) - 20) 12 < 0 ↔ (k : Int) - 20 < 0) := by decide +kernel
  have h2 := h1 (a + 20).toNat (by omega)
  rw [show (((a + 20).toNat : Nat) : Int) - 20 = a by omega] at h2
  exact h2
theorem tm12 (a : Int) : (0 ≤ a → a.tmod 12 = a % 12) ∧ (a < 0 → a.tmod 12 = -((-a) % 12)) := by
  refine ⟨fun h => Int.tmod_eq_emod_of_nonneg h, fun h => ?_⟩
  have h1 := Int.neg_tmod (-a) 12
  rw [Int.neg_neg] at h1
  rw [h1, Int.tmod_eq_emod_of_nonneg (by omega)]
theorem mt_ofF {g : Gt} {y : MethodName} {cc : ByteArray} {n : Nat} {ret : Option FieldType} {d : Nat} {av : List Value} {σ : Sg} {post : Option Value → Sg → Prop} {own : String} (hy : plainFor y = true) (ho : y.cls = own) (hn : (lg_sl av).length ≤ n)
    (h : ∀ E : Ev, Cx g E cc n own ret d → J g E post n 0 (lv_args 0 av) [] σ) : Mt g y cc n ret d av σ post := by
  subst ho
  refine va_MetF (cc := cc) (maxL := n) (ret := ret) hy rfl ?_
  intro p e s m args below meth c s₁ B hml hv
  obtain ⟨rfl, hP, hF, hD⟩ := hv
  have hts := atoms_spec (ws := wsOf y cc n ret) B.pre
  have hl := lv_entry av (n := n) hn
  rw [lg_entry_eq]
  exact h (p, e, (headSpec (wsOf y cc n ret) (rmD d)).room, s, m, av.toArray, below, meth, c) ⟨B.exec, B.bytes, hml, findClass_of_methodNamed B.named, fun w hw => hts w (List.mem_cons_of_mem _ hw), B.returns, B.notSynchronized, rfl, hF, hD⟩ _ _ _ hl hP va_S.rf
