/-! ===== the model's row: the room of a state ρ (its cells 0 to 7) laid out ===== -/
def cidx (i : Nat) : Nat × Nat := if i = 0 then (0, 10) else if i = 1 then (0, 7) else if i = 2 then (0, 8) else if i = 3 then (0, 9) else if i = 4 then (0, 11) else if i < 17 then (1, i - 5) else if i < 41 then (3 + (i - 17) % 3, (i - 17) / 3) else if i < 137 then (6, i - 41) else (7, i - 137)
def mkS (ρ : Sg) : Nat → Int := fun i => ρ (cidx i).1 (cidx i).2
theorem cidx_D {j : Nat} (h : j < 12) : cidx (5 + j) = (1, j) := by
  unfold cidx
  rw [if_neg (by omega), if_neg (by omega), if_neg (by omega), if_neg (by omega), if_neg (by omega), if_pos (by omega), Nat.add_sub_cancel_left]
theorem cidx_T {i c t : Nat} (h : t < 8) (hc : c < 3) (hi : i = 17 + 3 * t + c) : cidx i = (3 + c, t) := by
  unfold cidx
  rw [if_neg (by omega), if_neg (by omega), if_neg (by omega), if_neg (by omega), if_neg (by omega), if_neg (by omega), if_pos (by omega), show (i - 17) % 3 = c by omega, show (i - 17) / 3 = t by omega]
theorem cidx_K {t : Nat} (h : t < 8) : cidx (17 + 3 * t) = (3, t) := cidx_T (c := 0) h (by omega) rfl
theorem cidx_A {t : Nat} (h : t < 8) : cidx (18 + 3 * t) = (4, t) := cidx_T (c := 1) h (by omega) (by omega)
theorem cidx_G {t : Nat} (h : t < 8) : cidx (19 + 3 * t) = (5, t) := cidx_T (c := 2) h (by omega) (by omega)
theorem cidx_M {j : Nat} (h : j < 96) : cidx (41 + j) = (6, j) := by
  unfold cidx
  rw [if_neg (by omega), if_neg (by omega), if_neg (by omega), if_neg (by omega), if_neg (by omega), if_neg (by omega), if_neg (by omega), if_pos (by omega), Nat.add_sub_cancel_left]
theorem cidx_P (j : Nat) : cidx (137 + j) = (7, j) := by
  unfold cidx
  rw [if_neg (by omega), if_neg (by omega), if_neg (by omega), if_neg (by omega), if_neg (by omega), if_neg (by omega), if_neg (by omega), if_neg (by omega), Nat.add_sub_cancel_left]
theorem cidx_lt (i : Nat) : (cidx i).1 < 8 := by
  unfold cidx
  repeat' split
  all_goals (first | omega | (show _ < 8; omega))
theorem cidx_inj {i j : Nat} (h : cidx i = cidx j) : i = j := by
  have h1 : (cidx i).1 = (cidx j).1 := by rw [h]
  have h2 : (cidx i).2 = (cidx j).2 := by rw [h]
  have key : ∀ i : Nat, (i < 5 ∧ (cidx i).1 = 0 ∧ ((i = 0 ∧ (cidx i).2 = 10) ∨ (1 ≤ i ∧ i ≤ 3 ∧ (cidx i).2 = i + 6) ∨ (i = 4 ∧ (cidx i).2 = 11))) ∨ (5 ≤ i ∧ i < 17 ∧ (cidx i).1 = 1 ∧ (cidx i).2 = i - 5) ∨ (17 ≤ i ∧ i < 41 ∧ (cidx i).1 = 3 + (i - 17) % 3 ∧ (cidx i).2 = (i - 17) / 3) ∨ (41 ≤ i ∧ i < 137 ∧ (cidx i).1 = 6 ∧ (cidx i).2 = i - 41) ∨ (137 ≤ i ∧ (cidx i).1 = 7 ∧ (cidx i).2 = i - 137) := by
    intro i
    by_cases q0 : i < 5
    · rcases (show i = 0 ∨ i = 1 ∨ i = 2 ∨ i = 3 ∨ i = 4 by omega) with rfl | rfl | rfl | rfl | rfl <;> decide
    · by_cases q1 : i < 17
      · have e := cidx_D (j := i - 5) (by omega)
        rw [show 5 + (i - 5) = i by omega] at e
        rw [e]
        dsimp only
        omega
      · by_cases q2 : i < 41
        · have e := cidx_T (i := i) (c := (i - 17) % 3) (t := (i - 17) / 3) (by omega) (by omega) (by omega)
          rw [e]
          dsimp only
          omega
        · by_cases q3 : i < 137
          · have e := cidx_M (j := i - 41) (by omega)
            rw [show 41 + (i - 41) = i by omega] at e
            rw [e]
            dsimp only
            omega
          · have e := cidx_P (i - 137)
            rw [show 137 + (i - 137) = i by omega] at e
            rw [e]
            dsimp only
            omega
  have a := key i
  have b := key j
  omega
theorem mkS_at {ρ : Sg} {i k j : Nat} (h : cidx i = (k, j)) : mkS ρ i = ρ k j := by
  unfold mkS
  rw [h]
theorem mkS_up {ρ : Sg} {i k j : Nat} {v : Int} (h : cidx i = (k, j)) : up (mkS ρ) i v = mkS (wr ρ k j v) := by
  funext q
  unfold up
  by_cases hq : q = i
  · subst hq
    rw [if_pos rfl, mkS_at h, wr_s2]
  · rw [if_neg hq]
    show ρ (cidx q).1 (cidx q).2 = wr ρ k j v (cidx q).1 (cidx q).2
    by_cases h1 : (cidx q).1 = k
    · by_cases h2 : (cidx q).2 = j
      · exact absurd (cidx_inj (show cidx q = cidx i by rw [h, ← h1, ← h2])) hq
      · rw [h1, wr_s, up_n _ _ h2]
    · rw [wr_n _ _ _ h1]
theorem mkS_cong {ρ τ : Sg} (h : ∀ k, k < 8 → ρ k = τ k) : mkS ρ = mkS τ := by
  funext i
  unfold mkS
  rw [h _ (cidx_lt i)]
theorem wrS {σ ρ : Sg} {i k j : Nat} {v : Int} (hS : σ 42 = mkS ρ) (h : cidx i = (k, j)) : wr σ 42 i v = us σ 42 (mkS (wr ρ k j v)) := by
  unfold wr
  rw [hS, mkS_up h]
  rfl
theorem wrS2 {σ ρ : Sg} {i k j : Nat} {v : Int} (h : cidx i = (k, j)) : wr (us σ 42 (mkS ρ)) 42 i v = us σ 42 (mkS (wr ρ k j v)) := by
  rw [wr_us, mkS_up h]
/-- ends of the model's methods: an answer, the row, and the rest but for what is scratch -/
def pM (x : Int) (ρ : Sg) (σ2 : Sg) : Option Value → Sg → Prop := fun v s => v = some (.int (iI x)) ∧ s 42 = mkS ρ ∧ ∀ k, (k ≠ 42 ∧ k ≠ 44 ∧ k ≠ 45 ∧ k ≠ 47 ∧ k ≠ 48 ∧ k ≠ 53) → s k = σ2 k
def pDv (ρ : Sg) (σ2 : Sg) : Option Value → Sg → Prop := fun v s => v = none ∧ s 42 = mkS ρ ∧ ∀ k, k ≠ 42 → k ≠ 47 → s k = σ2 k
def finM (w : Nat) (σ : Sg) : Sg := wr σ 46 w (σ 46 w + 1)
section MROWS
variable {g : Gt} {E : Ev} {post : Option Value → Sg → Prop} {cc : ByteArray} {nL pc d : Nat} {own : String} {ret : Option FieldType} {lv : List (Nat × Value)} {st st0 : List Value} {σ σ2 ρ : Sg} {y : MethodName} {cy : ByteArray} {n nA dy i : Nat} {ry : Option FieldType} {As : List Value} {x v : Int}
theorem r_retM (C : Cx g E cc nL own (some .int) d) (hv : v = x) (hm : σ 42 = mkS ρ) (hs : ∀ k, (k ≠ 42 ∧ k ≠ 44 ∧ k ≠ 45 ∧ k ≠ 47 ∧ k ≠ 48 ∧ k ≠ 53) → σ k = σ2 k) (hd : decode cc pc = .ok (.ireturn, 1)) : J g E (pM x ρ σ2) nL pc lv [.int (iI v)] σ := r_iret C ⟨by rw [hv], hm, hs⟩ hd
theorem r_retMz (C : Cx g E cc nL own (some .boolean) d) (hz : v = 0 ∨ v = 1) (hv : v = x) (hm : σ 42 = mkS ρ) (hs : ∀ k, (k ≠ 42 ∧ k ≠ 44 ∧ k ≠ 45 ∧ k ≠ 47 ∧ k ≠ 48 ∧ k ≠ 53) → σ k = σ2 k) (hd : decode cc pc = .ok (.ireturn, 1)) : J g E (pM x ρ σ2) nL pc lv [.int (iI v)] σ := r_zret hz C ⟨by rw [hv], hm, hs⟩ hd
theorem r_retD (C : Cx g E cc nL own none d) (hm : σ 42 = mkS ρ) (hs : ∀ k, k ≠ 42 → k ≠ 47 → σ k = σ2 k) (hd : decode cc pc = .ok (.return_, 1)) : J g E (pDv ρ σ2) nL pc lv [] σ := r_vret C ⟨rfl, hm, hs⟩ hd
theorem r_cVm (C : Cx g E cc nL own ret d) {k ci : Nat} {q : vw_C} (hM : Mt g y cy n ry dy (.ref (gA g k) :: As) σ (pM x ρ σ2)) (hY : Yi y cy n ry nA q.1) (ho : isO k ci) (hq : cls[ci]? = some q) (hnA : As.length = nA) (w1 : Cond.methodLink own i y ∈ tbl) (hR2 : dy + 1 ≤ d ∧ 19 + n + 37 * dy ≤ 37 * d) (hrest : (st.map fun v => v.category).sum ≤ 8) (hst : st0 = As.reverse ++ .ref (gA g k) :: st) (hd : decode cc pc = .ok (.invokevirtual i, 3)) (kk : ∀ s : Sg, s 42 = mkS ρ → (∀ k, (k ≠ 42 ∧ k ≠ 44 ∧ k ≠ 45 ∧ k ≠ 47 ∧ k ≠ 48 ∧ k ≠ 53) → s k = σ2 k) → J g E post nL (pc + 3) lv (.int (iI x) :: st) s) : J g E post nL pc lv st0 σ := r_callV C hM hY ho hq hnA w1 hR2 hrest hst hd (fun v s h => by obtain ⟨rfl, h1, h2⟩ := h; exact kk s h1 h2)
theorem r_cVd (C : Cx g E cc nL own ret d) {k ci : Nat} {q : vw_C} (hM : Mt g y cy n ry dy (.ref (gA g k) :: As) σ (pDv ρ σ2)) (hY : Yi y cy n ry nA q.1) (ho : isO k ci) (hq : cls[ci]? = some q) (hnA : As.length = nA) (w1 : Cond.methodLink own i y ∈ tbl) (hR2 : dy + 1 ≤ d ∧ 19 + n + 37 * dy ≤ 37 * d) (hrest : (st.map fun v => v.category).sum ≤ 8) (hst : st0 = As.reverse ++ .ref (gA g k) :: st) (hd : decode cc pc = .ok (.invokevirtual i, 3)) (kk : ∀ s : Sg, s 42 = mkS ρ → (∀ k, k ≠ 42 → k ≠ 47 → s k = σ2 k) → J g E post nL (pc + 3) lv st s) : J g E post nL pc lv st0 σ := r_callV C hM hY ho hq hnA w1 hR2 hrest hst hd (fun v s h => by obtain ⟨rfl, h1, h2⟩ := h; exact kk s h1 h2)
end MROWS
theorem bor_0 {a : Int} (h : rng a) : bor a 0 = a := by
  unfold bor
  rw [show iI 0 = (0 : Int32) from iI_0.symm, Int32.or_zero, iI_toInt h]
