def pI (x : Int) (σ' : Sg) : Option Value → Sg → Prop := fun v s => v = some (.int (iI x)) ∧ s = σ'
def pL (x : Int) (σ' : Sg) : Option Value → Sg → Prop := fun v s => v = some (.long (iL x)) ∧ s = σ'
def pV (σ' : Sg) : Option Value → Sg → Prop := fun v s => v = none ∧ s = σ'
def b01 (P : Prop) [Decidable P] : Int := if P then 1 else 0
theorem b01_or (P : Prop) [Decidable P] : b01 P = 0 ∨ b01 P = 1 := by
  unfold b01
  split
  · exact Or.inr rfl
  · exact Or.inl rfl
theorem b01_rng (P : Prop) [Decidable P] : rng (b01 P) := by
  rcases b01_or P with h | h <;> rw [h] <;> exact ⟨by decide, by decide⟩
theorem b01_1 {P : Prop} [Decidable P] (h : P) : (1 : Int) = b01 P := (if_pos h).symm
theorem b01_0 {P : Prop} [Decidable P] (h : ¬ P) : (0 : Int) = b01 P := (if_neg h).symm
theorem b01_t {P : Prop} [Decidable P] (h : P) : b01 P = 1 := if_pos h
theorem b01_f {P : Prop} [Decidable P] (h : ¬ P) : b01 P = 0 := if_neg h
theorem wr_o2 (σ : Sg) {k k' : Nat} (j i : Nat) (x : Int) (h : k' ≠ k) : wr σ k j x k' i = σ k' i := by rw [wr_n σ j x h]
theorem us_o2 (σ : Sg) {k k' : Nat} (i : Nat) (f : Nat → Int) (h : k' ≠ k) : us σ k f k' i = σ k' i := by rw [us_n σ f h]
theorem wr_s2 (σ : Sg) (k j : Nat) (x : Int) : wr σ k j x k j = x := by rw [wr_s, up_s]
theorem up_id (f : Nat → Int) (k : Nat) : up f k (f k) = f := by
  funext j
  by_cases h : j = k
  · rw [h, up_s]
  · rw [up_n _ _ h]
theorem up_up (f : Nat → Int) (k : Nat) (x y : Int) : up (up f k x) k y = up f k y := by
  funext j
  by_cases h : j = k
  · rw [h, up_s, up_s]
  · rw [up_n _ _ h, up_n _ _ h, up_n _ _ h]
theorem wr_us (σ : Sg) (k j : Nat) (f : Nat → Int) (x : Int) : wr (us σ k f) k j x = us σ k (up f j x) := by
  unfold wr
  rw [us_s, us_us]
section FORMS
variable {g : Gt} {E : Ev} {post : Option Value → Sg → Prop} {cc : ByteArray} {nL pc d : Nat} {own : String} {ret : Option FieldType} {lv : List (Nat × Value)} {st st0 : List Value} {σ σ2 : Sg} {y : MethodName} {cy : ByteArray} {n nA dy i : Nat} {ry : Option FieldType} {As : List Value} {x off : Int}
theorem r_cVi (C : Cx g E cc nL own ret d) {k ci : Nat} {q : vw_C} (hM : Mt g y cy n ry dy (.ref (gA g k) :: As) σ (pI x σ2)) (hY : Yi y cy n ry nA q.1) (ho : isO k ci) (hq : cls[ci]? = some q) (hnA : As.length = nA) (w1 : Cond.methodLink own i y ∈ tbl) (hR2 : dy + 1 ≤ d ∧ 19 + n + 37 * dy ≤ 37 * d) (hrest : (st.map fun v => v.category).sum ≤ 8) (hst : st0 = As.reverse ++ .ref (gA g k) :: st) (hd : decode cc pc = .ok (.invokevirtual i, 3)) (kk : J g E post nL (pc + 3) lv (.int (iI x) :: st) σ2) : J g E post nL pc lv st0 σ := r_callV C hM hY ho hq hnA w1 hR2 hrest hst hd (fun v s h => by obtain ⟨rfl, rfl⟩ := h; exact kk)
theorem r_cSi (C : Cx g E cc nL own ret d) (hM : Mt g y cy n ry dy As σ (pI x σ2)) (hY : Ys y cy n ry nA) (hnA : As.length = nA) (w1 : Cond.methodLink own i y ∈ tbl) (hR2 : dy + 1 ≤ d ∧ 19 + n + 37 * dy ≤ 37 * d) (hrest : (st.map fun v => v.category).sum ≤ 8) (hst : st0 = As.reverse ++ st) (hd : decode cc pc = .ok (.invokestatic i, 3)) (kk : J g E post nL (pc + 3) lv (.int (iI x) :: st) σ2) : J g E post nL pc lv st0 σ := r_callS C hM hY hnA w1 hR2 hrest hst hd (fun v s h => by obtain ⟨rfl, rfl⟩ := h; exact kk)
theorem r_cNi (C : Cx g E cc nL own ret d) {host : String} (hM : Mt g y cy n ry dy As σ (pI x σ2)) (hY : Ys y cy n ry nA) (hnA : As.length = nA) (w1 : ∀ U, Fn U → va_Nw (.methodLinkNest own i y host) U) (hR2 : dy + 1 ≤ d ∧ 19 + n + 37 * dy ≤ 37 * d) (hrest : (st.map fun v => v.category).sum ≤ 8) (hst : st0 = As.reverse ++ st) (hd : decode cc pc = .ok (.invokestatic i, 3)) (kk : J g E post nL (pc + 3) lv (.int (iI x) :: st) σ2) : J g E post nL pc lv st0 σ := r_callSN C hM hY hnA w1 hR2 hrest hst hd (fun v s h => by obtain ⟨rfl, rfl⟩ := h; exact kk)
theorem r_cVl (C : Cx g E cc nL own ret d) {k ci : Nat} {q : vw_C} (hM : Mt g y cy n ry dy (.ref (gA g k) :: As) σ (pL x σ2)) (hY : Yi y cy n ry nA q.1) (ho : isO k ci) (hq : cls[ci]? = some q) (hnA : As.length = nA) (w1 : Cond.methodLink own i y ∈ tbl) (hR2 : dy + 1 ≤ d ∧ 19 + n + 37 * dy ≤ 37 * d) (hrest : (st.map fun v => v.category).sum ≤ 8) (hst : st0 = As.reverse ++ .ref (gA g k) :: st) (hd : decode cc pc = .ok (.invokevirtual i, 3)) (kk : J g E post nL (pc + 3) lv (.long (iL x) :: st) σ2) : J g E post nL pc lv st0 σ := r_callV C hM hY ho hq hnA w1 hR2 hrest hst hd (fun v s h => by obtain ⟨rfl, rfl⟩ := h; exact kk)
theorem r_cSl (C : Cx g E cc nL own ret d) (hM : Mt g y cy n ry dy As σ (pL x σ2)) (hY : Ys y cy n ry nA) (hnA : As.length = nA) (w1 : Cond.methodLink own i y ∈ tbl) (hR2 : dy + 1 ≤ d ∧ 19 + n + 37 * dy ≤ 37 * d) (hrest : (st.map fun v => v.category).sum ≤ 8) (hst : st0 = As.reverse ++ st) (hd : decode cc pc = .ok (.invokestatic i, 3)) (kk : J g E post nL (pc + 3) lv (.long (iL x) :: st) σ2) : J g E post nL pc lv st0 σ := r_callS C hM hY hnA w1 hR2 hrest hst hd (fun v s h => by obtain ⟨rfl, rfl⟩ := h; exact kk)
theorem r_cNl (C : Cx g E cc nL own ret d) {host : String} (hM : Mt g y cy n ry dy As σ (pL x σ2)) (hY : Ys y cy n ry nA) (hnA : As.length = nA) (w1 : ∀ U, Fn U → va_Nw (.methodLinkNest own i y host) U) (hR2 : dy + 1 ≤ d ∧ 19 + n + 37 * dy ≤ 37 * d) (hrest : (st.map fun v => v.category).sum ≤ 8) (hst : st0 = As.reverse ++ st) (hd : decode cc pc = .ok (.invokestatic i, 3)) (kk : J g E post nL (pc + 3) lv (.long (iL x) :: st) σ2) : J g E post nL pc lv st0 σ := r_callSN C hM hY hnA w1 hR2 hrest hst hd (fun v s h => by obtain ⟨rfl, rfl⟩ := h; exact kk)
theorem r_cVv (C : Cx g E cc nL own ret d) {k ci : Nat} {q : vw_C} (hM : Mt g y cy n ry dy (.ref (gA g k) :: As) σ (pV σ2)) (hY : Yi y cy n ry nA q.1) (ho : isO k ci) (hq : cls[ci]? = some q) (hnA : As.length = nA) (w1 : Cond.methodLink own i y ∈ tbl) (hR2 : dy + 1 ≤ d ∧ 19 + n + 37 * dy ≤ 37 * d) (hrest : (st.map fun v => v.category).sum ≤ 8) (hst : st0 = As.reverse ++ .ref (gA g k) :: st) (hd : decode cc pc = .ok (.invokevirtual i, 3)) (kk : J g E post nL (pc + 3) lv (st) σ2) : J g E post nL pc lv st0 σ := r_callV C hM hY ho hq hnA w1 hR2 hrest hst hd (fun v s h => by obtain ⟨rfl, rfl⟩ := h; exact kk)
theorem r_cSv (C : Cx g E cc nL own ret d) (hM : Mt g y cy n ry dy As σ (pV σ2)) (hY : Ys y cy n ry nA) (hnA : As.length = nA) (w1 : Cond.methodLink own i y ∈ tbl) (hR2 : dy + 1 ≤ d ∧ 19 + n + 37 * dy ≤ 37 * d) (hrest : (st.map fun v => v.category).sum ≤ 8) (hst : st0 = As.reverse ++ st) (hd : decode cc pc = .ok (.invokestatic i, 3)) (kk : J g E post nL (pc + 3) lv (st) σ2) : J g E post nL pc lv st0 σ := r_callS C hM hY hnA w1 hR2 hrest hst hd (fun v s h => by obtain ⟨rfl, rfl⟩ := h; exact kk)
theorem r_cNv (C : Cx g E cc nL own ret d) {host : String} (hM : Mt g y cy n ry dy As σ (pV σ2)) (hY : Ys y cy n ry nA) (hnA : As.length = nA) (w1 : ∀ U, Fn U → va_Nw (.methodLinkNest own i y host) U) (hR2 : dy + 1 ≤ d ∧ 19 + n + 37 * dy ≤ 37 * d) (hrest : (st.map fun v => v.category).sum ≤ 8) (hst : st0 = As.reverse ++ st) (hd : decode cc pc = .ok (.invokestatic i, 3)) (kk : J g E post nL (pc + 3) lv (st) σ2) : J g E post nL pc lv st0 σ := r_callSN C hM hY hnA w1 hR2 hrest hst hd (fun v s h => by obtain ⟨rfl, rfl⟩ := h; exact kk)
theorem r_reti {v : Int} (C : Cx g E cc nL own (some .int) d) (hv : v = x) (hs : σ = σ2) (hd : decode cc pc = .ok (.ireturn, 1)) : J g E (pI x σ2) nL pc lv [.int (iI v)] σ := r_iret C ⟨by rw [hv], hs⟩ hd
theorem r_retz {v : Int} (C : Cx g E cc nL own (some .boolean) d) (hz : v = 0 ∨ v = 1) (hv : v = x) (hs : σ = σ2) (hd : decode cc pc = .ok (.ireturn, 1)) : J g E (pI x σ2) nL pc lv [.int (iI v)] σ := r_zret hz C ⟨by rw [hv], hs⟩ hd
theorem r_retl {v : Int} (C : Cx g E cc nL own (some .long) d) (hv : v = x) (hs : σ = σ2) (hd : decode cc pc = .ok (.lreturn, 1)) : J g E (pL x σ2) nL pc lv [.long (iL v)] σ := r_lret C ⟨by rw [hv], hs⟩ hd
theorem r_retv (C : Cx g E cc nL own none d) (hs : σ = σ2) (hd : decode cc pc = .ok (.return_, 1)) : J g E (pV σ2) nL pc lv [] σ := r_vret C ⟨rfl, hs⟩ hd
theorem r_ifz_eq (C : Cx g E cc nL own ret d) {P : Prop} [Decidable P] (tgt : Nat) (hd : decode cc pc = .ok (.ifCond .eq off, 3)) (ht : (pc : Int) + off = (tgt : Int)) (kt : ¬ P → J g E post nL tgt lv st σ) (kf : P → J g E post nL (pc + 3) lv st σ) : J g E post nL pc lv (.int (iI (b01 P)) :: st) σ := by
  refine r_if_eq C tgt (b01_rng P) hd ht (fun h => kt (fun q => ?_)) (fun h => ?_)
  · rw [b01_t q] at h
    cases h
  · by_cases q : P
    · exact kf q
    · exact absurd (b01_f q) h
theorem r_ifz_ne (C : Cx g E cc nL own ret d) {P : Prop} [Decidable P] (tgt : Nat) (hd : decode cc pc = .ok (.ifCond .ne off, 3)) (ht : (pc : Int) + off = (tgt : Int)) (kt : P → J g E post nL tgt lv st σ) (kf : ¬ P → J g E post nL (pc + 3) lv st σ) : J g E post nL pc lv (.int (iI (b01 P)) :: st) σ := by
  refine r_if_ne C tgt (b01_rng P) hd ht (fun h => ?_) (fun h => kf (fun q => ?_))
  · by_cases q : P
    · exact kt q
    · exact absurd (b01_f q) h
  · rw [b01_t q] at h
    cases h
/-- a compare of longs and the branch behind it -/
theorem r_lcb_lt (C : Cx g E cc nL own ret d) {a b : Int} (tgt : Nat) (ha : rngL a) (hb : rngL b) (hd1 : decode cc pc = .ok (.lcmp, 1)) (hd : decode cc (pc + 1) = .ok (.ifCond .lt off, 3)) (ht : ((pc + 1 : Nat) : Int) + off = (tgt : Int)) (kt : a < b → J g E post nL tgt lv st σ) (kf : ¬ a < b → J g E post nL (pc + 1 + 3) lv st σ) : J g E post nL pc lv (.long (iL b) :: .long (iL a) :: st) σ :=
  r_lcmp C ha hb hd1 (r_if_lt C tgt (lc_rng a b) hd ht (fun h => kt (lc_lt.mp h)) (fun h => kf (fun q => h (lc_lt.mpr q))))
theorem r_lcb_gt (C : Cx g E cc nL own ret d) {a b : Int} (tgt : Nat) (ha : rngL a) (hb : rngL b) (hd1 : decode cc pc = .ok (.lcmp, 1)) (hd : decode cc (pc + 1) = .ok (.ifCond .gt off, 3)) (ht : ((pc + 1 : Nat) : Int) + off = (tgt : Int)) (kt : b < a → J g E post nL tgt lv st σ) (kf : ¬ b < a → J g E post nL (pc + 1 + 3) lv st σ) : J g E post nL pc lv (.long (iL b) :: .long (iL a) :: st) σ :=
  r_lcmp C ha hb hd1 (r_if_gt C tgt (lc_rng a b) hd ht (fun h => kt (lc_gt.mp h)) (fun h => kf (fun q => h (lc_gt.mpr q))))
theorem r_lcb_le (C : Cx g E cc nL own ret d) {a b : Int} (tgt : Nat) (ha : rngL a) (hb : rngL b) (hd1 : decode cc pc = .ok (.lcmp, 1)) (hd : decode cc (pc + 1) = .ok (.ifCond .le off, 3)) (ht : ((pc + 1 : Nat) : Int) + off = (tgt : Int)) (kt : ¬ b < a → J g E post nL tgt lv st σ) (kf : b < a → J g E post nL (pc + 1 + 3) lv st σ) : J g E post nL pc lv (.long (iL b) :: .long (iL a) :: st) σ :=
  r_lcmp C ha hb hd1 (r_if_le C tgt (lc_rng a b) hd ht (fun h => kt (fun q => by have := lc_gt.mpr q; omega)) (fun h => kf (lc_gt.mp (by omega))))
theorem r_lcb_ne (C : Cx g E cc nL own ret d) {a b : Int} (tgt : Nat) (ha : rngL a) (hb : rngL b) (hd1 : decode cc pc = .ok (.lcmp, 1)) (hd : decode cc (pc + 1) = .ok (.ifCond .ne off, 3)) (ht : ((pc + 1 : Nat) : Int) + off = (tgt : Int)) (kt : ¬ a = b → J g E post nL tgt lv st σ) (kf : a = b → J g E post nL (pc + 1 + 3) lv st σ) : J g E post nL pc lv (.long (iL b) :: .long (iL a) :: st) σ :=
  r_lcmp C ha hb hd1 (r_if_ne C tgt (lc_rng a b) hd ht (fun h => kt (fun q => h (lc_eq.mpr q))) (fun h => kf (lc_eq.mp h)))
theorem r_iremT (C : Cx g E cc nL own ret d) {a b : Int} (h1 : rng a) (h3 : 0 < b) (h4 : b ≤ 2147483647) (hd : decode cc pc = .ok (.irem, 1)) (k : J g E post nL (pc + 1) lv (.int (iI (a.tmod b)) :: st) σ) : J g E post nL pc lv (.int (iI b) :: .int (iI a) :: st) σ := by
  obtain ⟨p, e, R, s, m, args, below, meth, c⟩ := E
  obtain ⟨hx, hb, hml, hown, hts, hr, hlk, hR, hF, hD⟩ := C
  intro ls H locs hl hP hS
  have h11 := h1.1
  have h12 := h1.2
  refine lv_irem hx hb hd (iI_ne0 h3 h4) ?_
  have e1 : iI a / iI b = iI (a.tdiv b) := by
    apply Int32.toInt_inj.mp
    rw [Int32.toInt_div_of_ne_right _ _ (by rw [show (-1 : Int32) = iI (-1) from by decide]; intro q; have := (iI_eq ⟨by omega, h4⟩ ⟨by decide, by decide⟩).mp q; omega), iI_toInt h1, iI_toInt ⟨by omega, h4⟩, iI_toInt]
    have q1 := Int.natAbs_tdiv_le_natAbs a b
    exact ⟨by omega, by
      rcases Int.le_total 0 a with h | h
      · have := Int.tdiv_nonneg h (Int.le_of_lt h3)
        omega
      · have h0 := Int.tdiv_nonneg (show 0 ≤ -a by omega) (Int.le_of_lt h3)
        rw [Int.neg_tdiv] at h0
        omega⟩
  rw [e1, iI_mul, iI_sub, show a - a.tdiv b * b = a.tmod b from by rw [Int.tmod_def, Int.mul_comm]]
  exact k ls H locs hl hP hS
end FORMS
theorem O_0 : isO 0 0 := ⟨by decide, rfl⟩
theorem A_1 : isA 1 12 := ⟨by decide, rfl, by decide, rfl, by decide⟩
theorem A_2 : isA 2 12 := ⟨by decide, rfl, by decide, rfl, by decide⟩
theorem A_3 : isA 3 8 := ⟨by decide, rfl, by decide, rfl, by decide⟩
theorem A_4 : isA 4 8 := ⟨by decide, rfl, by decide, rfl, by decide⟩
theorem A_5 : isA 5 8 := ⟨by decide, rfl, by decide, rfl, by decide⟩
theorem A_6 : isA 6 96 := ⟨by decide, rfl, by decide, rfl, by decide⟩
theorem A_7 : isA 7 10 := ⟨by decide, rfl, by decide, rfl, by decide⟩
theorem O_8 : isO 8 0 := ⟨by decide, rfl⟩
theorem A_9 : isA 9 12 := ⟨by decide, rfl, by decide, rfl, by decide⟩
theorem A_10 : isA 10 12 := ⟨by decide, rfl, by decide, rfl, by decide⟩
theorem A_11 : isA 11 8 := ⟨by decide, rfl, by decide, rfl, by decide⟩
theorem A_12 : isA 12 8 := ⟨by decide, rfl, by decide, rfl, by decide⟩
theorem A_13 : isA 13 8 := ⟨by decide, rfl, by decide, rfl, by decide⟩
theorem A_14 : isA 14 96 := ⟨by decide, rfl, by decide, rfl, by decide⟩
theorem A_15 : isA 15 10 := ⟨by decide, rfl, by decide, rfl, by decide⟩
theorem O_16 : isO 16 0 := ⟨by decide, rfl⟩
theorem A_17 : isA 17 12 := ⟨by decide, rfl, by decide, rfl, by decide⟩
theorem A_18 : isA 18 12 := ⟨by decide, rfl, by decide, rfl, by decide⟩
theorem A_19 : isA 19 8 := ⟨by decide, rfl, by decide, rfl, by decide⟩
theorem A_20 : isA 20 8 := ⟨by decide, rfl, by decide, rfl, by decide⟩
theorem A_21 : isA 21 8 := ⟨by decide, rfl, by decide, rfl, by decide⟩
theorem A_22 : isA 22 96 := ⟨by decide, rfl, by decide, rfl, by decide⟩
theorem A_23 : isA 23 10 := ⟨by decide, rfl, by decide, rfl, by decide⟩
theorem A_25 : isA 25 120 := ⟨by decide, rfl, by decide, rfl, by decide⟩
theorem A_27 : isA 27 121 := ⟨by decide, rfl, by decide, rfl, by decide⟩
theorem A_28 : isA 28 121 := ⟨by decide, rfl, by decide, rfl, by decide⟩
theorem A_29 : isA 29 121 := ⟨by decide, rfl, by decide, rfl, by decide⟩
theorem A_39 : isA 39 7 := ⟨by decide, rfl, by decide, rfl, by decide⟩
theorem A_42 : isA 42 147 := ⟨by decide, rfl, by decide, rfl, by decide⟩
theorem A_43 : isA 43 147 := ⟨by decide, rfl, by decide, rfl, by decide⟩
theorem A_44 : isA 44 147 := ⟨by decide, rfl, by decide, rfl, by decide⟩
theorem A_45 : isA 45 147 := ⟨by decide, rfl, by decide, rfl, by decide⟩
theorem A_46 : isA 46 7 := ⟨by decide, rfl, by decide, rfl, by decide⟩
theorem A_47 : isA 47 12 := ⟨by decide, rfl, by decide, rfl, by decide⟩
theorem A_48 : isA 48 12 := ⟨by decide, rfl, by decide, rfl, by decide⟩
theorem A_49 : isA 49 120 := ⟨by decide, rfl, by decide, rfl, by decide⟩
theorem A_50 : isA 50 4 := ⟨by decide, rfl, by decide, rfl, by decide⟩
theorem A_51 : isA 51 4 := ⟨by decide, rfl, by decide, rfl, by decide⟩
theorem A_52 : isA 52 160 := ⟨by decide, rfl, by decide, rfl, by decide⟩
theorem A_53 : isA 53 40 := ⟨by decide, rfl, by decide, rfl, by decide⟩
theorem O_24 : isO 24 2 := ⟨by decide, rfl⟩
theorem O_26 : isO 26 3 := ⟨by decide, rfl⟩
theorem O_40 : isO 40 4 := ⟨by decide, rfl⟩
theorem O_41 : isO 41 5 := ⟨by decide, rfl⟩
theorem O_sh {s : Nat} (h : s < 4) : isO (31 + 2 * s) 1 := by
  rcases (show s = 0 ∨ s = 1 ∨ s = 2 ∨ s = 3 by omega) with rfl | rfl | rfl | rfl <;> exact ⟨by decide, rfl⟩
theorem A_sh {s : Nat} (h : s < 4) : isA (32 + 2 * s) 40 := by
  rcases (show s = 0 ∨ s = 1 ∨ s = 2 ∨ s = 3 by omega) with rfl | rfl | rfl | rfl <;> exact ⟨by decide, rfl, by decide, rfl, by decide⟩
theorem Rn_sh {s : Nat} (h : s < 4) : rf (31 + 2 * s) 0 = some (32 + 2 * s) := by
  rcases (show s = 0 ∨ s = 1 ∨ s = 2 ∨ s = 3 by omega) with rfl | rfl | rfl | rfl <;> rfl
theorem Rb_sh {s : Nat} (h : s < 4) : rf (31 + 2 * s) 1 = none := by
  rcases (show s = 0 ∨ s = 1 ∨ s = 2 ∨ s = 3 by omega) with rfl | rfl | rfl | rfl <;> rfl
theorem Rl_sh {s : Nat} (h : s < 4) : rf (31 + 2 * s) 2 = none := by
  rcases (show s = 0 ∨ s = 1 ∨ s = 2 ∨ s = 3 by omega) with rfl | rfl | rfl | rfl <;> rfl
theorem F_lv {g : Gt} : ∀ U, Fx g U → Ft g "LEAVES" 0 U := fun _ h => h.2.1
theorem F_sw {g : Gt} : ∀ U, Fx g U → Ft g "SWEEPS" 1 U := fun _ h => h.2.2.1
theorem F_ab {g : Gt} : ∀ U, Fx g U → Ft g "ABOVE" 2 U := fun _ h => h.2.2.2.1
theorem N_lv : ∀ U, Fn U → va_Nw (.fieldLinkNest RX0 76 RX4 "LEAVES" "[I" RX4) U := fun _ h => h.1
theorem N_sw : ∀ U, Fn U → va_Nw (.fieldLinkNest RX0 99 RX4 "SWEEPS" "[I" RX4) U := fun _ h => h.2.1
theorem N_sum : ∀ U, Fn U → va_Nw (.methodLinkNest RX0 72 yX4_sumOf RX4) U := fun _ h => h.2.2.1
theorem N_kd : ∀ U, Fn U → va_Nw (.methodLinkNest RX3 108 yX4_isKind RX4) U := fun _ h => h.2.2.2
theorem yX4_dust_w : Yi yX4_dust cX4_dust 4 (some FieldType.int) 2 RX4 := ⟨⟨rfl, by decide, by decide, by decide +kernel⟩, t_76, t_244, t_242, t_243⟩
theorem yX4_isSurface_w : Ys yX4_isSurface cX4_isSurface 1 (some FieldType.boolean) 1 := ⟨⟨by decide, by decide, by decide +kernel⟩, t_76, t_247, t_246⟩
theorem yX4_isWithin_w : Ys yX4_isWithin cX4_isWithin 3 (some FieldType.boolean) 3 := ⟨⟨by decide, by decide, by decide +kernel⟩, t_76, t_250, t_249⟩
theorem yX4_finding_w : Yi yX4_finding cX4_finding 2 (some FieldType.int) 1 RX4 := ⟨⟨rfl, by decide, by decide, by decide +kernel⟩, t_76, t_254, t_253, t_0⟩
theorem yX4_surface_w : Yi yX4_surface cX4_surface 3 (some FieldType.int) 2 RX4 := ⟨⟨rfl, by decide, by decide, by decide +kernel⟩, t_76, t_259, t_257, t_258⟩
theorem yX0_holderOf_w : Yi yX0_holderOf cX0_holderOf 6 (some FieldType.int) 1 RX0 := ⟨⟨rfl, by decide, by decide, by decide +kernel⟩, t_77, t_263, t_261, t_262⟩
theorem yX0_sittersAt_w : Yi yX0_sittersAt cX0_sittersAt 4 (some FieldType.int) 1 RX0 := ⟨⟨rfl, by decide, by decide, by decide +kernel⟩, t_77, t_267, t_265, t_266⟩
theorem yX0_greatestMark_w : Yi yX0_greatestMark cX0_greatestMark 3 (some FieldType.int) 1 RX0 := ⟨⟨rfl, by decide, by decide, by decide +kernel⟩, t_77, t_271, t_269, t_270⟩
theorem yX4_law_w : Yi yX4_law cX4_law 4 (some FieldType.int) 2 RX4 := ⟨⟨rfl, by decide, by decide, by decide +kernel⟩, t_76, t_276, t_274, t_275⟩
theorem yX4_tenant_w : Yi yX4_tenant cX4_tenant 3 (some FieldType.int) 2 RX4 := ⟨⟨rfl, by decide, by decide, by decide +kernel⟩, t_76, t_280, t_278, t_279⟩
theorem yX4_isKind_w : Ys yX4_isKind cX4_isKind 1 (some FieldType.boolean) 1 := ⟨⟨by decide, by decide, by decide +kernel⟩, t_76, t_283, t_282⟩
theorem yX0_addTenant_w : Yi yX0_addTenant cX0_addTenant 5 (some FieldType.int) 2 RX0 := ⟨⟨rfl, by decide, by decide, by decide +kernel⟩, t_77, t_287, t_285, t_286⟩
theorem yX4_of_w : Yi yX4_of cX4_of 3 (some FieldType.int) 2 RX4 := ⟨⟨rfl, by decide, by decide, by decide +kernel⟩, t_76, t_291, t_289, t_290⟩
theorem yX4_isTenant_w : Yi yX4_isTenant cX4_isTenant 2 (some FieldType.boolean) 1 RX4 := ⟨⟨rfl, by decide, by decide, by decide +kernel⟩, t_76, t_295, t_294, t_1⟩
theorem yX0_leavesOf_w : Yi yX0_leavesOf cX0_leavesOf 4 (some FieldType.int) 1 RX0 := ⟨⟨rfl, by decide, by decide, by decide +kernel⟩, t_77, t_299, t_297, t_298⟩
theorem yX0_heldBy_w : Yi yX0_heldBy cX0_heldBy 4 (some FieldType.int) 1 RX0 := ⟨⟨rfl, by decide, by decide, by decide +kernel⟩, t_77, t_307, t_305, t_306⟩
theorem yX0_marksOf_w : Yi yX0_marksOf cX0_marksOf 4 (some FieldType.int) 1 RX0 := ⟨⟨rfl, by decide, by decide, by decide +kernel⟩, t_77, t_311, t_309, t_310⟩
theorem yX4_change_w : Yi yX4_change cX4_change 4 (some FieldType.int) 3 RX4 := ⟨⟨rfl, by decide, by decide, by decide +kernel⟩, t_76, t_315, t_313, t_314⟩
theorem yX4_put_w : Ys yX4_put cX4_put 4 (some FieldType.int) 3 := ⟨⟨by decide, by decide, by decide +kernel⟩, t_76, t_318, t_317⟩
theorem yX4_mark_w : Yi yX4_mark cX4_mark 3 (some FieldType.int) 2 RX4 := ⟨⟨rfl, by decide, by decide, by decide +kernel⟩, t_76, t_323, t_321, t_322⟩
theorem yX4_charter_w : Yi yX4_charter cX4_charter 4 (some FieldType.int) 3 RX4 := ⟨⟨rfl, by decide, by decide, by decide +kernel⟩, t_76, t_327, t_325, t_326⟩
theorem yX4_swap_w : Yi yX4_swap cX4_swap 3 (some FieldType.int) 2 RX4 := ⟨⟨rfl, by decide, by decide, by decide +kernel⟩, t_76, t_331, t_329, t_330⟩
theorem yX0_changePlaces_w : Yi yX0_changePlaces cX0_changePlaces 4 none 2 RX0 := ⟨⟨rfl, by decide, by decide, by decide +kernel⟩, t_77, t_335, t_333, t_334⟩
theorem yX4_sneeze_w : Yi yX4_sneeze cX4_sneeze 3 (some FieldType.int) 2 RX4 := ⟨⟨rfl, by decide, by decide, by decide +kernel⟩, t_76, t_339, t_337, t_338⟩
theorem yX0_blowAway_w : Yi yX0_blowAway cX0_blowAway 5 (some FieldType.int) 2 RX0 := ⟨⟨rfl, by decide, by decide, by decide +kernel⟩, t_77, t_343, t_341, t_342⟩
theorem yJ9_floorMod_7cf53_w : Ys yJ9_floorMod_7cf53 cJ9_floorMod_7cf53 3 (some FieldType.int) 2 := ⟨⟨by decide, by decide, by decide +kernel⟩, t_82, t_346, t_345⟩
theorem yJ9_min_7cf53_w : Ys yJ9_min_7cf53 cJ9_min_7cf53 2 (some FieldType.int) 2 := ⟨⟨by decide, by decide, by decide +kernel⟩, t_82, t_349, t_348⟩
theorem yX4_go_w : Yi yX4_go cX4_go 2 (some FieldType.int) 1 RX4 := ⟨⟨rfl, by decide, by decide, by decide +kernel⟩, t_76, t_353, t_351, t_352⟩
theorem yX0_passDays_w : Yi yX0_passDays cX0_passDays 3 none 1 RX0 := ⟨⟨rfl, by decide, by decide, by decide +kernel⟩, t_77, t_357, t_355, t_356⟩
theorem yX0_passDay_w : Yi yX0_passDay cX0_passDay 1 none 0 RX0 := ⟨⟨rfl, by decide, by decide, by decide +kernel⟩, t_77, t_361, t_359, t_360⟩
theorem yX0_settle_w : Yi yX0_settle cX0_settle 3 none 1 RX0 := ⟨⟨rfl, by decide, by decide, by decide +kernel⟩, t_77, t_365, t_364, t_2⟩
theorem yX0_blow_w : Yi yX0_blow cX0_blow 2 none 0 RX0 := ⟨⟨rfl, by decide, by decide, by decide +kernel⟩, t_77, t_369, t_368, t_3⟩
theorem yX0_sweep_w : Yi yX0_sweep cX0_sweep 4 none 1 RX0 := ⟨⟨rfl, by decide, by decide, by decide +kernel⟩, t_77, t_373, t_372, t_4⟩
theorem yX0_gain_w : Yi yX0_gain cX0_gain 4 none 2 RX0 := ⟨⟨rfl, by decide, by decide, by decide +kernel⟩, t_77, t_378, t_377, t_5⟩
theorem yX0_leaveMarks_w : Yi yX0_leaveMarks cX0_leaveMarks 5 none 0 RX0 := ⟨⟨rfl, by decide, by decide, by decide +kernel⟩, t_77, t_383, t_382, t_6⟩
theorem yX0_payRents_w : Yi yX0_payRents cX0_payRents 3 none 0 RX0 := ⟨⟨rfl, by decide, by decide, by decide +kernel⟩, t_77, t_388, t_387, t_7⟩
theorem yX0_allDust_w : Yi yX0_allDust cX0_allDust 1 (some FieldType.int) 0 RX0 := ⟨⟨rfl, by decide, by decide, by decide +kernel⟩, t_77, t_392, t_390, t_391⟩
theorem yX4_sumOf_w : Ys yX4_sumOf cX4_sumOf 6 (some FieldType.int) 1 := ⟨⟨by decide, by decide, by decide +kernel⟩, t_76, t_395, t_394⟩
theorem yX4_now_w : Yi yX4_now cX4_now 2 (some FieldType.int) 1 RX4 := ⟨⟨rfl, by decide, by decide, by decide +kernel⟩, t_76, t_399, t_397, t_398⟩
theorem yX0_allGoods_w : Yi yX0_allGoods cX0_allGoods 3 (some FieldType.int) 0 RX0 := ⟨⟨rfl, by decide, by decide, by decide +kernel⟩, t_77, t_403, t_401, t_402⟩
theorem yX0_heldSurfaces_w : Yi yX0_heldSurfaces cX0_heldSurfaces 1 (some FieldType.int) 0 RX0 := ⟨⟨rfl, by decide, by decide, by decide +kernel⟩, t_77, t_407, t_405, t_406⟩
theorem yX0_landless_w : Yi yX0_landless cX0_landless 4 (some FieldType.int) 0 RX0 := ⟨⟨rfl, by decide, by decide, by decide +kernel⟩, t_77, t_412, t_410, t_411⟩
theorem yX0_richest_w : Yi yX0_richest cX0_richest 3 (some FieldType.int) 0 RX0 := ⟨⟨rfl, by decide, by decide, by decide +kernel⟩, t_77, t_416, t_414, t_415⟩
theorem yX4_ahead_w : Yi yX4_ahead cX4_ahead 3 (some FieldType.int) 2 RX4 := ⟨⟨rfl, by decide, by decide, by decide +kernel⟩, t_76, t_420, t_418, t_419⟩
theorem yX0_become_w : Yi yX0_become cX0_become 2 none 1 RX0 := ⟨⟨rfl, by decide, by decide, by decide +kernel⟩, t_77, t_424, t_422, t_423⟩
theorem yX0_settleDays_w : Yi yX0_settleDays cX0_settleDays 4 none 2 RX0 := ⟨⟨rfl, by decide, by decide, by decide +kernel⟩, t_77, t_431, t_429, t_430⟩
theorem yX4_goods_w : Yi yX4_goods cX4_goods 3 (some FieldType.int) 2 RX4 := ⟨⟨rfl, by decide, by decide, by decide +kernel⟩, t_76, t_435, t_433, t_434⟩
theorem yX4_holder_w : Yi yX4_holder cX4_holder 3 (some FieldType.int) 2 RX4 := ⟨⟨rfl, by decide, by decide, by decide +kernel⟩, t_76, t_439, t_437, t_438⟩
theorem yX4_when_w : Yi yX4_when cX4_when 4 (some FieldType.int) 2 RX4 := ⟨⟨rfl, by decide, by decide, by decide +kernel⟩, t_76, t_443, t_441, t_442⟩
theorem yX4_clash_w : Yi yX4_clash cX4_clash 2 (some FieldType.int) 0 RX4 := ⟨⟨rfl, by decide, by decide, by decide +kernel⟩, t_76, t_448, t_446, t_447⟩
theorem yX0_isHeldLike_w : Yi yX0_isHeldLike cX0_isHeldLike 3 (some FieldType.boolean) 1 RX0 := ⟨⟨rfl, by decide, by decide, by decide +kernel⟩, t_77, t_452, t_450, t_451⟩
theorem yX4_rich_w : Yi yX4_rich cX4_rich 4 (some FieldType.int) 2 RX4 := ⟨⟨rfl, by decide, by decide, by decide +kernel⟩, t_76, t_456, t_454, t_455⟩
theorem yX4_seat_w : Yi yX4_seat cX4_seat 3 (some FieldType.int) 2 RX4 := ⟨⟨rfl, by decide, by decide, by decide +kernel⟩, t_76, t_460, t_458, t_459⟩
theorem yX4_bestFor_w : Yi yX4_bestFor cX4_bestFor 9 (some FieldType.int) 5 RX4 := ⟨⟨rfl, by decide, by decide, by decide +kernel⟩, t_76, t_464, t_463, t_8⟩
theorem yX4_tryOut_w : Yi yX4_tryOut cX4_tryOut 4 none 3 RX4 := ⟨⟨rfl, by decide, by decide, by decide +kernel⟩, t_76, t_468, t_467, t_9⟩
theorem yX4_kindFor_w : Yi yX4_kindFor cX4_kindFor 3 (some FieldType.int) 2 RX4 := ⟨⟨rfl, by decide, by decide, by decide +kernel⟩, t_76, t_472, t_470, t_471⟩
theorem yX4_draught_w : Yi yX4_draught cX4_draught 3 (some FieldType.int) 2 RX4 := ⟨⟨rfl, by decide, by decide, by decide +kernel⟩, t_76, t_476, t_474, t_475⟩
theorem yX4_fallFor_w : Yi yX4_fallFor cX4_fallFor 6 (some FieldType.int) 2 RX4 := ⟨⟨rfl, by decide, by decide, by decide +kernel⟩, t_76, t_480, t_478, t_479⟩
theorem yX4_dustWithFall_w : Yi yX4_dustWithFall cX4_dustWithFall 3 (some FieldType.int) 2 RX4 := ⟨⟨rfl, by decide, by decide, by decide +kernel⟩, t_76, t_484, t_483, t_10⟩
theorem yX4_swapFor_w : Yi yX4_swapFor cX4_swapFor 3 (some FieldType.int) 2 RX4 := ⟨⟨rfl, by decide, by decide, by decide +kernel⟩, t_76, t_488, t_486, t_487⟩
theorem yX4_brooms_w : Yi yX4_brooms cX4_brooms 6 (some FieldType.int) 2 RX4 := ⟨⟨rfl, by decide, by decide, by decide +kernel⟩, t_76, t_492, t_490, t_491⟩
theorem yX4_dustSweptBy_w : Yi yX4_dustSweptBy cX4_dustSweptBy 3 (some FieldType.int) 2 RX4 := ⟨⟨rfl, by decide, by decide, by decide +kernel⟩, t_76, t_496, t_495, t_11⟩
theorem yJ6_bitCount_0f7a4_w : Ys yJ6_bitCount_0f7a4 cJ6_bitCount_0f7a4 1 (some FieldType.int) 1 := ⟨⟨by decide, by decide, by decide +kernel⟩, t_84, t_499, t_498⟩
theorem yX4_without_w : Yi yX4_without cX4_without 6 (some FieldType.int) 1 RX4 := ⟨⟨rfl, by decide, by decide, by decide +kernel⟩, t_76, t_506, t_504, t_505⟩
theorem yX4_fits_w : Yi yX4_fits cX4_fits 4 (some FieldType.int) 2 RX4 := ⟨⟨rfl, by decide, by decide, by decide +kernel⟩, t_76, t_510, t_508, t_509⟩
theorem yX4_refuseTold_w : Yi yX4_refuseTold cX4_refuseTold 3 (some FieldType.int) 2 RX4 := ⟨⟨rfl, by decide, by decide, by decide +kernel⟩, t_76, t_514, t_513, t_12⟩
theorem yX4_isSheet_w : Ys yX4_isSheet cX4_isSheet 1 (some FieldType.boolean) 1 := ⟨⟨by decide, by decide, by decide +kernel⟩, t_76, t_517, t_516⟩
theorem yX4_allThatFit_w : Yi yX4_allThatFit cX4_allThatFit 7 (some FieldType.int) 4 RX4 := ⟨⟨rfl, by decide, by decide, by decide +kernel⟩, t_76, t_521, t_520, t_13⟩
theorem yX4_hasGoodsAsTold_w : Yi yX4_hasGoodsAsTold cX4_hasGoodsAsTold 5 (some FieldType.boolean) 2 RX4 := ⟨⟨rfl, by decide, by decide, by decide +kernel⟩, t_76, t_525, t_524, t_14⟩
theorem yX4_kinds_w : Yi yX4_kinds cX4_kinds 4 (some FieldType.int) 2 RX4 := ⟨⟨rfl, by decide, by decide, by decide +kernel⟩, t_76, t_529, t_527, t_528⟩
theorem yX4_sneezes_w : Yi yX4_sneezes cX4_sneezes 3 (some FieldType.int) 1 RX4 := ⟨⟨rfl, by decide, by decide, by decide +kernel⟩, t_76, t_533, t_531, t_532⟩
theorem yX0_draw_w : Yi yX0_draw cX0_draw 1 (some FieldType.int) 0 RX0 := ⟨⟨rfl, by decide, by decide, by decide +kernel⟩, t_77, t_537, t_535, t_536⟩
theorem yX4_odds_w : Yi yX4_odds cX4_odds 9 (some FieldType.long) 2 RX4 := ⟨⟨rfl, by decide, by decide, by decide +kernel⟩, t_76, t_542, t_540, t_541⟩
theorem yX4_greatestDivisor_w : Ys yX4_greatestDivisor cX4_greatestDivisor 3 (some FieldType.int) 2 := ⟨⟨by decide, by decide, by decide +kernel⟩, t_76, t_545, t_544⟩
theorem yX4_seed_w : Yi yX4_seed cX4_seed 3 (some FieldType.int) 1 RX4 := ⟨⟨rfl, by decide, by decide, by decide +kernel⟩, t_76, t_549, t_547, t_548⟩
theorem yX4_feed_w : Yi yX4_feed cX4_feed 3 (some FieldType.int) 2 RX4 := ⟨⟨rfl, by decide, by decide, by decide +kernel⟩, t_76, t_553, t_551, t_552⟩
theorem yX2_append_w : Yi yX2_append cX2_append 4 none 2 RX2 := ⟨⟨rfl, by decide, by decide, by decide +kernel⟩, t_78, t_557, t_555, t_556⟩
theorem yX4_wipe_w : Yi yX4_wipe cX4_wipe 2 (some FieldType.int) 0 RX4 := ⟨⟨rfl, by decide, by decide, by decide +kernel⟩, t_76, t_561, t_559, t_560⟩
theorem yX4_text_w : Yi yX4_text cX4_text 2 (some FieldType.int) 0 RX4 := ⟨⟨rfl, by decide, by decide, by decide +kernel⟩, t_76, t_565, t_563, t_564⟩
theorem yX3_split_w : Yi yX3_split cX3_split 6 none 1 RX3 := ⟨⟨rfl, by decide, by decide, by decide +kernel⟩, t_79, t_569, t_567, t_568⟩
theorem yX3_typeOf_w : Ys yX3_typeOf cX3_typeOf 1 (some FieldType.int) 1 := ⟨⟨by decide, by decide, by decide +kernel⟩, t_79, t_572, t_571⟩
theorem yX3_valueAt_w : Ys yX3_valueAt cX3_valueAt 3 (some FieldType.int) 3 := ⟨⟨by decide, by decide, by decide +kernel⟩, t_79, t_575, t_574⟩
theorem yX3_wordAt_w : Ys yX3_wordAt cX3_wordAt 4 (some FieldType.int) 2 := ⟨⟨by decide, by decide, by decide +kernel⟩, t_79, t_578, t_577⟩
theorem yX2_endOfRun_w : Yi yX2_endOfRun cX2_endOfRun 4 (some FieldType.int) 1 RX2 := ⟨⟨rfl, by decide, by decide, by decide +kernel⟩, t_78, t_582, t_580, t_581⟩
theorem yX3_nameOf_w : Ys yX3_nameOf cX3_nameOf 1 (some (FieldType.object "java/lang/String")) 1 := ⟨⟨by decide, by decide, by decide +kernel⟩, t_79, t_586, t_585⟩
theorem yX2_spells_w : Yi yX2_spells cX2_spells 5 (some FieldType.boolean) 3 RX2 := ⟨⟨rfl, by decide, by decide, by decide +kernel⟩, t_78, t_604, t_602, t_603⟩
theorem yJ0_length_8abf5_w : Yi yJ0_length_8abf5 cJ0_length_8abf5 1 (some FieldType.int) 0 RJ0 := ⟨⟨rfl, by decide, by decide, by decide +kernel⟩, t_85, t_608, t_606, t_607⟩
theorem yJ0_coder_7d493_w : Yi yJ0_coder_7d493 cJ0_coder_7d493 1 (some FieldType.byte) 0 RJ0 := ⟨⟨rfl, by decide, by decide, by decide +kernel⟩, t_85, t_612, t_610, t_611⟩
theorem yJ0_charAt_5068e_w : Yi yJ0_charAt_5068e cJ0_charAt_5068e 2 (some FieldType.char) 1 RJ0 := ⟨⟨rfl, by decide, by decide, by decide +kernel⟩, t_85, t_618, t_616, t_617⟩
theorem yJ0_isLatin1_aae02_w : Yi yJ0_isLatin1_aae02 cJ0_isLatin1_aae02 1 (some FieldType.boolean) 0 RJ0 := ⟨⟨rfl, by decide, by decide, by decide +kernel⟩, t_85, t_622, t_620, t_621⟩
theorem yJ1_charAt_3b067_w : Ys yJ1_charAt_3b067 cJ1_charAt_3b067 2 (some FieldType.char) 2 := ⟨⟨by decide, by decide, by decide +kernel⟩, t_86, t_625, t_624⟩
theorem yJ0_checkIndex_df160_w : Ys yJ0_checkIndex_df160 cJ0_checkIndex_df160 2 none 2 := ⟨⟨by decide, by decide, by decide +kernel⟩, t_85, t_628, t_627⟩
theorem yJ3_checkIndex_8e157_w : Ys yJ3_checkIndex_8e157 cJ3_checkIndex_8e157 3 (some FieldType.int) 3 := ⟨⟨by decide, by decide, by decide +kernel⟩, t_87, t_633, t_632⟩
theorem yJ2_charAt_3b067_w : Ys yJ2_charAt_3b067 cJ2_charAt_3b067 2 (some FieldType.char) 2 := ⟨⟨by decide, by decide, by decide +kernel⟩, t_88, t_636, t_635⟩
theorem yJ2_checkIndex_2214a_w : Ys yJ2_checkIndex_2214a cJ2_checkIndex_2214a 2 none 2 := ⟨⟨by decide, by decide, by decide +kernel⟩, t_88, t_639, t_638⟩
theorem yJ2_length_9d52b_w : Ys yJ2_length_9d52b cJ2_length_9d52b 1 (some FieldType.int) 1 := ⟨⟨by decide, by decide, by decide +kernel⟩, t_88, t_642, t_641⟩
theorem yJ2_getChar_3b067_w : Ys yJ2_getChar_3b067 cJ2_getChar_3b067 2 (some FieldType.char) 2 := ⟨⟨by decide, by decide, by decide +kernel⟩, t_88, t_646, t_645⟩
theorem yX3_numberAt_w : Ys yX3_numberAt cX3_numberAt 5 (some FieldType.int) 2 := ⟨⟨by decide, by decide, by decide +kernel⟩, t_79, t_655, t_654⟩
theorem yX3_add_w : Yi yX3_add cX3_add 4 none 3 RX3 := ⟨⟨rfl, by decide, by decide, by decide +kernel⟩, t_79, t_660, t_659, t_15⟩
theorem yX3_readInto_w : Yi yX3_readInto cX3_readInto 4 (some FieldType.int) 1 RX3 := ⟨⟨rfl, by decide, by decide, by decide +kernel⟩, t_79, t_664, t_662, t_663⟩
theorem yX3_readItem_w : Yi yX3_readItem cX3_readItem 3 (some FieldType.boolean) 1 RX3 := ⟨⟨rfl, by decide, by decide, by decide +kernel⟩, t_79, t_668, t_667, t_16⟩
theorem yX3_readTenant_w : Yi yX3_readTenant cX3_readTenant 7 (some FieldType.boolean) 2 RX3 := ⟨⟨rfl, by decide, by decide, by decide +kernel⟩, t_79, t_673, t_672, t_17⟩
theorem yX3_numberBehind_w : Yi yX3_numberBehind cX3_numberBehind 3 (some FieldType.int) 2 RX3 := ⟨⟨rfl, by decide, by decide, by decide +kernel⟩, t_79, t_677, t_676, t_18⟩
theorem yX3_takeNumber_w : Yi yX3_takeNumber cX3_takeNumber 3 (some FieldType.int) 1 RX3 := ⟨⟨rfl, by decide, by decide, by decide +kernel⟩, t_79, t_681, t_680, t_19⟩
theorem yX3_readDust_w : Yi yX3_readDust cX3_readDust 4 (some FieldType.boolean) 1 RX3 := ⟨⟨rfl, by decide, by decide, by decide +kernel⟩, t_79, t_686, t_685, t_20⟩
theorem yX3_readFall_w : Yi yX3_readFall cX3_readFall 3 (some FieldType.boolean) 1 RX3 := ⟨⟨rfl, by decide, by decide, by decide +kernel⟩, t_79, t_690, t_689, t_21⟩
theorem yX3_readDraught_w : Yi yX3_readDraught cX3_readDraught 4 (some FieldType.boolean) 1 RX3 := ⟨⟨rfl, by decide, by decide, by decide +kernel⟩, t_79, t_694, t_693, t_22⟩
theorem yX3_takes_w : Yi yX3_takes cX3_takes 2 (some FieldType.boolean) 1 RX3 := ⟨⟨rfl, by decide, by decide, by decide +kernel⟩, t_79, t_698, t_697, t_23⟩
theorem yX4_hold_w : Yi yX4_hold cX4_hold 3 (some FieldType.int) 2 RX4 := ⟨⟨rfl, by decide, by decide, by decide +kernel⟩, t_76, t_703, t_701, t_702⟩
theorem yX4_isSpot_w : Ys yX4_isSpot cX4_isSpot 1 (some FieldType.boolean) 1 := ⟨⟨by decide, by decide, by decide +kernel⟩, t_76, t_706, t_705⟩
theorem yX4_as_w : Yi yX4_as cX4_as 4 (some FieldType.int) 2 RX4 := ⟨⟨rfl, by decide, by decide, by decide +kernel⟩, t_76, t_710, t_708, t_709⟩
theorem yX4_isOfKind_w : Ys yX4_isOfKind cX4_isOfKind 4 (some FieldType.boolean) 2 := ⟨⟨by decide, by decide, by decide +kernel⟩, t_76, t_713, t_712⟩
theorem yX4_sheet_w : Yi yX4_sheet cX4_sheet 4 (some FieldType.int) 3 RX4 := ⟨⟨rfl, by decide, by decide, by decide +kernel⟩, t_76, t_719, t_717, t_718⟩
theorem yX1_renew_w : Yi yX1_renew cX1_renew 4 (some FieldType.int) 2 RX1 := ⟨⟨rfl, by decide, by decide, by decide +kernel⟩, t_80, t_723, t_721, t_722⟩
theorem yX4_write_w : Yi yX4_write cX4_write 4 (some FieldType.int) 3 RX4 := ⟨⟨rfl, by decide, by decide, by decide +kernel⟩, t_76, t_727, t_725, t_726⟩
theorem yX1_put_w : Yi yX1_put cX1_put 4 none 2 RX1 := ⟨⟨rfl, by decide, by decide, by decide +kernel⟩, t_80, t_731, t_729, t_730⟩
theorem yX4_copy_w : Yi yX4_copy cX4_copy 6 (some FieldType.int) 5 RX4 := ⟨⟨rfl, by decide, by decide, by decide +kernel⟩, t_76, t_735, t_733, t_734⟩
theorem yX1_has_w : Yi yX1_has cX1_has 3 (some FieldType.boolean) 2 RX1 := ⟨⟨rfl, by decide, by decide, by decide +kernel⟩, t_80, t_739, t_737, t_738⟩
theorem yX4_load_w : Yi yX4_load cX4_load 4 (some FieldType.int) 1 RX4 := ⟨⟨rfl, by decide, by decide, by decide +kernel⟩, t_76, t_744, t_742, t_743⟩
theorem yX4_judge_w : Yi yX4_judge cX4_judge 4 (some FieldType.int) 1 RX4 := ⟨⟨rfl, by decide, by decide, by decide +kernel⟩, t_76, t_748, t_746, t_747⟩
theorem yX4_image_w : Yi yX4_image cX4_image 1 (some FieldType.int) 0 RX4 := ⟨⟨rfl, by decide, by decide, by decide +kernel⟩, t_76, t_752, t_750, t_751⟩
theorem yX4_undo_w : Yi yX4_undo cX4_undo 1 (some FieldType.int) 0 RX4 := ⟨⟨rfl, by decide, by decide, by decide +kernel⟩, t_76, t_756, t_754, t_755⟩
theorem yX4_tear_w : Yi yX4_tear cX4_tear 2 (some FieldType.int) 0 RX4 := ⟨⟨rfl, by decide, by decide, by decide +kernel⟩, t_76, t_760, t_758, t_759⟩
theorem yX4_count_w : Yi yX4_count cX4_count 2 (some FieldType.int) 1 RX4 := ⟨⟨rfl, by decide, by decide, by decide +kernel⟩, t_76, t_764, t_762, t_763⟩
theorem yX0_usedSpots_w : Yi yX0_usedSpots cX0_usedSpots 6 (some FieldType.int) 0 RX0 := ⟨⟨rfl, by decide, by decide, by decide +kernel⟩, t_77, t_768, t_766, t_767⟩
theorem yX4_status_w : Yi yX4_status cX4_status 2 (some FieldType.int) 1 RX4 := ⟨⟨rfl, by decide, by decide, by decide +kernel⟩, t_76, t_772, t_770, t_771⟩
theorem yX5_dust_w : Yi yX5_dust cX5_dust 3 (some FieldType.int) 2 RX5 := ⟨⟨rfl, by decide, by decide, by decide +kernel⟩, t_81, t_841, t_839, t_840⟩
theorem yX5_isSurface_w : Ys yX5_isSurface cX5_isSurface 1 (some FieldType.boolean) 1 := ⟨⟨by decide, by decide, by decide +kernel⟩, t_81, t_844, t_843⟩
theorem yX5_in_w : Ys yX5_in cX5_in 6 (some FieldType.boolean) 3 := ⟨⟨by decide, by decide, by decide +kernel⟩, t_81, t_848, t_847⟩
theorem yX5_becomes_w : Yi yX5_becomes cX5_becomes 4 (some FieldType.int) 2 RX5 := ⟨⟨rfl, by decide, by decide, by decide +kernel⟩, t_81, t_853, t_852, t_24⟩
theorem yX5_finds_w : Yi yX5_finds cX5_finds 2 (some FieldType.int) 1 RX5 := ⟨⟨rfl, by decide, by decide, by decide +kernel⟩, t_81, t_858, t_857, t_25⟩
theorem yX5_surface_w : Yi yX5_surface cX5_surface 4 (some FieldType.int) 2 RX5 := ⟨⟨rfl, by decide, by decide, by decide +kernel⟩, t_81, t_862, t_860, t_861⟩
theorem yX5_holderOf_w : Yi yX5_holderOf cX5_holderOf 6 (some FieldType.int) 1 RX5 := ⟨⟨rfl, by decide, by decide, by decide +kernel⟩, t_81, t_867, t_866, t_26⟩
theorem yX5_markAt_w : Ys yX5_markAt cX5_markAt 2 (some FieldType.int) 2 := ⟨⟨by decide, by decide, by decide +kernel⟩, t_81, t_870, t_869⟩
theorem yX5_thoseAt_w : Yi yX5_thoseAt cX5_thoseAt 4 (some FieldType.int) 1 RX5 := ⟨⟨rfl, by decide, by decide, by decide +kernel⟩, t_81, t_874, t_873, t_27⟩
theorem yX5_its_w : Yi yX5_its cX5_its 3 (some FieldType.int) 2 RX5 := ⟨⟨rfl, by decide, by decide, by decide +kernel⟩, t_81, t_878, t_877, t_28⟩
theorem yX5_place_w : Ys yX5_place cX5_place 2 (some FieldType.int) 2 := ⟨⟨by decide, by decide, by decide +kernel⟩, t_81, t_881, t_880⟩
theorem yX5_law_w : Yi yX5_law cX5_law 4 (some FieldType.int) 2 RX5 := ⟨⟨rfl, by decide, by decide, by decide +kernel⟩, t_81, t_885, t_883, t_884⟩
theorem yX5_tenant_w : Yi yX5_tenant cX5_tenant 3 (some FieldType.int) 2 RX5 := ⟨⟨rfl, by decide, by decide, by decide +kernel⟩, t_81, t_891, t_889, t_890⟩
theorem yX5_isKind_w : Ys yX5_isKind cX5_isKind 1 (some FieldType.boolean) 1 := ⟨⟨by decide, by decide, by decide +kernel⟩, t_81, t_894, t_893⟩
theorem yX5_adds_w : Yi yX5_adds cX5_adds 5 (some FieldType.int) 2 RX5 := ⟨⟨rfl, by decide, by decide, by decide +kernel⟩, t_81, t_900, t_899, t_29⟩
theorem yX5_of_w : Yi yX5_of cX5_of 3 (some FieldType.int) 2 RX5 := ⟨⟨rfl, by decide, by decide, by decide +kernel⟩, t_81, t_904, t_902, t_903⟩
theorem yX5_isTenant_w : Yi yX5_isTenant cX5_isTenant 2 (some FieldType.boolean) 1 RX5 := ⟨⟨rfl, by decide, by decide, by decide +kernel⟩, t_81, t_908, t_907, t_30⟩
theorem yX5_leaves_w : Yi yX5_leaves cX5_leaves 3 (some FieldType.int) 1 RX5 := ⟨⟨rfl, by decide, by decide, by decide +kernel⟩, t_81, t_912, t_911, t_31⟩
theorem yX5_sweeps_w : Yi yX5_sweeps cX5_sweeps 2 (some FieldType.int) 1 RX5 := ⟨⟨rfl, by decide, by decide, by decide +kernel⟩, t_81, t_916, t_915, t_32⟩
theorem yX5_heldBy_w : Yi yX5_heldBy cX5_heldBy 4 (some FieldType.int) 1 RX5 := ⟨⟨rfl, by decide, by decide, by decide +kernel⟩, t_81, t_920, t_919, t_33⟩
theorem yX5_marksOf_w : Yi yX5_marksOf cX5_marksOf 4 (some FieldType.int) 1 RX5 := ⟨⟨rfl, by decide, by decide, by decide +kernel⟩, t_81, t_924, t_923, t_34⟩
theorem yX5_change_w : Yi yX5_change cX5_change 5 (some FieldType.int) 3 RX5 := ⟨⟨rfl, by decide, by decide, by decide +kernel⟩, t_81, t_928, t_926, t_927⟩
theorem yX5_mark_w : Yi yX5_mark cX5_mark 3 (some FieldType.int) 2 RX5 := ⟨⟨rfl, by decide, by decide, by decide +kernel⟩, t_81, t_933, t_931, t_932⟩
theorem yX5_charter_w : Yi yX5_charter cX5_charter 4 (some FieldType.int) 3 RX5 := ⟨⟨rfl, by decide, by decide, by decide +kernel⟩, t_81, t_937, t_935, t_936⟩
theorem yX5_swap_w : Yi yX5_swap cX5_swap 3 (some FieldType.int) 2 RX5 := ⟨⟨rfl, by decide, by decide, by decide +kernel⟩, t_81, t_941, t_939, t_940⟩
theorem yX5_swaps_w : Yi yX5_swaps cX5_swaps 4 (some FieldType.int) 2 RX5 := ⟨⟨rfl, by decide, by decide, by decide +kernel⟩, t_81, t_945, t_944, t_35⟩
theorem yX5_sneeze_w : Yi yX5_sneeze cX5_sneeze 3 (some FieldType.int) 2 RX5 := ⟨⟨rfl, by decide, by decide, by decide +kernel⟩, t_81, t_949, t_947, t_948⟩
theorem yX5_blows_w : Yi yX5_blows cX5_blows 5 (some FieldType.int) 2 RX5 := ⟨⟨rfl, by decide, by decide, by decide +kernel⟩, t_81, t_954, t_953, t_36⟩
theorem yX5_round_w : Ys yX5_round cX5_round 1 (some FieldType.int) 1 := ⟨⟨by decide, by decide, by decide +kernel⟩, t_81, t_957, t_956⟩
theorem yX5_heldTo_w : Ys yX5_heldTo cX5_heldTo 2 (some FieldType.int) 2 := ⟨⟨by decide, by decide, by decide +kernel⟩, t_81, t_960, t_959⟩
theorem yX5_go_w : Yi yX5_go cX5_go 2 (some FieldType.int) 1 RX5 := ⟨⟨rfl, by decide, by decide, by decide +kernel⟩, t_81, t_964, t_962, t_963⟩
theorem yX5_goesOn_w : Yi yX5_goesOn cX5_goesOn 3 none 1 RX5 := ⟨⟨rfl, by decide, by decide, by decide +kernel⟩, t_81, t_971, t_970, t_37⟩
theorem yX5_day_w : Yi yX5_day cX5_day 3 none 0 RX5 := ⟨⟨rfl, by decide, by decide, by decide +kernel⟩, t_81, t_975, t_974, t_38⟩
theorem yX5_draughts_w : Yi yX5_draughts cX5_draughts 2 none 0 RX5 := ⟨⟨rfl, by decide, by decide, by decide +kernel⟩, t_81, t_979, t_978, t_39⟩
theorem yX5_sweep_w : Yi yX5_sweep cX5_sweep 5 none 1 RX5 := ⟨⟨rfl, by decide, by decide, by decide +kernel⟩, t_81, t_983, t_982, t_40⟩
theorem yX5_gets_w : Yi yX5_gets cX5_gets 3 none 2 RX5 := ⟨⟨rfl, by decide, by decide, by decide +kernel⟩, t_81, t_987, t_986, t_41⟩
theorem yX5_marks_w : Yi yX5_marks cX5_marks 6 none 1 RX5 := ⟨⟨rfl, by decide, by decide, by decide +kernel⟩, t_81, t_991, t_990, t_42⟩
theorem yX5_dustAll_w : Yi yX5_dustAll cX5_dustAll 3 (some FieldType.int) 0 RX5 := ⟨⟨rfl, by decide, by decide, by decide +kernel⟩, t_81, t_995, t_994, t_43⟩
theorem yX5_now_w : Yi yX5_now cX5_now 2 (some FieldType.int) 1 RX5 := ⟨⟨rfl, by decide, by decide, by decide +kernel⟩, t_81, t_999, t_997, t_998⟩
theorem yX5_goodsAll_w : Yi yX5_goodsAll cX5_goodsAll 3 (some FieldType.int) 0 RX5 := ⟨⟨rfl, by decide, by decide, by decide +kernel⟩, t_81, t_1003, t_1002, t_44⟩
theorem yX5_heldOnes_w : Yi yX5_heldOnes cX5_heldOnes 3 (some FieldType.int) 0 RX5 := ⟨⟨rfl, by decide, by decide, by decide +kernel⟩, t_81, t_1007, t_1006, t_45⟩
theorem yX5_landless_w : Yi yX5_landless cX5_landless 3 (some FieldType.int) 0 RX5 := ⟨⟨rfl, by decide, by decide, by decide +kernel⟩, t_81, t_1011, t_1010, t_46⟩
theorem yX5_richest_w : Yi yX5_richest cX5_richest 3 (some FieldType.int) 0 RX5 := ⟨⟨rfl, by decide, by decide, by decide +kernel⟩, t_81, t_1015, t_1014, t_47⟩
theorem yX5_ahead_w : Yi yX5_ahead cX5_ahead 3 (some FieldType.int) 2 RX5 := ⟨⟨rfl, by decide, by decide, by decide +kernel⟩, t_81, t_1019, t_1017, t_1018⟩
theorem yX5_isAhead_w : Ys yX5_isAhead cX5_isAhead 1 (some FieldType.boolean) 1 := ⟨⟨by decide, by decide, by decide +kernel⟩, t_81, t_1022, t_1021⟩
theorem yX5_laysAside_w : Yi yX5_laysAside cX5_laysAside 2 none 0 RX5 := ⟨⟨rfl, by decide, by decide, by decide +kernel⟩, t_81, t_1027, t_1026, t_48⟩
theorem yX5_takesBack_w : Yi yX5_takesBack cX5_takesBack 3 (some FieldType.int) 1 RX5 := ⟨⟨rfl, by decide, by decide, by decide +kernel⟩, t_81, t_1031, t_1030, t_49⟩
theorem yX5_goods_w : Yi yX5_goods cX5_goods 3 (some FieldType.int) 2 RX5 := ⟨⟨rfl, by decide, by decide, by decide +kernel⟩, t_81, t_1035, t_1033, t_1034⟩
theorem yX5_goodsBehind_w : Yi yX5_goodsBehind cX5_goodsBehind 3 (some FieldType.int) 2 RX5 := ⟨⟨rfl, by decide, by decide, by decide +kernel⟩, t_81, t_1039, t_1038, t_50⟩
theorem yX5_holder_w : Yi yX5_holder cX5_holder 3 (some FieldType.int) 2 RX5 := ⟨⟨rfl, by decide, by decide, by decide +kernel⟩, t_81, t_1043, t_1041, t_1042⟩
theorem yX5_when_w : Yi yX5_when cX5_when 4 (some FieldType.int) 2 RX5 := ⟨⟨rfl, by decide, by decide, by decide +kernel⟩, t_81, t_1047, t_1045, t_1046⟩
theorem yX5_orNone_w : Yi yX5_orNone cX5_orNone 2 (some FieldType.int) 1 RX5 := ⟨⟨rfl, by decide, by decide, by decide +kernel⟩, t_81, t_1051, t_1050, t_51⟩
theorem yX5_clash_w : Yi yX5_clash cX5_clash 2 (some FieldType.int) 0 RX5 := ⟨⟨rfl, by decide, by decide, by decide +kernel⟩, t_81, t_1056, t_1054, t_1055⟩
theorem yX5_isOtherwise_w : Yi yX5_isOtherwise cX5_isOtherwise 3 (some FieldType.boolean) 0 RX5 := ⟨⟨rfl, by decide, by decide, by decide +kernel⟩, t_81, t_1060, t_1059, t_52⟩
theorem yX5_rich_w : Yi yX5_rich cX5_rich 4 (some FieldType.int) 2 RX5 := ⟨⟨rfl, by decide, by decide, by decide +kernel⟩, t_81, t_1064, t_1062, t_1063⟩
theorem yX5_seat_w : Yi yX5_seat cX5_seat 3 (some FieldType.int) 2 RX5 := ⟨⟨rfl, by decide, by decide, by decide +kernel⟩, t_81, t_1068, t_1066, t_1067⟩
theorem yX5_isSoon_w : Ys yX5_isSoon cX5_isSoon 1 (some FieldType.boolean) 1 := ⟨⟨by decide, by decide, by decide +kernel⟩, t_81, t_1071, t_1070⟩
theorem yX5_richestBy_w : Yi yX5_richestBy cX5_richestBy 11 (some FieldType.int) 5 RX5 := ⟨⟨rfl, by decide, by decide, by decide +kernel⟩, t_81, t_1075, t_1074, t_53⟩
theorem yX5_kindFor_w : Yi yX5_kindFor cX5_kindFor 3 (some FieldType.int) 2 RX5 := ⟨⟨rfl, by decide, by decide, by decide +kernel⟩, t_81, t_1079, t_1077, t_1078⟩
theorem yX5_draught_w : Yi yX5_draught cX5_draught 3 (some FieldType.int) 2 RX5 := ⟨⟨rfl, by decide, by decide, by decide +kernel⟩, t_81, t_1083, t_1081, t_1082⟩
theorem yX5_fallFor_w : Yi yX5_fallFor cX5_fallFor 5 (some FieldType.int) 2 RX5 := ⟨⟨rfl, by decide, by decide, by decide +kernel⟩, t_81, t_1087, t_1085, t_1086⟩
theorem yX5_dustBehind_w : Yi yX5_dustBehind cX5_dustBehind 2 (some FieldType.int) 1 RX5 := ⟨⟨rfl, by decide, by decide, by decide +kernel⟩, t_81, t_1091, t_1090, t_54⟩
theorem yX5_swapFor_w : Yi yX5_swapFor cX5_swapFor 8 (some FieldType.int) 2 RX5 := ⟨⟨rfl, by decide, by decide, by decide +kernel⟩, t_81, t_1095, t_1093, t_1094⟩
theorem yX5_brooms_w : Yi yX5_brooms cX5_brooms 5 (some FieldType.int) 2 RX5 := ⟨⟨rfl, by decide, by decide, by decide +kernel⟩, t_81, t_1099, t_1097, t_1098⟩
theorem yX5_ones_w : Ys yX5_ones cX5_ones 3 (some FieldType.int) 1 := ⟨⟨by decide, by decide, by decide +kernel⟩, t_81, t_1103, t_1102⟩
theorem yX5_dustWith_w : Yi yX5_dustWith cX5_dustWith 4 (some FieldType.int) 2 RX5 := ⟨⟨rfl, by decide, by decide, by decide +kernel⟩, t_81, t_1107, t_1106, t_55⟩
theorem yX5_without_w : Yi yX5_without cX5_without 6 (some FieldType.int) 1 RX5 := ⟨⟨rfl, by decide, by decide, by decide +kernel⟩, t_81, t_1111, t_1109, t_1110⟩
theorem yX5_fits_w : Yi yX5_fits cX5_fits 4 (some FieldType.int) 2 RX5 := ⟨⟨rfl, by decide, by decide, by decide +kernel⟩, t_81, t_1115, t_1113, t_1114⟩
theorem yX5_wrongTold_w : Yi yX5_wrongTold cX5_wrongTold 4 (some FieldType.int) 2 RX5 := ⟨⟨rfl, by decide, by decide, by decide +kernel⟩, t_81, t_1119, t_1118, t_56⟩
theorem yX5_wrong_w : Yi yX5_wrong cX5_wrong 2 (some FieldType.int) 1 RX5 := ⟨⟨rfl, by decide, by decide, by decide +kernel⟩, t_81, t_1123, t_1122, t_57⟩
theorem yX5_isOne_w : Ys yX5_isOne cX5_isOne 1 (some FieldType.boolean) 1 := ⟨⟨by decide, by decide, by decide +kernel⟩, t_81, t_1126, t_1125⟩
theorem yX5_fitsBy_w : Yi yX5_fitsBy cX5_fitsBy 8 (some FieldType.int) 4 RX5 := ⟨⟨rfl, by decide, by decide, by decide +kernel⟩, t_81, t_1131, t_1130, t_58⟩
theorem yX5_isTold_w : Yi yX5_isTold cX5_isTold 6 (some FieldType.boolean) 2 RX5 := ⟨⟨rfl, by decide, by decide, by decide +kernel⟩, t_81, t_1135, t_1134, t_59⟩
theorem yX5_kinds_w : Yi yX5_kinds cX5_kinds 4 (some FieldType.int) 2 RX5 := ⟨⟨rfl, by decide, by decide, by decide +kernel⟩, t_81, t_1139, t_1137, t_1138⟩
theorem yX5_sneezes_w : Yi yX5_sneezes cX5_sneezes 4 (some FieldType.int) 1 RX5 := ⟨⟨rfl, by decide, by decide, by decide +kernel⟩, t_81, t_1143, t_1141, t_1142⟩
theorem yX5_draw_w : Yi yX5_draw cX5_draw 1 (some FieldType.int) 0 RX5 := ⟨⟨rfl, by decide, by decide, by decide +kernel⟩, t_81, t_1147, t_1146, t_60⟩
theorem yX5_odds_w : Yi yX5_odds cX5_odds 8 (some FieldType.long) 2 RX5 := ⟨⟨rfl, by decide, by decide, by decide +kernel⟩, t_81, t_1152, t_1150, t_1151⟩
theorem yX5_seed_w : Yi yX5_seed cX5_seed 2 (some FieldType.int) 1 RX5 := ⟨⟨rfl, by decide, by decide, by decide +kernel⟩, t_81, t_1157, t_1155, t_1156⟩
theorem yX5_feed_w : Yi yX5_feed cX5_feed 4 (some FieldType.int) 2 RX5 := ⟨⟨rfl, by decide, by decide, by decide +kernel⟩, t_81, t_1161, t_1159, t_1160⟩
theorem yX5_wipe_w : Yi yX5_wipe cX5_wipe 2 (some FieldType.int) 0 RX5 := ⟨⟨rfl, by decide, by decide, by decide +kernel⟩, t_81, t_1166, t_1164, t_1165⟩
theorem yX5_text_w : Yi yX5_text cX5_text 2 (some FieldType.int) 0 RX5 := ⟨⟨rfl, by decide, by decide, by decide +kernel⟩, t_81, t_1170, t_1168, t_1169⟩
theorem yX5_saves_w : Yi yX5_saves cX5_saves 2 none 0 RX5 := ⟨⟨rfl, by decide, by decide, by decide +kernel⟩, t_81, t_1174, t_1173, t_61⟩
theorem yX5_token_w : Yi yX5_token cX5_token 3 none 0 RX5 := ⟨⟨rfl, by decide, by decide, by decide +kernel⟩, t_81, t_1178, t_1177, t_62⟩
theorem yX5_byteAt_w : Yi yX5_byteAt cX5_byteAt 2 (some FieldType.int) 1 RX5 := ⟨⟨rfl, by decide, by decide, by decide +kernel⟩, t_81, t_1182, t_1181, t_63⟩
theorem yX5_isLetter_w : Ys yX5_isLetter cX5_isLetter 1 (some FieldType.boolean) 1 := ⟨⟨by decide, by decide, by decide +kernel⟩, t_81, t_1185, t_1184⟩
theorem yX5_isDigit_w : Ys yX5_isDigit cX5_isDigit 1 (some FieldType.boolean) 1 := ⟨⟨by decide, by decide, by decide +kernel⟩, t_81, t_1190, t_1189⟩
theorem yX5_item_w : Yi yX5_item cX5_item 4 none 0 RX5 := ⟨⟨rfl, by decide, by decide, by decide +kernel⟩, t_81, t_1196, t_1195, t_64⟩
theorem yX5_kindHere_w : Yi yX5_kindHere cX5_kindHere 3 (some FieldType.int) 0 RX5 := ⟨⟨rfl, by decide, by decide, by decide +kernel⟩, t_81, t_1200, t_1199, t_65⟩
theorem yX5_word_w : Yi yX5_word cX5_word 4 (some FieldType.long) 0 RX5 := ⟨⟨rfl, by decide, by decide, by decide +kernel⟩, t_81, t_1204, t_1203, t_66⟩
theorem yX5_tenantItem_w : Yi yX5_tenantItem cX5_tenantItem 3 none 1 RX5 := ⟨⟨rfl, by decide, by decide, by decide +kernel⟩, t_81, t_1217, t_1216, t_67⟩
theorem yX5_must_w : Yi yX5_must cX5_must 2 none 1 RX5 := ⟨⟨rfl, by decide, by decide, by decide +kernel⟩, t_81, t_1221, t_1220, t_68⟩
theorem yX5_perhaps_w : Yi yX5_perhaps cX5_perhaps 5 none 3 RX5 := ⟨⟨rfl, by decide, by decide, by decide +kernel⟩, t_81, t_1226, t_1225, t_69⟩
theorem yX5_number_w : Yi yX5_number cX5_number 6 none 2 RX5 := ⟨⟨rfl, by decide, by decide, by decide +kernel⟩, t_81, t_1230, t_1229, t_70⟩
theorem yX5_dustItem_w : Yi yX5_dustItem cX5_dustItem 2 none 0 RX5 := ⟨⟨rfl, by decide, by decide, by decide +kernel⟩, t_81, t_1237, t_1236, t_71⟩
theorem yX5_draughtItem_w : Yi yX5_draughtItem cX5_draughtItem 2 none 0 RX5 := ⟨⟨rfl, by decide, by decide, by decide +kernel⟩, t_81, t_1242, t_1241, t_72⟩
theorem yX5_putsBack_w : Yi yX5_putsBack cX5_putsBack 2 none 0 RX5 := ⟨⟨rfl, by decide, by decide, by decide +kernel⟩, t_81, t_1247, t_1246, t_73⟩
theorem yX5_hold_w : Yi yX5_hold cX5_hold 3 (some FieldType.int) 2 RX5 := ⟨⟨rfl, by decide, by decide, by decide +kernel⟩, t_81, t_1251, t_1249, t_1250⟩
theorem yX5_isSpot_w : Ys yX5_isSpot cX5_isSpot 1 (some FieldType.boolean) 1 := ⟨⟨by decide, by decide, by decide +kernel⟩, t_81, t_1254, t_1253⟩
theorem yX5_as_w : Yi yX5_as cX5_as 5 (some FieldType.int) 2 RX5 := ⟨⟨rfl, by decide, by decide, by decide +kernel⟩, t_81, t_1259, t_1257, t_1258⟩
theorem yX5_above_w : Ys yX5_above cX5_above 1 (some FieldType.int) 1 := ⟨⟨by decide, by decide, by decide +kernel⟩, t_81, t_1262, t_1261⟩
theorem yX5_sheet_w : Yi yX5_sheet cX5_sheet 5 (some FieldType.int) 3 RX5 := ⟨⟨rfl, by decide, by decide, by decide +kernel⟩, t_81, t_1267, t_1265, t_1266⟩
theorem yX5_write_w : Yi yX5_write cX5_write 5 (some FieldType.int) 3 RX5 := ⟨⟨rfl, by decide, by decide, by decide +kernel⟩, t_81, t_1272, t_1270, t_1271⟩
theorem yX5_narrowed_w : Ys yX5_narrowed cX5_narrowed 2 (some FieldType.int) 2 := ⟨⟨by decide, by decide, by decide +kernel⟩, t_81, t_1275, t_1274⟩
theorem yX5_copy_w : Yi yX5_copy cX5_copy 7 (some FieldType.int) 5 RX5 := ⟨⟨rfl, by decide, by decide, by decide +kernel⟩, t_81, t_1279, t_1277, t_1278⟩
theorem yX5_load_w : Yi yX5_load cX5_load 4 (some FieldType.int) 1 RX5 := ⟨⟨rfl, by decide, by decide, by decide +kernel⟩, t_81, t_1283, t_1281, t_1282⟩
theorem yX5_judge_w : Yi yX5_judge cX5_judge 4 (some FieldType.int) 1 RX5 := ⟨⟨rfl, by decide, by decide, by decide +kernel⟩, t_81, t_1287, t_1285, t_1286⟩
theorem yX5_image_w : Yi yX5_image cX5_image 2 (some FieldType.int) 0 RX5 := ⟨⟨rfl, by decide, by decide, by decide +kernel⟩, t_81, t_1291, t_1289, t_1290⟩
theorem yX5_undo_w : Yi yX5_undo cX5_undo 2 (some FieldType.int) 0 RX5 := ⟨⟨rfl, by decide, by decide, by decide +kernel⟩, t_81, t_1295, t_1293, t_1294⟩
theorem yX5_tear_w : Yi yX5_tear cX5_tear 2 (some FieldType.int) 0 RX5 := ⟨⟨rfl, by decide, by decide, by decide +kernel⟩, t_81, t_1299, t_1297, t_1298⟩
theorem yX5_count_w : Yi yX5_count cX5_count 2 (some FieldType.int) 1 RX5 := ⟨⟨rfl, by decide, by decide, by decide +kernel⟩, t_81, t_1303, t_1301, t_1302⟩
theorem yX5_heldSpots_w : Yi yX5_heldSpots cX5_heldSpots 3 (some FieldType.int) 0 RX5 := ⟨⟨rfl, by decide, by decide, by decide +kernel⟩, t_81, t_1307, t_1306, t_74⟩
theorem yX5_status_w : Yi yX5_status cX5_status 4 (some FieldType.int) 1 RX5 := ⟨⟨rfl, by decide, by decide, by decide +kernel⟩, t_81, t_1311, t_1309, t_1310⟩
