/-! ===== strings ===== -/
def sby (i j : Nat) : Int := ((sbyt.getD i []).getD j 0).toInt
def sln (i : Nat) : Nat := slen.getD i 0
theorem sln_lt {i : Nat} (h : i < 14) : sln i < 8 := by
  have h1 : ∀ i, i < 14 → sln i < 8 := by decide
  exact h1 i h
theorem sby_rng {i j : Nat} (h : i < 14) (hj : j < sln i) : 97 ≤ sby i j ∧ sby i j ≤ 122 := by
  have h1 : ∀ i, i < 14 → ∀ j, j < sln i → 97 ≤ sby i j ∧ sby i j ≤ 122 := by decide +kernel
  exact h1 i h j hj
theorem band_255 {x : Int} (h : 0 ≤ x ∧ x ≤ 255) : band x 255 = x := by
  have h1 : ∀ a, a < 256 → band ((a : Nat) : Int) 255 = ((a : Nat) : Int) := by decide +kernel
  have h2 := h1 x.toNat (by omega)
  rw [show ((x.toNat : Nat) : Int) = x by omega] at h2
  exact h2
section STR
variable {g : Gt} {E : Ev} {post : Option Value → Sg → Prop} {cc : ByteArray} {nL pc d : Nat} {own : String} {ret : Option FieldType} {lv : List (Nat × Value)} {st st0 : List Value} {σ : Sg} {y : MethodName} {cy : ByteArray} {n nA dy i : Nat} {ry : Option FieldType} {As : List Value} {po : Option Value → Sg → Prop}
theorem r_ldcS (C : Cx g E cc nL RX3 ret d) (q : Nat) (hq : q < 14) (hd : decode cc pc = .ok (.ldc (skey q), 2)) (k : J g E post nL (pc + 2) lv (.ref (gK g q) :: st) σ) : J g E post nL pc lv st σ := by
  obtain ⟨p, e, R, s, m, args, below, meth, c⟩ := E
  obtain ⟨hx, hb, hml, hown, hts, hr, hlk, hR, hF, hD⟩ := C
  intro ls H locs hl hP hS
  exact va_ldcS hx hb hown (hF.2.2.2.2.2.1 q hq) hd (k ls H locs hl hP hS)
theorem r_strV (C : Cx g E cc nL own ret d) {q x : Nat} (hq : q < 14) (hw : Cond.fieldLink own x "java/lang/String" "value" "[B" ∈ tbl) (hd : decode cc pc = .ok (.getfield x, 3)) (k : J g E post nL (pc + 3) lv (.ref (gV g q) :: st) σ) : J g E post nL pc lv (.ref (gK g q) :: st) σ := by
  obtain ⟨p, e, R, s, m, args, below, meth, c⟩ := E
  obtain ⟨hx, hb, hml, hown, hts, hr, hlk, hR, hF, hD⟩ := C
  intro ls H locs hl hP hS
  exact vk_getf hx hb (hF.2.2.2.2.2.2.1.1 q hq).2.2.1 hS hown (hts _ hw) (fun _ h => h) hd (k ls H locs hl hP hS)
theorem r_strC (C : Cx g E cc nL own ret d) {q x : Nat} (hq : q < 14) (hw : Cond.fieldLink own x "java/lang/String" "coder" "B" ∈ tbl) (hd : decode cc pc = .ok (.getfield x, 3)) (k : J g E post nL (pc + 3) lv (.int (iI 0) :: st) σ) : J g E post nL pc lv (.ref (gK g q) :: st) σ := by
  obtain ⟨p, e, R, s, m, args, below, meth, c⟩ := E
  obtain ⟨hx, hb, hml, hown, hts, hr, hlk, hR, hF, hD⟩ := C
  intro ls H locs hl hP hS
  exact vk_getf hx hb (hF.2.2.2.2.2.2.1.1 q hq).2.1 hS hown (hts _ hw) (fun _ h => h) hd (k ls H locs hl hP hS)
theorem r_alenV (C : Cx g E cc nL own ret d) {q : Nat} (hq : q < 14) (hd : decode cc pc = .ok (.arraylength, 1)) (k : J g E post nL (pc + 1) lv (.int (iI ((sln q : Nat) : Int)) :: st) σ) : J g E post nL pc lv (.ref (gV g q) :: st) σ := by
  obtain ⟨p, e, R, s, m, args, below, meth, c⟩ := E
  obtain ⟨hx, hb, hml, hown, hts, hr, hlk, hR, hF, hD⟩ := C
  intro ls H locs hl hP hS
  exact va_tlen hx hb (hF.2.2.2.2.2.2.1.1 q hq).2.2.2 hS rfl hd (k ls H locs hl hP hS)
theorem r_baldV (C : Cx g E cc nL own ret d) {q : Nat} {a : Int} (j : Nat) (hq : q < 14) (ha : a = (j : Int)) (hj : j < sln q) (hd : decode cc pc = .ok (.baload, 1)) (k : J g E post nL (pc + 1) lv (.int (iI (sby q j)) :: st) σ) : J g E post nL pc lv (.int (iI a) :: .ref (gV g q) :: st) σ := by
  have hs := sln_lt hq
  obtain ⟨p, e, R, s, m, args, below, meth, c⟩ := E
  obtain ⟨hx, hb, hml, hown, hts, hr, hlk, hR, hF, hD⟩ := C
  intro ls H locs hl hP hS
  refine va_tb hx hb (hF.2.2.2.2.2.2.1.1 q hq).2.2.2 hS (iI_in (n := sln q) ha hj (by omega)) (v := .int (iI (sby q j))) ?_ hd (k ls H locs hl hP hS)
  rw [iI_clamp ha (by omega)]
  exact congrArg Value.int (iI_of _).symm
theorem r_getsC (C : Cx g E cc nL own ret d) {x : Nat} (hw : Cond.fieldLink own x "java/lang/String" "COMPACT_STRINGS" "Z" ∈ tbl) (hd : decode cc pc = .ok (.getstatic x, 3)) (k : J g E post nL (pc + 3) lv (.int (iI 1) :: st) σ) : J g E post nL pc lv st σ := by
  obtain ⟨p, e, R, s, m, args, below, meth, c⟩ := E
  obtain ⟨hx, hb, hml, hown, hts, hr, hlk, hR, hF, hD⟩ := C
  intro ls H locs hl hP hS
  exact va_gets hx hb hF.2.2.2.2.2.2.2.1 hS hown (hts _ hw) (fun _ h => h) hd (k ls H locs hl hP hS)
theorem r_getsF (C : Cx g E cc nL own ret d) {x : Nat} (hw : Cond.fieldLink own x "jdk/internal/util/Preconditions" "SIOOBE_FORMATTER" "Ljava/util/function/BiFunction;" ∈ tbl) (hd : decode cc pc = .ok (.getstatic x, 3)) (k0 : J g E post nL (pc + 3) lv (.null :: st) σ) (k1 : ∀ t : Nat, J g E post nL (pc + 3) lv (.ref t :: st) σ) : J g E post nL pc lv st σ := by
  obtain ⟨p, e, R, s, m, args, below, meth, c⟩ := E
  obtain ⟨hx, hb, hml, hown, hts, hr, hlk, hR, hF, hD⟩ := C
  intro ls H locs hl hP hS
  rcases hF.2.2.2.2.2.2.2.2 with h | ⟨t, h⟩
  · exact va_gets hx hb h hS hown (hts _ hw) (fun _ h => h) hd (k0 ls H locs hl hP hS)
  · exact va_gets hx hb h hS hown (hts _ hw) (fun _ h => h) hd (k1 t ls H locs hl hP hS)
theorem r_i2c (C : Cx g E cc nL own ret d) {a : Int} (ha : 0 ≤ a ∧ a ≤ 255) (hd : decode cc pc = .ok (.i2c, 1)) (k : J g E post nL (pc + 1) lv (.int (iI a) :: st) σ) : J g E post nL pc lv (.int (iI a) :: st) σ := by
  obtain ⟨p, e, R, s, m, args, below, meth, c⟩ := E
  obtain ⟨hx, hb, hml, hown, hts, hr, hlk, hR, hF, hD⟩ := C
  intro ls H locs hl hP hS
  refine lv_i2c hx hb hd ?_ (k ls H locs hl hP hS)
  have h1 : ∀ b, b < 256 → ((iI ((b : Nat) : Int)).toUInt32 % 65536).toInt32 = iI ((b : Nat) : Int) := by decide +kernel
  have h2 := h1 a.toNat (by omega)
  rw [show ((a.toNat : Nat) : Int) = a by omega] at h2
  exact h2
theorem r_callVS (C : Cx g E cc nL own ret d) {q : Nat} (hq : q < 14) (hM : Mt g y cy n ry dy (.ref (gK g q) :: As) σ po) (hY : Yi y cy n ry nA RJ0) (hnA : As.length = nA) (w1 : Cond.methodLink own i y ∈ tbl) (hR2 : dy + 1 ≤ d ∧ 19 + n + 37 * dy ≤ 37 * d) (hrest : (st.map fun v => v.category).sum ≤ 8) (hst : st0 = As.reverse ++ .ref (gK g q) :: st) (hd : decode cc pc = .ok (.invokevirtual i, 3))
    (kk : ∀ (v : Option Value) (σ' : Sg), po v σ' → J g E post nL (pc + 3) lv (v.toList ++ st) σ') : J g E post nL pc lv st0 σ := by
  obtain ⟨p, e, R, s, m, args, below, meth, c⟩ := E
  obtain ⟨hx, hb, hml, hown, hts, hr, hlk, hR, hF, hD⟩ := C
  intro ls H locs hl hP hS
  subst hR
  obtain ⟨hy, w4, w5, w2, w3⟩ := hY
  have hcb : CallB (rmD d) s args own i y cy n ry (wsOf y cy n ry) (rmD dy) 0 0 nA := callB_of nA hts (wsOf_good w5) rfl rfl rfl (hts _ w4) (hts _ w1) hy.2 ⟨hR2.1, by show 8 + (n + 11) + 37 * dy ≤ 37 * d; omega⟩
  refine call_go (va_runV (C := RJ0) (As := As) (rest := st) (b := gK g q) (g := F0 m pc ls st0) ⟨hx, hb, hml, hown, hts⟩ hM ⟨hcb, hts _ w2, hts _ w3⟩ ⟨FrameBlind_Wd g _ σ, vk_recv hF.2.2.2.2.2.2.1 hq hS, fun U hU hW => ⟨rfl, by rw [hU]; exact hP, Fx_warm hW (fun a h1 h2 => by rw [hU]; exact hS.2.1 a h1 h2) hF, hD⟩⟩ rfl hnA hl.1 hst (lv_room hrest) hd ⟨Nat.zero_le _, Nat.zero_le _⟩) hS (fun v σ' H1 locs1 hp hP1 hS1 => kk v σ' hp ls H1 locs1 hl hP1 hS1)
theorem r_cTi {x : Int} {σ2 : Sg} (C : Cx g E cc nL own ret d) {q : Nat} (hq : q < 14) (hM : Mt g y cy n ry dy (.ref (gK g q) :: As) σ (pI x σ2)) (hY : Yi y cy n ry nA RJ0) (hnA : As.length = nA) (w1 : Cond.methodLink own i y ∈ tbl) (hR2 : dy + 1 ≤ d ∧ 19 + n + 37 * dy ≤ 37 * d) (hrest : (st.map fun v => v.category).sum ≤ 8) (hst : st0 = As.reverse ++ .ref (gK g q) :: st) (hd : decode cc pc = .ok (.invokevirtual i, 3)) (kk : J g E post nL (pc + 3) lv (.int (iI x) :: st) σ2) : J g E post nL pc lv st0 σ := r_callVS C hq hM hY hnA w1 hR2 hrest hst hd (fun v s h => by obtain ⟨rfl, rfl⟩ := h; exact kk)
end STR
