/-! ===== numbers: every int is iI of an Int ===== -/
def iI (x : Int) : Int32 := Int32.ofInt x
def iL (x : Int) : Int64 := Int64.ofInt x
def rng (x : Int) : Prop := -2147483648 ≤ x ∧ x ≤ 2147483647
def rngL (x : Int) : Prop := -9223372036854775808 ≤ x ∧ x ≤ 9223372036854775807
theorem iI_toInt {x : Int} (h : rng x) : (iI x).toInt = x := Int32.toInt_ofInt_of_le (by have h1 := h.1; omega) (by have h2 := h.2; omega)
theorem iL_toInt {x : Int} (h : rngL x) : (iL x).toInt = x := Int64.toInt_ofInt_of_le (by have h1 := h.1; omega) (by have h2 := h.2; omega)
theorem iI_of (x : Int32) : iI x.toInt = x := Int32.ofInt_toInt x
theorem iI_rng (x : Int32) : rng x.toInt := ⟨by have h := x.le_toInt; omega, by have h := x.toInt_lt; omega⟩
theorem iI_any (x : Int32) : ∃ a : Int, rng a ∧ x = iI a := ⟨x.toInt, iI_rng x, (iI_of x).symm⟩
theorem iI_add (a b : Int) : iI a + iI b = iI (a + b) := (Int32.ofInt_add a b).symm
theorem iI_sub (a b : Int) : iI a - iI b = iI (a - b) := (Int32.ofInt_sub a b).symm
theorem iI_mul (a b : Int) : iI a * iI b = iI (a * b) := (Int32.ofInt_mul a b).symm
theorem iI_neg (a : Int) : -iI a = iI (-a) := (Int32.ofInt_neg a).symm
theorem iL_add (a b : Int) : iL a + iL b = iL (a + b) := (Int64.ofInt_add a b).symm
theorem iL_mul (a b : Int) : iL a * iL b = iL (a * b) := (Int64.ofInt_mul a b).symm
theorem iI_eq {a b : Int} (ha : rng a) (hb : rng b) : iI a = iI b ↔ a = b := ⟨fun h => by rw [← iI_toInt ha, ← iI_toInt hb, h], fun h => by rw [h]⟩
theorem iI_lt {a b : Int} (ha : rng a) (hb : rng b) : iI a < iI b ↔ a < b := by rw [Int32.lt_iff_toInt_lt, iI_toInt ha, iI_toInt hb]
theorem iI_le {a b : Int} (ha : rng a) (hb : rng b) : iI a ≤ iI b ↔ a ≤ b := by rw [Int32.le_iff_toInt_le, iI_toInt ha, iI_toInt hb]
theorem iL_eq {a b : Int} (ha : rngL a) (hb : rngL b) : iL a = iL b ↔ a = b := ⟨fun h => by rw [← iL_toInt ha, ← iL_toInt hb, h], fun h => by rw [h]⟩
theorem iL_lt {a b : Int} (ha : rngL a) (hb : rngL b) : iL a < iL b ↔ a < b := by rw [Int64.lt_iff_toInt_lt, iL_toInt ha, iL_toInt hb]
theorem rng0 : rng 0 := ⟨by decide, by decide⟩
theorem iI_0 : (0 : Int32) = iI 0 := by decide
theorem iI_nat (n : Nat) : iI (n : Int) = nI n := Int32.ofInt_eq_ofNat
theorem iI_clamp {a : Int} {j : Nat} (h : a = (j : Int)) (hj : j < 2147483648) : (iI a).toNatClampNeg = j := by
  rw [h, iI_nat]
  exact nI_clamp (by omega)
theorem iI_in {a : Int} {j n : Nat} (h : a = (j : Int)) (hj : j < n) (hn : n < 2147483648) : vp_in (iI a) n := by
  rw [h, iI_nat]
  exact vp_in_nI hj (by omega)
theorem iI_div {a b : Int} (ha : 0 ≤ a) (ha2 : a ≤ 2147483647) (hb : 0 < b) (hb2 : b ≤ 2147483647) : iI a / iI b = iI (a / b) := by
  obtain ⟨x, rfl⟩ := Int.eq_ofNat_of_zero_le ha
  obtain ⟨y, rfl⟩ := Int.eq_ofNat_of_zero_le (Int.le_of_lt hb)
  have e : ((x : Int) / (y : Int)) = ((x / y : Nat) : Int) := (Int.natCast_ediv x y).symm
  rw [e, iI_nat, iI_nat, iI_nat]
  exact pk_div (by omega) (by omega) (by omega)
theorem iI_rem {a b : Int} (ha : 0 ≤ a) (ha2 : a ≤ 2147483647) (hb : 0 < b) (hb2 : b ≤ 2147483647) : iI a - iI a / iI b * iI b = iI (a % b) := by
  rw [iI_div ha ha2 hb hb2, iI_mul, iI_sub]
  congr 1
  have h1 := Int.emod_def a b
  rw [h1, Int.mul_comm]
theorem iI_ne0 {b : Int} (hb : 0 < b) (hb2 : b ≤ 2147483647) : ¬ iI b = 0 := by
  rw [iI_0, iI_eq ⟨by omega, hb2⟩ rng0]
  omega
theorem iI_wide {a : Int} (h : rng a) : (iI a).toInt64 = iL a := by
  have h1 := h.1
  have h2 := h.2
  apply Int64.toInt_inj.mp
  rw [Int32.toInt_toInt64, iI_toInt h, iL_toInt ⟨by omega, by omega⟩]
/-- the bits' functions, on Ints, by way of the ints themselves -/
def band (a b : Int) : Int := (iI a &&& iI b).toInt
def bor (a b : Int) : Int := (iI a ||| iI b).toInt
def bxor (a b : Int) : Int := (iI a ^^^ iI b).toInt
def bshl (a b : Int) : Int := (iI a <<< (iI b &&& 31)).toInt
def bshr (a b : Int) : Int := (iI a >>> (iI b &&& 31)).toInt
def bushr (a b : Int) : Int := ((iI a).toUInt32 >>> ((iI b).toUInt32 &&& Int32.toUInt32 31)).toInt32.toInt
def i8 (a : Int) : Int := (iI a).toInt8.toInt32.toInt
def i16 (a : Int) : Int := (iI a).toInt16.toInt32.toInt
theorem band_rng (a b : Int) : rng (band a b) := iI_rng _
theorem bor_rng (a b : Int) : rng (bor a b) := iI_rng _
theorem bxor_rng (a b : Int) : rng (bxor a b) := iI_rng _
theorem bshl_rng (a b : Int) : rng (bshl a b) := iI_rng _
theorem bshr_rng (a b : Int) : rng (bshr a b) := iI_rng _
theorem bushr_rng (a b : Int) : rng (bushr a b) := iI_rng _
/-- a long compare -/
def lc (a b : Int) : Int := if b < a then 1 else if a = b then 0 else -1
theorem lc_rng (a b : Int) : rng (lc a b) := by
  unfold lc
  split
  · exact ⟨by decide, by decide⟩
  · split <;> exact ⟨by decide, by decide⟩
theorem lc_lt {a b : Int} : lc a b < 0 ↔ a < b := by
  unfold lc
  split
  · omega
  · split <;> omega
theorem lc_gt {a b : Int} : 0 < lc a b ↔ b < a := by
  unfold lc
  split
  · omega
  · split <;> omega
theorem lc_eq {a b : Int} : lc a b = 0 ↔ a = b := by
  unfold lc
  split
  · omega
  · split <;> omega
theorem lc_is {a b : Int} (ha : rngL a) (hb : rngL b) : lg_cmp (iL a) (iL b) = iI (lc a b) := by
  unfold lg_cmp lc
  by_cases h : b < a
  · rw [if_pos h, if_pos (show iL a > iL b from (iL_lt hb ha).mpr h)]
    decide
  · rw [if_neg h, if_neg (fun q => h ((iL_lt hb ha).mp q))]
    by_cases h2 : a = b
    · rw [if_pos h2, if_pos ((iL_eq ha hb).mpr h2)]
      decide
    · rw [if_neg h2, if_neg (fun q => h2 ((iL_eq ha hb).mp q))]
      decide
/-! ===== the state of all cells, as Ints ===== -/
abbrev Sg : Type := Nat → Nat → Int
def up (f : Nat → Int) (k : Nat) (x : Int) : Nat → Int := fun j => if j = k then x else f j
def us (σ : Sg) (k : Nat) (f : Nat → Int) : Sg := fun j => if j = k then f else σ j
def wr (σ : Sg) (k j : Nat) (x : Int) : Sg := us σ k (up (σ k) j x)
theorem up_s (f : Nat → Int) (k : Nat) (x : Int) : up f k x k = x := by simp [up]
theorem up_n (f : Nat → Int) {k j : Nat} (x : Int) (h : j ≠ k) : up f k x j = f j := by simp [up, h]
theorem us_s (σ : Sg) (k : Nat) (f : Nat → Int) : us σ k f k = f := by simp [us]
theorem us_n (σ : Sg) {k j : Nat} (f : Nat → Int) (h : j ≠ k) : us σ k f j = σ j := by simp [us, h]
theorem us_id (σ : Sg) (k : Nat) : us σ k (σ k) = σ := by
  funext j
  by_cases h : j = k
  · rw [h, us_s]
  · rw [us_n _ _ h]
theorem us_us (σ : Sg) (k : Nat) (f h : Nat → Int) : us (us σ k f) k h = us σ k h := by
  funext j
  by_cases e : j = k
  · rw [e, us_s, us_s]
  · rw [us_n _ _ e, us_n _ _ e, us_n _ _ e]
theorem wr_s (σ : Sg) (k j : Nat) (x : Int) : wr σ k j x k = up (σ k) j x := us_s _ _ _
theorem wr_n (σ : Sg) {k k' : Nat} (j : Nat) (x : Int) (h : k' ≠ k) : wr σ k j x k' = σ k' := us_n _ _ h
def cpy (f h : Nat → Int) (sp dp n : Nat) : Nat → Int := fun k => if dp ≤ k ∧ k < dp + n then f (sp + (k - dp)) else h k
/-! ===== the cells: rooms 0, 8, 16 (object, dust, blown, kind, at, goods, marks, spots); 24 tape, 25 its bytes; 26 reader, 27 types, 28 starts, 29 values; 30 sheets, 31 33 35 37 a sheet, 32 34 36 38 its numbers; 39 findings; 40 DustLand; 41 the model, 42 s, 43 keptS, 44 other, 45 aside, 46 statuses, 47 then, 48 held, 49 tape, 50 bitsOf, 51 sizeOf, 52 numbers, 53 moved ===== -/
def al (k : Nat) : Nat := if k < 24 then (match k % 8 with
    | 1 => 12
    | 2 => 12
    | 3 => 8
    | 4 => 8
    | 5 => 8
    | 6 => 96
    | 7 => 10
    | _ => 0) else match k with
  | 25 => 120
  | 27 => 121
  | 28 => 121
  | 29 => 121
  | 32 => 40
  | 34 => 40
  | 36 => 40
  | 38 => 40
  | 39 => 7
  | 42 => 147
  | 43 => 147
  | 44 => 147
  | 45 => 147
  | 46 => 7
  | 47 => 12
  | 48 => 12
  | 49 => 120
  | 50 => 4
  | 51 => 4
  | 52 => 160
  | 53 => 40
  | _ => 0
def oc (k : Nat) : Option Nat := if k < 24 then (if k % 8 = 0 then some 0 else none) else match k with
  | 24 => some 2
  | 26 => some 3
  | 31 => some 1
  | 33 => some 1
  | 35 => some 1
  | 37 => some 1
  | 40 => some 4
  | 41 => some 5
  | _ => none
def nf (ci : Nat) : Nat := match ci with
  | 0 => 12
  | 1 => 3
  | 2 => 2
  | 3 => 5
  | 4 => 8
  | _ => 19
/-- where a field of an object that is a reference leads -/
def rf (k j : Nat) : Option Nat := if k < 24 then (if j < 7 then some (k + 1 + j) else none) else match k with
  | 24 => (if j = 0 then some 25 else none)
  | 26 => (if j < 3 then some (27 + j) else none)
  | 31 => (if j = 0 then some 32 else none)
  | 33 => (if j = 0 then some 34 else none)
  | 35 => (if j = 0 then some 36 else none)
  | 37 => (if j = 0 then some 38 else none)
  | 40 => (match j with
    | 0 => some 0
    | 1 => some 8
    | 2 => some 16
    | 4 => some 24
    | 5 => some 26
    | 6 => some 30
    | 7 => some 39
    | _ => none)
  | 41 => (match j with
    | 0 => some 42
    | 1 => some 43
    | 2 => some 44
    | 3 => some 45
    | 4 => some 46
    | 7 => some 47
    | 8 => some 48
    | 9 => some 49
    | 15 => some 50
    | 16 => some 51
    | 17 => some 52
    | 18 => some 53
    | _ => none)
  | _ => none
/-- what is fixed: the launch, classes and slots, the two array classes, the cells' addresses, those of the three static arrays, of the String constants and of their bytes -/
abbrev Gt : Type := Launch × va_G × ClassId × ClassId × (Nat → Nat) × (Nat → Nat) × (Nat → Nat) × (Nat → Nat)
def gL (g : Gt) : Launch := g.1
def gD (g : Gt) : va_G := g.2.1
def gI (g : Gt) : ClassId := g.2.2.1
def gQ (g : Gt) : ClassId := g.2.2.2.1
def gA (g : Gt) : Nat → Nat := g.2.2.2.2.1
def gT (g : Gt) : Nat → Nat := g.2.2.2.2.2.1
def gK (g : Gt) : Nat → Nat := g.2.2.2.2.2.2.1
def gV (g : Gt) : Nat → Nat := g.2.2.2.2.2.2.2
def cls : List vw_C := [(RX0, TX0, 12), (RX1, TX1, 3), (RX2, TX2, 2), (RX3, TX3, 5), (RX4, TX4, 8), (RX5, TX5, 19)]
def fv (g : Gt) (σ : Sg) (k j : Nat) : Value := match rf k j with
  | some k' => .ref (gA g k')
  | none => .int (iI (σ k j))
def fl (g : Gt) (σ : Sg) (k n : Nat) : List Value := (List.range n).map (fv g σ k)
def ce (g : Gt) (σ : Sg) (k : Nat) : va_E := match oc k with
  | some ci => .inr (ci, fl g σ k (nf ci))
  | none => if k = 30 then .inl (gQ g, 4, .inr (.inr (.inr (.inr (fun j => some (gA g (31 + 2 * j))))))) else .inl (gI g, al k, .inl (fun j => iI (σ k j)))
def cw (g : Gt) (σ : Sg) : va_W := (List.range 54).map (fun k => (gA g k, ce g σ k))
def aw (g : Gt) : Nat → Prop := fun q => ∃ k, k < 54 ∧ q = gA g k
def Dg (g : Gt) : Prop := ∀ i j, i < 54 → j < 54 → gA g i = gA g j → i = j
theorem cw_at {g : Gt} {σ : Sg} {k : Nat} (hk : k < 54) : (cw g σ)[k]? = some (gA g k, ce g σ k) := by
  unfold cw
  rw [List.getElem?_map, List.getElem?_range hk]
  rfl
theorem cw_len (g : Gt) (σ : Sg) : (cw g σ).length = 54 := by simp [cw]
theorem cw_inv {g : Gt} {σ : Sg} {k : Nat} {q : Nat × va_E} (h : (cw g σ)[k]? = some q) : k < 54 ∧ q = (gA g k, ce g σ k) := by
  have hk : k < 54 := by
    have := (List.getElem?_eq_some_iff.mp h).1
    rwa [cw_len] at this
  rw [cw_at hk] at h
  exact ⟨hk, (Option.some.inj h).symm⟩
theorem cwD {g : Gt} (h : Dg g) (σ : Sg) : va_D (aw g) (cw g σ) := by
  refine ⟨fun i j p q hi hj e => ?_, fun k q hk => ?_⟩
  · obtain ⟨h1, rfl⟩ := cw_inv hi
    obtain ⟨h2, rfl⟩ := cw_inv hj
    exact h i j h1 h2 e
  · obtain ⟨h1, rfl⟩ := cw_inv hk
    exact ⟨k, h1, rfl⟩
theorem ce_congr {g : Gt} {σ σ' : Sg} {k : Nat} (h : σ' k = σ k) : ce g σ' k = ce g σ k := by
  have h1 : ∀ j, σ' k j = σ k j := fun j => by rw [h]
  unfold ce fl fv
  simp only [h1]
theorem cw_set {g : Gt} {σ σ' : Sg} {k : Nat} {e : va_E} (hk : k < 54) (he : ce g σ' k = e) (ho : ∀ k', k' ≠ k → σ' k' = σ k') : (cw g σ).set k (gA g k, e) = cw g σ' := by
  apply List.ext_getElem?
  intro i
  by_cases hi : i = k
  · subst hi
    rw [List.getElem?_set_self (by rw [cw_len]; exact hk), cw_at hk, he]
  · rw [List.getElem?_set_ne (fun h => hi h.symm)]
    by_cases h2 : i < 54
    · rw [cw_at h2, cw_at h2, ce_congr (ho i hi)]
    · rw [List.getElem?_eq_none (by rw [cw_len]; omega), List.getElem?_eq_none (by rw [cw_len]; omega)]
/-- an int array of n -/
def isA (k n : Nat) : Prop := k < 54 ∧ oc k = none ∧ k ≠ 30 ∧ al k = n ∧ n < 2147483648
/-- an object of a class -/
def isO (k ci : Nat) : Prop := k < 54 ∧ oc k = some ci
theorem ce_A {g : Gt} {σ : Sg} {k n : Nat} (h : isA k n) : ce g σ k = .inl (gI g, n, .inl (fun j => iI (σ k j))) := by
  obtain ⟨h1, h2, h3, h4, -⟩ := h
  unfold ce
  rw [h2, if_neg h3, h4]
theorem ce_O {g : Gt} {σ : Sg} {k ci : Nat} (h : isO k ci) : ce g σ k = .inr (ci, fl g σ k (nf ci)) := by
  unfold ce
  rw [h.2]
theorem fl_at {g : Gt} {σ : Sg} {k n j : Nat} (hj : j < n) : (fl g σ k n)[j]? = some (fv g σ k j) := by
  unfold fl
  rw [List.getElem?_map, List.getElem?_range hj]
  rfl
theorem fl_len (g : Gt) (σ : Sg) (k n : Nat) : (fl g σ k n).length = n := by simp [fl]
theorem fv_r {g : Gt} {σ : Sg} {k j k' : Nat} (h : rf k j = some k') : fv g σ k j = .ref (gA g k') := by
  unfold fv
  rw [h]
theorem fv_i {g : Gt} {σ : Sg} {k j : Nat} (h : rf k j = none) : fv g σ k j = .int (iI (σ k j)) := by
  unfold fv
  rw [h]
theorem fl_set {g : Gt} {σ : Sg} {k n j : Nat} (x : Int) (hj : j < n) (h : rf k j = none) : (fl g σ k n).set j (.int (iI x)) = fl g (wr σ k j x) k n := by
  apply List.ext_getElem?
  intro i
  by_cases hi : i = j
  · subst hi
    rw [List.getElem?_set_self (by rw [fl_len]; exact hj), fl_at hj, fv_i h, wr_s, up_s]
  · rw [List.getElem?_set_ne (fun q => hi q.symm)]
    by_cases h2 : i < n
    · rw [fl_at h2, fl_at h2]
      unfold fv
      cases rf k i with
      | some k' => rfl
      | none => rw [wr_s, up_n _ _ hi]
    · rw [List.getElem?_eq_none (by rw [fl_len]; omega), List.getElem?_eq_none (by rw [fl_len]; omega)]
theorem ce_put {g : Gt} {σ : Sg} {k ci j : Nat} (x : Int) (h : isO k ci) (hj : j < nf ci) (hr : rf k j = none) : ce g (wr σ k j x) k = .inr (ci, (fl g σ k (nf ci)).set j (.int (iI x))) := by
  rw [ce_O h, fl_set x hj hr]
theorem ce_ast {g : Gt} {σ : Sg} {k n j : Nat} (x : Int) (h : isA k n) : ce g (wr σ k j x) k = .inl (gI g, n, .inl (upd (fun j => iI (σ k j)) j (iI x))) := by
  rw [ce_A h]
  congr 4
  funext i
  rw [wr_s]
  unfold up upd
  split <;> rfl
theorem wr_o {σ : Sg} {k j : Nat} {x : Int} : ∀ k', k' ≠ k → wr σ k j x k' = σ k' := fun _ h => wr_n σ j x h
