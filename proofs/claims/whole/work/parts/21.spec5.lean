theorem dayC_rng {n fl w : Int} {K A : Nat → Int} {m : Int} {q : T3} (hn : 0 ≤ n ∧ n ≤ 8) (hf : 0 ≤ fl ∧ fl ≤ 99) (hA : rgA A) (hD : rgD q.1) (hG : rgG q.2.1) (hM : rgM q.2.2) : rgD (dayC n fl w K A m q).1 ∧ rgG (dayC n fl w K A m q).2.1 ∧ rgM (dayC n fl w K A m q).2.2 := by
  have h1 := swF_rng (K := K) (m := m) (q := (dyD w fl q.1, q.2.1)) hA (dyD_rng hf hD) hG n.toNat (by omega)
  have h2 := mkT_rng (n := n.toNat) (K := K) (D := (swF K A m (dyD w fl q.1, q.2.1) n.toNat).1) (by omega) hA h1.2 hM n.toNat (by omega)
  exact ⟨h1.1, rnF_rng hn h1.1 h1.2 12 (by omega), h2⟩
theorem daysC_rng {n fl w : Int} {K A : Nat → Int} {m : Int} {q : T3} (hn : 0 ≤ n ∧ n ≤ 8) (hf : 0 ≤ fl ∧ fl ≤ 99) (hA : rgA A) (hD : rgD q.1) (hG : rgG q.2.1) (hM : rgM q.2.2) : ∀ k, rgD (daysC n fl w K A m k q).1 ∧ rgG (daysC n fl w K A m k q).2.1 ∧ rgM (daysC n fl w K A m k q).2.2
  | 0 => ⟨hD, hG, hM⟩
  | k + 1 => by
    obtain ⟨h1, h2, h3⟩ := daysC_rng (w := w) (K := K) (m := m) hn hf hA hD hG hM k
    exact dayC_rng hn hf hA h1 h2 h3
theorem dstN_rng {n fl w : Int} {K A : Nat → Int} {m : Int} {D : Nat → Int} (hn : 0 ≤ n ∧ n ≤ 8) (hf : 0 ≤ fl ∧ fl ≤ 99) (hA : rgA A) (hD : rgD D) : ∀ k, rgD (dstN n fl w K A m k D) := by
  intro k
  have h := (daysC_rng (w := w) (K := K) (m := m) (q := (D, fun _ => 0, fun _ => 0)) hn hf hA hD (fun _ _ => ⟨by show (0 : Int) ≤ 0; omega, by show (0 : Int) ≤ 99999; omega⟩) (fun _ _ => ⟨by show (0 : Int) ≤ 0; omega, by show (0 : Int) ≤ 99; omega⟩) k).1
  rw [daysC_1] at h
  exact h
theorem dstS_rng {n fl w : Int} {K A : Nat → Int} {m : Int} {D : Nat → Int} (hn : 0 ≤ n ∧ n ≤ 8) (hf : 0 ≤ fl ∧ fl ≤ 99) (hA : rgA A) (hD : rgD D) (k : Nat) : 0 ≤ sumF (dstN n fl w K A m k D) 12 ∧ sumF (dstN n fl w K A m k D) 12 ≤ 119988 := by
  have h := sumF_rng (f := dstN n fl w K A m k D) (m := 9999) 12 (dstN_rng hn hf hA hD k)
  omega
theorem RW_cong {σ τ : Sg} (h : ∀ k, (k < 8 ∨ 16 ≤ k) → τ k = σ k) (hW : RW σ 0) : RW τ 0 := by
  unfold RW at hW ⊢
  rw [h 0 (by omega), h (0 + 1) (by omega), h (0 + 3) (by omega), h (0 + 4) (by omega), h (0 + 5) (by omega), h (0 + 6) (by omega), h (0 + 7) (by omega)]
  exact hW
theorem rgA_up {A : Nat → Int} {k : Nat} {x : Int} (h : rgA A) (hx : 0 ≤ x ∧ x ≤ 11) : rgA (up A k x) := by
  intro j hj
  unfold up
  split
  · exact hx
  · exact h j hj
theorem rgK_up {A : Nat → Int} {k : Nat} {x : Int} (h : rgK A) (hx : 0 ≤ x ∧ x ≤ 6) : rgK (up A k x) := by
  intro j hj
  unfold up
  split
  · exact hx
  · exact h j hj
theorem RWt0 {σ : Sg} {t : Nat} {c : Int} (hc : 0 ≤ c ∧ c ≤ 11) (hW : RW σ 0) : RW (wr (bc_8_0 σ) 12 t c) 8 := by
  obtain ⟨h1, h2, h3, h4, h5, h6, h7, h8, h9, h10, h11⟩ := bc_RW hW
  exact ⟨h1, h2, h3, h4, h5, h6, h7, rgA_up h8 hc, h9, h10, h11⟩
theorem RWt1 {σ : Sg} {t : Nat} {c : Int} (hc : 0 ≤ c ∧ c ≤ 6) (hW : RW σ 0) : RW (wr (bc_8_0 σ) 11 t c) 8 := by
  obtain ⟨h1, h2, h3, h4, h5, h6, h7, h8, h9, h10, h11⟩ := bc_RW hW
  exact ⟨h1, h2, h3, h4, h5, h6, rgK_up h7 hc, h8, h9, h10, h11⟩
theorem RWt2 {σ : Sg} {c : Int} (hc : -3 ≤ c ∧ c ≤ 3) (hW : RW σ 0) : RW (wr (bc_8_0 σ) 8 9 c) 8 := by
  obtain ⟨h1, h2, h3, h4, h5, h6, h7, h8, h9, h10, h11⟩ := bc_RW hW
  exact ⟨h1, h2, hc, h4, h5, h6, h7, h8, h9, h10, h11⟩
theorem RWt3 {σ : Sg} {x y : Nat} (hx : x < 8) (hy : y < 8) (hW : RW σ 0) : RW (wr (wr (bc_8_0 σ) 12 x (bc_8_0 σ 12 y)) 12 y (bc_8_0 σ 12 x)) 8 := by
  obtain ⟨h1, h2, h3, h4, h5, h6, h7, h8, h9, h10, h11⟩ := bc_RW hW
  exact ⟨h1, h2, h3, h4, h5, h6, h7, rgA_up (rgA_up h8 (h8 y hy)) (h8 x hx), h9, h10, h11⟩
theorem RWf {σ : Sg} {c : Int} (hc : 0 ≤ c ∧ c ≤ 99) (hW : RW σ 0) : RW (wr (bc_8_0 σ) 8 8 c) 8 := by
  obtain ⟨h1, h2, h3, h4, h5, h6, h7, h8, h9, h10, h11⟩ := bc_RW hW
  exact ⟨h1, hc, h3, h4, h5, h6, h7, h8, h9, h10, h11⟩
theorem bst_rng {V : Int → Int} {a m : Int} (hm : 0 ≤ m) : ∀ i : Nat, (∀ j : Nat, j < i → 0 ≤ V (a + (j : Int)) ∧ V (a + (j : Int)) ≤ m) → -1 ≤ (bst V a i).2 ∧ (bst V a i).2 ≤ m
  | 0, _ => by
    show -1 ≤ (-1 : Int) ∧ (-1 : Int) ≤ m
    omega
  | i + 1, h => by
    have ih := bst_rng hm i (fun j hj => h j (by omega))
    have h1 := h i (by omega)
    unfold bst
    split
    · exact ⟨by show -1 ≤ V (a + (i : Int)); omega, h1.2⟩
    · exact ih
theorem bstX_rng {V : Int → Int} {t : Nat} {m : Int} (hm : 0 ≤ m) : ∀ i : Nat, (∀ j : Nat, j < i → 0 ≤ V (j : Int) ∧ V (j : Int) ≤ m) → -1 ≤ (bstX V t i).2 ∧ (bstX V t i).2 ≤ m
  | 0, _ => by
    show -1 ≤ (-1 : Int) ∧ (-1 : Int) ≤ m
    omega
  | i + 1, h => by
    have ih := bstX_rng (t := t) hm i (fun j hj => h j (by omega))
    have h1 := h i (by omega)
    unfold bstX
    split
    · exact ⟨by show -1 ≤ V (i : Int); omega, h1.2⟩
    · exact ih
theorem bushr_8 (x : Int) : 0 ≤ bushr x 8 ∧ bushr x 8 ≤ 16777215 := by
  have h := pk_ushr (iI x) (iI 8) 8 (by decide)
  unfold bushr
  obtain ⟨n, hn⟩ : ∃ n : Nat, n = ((iI x).toUInt32 >>> ((iI 8).toUInt32 &&& Int32.toUInt32 31)).toInt32.toBitVec.toNat := ⟨_, rfl⟩
  have h2 : n ≤ 16777215 := by
    rw [hn, h]
    have := (iI x).toBitVec.isLt
    omega
  have e : (((iI x).toUInt32 >>> ((iI 8).toUInt32 &&& Int32.toUInt32 31)).toInt32).toInt = (n : Int) := by
    show (((iI x).toUInt32 >>> ((iI 8).toUInt32 &&& Int32.toUInt32 31)).toInt32).toBitVec.toInt = (n : Int)
    rw [BitVec.toInt_eq_toNat_of_lt (by omega), hn]
  rw [e]
  omega
theorem bsh1 {n : Int} (h : 0 ≤ n ∧ n ≤ 8) : bshl 1 n = ((2 ^ n.toNat : Nat) : Int) ∧ 1 ≤ bshl 1 n ∧ bshl 1 n ≤ 256 := by
  rcases (show n = 0 ∨ n = 1 ∨ n = 2 ∨ n = 3 ∨ n = 4 ∨ n = 5 ∨ n = 6 ∨ n = 7 ∨ n = 8 by omega) with rfl | rfl | rfl | rfl | rfl | rfl | rfl | rfl | rfl <;> decide
theorem bitc_rng (x : Int) : rng (bitc x) := band_rng _ _
/-- the halving for the greatest fall that is too little -/
def stp : Nat → Int
  | 0 => 64
  | j + 1 => stp j / 2
def fbF (V : Int → Int) (v : Int) : Nat → Int
  | 0 => -1
  | j + 1 => if fbF V v j + stp j ≤ 99 ∧ V (fbF V v j + stp j) < v then fbF V v j + stp j else fbF V v j
theorem stp_pos {j : Nat} (h : j < 7) : 0 < stp j ∧ stp j ≤ 64 := by
  rcases (show j = 0 ∨ j = 1 ∨ j = 2 ∨ j = 3 ∨ j = 4 ∨ j = 5 ∨ j = 6 by omega) with rfl | rfl | rfl | rfl | rfl | rfl | rfl <;> decide
theorem fbF_rng (V : Int → Int) (v : Int) : ∀ j, j ≤ 7 → -1 ≤ fbF V v j ∧ fbF V v j ≤ 99
  | 0, _ => by
    show -1 ≤ (-1 : Int) ∧ (-1 : Int) ≤ 99
    omega
  | j + 1, h => by
    have ih := fbF_rng V v j (by omega)
    have hs := stp_pos (j := j) (by omega)
    unfold fbF
    split <;> omega
/-- the first size of which a set does, and that set -/
def brm (fs : Nat → Int) : Nat → Nat → Int
  | 0, _ => -1
  | f + 1, i => if fs i = -1 then brm fs f (i + 1) else fs i
/-- sneezes: a draw, all its dust goes on, a day -/
def snf (z : Int) : Nat := (bushr (zz z) 8 % 12).toNat
def sn1 (σ : Sg) : Sg := dyS_0 (us (wr σ 0 11 (zz (σ 0 11))) 1 (bwD (σ 1) (snf (σ 0 11)) 1))
def snS : Nat → Sg → Sg
  | 0, σ => σ
  | k + 1, σ => sn1 (snS k σ)
theorem snf_lt (z : Int) : snf z < 12 := by
  unfold snf
  omega
theorem snd_RW {σ : Sg} (hW : RW σ 0) : RW (us (wr σ 0 11 (zz (σ 0 11))) 1 (bwD (σ 1) (snf (σ 0 11)) 1)) 0 := by
  obtain ⟨h1, h2, h3, h4, h5, h6, h7, h8, h9, h10, h11⟩ := hW
  exact ⟨h1, h2, h3, h4, zz_rng _, bwD_rng (snf_lt _) h6, h7, h8, h9, h10, h11⟩
theorem snS_RW {σ : Sg} (hW : RW σ 0) : ∀ k, RW (snS k σ) 0
  | 0 => hW
  | k + 1 => dyS_RW_0 (snd_RW (snS_RW hW k))
def vSeat (n fl w : Int) (K A : Nat → Int) (q : T3) (t d : Nat) (c : Int) : Int := (daysC n fl w K (up A t c) 255 d q).2.1 t
def vKind (n fl w : Int) (K A : Nat → Int) (q : T3) (t d : Nat) (c : Int) : Int := (daysC n fl w (up K t c) A 255 d q).2.1 t
def vDrau (n fl w : Int) (K A : Nat → Int) (q : T3) (t d : Nat) (c : Int) : Int := (daysC n fl c K A 255 d q).2.1 t
def vSwap (n fl w : Int) (K A : Nat → Int) (q : T3) (t d : Nat) (c : Int) : Int := (daysC n fl w K (up (up A t (A c.toNat)) c.toNat (A t)) 255 d q).2.1 t
def vFall (n fl w : Int) (K A : Nat → Int) (D : Nat → Int) (d : Nat) (c : Int) : Int := sumF (dstN n c w K A 255 d D) 12
def vOut (n fl w : Int) (K A : Nat → Int) (D : Nat → Int) (d : Nat) (c : Int) : Int := sumF (dstN n fl w K A (band 255 (bxor (bshl 1 c) (-1))) d D) 12
def vSet (n fl w : Int) (K A : Nat → Int) (D : Nat → Int) (d : Nat) (c : Int) : Int := sumF (dstN n fl w K A c d D) 12
