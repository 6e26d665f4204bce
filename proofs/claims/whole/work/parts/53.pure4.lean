theorem bv_sh (x : BitVec 32) (s : Nat) (hs : s ≤ 24) : x.sshiftRight s &&& 255#32 = x >>> s &&& 255#32 := by
  apply BitVec.eq_of_getLsbD_eq
  intro i hi
  rw [BitVec.getLsbD_and, BitVec.getLsbD_and]
  by_cases h8 : i < 8
  · congr 1
    rw [BitVec.getLsbD_sshiftRight, BitVec.getLsbD_ushiftRight]
    simp only [show ¬ (32 ≤ i) by omega, decide_false, Bool.not_false, Bool.true_and, show s + i < 32 by omega, if_true]
  · have e : (255#32).getLsbD i = false := by
      have h1 : ∀ i, i < 32 → (i < 8 ∨ (255#32).getLsbD i = false) := by decide
      exact (h1 i hi).resolve_left h8
    rw [e, Bool.and_false, Bool.and_false]
theorem sh_24 (x : Int32) : (x >>> (iI 24 &&& 31)) &&& iI 255 = (x.toUInt32 >>> ((iI 24).toUInt32 &&& Int32.toUInt32 31)).toInt32 &&& iI 255 := by
  apply Int32.toBitVec_inj.mp
  exact bv_sh x.toBitVec 24 (by omega)
theorem sh_16 (x : Int32) : (x >>> (iI 16 &&& 31)) &&& iI 255 = (x.toUInt32 >>> ((iI 16).toUInt32 &&& Int32.toUInt32 31)).toInt32 &&& iI 255 := by
  apply Int32.toBitVec_inj.mp
  exact bv_sh x.toBitVec 16 (by omega)
theorem sh_8 (x : Int32) : (x >>> (iI 8 &&& 31)) &&& iI 255 = (x.toUInt32 >>> ((iI 8).toUInt32 &&& Int32.toUInt32 31)).toInt32 &&& iI 255 := by
  apply Int32.toBitVec_inj.mp
  exact bv_sh x.toBitVec 8 (by omega)
theorem sh_0 (x : Int32) : (x >>> (iI 0 &&& 31)) &&& iI 255 = (x.toUInt32 >>> ((iI 0).toUInt32 &&& Int32.toUInt32 31)).toInt32 &&& iI 255 := by
  apply Int32.toBitVec_inj.mp
  exact bv_sh x.toBitVec 0 (by omega)
theorem band_sh {v s : Int} (hs : s = 0 ∨ s = 8 ∨ s = 16 ∨ s = 24) : band (bshr v s) 255 = band (bushr v s) 255 := by
  unfold band bshr bushr
  rw [iI_of, iI_of]
  rcases hs with rfl | rfl | rfl | rfl
  · rw [sh_0]
  · rw [sh_8]
  · rw [sh_16]
  · rw [sh_24]
theorem apM_is {v : Int} {n L : Nat} {B : Nat → Int} (hn : n ≤ 4) : ∀ m, m ≤ n → apM v n L B m = apF v n L B m
  | 0, _ => rfl
  | m + 1, h => by
    have ih := apM_is (v := v) (L := L) (B := B) hn m (by omega)
    rw [apM, apF, ih, band_sh (by omega)]
theorem byte_sh {v s : Int} (hs : s = 0 ∨ s = 8 ∨ s = 16 ∨ s = 24) : 0 ≤ band (bushr v s) 255 ∧ band (bushr v s) 255 ≤ 255 := by
  have h := pk_and (iI (bushr v s)) (m := iI 255) 8 (by decide)
  unfold band
  rw [h]
  have h2 : (iI (bushr v s)).toBitVec.toNat % 2 ^ 8 < 256 := Nat.mod_lt _ (by decide)
  generalize (iI (bushr v s)).toBitVec.toNat % 2 ^ 8 = y at h2
  have h3 : ∀ y, y < 256 → 0 ≤ (nI y).toInt ∧ (nI y).toInt ≤ 255 := by decide +kernel
  exact h3 y h2
