/-! ===== the start ===== -/
theorem kI_of {args : Array Value} {s : State} {D : va_G} (hKc : ∀ (c : Nat) (q : vw_C), cls[c]? = some q → u_Kn s q.1 q.2.1 q.2.2 (D.1 c) (D.2 c)) (h : (Cond.arrayClass FieldType.int).before args s = true) : ∃ cI : ClassId, va_K D cls [(cI, .int)] s := by
  obtain ⟨cA, kA, comp, h1, h2, h3⟩ := Cond.arrayClass_spec h
  refine ⟨cA, hKc, fun k q hq => ?_⟩
  match k, hq with
  | 0, hq =>
    cases hq
    exact ⟨fun n z => ⟨fun k h => (by cases h), kA, h2, comp, h3⟩, h1⟩
  | k + 1, hq => simp at hq
theorem lw_mem {w : Cond} (i : Nat) (h : lw_tbl[i]? = some w) : w ∈ lw_tbl := List.mem_of_getElem? h
def gvn : List Cond := flatC (Jvm.Cond.and given_1 narrow_1)
set_option maxRecDepth 100000 in
theorem gv_T0 : Cond.arrayOf (.static "DustLand" "LEAVES" "[I") .int ∈ gvn ∧ Cond.eq (.length (.static "DustLand" "LEAVES" "[I")) (.int (Int32.ofNat 7)) ∈ gvn ∧ ∀ j, j < 7 → Cond.eq (.elem (.static "DustLand" "LEAVES" "[I") (.int (Int32.ofNat j))) (.int (iI (stab 0 j))) ∈ gvn := by decide +kernel
set_option maxRecDepth 100000 in
theorem gv_T1 : Cond.arrayOf (.static "DustLand" "SWEEPS" "[I") .int ∈ gvn ∧ Cond.eq (.length (.static "DustLand" "SWEEPS" "[I")) (.int (Int32.ofNat 7)) ∈ gvn ∧ ∀ j, j < 7 → Cond.eq (.elem (.static "DustLand" "SWEEPS" "[I") (.int (Int32.ofNat j))) (.int (iI (stab 1 j))) ∈ gvn := by decide +kernel
set_option maxRecDepth 100000 in
theorem gv_T2 : Cond.arrayOf (.static "DustLand" "ABOVE" "[I") .int ∈ gvn ∧ Cond.eq (.length (.static "DustLand" "ABOVE" "[I")) (.int (Int32.ofNat 7)) ∈ gvn ∧ ∀ j, j < 7 → Cond.eq (.elem (.static "DustLand" "ABOVE" "[I") (.int (Int32.ofNat j))) (.int (iI (stab 2 j))) ∈ gvn := by decide +kernel
set_option maxRecDepth 100000 in
theorem gv_Z : Cond.eq (.static "java/lang/String" "COMPACT_STRINGS" "Z") (.int 1) ∈ gvn ∧ Cond.isRef (.static "jdk/internal/util/Preconditions" "SIOOBE_FORMATTER" "Ljava/util/function/BiFunction;") ∈ gvn := by decide +kernel
def tmS (i : Nat) : Term := .string RX3 (skey i)
set_option maxRecDepth 100000 in
theorem gv_S : ∀ i, i < 14 → Cond.exactly (tmS i) "java/lang/String" ∈ gvn ∧ Cond.eq (.field (tmS i) "java/lang/String" "coder" "B") (.int 0) ∈ gvn ∧ Cond.arrayOf (.field (tmS i) "java/lang/String" "value" "[B") .byte ∈ gvn ∧ Cond.eq (.length (.field (tmS i) "java/lang/String" "value" "[B")) (.int (Int32.ofNat (slen.getD i 0))) ∈ gvn ∧ ∀ j, j < slen.getD i 0 → Cond.eq (.elem (.field (tmS i) "java/lang/String" "value" "[B") (.int (Int32.ofNat j))) (.int ((sbyt.getD i []).getD j 0)) ∈ gvn := by decide +kernel
set_option maxRecDepth 100000 in
theorem gv_N1 : ∀ i, i < 1 → Cond.not (Cond.eq (tmS i) (tmS 1)) ∈ gvn := by decide +kernel
set_option maxRecDepth 100000 in
theorem gv_N2 : ∀ i, i < 2 → Cond.not (Cond.eq (tmS i) (tmS 2)) ∈ gvn := by decide +kernel
set_option maxRecDepth 100000 in
theorem gv_N3 : ∀ i, i < 3 → Cond.not (Cond.eq (tmS i) (tmS 3)) ∈ gvn := by decide +kernel
set_option maxRecDepth 100000 in
theorem gv_N4 : ∀ i, i < 4 → Cond.not (Cond.eq (tmS i) (tmS 4)) ∈ gvn := by decide +kernel
set_option maxRecDepth 100000 in
theorem gv_N5 : ∀ i, i < 5 → Cond.not (Cond.eq (tmS i) (tmS 5)) ∈ gvn := by decide +kernel
set_option maxRecDepth 100000 in
theorem gv_N6 : ∀ i, i < 6 → Cond.not (Cond.eq (tmS i) (tmS 6)) ∈ gvn := by decide +kernel
set_option maxRecDepth 100000 in
theorem gv_N7 : ∀ i, i < 7 → Cond.not (Cond.eq (tmS i) (tmS 7)) ∈ gvn := by decide +kernel
set_option maxRecDepth 100000 in
theorem gv_N8 : ∀ i, i < 8 → Cond.not (Cond.eq (tmS i) (tmS 8)) ∈ gvn := by decide +kernel
set_option maxRecDepth 100000 in
theorem gv_N9 : ∀ i, i < 9 → Cond.not (Cond.eq (tmS i) (tmS 9)) ∈ gvn := by decide +kernel
set_option maxRecDepth 100000 in
theorem gv_N10 : ∀ i, i < 10 → Cond.not (Cond.eq (tmS i) (tmS 10)) ∈ gvn := by decide +kernel
set_option maxRecDepth 100000 in
theorem gv_N11 : ∀ i, i < 11 → Cond.not (Cond.eq (tmS i) (tmS 11)) ∈ gvn := by decide +kernel
set_option maxRecDepth 100000 in
theorem gv_N12 : ∀ i, i < 12 → Cond.not (Cond.eq (tmS i) (tmS 12)) ∈ gvn := by decide +kernel
set_option maxRecDepth 100000 in
theorem gv_N13 : ∀ i, i < 13 → Cond.not (Cond.eq (tmS i) (tmS 13)) ∈ gvn := by decide +kernel
theorem gv_N1_ {i j : Nat} (hj : j < 14) (hij : i < j) : Cond.not (Cond.eq (tmS i) (tmS j)) ∈ gvn := by
  rcases (show j = 1 ∨ j = 2 ∨ j = 3 ∨ j = 4 ∨ j = 5 ∨ j = 6 ∨ j = 7 ∨ j = 8 ∨ j = 9 ∨ j = 10 ∨ j = 11 ∨ j = 12 ∨ j = 13 by omega) with rfl | rfl | rfl | rfl | rfl | rfl | rfl | rfl | rfl | rfl | rfl | rfl | rfl
  · exact gv_N1 i hij
  · exact gv_N2 i hij
  · exact gv_N3 i hij
  · exact gv_N4 i hij
  · exact gv_N5 i hij
  · exact gv_N6 i hij
  · exact gv_N7 i hij
  · exact gv_N8 i hij
  · exact gv_N9 i hij
  · exact gv_N10 i hij
  · exact gv_N11 i hij
  · exact gv_N12 i hij
  · exact gv_N13 i hij
theorem gv_N : ∀ i, i < 14 → ∀ j, j < 14 → i ≠ j → Cond.not (Cond.eq (tmS i) (tmS j)) ∈ gvn ∨ Cond.not (Cond.eq (tmS j) (tmS i)) ∈ gvn := fun i hi j hj hij => (Nat.lt_or_gt_of_ne hij).elim (fun q => Or.inl (gv_N1_ hj q)) (fun q => Or.inr (gv_N1_ hi q))
theorem slen_lt : ∀ i, i < 14 → slen.getD i 0 < 2 ^ 31 := by decide
set_option maxRecDepth 100000 in
theorem lw_str : ∀ i, i < 14 → Cond.stringRef RX3 (skey i) (stxt i) ∈ lw_tbl := by
  intro i hi
  rcases (show i = 0 ∨ i = 1 ∨ i = 2 ∨ i = 3 ∨ i = 4 ∨ i = 5 ∨ i = 6 ∨ i = 7 ∨ i = 8 ∨ i = 9 ∨ i = 10 ∨ i = 11 ∨ i = 12 ∨ i = 13 by omega) with rfl | rfl | rfl | rfl | rfl | rfl | rfl | rfl | rfl | rfl | rfl | rfl | rfl | rfl
  · exact lw_mem 587 (by decide +kernel)
  · exact lw_mem 588 (by decide +kernel)
  · exact lw_mem 589 (by decide +kernel)
  · exact lw_mem 590 (by decide +kernel)
  · exact lw_mem 591 (by decide +kernel)
  · exact lw_mem 592 (by decide +kernel)
  · exact lw_mem 593 (by decide +kernel)
  · exact lw_mem 594 (by decide +kernel)
  · exact lw_mem 595 (by decide +kernel)
  · exact lw_mem 596 (by decide +kernel)
  · exact lw_mem 597 (by decide +kernel)
  · exact lw_mem 598 (by decide +kernel)
  · exact lw_mem 599 (by decide +kernel)
  · exact lw_mem 600 (by decide +kernel)
theorem Fx_of {s : State} {b : Nat} {D : va_G} {cI cQ : ClassId} {ad : Nat → Nat} (l : Launch) (hts : ∀ w ∈ lw_tbl, w.before #[Value.ref b] s = true) (hgv : (Jvm.Cond.and given_1 narrow_1).before #[Value.ref b] s = true) (hK : va_K D cls [(cI, .int), (cQ, .object RX1)] s) (had : ∀ k, k < 54 → s.heap.size ≤ ad k) : ∃ gT gK gV : Nat → Nat, Fx (l, D, cI, cQ, ad, gT, gK, gV) s := by
  have htb := tbl_law hts
  have hs : ∀ c ∈ gvn, c.before #[Value.ref b] s = true := flat_of_before _ hgv
  have hA : ∀ a : Nat, a < s.heap.size → ¬ (fun q : Nat => ∃ k, k < 54 ∧ q = ad k) a := fun a ha h => by
    obtain ⟨k, h1, h2⟩ := h
    have := had k h1
    omega
  obtain ⟨t0, e0, T0⟩ := va_Tof (f := fun j => .int (iI (stab 0 j))) (N := 7) (by decide) (hs _ gv_T0.1) (va_eqt (hs _ gv_T0.2.1)) (fun j hj => va_eqt (hs _ (gv_T0.2.2 j hj))) hA
  obtain ⟨t1, e1, T1⟩ := va_Tof (f := fun j => .int (iI (stab 1 j))) (N := 7) (by decide) (hs _ gv_T1.1) (va_eqt (hs _ gv_T1.2.1)) (fun j hj => va_eqt (hs _ (gv_T1.2.2 j hj))) hA
  obtain ⟨t2, e2, T2⟩ := va_Tof (f := fun j => .int (iI (stab 2 j))) (N := 7) (by decide) (hs _ gv_T2.1) (va_eqt (hs _ gv_T2.2.1)) (fun j hj => va_eqt (hs _ (gv_T2.2.2 j hj))) hA
  have hD : (Cond.initialized "DustLand").before #[Value.ref b] s = true := hts _ (lw_mem 76 (by decide +kernel))
  have Z0 := va_Zof (hts _ (lw_mem 301 (by decide +kernel) : Cond.laysStatic "DustLand" "LEAVES" "[I" ∈ lw_tbl)) hD e0 hA
  have Z1 := va_Zof (hts _ (lw_mem 303 (by decide +kernel) : Cond.laysStatic "DustLand" "SWEEPS" "[I" ∈ lw_tbl)) hD e1 hA
  have Z2 := va_Zof (hts _ (lw_mem 715 (by decide +kernel) : Cond.laysStatic "DustLand" "ABOVE" "[I" ∈ lw_tbl)) hD e2 hA
  have ZC := va_Zof (hts _ (lw_mem 614 (by decide +kernel) : Cond.laysStatic "java/lang/String" "COMPACT_STRINGS" "Z" ∈ lw_tbl)) (hts _ (lw_mem 85 (by decide +kernel))) (va_eqt (hs _ gv_Z.1)) hA
  have ZP := va_Zqof (hts _ (lw_mem 630 (by decide +kernel) : Cond.laysStatic "jdk/internal/util/Preconditions" "SIOOBE_FORMATTER" "Ljava/util/function/BiFunction;" ∈ lw_tbl)) (hts _ (lw_mem 87 (by decide +kernel))) (hs _ gv_Z.2) hA
  obtain ⟨aK, aV, hS, hK2⟩ := vk_Sof (tm := tmS) (len := slen) (byt := sbyt) slen_lt (fun i hi => hs _ (gv_S i hi).1) (fun i hi => hs _ (gv_S i hi).2.1) (fun i hi => hs _ (gv_S i hi).2.2.1) (fun i hi => hs _ (gv_S i hi).2.2.2.1) (fun i hi j hj => hs _ ((gv_S i hi).2.2.2.2 j hj)) (fun i j hi hj hij => (gv_N i hi j hj hij).elim (fun q => Or.inl (hs _ q)) (fun q => Or.inr (hs _ q))) hA
  refine ⟨fun i => if i = 0 then t0 else if i = 1 then t1 else t2, aK, aV, hK, ⟨Z0, T0⟩, ⟨Z1, T1⟩, ⟨Z2, T2⟩, ⟨va_Nw.of rfl (hts _ (lw_mem 300 (by decide +kernel))), va_Nw.of rfl (hts _ (lw_mem 374 (by decide +kernel))), va_Nw.of rfl (hts _ (lw_mem 393 (by decide +kernel))), va_Nw.of rfl (hts _ (lw_mem 669 (by decide +kernel)))⟩, fun i hi => vk_R.of (hts _ (lw_str i hi)) (hK2 i hi), hS, ZC, ZP⟩
