/-! ===== the constructors ===== -/
abbrev ifn (cI : ClassId) (N : Nat) (f : Nat → Int32) : va_E := .inl (cI, N, .inl f)
abbrev iz (cI : ClassId) (N : Nat) : va_E := .inl (cI, N, .inl (fun _ => iI 0))
abbrev ob (ci : Nat) (fs : List Value) : va_E := .inr (ci, fs)
abbrev shq (cQ : ClassId) (f : Nat → Option Nat) : va_E := .inl (cQ, 4, .inr (.inr (.inr (.inr f))))
/-- the first i places told, the rest as they are made -/
def spI (i : Nat) : Nat → Int32 := fun j => if j < i then iI (-1) else iI 0
def sI (i : Nat) : Nat → Int32 := fun j => if 137 ≤ j ∧ j < 137 + i then iI (-1) else if j = 2 then iI 3 else if j = 4 then iI 1 else iI 0
theorem spI_0 : spI 0 = fun _ => iI 0 := by
  funext j
  exact if_neg (by omega)
theorem spI_s (i : Nat) : upd (spI i) i (iI (-1)) = spI (i + 1) := by
  funext j
  unfold upd spI
  by_cases h : j = i
  · rw [if_pos h, if_pos (by omega)]
  · rw [if_neg h]
    by_cases h2 : j < i
    · rw [if_pos h2, if_pos (by omega)]
    · rw [if_neg h2, if_neg (by omega)]
theorem sI_0 : upd (upd (fun _ => iI 0) 4 (iI 1)) 2 (iI 3) = sI 0 := by
  funext j
  unfold upd sI
  by_cases h : j = 2
  · rw [if_pos h, if_neg (by omega)]
    (try rw [if_pos h])
  · rw [if_neg h, if_neg (show ¬ (137 ≤ j ∧ j < 137 + 0) by omega)]
    (try rw [if_neg h])
theorem sI_s (i : Nat) : upd (sI i) (137 + i) (iI (-1)) = sI (i + 1) := by
  funext j
  unfold upd sI
  by_cases h : j = 137 + i
  · rw [if_pos h, if_pos (by omega)]
  · rw [if_neg h]
    by_cases h2 : 137 ≤ j ∧ j < 137 + i
    · rw [if_pos h2, if_pos (by omega)]
    · rw [if_neg h2, if_neg (show ¬ (137 ≤ j ∧ j < 137 + (i + 1)) by omega)]
section NEWI
variable {p : Program} {l : Launch} {e : Env} {R : Room} {s : State} {m : MethodId} {args : Array Value} {below : List Frame} {meth : Method} {c : Code} {H H0 : Heap} {locs : List Loc} {cells slots : Nat} {Q : State → Prop} {cc : ByteArray} {pc : Nat} {ls : Array Slot} {rest : List Value} {D : va_G} {A : Nat → Prop} {ws : va_W} {tys : List (ClassId × FieldType)} {cI : ClassId}
theorem newI (hx : p.tables.exec = Jvm.exec) (hb : c.code = cc) (harr : (Cond.arrayClass FieldType.int).before args s = true) (hK : va_K D cls tys s) (ht : tys[0]? = some (cI, .int)) (hP : va_P D cls ws H) (hD : va_D A ws) (hS : va_S A H0 H locs) (hA : ∀ q, H0.size ≤ q → A q) {n : Int32} (N : Nat) (hn : n = nI N) (hN : N ≤ 1000) (k2 n2 : Nat) (h1 : cells + 1 ≤ R.cells) (h2 : slots + N ≤ R.slots) (hk : cells + 1 ≤ k2 ∧ slots + N ≤ n2) (hdg : decode cc pc = .ok (.newarray .int, 2))
    (kk : ∀ (q : Nat) (H1 : Heap), va_P D cls (ws ++ [(q, iz cI N)]) H1 → va_D A (ws ++ [(q, iz cI N)]) → va_S A H0 H1 locs → W p l e R s m args below meth c H1 locs k2 n2 Q (F0 m (pc + 2) ls (.ref q :: rest))) : W p l e R s m args below meth c H locs cells slots Q (F0 m pc ls (.int n :: rest)) := by
  subst hn
  refine va_newa (atype := .int) (ty := .int) (a0 := (N, .inl (fun _ => iI 0))) (N' := N) hx hb harr rfl hK hP hD hS hA (fun cA => by rw [vp_cell_i, ← iI_0]; rfl) (fun q => ?_) (nI_clamp (by omega)) (by show N * 4 ≤ 536870912; omega) h1 h2 hdg (fun q cA H1 hK2 hP2 hD2 hS2 => ?_)
  · have := Int32.lt_iff_toInt_lt.mp q
    rw [nI_toInt (by omega)] at this
    have e0 : (0 : Int32).toInt = 0 := by decide
    omega
  · have e1 : va_RA s cI .int := (hK.2 0 _ ht).2
    have e2 : va_RA s cA .int := (hK2.2 tys.length (cA, .int) (by rw [List.getElem?_append_right (Nat.le_refl _), Nat.sub_self]; rfl)).2
    have e3 : some cA = some cI := Eq.trans (Eq.symm e2) e1
    cases e3
    exact W.widen (k := k2) (n := n2) hk.1 hk.2 (kk q H1 hP2 hD2 hS2)
end NEWI
set_option maxHeartbeats 4000000 in
set_option maxRecDepth 100000 in
theorem i_Sheet (l : Launch) (D : va_G) (cI : ClassId) (h0 sz : Nat) : Met l yX1_init (wsOf yX1_init cX1_init 1 none) { frames := 1, cells := 1, slots := 40, locals := 12 } (va_Pc [.ref h0] (fun U => U.heap.size = sz ∧ va_P D cls [(h0, ob 1 [.null, .int (iI 0), .int (iI 0)])] U.heap ∧ va_K D cls [(cI, .int)] U ∧ va_D (fun _ => True) [(h0, ob 1 [.null, .int (iI 0), .int (iI 0)])])) (va_Qv (fun _ : Nat → Nat => True) (fun u t => va_P D cls [(h0, ob 1 [.ref (u 1), .int (iI 0), .int (iI 0)]), (u 1, iz cI 40)] t.heap ∧ va_K D cls [(cI, .int)] t ∧ va_D (va_A [(h0, ob 1 [.null, .int (iI 0), .int (iI 0)])] sz) [(h0, ob 1 [.ref (u 1), .int (iI 0), .int (iI 0)]), (u 1, iz cI 40)]) (va_A [(h0, ob 1 [.null, .int (iI 0), .int (iI 0)])] sz)) 1 40 (va_A [(h0, ob 1 [.null, .int (iI 0), .int (iI 0)])] sz) := by
  refine Met.ofW (cc := cX1_init) (maxL := 1) (ret := none) (by decide) rfl ?_
  intro p e s m args below meth c s₁ B hml hv
  obtain ⟨rfl, hsz, hP, hK, hD0⟩ := hv
  have hx := B.exec
  have hb := B.bytes
  have hr := B.returns
  have hts0 := atoms_spec (ws := wsOf yX1_init cX1_init 1 none) B.pre
  have hts : ∀ w ∈ tbl, w.before _ s = true := fun w hw => hts0 w (List.mem_cons_of_mem _ hw)
  have hown : s.vm.findClass RX1 = some m.cls := findClass_of_methodNamed B.named
  have hlocks := B.notSynchronized
  have hin : meth.name = "<init>" := (name_of_methodNamed B.named B.method).1
  subst hsz
  have hD := hD0.self (sz := s.heap.size)
  generalize hAe : va_A [(h0, ob 1 [.null, .int (iI 0), .int (iI 0)])] s.heap.size = A at hD ⊢
  have hA : ∀ q : Nat, s.heap.size ≤ q → A q := fun q h => by rw [← hAe]; exact Or.inr h
  have hS : va_S A s.heap s.heap [] := va_S.rf
  have hl := lv_entry ([.ref h0]) (n := 1) (Nat.le_of_ble_eq_true rfl)
  rw [lg_entry_eq]
  generalize (lg_sl ([.ref h0]) ++ List.replicate (1 - (lg_sl ([.ref h0])).length) Slot.unset).toArray = ls at hl ⊢
  have hl : lv_has ls 1 [(0, .ref h0)] := hl
  refine lv_aload_n hx hb dX1_init_0 rfl (lv_at hl 0 rfl) ?_
  refine W.objInit hx hb hown (hts _ t_202) (hts _ t_95) (hts _ t_96) rfl (by rw [hml]; exact hl.1) rfl dX1_init_1 (Nat.le_of_ble_eq_true rfl) (Nat.le_of_ble_eq_true rfl) ?_
  refine W.eq (g2 := F0 m 4 ls []) rfl ?_
  have hSs : va_S A s.heap s.heap [] := hS
  refine lv_aload_n hx hb dX1_init_4 rfl (lv_at hl 0 rfl) ?_
  refine lv_bipush (v := nI 40) hx hb dX1_init_5 (by decide) ?_
  refine newI hx hb (hts _ t_157) hK rfl hP hD hS hA 40 rfl (by decide) 1 40 (Nat.le_of_ble_eq_true rfl) (Nat.le_of_ble_eq_true rfl) ⟨Nat.le_of_ble_eq_true rfl, Nat.le_of_ble_eq_true rfl⟩ dX1_init_7 (fun q1 H hP hD hS => ?_)
  replace hP : va_P D cls [(h0, ob 1 [.null, .int (iI 0), .int (iI 0)]), (q1, iz cI 40)] H := hP
  replace hD : va_D A [(h0, ob 1 [.null, .int (iI 0), .int (iI 0)]), (q1, iz cI 40)] := hD
  refine va_putF (D := D) (ci := 1) (v := .ref q1) (ty := tyX1 0) (C := RX1) (T := TX1) (N := 3) hx hb hts inX1 tyX1 tyX1_ok nmX1 hown hK hP hD hS 0 rfl rfl 0 (by decide) (hts _ t_203) (fun _ h9 => h9) rfl hin rfl (tyX1_ok 0 (by decide)) rfl rfl (Nat.le_of_ble_eq_true rfl) dX1_init_9 (fun H locs hP hD hS => ?_)
  replace hP : va_P D cls [(h0, ob 1 [.ref q1, .int (iI 0), .int (iI 0)]), (q1, iz cI 40)] H := hP
  replace hD : va_D A [(h0, ob 1 [.ref q1, .int (iI 0), .int (iI 0)]), (q1, iz cI 40)] := hD
  refine W.widen (k := 1) (n := 40) (Nat.le_of_ble_eq_true rfl) (Nat.le_of_ble_eq_true rfl) ?_
  exact W.vret hx hb hr (fun t ht hW => ⟨⟨fun k => ([h0, q1] : List Nat).getD k 0, rfl, trivial, by rw [ht]; exact hP, va_K.moved hW.alike hK, hD⟩, hS.F ht⟩) hS.2.2 dX1_init_12
set_option maxHeartbeats 4000000 in
set_option maxRecDepth 100000 in
theorem i_Tape (l : Launch) (D : va_G) (cI : ClassId) (h0 sz : Nat) : Met l yX2_init (wsOf yX2_init cX2_init 1 none) { frames := 1, cells := 1, slots := 120, locals := 12 } (va_Pc [.ref h0] (fun U => U.heap.size = sz ∧ va_P D cls [(h0, ob 2 [.null, .int (iI 0)])] U.heap ∧ va_K D cls [(cI, .int)] U ∧ va_D (fun _ => True) [(h0, ob 2 [.null, .int (iI 0)])])) (va_Qv (fun _ : Nat → Nat => True) (fun u t => va_P D cls [(h0, ob 2 [.ref (u 1), .int (iI 0)]), (u 1, iz cI 120)] t.heap ∧ va_K D cls [(cI, .int)] t ∧ va_D (va_A [(h0, ob 2 [.null, .int (iI 0)])] sz) [(h0, ob 2 [.ref (u 1), .int (iI 0)]), (u 1, iz cI 120)]) (va_A [(h0, ob 2 [.null, .int (iI 0)])] sz)) 1 120 (va_A [(h0, ob 2 [.null, .int (iI 0)])] sz) := by
  refine Met.ofW (cc := cX2_init) (maxL := 1) (ret := none) (by decide) rfl ?_
  intro p e s m args below meth c s₁ B hml hv
  obtain ⟨rfl, hsz, hP, hK, hD0⟩ := hv
  have hx := B.exec
  have hb := B.bytes
  have hr := B.returns
  have hts0 := atoms_spec (ws := wsOf yX2_init cX2_init 1 none) B.pre
  have hts : ∀ w ∈ tbl, w.before _ s = true := fun w hw => hts0 w (List.mem_cons_of_mem _ hw)
  have hown : s.vm.findClass RX2 = some m.cls := findClass_of_methodNamed B.named
  have hlocks := B.notSynchronized
  have hin : meth.name = "<init>" := (name_of_methodNamed B.named B.method).1
  subst hsz
  have hD := hD0.self (sz := s.heap.size)
  generalize hAe : va_A [(h0, ob 2 [.null, .int (iI 0)])] s.heap.size = A at hD ⊢
  have hA : ∀ q : Nat, s.heap.size ≤ q → A q := fun q h => by rw [← hAe]; exact Or.inr h
  have hS : va_S A s.heap s.heap [] := va_S.rf
  have hl := lv_entry ([.ref h0]) (n := 1) (Nat.le_of_ble_eq_true rfl)
  rw [lg_entry_eq]
  generalize (lg_sl ([.ref h0]) ++ List.replicate (1 - (lg_sl ([.ref h0])).length) Slot.unset).toArray = ls at hl ⊢
  have hl : lv_has ls 1 [(0, .ref h0)] := hl
  refine lv_aload_n hx hb dX2_init_0 rfl (lv_at hl 0 rfl) ?_
  refine W.objInit hx hb hown (hts _ t_163) (hts _ t_95) (hts _ t_96) rfl (by rw [hml]; exact hl.1) rfl dX2_init_1 (Nat.le_of_ble_eq_true rfl) (Nat.le_of_ble_eq_true rfl) ?_
  refine W.eq (g2 := F0 m 4 ls []) rfl ?_
  have hSs : va_S A s.heap s.heap [] := hS
  refine lv_aload_n hx hb dX2_init_4 rfl (lv_at hl 0 rfl) ?_
  refine lv_bipush (v := nI 120) hx hb dX2_init_5 (by decide) ?_
  refine newI hx hb (hts _ t_157) hK rfl hP hD hS hA 120 rfl (by decide) 1 120 (Nat.le_of_ble_eq_true rfl) (Nat.le_of_ble_eq_true rfl) ⟨Nat.le_of_ble_eq_true rfl, Nat.le_of_ble_eq_true rfl⟩ dX2_init_7 (fun q1 H hP hD hS => ?_)
  replace hP : va_P D cls [(h0, ob 2 [.null, .int (iI 0)]), (q1, iz cI 120)] H := hP
  replace hD : va_D A [(h0, ob 2 [.null, .int (iI 0)]), (q1, iz cI 120)] := hD
  refine va_putF (D := D) (ci := 2) (v := .ref q1) (ty := tyX2 0) (C := RX2) (T := TX2) (N := 2) hx hb hts inX2 tyX2 tyX2_ok nmX2 hown hK hP hD hS 0 rfl rfl 0 (by decide) (hts _ t_164) (fun _ h9 => h9) rfl hin rfl (tyX2_ok 0 (by decide)) rfl rfl (Nat.le_of_ble_eq_true rfl) dX2_init_9 (fun H locs hP hD hS => ?_)
  replace hP : va_P D cls [(h0, ob 2 [.ref q1, .int (iI 0)]), (q1, iz cI 120)] H := hP
  replace hD : va_D A [(h0, ob 2 [.ref q1, .int (iI 0)]), (q1, iz cI 120)] := hD
  refine W.widen (k := 1) (n := 120) (Nat.le_of_ble_eq_true rfl) (Nat.le_of_ble_eq_true rfl) ?_
  exact W.vret hx hb hr (fun t ht hW => ⟨⟨fun k => ([h0, q1] : List Nat).getD k 0, rfl, trivial, by rw [ht]; exact hP, va_K.moved hW.alike hK, hD⟩, hS.F ht⟩) hS.2.2 dX2_init_12
set_option maxHeartbeats 4000000 in
set_option maxRecDepth 100000 in
theorem i_Reader (l : Launch) (D : va_G) (cI : ClassId) (h0 sz : Nat) : Met l yX3_init (wsOf yX3_init cX3_init 1 none) { frames := 1, cells := 3, slots := 363, locals := 12 } (va_Pc [.ref h0] (fun U => U.heap.size = sz ∧ va_P D cls [(h0, ob 3 [.null, .null, .null, .int (iI 0), .int (iI 0)])] U.heap ∧ va_K D cls [(cI, .int)] U ∧ va_D (fun _ => True) [(h0, ob 3 [.null, .null, .null, .int (iI 0), .int (iI 0)])])) (va_Qv (fun _ : Nat → Nat => True) (fun u t => va_P D cls [(h0, ob 3 [.ref (u 1), .ref (u 2), .ref (u 3), .int (iI 0), .int (iI 0)]), (u 1, iz cI 121), (u 2, iz cI 121), (u 3, iz cI 121)] t.heap ∧ va_K D cls [(cI, .int)] t ∧ va_D (va_A [(h0, ob 3 [.null, .null, .null, .int (iI 0), .int (iI 0)])] sz) [(h0, ob 3 [.ref (u 1), .ref (u 2), .ref (u 3), .int (iI 0), .int (iI 0)]), (u 1, iz cI 121), (u 2, iz cI 121), (u 3, iz cI 121)]) (va_A [(h0, ob 3 [.null, .null, .null, .int (iI 0), .int (iI 0)])] sz)) 3 363 (va_A [(h0, ob 3 [.null, .null, .null, .int (iI 0), .int (iI 0)])] sz) := by
  refine Met.ofW (cc := cX3_init) (maxL := 1) (ret := none) (by decide) rfl ?_
  intro p e s m args below meth c s₁ B hml hv
  obtain ⟨rfl, hsz, hP, hK, hD0⟩ := hv
  have hx := B.exec
  have hb := B.bytes
  have hr := B.returns
  have hts0 := atoms_spec (ws := wsOf yX3_init cX3_init 1 none) B.pre
  have hts : ∀ w ∈ tbl, w.before _ s = true := fun w hw => hts0 w (List.mem_cons_of_mem _ hw)
  have hown : s.vm.findClass RX3 = some m.cls := findClass_of_methodNamed B.named
  have hlocks := B.notSynchronized
  have hin : meth.name = "<init>" := (name_of_methodNamed B.named B.method).1
  subst hsz
  have hD := hD0.self (sz := s.heap.size)
  generalize hAe : va_A [(h0, ob 3 [.null, .null, .null, .int (iI 0), .int (iI 0)])] s.heap.size = A at hD ⊢
  have hA : ∀ q : Nat, s.heap.size ≤ q → A q := fun q h => by rw [← hAe]; exact Or.inr h
  have hS : va_S A s.heap s.heap [] := va_S.rf
  have hl := lv_entry ([.ref h0]) (n := 1) (Nat.le_of_ble_eq_true rfl)
  rw [lg_entry_eq]
  generalize (lg_sl ([.ref h0]) ++ List.replicate (1 - (lg_sl ([.ref h0])).length) Slot.unset).toArray = ls at hl ⊢
  have hl : lv_has ls 1 [(0, .ref h0)] := hl
  refine lv_aload_n hx hb dX3_init_0 rfl (lv_at hl 0 rfl) ?_
  refine W.objInit hx hb hown (hts _ t_179) (hts _ t_95) (hts _ t_96) rfl (by rw [hml]; exact hl.1) rfl dX3_init_1 (Nat.le_of_ble_eq_true rfl) (Nat.le_of_ble_eq_true rfl) ?_
  refine W.eq (g2 := F0 m 4 ls []) rfl ?_
  have hSs : va_S A s.heap s.heap [] := hS
  refine lv_aload_n hx hb dX3_init_4 rfl (lv_at hl 0 rfl) ?_
  refine lv_bipush (v := nI 121) hx hb dX3_init_5 (by decide) ?_
  refine newI hx hb (hts _ t_157) hK rfl hP hD hS hA 121 rfl (by decide) 1 121 (Nat.le_of_ble_eq_true rfl) (Nat.le_of_ble_eq_true rfl) ⟨Nat.le_of_ble_eq_true rfl, Nat.le_of_ble_eq_true rfl⟩ dX3_init_7 (fun q1 H hP hD hS => ?_)
  replace hP : va_P D cls [(h0, ob 3 [.null, .null, .null, .int (iI 0), .int (iI 0)]), (q1, iz cI 121)] H := hP
  replace hD : va_D A [(h0, ob 3 [.null, .null, .null, .int (iI 0), .int (iI 0)]), (q1, iz cI 121)] := hD
  refine va_putF (D := D) (ci := 3) (v := .ref q1) (ty := tyX3 0) (C := RX3) (T := TX3) (N := 5) hx hb hts inX3 tyX3 tyX3_ok nmX3 hown hK hP hD hS 0 rfl rfl 0 (by decide) (hts _ t_180) (fun _ h9 => h9) rfl hin rfl (tyX3_ok 0 (by decide)) rfl rfl (Nat.le_of_ble_eq_true rfl) dX3_init_9 (fun H locs hP hD hS => ?_)
  replace hP : va_P D cls [(h0, ob 3 [.ref q1, .null, .null, .int (iI 0), .int (iI 0)]), (q1, iz cI 121)] H := hP
  replace hD : va_D A [(h0, ob 3 [.ref q1, .null, .null, .int (iI 0), .int (iI 0)]), (q1, iz cI 121)] := hD
  refine lv_aload_n hx hb dX3_init_12 rfl (lv_at hl 0 rfl) ?_
  refine lv_bipush (v := nI 121) hx hb dX3_init_13 (by decide) ?_
  refine newI hx hb (hts _ t_157) hK rfl hP hD hS hA 121 rfl (by decide) 2 242 (Nat.le_of_ble_eq_true rfl) (Nat.le_of_ble_eq_true rfl) ⟨Nat.le_of_ble_eq_true rfl, Nat.le_of_ble_eq_true rfl⟩ dX3_init_15 (fun q2 H hP hD hS => ?_)
  replace hP : va_P D cls [(h0, ob 3 [.ref q1, .null, .null, .int (iI 0), .int (iI 0)]), (q1, iz cI 121), (q2, iz cI 121)] H := hP
  replace hD : va_D A [(h0, ob 3 [.ref q1, .null, .null, .int (iI 0), .int (iI 0)]), (q1, iz cI 121), (q2, iz cI 121)] := hD
  refine va_putF (D := D) (ci := 3) (v := .ref q2) (ty := tyX3 1) (C := RX3) (T := TX3) (N := 5) hx hb hts inX3 tyX3 tyX3_ok nmX3 hown hK hP hD hS 0 rfl rfl 1 (by decide) (hts _ t_181) (fun _ h9 => h9) rfl hin rfl (tyX3_ok 1 (by decide)) rfl rfl (Nat.le_of_ble_eq_true rfl) dX3_init_17 (fun H locs hP hD hS => ?_)
  replace hP : va_P D cls [(h0, ob 3 [.ref q1, .ref q2, .null, .int (iI 0), .int (iI 0)]), (q1, iz cI 121), (q2, iz cI 121)] H := hP
  replace hD : va_D A [(h0, ob 3 [.ref q1, .ref q2, .null, .int (iI 0), .int (iI 0)]), (q1, iz cI 121), (q2, iz cI 121)] := hD
  refine lv_aload_n hx hb dX3_init_20 rfl (lv_at hl 0 rfl) ?_
  refine lv_bipush (v := nI 121) hx hb dX3_init_21 (by decide) ?_
  refine newI hx hb (hts _ t_157) hK rfl hP hD hS hA 121 rfl (by decide) 3 363 (Nat.le_of_ble_eq_true rfl) (Nat.le_of_ble_eq_true rfl) ⟨Nat.le_of_ble_eq_true rfl, Nat.le_of_ble_eq_true rfl⟩ dX3_init_23 (fun q3 H hP hD hS => ?_)
  replace hP : va_P D cls [(h0, ob 3 [.ref q1, .ref q2, .null, .int (iI 0), .int (iI 0)]), (q1, iz cI 121), (q2, iz cI 121), (q3, iz cI 121)] H := hP
  replace hD : va_D A [(h0, ob 3 [.ref q1, .ref q2, .null, .int (iI 0), .int (iI 0)]), (q1, iz cI 121), (q2, iz cI 121), (q3, iz cI 121)] := hD
  refine va_putF (D := D) (ci := 3) (v := .ref q3) (ty := tyX3 2) (C := RX3) (T := TX3) (N := 5) hx hb hts inX3 tyX3 tyX3_ok nmX3 hown hK hP hD hS 0 rfl rfl 2 (by decide) (hts _ t_182) (fun _ h9 => h9) rfl hin rfl (tyX3_ok 2 (by decide)) rfl rfl (Nat.le_of_ble_eq_true rfl) dX3_init_25 (fun H locs hP hD hS => ?_)
  replace hP : va_P D cls [(h0, ob 3 [.ref q1, .ref q2, .ref q3, .int (iI 0), .int (iI 0)]), (q1, iz cI 121), (q2, iz cI 121), (q3, iz cI 121)] H := hP
  replace hD : va_D A [(h0, ob 3 [.ref q1, .ref q2, .ref q3, .int (iI 0), .int (iI 0)]), (q1, iz cI 121), (q2, iz cI 121), (q3, iz cI 121)] := hD
  refine W.widen (k := 3) (n := 363) (Nat.le_of_ble_eq_true rfl) (Nat.le_of_ble_eq_true rfl) ?_
  exact W.vret hx hb hr (fun t ht hW => ⟨⟨fun k => ([h0, q1, q2, q3] : List Nat).getD k 0, rfl, trivial, by rw [ht]; exact hP, va_K.moved hW.alike hK, hD⟩, hS.F ht⟩) hS.2.2 dX3_init_28
set_option maxHeartbeats 4000000 in
set_option maxRecDepth 100000 in
theorem i_Room (l : Launch) (D : va_G) (cI : ClassId) (h0 sz : Nat) : Met l yX0_init (wsOf yX0_init cX0_init 2 none) { frames := 1, cells := 7, slots := 154, locals := 12 } (va_Pc [.ref h0] (fun U => U.heap.size = sz ∧ va_P D cls [(h0, ob 0 [.null, .null, .null, .null, .null, .null, .null, .int (iI 0), .int (iI 0), .int (iI 0), .int (iI 0), .int (iI 0)])] U.heap ∧ va_K D cls [(cI, .int)] U ∧ va_D (fun _ => True) [(h0, ob 0 [.null, .null, .null, .null, .null, .null, .null, .int (iI 0), .int (iI 0), .int (iI 0), .int (iI 0), .int (iI 0)])])) (va_Qv (fun _ : Nat → Nat => True) (fun u t => va_P D cls [(h0, ob 0 [.ref (u 1), .ref (u 2), .ref (u 3), .ref (u 4), .ref (u 5), .ref (u 6), .ref (u 7), .int (iI 0), .int (iI 3), .int (iI 0), .int (iI 0), .int (iI 1)]), ((u 1), iz cI 12), ((u 2), iz cI 12), ((u 3), iz cI 8), ((u 4), iz cI 8), ((u 5), iz cI 8), ((u 6), iz cI 96), ((u 7), ifn cI 10 (spI 10))] t.heap ∧ va_K D cls [(cI, .int)] t ∧ va_D (va_A [(h0, ob 0 [.null, .null, .null, .null, .null, .null, .null, .int (iI 0), .int (iI 0), .int (iI 0), .int (iI 0), .int (iI 0)])] sz) [(h0, ob 0 [.ref (u 1), .ref (u 2), .ref (u 3), .ref (u 4), .ref (u 5), .ref (u 6), .ref (u 7), .int (iI 0), .int (iI 3), .int (iI 0), .int (iI 0), .int (iI 1)]), ((u 1), iz cI 12), ((u 2), iz cI 12), ((u 3), iz cI 8), ((u 4), iz cI 8), ((u 5), iz cI 8), ((u 6), iz cI 96), ((u 7), ifn cI 10 (spI 10))]) (va_A [(h0, ob 0 [.null, .null, .null, .null, .null, .null, .null, .int (iI 0), .int (iI 0), .int (iI 0), .int (iI 0), .int (iI 0)])] sz)) 7 154 (va_A [(h0, ob 0 [.null, .null, .null, .null, .null, .null, .null, .int (iI 0), .int (iI 0), .int (iI 0), .int (iI 0), .int (iI 0)])] sz) := by
  refine Met.ofW (cc := cX0_init) (maxL := 2) (ret := none) (by decide) rfl ?_
  intro p e s m args below meth c s₁ B hml hv
  obtain ⟨rfl, hsz, hP, hK, hD0⟩ := hv
  have hx := B.exec
  have hb := B.bytes
  have hr := B.returns
  have hts0 := atoms_spec (ws := wsOf yX0_init cX0_init 2 none) B.pre
  have hts : ∀ w ∈ tbl, w.before _ s = true := fun w hw => hts0 w (List.mem_cons_of_mem _ hw)
  have hown : s.vm.findClass RX0 = some m.cls := findClass_of_methodNamed B.named
  have hlocks := B.notSynchronized
  have hin : meth.name = "<init>" := (name_of_methodNamed B.named B.method).1
  subst hsz
  have hD := hD0.self (sz := s.heap.size)
  generalize hAe : va_A [(h0, ob 0 [.null, .null, .null, .null, .null, .null, .null, .int (iI 0), .int (iI 0), .int (iI 0), .int (iI 0), .int (iI 0)])] s.heap.size = A at hD ⊢
  have hA : ∀ q : Nat, s.heap.size ≤ q → A q := fun q h => by rw [← hAe]; exact Or.inr h
  have hS : va_S A s.heap s.heap [] := va_S.rf
  have hl := lv_entry ([.ref h0]) (n := 2) (Nat.le_of_ble_eq_true rfl)
  rw [lg_entry_eq]
  generalize (lg_sl ([.ref h0]) ++ List.replicate (2 - (lg_sl ([.ref h0])).length) Slot.unset).toArray = ls at hl ⊢
  have hl : lv_has ls 2 [(0, .ref h0)] := hl
  refine lv_aload_n hx hb dX0_init_0 rfl (lv_at hl 0 rfl) ?_
  refine W.objInit hx hb hown (hts _ t_102) (hts _ t_95) (hts _ t_96) rfl (by rw [hml]; exact hl.1) rfl dX0_init_1 (Nat.le_of_ble_eq_true rfl) (Nat.le_of_ble_eq_true rfl) ?_
  refine W.eq (g2 := F0 m 4 ls []) rfl ?_
  have hSs : va_S A s.heap s.heap [] := hS
  refine lv_aload_n hx hb dX0_init_4 rfl (lv_at hl 0 rfl) ?_
  refine lv_bipush (v := nI 12) hx hb dX0_init_5 (by decide) ?_
  refine newI hx hb (hts _ t_157) hK rfl hP hD hS hA 12 rfl (by decide) 1 12 (Nat.le_of_ble_eq_true rfl) (Nat.le_of_ble_eq_true rfl) ⟨Nat.le_of_ble_eq_true rfl, Nat.le_of_ble_eq_true rfl⟩ dX0_init_7 (fun q1 H hP hD hS => ?_)
  replace hP : va_P D cls [(h0, ob 0 [.null, .null, .null, .null, .null, .null, .null, .int (iI 0), .int (iI 0), .int (iI 0), .int (iI 0), .int (iI 0)]), (q1, iz cI 12)] H := hP
  replace hD : va_D A [(h0, ob 0 [.null, .null, .null, .null, .null, .null, .null, .int (iI 0), .int (iI 0), .int (iI 0), .int (iI 0), .int (iI 0)]), (q1, iz cI 12)] := hD
  refine va_putF (D := D) (ci := 0) (v := .ref q1) (ty := tyX0 0) (C := RX0) (T := TX0) (N := 12) hx hb hts inX0 tyX0 tyX0_ok nmX0 hown hK hP hD hS 0 rfl rfl 0 (by decide) (hts _ t_103) (fun _ h9 => h9) rfl hin rfl (tyX0_ok 0 (by decide)) rfl rfl (Nat.le_of_ble_eq_true rfl) dX0_init_9 (fun H locs hP hD hS => ?_)
  replace hP : va_P D cls [(h0, ob 0 [.ref q1, .null, .null, .null, .null, .null, .null, .int (iI 0), .int (iI 0), .int (iI 0), .int (iI 0), .int (iI 0)]), (q1, iz cI 12)] H := hP
  replace hD : va_D A [(h0, ob 0 [.ref q1, .null, .null, .null, .null, .null, .null, .int (iI 0), .int (iI 0), .int (iI 0), .int (iI 0), .int (iI 0)]), (q1, iz cI 12)] := hD
  refine lv_aload_n hx hb dX0_init_12 rfl (lv_at hl 0 rfl) ?_
  refine lv_bipush (v := nI 12) hx hb dX0_init_13 (by decide) ?_
  refine newI hx hb (hts _ t_157) hK rfl hP hD hS hA 12 rfl (by decide) 2 24 (Nat.le_of_ble_eq_true rfl) (Nat.le_of_ble_eq_true rfl) ⟨Nat.le_of_ble_eq_true rfl, Nat.le_of_ble_eq_true rfl⟩ dX0_init_15 (fun q2 H hP hD hS => ?_)
  replace hP : va_P D cls [(h0, ob 0 [.ref q1, .null, .null, .null, .null, .null, .null, .int (iI 0), .int (iI 0), .int (iI 0), .int (iI 0), .int (iI 0)]), (q1, iz cI 12), (q2, iz cI 12)] H := hP
  replace hD : va_D A [(h0, ob 0 [.ref q1, .null, .null, .null, .null, .null, .null, .int (iI 0), .int (iI 0), .int (iI 0), .int (iI 0), .int (iI 0)]), (q1, iz cI 12), (q2, iz cI 12)] := hD
  refine va_putF (D := D) (ci := 0) (v := .ref q2) (ty := tyX0 1) (C := RX0) (T := TX0) (N := 12) hx hb hts inX0 tyX0 tyX0_ok nmX0 hown hK hP hD hS 0 rfl rfl 1 (by decide) (hts _ t_106) (fun _ h9 => h9) rfl hin rfl (tyX0_ok 1 (by decide)) rfl rfl (Nat.le_of_ble_eq_true rfl) dX0_init_17 (fun H locs hP hD hS => ?_)
  replace hP : va_P D cls [(h0, ob 0 [.ref q1, .ref q2, .null, .null, .null, .null, .null, .int (iI 0), .int (iI 0), .int (iI 0), .int (iI 0), .int (iI 0)]), (q1, iz cI 12), (q2, iz cI 12)] H := hP
  replace hD : va_D A [(h0, ob 0 [.ref q1, .ref q2, .null, .null, .null, .null, .null, .int (iI 0), .int (iI 0), .int (iI 0), .int (iI 0), .int (iI 0)]), (q1, iz cI 12), (q2, iz cI 12)] := hD
  refine lv_aload_n hx hb dX0_init_20 rfl (lv_at hl 0 rfl) ?_
  refine lv_bipush (v := nI 8) hx hb dX0_init_21 (by decide) ?_
  refine newI hx hb (hts _ t_157) hK rfl hP hD hS hA 8 rfl (by decide) 3 32 (Nat.le_of_ble_eq_true rfl) (Nat.le_of_ble_eq_true rfl) ⟨Nat.le_of_ble_eq_true rfl, Nat.le_of_ble_eq_true rfl⟩ dX0_init_23 (fun q3 H hP hD hS => ?_)
  replace hP : va_P D cls [(h0, ob 0 [.ref q1, .ref q2, .null, .null, .null, .null, .null, .int (iI 0), .int (iI 0), .int (iI 0), .int (iI 0), .int (iI 0)]), (q1, iz cI 12), (q2, iz cI 12), (q3, iz cI 8)] H := hP
  replace hD : va_D A [(h0, ob 0 [.ref q1, .ref q2, .null, .null, .null, .null, .null, .int (iI 0), .int (iI 0), .int (iI 0), .int (iI 0), .int (iI 0)]), (q1, iz cI 12), (q2, iz cI 12), (q3, iz cI 8)] := hD
  refine va_putF (D := D) (ci := 0) (v := .ref q3) (ty := tyX0 2) (C := RX0) (T := TX0) (N := 12) hx hb hts inX0 tyX0 tyX0_ok nmX0 hown hK hP hD hS 0 rfl rfl 2 (by decide) (hts _ t_107) (fun _ h9 => h9) rfl hin rfl (tyX0_ok 2 (by decide)) rfl rfl (Nat.le_of_ble_eq_true rfl) dX0_init_25 (fun H locs hP hD hS => ?_)
  replace hP : va_P D cls [(h0, ob 0 [.ref q1, .ref q2, .ref q3, .null, .null, .null, .null, .int (iI 0), .int (iI 0), .int (iI 0), .int (iI 0), .int (iI 0)]), (q1, iz cI 12), (q2, iz cI 12), (q3, iz cI 8)] H := hP
  replace hD : va_D A [(h0, ob 0 [.ref q1, .ref q2, .ref q3, .null, .null, .null, .null, .int (iI 0), .int (iI 0), .int (iI 0), .int (iI 0), .int (iI 0)]), (q1, iz cI 12), (q2, iz cI 12), (q3, iz cI 8)] := hD
  refine lv_aload_n hx hb dX0_init_28 rfl (lv_at hl 0 rfl) ?_
  refine lv_bipush (v := nI 8) hx hb dX0_init_29 (by decide) ?_
  refine newI hx hb (hts _ t_157) hK rfl hP hD hS hA 8 rfl (by decide) 4 40 (Nat.le_of_ble_eq_true rfl) (Nat.le_of_ble_eq_true rfl) ⟨Nat.le_of_ble_eq_true rfl, Nat.le_of_ble_eq_true rfl⟩ dX0_init_31 (fun q4 H hP hD hS => ?_)
  replace hP : va_P D cls [(h0, ob 0 [.ref q1, .ref q2, .ref q3, .null, .null, .null, .null, .int (iI 0), .int (iI 0), .int (iI 0), .int (iI 0), .int (iI 0)]), (q1, iz cI 12), (q2, iz cI 12), (q3, iz cI 8), (q4, iz cI 8)] H := hP
  replace hD : va_D A [(h0, ob 0 [.ref q1, .ref q2, .ref q3, .null, .null, .null, .null, .int (iI 0), .int (iI 0), .int (iI 0), .int (iI 0), .int (iI 0)]), (q1, iz cI 12), (q2, iz cI 12), (q3, iz cI 8), (q4, iz cI 8)] := hD
  refine va_putF (D := D) (ci := 0) (v := .ref q4) (ty := tyX0 3) (C := RX0) (T := TX0) (N := 12) hx hb hts inX0 tyX0 tyX0_ok nmX0 hown hK hP hD hS 0 rfl rfl 3 (by decide) (hts _ t_109) (fun _ h9 => h9) rfl hin rfl (tyX0_ok 3 (by decide)) rfl rfl (Nat.le_of_ble_eq_true rfl) dX0_init_33 (fun H locs hP hD hS => ?_)
  replace hP : va_P D cls [(h0, ob 0 [.ref q1, .ref q2, .ref q3, .ref q4, .null, .null, .null, .int (iI 0), .int (iI 0), .int (iI 0), .int (iI 0), .int (iI 0)]), (q1, iz cI 12), (q2, iz cI 12), (q3, iz cI 8), (q4, iz cI 8)] H := hP
  replace hD : va_D A [(h0, ob 0 [.ref q1, .ref q2, .ref q3, .ref q4, .null, .null, .null, .int (iI 0), .int (iI 0), .int (iI 0), .int (iI 0), .int (iI 0)]), (q1, iz cI 12), (q2, iz cI 12), (q3, iz cI 8), (q4, iz cI 8)] := hD
  refine lv_aload_n hx hb dX0_init_36 rfl (lv_at hl 0 rfl) ?_
  refine lv_bipush (v := nI 8) hx hb dX0_init_37 (by decide) ?_
  refine newI hx hb (hts _ t_157) hK rfl hP hD hS hA 8 rfl (by decide) 5 48 (Nat.le_of_ble_eq_true rfl) (Nat.le_of_ble_eq_true rfl) ⟨Nat.le_of_ble_eq_true rfl, Nat.le_of_ble_eq_true rfl⟩ dX0_init_39 (fun q5 H hP hD hS => ?_)
  replace hP : va_P D cls [(h0, ob 0 [.ref q1, .ref q2, .ref q3, .ref q4, .null, .null, .null, .int (iI 0), .int (iI 0), .int (iI 0), .int (iI 0), .int (iI 0)]), (q1, iz cI 12), (q2, iz cI 12), (q3, iz cI 8), (q4, iz cI 8), (q5, iz cI 8)] H := hP
  replace hD : va_D A [(h0, ob 0 [.ref q1, .ref q2, .ref q3, .ref q4, .null, .null, .null, .int (iI 0), .int (iI 0), .int (iI 0), .int (iI 0), .int (iI 0)]), (q1, iz cI 12), (q2, iz cI 12), (q3, iz cI 8), (q4, iz cI 8), (q5, iz cI 8)] := hD
  refine va_putF (D := D) (ci := 0) (v := .ref q5) (ty := tyX0 4) (C := RX0) (T := TX0) (N := 12) hx hb hts inX0 tyX0 tyX0_ok nmX0 hown hK hP hD hS 0 rfl rfl 4 (by decide) (hts _ t_111) (fun _ h9 => h9) rfl hin rfl (tyX0_ok 4 (by decide)) rfl rfl (Nat.le_of_ble_eq_true rfl) dX0_init_41 (fun H locs hP hD hS => ?_)
  replace hP : va_P D cls [(h0, ob 0 [.ref q1, .ref q2, .ref q3, .ref q4, .ref q5, .null, .null, .int (iI 0), .int (iI 0), .int (iI 0), .int (iI 0), .int (iI 0)]), (q1, iz cI 12), (q2, iz cI 12), (q3, iz cI 8), (q4, iz cI 8), (q5, iz cI 8)] H := hP
  replace hD : va_D A [(h0, ob 0 [.ref q1, .ref q2, .ref q3, .ref q4, .ref q5, .null, .null, .int (iI 0), .int (iI 0), .int (iI 0), .int (iI 0), .int (iI 0)]), (q1, iz cI 12), (q2, iz cI 12), (q3, iz cI 8), (q4, iz cI 8), (q5, iz cI 8)] := hD
  refine lv_aload_n hx hb dX0_init_44 rfl (lv_at hl 0 rfl) ?_
  refine lv_bipush (v := nI 96) hx hb dX0_init_45 (by decide) ?_
  refine newI hx hb (hts _ t_157) hK rfl hP hD hS hA 96 rfl (by decide) 6 144 (Nat.le_of_ble_eq_true rfl) (Nat.le_of_ble_eq_true rfl) ⟨Nat.le_of_ble_eq_true rfl, Nat.le_of_ble_eq_true rfl⟩ dX0_init_47 (fun q6 H hP hD hS => ?_)
  replace hP : va_P D cls [(h0, ob 0 [.ref q1, .ref q2, .ref q3, .ref q4, .ref q5, .null, .null, .int (iI 0), .int (iI 0), .int (iI 0), .int (iI 0), .int (iI 0)]), (q1, iz cI 12), (q2, iz cI 12), (q3, iz cI 8), (q4, iz cI 8), (q5, iz cI 8), (q6, iz cI 96)] H := hP
  replace hD : va_D A [(h0, ob 0 [.ref q1, .ref q2, .ref q3, .ref q4, .ref q5, .null, .null, .int (iI 0), .int (iI 0), .int (iI 0), .int (iI 0), .int (iI 0)]), (q1, iz cI 12), (q2, iz cI 12), (q3, iz cI 8), (q4, iz cI 8), (q5, iz cI 8), (q6, iz cI 96)] := hD
  refine va_putF (D := D) (ci := 0) (v := .ref q6) (ty := tyX0 5) (C := RX0) (T := TX0) (N := 12) hx hb hts inX0 tyX0 tyX0_ok nmX0 hown hK hP hD hS 0 rfl rfl 5 (by decide) (hts _ t_114) (fun _ h9 => h9) rfl hin rfl (tyX0_ok 5 (by decide)) rfl rfl (Nat.le_of_ble_eq_true rfl) dX0_init_49 (fun H locs hP hD hS => ?_)
  replace hP : va_P D cls [(h0, ob 0 [.ref q1, .ref q2, .ref q3, .ref q4, .ref q5, .ref q6, .null, .int (iI 0), .int (iI 0), .int (iI 0), .int (iI 0), .int (iI 0)]), (q1, iz cI 12), (q2, iz cI 12), (q3, iz cI 8), (q4, iz cI 8), (q5, iz cI 8), (q6, iz cI 96)] H := hP
  replace hD : va_D A [(h0, ob 0 [.ref q1, .ref q2, .ref q3, .ref q4, .ref q5, .ref q6, .null, .int (iI 0), .int (iI 0), .int (iI 0), .int (iI 0), .int (iI 0)]), (q1, iz cI 12), (q2, iz cI 12), (q3, iz cI 8), (q4, iz cI 8), (q5, iz cI 8), (q6, iz cI 96)] := hD
  refine lv_aload_n hx hb dX0_init_52 rfl (lv_at hl 0 rfl) ?_
  refine lv_bipush (v := nI 10) hx hb dX0_init_53 (by decide) ?_
  refine newI hx hb (hts _ t_157) hK rfl hP hD hS hA 10 rfl (by decide) 7 154 (Nat.le_of_ble_eq_true rfl) (Nat.le_of_ble_eq_true rfl) ⟨Nat.le_of_ble_eq_true rfl, Nat.le_of_ble_eq_true rfl⟩ dX0_init_55 (fun q7 H hP hD hS => ?_)
  replace hP : va_P D cls [(h0, ob 0 [.ref q1, .ref q2, .ref q3, .ref q4, .ref q5, .ref q6, .null, .int (iI 0), .int (iI 0), .int (iI 0), .int (iI 0), .int (iI 0)]), (q1, iz cI 12), (q2, iz cI 12), (q3, iz cI 8), (q4, iz cI 8), (q5, iz cI 8), (q6, iz cI 96), (q7, iz cI 10)] H := hP
  replace hD : va_D A [(h0, ob 0 [.ref q1, .ref q2, .ref q3, .ref q4, .ref q5, .ref q6, .null, .int (iI 0), .int (iI 0), .int (iI 0), .int (iI 0), .int (iI 0)]), (q1, iz cI 12), (q2, iz cI 12), (q3, iz cI 8), (q4, iz cI 8), (q5, iz cI 8), (q6, iz cI 96), (q7, iz cI 10)] := hD
  refine va_putF (D := D) (ci := 0) (v := .ref q7) (ty := tyX0 6) (C := RX0) (T := TX0) (N := 12) hx hb hts inX0 tyX0 tyX0_ok nmX0 hown hK hP hD hS 0 rfl rfl 6 (by decide) (hts _ t_117) (fun _ h9 => h9) rfl hin rfl (tyX0_ok 6 (by decide)) rfl rfl (Nat.le_of_ble_eq_true rfl) dX0_init_57 (fun H locs hP hD hS => ?_)
  replace hP : va_P D cls [(h0, ob 0 [.ref q1, .ref q2, .ref q3, .ref q4, .ref q5, .ref q6, .ref q7, .int (iI 0), .int (iI 0), .int (iI 0), .int (iI 0), .int (iI 0)]), (q1, iz cI 12), (q2, iz cI 12), (q3, iz cI 8), (q4, iz cI 8), (q5, iz cI 8), (q6, iz cI 96), (q7, iz cI 10)] H := hP
  replace hD : va_D A [(h0, ob 0 [.ref q1, .ref q2, .ref q3, .ref q4, .ref q5, .ref q6, .ref q7, .int (iI 0), .int (iI 0), .int (iI 0), .int (iI 0), .int (iI 0)]), (q1, iz cI 12), (q2, iz cI 12), (q3, iz cI 8), (q4, iz cI 8), (q5, iz cI 8), (q6, iz cI 96), (q7, iz cI 10)] := hD
  refine lv_iconst (v := nI 0) hx hb dX0_init_60 (by decide) ?_
  refine lv_istore_n (lv' := [(1, .int (nI 0)), (0, .ref h0)]) hx hb dX0_init_61 rfl hl (by decide) rfl (fun ls hl => ?_)
  have key : ∃ n i : Nat, 10 ≤ i + n ∧ i ≤ 10 ∧ lv_has ls 2 [(1, .int (nI i)), (0, .ref h0)] ∧ va_P D cls [(h0, ob 0 [.ref q1, .ref q2, .ref q3, .ref q4, .ref q5, .ref q6, .ref q7, .int (iI 0), .int (iI 0), .int (iI 0), .int (iI 0), .int (iI 0)]), (q1, iz cI 12), (q2, iz cI 12), (q3, iz cI 8), (q4, iz cI 8), (q5, iz cI 8), (q6, iz cI 96), (q7, ifn cI 10 (spI i))] H ∧ va_D A [(h0, ob 0 [.ref q1, .ref q2, .ref q3, .ref q4, .ref q5, .ref q6, .ref q7, .int (iI 0), .int (iI 0), .int (iI 0), .int (iI 0), .int (iI 0)]), (q1, iz cI 12), (q2, iz cI 12), (q3, iz cI 8), (q4, iz cI 8), (q5, iz cI 8), (q6, iz cI 96), (q7, ifn cI 10 (spI i))] := ⟨10, 0, by omega, by omega, hl, by rw [spI_0]; exact hP, by rw [spI_0]; exact hD⟩
  clear hl hP hD
  obtain ⟨n, i, h1, h2, hl, hP, hD⟩ := key
  induction n generalizing i ls H locs with
  | zero =>
    obtain rfl : i = 10 := by omega
    refine lv_iload_n hx hb dX0_init_62 rfl (lv_at hl 0 rfl) ?_
    refine lv_bipush (v := nI 10) hx hb dX0_init_63 (by decide) ?_
    refine lv_icmp_ge (tgt := 81) hx hb dX0_init_65 (by decide) (fun _ => ?_) (fun q => absurd (by decide) q)
    have hP : va_P D cls [(h0, ob 0 [.ref q1, .ref q2, .ref q3, .ref q4, .ref q5, .ref q6, .ref q7, .int (iI 0), .int (iI 0), .int (iI 0), .int (iI 0), .int (iI 0)]), (q1, iz cI 12), (q2, iz cI 12), (q3, iz cI 8), (q4, iz cI 8), (q5, iz cI 8), (q6, iz cI 96), (q7, ifn cI 10 (spI 10))] H := hP
    have hD : va_D A [(h0, ob 0 [.ref q1, .ref q2, .ref q3, .ref q4, .ref q5, .ref q6, .ref q7, .int (iI 0), .int (iI 0), .int (iI 0), .int (iI 0), .int (iI 0)]), (q1, iz cI 12), (q2, iz cI 12), (q3, iz cI 8), (q4, iz cI 8), (q5, iz cI 8), (q6, iz cI 96), (q7, ifn cI 10 (spI 10))] := hD
    refine lv_aload_n hx hb dX0_init_81 rfl (lv_at hl 1 rfl) ?_
    refine lv_iconst (v := iI 3) hx hb dX0_init_82 (by decide) ?_
    refine va_put (D := D) (ci := 0) (v := .int (iI 3)) (ty := tyX0 8) (C := RX0) (T := TX0) (N := 12) hx hb hts inX0 tyX0 tyX0_ok nmX0 hown hK hP hD hS 0 rfl rfl 8 (by decide) (hts _ t_122) (fun _ h9 => h9) rfl (tyX0_ok 8 (by decide)) rfl rfl (Nat.le_of_ble_eq_true rfl) dX0_init_83 (fun H locs hP hD hS => ?_)
    replace hP : va_P D cls [(h0, ob 0 [.ref q1, .ref q2, .ref q3, .ref q4, .ref q5, .ref q6, .ref q7, .int (iI 0), .int (iI 3), .int (iI 0), .int (iI 0), .int (iI 0)]), (q1, iz cI 12), (q2, iz cI 12), (q3, iz cI 8), (q4, iz cI 8), (q5, iz cI 8), (q6, iz cI 96), (q7, ifn cI 10 (spI 10))] H := hP
    replace hD : va_D A [(h0, ob 0 [.ref q1, .ref q2, .ref q3, .ref q4, .ref q5, .ref q6, .ref q7, .int (iI 0), .int (iI 3), .int (iI 0), .int (iI 0), .int (iI 0)]), (q1, iz cI 12), (q2, iz cI 12), (q3, iz cI 8), (q4, iz cI 8), (q5, iz cI 8), (q6, iz cI 96), (q7, ifn cI 10 (spI 10))] := hD
    refine lv_aload_n hx hb dX0_init_86 rfl (lv_at hl 1 rfl) ?_
    refine lv_iconst (v := iI 1) hx hb dX0_init_87 (by decide) ?_
    refine va_put (D := D) (ci := 0) (v := .int (iI 1)) (ty := tyX0 11) (C := RX0) (T := TX0) (N := 12) hx hb hts inX0 tyX0 tyX0_ok nmX0 hown hK hP hD hS 0 rfl rfl 11 (by decide) (hts _ t_130) (fun _ h9 => h9) rfl (tyX0_ok 11 (by decide)) rfl rfl (Nat.le_of_ble_eq_true rfl) dX0_init_88 (fun H locs hP hD hS => ?_)
    replace hP : va_P D cls [(h0, ob 0 [.ref q1, .ref q2, .ref q3, .ref q4, .ref q5, .ref q6, .ref q7, .int (iI 0), .int (iI 3), .int (iI 0), .int (iI 0), .int (iI 1)]), (q1, iz cI 12), (q2, iz cI 12), (q3, iz cI 8), (q4, iz cI 8), (q5, iz cI 8), (q6, iz cI 96), (q7, ifn cI 10 (spI 10))] H := hP
    replace hD : va_D A [(h0, ob 0 [.ref q1, .ref q2, .ref q3, .ref q4, .ref q5, .ref q6, .ref q7, .int (iI 0), .int (iI 3), .int (iI 0), .int (iI 0), .int (iI 1)]), (q1, iz cI 12), (q2, iz cI 12), (q3, iz cI 8), (q4, iz cI 8), (q5, iz cI 8), (q6, iz cI 96), (q7, ifn cI 10 (spI 10))] := hD
    exact W.vret hx hb hr (fun t ht hW => ⟨⟨fun k => ([h0, q1, q2, q3, q4, q5, q6, q7] : List Nat).getD k 0, rfl, trivial, by rw [ht]; exact hP, va_K.moved hW.alike hK, hD⟩, hS.F ht⟩) hS.2.2 dX0_init_91
  | succ n ih =>
    by_cases hi : i = 10
    · exact ih H locs hS ls i (by omega) h2 hl hP hD
    refine lv_iload_n hx hb dX0_init_62 rfl (lv_at hl 0 rfl) ?_
    refine lv_bipush (v := nI 10) hx hb dX0_init_63 (by decide) ?_
    refine lv_icmp_ge (tgt := 81) hx hb dX0_init_65 (by decide) (fun q => absurd ((nI_leI (by decide) (by omega)).mp q) (by omega)) (fun _ => ?_)
    refine lv_aload_n hx hb dX0_init_68 rfl (lv_at hl 1 rfl) ?_
    refine va_get (D := D) (ci := 0) (v := .ref q7) (C := RX0) (T := TX0) (N := 12) hx hb hts inX0 hown hK hP 0 rfl rfl 6 (by decide) (hts _ t_117) (fun _ h9 => h9) rfl dX0_init_69 ?_
    refine lv_iload_n hx hb dX0_init_72 rfl (lv_at hl 0 rfl) ?_
    refine lv_iconst (v := iI (-1)) hx hb dX0_init_73 (by decide) ?_
    refine va_iast hx hb hK hP hD hS 7 0 rfl rfl (vp_in_nI (by omega) (by decide)) dX0_init_74 (fun H locs hP hD hS => ?_)
    rw [nI_clamp (by omega), spI_s] at hP hD
    refine lv_iinc (v := nI (i + 1)) (k := 0) (lv' := [(1, .int (nI (i + 1))), (0, .ref h0)]) hx hb dX0_init_75 hl rfl (nI_1 i) (by decide) rfl (fun ls hl => ?_)
    refine lv_goto (tgt := 62) hx hb dX0_init_78 (by decide) ?_
    exact ih H locs hS ls (i + 1) (by omega) (by omega) hl hP hD
