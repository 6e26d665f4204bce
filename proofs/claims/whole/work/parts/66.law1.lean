def R_law : String := "DustLandLaw"
def lw_P (b : Addr) (xs : List Int32) (args : Array Value) (s : State) : Prop := args = #[.ref b] ∧ s.IntsAt b xs ∧ xs.length ≤ 3072 ∧ (Jvm.Cond.and given_1 narrow_1).before args s = true
def lw_Q (_ : Array Value) (s : State) (o : Outcome) (t : State) : Prop := o = .returned (some (.int 1)) ∧ Framed s o t [] 600000 7302250
def lw_Z (below : List Frame) (a : Array Value) (s : State) : State → Prop := fun t => ∃ o, t.status = .running ∧ Ended t below o ∧ lw_Q a s o t
/-- the law's own end, with 1 on the stack, nothing written that was there before, its room as the claim has it -/
theorem lw_ret {p : Program} {l : Launch} {e : Env} {s : State} {m : MethodId} {below : List Frame} {meth : Method} {c : Code} {b : Nat} (hx : p.tables.exec = Jvm.exec) (hb : c.code = code) (hr : meth.sig.returnType = ret) (hlocks : meth.locks = false) {pc : Nat} {H : Heap} {ls : Array Slot} (hdg : decode code pc = .ok (.ireturn, 1)) : W p l e room_1 s m #[Value.ref b] below meth c H [] 600000 7302250 (lw_Z below #[Value.ref b] s) (F0 m pc ls [.int 1]) := by
  intro T hT X
  obtain ⟨fs, hret, hrun, hended, hW, hframe⟩ := X.leave (v := some (.int 1)) (hlocks := hlocks) (fun h => by rw [hr] at h; cases h)
  have hmeth' : T.vm.method? m = some meth := X.method'
  refine ⟨T.setFrames fs, ?_, .returned (some (.int 1)), hrun, hended, rfl, ⟨_, rfl⟩, hW, hframe⟩
  jvm_step X.here [X.here.top, hx, hb, hdg, hmeth', hr, ret, narrow_b1]
  (try refine ⟨rfl, ?_⟩); (try refine ⟨rfl, ?_⟩)
  first | (intro acts; rw [hret _ acts rfl rfl rfl]) | rw [hret _ _ rfl rfl rfl]
  exact Steps.refl _
/-- what holds at the law's entry: the machine, the code, the tables' words (any of lw_tbl by 'hts w (by decide +kernel)'), the script of L ints xs at the cell b, what the Statement gives of the start (any of its parts by flat_of_before) -/
def lw_At (p : Program) (s : State) (m : MethodId) (meth : Method) (c : Code) (b L : Nat) (xs : Nat → Int32) : Prop :=
  p.tables.exec = Jvm.exec ∧ c.code = code ∧ meth.sig.returnType = ret ∧ c.maxLocals = 4 ∧ s.vm.findClass R_law = some m.cls ∧ (∀ w ∈ lw_tbl, w.before #[Value.ref b] s = true) ∧ va_X b L xs s s.heap ∧ b < s.heap.size ∧ meth.locks = false ∧ (Jvm.Cond.and given_1 narrow_1).before #[Value.ref b] s = true

/-! ===== the law's rows ===== -/
def A0 (s : State) : Nat → Prop := fun q => s.heap.size ≤ q
def CL (g : Gt) (p : Program) (s : State) (m : MethodId) (meth : Method) (c : Code) (b L : Nat) (xs : Nat → Int32) : Prop := p.tables.exec = Jvm.exec ∧ c.code = cL_law ∧ c.maxLocals = 4 ∧ s.vm.findClass RL = some m.cls ∧ (∀ w ∈ tbl, w.before #[Value.ref b] s = true) ∧ (va_X b L xs s s.heap ∧ b < s.heap.size ∧ L ≤ 3072) ∧ meth.sig.returnType = ret ∧ meth.locks = false ∧ Fx g s ∧ Dg g ∧ ∀ k, k < 54 → s.heap.size ≤ gA g k
def JL (g : Gt) (p : Program) (e : Env) (s : State) (m : MethodId) (below : List Frame) (meth : Method) (c : Code) (b nc ns pc : Nat) (lv : List (Nat × Value)) (st : List Value) (σ : Sg) : Prop := ∀ (ls : Array Slot) (H : Heap) (locs : List Loc), lv_has ls 4 lv → va_P (gD g) cls (cw g σ) H → va_S (A0 s) s.heap H locs → W p (gL g) e room_1 s m #[Value.ref b] below meth c H locs nc ns (lw_Z below #[Value.ref b] s) (F0 m pc ls st)
def LV (g : Gt) (b i : Nat) : List (Nat × Value) := [(0, .ref b), (1, .ref (gA g 40)), (2, .ref (gA g 41)), (3, .int (nI i))]
section LROWS
variable {g : Gt} {p : Program} {e : Env} {s : State} {m : MethodId} {below : List Frame} {meth : Method} {c : Code} {b L nc ns pc i : Nat} {xs : Nat → Int32} {lv : List (Nat × Value)} {st st0 : List Value} {σ : Sg} {y : MethodName} {cy : ByteArray} {n nA dy j : Nat} {ry : Option FieldType} {As : List Value} {po : Option Value → Sg → Prop}
theorem rl_aload (C : CL g p s m meth c b L xs) {q : Fin 4} {i x : Nat} (hd : decode cL_law pc = .ok (.aload_n q, 1)) (hi : (q : Nat) = i) (j : Nat) (hj : lv[j]? = some (i, .ref x)) (k : JL g p e s m below meth c b nc ns (pc + 1) lv (.ref x :: st) σ) : JL g p e s m below meth c b nc ns pc lv st σ := by
  obtain ⟨hx, hb, hml, hown, hts, hX, hr, hlk, hF, hD, hg⟩ := C
  intro ls H locs hl hP hS
  exact lv_aload_n hx hb hd hi (lv_at hl j hj) (k ls H locs hl hP hS)
theorem rl_arg (C : CL g p s m meth c b L xs) (k : Nat) (hk : i + k < L) (d0 : decode cL_law pc = .ok (.aload_n 0, 1)) (d1 : decode cL_law (pc + 1) = .ok (.iload_n 3, 1)) {z : Int} (d2 : decode cL_law (pc + 2) = .ok (.iconst z, 1)) (hz : z = (k : Int)) (d3 : decode cL_law (pc + 3) = .ok (.iadd, 1)) (d4 : decode cL_law (pc + 4) = .ok (.iaload, 1)) (kk : JL g p e s m below meth c b nc ns (pc + 5) (LV g b i) (.int (xs (i + k)) :: st) σ) : JL g p e s m below meth c b nc ns pc (LV g b i) st σ := by
  obtain ⟨hx, hb, hml, hown, hts, hX, hr, hlk, hF, hD, hg⟩ := C
  intro ls H locs hl hP hS
  refine lv_aload_n hx hb d0 rfl (lv_at hl 0 rfl) ?_
  refine lv_iload_n hx hb d1 rfl (lv_at hl 3 rfl) ?_
  refine lv_iconst (v := nI k) hx hb d2 (by rw [hz]; exact iI_nat k) ?_
  refine lv_iadd hx hb d3 ?_
  rw [nI_add]
  refine va_sld hx hb hX.1 hX.2.1 (Nat.not_le.mpr hX.2.1) hS (vp_in_nI hk (by have := hX.2.2; omega)) d4 ?_
  rw [nI_clamp (by have := hX.2.2; omega)]
  exact kk ls H locs hl hP hS
theorem rl_first (C : CL g p s m meth c b L xs) (hk : i < L) (d0 : decode cL_law pc = .ok (.aload_n 0, 1)) (d1 : decode cL_law (pc + 1) = .ok (.iload_n 3, 1)) (d4 : decode cL_law (pc + 2) = .ok (.iaload, 1)) (kk : JL g p e s m below meth c b nc ns (pc + 3) (LV g b i) (.int (xs i) :: st) σ) : JL g p e s m below meth c b nc ns pc (LV g b i) st σ := by
  obtain ⟨hx, hb, hml, hown, hts, hX, hr, hlk, hF, hD, hg⟩ := C
  intro ls H locs hl hP hS
  refine lv_aload_n hx hb d0 rfl (lv_at hl 0 rfl) ?_
  refine lv_iload_n hx hb d1 rfl (lv_at hl 3 rfl) ?_
  refine va_sld hx hb hX.1 hX.2.1 (Nat.not_le.mpr hX.2.1) hS (vp_in_nI hk (by have := hX.2.2; omega)) d4 ?_
  rw [nI_clamp (by have := hX.2.2; omega)]
  exact kk ls H locs hl hP hS
theorem rl_call (C : CL g p s m meth c b L xs) {k ci : Nat} {q : vw_C} (hM : Mt g y cy n ry dy (.ref (gA g k) :: As) σ po) (hY : Yi y cy n ry nA q.1) (ho : isO k ci) (hq : cls[ci]? = some q) (hnA : As.length = nA) (w1 : Cond.methodLink RL j y ∈ tbl) (hR2 : dy + 1 ≤ 12 ∧ 19 + n + 37 * dy ≤ 444) (hrest : (st.map fun v => v.category).sum ≤ 8) (hn : nc ≤ 600000 ∧ ns ≤ 7302250) (hst : st0 = As.reverse ++ .ref (gA g k) :: st) (hd : decode cL_law pc = .ok (.invokevirtual j, 3))
    (kk : ∀ (v : Option Value) (σ' : Sg), po v σ' → JL g p e s m below meth c b nc ns (pc + 3) lv (v.toList ++ st) σ') : JL g p e s m below meth c b nc ns pc lv st0 σ := by
  obtain ⟨hx, hb, hml, hown, hts, hX, hr, hlk, hF, hD, hg⟩ := C
  intro ls H locs hl hP hS
  obtain ⟨hy, w4, w5, w2, w3⟩ := hY
  have hcb : CallB room_1 s #[Value.ref b] RL j y cy n ry (wsOf y cy n ry) (rmD dy) 0 0 nA := callB_of nA hts (wsOf_good w5) rfl rfl rfl (hts _ w4) (hts _ w1) hy.2 ⟨hR2.1, by show 8 + (n + 11) + 37 * dy ≤ 444; omega⟩
  have hr2 := va_runV (C := q.1) (As := As) (rest := st) (b := gA g k) (g := F0 m pc ls st0) (e := e) (below := below) (meth := meth) (locs := locs) (cells := nc) (slots := ns) (l := gL g) ⟨hx, hb, hml, hown, hts⟩ hM ⟨hcb, hts _ w2, hts _ w3⟩ ⟨FrameBlind_Wd g _ σ, va_recv hF.1 hP hq (q0 := k) (fs := fl g σ k (nf ci)) (by rw [cw_at ho.1, ce_O ho]), fun U hU hW => ⟨rfl, by rw [hU]; exact hP, Fx_warm hW (fun a h1 h2 => by rw [hU]; exact hS.2.1 a h1 (Nat.not_le.mpr h1)) hF, hD⟩⟩ rfl hnA hl.1 hst (lv_room hrest) hd ⟨hn.1, hn.2⟩
  intro T hT X
  obtain ⟨v, st₀, t, T', L2, h0, X', hL, e1, e2, ⟨⟨v2, σ', hv, hp, hb2⟩, hz, hk⟩, stp⟩ := hr2 T hT X
  cases hv
  rw [h0] at hz hk
  have hA : ∀ a, aw g a → A0 s a := fun a ha => by
    obtain ⟨k2, h1, h2⟩ := ha
    rw [h2]
    exact hg k2 h1
  obtain ⟨t2, a1, b1⟩ := kk v σ' hp ls T'.heap (locs ++ L2) hl (by rw [e1]; exact hb2)
    ⟨Nat.le_trans hS.1 (by rw [e1]; exact hz), fun q h1 h2 => by rw [e1, hk q (Nat.lt_of_lt_of_le h1 hS.1) (fun h3 => h2 (hA q h3))]; exact hS.2.1 q h1 h2, fun q hq => by
      rcases List.mem_append.mp hq with h | h
      · exact hS.2.2 q h
      · exact hA _ (hL q h)⟩ T' rfl X'
  exact ⟨t2, stp t2 a1, b1⟩
theorem rl_eq (C : CL g p s m meth c b L xs) {a : Int32} {off : Int} (tgt : Nat) (hd : decode cL_law pc = .ok (.if_icmp .eq off, 3)) (ht : (pc : Int) + off = (tgt : Int)) (k : JL g p e s m below meth c b nc ns tgt lv st σ) : JL g p e s m below meth c b nc ns pc lv (.int a :: .int a :: st) σ := by
  obtain ⟨hx, hb, hml, hown, hts, hX, hr, hlk, hF, hD, hg⟩ := C
  intro ls H locs hl hP hS
  exact lv_icmp_eq hx hb hd ht (fun _ => k ls H locs hl hP hS) (fun q => absurd rfl q)
theorem lg_same (a : Int64) : lg_cmp a a = 0 := by
  unfold lg_cmp
  rw [if_neg (show ¬ a > a from fun h => absurd (Int64.lt_iff_toInt_lt.mp h) (Int.lt_irrefl _)), if_pos rfl]
theorem rl_leq (C : CL g p s m meth c b L xs) {a : Int64} {off : Int} (tgt : Nat) (hd : decode cL_law pc = .ok (.lcmp, 1)) (hd2 : decode cL_law (pc + 1) = .ok (.ifCond .eq off, 3)) (ht : ((pc + 1 : Nat) : Int) + off = (tgt : Int)) (k : JL g p e s m below meth c b nc ns tgt lv st σ) : JL g p e s m below meth c b nc ns pc lv (.long a :: .long a :: st) σ := by
  obtain ⟨hx, hb, hml, hown, hts, hX, hr, hlk, hF, hD, hg⟩ := C
  intro ls H locs hl hP hS
  refine W.lcmp hx hb hd ?_
  rw [lg_same]
  exact lv_if_eq hx hb hd2 ht (fun _ => k ls H locs hl hP hS) (fun q => absurd rfl q)
theorem rl_tabIn (C : CL g p s m meth c b L xs) {dflt lo hi : Int} {offs : Array Int} {len : Nat} {a : Int32} {off : Int} (cst : Int) (tgt : Nat) (hd : decode cL_law pc = .ok (.tableswitch dflt lo hi offs, len)) (ha : a.toInt = cst) (h1 : ¬ cst < lo) (h2 : ¬ hi < cst) (ho : offs[(cst - lo).toNat]? = some off) (ht : (pc : Int) + off = (tgt : Int)) (k : JL g p e s m below meth c b nc ns tgt lv st σ) : JL g p e s m below meth c b nc ns pc lv (.int a :: st) σ := by
  obtain ⟨hx, hb, hml, hown, hts, hX, hr, hlk, hF, hD, hg⟩ := C
  intro ls H locs hl hP hS
  exact lv_tableIn hx hb hd (by rw [ha]; exact h1) (by rw [ha]; exact h2) (by rw [ha]; exact ho) ht (k ls H locs hl hP hS)
theorem rl_tabOut (C : CL g p s m meth c b L xs) {dflt lo hi : Int} {offs : Array Int} {len : Nat} {a : Int32} (tgt : Nat) (hd : decode cL_law pc = .ok (.tableswitch dflt lo hi offs, len)) (h : a.toInt < lo ∨ hi < a.toInt) (ht : (pc : Int) + dflt = (tgt : Int)) (k : JL g p e s m below meth c b nc ns tgt lv st σ) : JL g p e s m below meth c b nc ns pc lv (.int a :: st) σ := by
  obtain ⟨hx, hb, hml, hown, hts, hX, hr, hlk, hF, hD, hg⟩ := C
  intro ls H locs hl hP hS
  exact lv_tableOut hx hb hd h ht (k ls H locs hl hP hS)
theorem rl_mask (C : CL g p s m meth c b L xs) {a : Int32} (d0 : decode cL_law pc = .ok (.bipush 63, 2)) (d1 : decode cL_law (pc + 2) = .ok (.iand, 1)) (k : JL g p e s m below meth c b nc ns (pc + 3) lv (.int (a &&& 63) :: st) σ) : JL g p e s m below meth c b nc ns pc lv (.int a :: st) σ := by
  obtain ⟨hx, hb, hml, hown, hts, hX, hr, hlk, hF, hD, hg⟩ := C
  intro ls H locs hl hP hS
  refine lv_bipush (v := 63) hx hb d0 (by decide) ?_
  exact lv_iand hx hb d1 (k ls H locs hl hP hS)
/-- the loop's head: on with a call, or the end -/
theorem rl_head (C : CL g p s m meth c b L xs) (hi : i ≤ 3072) (hn : nc ≤ 600000 ∧ ns ≤ 7302250) (k : i + 6 ≤ L → JL g p e s m below meth c b nc ns 27 (LV g b i) [] σ) : JL g p e s m below meth c b nc ns 18 (LV g b i) [] σ := by
  obtain ⟨hx, hb, hml, hown, hts, hX, hr, hlk, hF, hD, hg⟩ := C
  intro ls H locs hl hP hS
  refine lv_iload_n hx hb dL_law_18 rfl (lv_at hl 3 rfl) ?_
  refine lv_aload_n hx hb dL_law_19 rfl (lv_at hl 0 rfl) ?_
  refine va_slen hx hb hX.1 hX.2.1 (Nat.not_le.mpr hX.2.1) hS dL_law_20 ?_
  refine lv_bipush (v := iI 6) hx hb dL_law_21 (by decide) ?_
  rw [show Int32.ofNat L = iI (L : Int) from (iI_nat L).symm, show nI i = iI (i : Int) from (iI_nat i).symm]
  refine lv_isub hx hb dL_law_23 ?_
  rw [iI_sub]
  have hL := hX.2.2
  refine lv_icmp_gt (tgt := 1580) hx hb dL_law_24 (by decide) (fun _ => ?_) (fun q => ?_)
  · refine lv_iconst (v := 1) hx hb dL_law_1580 (by decide) ?_
    refine va_forget (fun q hq => hS.2.2 q hq) ?_
    refine W.widen (k := 600000) (n := 7302250) hn.1 hn.2 ?_
    exact lw_ret hx hb hr hlk dL_law_1581
  · have q2 : ¬ ((L : Int) - 6 < (i : Int)) := fun h => q ((iI_lt ⟨by omega, by omega⟩ ⟨by omega, by omega⟩).mpr h)
    exact k (by omega) ls H locs hl hP hS
theorem rl_next (C : CL g p s m meth c b L xs) (k : JL g p e s m below meth c b nc ns 18 (LV g b (i + 6)) [] σ) : JL g p e s m below meth c b nc ns 1574 (LV g b i) [] σ := by
  obtain ⟨hx, hb, hml, hown, hts, hX, hr, hlk, hF, hD, hg⟩ := C
  intro ls H locs hl hP hS
  refine lv_iinc (v := nI (i + 6)) (k := 3) (lv' := [(3, .int (nI (i + 6))), (0, .ref b), (1, .ref (gA g 40)), (2, .ref (gA g 41))]) hx hb dL_law_1574 hl rfl (nI_add i 6) (by decide) rfl (fun ls hl => ?_)
  refine lv_goto (tgt := 18) hx hb dL_law_1577 (by decide) ?_
  exact k ls H locs (lv_sub hl [1, 2, 3, 0] rfl) hP hS
end LROWS
