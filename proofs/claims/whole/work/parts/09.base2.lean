/-! ===== what a method may count on at its start, beside the cells ===== -/
def tysOf (g : Gt) : List (ClassId × FieldType) := [(gI g, .int), (gQ g, .object RX1)]
def stab (i j : Nat) : Int := (([[3, 6, 1, 1, 1, 0, 7], [0, 0, 20, 10, 10, 5, 1], [-1, 0, 0, 2, 3, 0, 1]] : List (List Int)).getD i []).getD j 0
def skey (i : Nat) : Nat := 72 + 2 * i
def stxt (i : Nat) : String := (["tenant", "lord", "maid", "widow", "bishop", "cat", "heir", "dust", "fall", "draught", "at", "goods", "marks", ""] : List String).getD i ""
def slen : List Nat := [6, 4, 4, 5, 6, 3, 4, 4, 4, 7, 2, 5, 5, 0]
def sbyt : List (List Int32) := [[116, 101, 110, 97, 110, 116], [108, 111, 114, 100], [109, 97, 105, 100], [119, 105, 100, 111, 119], [98, 105, 115, 104, 111, 112], [99, 97, 116], [104, 101, 105, 114], [100, 117, 115, 116], [102, 97, 108, 108], [100, 114, 97, 117, 103, 104, 116], [97, 116], [103, 111, 111, 100, 115], [109, 97, 114, 107, 115], []]
def nLv : Cond := .fieldLinkNest RX0 76 RX4 "LEAVES" "[I" RX4
def nSw : Cond := .fieldLinkNest RX0 99 RX4 "SWEEPS" "[I" RX4
def nSum : Cond := .methodLinkNest RX0 72 yX4_sumOf RX4
def nKd : Cond := .methodLinkNest RX3 108 yX4_isKind RX4
def Fs (g : Gt) (U : State) : Prop := (∀ i, i < 14 → vk_R RX3 (skey i) (stxt i) (gK g i) U) ∧ vk_S 14 slen sbyt (gK g) (gV g) (aw g) U U.heap ∧ va_Z "java/lang/String" "COMPACT_STRINGS" "Z" (.int 1) (aw g) U U.heap ∧ va_Zq "jdk/internal/util/Preconditions" "SIOOBE_FORMATTER" "Ljava/util/function/BiFunction;" (aw g) U U.heap
def Ft (g : Gt) (n : String) (i : Nat) (U : State) : Prop := va_Z "DustLand" n "[I" (.ref (gT g i)) (aw g) U U.heap ∧ va_T .int (gT g i) 7 (fun j => .int (iI (stab i j))) (aw g) U U.heap
def Fn (U : State) : Prop := va_Nw nLv U ∧ va_Nw nSw U ∧ va_Nw nSum U ∧ va_Nw nKd U
def Fx (g : Gt) (U : State) : Prop := va_K (gD g) cls (tysOf g) U ∧ Ft g "LEAVES" 0 U ∧ Ft g "SWEEPS" 1 U ∧ Ft g "ABOVE" 2 U ∧ Fn U ∧ Fs g U
theorem Fn_warm {s U : State} (hW : s.WarmedH U.vm) (h : Fn s) : Fn U := ⟨va_Nw.warmF hW h.1, va_Nw.warmF hW h.2.1, va_Nw.warmM hW h.2.2.1, va_Nw.warmM hW h.2.2.2⟩
theorem Fn_same {s U : State} (hv : s.vm = U.vm) (h : Fn s) : Fn U := ⟨va_Nw.same rfl hv h.1, va_Nw.same rfl hv h.2.1, va_Nw.same rfl hv h.2.2.1, va_Nw.same rfl hv h.2.2.2⟩
theorem Fx_warm {g : Gt} {s U : State} (hW : s.WarmedH U.vm) (hq : ∀ a : Nat, a < s.heap.size → ¬ aw g a → U.heap[a]? = s.heap[a]?) (h : Fx g s) : Fx g U := by
  obtain ⟨hK, ⟨a1, a2⟩, ⟨b1, b2⟩, ⟨c1, c2⟩, hN, k1, k2, k3, k4⟩ := h
  have ha := hW.alike
  exact ⟨va_K.moved ha hK, ⟨(va_Z.moved ha a1).kept hq, (va_T.moved ha a2).kept hq⟩, ⟨(va_Z.moved ha b1).kept hq, (va_T.moved ha b2).kept hq⟩, ⟨(va_Z.moved ha c1).kept hq, (va_T.moved ha c2).kept hq⟩, Fn_warm hW hN, fun i hi => (k1 i hi).warm hW, (vk_S.moved ha k2).kept hq, (va_Z.moved ha k3).kept hq, (va_Zq.moved ha k4).kept hq⟩
theorem Fx_same {g : Gt} {s U : State} (hv : s.vm = U.vm) (hh : U.heap = s.heap) (h : Fx g s) : Fx g U := by
  obtain ⟨hK, ⟨a1, a2⟩, ⟨b1, b2⟩, ⟨c1, c2⟩, hN, k1, k2, k3, k4⟩ := h
  have ha : s.vm.Alike U.vm := by rw [← hv]; exact Vm.Alike.refl s.vm
  have hq : ∀ a : Nat, a < s.heap.size → ¬ aw g a → U.heap[a]? = s.heap[a]? := fun a _ _ => by rw [hh]
  exact ⟨va_K.moved ha hK, ⟨(va_Z.moved ha a1).kept hq, (va_T.moved ha a2).kept hq⟩, ⟨(va_Z.moved ha b1).kept hq, (va_T.moved ha b2).kept hq⟩, ⟨(va_Z.moved ha c1).kept hq, (va_T.moved ha c2).kept hq⟩, Fn_same hv hN, fun i hi => (k1 i hi).same hv.symm, (vk_S.moved ha k2).kept hq, (va_Z.moved ha k3).kept hq, (va_Zq.moved ha k4).kept hq⟩
/-- a method's start: the cells hold σ -/
def Wd (g : Gt) (σ : Sg) (U : State) : Prop := va_P (gD g) cls (cw g σ) U.heap ∧ Fx g U ∧ Dg g
/-- a method's end -/
def Qn (g : Gt) (post : Option Value → Sg → Prop) : Array Value → State → Outcome → State → Prop := fun _ st oc t => (∃ (v : Option Value) (σ' : Sg), oc = .returned v ∧ post v σ' ∧ va_P (gD g) cls (cw g σ') t.heap) ∧ va_F (aw g) st t
def rmD (d : Nat) : Room := { frames := d, cells := 0, slots := 0, locals := 37 * d }
def wsOf (y : MethodName) (cc : ByteArray) (n : Nat) (ret : Option FieldType) : List Cond := .code y cc n ret :: tbl
/-- the contract: called with these arguments over σ it returns, and 'post answer σ2'; d: the calls that may stand open -/
def Mt (g : Gt) (y : MethodName) (cc : ByteArray) (n : Nat) (ret : Option FieldType) (d : Nat) (av : List Value) (σ : Sg) (post : Option Value → Sg → Prop) : Prop :=
  Met (gL g) y (wsOf y cc n ret) (rmD d) (va_Pc av (Wd g σ)) (Qn g post) 0 0 (aw g)
abbrev Ev : Type := Program × Env × Room × State × MethodId × Array Value × List Frame × Method × Code
/-- the machine at pc of a method, with these locals, this stack, over σ, comes to its end with 'post' -/
def J (g : Gt) (E : Ev) (post : Option Value → Sg → Prop) (nL pc : Nat) (lv : List (Nat × Value)) (st : List Value) (σ : Sg) : Prop :=
  match E with
  | (p, e, R, s, m, args, below, meth, c) => ∀ (ls : Array Slot) (H : Heap) (locs : List Loc), lv_has ls nL lv → va_P (gD g) cls (cw g σ) H → va_S (aw g) s.heap H locs → W p (gL g) e R s m args below meth c H locs 0 0 (MQ below (Qn g post) args s 0 0 (aw g)) (F0 m pc ls st)
def Cx (g : Gt) (E : Ev) (cc : ByteArray) (nL : Nat) (own : String) (ret : Option FieldType) (d : Nat) : Prop :=
  match E with
  | (p, e, R, s, m, args, below, meth, c) => p.tables.exec = Jvm.exec ∧ c.code = cc ∧ c.maxLocals = nL ∧ s.vm.findClass own = some m.cls ∧ (∀ w ∈ tbl, w.before args s = true) ∧ meth.sig.returnType = ret ∧ meth.locks = false ∧ R = rmD d ∧ Fx g s ∧ Dg g
theorem FrameBlind_Wd (g : Gt) (av : List Value) (σ : Sg) : FrameBlind (va_Pc av (Wd g σ)) := fun a U fr mk h => ⟨h.1, h.2.1, Fx_same (s := U) (U := U.calling fr mk a) rfl rfl h.2.2.1, h.2.2.2⟩
theorem mt_of {g : Gt} {y : MethodName} {cc : ByteArray} {n : Nat} {ret : Option FieldType} {d : Nat} {av : List Value} {σ : Sg} {post : Option Value → Sg → Prop} {own : String} (hy : plainName y.cls = true) (ho : y.cls = own) (hn : (lg_sl av).length ≤ n)
    (h : ∀ E : Ev, Cx g E cc n own ret d → J g E post n 0 (lv_args 0 av) [] σ) : Mt g y cc n ret d av σ post := by
  subst ho
  refine Met.ofW (cc := cc) (maxL := n) (ret := ret) hy rfl ?_
  intro p e s m args below meth c s₁ B hml hv
  obtain ⟨rfl, hP, hF, hD⟩ := hv
  have hts := atoms_spec (ws := wsOf y cc n ret) B.pre
  have hl := lv_entry av (n := n) hn
  rw [lg_entry_eq]
  exact h (p, e, (headSpec (wsOf y cc n ret) (rmD d)).room, s, m, av.toArray, below, meth, c) ⟨B.exec, B.bytes, hml, findClass_of_methodNamed B.named, fun w hw => hts w (List.mem_cons_of_mem _ hw), B.returns, B.notSynchronized, rfl, hF, hD⟩ _ _ _ hl hP va_S.rf
theorem wsOf_good {y : MethodName} {cc : ByteArray} {n : Nat} {ret : Option FieldType} (h : Cond.code y cc n ret ∈ tbl) : GoodIn tbl (wsOf y cc n ret) := by
  intro w hw
  have hw' : w ∈ tbl := by
    rcases List.mem_cons.mp hw with e | e
    · rw [e]; exact h
    · exact e
  exact ⟨hw', tbl_good w hw'⟩
