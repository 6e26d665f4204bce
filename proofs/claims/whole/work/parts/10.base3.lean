section ROWS
variable {g : Gt} {E : Ev} {post : Option Value → Sg → Prop} {cc : ByteArray} {nL pc d : Nat} {own : String} {ret : Option FieldType} {lv : List (Nat × Value)} {st : List Value} {σ : Sg}
theorem r_iconst (C : Cx g E cc nL own ret d) {n : Int} (hd : decode cc pc = .ok (.iconst n, 1)) (k : J g E post nL (pc + 1) lv (.int (iI n) :: st) σ) : J g E post nL pc lv st σ := by
  obtain ⟨p, e, R, s, m, args, below, meth, c⟩ := E
  obtain ⟨hx, hb, hml, hown, hts, hr, hlk, hR, hF, hD⟩ := C
  intro ls H locs hl hP hS
  exact lv_iconst hx hb hd rfl (k ls H locs hl hP hS)

theorem r_bipush (C : Cx g E cc nL own ret d) {n : Int} (hd : decode cc pc = .ok (.bipush n, 2)) (hv : (Int8.ofInt n).toInt32 = iI n) (k : J g E post nL (pc + 2) lv (.int (iI n) :: st) σ) : J g E post nL pc lv st σ := by
  obtain ⟨p, e, R, s, m, args, below, meth, c⟩ := E
  obtain ⟨hx, hb, hml, hown, hts, hr, hlk, hR, hF, hD⟩ := C
  intro ls H locs hl hP hS
  exact lv_bipush hx hb hd hv (k ls H locs hl hP hS)

theorem r_sipush (C : Cx g E cc nL own ret d) {n : Int} (hd : decode cc pc = .ok (.sipush n, 3)) (hv : (Int16.ofInt n).toInt32 = iI n) (k : J g E post nL (pc + 3) lv (.int (iI n) :: st) σ) : J g E post nL pc lv st σ := by
  obtain ⟨p, e, R, s, m, args, below, meth, c⟩ := E
  obtain ⟨hx, hb, hml, hown, hts, hr, hlk, hR, hF, hD⟩ := C
  intro ls H locs hl hP hS
  exact lv_sipush hx hb hd hv (k ls H locs hl hP hS)

theorem r_ldc (C : Cx g E cc nL own ret d) {i : Nat} {v : Int32} (n : Int) (hw : Cond.constant own i v ∈ tbl) (hv : v = iI n) (hd : decode cc pc = .ok (.ldc i, 2)) (k : J g E post nL (pc + 2) lv (.int (iI n) :: st) σ) : J g E post nL pc lv st σ := by
  obtain ⟨p, e, R, s, m, args, below, meth, c⟩ := E
  obtain ⟨hx, hb, hml, hown, hts, hr, hlk, hR, hF, hD⟩ := C
  intro ls H locs hl hP hS
  subst hv
  exact lv_ldc hx hb hown (hts _ hw) hd (k ls H locs hl hP hS)

theorem r_ldcw (C : Cx g E cc nL own ret d) {i : Nat} {v : Int32} (n : Int) (hw : Cond.constant own i v ∈ tbl) (hv : v = iI n) (hd : decode cc pc = .ok (.ldc_w i, 3)) (k : J g E post nL (pc + 3) lv (.int (iI n) :: st) σ) : J g E post nL pc lv st σ := by
  obtain ⟨p, e, R, s, m, args, below, meth, c⟩ := E
  obtain ⟨hx, hb, hml, hown, hts, hr, hlk, hR, hF, hD⟩ := C
  intro ls H locs hl hP hS
  subst hv
  exact lv_ldcw hx hb hown (hts _ hw) hd (k ls H locs hl hP hS)

theorem r_lconst (C : Cx g E cc nL own ret d) {q : Fin 2} {n : Int} (hd : decode cc pc = .ok (.lconst q, 1)) (hv : Int64.ofNat (q : Nat) = iL n) (k : J g E post nL (pc + 1) lv (.long (iL n) :: st) σ) : J g E post nL pc lv st σ := by
  obtain ⟨p, e, R, s, m, args, below, meth, c⟩ := E
  obtain ⟨hx, hb, hml, hown, hts, hr, hlk, hR, hF, hD⟩ := C
  intro ls H locs hl hP hS
  exact lv_lconst hx hb hd hv (k ls H locs hl hP hS)

theorem r_ldc2 (C : Cx g E cc nL own ret d) {i : Nat} {v : Int64} (n : Int) (hw : Cond.constantLong own i v ∈ tbl) (hv : v = iL n) (hd : decode cc pc = .ok (.ldc2_w i, 3)) (k : J g E post nL (pc + 3) lv (.long (iL n) :: st) σ) : J g E post nL pc lv st σ := by
  obtain ⟨p, e, R, s, m, args, below, meth, c⟩ := E
  obtain ⟨hx, hb, hml, hown, hts, hr, hlk, hR, hF, hD⟩ := C
  intro ls H locs hl hP hS
  subst hv
  exact lv_ldc2 hx hb hown (hts _ hw) hd (k ls H locs hl hP hS)

theorem r_iload_n (C : Cx g E cc nL own ret d) {q : Fin 4} {i : Nat} {x : Int} (hd : decode cc pc = .ok (.iload_n q, 1)) (hi : (q : Nat) = i) (j : Nat) (hj : lv[j]? = some (i, .int (iI x))) (k : J g E post nL (pc + 1) lv (.int (iI x) :: st) σ) : J g E post nL pc lv st σ := by
  obtain ⟨p, e, R, s, m, args, below, meth, c⟩ := E
  obtain ⟨hx, hb, hml, hown, hts, hr, hlk, hR, hF, hD⟩ := C
  intro ls H locs hl hP hS
  exact lv_iload_n hx hb hd hi (lv_at hl j hj) (k ls H locs hl hP hS)

theorem r_iload (C : Cx g E cc nL own ret d) {i : Nat} {x : Int} (hd : decode cc pc = .ok (.iload i, 2)) (j : Nat) (hj : lv[j]? = some (i, .int (iI x))) (k : J g E post nL (pc + 2) lv (.int (iI x) :: st) σ) : J g E post nL pc lv st σ := by
  obtain ⟨p, e, R, s, m, args, below, meth, c⟩ := E
  obtain ⟨hx, hb, hml, hown, hts, hr, hlk, hR, hF, hD⟩ := C
  intro ls H locs hl hP hS
  exact lv_iload hx hb hd (lv_at hl j hj) (k ls H locs hl hP hS)

theorem r_istore_n (C : Cx g E cc nL own ret d) {q : Fin 4} {i : Nat} {x : Int} (hd : decode cc pc = .ok (.istore_n q, 1)) (hi : (q : Nat) = i) (hn : i < nL) (ks : List Nat) {lv' : List (Nat × Value)} (hl' : lv_pick ((i, Value.int (iI x)) :: lv.filter (fun q => !(q.1 == i) && !(q.1 + 1 == i && q.2.category == 2))) ks = lv') (k : J g E post nL (pc + 1) lv' st σ) : J g E post nL pc lv (.int (iI x) :: st) σ := by
  obtain ⟨p, e, R, s, m, args, below, meth, c⟩ := E
  obtain ⟨hx, hb, hml, hown, hts, hr, hlk, hR, hF, hD⟩ := C
  intro ls H locs hl hP hS
  refine lv_istore_n hx hb hd hi hl hn rfl (fun ls' hl2 => ?_)
  exact k ls' H locs (lv_sub hl2 ks hl') hP hS

theorem r_istore (C : Cx g E cc nL own ret d) {i : Nat} {x : Int} (hd : decode cc pc = .ok (.istore i, 2)) (hn : i < nL) (ks : List Nat) {lv' : List (Nat × Value)} (hl' : lv_pick ((i, Value.int (iI x)) :: lv.filter (fun q => !(q.1 == i) && !(q.1 + 1 == i && q.2.category == 2))) ks = lv') (k : J g E post nL (pc + 2) lv' st σ) : J g E post nL pc lv (.int (iI x) :: st) σ := by
  obtain ⟨p, e, R, s, m, args, below, meth, c⟩ := E
  obtain ⟨hx, hb, hml, hown, hts, hr, hlk, hR, hF, hD⟩ := C
  intro ls H locs hl hP hS
  refine lv_istore hx hb hd hl hn rfl (fun ls' hl2 => ?_)
  exact k ls' H locs (lv_sub hl2 ks hl') hP hS

theorem r_lload_n (C : Cx g E cc nL own ret d) {q : Fin 4} {i : Nat} {x : Int} (hd : decode cc pc = .ok (.lload_n q, 1)) (hi : (q : Nat) = i) (j : Nat) (hj : lv[j]? = some (i, .long (iL x))) (k : J g E post nL (pc + 1) lv (.long (iL x) :: st) σ) : J g E post nL pc lv st σ := by
  obtain ⟨p, e, R, s, m, args, below, meth, c⟩ := E
  obtain ⟨hx, hb, hml, hown, hts, hr, hlk, hR, hF, hD⟩ := C
  intro ls H locs hl hP hS
  exact lv_lload_n hx hb hd hi (lv_at hl j hj) (k ls H locs hl hP hS)

theorem r_lload (C : Cx g E cc nL own ret d) {i : Nat} {x : Int} (hd : decode cc pc = .ok (.lload i, 2)) (j : Nat) (hj : lv[j]? = some (i, .long (iL x))) (k : J g E post nL (pc + 2) lv (.long (iL x) :: st) σ) : J g E post nL pc lv st σ := by
  obtain ⟨p, e, R, s, m, args, below, meth, c⟩ := E
  obtain ⟨hx, hb, hml, hown, hts, hr, hlk, hR, hF, hD⟩ := C
  intro ls H locs hl hP hS
  exact lv_lload hx hb hd (lv_at hl j hj) (k ls H locs hl hP hS)

theorem r_lstore_n (C : Cx g E cc nL own ret d) {q : Fin 4} {i : Nat} {x : Int} (hd : decode cc pc = .ok (.lstore_n q, 1)) (hi : (q : Nat) = i) (hn : i + 1 < nL) (ks : List Nat) {lv' : List (Nat × Value)} (hl' : lv_pick ((i, Value.long (iL x)) :: lv.filter (fun q => !(q.1 == i) && (!(q.1 == i + 1) && !(q.1 + 1 == i && q.2.category == 2)))) ks = lv') (k : J g E post nL (pc + 1) lv' st σ) : J g E post nL pc lv (.long (iL x) :: st) σ := by
  obtain ⟨p, e, R, s, m, args, below, meth, c⟩ := E
  obtain ⟨hx, hb, hml, hown, hts, hr, hlk, hR, hF, hD⟩ := C
  intro ls H locs hl hP hS
  refine lv_lstore_n hx hb hd hi hl hn rfl (fun ls' hl2 => ?_)
  exact k ls' H locs (lv_sub hl2 ks hl') hP hS

theorem r_lstore (C : Cx g E cc nL own ret d) {i : Nat} {x : Int} (hd : decode cc pc = .ok (.lstore i, 2)) (hn : i + 1 < nL) (ks : List Nat) {lv' : List (Nat × Value)} (hl' : lv_pick ((i, Value.long (iL x)) :: lv.filter (fun q => !(q.1 == i) && (!(q.1 == i + 1) && !(q.1 + 1 == i && q.2.category == 2)))) ks = lv') (k : J g E post nL (pc + 2) lv' st σ) : J g E post nL pc lv (.long (iL x) :: st) σ := by
  obtain ⟨p, e, R, s, m, args, below, meth, c⟩ := E
  obtain ⟨hx, hb, hml, hown, hts, hr, hlk, hR, hF, hD⟩ := C
  intro ls H locs hl hP hS
  refine lv_lstore hx hb hd hl hn rfl (fun ls' hl2 => ?_)
  exact k ls' H locs (lv_sub hl2 ks hl') hP hS

theorem r_aload_n (C : Cx g E cc nL own ret d) {q : Fin 4} {i : Nat} {x : Nat} (hd : decode cc pc = .ok (.aload_n q, 1)) (hi : (q : Nat) = i) (j : Nat) (hj : lv[j]? = some (i, .ref x)) (k : J g E post nL (pc + 1) lv (.ref x :: st) σ) : J g E post nL pc lv st σ := by
  obtain ⟨p, e, R, s, m, args, below, meth, c⟩ := E
  obtain ⟨hx, hb, hml, hown, hts, hr, hlk, hR, hF, hD⟩ := C
  intro ls H locs hl hP hS
  exact lv_aload_n hx hb hd hi (lv_at hl j hj) (k ls H locs hl hP hS)

theorem r_aload (C : Cx g E cc nL own ret d) {i : Nat} {x : Nat} (hd : decode cc pc = .ok (.aload i, 2)) (j : Nat) (hj : lv[j]? = some (i, .ref x)) (k : J g E post nL (pc + 2) lv (.ref x :: st) σ) : J g E post nL pc lv st σ := by
  obtain ⟨p, e, R, s, m, args, below, meth, c⟩ := E
  obtain ⟨hx, hb, hml, hown, hts, hr, hlk, hR, hF, hD⟩ := C
  intro ls H locs hl hP hS
  exact lv_aload hx hb hd (lv_at hl j hj) (k ls H locs hl hP hS)

theorem r_astore_n (C : Cx g E cc nL own ret d) {q : Fin 4} {i : Nat} {x : Nat} (hd : decode cc pc = .ok (.astore_n q, 1)) (hi : (q : Nat) = i) (hn : i < nL) (ks : List Nat) {lv' : List (Nat × Value)} (hl' : lv_pick ((i, Value.ref x) :: lv.filter (fun q => !(q.1 == i) && !(q.1 + 1 == i && q.2.category == 2))) ks = lv') (k : J g E post nL (pc + 1) lv' st σ) : J g E post nL pc lv (.ref x :: st) σ := by
  obtain ⟨p, e, R, s, m, args, below, meth, c⟩ := E
  obtain ⟨hx, hb, hml, hown, hts, hr, hlk, hR, hF, hD⟩ := C
  intro ls H locs hl hP hS
  refine lv_astore_n hx hb hd hi hl hn rfl (fun ls' hl2 => ?_)
  exact k ls' H locs (lv_sub hl2 ks hl') hP hS

theorem r_astore (C : Cx g E cc nL own ret d) {i : Nat} {x : Nat} (hd : decode cc pc = .ok (.astore i, 2)) (hn : i < nL) (ks : List Nat) {lv' : List (Nat × Value)} (hl' : lv_pick ((i, Value.ref x) :: lv.filter (fun q => !(q.1 == i) && !(q.1 + 1 == i && q.2.category == 2))) ks = lv') (k : J g E post nL (pc + 2) lv' st σ) : J g E post nL pc lv (.ref x :: st) σ := by
  obtain ⟨p, e, R, s, m, args, below, meth, c⟩ := E
  obtain ⟨hx, hb, hml, hown, hts, hr, hlk, hR, hF, hD⟩ := C
  intro ls H locs hl hP hS
  refine lv_astore hx hb hd hl hn rfl (fun ls' hl2 => ?_)
  exact k ls' H locs (lv_sub hl2 ks hl') hP hS

theorem r_iinc (C : Cx g E cc nL own ret d) {i : Nat} {n x : Int} (hd : decode cc pc = .ok (.iinc i n, 3)) (j : Nat) (hj : lv[j]? = some (i, .int (iI x))) (hn : i < nL) (ks : List Nat) {lv' : List (Nat × Value)} (hl' : lv_pick ((i, Value.int (iI (x + n))) :: lv.filter (fun q => !(q.1 == i) && !(q.1 + 1 == i && q.2.category == 2))) ks = lv') (k : J g E post nL (pc + 3) lv' st σ) : J g E post nL pc lv st σ := by
  obtain ⟨p, e, R, s, m, args, below, meth, c⟩ := E
  obtain ⟨hx, hb, hml, hown, hts, hr, hlk, hR, hF, hD⟩ := C
  intro ls H locs hl hP hS
  refine lv_iinc hx hb hd hl hj (iI_add x n) hn rfl (fun ls' hl2 => ?_)
  exact k ls' H locs (lv_sub hl2 ks hl') hP hS

theorem r_iadd (C : Cx g E cc nL own ret d) {a b : Int} (hd : decode cc pc = .ok (.iadd, 1)) (k : J g E post nL (pc + 1) lv (.int (iI (a + b)) :: st) σ) : J g E post nL pc lv (.int (iI b) :: .int (iI a) :: st) σ := by
  obtain ⟨p, e, R, s, m, args, below, meth, c⟩ := E
  obtain ⟨hx, hb, hml, hown, hts, hr, hlk, hR, hF, hD⟩ := C
  intro ls H locs hl hP hS
  refine lv_iadd hx hb hd ?_
  rw [iI_add]
  exact k ls H locs hl hP hS

theorem r_isub (C : Cx g E cc nL own ret d) {a b : Int} (hd : decode cc pc = .ok (.isub, 1)) (k : J g E post nL (pc + 1) lv (.int (iI (a - b)) :: st) σ) : J g E post nL pc lv (.int (iI b) :: .int (iI a) :: st) σ := by
  obtain ⟨p, e, R, s, m, args, below, meth, c⟩ := E
  obtain ⟨hx, hb, hml, hown, hts, hr, hlk, hR, hF, hD⟩ := C
  intro ls H locs hl hP hS
  refine lv_isub hx hb hd ?_
  rw [iI_sub]
  exact k ls H locs hl hP hS

theorem r_imul (C : Cx g E cc nL own ret d) {a b : Int} (hd : decode cc pc = .ok (.imul, 1)) (k : J g E post nL (pc + 1) lv (.int (iI (a * b)) :: st) σ) : J g E post nL pc lv (.int (iI b) :: .int (iI a) :: st) σ := by
  obtain ⟨p, e, R, s, m, args, below, meth, c⟩ := E
  obtain ⟨hx, hb, hml, hown, hts, hr, hlk, hR, hF, hD⟩ := C
  intro ls H locs hl hP hS
  refine lv_imul hx hb hd ?_
  rw [iI_mul]
  exact k ls H locs hl hP hS

theorem r_ineg (C : Cx g E cc nL own ret d) {a : Int} (hd : decode cc pc = .ok (.ineg, 1)) (k : J g E post nL (pc + 1) lv (.int (iI (-a)) :: st) σ) : J g E post nL pc lv (.int (iI a) :: st) σ := by
  obtain ⟨p, e, R, s, m, args, below, meth, c⟩ := E
  obtain ⟨hx, hb, hml, hown, hts, hr, hlk, hR, hF, hD⟩ := C
  intro ls H locs hl hP hS
  refine lv_ineg hx hb hd ?_
  rw [iI_neg]
  exact k ls H locs hl hP hS

theorem r_idiv (C : Cx g E cc nL own ret d) {a b : Int} (h1 : 0 ≤ a) (h2 : a ≤ 2147483647) (h3 : 0 < b) (h4 : b ≤ 2147483647) (hd : decode cc pc = .ok (.idiv, 1)) (k : J g E post nL (pc + 1) lv (.int (iI (a / b)) :: st) σ) : J g E post nL pc lv (.int (iI b) :: .int (iI a) :: st) σ := by
  obtain ⟨p, e, R, s, m, args, below, meth, c⟩ := E
  obtain ⟨hx, hb, hml, hown, hts, hr, hlk, hR, hF, hD⟩ := C
  intro ls H locs hl hP hS
  refine lv_idiv hx hb hd (iI_ne0 h3 h4) ?_
  rw [iI_div h1 h2 h3 h4]
  exact k ls H locs hl hP hS

theorem r_irem (C : Cx g E cc nL own ret d) {a b : Int} (h1 : 0 ≤ a) (h2 : a ≤ 2147483647) (h3 : 0 < b) (h4 : b ≤ 2147483647) (hd : decode cc pc = .ok (.irem, 1)) (k : J g E post nL (pc + 1) lv (.int (iI (a % b)) :: st) σ) : J g E post nL pc lv (.int (iI b) :: .int (iI a) :: st) σ := by
  obtain ⟨p, e, R, s, m, args, below, meth, c⟩ := E
  obtain ⟨hx, hb, hml, hown, hts, hr, hlk, hR, hF, hD⟩ := C
  intro ls H locs hl hP hS
  refine lv_irem hx hb hd (iI_ne0 h3 h4) ?_
  rw [iI_rem h1 h2 h3 h4]
  exact k ls H locs hl hP hS

theorem r_iand (C : Cx g E cc nL own ret d) {a b : Int} (hd : decode cc pc = .ok (.iand, 1)) (k : J g E post nL (pc + 1) lv (.int (iI (band a b)) :: st) σ) : J g E post nL pc lv (.int (iI b) :: .int (iI a) :: st) σ := by
  obtain ⟨p, e, R, s, m, args, below, meth, c⟩ := E
  obtain ⟨hx, hb, hml, hown, hts, hr, hlk, hR, hF, hD⟩ := C
  intro ls H locs hl hP hS
  refine lv_iand hx hb hd ?_
  rw [show iI a &&& iI b = iI (band a b) from (iI_of _).symm]
  exact k ls H locs hl hP hS

theorem r_ior (C : Cx g E cc nL own ret d) {a b : Int} (hd : decode cc pc = .ok (.ior, 1)) (k : J g E post nL (pc + 1) lv (.int (iI (bor a b)) :: st) σ) : J g E post nL pc lv (.int (iI b) :: .int (iI a) :: st) σ := by
  obtain ⟨p, e, R, s, m, args, below, meth, c⟩ := E
  obtain ⟨hx, hb, hml, hown, hts, hr, hlk, hR, hF, hD⟩ := C
  intro ls H locs hl hP hS
  refine lv_ior hx hb hd ?_
  rw [show iI a ||| iI b = iI (bor a b) from (iI_of _).symm]
  exact k ls H locs hl hP hS

theorem r_ixor (C : Cx g E cc nL own ret d) {a b : Int} (hd : decode cc pc = .ok (.ixor, 1)) (k : J g E post nL (pc + 1) lv (.int (iI (bxor a b)) :: st) σ) : J g E post nL pc lv (.int (iI b) :: .int (iI a) :: st) σ := by
  obtain ⟨p, e, R, s, m, args, below, meth, c⟩ := E
  obtain ⟨hx, hb, hml, hown, hts, hr, hlk, hR, hF, hD⟩ := C
  intro ls H locs hl hP hS
  refine lv_ixor hx hb hd ?_
  rw [show iI a ^^^ iI b = iI (bxor a b) from (iI_of _).symm]
  exact k ls H locs hl hP hS

theorem r_ishl (C : Cx g E cc nL own ret d) {a b : Int} (hd : decode cc pc = .ok (.ishl, 1)) (k : J g E post nL (pc + 1) lv (.int (iI (bshl a b)) :: st) σ) : J g E post nL pc lv (.int (iI b) :: .int (iI a) :: st) σ := by
  obtain ⟨p, e, R, s, m, args, below, meth, c⟩ := E
  obtain ⟨hx, hb, hml, hown, hts, hr, hlk, hR, hF, hD⟩ := C
  intro ls H locs hl hP hS
  refine lv_ishl hx hb hd ?_
  rw [show iI a <<< (iI b &&& 31) = iI (bshl a b) from (iI_of _).symm]
  exact k ls H locs hl hP hS

theorem r_ishr (C : Cx g E cc nL own ret d) {a b : Int} (hd : decode cc pc = .ok (.ishr, 1)) (k : J g E post nL (pc + 1) lv (.int (iI (bshr a b)) :: st) σ) : J g E post nL pc lv (.int (iI b) :: .int (iI a) :: st) σ := by
  obtain ⟨p, e, R, s, m, args, below, meth, c⟩ := E
  obtain ⟨hx, hb, hml, hown, hts, hr, hlk, hR, hF, hD⟩ := C
  intro ls H locs hl hP hS
  refine lv_ishr hx hb hd ?_
  rw [show iI a >>> (iI b &&& 31) = iI (bshr a b) from (iI_of _).symm]
  exact k ls H locs hl hP hS

theorem r_iushr (C : Cx g E cc nL own ret d) {a b : Int} (hd : decode cc pc = .ok (.iushr, 1)) (k : J g E post nL (pc + 1) lv (.int (iI (bushr a b)) :: st) σ) : J g E post nL pc lv (.int (iI b) :: .int (iI a) :: st) σ := by
  obtain ⟨p, e, R, s, m, args, below, meth, c⟩ := E
  obtain ⟨hx, hb, hml, hown, hts, hr, hlk, hR, hF, hD⟩ := C
  intro ls H locs hl hP hS
  exact lv_iushr hx hb hd (iI_of _).symm (k ls H locs hl hP hS)

theorem r_i2b (C : Cx g E cc nL own ret d) {a : Int} (hd : decode cc pc = .ok (.i2b, 1)) (k : J g E post nL (pc + 1) lv (.int (iI (i8 a)) :: st) σ) : J g E post nL pc lv (.int (iI a) :: st) σ := by
  obtain ⟨p, e, R, s, m, args, below, meth, c⟩ := E
  obtain ⟨hx, hb, hml, hown, hts, hr, hlk, hR, hF, hD⟩ := C
  intro ls H locs hl hP hS
  exact lv_i2b hx hb hd (iI_of _).symm (k ls H locs hl hP hS)

theorem r_i2s (C : Cx g E cc nL own ret d) {a : Int} (hd : decode cc pc = .ok (.i2s, 1)) (k : J g E post nL (pc + 1) lv (.int (iI (i16 a)) :: st) σ) : J g E post nL pc lv (.int (iI a) :: st) σ := by
  obtain ⟨p, e, R, s, m, args, below, meth, c⟩ := E
  obtain ⟨hx, hb, hml, hown, hts, hr, hlk, hR, hF, hD⟩ := C
  intro ls H locs hl hP hS
  exact lv_i2s hx hb hd (iI_of _).symm (k ls H locs hl hP hS)

theorem r_i2l (C : Cx g E cc nL own ret d) {a : Int} (ha : rng a) (hd : decode cc pc = .ok (.i2l, 1)) (k : J g E post nL (pc + 1) lv (.long (iL a) :: st) σ) : J g E post nL pc lv (.int (iI a) :: st) σ := by
  obtain ⟨p, e, R, s, m, args, below, meth, c⟩ := E
  obtain ⟨hx, hb, hml, hown, hts, hr, hlk, hR, hF, hD⟩ := C
  intro ls H locs hl hP hS
  exact lv_i2l hx hb hd (iI_wide ha) (k ls H locs hl hP hS)

theorem r_ladd (C : Cx g E cc nL own ret d) {a b : Int} (hd : decode cc pc = .ok (.ladd, 1)) (k : J g E post nL (pc + 1) lv (.long (iL (a + b)) :: st) σ) : J g E post nL pc lv (.long (iL b) :: .long (iL a) :: st) σ := by
  obtain ⟨p, e, R, s, m, args, below, meth, c⟩ := E
  obtain ⟨hx, hb, hml, hown, hts, hr, hlk, hR, hF, hD⟩ := C
  intro ls H locs hl hP hS
  refine lv_ladd hx hb hd ?_
  rw [iL_add]
  exact k ls H locs hl hP hS

theorem r_lmul (C : Cx g E cc nL own ret d) {a b : Int} (hd : decode cc pc = .ok (.lmul, 1)) (k : J g E post nL (pc + 1) lv (.long (iL (a * b)) :: st) σ) : J g E post nL pc lv (.long (iL b) :: .long (iL a) :: st) σ := by
  obtain ⟨p, e, R, s, m, args, below, meth, c⟩ := E
  obtain ⟨hx, hb, hml, hown, hts, hr, hlk, hR, hF, hD⟩ := C
  intro ls H locs hl hP hS
  refine lv_lmul hx hb hd ?_
  rw [iL_mul]
  exact k ls H locs hl hP hS

theorem r_lcmp (C : Cx g E cc nL own ret d) {a b : Int} (ha : rngL a) (hb2 : rngL b) (hd : decode cc pc = .ok (.lcmp, 1)) (k : J g E post nL (pc + 1) lv (.int (iI (lc a b)) :: st) σ) : J g E post nL pc lv (.long (iL b) :: .long (iL a) :: st) σ := by
  obtain ⟨p, e, R, s, m, args, below, meth, c⟩ := E
  obtain ⟨hx, hb, hml, hown, hts, hr, hlk, hR, hF, hD⟩ := C
  intro ls H locs hl hP hS
  refine W.lcmp hx hb hd ?_
  rw [lc_is ha hb2]
  exact k ls H locs hl hP hS

theorem r_dup (C : Cx g E cc nL own ret d) {v : Value} (hv : v.category = 1) (hd : decode cc pc = .ok (.dup, 1)) (k : J g E post nL (pc + 1) lv (v :: v :: st) σ) : J g E post nL pc lv (v :: st) σ := by
  obtain ⟨p, e, R, s, m, args, below, meth, c⟩ := E
  obtain ⟨hx, hb, hml, hown, hts, hr, hlk, hR, hF, hD⟩ := C
  intro ls H locs hl hP hS
  exact lv_dup hx hb hd hv (k ls H locs hl hP hS)

theorem r_pop (C : Cx g E cc nL own ret d) {v : Value} (hv : v.category = 1) (hd : decode cc pc = .ok (.pop, 1)) (k : J g E post nL (pc + 1) lv st σ) : J g E post nL pc lv (v :: st) σ := by
  obtain ⟨p, e, R, s, m, args, below, meth, c⟩ := E
  obtain ⟨hx, hb, hml, hown, hts, hr, hlk, hR, hF, hD⟩ := C
  intro ls H locs hl hP hS
  exact lv_pop hx hb hd hv (k ls H locs hl hP hS)

theorem r_dup2 (C : Cx g E cc nL own ret d) {v w : Value} (hv : v.category = 1) (hw : w.category = 1) (hd : decode cc pc = .ok (.dup2, 1)) (k : J g E post nL (pc + 1) lv (v :: w :: v :: w :: st) σ) : J g E post nL pc lv (v :: w :: st) σ := by
  obtain ⟨p, e, R, s, m, args, below, meth, c⟩ := E
  obtain ⟨hx, hb, hml, hown, hts, hr, hlk, hR, hF, hD⟩ := C
  intro ls H locs hl hP hS
  exact lv_dup2_11 hx hb hd hv hw (k ls H locs hl hP hS)

theorem r_icmp_eq (C : Cx g E cc nL own ret d) {a b off : Int} (tgt : Nat) (ha : rng a) (hb2 : rng b) (hd : decode cc pc = .ok (.if_icmp .eq off, 3)) (ht : (pc : Int) + off = (tgt : Int)) (kt : a = b → J g E post nL tgt lv st σ) (kf : ¬ a = b → J g E post nL (pc + 3) lv st σ) : J g E post nL pc lv (.int (iI b) :: .int (iI a) :: st) σ := by
  obtain ⟨p, e, R, s, m, args, below, meth, c⟩ := E
  obtain ⟨hx, hb, hml, hown, hts, hr, hlk, hR, hF, hD⟩ := C
  intro ls H locs hl hP hS
  exact lv_icmp_eq hx hb hd ht (fun h => kt ((iI_eq ha hb2).mp h) ls H locs hl hP hS) (fun h => kf (fun q => h ((iI_eq ha hb2).mpr q)) ls H locs hl hP hS)

theorem r_if_eq (C : Cx g E cc nL own ret d) {a off : Int} (tgt : Nat) (ha : rng a) (hd : decode cc pc = .ok (.ifCond .eq off, 3)) (ht : (pc : Int) + off = (tgt : Int)) (kt : a = 0 → J g E post nL tgt lv st σ) (kf : ¬ a = 0 → J g E post nL (pc + 3) lv st σ) : J g E post nL pc lv (.int (iI a) :: st) σ := by
  obtain ⟨p, e, R, s, m, args, below, meth, c⟩ := E
  obtain ⟨hx, hb, hml, hown, hts, hr, hlk, hR, hF, hD⟩ := C
  intro ls H locs hl hP hS
  have e0 : (0 : Int32) = iI 0 := iI_0
  refine lv_if_eq hx hb hd ht (fun h => ?_) (fun h => ?_)
  · rw [e0] at h
    exact kt ((iI_eq ha rng0).mp h) ls H locs hl hP hS
  · rw [e0] at h
    exact kf (fun q => h ((iI_eq ha rng0).mpr q)) ls H locs hl hP hS

theorem r_icmp_ne (C : Cx g E cc nL own ret d) {a b off : Int} (tgt : Nat) (ha : rng a) (hb2 : rng b) (hd : decode cc pc = .ok (.if_icmp .ne off, 3)) (ht : (pc : Int) + off = (tgt : Int)) (kt : ¬ a = b → J g E post nL tgt lv st σ) (kf : a = b → J g E post nL (pc + 3) lv st σ) : J g E post nL pc lv (.int (iI b) :: .int (iI a) :: st) σ := by
  obtain ⟨p, e, R, s, m, args, below, meth, c⟩ := E
  obtain ⟨hx, hb, hml, hown, hts, hr, hlk, hR, hF, hD⟩ := C
  intro ls H locs hl hP hS
  exact lv_icmp_ne hx hb hd ht (fun h => kt (fun q => h ((iI_eq ha hb2).mpr q)) ls H locs hl hP hS) (fun h => kf ((iI_eq ha hb2).mp h) ls H locs hl hP hS)

theorem r_if_ne (C : Cx g E cc nL own ret d) {a off : Int} (tgt : Nat) (ha : rng a) (hd : decode cc pc = .ok (.ifCond .ne off, 3)) (ht : (pc : Int) + off = (tgt : Int)) (kt : ¬ a = 0 → J g E post nL tgt lv st σ) (kf : a = 0 → J g E post nL (pc + 3) lv st σ) : J g E post nL pc lv (.int (iI a) :: st) σ := by
  obtain ⟨p, e, R, s, m, args, below, meth, c⟩ := E
  obtain ⟨hx, hb, hml, hown, hts, hr, hlk, hR, hF, hD⟩ := C
  intro ls H locs hl hP hS
  have e0 : (0 : Int32) = iI 0 := iI_0
  refine lv_if_ne hx hb hd ht (fun h => ?_) (fun h => ?_)
  · rw [e0] at h
    exact kt (fun q => h ((iI_eq ha rng0).mpr q)) ls H locs hl hP hS
  · rw [e0] at h
    exact kf ((iI_eq ha rng0).mp h) ls H locs hl hP hS

theorem r_icmp_lt (C : Cx g E cc nL own ret d) {a b off : Int} (tgt : Nat) (ha : rng a) (hb2 : rng b) (hd : decode cc pc = .ok (.if_icmp .lt off, 3)) (ht : (pc : Int) + off = (tgt : Int)) (kt : a < b → J g E post nL tgt lv st σ) (kf : ¬ a < b → J g E post nL (pc + 3) lv st σ) : J g E post nL pc lv (.int (iI b) :: .int (iI a) :: st) σ := by
  obtain ⟨p, e, R, s, m, args, below, meth, c⟩ := E
  obtain ⟨hx, hb, hml, hown, hts, hr, hlk, hR, hF, hD⟩ := C
  intro ls H locs hl hP hS
  exact lv_icmp_lt hx hb hd ht (fun h => kt ((iI_lt ha hb2).mp h) ls H locs hl hP hS) (fun h => kf (fun q => h ((iI_lt ha hb2).mpr q)) ls H locs hl hP hS)

theorem r_if_lt (C : Cx g E cc nL own ret d) {a off : Int} (tgt : Nat) (ha : rng a) (hd : decode cc pc = .ok (.ifCond .lt off, 3)) (ht : (pc : Int) + off = (tgt : Int)) (kt : a < 0 → J g E post nL tgt lv st σ) (kf : ¬ a < 0 → J g E post nL (pc + 3) lv st σ) : J g E post nL pc lv (.int (iI a) :: st) σ := by
  obtain ⟨p, e, R, s, m, args, below, meth, c⟩ := E
  obtain ⟨hx, hb, hml, hown, hts, hr, hlk, hR, hF, hD⟩ := C
  intro ls H locs hl hP hS
  have e0 : (0 : Int32) = iI 0 := iI_0
  refine lv_if_lt hx hb hd ht (fun h => ?_) (fun h => ?_)
  · rw [e0] at h
    exact kt ((iI_lt ha rng0).mp h) ls H locs hl hP hS
  · rw [e0] at h
    exact kf (fun q => h ((iI_lt ha rng0).mpr q)) ls H locs hl hP hS

theorem r_icmp_ge (C : Cx g E cc nL own ret d) {a b off : Int} (tgt : Nat) (ha : rng a) (hb2 : rng b) (hd : decode cc pc = .ok (.if_icmp .ge off, 3)) (ht : (pc : Int) + off = (tgt : Int)) (kt : b ≤ a → J g E post nL tgt lv st σ) (kf : ¬ b ≤ a → J g E post nL (pc + 3) lv st σ) : J g E post nL pc lv (.int (iI b) :: .int (iI a) :: st) σ := by
  obtain ⟨p, e, R, s, m, args, below, meth, c⟩ := E
  obtain ⟨hx, hb, hml, hown, hts, hr, hlk, hR, hF, hD⟩ := C
  intro ls H locs hl hP hS
  exact lv_icmp_ge hx hb hd ht (fun h => kt ((iI_le hb2 ha).mp h) ls H locs hl hP hS) (fun h => kf (fun q => h ((iI_le hb2 ha).mpr q)) ls H locs hl hP hS)

theorem r_if_ge (C : Cx g E cc nL own ret d) {a off : Int} (tgt : Nat) (ha : rng a) (hd : decode cc pc = .ok (.ifCond .ge off, 3)) (ht : (pc : Int) + off = (tgt : Int)) (kt : 0 ≤ a → J g E post nL tgt lv st σ) (kf : ¬ 0 ≤ a → J g E post nL (pc + 3) lv st σ) : J g E post nL pc lv (.int (iI a) :: st) σ := by
  obtain ⟨p, e, R, s, m, args, below, meth, c⟩ := E
  obtain ⟨hx, hb, hml, hown, hts, hr, hlk, hR, hF, hD⟩ := C
  intro ls H locs hl hP hS
  have e0 : (0 : Int32) = iI 0 := iI_0
  refine lv_if_ge hx hb hd ht (fun h => ?_) (fun h => ?_)
  · rw [e0] at h
    exact kt ((iI_le rng0 ha).mp h) ls H locs hl hP hS
  · rw [e0] at h
    exact kf (fun q => h ((iI_le rng0 ha).mpr q)) ls H locs hl hP hS

theorem r_icmp_gt (C : Cx g E cc nL own ret d) {a b off : Int} (tgt : Nat) (ha : rng a) (hb2 : rng b) (hd : decode cc pc = .ok (.if_icmp .gt off, 3)) (ht : (pc : Int) + off = (tgt : Int)) (kt : b < a → J g E post nL tgt lv st σ) (kf : ¬ b < a → J g E post nL (pc + 3) lv st σ) : J g E post nL pc lv (.int (iI b) :: .int (iI a) :: st) σ := by
  obtain ⟨p, e, R, s, m, args, below, meth, c⟩ := E
  obtain ⟨hx, hb, hml, hown, hts, hr, hlk, hR, hF, hD⟩ := C
  intro ls H locs hl hP hS
  exact lv_icmp_gt hx hb hd ht (fun h => kt ((iI_lt hb2 ha).mp h) ls H locs hl hP hS) (fun h => kf (fun q => h ((iI_lt hb2 ha).mpr q)) ls H locs hl hP hS)

theorem r_if_gt (C : Cx g E cc nL own ret d) {a off : Int} (tgt : Nat) (ha : rng a) (hd : decode cc pc = .ok (.ifCond .gt off, 3)) (ht : (pc : Int) + off = (tgt : Int)) (kt : 0 < a → J g E post nL tgt lv st σ) (kf : ¬ 0 < a → J g E post nL (pc + 3) lv st σ) : J g E post nL pc lv (.int (iI a) :: st) σ := by
  obtain ⟨p, e, R, s, m, args, below, meth, c⟩ := E
  obtain ⟨hx, hb, hml, hown, hts, hr, hlk, hR, hF, hD⟩ := C
  intro ls H locs hl hP hS
  have e0 : (0 : Int32) = iI 0 := iI_0
  refine lv_if_gt hx hb hd ht (fun h => ?_) (fun h => ?_)
  · rw [e0] at h
    exact kt ((iI_lt rng0 ha).mp h) ls H locs hl hP hS
  · rw [e0] at h
    exact kf (fun q => h ((iI_lt rng0 ha).mpr q)) ls H locs hl hP hS

theorem r_icmp_le (C : Cx g E cc nL own ret d) {a b off : Int} (tgt : Nat) (ha : rng a) (hb2 : rng b) (hd : decode cc pc = .ok (.if_icmp .le off, 3)) (ht : (pc : Int) + off = (tgt : Int)) (kt : a ≤ b → J g E post nL tgt lv st σ) (kf : ¬ a ≤ b → J g E post nL (pc + 3) lv st σ) : J g E post nL pc lv (.int (iI b) :: .int (iI a) :: st) σ := by
  obtain ⟨p, e, R, s, m, args, below, meth, c⟩ := E
  obtain ⟨hx, hb, hml, hown, hts, hr, hlk, hR, hF, hD⟩ := C
  intro ls H locs hl hP hS
  exact lv_icmp_le hx hb hd ht (fun h => kt ((iI_le ha hb2).mp h) ls H locs hl hP hS) (fun h => kf (fun q => h ((iI_le ha hb2).mpr q)) ls H locs hl hP hS)

theorem r_if_le (C : Cx g E cc nL own ret d) {a off : Int} (tgt : Nat) (ha : rng a) (hd : decode cc pc = .ok (.ifCond .le off, 3)) (ht : (pc : Int) + off = (tgt : Int)) (kt : a ≤ 0 → J g E post nL tgt lv st σ) (kf : ¬ a ≤ 0 → J g E post nL (pc + 3) lv st σ) : J g E post nL pc lv (.int (iI a) :: st) σ := by
  obtain ⟨p, e, R, s, m, args, below, meth, c⟩ := E
  obtain ⟨hx, hb, hml, hown, hts, hr, hlk, hR, hF, hD⟩ := C
  intro ls H locs hl hP hS
  have e0 : (0 : Int32) = iI 0 := iI_0
  refine lv_if_le hx hb hd ht (fun h => ?_) (fun h => ?_)
  · rw [e0] at h
    exact kt ((iI_le ha rng0).mp h) ls H locs hl hP hS
  · rw [e0] at h
    exact kf (fun q => h ((iI_le ha rng0).mpr q)) ls H locs hl hP hS

theorem r_goto (C : Cx g E cc nL own ret d) {off : Int} (tgt : Nat) (hd : decode cc pc = .ok (.goto off, 3)) (ht : (pc : Int) + off = (tgt : Int)) (k : J g E post nL tgt lv st σ) : J g E post nL pc lv st σ := by
  obtain ⟨p, e, R, s, m, args, below, meth, c⟩ := E
  obtain ⟨hx, hb, hml, hown, hts, hr, hlk, hR, hF, hD⟩ := C
  intro ls H locs hl hP hS
  exact lv_goto hx hb hd ht (k ls H locs hl hP hS)

theorem r_tabIn (C : Cx g E cc nL own ret d) {dflt lo hi : Int} {offs : Array Int} {len : Nat} {a off : Int} (cst : Int) (tgt : Nat) (hd : decode cc pc = .ok (.tableswitch dflt lo hi offs, len)) (ha : a = cst) (hc : rng cst) (h1 : ¬ cst < lo) (h2 : ¬ hi < cst) (ho : offs[(cst - lo).toNat]? = some off) (ht : (pc : Int) + off = (tgt : Int)) (k : J g E post nL tgt lv st σ) : J g E post nL pc lv (.int (iI a) :: st) σ := by
  obtain ⟨p, e, R, s, m, args, below, meth, c⟩ := E
  obtain ⟨hx, hb, hml, hown, hts, hr, hlk, hR, hF, hD⟩ := C
  intro ls H locs hl hP hS
  subst ha
  have e := iI_toInt hc
  exact lv_tableIn hx hb hd (by rw [e]; exact h1) (by rw [e]; exact h2) (by rw [e]; exact ho) ht (k ls H locs hl hP hS)

theorem r_tabOut (C : Cx g E cc nL own ret d) {dflt lo hi : Int} {offs : Array Int} {len : Nat} {a : Int} (tgt : Nat) (hd : decode cc pc = .ok (.tableswitch dflt lo hi offs, len)) (ha : rng a) (h : a < lo ∨ hi < a) (ht : (pc : Int) + dflt = (tgt : Int)) (k : J g E post nL tgt lv st σ) : J g E post nL pc lv (.int (iI a) :: st) σ := by
  obtain ⟨p, e, R, s, m, args, below, meth, c⟩ := E
  obtain ⟨hx, hb, hml, hown, hts, hr, hlk, hR, hF, hD⟩ := C
  intro ls H locs hl hP hS
  exact lv_tableOut hx hb hd (by rw [iI_toInt ha]; exact h) ht (k ls H locs hl hP hS)

theorem r_lku (C : Cx g E cc nL own ret d) {dflt : Int} {ps : Array (Int × Int)} {len : Nat} {a off : Int} (tgt : Nat) (hd : decode cc pc = .ok (.lookupswitch dflt ps, len)) (ha : rng a) (hp : (ps.toList.zip (ps.toList.drop 1)).all (fun (a, next) => a.1 < next.1) = true) (ho : Op.lookupswitch.offset ps.toList dflt a = off) (ht : (pc : Int) + off = (tgt : Int)) (k : J g E post nL tgt lv st σ) : J g E post nL pc lv (.int (iI a) :: st) σ := by
  obtain ⟨p, e, R, s, m, args, below, meth, c⟩ := E
  obtain ⟨hx, hb, hml, hown, hts, hr, hlk, hR, hF, hD⟩ := C
  intro ls H locs hl hP hS
  exact lv_lookup hx hb hd hp (by rw [iI_toInt ha]; exact ho) ht (k ls H locs hl hP hS)

theorem r_lv (ks : List Nat) {lv' : List (Nat × Value)} (h : lv_pick lv ks = lv') (k : J g E post nL pc lv' st σ) : J g E post nL pc lv st σ := by
  obtain ⟨p, e, R, s, m, args, below, meth, c⟩ := E
  exact fun ls H locs hl hP hS => k ls H locs (lv_sub hl ks h) hP hS
theorem r_eq {lv' : List (Nat × Value)} {st' : List Value} {σ' : Sg} (h1 : lv = lv') (h2 : st = st') (h3 : σ = σ') (k : J g E post nL pc lv' st' σ') : J g E post nL pc lv st σ := by
  subst h1 h2 h3
  exact k
theorem r_sg {σ' : Sg} (h3 : σ = σ') (k : J g E post nL pc lv st σ') : J g E post nL pc lv st σ := by
  subst h3
  exact k
theorem r_top {a b : Int} (h : a = b) (k : J g E post nL pc lv (.int (iI b) :: st) σ) : J g E post nL pc lv (.int (iI a) :: st) σ := by
  subst h
  exact k
theorem r_getI0 (C : Cx g E cc nL own ret d) {k i : Nat} (j : Nat) (hr1 : rf k j = none) (ho : isO k 0) (hj : j < 12) (hs : (TX0 j).1 = RX0) (hw : Cond.fieldLink own i RX0 (TX0 j).2.1 (TX0 j).2.2.1 ∈ tbl) (hd : decode cc pc = .ok (.getfield i, 3)) (kk : J g E post nL (pc + 3) lv (.int (iI (σ k j)) :: st) σ) : J g E post nL pc lv (.ref (gA g k) :: st) σ := by
  obtain ⟨p, e, R, s, m, args, below, meth, c⟩ := E
  obtain ⟨hx, hb, hml, hown, hts, hr, hlk, hR, hF, hD⟩ := C
  intro ls H locs hl hP hS
  refine va_get (D := gD g) (cl := cls) (ci := 0) (C := RX0) (T := TX0) (N := 12) hx hb hts inX0 hown hF.1 hP k (fs := fl g σ k 12) ?_ rfl j hj (hts _ hw) (fun x h => by rw [hs] at h; exact h) ?_ hd (kk ls H locs hl hP hS)
  · rw [cw_at ho.1, ce_O ho]
    rfl
  · rw [fl_at hj, fv_i hr1]

theorem r_getR0 (C : Cx g E cc nL own ret d) {k i : Nat} (j : Nat) {k' : Nat} (hr1 : rf k j = some k') (ho : isO k 0) (hj : j < 12) (hs : (TX0 j).1 = RX0) (hw : Cond.fieldLink own i RX0 (TX0 j).2.1 (TX0 j).2.2.1 ∈ tbl) (hd : decode cc pc = .ok (.getfield i, 3)) (kk : J g E post nL (pc + 3) lv (.ref (gA g k') :: st) σ) : J g E post nL pc lv (.ref (gA g k) :: st) σ := by
  obtain ⟨p, e, R, s, m, args, below, meth, c⟩ := E
  obtain ⟨hx, hb, hml, hown, hts, hr, hlk, hR, hF, hD⟩ := C
  intro ls H locs hl hP hS
  refine va_get (D := gD g) (cl := cls) (ci := 0) (C := RX0) (T := TX0) (N := 12) hx hb hts inX0 hown hF.1 hP k (fs := fl g σ k 12) ?_ rfl j hj (hts _ hw) (fun x h => by rw [hs] at h; exact h) ?_ hd (kk ls H locs hl hP hS)
  · rw [cw_at ho.1, ce_O ho]
    rfl
  · rw [fl_at hj, fv_r hr1]

theorem r_put0 (C : Cx g E cc nL own ret d) {k i : Nat} {v : Int} (j : Nat) (hr1 : rf k j = none) (ho : isO k 0) (hj : j < 12) (hs : (TX0 j).1 = RX0) (hw : Cond.fieldLink own i RX0 (TX0 j).2.1 (TX0 j).2.2.1 ∈ tbl) (hfin : (TX0 j).2.2.2 = false) (hty : parseFieldDescriptor (TX0 j).2.2.1 = some .int) (hd : decode cc pc = .ok (.putfield i, 3)) (kk : J g E post nL (pc + 3) lv st (wr σ k j v)) : J g E post nL pc lv (.int (iI v) :: .ref (gA g k) :: st) σ := by
  obtain ⟨p, e, R, s, m, args, below, meth, c⟩ := E
  obtain ⟨hx, hb, hml, hown, hts, hr, hlk, hR, hF, hD⟩ := C
  intro ls H locs hl hP hS
  refine va_put (D := gD g) (cl := cls) (ci := 0) (C := RX0) (T := TX0) (N := 12) hx hb hts inX0 tyX0 tyX0_ok nmX0 hown hF.1 hP (cwD hD σ) hS k (fs := fl g σ k 12) ?_ rfl j hj (hts _ hw) (fun x h => by rw [hs] at h; exact h) hfin hty rfl rfl (by rw [fl_len]; exact hj) hd (fun H1 locs1 hP1 _ hS1 => ?_)
  · rw [cw_at ho.1, ce_O ho]
    rfl
  · have hP2 : va_P (gD g) cls (cw g (wr σ k j v)) H1 := by
      rw [← cw_set (g := g) (σ := σ) ho.1 (ce_put v ho hj hr1) wr_o]
      exact hP1
    exact kk ls H1 locs1 hl hP2 hS1

theorem r_getI1 (C : Cx g E cc nL own ret d) {k i : Nat} (j : Nat) (hr1 : rf k j = none) (ho : isO k 1) (hj : j < 3) (hs : (TX1 j).1 = RX1) (hw : Cond.fieldLink own i RX1 (TX1 j).2.1 (TX1 j).2.2.1 ∈ tbl) (hd : decode cc pc = .ok (.getfield i, 3)) (kk : J g E post nL (pc + 3) lv (.int (iI (σ k j)) :: st) σ) : J g E post nL pc lv (.ref (gA g k) :: st) σ := by
  obtain ⟨p, e, R, s, m, args, below, meth, c⟩ := E
  obtain ⟨hx, hb, hml, hown, hts, hr, hlk, hR, hF, hD⟩ := C
  intro ls H locs hl hP hS
  refine va_get (D := gD g) (cl := cls) (ci := 1) (C := RX1) (T := TX1) (N := 3) hx hb hts inX1 hown hF.1 hP k (fs := fl g σ k 3) ?_ rfl j hj (hts _ hw) (fun x h => by rw [hs] at h; exact h) ?_ hd (kk ls H locs hl hP hS)
  · rw [cw_at ho.1, ce_O ho]
    rfl
  · rw [fl_at hj, fv_i hr1]

theorem r_getR1 (C : Cx g E cc nL own ret d) {k i : Nat} (j : Nat) {k' : Nat} (hr1 : rf k j = some k') (ho : isO k 1) (hj : j < 3) (hs : (TX1 j).1 = RX1) (hw : Cond.fieldLink own i RX1 (TX1 j).2.1 (TX1 j).2.2.1 ∈ tbl) (hd : decode cc pc = .ok (.getfield i, 3)) (kk : J g E post nL (pc + 3) lv (.ref (gA g k') :: st) σ) : J g E post nL pc lv (.ref (gA g k) :: st) σ := by
  obtain ⟨p, e, R, s, m, args, below, meth, c⟩ := E
  obtain ⟨hx, hb, hml, hown, hts, hr, hlk, hR, hF, hD⟩ := C
  intro ls H locs hl hP hS
  refine va_get (D := gD g) (cl := cls) (ci := 1) (C := RX1) (T := TX1) (N := 3) hx hb hts inX1 hown hF.1 hP k (fs := fl g σ k 3) ?_ rfl j hj (hts _ hw) (fun x h => by rw [hs] at h; exact h) ?_ hd (kk ls H locs hl hP hS)
  · rw [cw_at ho.1, ce_O ho]
    rfl
  · rw [fl_at hj, fv_r hr1]

theorem r_put1 (C : Cx g E cc nL own ret d) {k i : Nat} {v : Int} (j : Nat) (hr1 : rf k j = none) (ho : isO k 1) (hj : j < 3) (hs : (TX1 j).1 = RX1) (hw : Cond.fieldLink own i RX1 (TX1 j).2.1 (TX1 j).2.2.1 ∈ tbl) (hfin : (TX1 j).2.2.2 = false) (hty : parseFieldDescriptor (TX1 j).2.2.1 = some .int) (hd : decode cc pc = .ok (.putfield i, 3)) (kk : J g E post nL (pc + 3) lv st (wr σ k j v)) : J g E post nL pc lv (.int (iI v) :: .ref (gA g k) :: st) σ := by
  obtain ⟨p, e, R, s, m, args, below, meth, c⟩ := E
  obtain ⟨hx, hb, hml, hown, hts, hr, hlk, hR, hF, hD⟩ := C
  intro ls H locs hl hP hS
  refine va_put (D := gD g) (cl := cls) (ci := 1) (C := RX1) (T := TX1) (N := 3) hx hb hts inX1 tyX1 tyX1_ok nmX1 hown hF.1 hP (cwD hD σ) hS k (fs := fl g σ k 3) ?_ rfl j hj (hts _ hw) (fun x h => by rw [hs] at h; exact h) hfin hty rfl rfl (by rw [fl_len]; exact hj) hd (fun H1 locs1 hP1 _ hS1 => ?_)
  · rw [cw_at ho.1, ce_O ho]
    rfl
  · have hP2 : va_P (gD g) cls (cw g (wr σ k j v)) H1 := by
      rw [← cw_set (g := g) (σ := σ) ho.1 (ce_put v ho hj hr1) wr_o]
      exact hP1
    exact kk ls H1 locs1 hl hP2 hS1

theorem r_getI2 (C : Cx g E cc nL own ret d) {k i : Nat} (j : Nat) (hr1 : rf k j = none) (ho : isO k 2) (hj : j < 2) (hs : (TX2 j).1 = RX2) (hw : Cond.fieldLink own i RX2 (TX2 j).2.1 (TX2 j).2.2.1 ∈ tbl) (hd : decode cc pc = .ok (.getfield i, 3)) (kk : J g E post nL (pc + 3) lv (.int (iI (σ k j)) :: st) σ) : J g E post nL pc lv (.ref (gA g k) :: st) σ := by
  obtain ⟨p, e, R, s, m, args, below, meth, c⟩ := E
  obtain ⟨hx, hb, hml, hown, hts, hr, hlk, hR, hF, hD⟩ := C
  intro ls H locs hl hP hS
  refine va_get (D := gD g) (cl := cls) (ci := 2) (C := RX2) (T := TX2) (N := 2) hx hb hts inX2 hown hF.1 hP k (fs := fl g σ k 2) ?_ rfl j hj (hts _ hw) (fun x h => by rw [hs] at h; exact h) ?_ hd (kk ls H locs hl hP hS)
  · rw [cw_at ho.1, ce_O ho]
    rfl
  · rw [fl_at hj, fv_i hr1]

theorem r_getR2 (C : Cx g E cc nL own ret d) {k i : Nat} (j : Nat) {k' : Nat} (hr1 : rf k j = some k') (ho : isO k 2) (hj : j < 2) (hs : (TX2 j).1 = RX2) (hw : Cond.fieldLink own i RX2 (TX2 j).2.1 (TX2 j).2.2.1 ∈ tbl) (hd : decode cc pc = .ok (.getfield i, 3)) (kk : J g E post nL (pc + 3) lv (.ref (gA g k') :: st) σ) : J g E post nL pc lv (.ref (gA g k) :: st) σ := by
  obtain ⟨p, e, R, s, m, args, below, meth, c⟩ := E
  obtain ⟨hx, hb, hml, hown, hts, hr, hlk, hR, hF, hD⟩ := C
  intro ls H locs hl hP hS
  refine va_get (D := gD g) (cl := cls) (ci := 2) (C := RX2) (T := TX2) (N := 2) hx hb hts inX2 hown hF.1 hP k (fs := fl g σ k 2) ?_ rfl j hj (hts _ hw) (fun x h => by rw [hs] at h; exact h) ?_ hd (kk ls H locs hl hP hS)
  · rw [cw_at ho.1, ce_O ho]
    rfl
  · rw [fl_at hj, fv_r hr1]

theorem r_put2 (C : Cx g E cc nL own ret d) {k i : Nat} {v : Int} (j : Nat) (hr1 : rf k j = none) (ho : isO k 2) (hj : j < 2) (hs : (TX2 j).1 = RX2) (hw : Cond.fieldLink own i RX2 (TX2 j).2.1 (TX2 j).2.2.1 ∈ tbl) (hfin : (TX2 j).2.2.2 = false) (hty : parseFieldDescriptor (TX2 j).2.2.1 = some .int) (hd : decode cc pc = .ok (.putfield i, 3)) (kk : J g E post nL (pc + 3) lv st (wr σ k j v)) : J g E post nL pc lv (.int (iI v) :: .ref (gA g k) :: st) σ := by
  obtain ⟨p, e, R, s, m, args, below, meth, c⟩ := E
  obtain ⟨hx, hb, hml, hown, hts, hr, hlk, hR, hF, hD⟩ := C
  intro ls H locs hl hP hS
  refine va_put (D := gD g) (cl := cls) (ci := 2) (C := RX2) (T := TX2) (N := 2) hx hb hts inX2 tyX2 tyX2_ok nmX2 hown hF.1 hP (cwD hD σ) hS k (fs := fl g σ k 2) ?_ rfl j hj (hts _ hw) (fun x h => by rw [hs] at h; exact h) hfin hty rfl rfl (by rw [fl_len]; exact hj) hd (fun H1 locs1 hP1 _ hS1 => ?_)
  · rw [cw_at ho.1, ce_O ho]
    rfl
  · have hP2 : va_P (gD g) cls (cw g (wr σ k j v)) H1 := by
      rw [← cw_set (g := g) (σ := σ) ho.1 (ce_put v ho hj hr1) wr_o]
      exact hP1
    exact kk ls H1 locs1 hl hP2 hS1

theorem r_getI3 (C : Cx g E cc nL own ret d) {k i : Nat} (j : Nat) (hr1 : rf k j = none) (ho : isO k 3) (hj : j < 5) (hs : (TX3 j).1 = RX3) (hw : Cond.fieldLink own i RX3 (TX3 j).2.1 (TX3 j).2.2.1 ∈ tbl) (hd : decode cc pc = .ok (.getfield i, 3)) (kk : J g E post nL (pc + 3) lv (.int (iI (σ k j)) :: st) σ) : J g E post nL pc lv (.ref (gA g k) :: st) σ := by
  obtain ⟨p, e, R, s, m, args, below, meth, c⟩ := E
  obtain ⟨hx, hb, hml, hown, hts, hr, hlk, hR, hF, hD⟩ := C
  intro ls H locs hl hP hS
  refine va_get (D := gD g) (cl := cls) (ci := 3) (C := RX3) (T := TX3) (N := 5) hx hb hts inX3 hown hF.1 hP k (fs := fl g σ k 5) ?_ rfl j hj (hts _ hw) (fun x h => by rw [hs] at h; exact h) ?_ hd (kk ls H locs hl hP hS)
  · rw [cw_at ho.1, ce_O ho]
    rfl
  · rw [fl_at hj, fv_i hr1]

theorem r_getR3 (C : Cx g E cc nL own ret d) {k i : Nat} (j : Nat) {k' : Nat} (hr1 : rf k j = some k') (ho : isO k 3) (hj : j < 5) (hs : (TX3 j).1 = RX3) (hw : Cond.fieldLink own i RX3 (TX3 j).2.1 (TX3 j).2.2.1 ∈ tbl) (hd : decode cc pc = .ok (.getfield i, 3)) (kk : J g E post nL (pc + 3) lv (.ref (gA g k') :: st) σ) : J g E post nL pc lv (.ref (gA g k) :: st) σ := by
  obtain ⟨p, e, R, s, m, args, below, meth, c⟩ := E
  obtain ⟨hx, hb, hml, hown, hts, hr, hlk, hR, hF, hD⟩ := C
  intro ls H locs hl hP hS
  refine va_get (D := gD g) (cl := cls) (ci := 3) (C := RX3) (T := TX3) (N := 5) hx hb hts inX3 hown hF.1 hP k (fs := fl g σ k 5) ?_ rfl j hj (hts _ hw) (fun x h => by rw [hs] at h; exact h) ?_ hd (kk ls H locs hl hP hS)
  · rw [cw_at ho.1, ce_O ho]
    rfl
  · rw [fl_at hj, fv_r hr1]

theorem r_put3 (C : Cx g E cc nL own ret d) {k i : Nat} {v : Int} (j : Nat) (hr1 : rf k j = none) (ho : isO k 3) (hj : j < 5) (hs : (TX3 j).1 = RX3) (hw : Cond.fieldLink own i RX3 (TX3 j).2.1 (TX3 j).2.2.1 ∈ tbl) (hfin : (TX3 j).2.2.2 = false) (hty : parseFieldDescriptor (TX3 j).2.2.1 = some .int) (hd : decode cc pc = .ok (.putfield i, 3)) (kk : J g E post nL (pc + 3) lv st (wr σ k j v)) : J g E post nL pc lv (.int (iI v) :: .ref (gA g k) :: st) σ := by
  obtain ⟨p, e, R, s, m, args, below, meth, c⟩ := E
  obtain ⟨hx, hb, hml, hown, hts, hr, hlk, hR, hF, hD⟩ := C
  intro ls H locs hl hP hS
  refine va_put (D := gD g) (cl := cls) (ci := 3) (C := RX3) (T := TX3) (N := 5) hx hb hts inX3 tyX3 tyX3_ok nmX3 hown hF.1 hP (cwD hD σ) hS k (fs := fl g σ k 5) ?_ rfl j hj (hts _ hw) (fun x h => by rw [hs] at h; exact h) hfin hty rfl rfl (by rw [fl_len]; exact hj) hd (fun H1 locs1 hP1 _ hS1 => ?_)
  · rw [cw_at ho.1, ce_O ho]
    rfl
  · have hP2 : va_P (gD g) cls (cw g (wr σ k j v)) H1 := by
      rw [← cw_set (g := g) (σ := σ) ho.1 (ce_put v ho hj hr1) wr_o]
      exact hP1
    exact kk ls H1 locs1 hl hP2 hS1

theorem r_getI4 (C : Cx g E cc nL own ret d) {k i : Nat} (j : Nat) (hr1 : rf k j = none) (ho : isO k 4) (hj : j < 8) (hs : (TX4 j).1 = RX4) (hw : Cond.fieldLink own i RX4 (TX4 j).2.1 (TX4 j).2.2.1 ∈ tbl) (hd : decode cc pc = .ok (.getfield i, 3)) (kk : J g E post nL (pc + 3) lv (.int (iI (σ k j)) :: st) σ) : J g E post nL pc lv (.ref (gA g k) :: st) σ := by
  obtain ⟨p, e, R, s, m, args, below, meth, c⟩ := E
  obtain ⟨hx, hb, hml, hown, hts, hr, hlk, hR, hF, hD⟩ := C
  intro ls H locs hl hP hS
  refine va_get (D := gD g) (cl := cls) (ci := 4) (C := RX4) (T := TX4) (N := 8) hx hb hts inX4 hown hF.1 hP k (fs := fl g σ k 8) ?_ rfl j hj (hts _ hw) (fun x h => by rw [hs] at h; exact h) ?_ hd (kk ls H locs hl hP hS)
  · rw [cw_at ho.1, ce_O ho]
    rfl
  · rw [fl_at hj, fv_i hr1]

theorem r_getR4 (C : Cx g E cc nL own ret d) {k i : Nat} (j : Nat) {k' : Nat} (hr1 : rf k j = some k') (ho : isO k 4) (hj : j < 8) (hs : (TX4 j).1 = RX4) (hw : Cond.fieldLink own i RX4 (TX4 j).2.1 (TX4 j).2.2.1 ∈ tbl) (hd : decode cc pc = .ok (.getfield i, 3)) (kk : J g E post nL (pc + 3) lv (.ref (gA g k') :: st) σ) : J g E post nL pc lv (.ref (gA g k) :: st) σ := by
  obtain ⟨p, e, R, s, m, args, below, meth, c⟩ := E
  obtain ⟨hx, hb, hml, hown, hts, hr, hlk, hR, hF, hD⟩ := C
  intro ls H locs hl hP hS
  refine va_get (D := gD g) (cl := cls) (ci := 4) (C := RX4) (T := TX4) (N := 8) hx hb hts inX4 hown hF.1 hP k (fs := fl g σ k 8) ?_ rfl j hj (hts _ hw) (fun x h => by rw [hs] at h; exact h) ?_ hd (kk ls H locs hl hP hS)
  · rw [cw_at ho.1, ce_O ho]
    rfl
  · rw [fl_at hj, fv_r hr1]

theorem r_put4 (C : Cx g E cc nL own ret d) {k i : Nat} {v : Int} (j : Nat) (hr1 : rf k j = none) (ho : isO k 4) (hj : j < 8) (hs : (TX4 j).1 = RX4) (hw : Cond.fieldLink own i RX4 (TX4 j).2.1 (TX4 j).2.2.1 ∈ tbl) (hfin : (TX4 j).2.2.2 = false) (hty : parseFieldDescriptor (TX4 j).2.2.1 = some .int) (hd : decode cc pc = .ok (.putfield i, 3)) (kk : J g E post nL (pc + 3) lv st (wr σ k j v)) : J g E post nL pc lv (.int (iI v) :: .ref (gA g k) :: st) σ := by
  obtain ⟨p, e, R, s, m, args, below, meth, c⟩ := E
  obtain ⟨hx, hb, hml, hown, hts, hr, hlk, hR, hF, hD⟩ := C
  intro ls H locs hl hP hS
  refine va_put (D := gD g) (cl := cls) (ci := 4) (C := RX4) (T := TX4) (N := 8) hx hb hts inX4 tyX4 tyX4_ok nmX4 hown hF.1 hP (cwD hD σ) hS k (fs := fl g σ k 8) ?_ rfl j hj (hts _ hw) (fun x h => by rw [hs] at h; exact h) hfin hty rfl rfl (by rw [fl_len]; exact hj) hd (fun H1 locs1 hP1 _ hS1 => ?_)
  · rw [cw_at ho.1, ce_O ho]
    rfl
  · have hP2 : va_P (gD g) cls (cw g (wr σ k j v)) H1 := by
      rw [← cw_set (g := g) (σ := σ) ho.1 (ce_put v ho hj hr1) wr_o]
      exact hP1
    exact kk ls H1 locs1 hl hP2 hS1

theorem r_putZ4 (C : Cx g E cc nL own ret d) {k i : Nat} {v : Int} (j : Nat) (hz : v = 0 ∨ v = 1) (hr1 : rf k j = none) (ho : isO k 4) (hj : j < 8) (hs : (TX4 j).1 = RX4) (hw : Cond.fieldLink own i RX4 (TX4 j).2.1 (TX4 j).2.2.1 ∈ tbl) (hfin : (TX4 j).2.2.2 = false) (hty : parseFieldDescriptor (TX4 j).2.2.1 = some .boolean) (hd : decode cc pc = .ok (.putfield i, 3)) (kk : J g E post nL (pc + 3) lv st (wr σ k j v)) : J g E post nL pc lv (.int (iI v) :: .ref (gA g k) :: st) σ := by
  obtain ⟨p, e, R, s, m, args, below, meth, c⟩ := E
  obtain ⟨hx, hb, hml, hown, hts, hr, hlk, hR, hF, hD⟩ := C
  intro ls H locs hl hP hS
  refine va_put (D := gD g) (cl := cls) (ci := 4) (C := RX4) (T := TX4) (N := 8) hx hb hts inX4 tyX4 tyX4_ok nmX4 hown hF.1 hP (cwD hD σ) hS k (fs := fl g σ k 8) ?_ rfl j hj (hts _ hw) (fun x h => by rw [hs] at h; exact h) hfin hty (by rcases hz with rfl | rfl <;> rfl) (by rcases hz with rfl | rfl <;> rfl) (by rw [fl_len]; exact hj) hd (fun H1 locs1 hP1 _ hS1 => ?_)
  · rw [cw_at ho.1, ce_O ho]
    rfl
  · have hP2 : va_P (gD g) cls (cw g (wr σ k j v)) H1 := by
      rw [← cw_set (g := g) (σ := σ) ho.1 (ce_put v ho hj hr1) wr_o]
      exact hP1
    exact kk ls H1 locs1 hl hP2 hS1

theorem r_getI5 (C : Cx g E cc nL own ret d) {k i : Nat} (j : Nat) (hr1 : rf k j = none) (ho : isO k 5) (hj : j < 19) (hs : (TX5 j).1 = RX5) (hw : Cond.fieldLink own i RX5 (TX5 j).2.1 (TX5 j).2.2.1 ∈ tbl) (hd : decode cc pc = .ok (.getfield i, 3)) (kk : J g E post nL (pc + 3) lv (.int (iI (σ k j)) :: st) σ) : J g E post nL pc lv (.ref (gA g k) :: st) σ := by
  obtain ⟨p, e, R, s, m, args, below, meth, c⟩ := E
  obtain ⟨hx, hb, hml, hown, hts, hr, hlk, hR, hF, hD⟩ := C
  intro ls H locs hl hP hS
  refine va_get (D := gD g) (cl := cls) (ci := 5) (C := RX5) (T := TX5) (N := 19) hx hb hts inX5 hown hF.1 hP k (fs := fl g σ k 19) ?_ rfl j hj (hts _ hw) (fun x h => by rw [hs] at h; exact h) ?_ hd (kk ls H locs hl hP hS)
  · rw [cw_at ho.1, ce_O ho]
    rfl
  · rw [fl_at hj, fv_i hr1]

theorem r_getR5 (C : Cx g E cc nL own ret d) {k i : Nat} (j : Nat) {k' : Nat} (hr1 : rf k j = some k') (ho : isO k 5) (hj : j < 19) (hs : (TX5 j).1 = RX5) (hw : Cond.fieldLink own i RX5 (TX5 j).2.1 (TX5 j).2.2.1 ∈ tbl) (hd : decode cc pc = .ok (.getfield i, 3)) (kk : J g E post nL (pc + 3) lv (.ref (gA g k') :: st) σ) : J g E post nL pc lv (.ref (gA g k) :: st) σ := by
  obtain ⟨p, e, R, s, m, args, below, meth, c⟩ := E
  obtain ⟨hx, hb, hml, hown, hts, hr, hlk, hR, hF, hD⟩ := C
  intro ls H locs hl hP hS
  refine va_get (D := gD g) (cl := cls) (ci := 5) (C := RX5) (T := TX5) (N := 19) hx hb hts inX5 hown hF.1 hP k (fs := fl g σ k 19) ?_ rfl j hj (hts _ hw) (fun x h => by rw [hs] at h; exact h) ?_ hd (kk ls H locs hl hP hS)
  · rw [cw_at ho.1, ce_O ho]
    rfl
  · rw [fl_at hj, fv_r hr1]

theorem r_put5 (C : Cx g E cc nL own ret d) {k i : Nat} {v : Int} (j : Nat) (hr1 : rf k j = none) (ho : isO k 5) (hj : j < 19) (hs : (TX5 j).1 = RX5) (hw : Cond.fieldLink own i RX5 (TX5 j).2.1 (TX5 j).2.2.1 ∈ tbl) (hfin : (TX5 j).2.2.2 = false) (hty : parseFieldDescriptor (TX5 j).2.2.1 = some .int) (hd : decode cc pc = .ok (.putfield i, 3)) (kk : J g E post nL (pc + 3) lv st (wr σ k j v)) : J g E post nL pc lv (.int (iI v) :: .ref (gA g k) :: st) σ := by
  obtain ⟨p, e, R, s, m, args, below, meth, c⟩ := E
  obtain ⟨hx, hb, hml, hown, hts, hr, hlk, hR, hF, hD⟩ := C
  intro ls H locs hl hP hS
  refine va_put (D := gD g) (cl := cls) (ci := 5) (C := RX5) (T := TX5) (N := 19) hx hb hts inX5 tyX5 tyX5_ok nmX5 hown hF.1 hP (cwD hD σ) hS k (fs := fl g σ k 19) ?_ rfl j hj (hts _ hw) (fun x h => by rw [hs] at h; exact h) hfin hty rfl rfl (by rw [fl_len]; exact hj) hd (fun H1 locs1 hP1 _ hS1 => ?_)
  · rw [cw_at ho.1, ce_O ho]
    rfl
  · have hP2 : va_P (gD g) cls (cw g (wr σ k j v)) H1 := by
      rw [← cw_set (g := g) (σ := σ) ho.1 (ce_put v ho hj hr1) wr_o]
      exact hP1
    exact kk ls H1 locs1 hl hP2 hS1

theorem r_putZ5 (C : Cx g E cc nL own ret d) {k i : Nat} {v : Int} (j : Nat) (hz : v = 0 ∨ v = 1) (hr1 : rf k j = none) (ho : isO k 5) (hj : j < 19) (hs : (TX5 j).1 = RX5) (hw : Cond.fieldLink own i RX5 (TX5 j).2.1 (TX5 j).2.2.1 ∈ tbl) (hfin : (TX5 j).2.2.2 = false) (hty : parseFieldDescriptor (TX5 j).2.2.1 = some .boolean) (hd : decode cc pc = .ok (.putfield i, 3)) (kk : J g E post nL (pc + 3) lv st (wr σ k j v)) : J g E post nL pc lv (.int (iI v) :: .ref (gA g k) :: st) σ := by
  obtain ⟨p, e, R, s, m, args, below, meth, c⟩ := E
  obtain ⟨hx, hb, hml, hown, hts, hr, hlk, hR, hF, hD⟩ := C
  intro ls H locs hl hP hS
  refine va_put (D := gD g) (cl := cls) (ci := 5) (C := RX5) (T := TX5) (N := 19) hx hb hts inX5 tyX5 tyX5_ok nmX5 hown hF.1 hP (cwD hD σ) hS k (fs := fl g σ k 19) ?_ rfl j hj (hts _ hw) (fun x h => by rw [hs] at h; exact h) hfin hty (by rcases hz with rfl | rfl <;> rfl) (by rcases hz with rfl | rfl <;> rfl) (by rw [fl_len]; exact hj) hd (fun H1 locs1 hP1 _ hS1 => ?_)
  · rw [cw_at ho.1, ce_O ho]
    rfl
  · have hP2 : va_P (gD g) cls (cw g (wr σ k j v)) H1 := by
      rw [← cw_set (g := g) (σ := σ) ho.1 (ce_put v ho hj hr1) wr_o]
      exact hP1
    exact kk ls H1 locs1 hl hP2 hS1

theorem r_iald (C : Cx g E cc nL own ret d) {k n : Nat} {a : Int} (j : Nat) (hA : isA k n) (ha : a = (j : Int)) (hj : j < n) (hd : decode cc pc = .ok (.iaload, 1)) (kk : J g E post nL (pc + 1) lv (.int (iI (σ k j)) :: st) σ) : J g E post nL pc lv (.int (iI a) :: .ref (gA g k) :: st) σ := by
  obtain ⟨p, e, R, s, m, args, below, meth, c⟩ := E
  obtain ⟨hx, hb, hml, hown, hts, hr, hlk, hR, hF, hD⟩ := C
  intro ls H locs hl hP hS
  have hn := hA.2.2.2.2
  refine va_iald hx hb hF.1 hP k 0 (cA := gI g) (n := n) (f := fun j => iI (σ k j)) ?_ rfl (iI_in ha hj hn) hd ?_
  · rw [cw_at hA.1, ce_A hA]
  · rw [iI_clamp ha (by omega)]
    exact kk ls H locs hl hP hS

theorem r_iast (C : Cx g E cc nL own ret d) {k n : Nat} {a x : Int} (j : Nat) (hA : isA k n) (ha : a = (j : Int)) (hj : j < n) (hd : decode cc pc = .ok (.iastore, 1)) (kk : J g E post nL (pc + 1) lv st (wr σ k j x)) : J g E post nL pc lv (.int (iI x) :: .int (iI a) :: .ref (gA g k) :: st) σ := by
  obtain ⟨p, e, R, s, m, args, below, meth, c⟩ := E
  obtain ⟨hx, hb, hml, hown, hts, hr, hlk, hR, hF, hD⟩ := C
  intro ls H locs hl hP hS
  have hn := hA.2.2.2.2
  refine va_iast hx hb hF.1 hP (cwD hD σ) hS k 0 (cA := gI g) (n := n) (f := fun j => iI (σ k j)) ?_ rfl (iI_in ha hj hn) hd (fun H1 locs1 hP1 _ hS1 => ?_)
  · rw [cw_at hA.1, ce_A hA]
  · rw [iI_clamp ha (by omega), cw_set hA.1 (ce_ast x hA) wr_o] at hP1
    exact kk ls H1 locs1 hl hP1 hS1

theorem r_alen (C : Cx g E cc nL own ret d) {k n : Nat} (hA : isA k n) (hd : decode cc pc = .ok (.arraylength, 1)) (kk : J g E post nL (pc + 1) lv (.int (iI (n : Int)) :: st) σ) : J g E post nL pc lv (.ref (gA g k) :: st) σ := by
  obtain ⟨p, e, R, s, m, args, below, meth, c⟩ := E
  obtain ⟨hx, hb, hml, hown, hts, hr, hlk, hR, hF, hD⟩ := C
  intro ls H locs hl hP hS
  refine va_alen hx hb hF.1 hP k 0 (cA := gI g) (x := (n, .inl (fun j => iI (σ k j)))) ?_ (ty := .int) rfl (iI_nat n).symm hd (kk ls H locs hl hP hS)
  rw [cw_at hA.1, ce_A hA]

theorem r_aald (C : Cx g E cc nL own ret d) {a : Int} (j : Nat) (ha : a = (j : Int)) (hj : j < 4) (hd : decode cc pc = .ok (.aaload, 1)) (kk : J g E post nL (pc + 1) lv (.ref (gA g (31 + 2 * j)) :: st) σ) : J g E post nL pc lv (.int (iI a) :: .ref (gA g 30) :: st) σ := by
  obtain ⟨p, e, R, s, m, args, below, meth, c⟩ := E
  obtain ⟨hx, hb, hml, hown, hts, hr, hlk, hR, hF, hD⟩ := C
  intro ls H locs hl hP hS
  refine va_aldq hx hb hF.1 hP 30 1 (cA := gQ g) (C := RX1) (n := 4) (f := fun j => some (gA g (31 + 2 * j))) ?_ rfl (iI_in ha hj (by decide)) hd ?_
  · rw [cw_at (by decide)]
    rfl
  · rw [iI_clamp ha (by omega)]
    exact kk ls H locs hl hP hS

theorem r_gets (C : Cx g E cc nL own ret d) {i x : Nat} {n : String} (hZ : ∀ U, Fx g U → Ft g n i U) (hw : Cond.fieldLink own x "DustLand" n "[I" ∈ tbl) (hd : decode cc pc = .ok (.getstatic x, 3)) (kk : J g E post nL (pc + 3) lv (.ref (gT g i) :: st) σ) : J g E post nL pc lv st σ := by
  obtain ⟨p, e, R, s, m, args, below, meth, c⟩ := E
  obtain ⟨hx, hb, hml, hown, hts, hr, hlk, hR, hF, hD⟩ := C
  intro ls H locs hl hP hS
  exact va_gets hx hb (hZ s hF).1 hS hown (hts _ hw) (fun _ h => h) hd (kk ls H locs hl hP hS)

theorem r_getsN (C : Cx g E cc nL own ret d) {i x : Nat} {n : String} (hZ : ∀ U, Fx g U → Ft g n i U) (hw : ∀ U, Fn U → va_Nw (.fieldLinkNest own x RX4 n "[I" RX4) U) (hd : decode cc pc = .ok (.getstatic x, 3)) (kk : J g E post nL (pc + 3) lv (.ref (gT g i) :: st) σ) : J g E post nL pc lv st σ := by
  obtain ⟨p, e, R, s, m, args, below, meth, c⟩ := E
  obtain ⟨hx, hb, hml, hown, hts, hr, hlk, hR, hF, hD⟩ := C
  intro ls H locs hl hP hS
  exact va_getsN hx hb (hZ s hF).1 hS hown (va_Nw.use rfl (hw s hF.2.2.2.2.1)) (fun _ h => h) hd (kk ls H locs hl hP hS)

theorem r_tald (C : Cx g E cc nL own ret d) {i : Nat} {n : String} {a : Int} (j : Nat) (hZ : ∀ U, Fx g U → Ft g n i U) (ha : a = (j : Int)) (hj : j < 7) (hd : decode cc pc = .ok (.iaload, 1)) (kk : J g E post nL (pc + 1) lv (.int (iI (stab i j)) :: st) σ) : J g E post nL pc lv (.int (iI a) :: .ref (gT g i) :: st) σ := by
  obtain ⟨p, e, R, s, m, args, below, meth, c⟩ := E
  obtain ⟨hx, hb, hml, hown, hts, hr, hlk, hR, hF, hD⟩ := C
  intro ls H locs hl hP hS
  refine va_ti hx hb (hZ s hF).2 hS (iI_in ha hj (by decide)) (v := .int (iI (stab i j))) ?_ hd (kk ls H locs hl hP hS)
  rw [iI_clamp ha (by omega)]

theorem r_min (C : Cx g E cc nL own ret d) {i : Nat} {a b : Int} (ha : rng a) (hb2 : rng b) (h1 : 1 ≤ d) (hst : (st.map fun v => v.category).sum ≤ 8) (hw : Cond.methodLink own i yJ9_min_7cf53 ∈ tbl) (hd : decode cc pc = .ok (.invokestatic i, 3)) (k : J g E post nL (pc + 3) lv (.int (iI (min a b)) :: st) σ) : J g E post nL pc lv (.int (iI b) :: .int (iI a) :: st) σ := by
  obtain ⟨p, e, R, s, m, args, below, meth, c⟩ := E
  obtain ⟨hx, hb, hml, hown, hts, hr, hlk, hR, hF, hD⟩ := C
  intro ls H locs hl hP hS
  subst hR
  refine va_mmin hx hb (by rw [hml]; exact hl.1.symm) hown (hts _ hw) (hts _ t_348) (hts _ t_82) (hts _ t_349) h1 (by show _ + 13 ≤ 37 * d; omega) (Nat.zero_le _) (Nat.zero_le _) hd ?_
  have e : (if iI b < iI a then iI b else iI a) = iI (min a b) := by
    by_cases h : b < a
    · rw [if_pos ((iI_lt hb2 ha).mpr h), Int.min_eq_right (by omega)]
    · rw [if_neg (fun q => h ((iI_lt hb2 ha).mp q)), Int.min_eq_left (by omega)]
  rw [e]
  exact k ls H locs hl hP hS

theorem r_copy (C : Cx g E cc nL own ret d) {i k0 k1 n0 n1 : Nat} {a b c2 : Int} (sp dp n : Nat) (hA0 : isA k0 n0) (hA1 : isA k1 n1) (ha : a = (sp : Int)) (hb2 : b = (dp : Int)) (hc : c2 = (n : Int)) (h4 : sp + n ≤ n0) (h5 : dp + n ≤ n1) (h1 : 1 ≤ d) (hst : (st.map fun v => v.category).sum ≤ 8) (hw : Cond.methodLink own i arraycopyName ∈ tbl) (hd : decode cc pc = .ok (.invokestatic i, 3)) (kk : J g E post nL (pc + 3) lv st (us σ k1 (cpy (σ k0) (σ k1) sp dp n))) : J g E post nL pc lv (.int (iI c2) :: .int (iI b) :: .ref (gA g k1) :: .int (iI a) :: .ref (gA g k0) :: st) σ := by
  obtain ⟨p, e, R, s, m, args, below, meth, c⟩ := E
  obtain ⟨hx, hb, hml, hown, hts, hr, hlk, hR, hF, hD⟩ := C
  intro ls H locs hl hP hS
  subst hR
  have hn0 := hA0.2.2.2.2
  have hn1 := hA1.2.2.2.2
  have p1 : ∀ {x : Int} {j : Nat}, x = (j : Int) → j < 2147483648 → ¬ iI x < 0 := fun {x j} h h2 => by
    rw [iI_0, iI_lt ⟨by omega, by omega⟩ rng0]
    omega
  have e1 : (iI a).toNatClampNeg = sp := iI_clamp ha (by omega)
  have e2 : (iI b).toNatClampNeg = dp := iI_clamp hb2 (by omega)
  have e3 : (iI c2).toNatClampNeg = n := iI_clamp hc (by omega)
  refine va_copyi hx hb (by rw [hml]; exact hl.1.symm) hown (hts _ hw) (hts _ t_427) (hts _ t_426) (hts _ t_83) hF.1 hP (cwD hD σ) hS k0 k1 0 0 (c0 := gI g) (c1 := gI g) (n0 := n0) (n1 := n1) (f := fun j => iI (σ k0 j)) (g := fun j => iI (σ k1 j)) (ty := .int) ?_ ?_ rfl rfl rfl (p1 ha (by omega)) (p1 hb2 (by omega)) (p1 hc (by omega)) (by rw [e1, e3]; exact h4) (by rw [e2, e3]; exact h5) (fun _ _ => rfl) h1 (Nat.le_trans (Nat.add_le_add hst (show nativeFrameWords "java/lang/System" "arraycopy" 5 + 11 ≤ 29 by decide +kernel)) (show 8 + 29 ≤ 37 * d by omega)) hd (fun H1 locs1 hP1 _ hS1 => ?_)
  · rw [cw_at hA0.1, ce_A hA0]
  · rw [cw_at hA1.1, ce_A hA1]
  · rw [e1, e2, e3] at hP1
    have e4 : ce g (us σ k1 (cpy (σ k0) (σ k1) sp dp n)) k1 = .inl (gI g, n1, .inl (va_cpy (fun j => iI (σ k0 j)) (fun j => iI (σ k1 j)) sp dp n)) := by
      rw [ce_A hA1, us_s]
      congr 4
      funext q
      unfold cpy va_cpy
      split <;> rfl
    rw [cw_set hA1.1 e4 (fun q h => us_n _ _ h)] at hP1
    exact kk ls H1 locs1 hl hP1 hS1

theorem r_iret {v : Int} (C : Cx g E cc nL own (some .int) d) (hp : post (some (.int (iI v))) σ) (hd : decode cc pc = .ok (.ireturn, 1)) : J g E post nL pc lv [.int (iI v)] σ := by
  obtain ⟨p, e, R, s, m, args, below, meth, c⟩ := E
  obtain ⟨hx, hb, hml, hown, hts, hr, hlk, hR, hF, hD⟩ := C
  intro ls H locs hl hP hS
  exact W.iret hx hb hr (fun t ht hW => ⟨⟨_, σ, rfl, hp, by rw [ht]; exact hP⟩, hS.F ht⟩) hS.2.2 hd hlk

theorem r_zret {v : Int} (hz : v = 0 ∨ v = 1) (C : Cx g E cc nL own (some .boolean) d) (hp : post (some (.int (iI v))) σ) (hd : decode cc pc = .ok (.ireturn, 1)) : J g E post nL pc lv [.int (iI v)] σ := by
  obtain ⟨p, e, R, s, m, args, below, meth, c⟩ := E
  obtain ⟨hx, hb, hml, hown, hts, hr, hlk, hR, hF, hD⟩ := C
  intro ls H locs hl hP hS
  exact W.zret hx hb hr (by rcases hz with rfl | rfl <;> rfl) (fun t ht hW => ⟨⟨_, σ, rfl, hp, by rw [ht]; exact hP⟩, hS.F ht⟩) hS.2.2 hd hlk

theorem r_nret {v : Int} {ty : FieldType} (hz : narrow ty (.int (iI v)) = .int (iI v)) (C : Cx g E cc nL own (some ty) d) (hp : post (some (.int (iI v))) σ) (hd : decode cc pc = .ok (.ireturn, 1)) : J g E post nL pc lv [.int (iI v)] σ := by
  obtain ⟨p, e, R, s, m, args, below, meth, c⟩ := E
  obtain ⟨hx, hb, hml, hown, hts, hr, hlk, hR, hF, hD⟩ := C
  intro ls H locs hl hP hS
  exact W.zret hx hb hr hz (fun t ht hW => ⟨⟨_, σ, rfl, hp, by rw [ht]; exact hP⟩, hS.F ht⟩) hS.2.2 hd hlk

theorem r_lret {v : Int} (C : Cx g E cc nL own (some .long) d) (hp : post (some (.long (iL v))) σ) (hd : decode cc pc = .ok (.lreturn, 1)) : J g E post nL pc lv [.long (iL v)] σ := by
  obtain ⟨p, e, R, s, m, args, below, meth, c⟩ := E
  obtain ⟨hx, hb, hml, hown, hts, hr, hlk, hR, hF, hD⟩ := C
  intro ls H locs hl hP hS
  exact W.lret hx hb hr (fun t ht hW => ⟨⟨_, σ, rfl, hp, by rw [ht]; exact hP⟩, hS.F ht⟩) hS.2.2 hd hlk

theorem r_vret  (C : Cx g E cc nL own none d) (hp : post none σ) (hd : decode cc pc = .ok (.return_, 1)) : J g E post nL pc lv [] σ := by
  obtain ⟨p, e, R, s, m, args, below, meth, c⟩ := E
  obtain ⟨hx, hb, hml, hown, hts, hr, hlk, hR, hF, hD⟩ := C
  intro ls H locs hl hP hS
  exact W.vret hx hb hr (fun t ht hW => ⟨⟨_, σ, rfl, hp, by rw [ht]; exact hP⟩, hS.F ht⟩) hS.2.2 hd hlk

theorem r_aret {v : Nat} {nm : String} (C : Cx g E cc nL own (some (.object nm)) d) (hp : post (some (.ref v)) σ) (hd : decode cc pc = .ok (.areturn, 1)) : J g E post nL pc lv [.ref v] σ := by
  obtain ⟨p, e, R, s, m, args, below, meth, c⟩ := E
  obtain ⟨hx, hb, hml, hown, hts, hr, hlk, hR, hF, hD⟩ := C
  intro ls H locs hl hP hS
  exact W.aret hx hb hr (Or.inl ⟨_, rfl⟩) (Or.inr ⟨_, rfl⟩) (fun t ht hW => ⟨⟨_, σ, rfl, hp, by rw [ht]; exact hP⟩, hS.F ht⟩) hS.2.2 hd hlk

end ROWS
/-- what the tables say of a method, once for all its calls -/
def Yi (y : MethodName) (cy : ByteArray) (n : Nat) (ry : Option FieldType) (nA : Nat) (Cn : String) : Prop := (y.cls = Cn ∧ y.cls ≠ "java/lang/invoke/MethodHandle" ∧ y.cls ≠ "java/lang/invoke/VarHandle" ∧ (parseMethodDescriptor y.desc).map (fun d => d.parameters.length) = some nA) ∧ Cond.initialized y.cls ∈ tbl ∧ Cond.code y cy n ry ∈ tbl ∧ Cond.instanceMethod y ∈ tbl ∧ Cond.selects Cn y y ∈ tbl
def Ys (y : MethodName) (cy : ByteArray) (n : Nat) (ry : Option FieldType) (nA : Nat) : Prop := (y.cls ≠ "java/lang/invoke/MethodHandle" ∧ y.cls ≠ "java/lang/invoke/VarHandle" ∧ (parseMethodDescriptor y.desc).map (fun d => d.parameters.length) = some nA) ∧ Cond.initialized y.cls ∈ tbl ∧ Cond.code y cy n ry ∈ tbl ∧ Cond.static y ∈ tbl
section CALLS
variable {p : Program} {l : Launch} {e : Env} {R : Room} {s : State} {m : MethodId} {args : Array Value} {below : List Frame} {meth : Method} {c : Code} {H : Heap} {locs : List Loc} {Q : State → Prop} {pc : Nat} {ls : Array Slot} {rest st0 : List Value} {a : Array Value} {g : Gt}
theorem call_go {po : Option Value → Sg → Prop} (hr : va_Run p l e R s m args below meth c H locs 0 0 0 0 (F0 m pc ls st0) rest (Qn g po a) (aw g)) (hS : va_S (aw g) s.heap H locs)
    (kk : ∀ (v : Option Value) (σ' : Sg) (H1 : Heap) (locs1 : List Loc), po v σ' → va_P (gD g) cls (cw g σ') H1 → va_S (aw g) s.heap H1 locs1 → W p l e R s m args below meth c H1 locs1 0 0 Q (F0 m (pc + 3) ls (v.toList ++ rest))) : W p l e R s m args below meth c H locs 0 0 Q (F0 m pc ls st0) := by
  intro T hT X
  obtain ⟨v, st₀, t, T', L, h0, X', hL, e1, e2, ⟨⟨v2, σ', hv, hp, hb⟩, hz, hk⟩, st⟩ := hr T hT X
  cases hv
  rw [h0] at hz hk
  obtain ⟨t2, a1, b1⟩ := kk v σ' T'.heap (locs ++ L) hp (by rw [e1]; exact hb)
    ⟨Nat.le_trans hS.1 (by rw [e1]; exact hz), fun q h1 h2 => by rw [e1, hk q (Nat.lt_of_lt_of_le h1 hS.1) h2]; exact hS.2.1 q h1 h2, fun q hq => by
      rcases List.mem_append.mp hq with h | h
      · exact hS.2.2 q h
      · exact hL q h⟩ T' rfl X'
  exact ⟨t2, st t2 a1, b1⟩
end CALLS
section CALLS2
variable {g : Gt} {E : Ev} {post : Option Value → Sg → Prop} {cc : ByteArray} {nL pc d : Nat} {own : String} {ret : Option FieldType} {lv : List (Nat × Value)} {st st0 : List Value} {σ : Sg} {y : MethodName} {cy : ByteArray} {n nA dy i : Nat} {ry : Option FieldType} {As : List Value} {po : Option Value → Sg → Prop}
theorem r_callV (C : Cx g E cc nL own ret d) {k ci : Nat} {q : vw_C} (hM : Mt g y cy n ry dy (.ref (gA g k) :: As) σ po) (hY : Yi y cy n ry nA q.1) (ho : isO k ci) (hq : cls[ci]? = some q) (hnA : As.length = nA) (w1 : Cond.methodLink own i y ∈ tbl) (hR2 : dy + 1 ≤ d ∧ 19 + n + 37 * dy ≤ 37 * d) (hrest : (st.map fun v => v.category).sum ≤ 8) (hst : st0 = As.reverse ++ .ref (gA g k) :: st) (hd : decode cc pc = .ok (.invokevirtual i, 3))
    (kk : ∀ (v : Option Value) (σ' : Sg), po v σ' → J g E post nL (pc + 3) lv (v.toList ++ st) σ') : J g E post nL pc lv st0 σ := by
  obtain ⟨p, e, R, s, m, args, below, meth, c⟩ := E
  obtain ⟨hx, hb, hml, hown, hts, hr, hlk, hR, hF, hD⟩ := C
  intro ls H locs hl hP hS
  subst hR
  obtain ⟨hy, w4, w5, w2, w3⟩ := hY
  have hcb : CallB (rmD d) s args own i y cy n ry (wsOf y cy n ry) (rmD dy) 0 0 nA := callB_of nA hts (wsOf_good w5) rfl rfl rfl (hts _ w4) (hts _ w1) hy.2 ⟨hR2.1, by show 8 + (n + 11) + 37 * dy ≤ 37 * d; omega⟩
  refine call_go (va_runV (C := q.1) (As := As) (rest := st) (b := gA g k) (g := F0 m pc ls st0) ⟨hx, hb, hml, hown, hts⟩ hM ⟨hcb, hts _ w2, hts _ w3⟩ ⟨FrameBlind_Wd g _ σ, va_recv hF.1 hP hq (q0 := k) (fs := fl g σ k (nf ci)) (by rw [cw_at ho.1, ce_O ho]), fun U hU hW => ⟨rfl, by rw [hU]; exact hP, Fx_warm hW (fun a h1 h2 => by rw [hU]; exact hS.2.1 a h1 h2) hF, hD⟩⟩ rfl hnA hl.1 hst (lv_room hrest) hd ⟨Nat.zero_le _, Nat.zero_le _⟩) hS (fun v σ' H1 locs1 hp hP1 hS1 => kk v σ' hp ls H1 locs1 hl hP1 hS1)
theorem r_callS (C : Cx g E cc nL own ret d) (hM : Mt g y cy n ry dy As σ po) (hY : Ys y cy n ry nA) (hnA : As.length = nA) (w1 : Cond.methodLink own i y ∈ tbl) (hR2 : dy + 1 ≤ d ∧ 19 + n + 37 * dy ≤ 37 * d) (hrest : (st.map fun v => v.category).sum ≤ 8) (hst : st0 = As.reverse ++ st) (hd : decode cc pc = .ok (.invokestatic i, 3))
    (kk : ∀ (v : Option Value) (σ' : Sg), po v σ' → J g E post nL (pc + 3) lv (v.toList ++ st) σ') : J g E post nL pc lv st0 σ := by
  obtain ⟨p, e, R, s, m, args, below, meth, c⟩ := E
  obtain ⟨hx, hb, hml, hown, hts, hr, hlk, hR, hF, hD⟩ := C
  intro ls H locs hl hP hS
  subst hR
  obtain ⟨hy, w4, w5, w2⟩ := hY
  have hcb : CallB (rmD d) s args own i y cy n ry (wsOf y cy n ry) (rmD dy) 0 0 nA := callB_of nA hts (wsOf_good w5) rfl rfl rfl (hts _ w4) (hts _ w1) hy ⟨hR2.1, by show 8 + (n + 11) + 37 * dy ≤ 37 * d; omega⟩
  refine call_go (va_runS (As := As) (rest := st) (g := F0 m pc ls st0) ⟨hx, hb, hml, hown, hts⟩ hM ⟨hcb, hts _ w2⟩ ⟨FrameBlind_Wd g _ σ, fun U hU hW => ⟨rfl, by rw [hU]; exact hP, Fx_warm hW (fun a h1 h2 => by rw [hU]; exact hS.2.1 a h1 h2) hF, hD⟩⟩ rfl hnA hl.1 hst (lv_room hrest) hd ⟨Nat.zero_le _, Nat.zero_le _⟩) hS (fun v σ' H1 locs1 hp hP1 hS1 => kk v σ' hp ls H1 locs1 hl hP1 hS1)
theorem r_callSN (C : Cx g E cc nL own ret d) {host : String} (hM : Mt g y cy n ry dy As σ po) (hY : Ys y cy n ry nA) (hnA : As.length = nA) (w1 : ∀ U, Fn U → va_Nw (.methodLinkNest own i y host) U) (hR2 : dy + 1 ≤ d ∧ 19 + n + 37 * dy ≤ 37 * d) (hrest : (st.map fun v => v.category).sum ≤ 8) (hst : st0 = As.reverse ++ st) (hd : decode cc pc = .ok (.invokestatic i, 3))
    (kk : ∀ (v : Option Value) (σ' : Sg), po v σ' → J g E post nL (pc + 3) lv (v.toList ++ st) σ') : J g E post nL pc lv st0 σ := by
  obtain ⟨p, e, R, s, m, args, below, meth, c⟩ := E
  obtain ⟨hx, hb, hml, hown, hts, hr, hlk, hR, hF, hD⟩ := C
  intro ls H locs hl hP hS
  subst hR
  obtain ⟨hy, w4, w5, w2⟩ := hY
  have hcn : va_CN (rmD d) s args own i y host cy n ry (wsOf y cy n ry) (rmD dy) 0 0 nA := va_cnB nA hts (wsOf_good w5) rfl rfl rfl (w1 s hF.2.2.2.2.1) (hts _ w4) hy ⟨hR2.1, by show 8 + (n + 11) + 37 * dy ≤ 37 * d; omega⟩
  refine call_go (va_runSN (As := As) (rest := st) (g := F0 m pc ls st0) ⟨hx, hb, hml, hown, hts⟩ hM ⟨hcn, hts _ w2, trivial⟩ ⟨FrameBlind_Wd g _ σ, fun U hU hW => ⟨rfl, by rw [hU]; exact hP, Fx_warm hW (fun a h1 h2 => by rw [hU]; exact hS.2.1 a h1 h2) hF, hD⟩⟩ rfl hnA hl.1 hst (lv_room hrest) hd ⟨Nat.zero_le _, Nat.zero_le _⟩) hS (fun v σ' H1 locs1 hp hP1 hS1 => kk v σ' hp ls H1 locs1 hl hP1 hS1)
end CALLS2
