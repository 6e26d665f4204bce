theorem wr_cm (σ : Sg) {k1 k2 : Nat} (i j : Nat) (x y : Int) (h : k1 ≠ k2) : wr (wr σ k1 i x) k2 j y = wr (wr σ k2 j y) k1 i x := by
  funext k
  by_cases h1 : k = k1
  · subst h1
    rw [wr_n _ _ _ h, wr_s, wr_s, wr_n _ _ _ h]
  · rw [wr_n (wr σ k2 j y) _ _ h1]
    by_cases h2 : k = k2
    · subst h2
      rw [wr_s, wr_s, wr_n _ _ _ h1]
    · rw [wr_n _ _ _ h2, wr_n _ _ _ h1, wr_n _ _ _ h2]
def tkN (ty vl : Nat → Int) (k : Nat) (m : Int) : Int × Nat := if ty k = 2 ∧ vl k ≤ m then (vl k, k + 1) else (-1, k)
def bhN (ty vl : Nat → Int) (k : Nat) (w m : Int) : Int × Nat := if ty k = 1 ∧ vl k = w then tkN ty vl (k + 1) m else (0, k)
def sgN (ty : Nat → Int) (k : Nat) (c : Int) : Nat := if ty k = c then k + 1 else k
/-- what the tokens keep to: END at K, and none before -/
def TkK (ty vl : Nat → Int) (K : Nat) : Prop := K ≤ 120 ∧ ty K = 6 ∧ (∀ j, j ≤ K → 0 ≤ ty j ∧ ty j ≤ 6) ∧ ∀ j, j ≤ K → -1 ≤ vl j ∧ vl j ≤ 10000 ∧ (ty j = 2 → 0 ≤ vl j)
theorem tkN_le {ty vl : Nat → Int} {K k : Nat} {m : Int} (h : TkK ty vl K) (hk : k ≤ K) : (tkN ty vl k m).2 ≤ K := by
  unfold tkN
  split
  · rename_i q
    by_cases e : k = K
    · have h2 := h.2.1
      rw [e] at q
      omega
    · show k + 1 ≤ K
      omega
  · exact hk
theorem tkN_v {ty vl : Nat → Int} {K k : Nat} {m : Int} (h : TkK ty vl K) (hk : k ≤ K) (hm : 0 ≤ m) : -1 ≤ (tkN ty vl k m).1 ∧ (tkN ty vl k m).1 ≤ m := by
  have hv := h.2.2.2 k hk
  unfold tkN
  split
  · rename_i q
    exact ⟨by show -1 ≤ vl k; omega, q.2⟩
  · show -1 ≤ (-1 : Int) ∧ (-1 : Int) ≤ m
    omega
theorem bhN_le {ty vl : Nat → Int} {K k : Nat} {w m : Int} (h : TkK ty vl K) (hk : k ≤ K) : (bhN ty vl k w m).2 ≤ K := by
  unfold bhN
  split
  · rename_i q
    by_cases e : k = K
    · have h2 := h.2.1
      rw [e] at q
      omega
    · exact tkN_le h (by omega)
  · exact hk
theorem bhN_v {ty vl : Nat → Int} {K k : Nat} {w m : Int} (h : TkK ty vl K) (hk : k ≤ K) (hm : 0 ≤ m) : -1 ≤ (bhN ty vl k w m).1 ∧ (bhN ty vl k w m).1 ≤ m := by
  unfold bhN
  split
  · rename_i q
    by_cases e : k = K
    · have h2 := h.2.1
      rw [e] at q
      omega
    · exact tkN_v h (by omega) hm
  · show -1 ≤ (0 : Int) ∧ (0 : Int) ≤ m
    omega
theorem sgN_le {ty vl : Nat → Int} {K k : Nat} {c : Int} (h : TkK ty vl K) (hk : k ≤ K) (hc : c ≠ 6) : sgN ty k c ≤ K := by
  unfold sgN
  split
  · rename_i q
    by_cases e : k = K
    · have h2 := h.2.1
      rw [e] at q
      omega
    · omega
  · exact hk
abbrev It : Type := Bool × Nat × Sg
def itD (b : Nat) (ty vl : Nat → Int) (k : Nat) (τ : Sg) : It := if (tkN ty vl (k + 1) 11).1 = -1 then (false, (tkN ty vl (k + 1) 11).2, τ) else if (tkN ty vl (tkN ty vl (k + 1) 11).2 9999).1 = -1 then (false, (tkN ty vl (tkN ty vl (k + 1) 11).2 9999).2, τ) else (true, (tkN ty vl (tkN ty vl (k + 1) 11).2 9999).2, wr τ (b + 1) (tkN ty vl (k + 1) 11).1.toNat (tkN ty vl (tkN ty vl (k + 1) 11).2 9999).1)
def itF (b : Nat) (ty vl : Nat → Int) (k : Nat) (τ : Sg) : It := if (tkN ty vl (k + 1) 99).1 = -1 then (false, (tkN ty vl (k + 1) 99).2, τ) else (true, (tkN ty vl (k + 1) 99).2, wr τ b 8 (tkN ty vl (k + 1) 99).1)
def itW (b : Nat) (ty vl : Nat → Int) (k : Nat) (τ : Sg) : It := if (tkN ty vl (sgN ty (k + 1) 4) 3).1 = -1 then (false, (tkN ty vl (sgN ty (k + 1) 4) 3).2, τ) else (true, (tkN ty vl (sgN ty (k + 1) 4) 3).2, wr τ b 9 (if ty (k + 1) = 4 then -(tkN ty vl (sgN ty (k + 1) 4) 3).1 else (tkN ty vl (sgN ty (k + 1) 4) 3).1))
theorem c_takes (g : Gt) (ty vl : Nat → Int) (K k : Nat) (hT : TkK ty vl K) (hk : k ≤ K) (c : Int) (hc : rng c) (σ : Sg) (h : σ 26 4 = (k : Int)) (h27 : σ 27 = ty) (h29 : σ 29 = vl) : Mt g yX3_takes cX3_takes 2 (some FieldType.boolean) 0 [.ref (gA g 26), .int (iI (c))] σ (pI (b01 (ty k = c)) (wr σ 26 4 ((sgN ty k c : Nat) : Int))) := by
  have ht := hT.2.2.1 k hk; have hv := hT.2.2.2 k hk; have hK := hT.1
  by_cases q : ty k = c
  · have e := c_takes_y g k (by omega) c hc σ h (by rw [h27]; exact ⟨by omega, by omega⟩) (by rw [h27]; exact q)
    rw [show sgN ty k c = k + 1 from if_pos q, show b01 (ty k = c) = 1 from (b01_1 q).symm]
    exact e
  · have e := c_takes_n g k (by omega) c hc σ h (by rw [h27]; exact ⟨by omega, by omega⟩) (by rw [h27]; exact q)
    rw [show sgN ty k c = k from if_neg q, show b01 (ty k = c) = 0 from (b01_0 q).symm, ← h, wr_idd]
    exact e
theorem c_takeN (g : Gt) (ty vl : Nat → Int) (K k : Nat) (hT : TkK ty vl K) (hk : k ≤ K) (m : Int) (hm : rng m) (σ : Sg) (h : σ 26 4 = (k : Int)) (h27 : σ 27 = ty) (h29 : σ 29 = vl) : Mt g yX3_takeNumber cX3_takeNumber 3 (some FieldType.int) 0 [.ref (gA g 26), .int (iI (m))] σ (pI ((tkN ty vl k m).1) (wr σ 26 4 (((tkN ty vl k m).2 : Nat) : Int))) := by
  have ht := hT.2.2.1 k hk; have hv := hT.2.2.2 k hk; have hK := hT.1
  by_cases q : ty k = 2 ∧ vl k ≤ m
  · have e := c_takeN_y g k (by omega) m hm σ h (by rw [h27]; exact ⟨by omega, by omega⟩) (by rw [h29]; exact ⟨by omega, by omega⟩) (by rw [h27, h29]; exact q)
    rw [h29] at e
    rw [show tkN ty vl k m = (vl k, k + 1) from if_pos q]
    exact e
  · have e := c_takeN_n g k (by omega) m hm σ h (by rw [h27]; exact ⟨by omega, by omega⟩) (by rw [h29]; exact ⟨by omega, by omega⟩) (by rw [h27, h29]; exact q)
    rw [show tkN ty vl k m = (-1, k) from if_neg q]
    show Mt g _ _ _ _ _ _ σ (pI (-1) (wr σ 26 4 (k : Int)))
    rw [← h, wr_idd]
    exact e
set_option maxHeartbeats 4000000 in
set_option maxRecDepth 100000 in
theorem c_bhN (g : Gt) (ty vl : Nat → Int) (K k : Nat) (hT : TkK ty vl K) (hk : k ≤ K) (w m : Int) (hw : rng w) (hm : rng m) (σ : Sg) (h : σ 26 4 = (k : Int)) (h27 : σ 27 = ty) (h29 : σ 29 = vl) : Mt g yX3_numberBehind cX3_numberBehind 3 (some FieldType.int) 1 [.ref (gA g 26), .int (iI (w)), .int (iI (m))] σ (pI ((bhN ty vl k w m).1) (wr σ 26 4 (((bhN ty vl k w m).2 : Nat) : Int))) := by
  have ht := hT.2.2.1 k hk; have hv := hT.2.2.2 k hk; have hK := hT.1
  have he : ty K = 6 := hT.2.1
  have hkK : ty k = 1 → k + 1 ≤ K := fun q => (Nat.lt_or_eq_of_le hk).elim (fun e => e) (fun e => by rw [e] at q; omega)
  refine mt_of (own := RX3) (by decide) rfl (Nat.le_of_ble_eq_true rfl) (fun E C => ?_)
  show J g E (pI ((bhN ty vl k w m).1) (wr σ 26 4 (((bhN ty vl k w m).2 : Nat) : Int))) 3 0 [(0, .ref (gA g 26)), (1, .int (iI (w))), (2, .int (iI (m)))] [] σ
  refine r_aload_n (pc := 0) C dX3_numberBehind_0 rfl 0 rfl ?_
  refine r_getR3 (pc := 1) C 0 (k' := 27) rfl O_26 (by decide) rfl t_180 dX3_numberBehind_1 ?_
  refine r_aload_n (pc := 4) C dX3_numberBehind_4 rfl 0 rfl ?_
  refine r_getI3 (pc := 5) C 4 rfl O_26 (by decide) rfl t_184 dX3_numberBehind_5 ?_
  refine r_top (show σ 26 4 = (k : Int) from h) ?_
  refine r_iald (pc := 8) C k A_27 (by omega) (by omega) dX3_numberBehind_8 ?_
  refine r_top (show σ 27 k = ty k from congrFun h27 k) ?_
  refine r_iconst (pc := 9) C dX3_numberBehind_9 ?_
  refine r_icmp_ne (pc := 10) C 26 ⟨by omega, by omega⟩ ⟨by omega, by omega⟩ dX3_numberBehind_10 (by decide) (fun h10 => ?_) (fun h10 => ?_)
  · skip
    refine r_iconst (pc := 26) C dX3_numberBehind_26 ?_
    exact r_reti (pc := 27) C (by unfold bhN; rw [if_neg (by omega)]) (by unfold bhN; rw [if_neg (by omega)]; show σ = wr σ 26 4 (k : Int); rw [← h, wr_idd]) dX3_numberBehind_27
  · skip
    refine r_aload_n (pc := 13) C dX3_numberBehind_13 rfl 0 rfl ?_
    refine r_getR3 (pc := 14) C 2 (k' := 29) rfl O_26 (by decide) rfl t_182 dX3_numberBehind_14 ?_
    refine r_aload_n (pc := 17) C dX3_numberBehind_17 rfl 0 rfl ?_
    refine r_getI3 (pc := 18) C 4 rfl O_26 (by decide) rfl t_184 dX3_numberBehind_18 ?_
    refine r_top (show σ 26 4 = (k : Int) from h) ?_
    refine r_iald (pc := 21) C k A_29 (by omega) (by omega) dX3_numberBehind_21 ?_
    refine r_top (show σ 29 k = vl k from congrFun h29 k) ?_
    refine r_iload_n (pc := 22) C dX3_numberBehind_22 rfl 1 rfl ?_
    refine r_icmp_eq (pc := 23) C 28 ⟨by omega, by omega⟩ hw dX3_numberBehind_23 (by decide) (fun h23 => ?_) (fun h23 => ?_)
    · skip
      have hk1 := hkK (by omega)
      refine r_aload_n (pc := 28) C dX3_numberBehind_28 rfl 0 rfl ?_
      refine r_dup (pc := 29) C rfl dX3_numberBehind_29 ?_
      refine r_getI3 (pc := 30) C 4 rfl O_26 (by decide) rfl t_184 dX3_numberBehind_30 ?_
      refine r_top (show σ 26 4 = (k : Int) from h) ?_
      refine r_iconst (pc := 33) C dX3_numberBehind_33 ?_
      refine r_iadd (pc := 34) C dX3_numberBehind_34 ?_
      refine r_put3 (pc := 35) C 4 rfl O_26 (by decide) rfl t_184 rfl (by decide +kernel) dX3_numberBehind_35 ?_
      refine r_sg (show _ = (wr σ 26 4 (((k + 1) : Nat) : Int)) by first | rfl | (rw [wr_wr]; rfl)) ?_
      refine r_aload_n (pc := 38) C dX3_numberBehind_38 rfl 0 rfl ?_
      refine r_iload_n (pc := 39) C dX3_numberBehind_39 rfl 2 rfl ?_
      refine r_cVi (pc := 40) C (c_takeN g ty vl K (k + 1) hT hk1 m hm (wr σ 26 4 (((k + 1) : Nat) : Int)) (wr_s2 _ _ _ _) ((wr_n _ _ _ (by decide)).trans h27) ((wr_n _ _ _ (by decide)).trans h29)) yX3_takeNumber_w O_26 rfl rfl t_678 ⟨by decide, by decide⟩ (Nat.le_of_ble_eq_true rfl) rfl dX3_numberBehind_40 ?_
      refine r_sg (wr_wr _ _ _ _ _) ?_
      exact r_reti (pc := 43) C (by unfold bhN; rw [if_pos (by omega)]) (by unfold bhN; rw [if_pos (by omega)]) dX3_numberBehind_43
    · skip
      refine r_iconst (pc := 26) C dX3_numberBehind_26 ?_
      exact r_reti (pc := 27) C (by unfold bhN; rw [if_neg (by omega)]) (by unfold bhN; rw [if_neg (by omega)]; show σ = wr σ 26 4 (k : Int); rw [← h, wr_idd]) dX3_numberBehind_27
set_option maxHeartbeats 4000000 in
set_option maxRecDepth 100000 in
theorem c_readFall (g : Gt) (ty vl : Nat → Int) (K k : Nat) (hT : TkK ty vl K) (hk : k ≤ K) (σ : Sg) (h : σ 26 4 = (k : Int)) (h27 : σ 27 = ty) (h29 : σ 29 = vl) (hty : ty k = 1) : Mt g yX3_readFall cX3_readFall 3 (some FieldType.boolean) 1 [.ref (gA g 26), .ref (gA g 8)] σ (pI (b01 ((itF 8 ty vl k σ).1 = true)) (wr (itF 8 ty vl k σ).2.2 26 4 (((itF 8 ty vl k σ).2.1 : Nat) : Int))) := by
  have ht := hT.2.2.1 k hk; have hv := hT.2.2.2 k hk; have hK := hT.1
  have he : ty K = 6 := hT.2.1
  have hk1 : k + 1 ≤ K := (Nat.lt_or_eq_of_le hk).elim (fun e => e) (fun e => by rw [e] at hty; omega)
  refine mt_of (own := RX3) (by decide) rfl (Nat.le_of_ble_eq_true rfl) (fun E C => ?_)
  show J g E (pI (b01 ((itF 8 ty vl k σ).1 = true)) (wr (itF 8 ty vl k σ).2.2 26 4 (((itF 8 ty vl k σ).2.1 : Nat) : Int))) 3 0 [(0, .ref (gA g 26)), (1, .ref (gA g 8))] [] σ
  refine r_aload_n (pc := 0) C dX3_readFall_0 rfl 0 rfl ?_
  refine r_dup (pc := 1) C rfl dX3_readFall_1 ?_
  refine r_getI3 (pc := 2) C 4 rfl O_26 (by decide) rfl t_184 dX3_readFall_2 ?_
  refine r_top (show σ 26 4 = (k : Int) from h) ?_
  refine r_iconst (pc := 5) C dX3_readFall_5 ?_
  refine r_iadd (pc := 6) C dX3_readFall_6 ?_
  refine r_put3 (pc := 7) C 4 rfl O_26 (by decide) rfl t_184 rfl (by decide +kernel) dX3_readFall_7 ?_
  refine r_sg (show _ = (wr σ 26 4 (((k + 1) : Nat) : Int)) by first | rfl | (rw [wr_wr]; rfl)) ?_
  refine r_aload_n (pc := 10) C dX3_readFall_10 rfl 0 rfl ?_
  refine r_bipush (pc := 11) C dX3_readFall_11 (by decide) ?_
  refine r_cVi (pc := 13) C (c_takeN g ty vl K (k + 1) hT (by omega) 99 ⟨by decide, by decide⟩ (wr σ 26 4 (((k + 1) : Nat) : Int)) (wr_s2 _ _ _ _) ((wr_n _ _ _ (by decide)).trans h27) ((wr_n _ _ _ (by decide)).trans h29)) yX3_takeNumber_w O_26 rfl rfl t_678 ⟨by decide, by decide⟩ (Nat.le_of_ble_eq_true rfl) rfl dX3_readFall_13 ?_
  refine r_sg (wr_wr _ _ _ _ _) ?_
  have hle13 : (tkN ty vl (k + 1) 99).2 ≤ K := tkN_le hT (by omega)
  have hva13 := tkN_v hT (k := (k + 1)) (m := 99) (by omega) (by omega)
  refine r_istore_n (pc := 16) C dX3_readFall_16 rfl (by decide) [1, 2, 0] (lv' := [(0, .ref (gA g 26)), (1, .ref (gA g 8)), (2, .int (iI ((tkN ty vl (k + 1) 99).1)))]) rfl ?_
  refine r_iload_n (pc := 17) C dX3_readFall_17 rfl 2 rfl ?_
  refine r_iconst (pc := 18) C dX3_readFall_18 ?_
  refine r_icmp_ne (pc := 19) C 24 ⟨by omega, by omega⟩ ⟨by omega, by omega⟩ dX3_readFall_19 (by decide) (fun h19 => ?_) (fun h19 => ?_)
  · skip
    refine r_aload_n (pc := 24) C dX3_readFall_24 rfl 1 rfl ?_
    refine r_iload_n (pc := 25) C dX3_readFall_25 rfl 2 rfl ?_
    refine r_put0 (pc := 26) C 8 rfl O_8 (by decide) rfl t_124 rfl (by decide +kernel) dX3_readFall_26 ?_
    refine r_iconst (pc := 29) C dX3_readFall_29 ?_
    exact r_retz (pc := 30) C (Or.inr rfl) (b01_1 (by unfold itF; (first | rw [if_pos (by omega)] | rw [if_neg (by omega)]))) (by unfold itF; (first | rw [if_pos (by omega)] | rw [if_neg (by omega)]); exact wr_cm _ _ _ _ _ (by decide)) dX3_readFall_30
  · skip
    refine r_iconst (pc := 22) C dX3_readFall_22 ?_
    exact r_retz (pc := 23) C (Or.inl rfl) (b01_0 (by unfold itF; (first | rw [if_pos (by omega)] | rw [if_neg (by omega)]); exact Bool.false_ne_true)) (by unfold itF; (first | rw [if_pos (by omega)] | rw [if_neg (by omega)])) dX3_readFall_23
set_option maxHeartbeats 4000000 in
set_option maxRecDepth 100000 in
theorem c_readDust (g : Gt) (ty vl : Nat → Int) (K k : Nat) (hT : TkK ty vl K) (hk : k ≤ K) (σ : Sg) (h : σ 26 4 = (k : Int)) (h27 : σ 27 = ty) (h29 : σ 29 = vl) (hty : ty k = 1) : Mt g yX3_readDust cX3_readDust 4 (some FieldType.boolean) 1 [.ref (gA g 26), .ref (gA g 8)] σ (pI (b01 ((itD 8 ty vl k σ).1 = true)) (wr (itD 8 ty vl k σ).2.2 26 4 (((itD 8 ty vl k σ).2.1 : Nat) : Int))) := by
  have ht := hT.2.2.1 k hk; have hv := hT.2.2.2 k hk; have hK := hT.1
  have he : ty K = 6 := hT.2.1
  have hk1 : k + 1 ≤ K := (Nat.lt_or_eq_of_le hk).elim (fun e => e) (fun e => by rw [e] at hty; omega)
  refine mt_of (own := RX3) (by decide) rfl (Nat.le_of_ble_eq_true rfl) (fun E C => ?_)
  show J g E (pI (b01 ((itD 8 ty vl k σ).1 = true)) (wr (itD 8 ty vl k σ).2.2 26 4 (((itD 8 ty vl k σ).2.1 : Nat) : Int))) 4 0 [(0, .ref (gA g 26)), (1, .ref (gA g 8))] [] σ
  refine r_aload_n (pc := 0) C dX3_readDust_0 rfl 0 rfl ?_
  refine r_dup (pc := 1) C rfl dX3_readDust_1 ?_
  refine r_getI3 (pc := 2) C 4 rfl O_26 (by decide) rfl t_184 dX3_readDust_2 ?_
  refine r_top (show σ 26 4 = (k : Int) from h) ?_
  refine r_iconst (pc := 5) C dX3_readDust_5 ?_
  refine r_iadd (pc := 6) C dX3_readDust_6 ?_
  refine r_put3 (pc := 7) C 4 rfl O_26 (by decide) rfl t_184 rfl (by decide +kernel) dX3_readDust_7 ?_
  refine r_sg (show _ = (wr σ 26 4 (((k + 1) : Nat) : Int)) by first | rfl | (rw [wr_wr]; rfl)) ?_
  refine r_aload_n (pc := 10) C dX3_readDust_10 rfl 0 rfl ?_
  refine r_bipush (pc := 11) C dX3_readDust_11 (by decide) ?_
  refine r_cVi (pc := 13) C (c_takeN g ty vl K (k + 1) hT (by omega) 11 ⟨by decide, by decide⟩ (wr σ 26 4 (((k + 1) : Nat) : Int)) (wr_s2 _ _ _ _) ((wr_n _ _ _ (by decide)).trans h27) ((wr_n _ _ _ (by decide)).trans h29)) yX3_takeNumber_w O_26 rfl rfl t_678 ⟨by decide, by decide⟩ (Nat.le_of_ble_eq_true rfl) rfl dX3_readDust_13 ?_
  refine r_sg (wr_wr _ _ _ _ _) ?_
  have hle13 : (tkN ty vl (k + 1) 11).2 ≤ K := tkN_le hT (by omega)
  have hva13 := tkN_v hT (k := (k + 1)) (m := 11) (by omega) (by omega)
  refine r_istore_n (pc := 16) C dX3_readDust_16 rfl (by decide) [1, 2, 0] (lv' := [(0, .ref (gA g 26)), (1, .ref (gA g 8)), (2, .int (iI ((tkN ty vl (k + 1) 11).1)))]) rfl ?_
  refine r_iload_n (pc := 17) C dX3_readDust_17 rfl 2 rfl ?_
  refine r_iconst (pc := 18) C dX3_readDust_18 ?_
  refine r_icmp_ne (pc := 19) C 24 ⟨by omega, by omega⟩ ⟨by omega, by omega⟩ dX3_readDust_19 (by decide) (fun h19 => ?_) (fun h19 => ?_)
  · skip
    refine r_aload_n (pc := 24) C dX3_readDust_24 rfl 0 rfl ?_
    refine r_sipush (pc := 25) C dX3_readDust_25 (by decide) ?_
    refine r_cVi (pc := 28) C (c_takeN g ty vl K ((tkN ty vl (k + 1) 11).2) hT (by omega) 9999 ⟨by decide, by decide⟩ (wr σ 26 4 (((tkN ty vl (k + 1) 11).2 : Nat) : Int)) (wr_s2 _ _ _ _) ((wr_n _ _ _ (by decide)).trans h27) ((wr_n _ _ _ (by decide)).trans h29)) yX3_takeNumber_w O_26 rfl rfl t_678 ⟨by decide, by decide⟩ (Nat.le_of_ble_eq_true rfl) rfl dX3_readDust_28 ?_
    refine r_sg (wr_wr _ _ _ _ _) ?_
    have hle28 : (tkN ty vl ((tkN ty vl (k + 1) 11).2) 9999).2 ≤ K := tkN_le hT (by omega)
    have hva28 := tkN_v hT (k := ((tkN ty vl (k + 1) 11).2)) (m := 9999) (by omega) (by omega)
    refine r_istore_n (pc := 31) C dX3_readDust_31 rfl (by decide) [1, 2, 3, 0] (lv' := [(0, .ref (gA g 26)), (1, .ref (gA g 8)), (2, .int (iI ((tkN ty vl (k + 1) 11).1))), (3, .int (iI ((tkN ty vl ((tkN ty vl (k + 1) 11).2) 9999).1)))]) rfl ?_
    refine r_iload_n (pc := 32) C dX3_readDust_32 rfl 3 rfl ?_
    refine r_iconst (pc := 33) C dX3_readDust_33 ?_
    refine r_icmp_ne (pc := 34) C 39 ⟨by omega, by omega⟩ ⟨by omega, by omega⟩ dX3_readDust_34 (by decide) (fun h34 => ?_) (fun h34 => ?_)
    · skip
      refine r_aload_n (pc := 39) C dX3_readDust_39 rfl 1 rfl ?_
      refine r_getR0 (pc := 40) C 0 (k' := 9) rfl O_8 (by decide) rfl t_105 dX3_readDust_40 ?_
      refine r_iload_n (pc := 43) C dX3_readDust_43 rfl 2 rfl ?_
      refine r_iload_n (pc := 44) C dX3_readDust_44 rfl 3 rfl ?_
      refine r_iast (pc := 45) C (((tkN ty vl (k + 1) 11).1).toNat) A_9 (by omega) (by omega) dX3_readDust_45 ?_
      refine r_iconst (pc := 46) C dX3_readDust_46 ?_
      exact r_retz (pc := 47) C (Or.inr rfl) (b01_1 (by unfold itD; (first | rw [if_pos (by omega)] | rw [if_neg (by omega)]); (first | rw [if_pos (by omega)] | rw [if_neg (by omega)]))) (by unfold itD; (first | rw [if_pos (by omega)] | rw [if_neg (by omega)]); (first | rw [if_pos (by omega)] | rw [if_neg (by omega)]); exact wr_cm _ _ _ _ _ (by decide)) dX3_readDust_47
    · skip
      refine r_iconst (pc := 37) C dX3_readDust_37 ?_
      exact r_retz (pc := 38) C (Or.inl rfl) (b01_0 (by unfold itD; (first | rw [if_pos (by omega)] | rw [if_neg (by omega)]); (first | rw [if_pos (by omega)] | rw [if_neg (by omega)]); exact Bool.false_ne_true)) (by unfold itD; (first | rw [if_pos (by omega)] | rw [if_neg (by omega)]); (first | rw [if_pos (by omega)] | rw [if_neg (by omega)])) dX3_readDust_38
  · skip
    refine r_iconst (pc := 22) C dX3_readDust_22 ?_
    exact r_retz (pc := 23) C (Or.inl rfl) (b01_0 (by unfold itD; (first | rw [if_pos (by omega)] | rw [if_neg (by omega)]); exact Bool.false_ne_true)) (by unfold itD; (first | rw [if_pos (by omega)] | rw [if_neg (by omega)])) dX3_readDust_23
set_option maxHeartbeats 4000000 in
set_option maxRecDepth 100000 in
theorem c_readDraught (g : Gt) (ty vl : Nat → Int) (K k : Nat) (hT : TkK ty vl K) (hk : k ≤ K) (σ : Sg) (h : σ 26 4 = (k : Int)) (h27 : σ 27 = ty) (h29 : σ 29 = vl) (hty : ty k = 1) : Mt g yX3_readDraught cX3_readDraught 4 (some FieldType.boolean) 1 [.ref (gA g 26), .ref (gA g 8)] σ (pI (b01 ((itW 8 ty vl k σ).1 = true)) (wr (itW 8 ty vl k σ).2.2 26 4 (((itW 8 ty vl k σ).2.1 : Nat) : Int))) := by
  have ht := hT.2.2.1 k hk; have hv := hT.2.2.2 k hk; have hK := hT.1
  have he : ty K = 6 := hT.2.1
  have hk1 : k + 1 ≤ K := (Nat.lt_or_eq_of_le hk).elim (fun e => e) (fun e => by rw [e] at hty; omega)
  refine mt_of (own := RX3) (by decide) rfl (Nat.le_of_ble_eq_true rfl) (fun E C => ?_)
  show J g E (pI (b01 ((itW 8 ty vl k σ).1 = true)) (wr (itW 8 ty vl k σ).2.2 26 4 (((itW 8 ty vl k σ).2.1 : Nat) : Int))) 4 0 [(0, .ref (gA g 26)), (1, .ref (gA g 8))] [] σ
  refine r_aload_n (pc := 0) C dX3_readDraught_0 rfl 0 rfl ?_
  refine r_dup (pc := 1) C rfl dX3_readDraught_1 ?_
  refine r_getI3 (pc := 2) C 4 rfl O_26 (by decide) rfl t_184 dX3_readDraught_2 ?_
  refine r_top (show σ 26 4 = (k : Int) from h) ?_
  refine r_iconst (pc := 5) C dX3_readDraught_5 ?_
  refine r_iadd (pc := 6) C dX3_readDraught_6 ?_
  refine r_put3 (pc := 7) C 4 rfl O_26 (by decide) rfl t_184 rfl (by decide +kernel) dX3_readDraught_7 ?_
  refine r_sg (show _ = (wr σ 26 4 (((k + 1) : Nat) : Int)) by first | rfl | (rw [wr_wr]; rfl)) ?_
  refine r_aload_n (pc := 10) C dX3_readDraught_10 rfl 0 rfl ?_
  refine r_iconst (pc := 11) C dX3_readDraught_11 ?_
  refine r_cVi (pc := 12) C (c_takes g ty vl K (k + 1) hT (by omega) 4 ⟨by decide, by decide⟩ (wr σ 26 4 (((k + 1) : Nat) : Int)) (wr_s2 _ _ _ _) ((wr_n _ _ _ (by decide)).trans h27) ((wr_n _ _ _ (by decide)).trans h29)) yX3_takes_w O_26 rfl rfl t_695 ⟨by decide, by decide⟩ (Nat.le_of_ble_eq_true rfl) rfl dX3_readDraught_12 ?_
  refine r_sg (wr_wr _ _ _ _ _) ?_
  have hle12 : sgN ty (k + 1) 4 ≤ K := sgN_le hT (by omega) (by decide)
  refine r_istore_n (pc := 15) C dX3_readDraught_15 rfl (by decide) [1, 2, 0] (lv' := [(0, .ref (gA g 26)), (1, .ref (gA g 8)), (2, .int (iI (b01 (ty (k + 1) = 4))))]) rfl ?_
  refine r_aload_n (pc := 16) C dX3_readDraught_16 rfl 0 rfl ?_
  refine r_iconst (pc := 17) C dX3_readDraught_17 ?_
  refine r_cVi (pc := 18) C (c_takeN g ty vl K (sgN ty (k + 1) 4) hT (by omega) 3 ⟨by decide, by decide⟩ (wr σ 26 4 ((sgN ty (k + 1) 4 : Nat) : Int)) (wr_s2 _ _ _ _) ((wr_n _ _ _ (by decide)).trans h27) ((wr_n _ _ _ (by decide)).trans h29)) yX3_takeNumber_w O_26 rfl rfl t_678 ⟨by decide, by decide⟩ (Nat.le_of_ble_eq_true rfl) rfl dX3_readDraught_18 ?_
  refine r_sg (wr_wr _ _ _ _ _) ?_
  have hle18 : (tkN ty vl (sgN ty (k + 1) 4) 3).2 ≤ K := tkN_le hT (by omega)
  have hva18 := tkN_v hT (k := (sgN ty (k + 1) 4)) (m := 3) (by omega) (by omega)
  refine r_istore_n (pc := 21) C dX3_readDraught_21 rfl (by decide) [1, 2, 3, 0] (lv' := [(0, .ref (gA g 26)), (1, .ref (gA g 8)), (2, .int (iI (b01 (ty (k + 1) = 4)))), (3, .int (iI ((tkN ty vl (sgN ty (k + 1) 4) 3).1)))]) rfl ?_
  refine r_iload_n (pc := 22) C dX3_readDraught_22 rfl 3 rfl ?_
  refine r_iconst (pc := 23) C dX3_readDraught_23 ?_
  refine r_icmp_ne (pc := 24) C 29 ⟨by omega, by omega⟩ ⟨by omega, by omega⟩ dX3_readDraught_24 (by decide) (fun h24 => ?_) (fun h24 => ?_)
  · skip
    refine r_aload_n (pc := 29) C dX3_readDraught_29 rfl 1 rfl ?_
    refine r_iload_n (pc := 30) C dX3_readDraught_30 rfl 2 rfl ?_
    refine r_ifz_eq (pc := 31) C 39 dX3_readDraught_31 (by decide) (fun h31 => ?_) (fun h31 => ?_)
    · skip
      refine r_iload_n (pc := 39) C dX3_readDraught_39 rfl 3 rfl ?_
      refine r_put0 (pc := 40) C 9 rfl O_8 (by decide) rfl t_127 rfl (by decide +kernel) dX3_readDraught_40 ?_
      refine r_iconst (pc := 43) C dX3_readDraught_43 ?_
      exact r_retz (pc := 44) C (Or.inr rfl) (b01_1 (by unfold itW; (first | rw [if_pos (by omega)] | rw [if_neg (by omega)]))) (by unfold itW; (first | rw [if_pos (by omega)] | rw [if_neg (by omega)]); (first | rw [if_pos (by assumption)] | rw [if_neg (by assumption)]); exact wr_cm _ _ _ _ _ (by decide)) dX3_readDraught_44
    · skip
      refine r_iload_n (pc := 34) C dX3_readDraught_34 rfl 3 rfl ?_
      refine r_ineg (pc := 35) C dX3_readDraught_35 ?_
      refine r_goto (pc := 36) C 40 dX3_readDraught_36 (by decide) ?_
      refine r_put0 (pc := 40) C 9 rfl O_8 (by decide) rfl t_127 rfl (by decide +kernel) dX3_readDraught_40 ?_
      refine r_iconst (pc := 43) C dX3_readDraught_43 ?_
      exact r_retz (pc := 44) C (Or.inr rfl) (b01_1 (by unfold itW; (first | rw [if_pos (by omega)] | rw [if_neg (by omega)]))) (by unfold itW; (first | rw [if_pos (by omega)] | rw [if_neg (by omega)]); (first | rw [if_pos (by assumption)] | rw [if_neg (by assumption)]); exact wr_cm _ _ _ _ _ (by decide)) dX3_readDraught_44
  · skip
    refine r_iconst (pc := 27) C dX3_readDraught_27 ?_
    exact r_retz (pc := 28) C (Or.inl rfl) (b01_0 (by unfold itW; (first | rw [if_pos (by omega)] | rw [if_neg (by omega)]); exact Bool.false_ne_true)) (by unfold itW; (first | rw [if_pos (by omega)] | rw [if_neg (by omega)])) dX3_readDraught_28
