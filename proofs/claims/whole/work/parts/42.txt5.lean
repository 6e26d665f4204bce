theorem tkN_ge (ty vl : Nat → Int) (k : Nat) (m : Int) : k ≤ (tkN ty vl k m).2 := by
  unfold tkN
  split
  · exact Nat.le_succ k
  · exact Nat.le_refl k
theorem sgN_ge (ty : Nat → Int) (k : Nat) (c : Int) : k ≤ sgN ty k c := by
  unfold sgN
  split
  · exact Nat.le_succ k
  · exact Nat.le_refl k
theorem bhN_ge (ty vl : Nat → Int) (k : Nat) (w m : Int) : k ≤ (bhN ty vl k w m).2 := by
  unfold bhN
  split
  · have := tkN_ge ty vl (k + 1) m
    omega
  · exact Nat.le_refl k
theorem ad8_keep (kd : Int) (f : Nat) (τ : Sg) {c : Nat} (hc : c < 8 ∨ 16 ≤ c) : adS_8 kd f τ c = τ c := by
  unfold adS_8
  rw [wr_n _ _ _ (by omega), us_n _ _ (by omega), wr_n _ _ _ (by omega), wr_n _ _ _ (by omega), wr_n _ _ _ (by omega)]
theorem itm_keep (ty vl : Nat → Int) (k : Nat) (τ : Sg) {c : Nat} (hc : c < 8 ∨ 16 ≤ c) : (itm 8 adS_8 ty vl k τ).2.2 c = τ c := by
  unfold itm
  split
  · unfold itT
    repeat' split
    all_goals (first | rfl | (show wr (wr (adS_8 _ _ τ) 13 _ _) 14 _ _ c = τ c; rw [wr_n _ _ _ (by omega), wr_n _ _ _ (by omega), ad8_keep _ _ _ hc]))
  · split
    · unfold itD
      repeat' split
      all_goals (first | rfl | (show wr τ 9 _ _ c = τ c; rw [wr_n _ _ _ (by omega)]))
    · split
      · unfold itF
        repeat' split
        all_goals (first | rfl | (show wr τ 8 _ _ c = τ c; rw [wr_n _ _ _ (by omega)]))
      · split
        · unfold itW
          repeat' split
          all_goals (first | rfl | (show wr τ 8 _ _ c = τ c; rw [wr_n _ _ _ (by omega)]))
        · rfl
theorem itm_n (ty vl : Nat → Int) (k : Nat) (τ : Sg) (hn : 0 ≤ τ 8 7 ∧ τ 8 7 ≤ 8) : 0 ≤ (itm 8 adS_8 ty vl k τ).2.2 8 7 ∧ (itm 8 adS_8 ty vl k τ).2.2 8 7 ≤ 8 := by
  unfold itm
  split
  · unfold itT
    repeat' split
    all_goals (first | exact hn | (show 0 ≤ τ 8 7 + 1 ∧ τ 8 7 + 1 ≤ 8; omega))
  · split
    · unfold itD
      repeat' split
      all_goals exact hn
    · split
      · unfold itF
        repeat' split
        all_goals exact hn
      · split
        · unfold itW
          repeat' split
          all_goals exact hn
        · exact hn
theorem itm_k {ty vl : Nat → Int} {K k : Nat} (τ : Sg) (h : TkK ty vl K) (hk : k ≤ K) : (itm 8 adS_8 ty vl k τ).2.1 ≤ K ∧ ((itm 8 adS_8 ty vl k τ).1 = true → k + 1 ≤ (itm 8 adS_8 ty vl k τ).2.1) := by
  have h1 : ty k = 1 → k + 1 ≤ K := fun q => (Nat.lt_or_eq_of_le hk).elim (fun e => e) (fun e => by rw [e] at q; have := h.2.1; omega)
  have d1 := tkN_ge ty vl (k + 1) 11
  have d2 := tkN_ge ty vl (tkN ty vl (k + 1) 11).2 9999
  have f1 := tkN_ge ty vl (k + 1) 99
  have w0 := sgN_ge ty (k + 1) 4
  have w1 := tkN_ge ty vl (sgN ty (k + 1) 4) 3
  have t1 := bhN_ge ty vl (k + 1) 10 11
  have t2 := bhN_ge ty vl (bhN ty vl (k + 1) 10 11).2 11 9999
  have t3 := bhN_ge ty vl (bhN ty vl (bhN ty vl (k + 1) 10 11).2 11 9999).2 12 99
  unfold itm
  split
  · rename_i q
    have l0 := h1 q.1
    have l1 := bhN_le (w := 10) (m := 11) h l0
    have l2 := bhN_le (w := 11) (m := 9999) h l1
    have l3 := bhN_le (w := 12) (m := 99) h l2
    unfold itT
    repeat' split
    all_goals (first | exact ⟨hk, fun q => absurd q Bool.false_ne_true⟩ | exact ⟨l1, fun q => absurd q Bool.false_ne_true⟩ | exact ⟨l2, fun q => absurd q Bool.false_ne_true⟩ | exact ⟨l3, fun q => absurd q Bool.false_ne_true⟩ | exact ⟨l3, fun _ => Nat.le_trans t1 (Nat.le_trans t2 t3)⟩)
  · split
    · rename_i q
      have l0 := h1 q.1
      have l1 := tkN_le (m := 11) h l0
      have l2 := tkN_le (m := 9999) h l1
      unfold itD
      repeat' split
      all_goals (first | exact ⟨l1, fun q => absurd q Bool.false_ne_true⟩ | exact ⟨l2, fun q => absurd q Bool.false_ne_true⟩ | exact ⟨l2, fun _ => Nat.le_trans d1 d2⟩)
    · split
      · rename_i q
        have l0 := h1 q.1
        have l1 := tkN_le (m := 99) h l0
        unfold itF
        repeat' split
        all_goals (first | exact ⟨l1, fun q => absurd q Bool.false_ne_true⟩ | exact ⟨l1, fun _ => f1⟩)
      · split
        · rename_i q
          have l0 := h1 q.1
          have l1 := sgN_le (c := 4) h l0 (by decide)
          have l2 := tkN_le (m := 3) h l1
          unfold itW
          repeat' split
          all_goals (first | exact ⟨l2, fun q => absurd q Bool.false_ne_true⟩ | exact ⟨l2, fun _ => Nat.le_trans w0 w1⟩)
        · exact ⟨hk, fun q => absurd q Bool.false_ne_true⟩
/-- the items, one behind the other: the answer, the state -/
def rdC (ty vl st : Nat → Int) : Nat → Nat → Nat → Sg → Int × Sg
  | 0, _, _, s => (0, s)
  | f + 1, n, k, s =>
    if (itm 8 adS_8 ty vl k s).1 = true then
      (if ty (itm 8 adS_8 ty vl k s).2.1 = 3 then rdC ty vl st f (n + 1) ((itm 8 adS_8 ty vl k s).2.1 + 1) (wr (itm 8 adS_8 ty vl k s).2.2 26 4 (((itm 8 adS_8 ty vl k s).2.1 + 1 : Nat) : Int))
       else ((if ty (itm 8 adS_8 ty vl k s).2.1 = 6 then ((n + 1 : Nat) : Int) else -1 - st (itm 8 adS_8 ty vl k s).2.1), wr (itm 8 adS_8 ty vl k s).2.2 26 4 (((itm 8 adS_8 ty vl k s).2.1 : Nat) : Int)))
    else (-1 - st (itm 8 adS_8 ty vl k s).2.1, wr (itm 8 adS_8 ty vl k s).2.2 26 4 (((itm 8 adS_8 ty vl k s).2.1 : Nat) : Int))
theorem rdC_ok {ty vl st : Nat → Int} {f n k : Nat} {s : Sg} (h : (itm 8 adS_8 ty vl k s).1 = true) : rdC ty vl st (f + 1) n k s = if b01 (ty (itm 8 adS_8 ty vl k s).2.1 = 3) = 1 then rdC ty vl st f (n + 1) (sgN ty (itm 8 adS_8 ty vl k s).2.1 3) (wr (itm 8 adS_8 ty vl k s).2.2 26 4 ((sgN ty (itm 8 adS_8 ty vl k s).2.1 3 : Nat) : Int)) else ((if ty (sgN ty (itm 8 adS_8 ty vl k s).2.1 3) = 6 then ((n + 1 : Nat) : Int) else -1 - st (sgN ty (itm 8 adS_8 ty vl k s).2.1 3)), wr (itm 8 adS_8 ty vl k s).2.2 26 4 ((sgN ty (itm 8 adS_8 ty vl k s).2.1 3 : Nat) : Int)) := by
  rw [rdC, if_pos h]
  by_cases q : ty (itm 8 adS_8 ty vl k s).2.1 = 3
  · rw [if_pos q, if_pos (b01_1 q).symm, show sgN ty (itm 8 adS_8 ty vl k s).2.1 3 = (itm 8 adS_8 ty vl k s).2.1 + 1 from if_pos q]
  · rw [if_neg q, if_neg (show ¬ (b01 (ty (itm 8 adS_8 ty vl k s).2.1 = 3) = 1) from fun e => by have e2 := b01_0 q; rw [← e2] at e; exact absurd e (by decide)), show sgN ty (itm 8 adS_8 ty vl k s).2.1 3 = (itm 8 adS_8 ty vl k s).2.1 from if_neg q]
theorem rdC_no {ty vl st : Nat → Int} {f n k : Nat} {s : Sg} (h : ¬ (itm 8 adS_8 ty vl k s).1 = true) : rdC ty vl st (f + 1) n k s = (-1 - st (itm 8 adS_8 ty vl k s).2.1, wr (itm 8 adS_8 ty vl k s).2.2 26 4 (((itm 8 adS_8 ty vl k s).2.1 : Nat) : Int)) := by
  rw [rdC, if_neg h]
theorem wr_26 (σ : Sg) (x : Int) : wr σ 26 4 x 26 3 = σ 26 3 := rfl
set_option maxHeartbeats 4000000 in
set_option maxRecDepth 100000 in
theorem c_readInto (g : Gt) (ty vl st : Nat → Int) (K : Nat) (hT : TkK ty vl K) (σ : Sg) (h : σ 26 4 = ((0 : Nat) : Int)) (h27 : σ 27 = ty) (h29 : σ 29 = vl) (h28 : σ 28 = st) (h3 : σ 26 3 = (K : Int) + 1) (hn : 0 ≤ σ 8 7 ∧ σ 8 7 ≤ 8) : Mt g yX3_readInto cX3_readInto 4 (some FieldType.int) 4 [.ref (gA g 26), .ref (gA g 8)] σ (pI ((rdC ty vl st 121 0 0 σ).1) ((rdC ty vl st 121 0 0 σ).2)) := by
  refine mt_of (own := RX3) (by decide) rfl (Nat.le_of_ble_eq_true rfl) (fun E C => ?_)
  show J g E (pI ((rdC ty vl st 121 0 0 σ).1) ((rdC ty vl st 121 0 0 σ).2)) 4 0 [(0, .ref (gA g 26)), (1, .ref (gA g 8))] [] σ
  refine r_iconst (pc := 0) C dX3_readInto_0 ?_
  refine r_istore_n (pc := 1) C dX3_readInto_1 rfl (by decide) [1, 2, 0] (lv' := [(0, .ref (gA g 26)), (1, .ref (gA g 8)), (2, .int (iI (0)))]) rfl ?_
  refine r_iconst (pc := 2) C dX3_readInto_2 ?_
  refine r_istore_n (pc := 3) C dX3_readInto_3 rfl (by decide) [1, 2, 3, 0] (lv' := [(0, .ref (gA g 26)), (1, .ref (gA g 8)), (2, .int (iI (0))), (3, .int (iI (1)))]) rfl ?_
  have L4 : ∀ (n_ : Nat) (n : Nat) (k : Nat) (mo : Int) (x4_2 : Int) (s4 : Sg), 121 - n < n_ → ((k ≤ K ∧ n ≤ k) ∧ (mo = 0 ∨ mo = 1)) → (s4 26 4 = (k : Int)) → (s4 27 = ty) → (s4 29 = vl) → (s4 28 = st) → (s4 26 3 = (K : Int) + 1) → (0 ≤ s4 8 7 ∧ s4 8 7 ≤ 8) → (rdC ty vl st 121 0 0 σ = if mo = 1 then rdC ty vl st (121 - n) n k s4 else ((if ty k = 6 then (n : Int) else -1 - st k), s4)) → x4_2 = (n : Int) → J g E (pI ((rdC ty vl st 121 0 0 σ).1) ((rdC ty vl st 121 0 0 σ).2)) 4 4 [(0, .ref (gA g 26)), (1, .ref (gA g 8)), (2, .int (iI (x4_2))), (3, .int (iI (mo)))] [] s4 := by
    intro n_
    induction n_ with
    | zero => intro n k mo x4_2 s4 hm_; exact absurd hm_ (Nat.not_lt_zero _)
    | succ n_ ih4 =>
      intro n k mo x4_2 s4 hm4 hi4_0 hi4_1 hi4_2 hi4_3 hi4_4 hi4_5 hi4_6 hi4_7 e4_0 
      subst e4_0 
      have hK := hT.1
      have htk := hT.2.2.1 k (by omega)
      refine r_iload_n (pc := 4) C dX3_readInto_4 rfl 3 rfl ?_
      refine r_if_eq (pc := 5) C 48 ⟨by omega, by omega⟩ dX3_readInto_5 (by decide) (fun h5 => ?_) (fun h5 => ?_)
      · skip
        refine r_aload_n (pc := 48) C dX3_readInto_48 rfl 0 rfl ?_
        refine r_getR3 (pc := 49) C 0 (k' := 27) rfl O_26 (by decide) rfl t_180 dX3_readInto_49 ?_
        refine r_aload_n (pc := 52) C dX3_readInto_52 rfl 0 rfl ?_
        refine r_getI3 (pc := 53) C 4 rfl O_26 (by decide) rfl t_184 dX3_readInto_53 ?_
        refine r_top (show s4 26 4 = (k : Int) from hi4_1) ?_
        refine r_iald (pc := 56) C k A_27 (by omega) (by omega) dX3_readInto_56 ?_
        refine r_top (show s4 27 k = ty k from congrFun hi4_2 k) ?_
        refine r_bipush (pc := 57) C dX3_readInto_57 (by decide) ?_
        refine r_icmp_ne (pc := 59) C 66 ⟨by omega, by omega⟩ ⟨by omega, by omega⟩ dX3_readInto_59 (by decide) (fun h59 => ?_) (fun h59 => ?_)
        · skip
          refine r_iconst (pc := 66) C dX3_readInto_66 ?_
          refine r_aload_n (pc := 67) C dX3_readInto_67 rfl 0 rfl ?_
          refine r_getR3 (pc := 68) C 1 (k' := 28) rfl O_26 (by decide) rfl t_181 dX3_readInto_68 ?_
          refine r_aload_n (pc := 71) C dX3_readInto_71 rfl 0 rfl ?_
          refine r_getI3 (pc := 72) C 4 rfl O_26 (by decide) rfl t_184 dX3_readInto_72 ?_
          refine r_top (show s4 26 4 = (k : Int) from hi4_1) ?_
          refine r_iald (pc := 75) C k A_28 (by omega) (by omega) dX3_readInto_75 ?_
          refine r_top (show s4 28 k = st k from congrFun hi4_4 k) ?_
          refine r_isub (pc := 76) C dX3_readInto_76 ?_
          exact r_reti (pc := 77) C (by first | (exfalso; omega; done) | (rw [hi4_7, if_neg (by omega)]; show _ = (if ty k = 6 then (n : Int) else -1 - st k); (first | rw [if_pos (by omega)] | rw [if_neg (by omega)]))) (by first | (exfalso; omega; done) | rw [hi4_7, if_neg (by omega)]) dX3_readInto_77
        · skip
          refine r_iload_n (pc := 62) C dX3_readInto_62 rfl 2 rfl ?_
          refine r_goto (pc := 63) C 77 dX3_readInto_63 (by decide) ?_
          exact r_reti (pc := 77) C (by first | (exfalso; omega; done) | (rw [hi4_7, if_neg (by omega)]; show _ = (if ty k = 6 then (n : Int) else -1 - st k); (first | rw [if_pos (by omega)] | rw [if_neg (by omega)]))) (by first | (exfalso; omega; done) | rw [hi4_7, if_neg (by omega)]) dX3_readInto_77
      · skip
        refine r_iload_n (pc := 8) C dX3_readInto_8 rfl 2 rfl ?_
        refine r_aload_n (pc := 9) C dX3_readInto_9 rfl 0 rfl ?_
        refine r_getI3 (pc := 10) C 3 rfl O_26 (by decide) rfl t_183 dX3_readInto_10 ?_
        refine r_top (show s4 26 3 = (K : Int) + 1 from hi4_5) ?_
        refine r_icmp_ge (pc := 13) C 48 ⟨by omega, by omega⟩ ⟨by omega, by omega⟩ dX3_readInto_13 (by decide) (fun h13 => ?_) (fun h13 => ?_)
        · skip
          omega
        · skip
          refine r_aload_n (pc := 16) C dX3_readInto_16 rfl 0 rfl ?_
          refine r_aload_n (pc := 17) C dX3_readInto_17 rfl 1 rfl ?_
          refine r_cVi (pc := 18) C (c_readItem g ty vl K k hT (by omega) s4 hi4_1 hi4_2 hi4_3 hi4_6) yX3_readItem_w O_26 rfl rfl t_665 ⟨by decide, by decide⟩ (Nat.le_of_ble_eq_true rfl) rfl dX3_readInto_18 ?_
          have hik := itm_k s4 hT (k := k) (by omega)
          have hin := itm_n ty vl k s4 hi4_6
          refine r_ifz_ne (pc := 21) C 36 dX3_readInto_21 (by decide) (fun h21 => ?_) (fun h21 => ?_)
          · skip
            refine r_iinc (pc := 36) C dX3_readInto_36 2 rfl (by decide) [1, 2, 0, 3] (lv' := [(0, .ref (gA g 26)), (1, .ref (gA g 8)), (2, .int (iI ((n : Int) + 1))), (3, .int (iI (mo)))]) rfl ?_
            refine r_aload_n (pc := 39) C dX3_readInto_39 rfl 0 rfl ?_
            refine r_iconst (pc := 40) C dX3_readInto_40 ?_
            refine r_cVi (pc := 41) C (c_takes g ty vl K (itm 8 adS_8 ty vl k s4).2.1 hT hik.1 3 ⟨by decide, by decide⟩ (wr (itm 8 adS_8 ty vl k s4).2.2 26 4 (((itm 8 adS_8 ty vl k s4).2.1 : Nat) : Int)) (wr_s2 _ _ _ _) ((wr_n _ _ _ (by decide)).trans ((itm_keep ty vl k s4 (by decide)).trans hi4_2)) ((wr_n _ _ _ (by decide)).trans ((itm_keep ty vl k s4 (by decide)).trans hi4_3))) yX3_takes_w O_26 rfl rfl t_695 ⟨by decide, by decide⟩ (Nat.le_of_ble_eq_true rfl) rfl dX3_readInto_41 ?_
            refine r_sg (wr_wr _ _ _ _ _) ?_
            have hsl := sgN_le (c := 3) hT hik.1 (by decide)
            have hsg := sgN_ge ty (itm 8 adS_8 ty vl k s4).2.1 3
            have hi1 := hik.2 h21
            refine r_istore_n (pc := 44) C dX3_readInto_44 rfl (by decide) [1, 2, 3, 0] (lv' := [(0, .ref (gA g 26)), (1, .ref (gA g 8)), (2, .int (iI ((n : Int) + 1))), (3, .int (iI (b01 (ty (itm 8 adS_8 ty vl k s4).2.1 = 3))))]) rfl ?_
            refine r_goto (pc := 45) C 4 dX3_readInto_45 (by decide) ?_
            exact ih4 (n + 1) (sgN ty (itm 8 adS_8 ty vl k s4).2.1 3) _ _ _ (by omega) (by first | exact ⟨⟨hsl, by omega⟩, b01_or _⟩) (by exact wr_s2 _ _ _ _) (by exact (wr_n _ _ _ (by decide)).trans ((itm_keep ty vl k s4 (by decide)).trans hi4_2)) (by exact (wr_n _ _ _ (by decide)).trans ((itm_keep ty vl k s4 (by decide)).trans hi4_3)) (by exact (wr_n _ _ _ (by decide)).trans ((itm_keep ty vl k s4 (by decide)).trans hi4_4)) (by exact (wr_26 _ _).trans ((congrFun (itm_keep ty vl k s4 (by decide)) 3).trans hi4_5)) (by exact hin) (by rw [hi4_7, if_pos (by omega), show 121 - n = 121 - (n + 1) + 1 by omega, rdC_ok h21]) (by omega)
          · skip
            refine r_iconst (pc := 24) C dX3_readInto_24 ?_
            refine r_aload_n (pc := 25) C dX3_readInto_25 rfl 0 rfl ?_
            refine r_getR3 (pc := 26) C 1 (k' := 28) rfl O_26 (by decide) rfl t_181 dX3_readInto_26 ?_
            refine r_aload_n (pc := 29) C dX3_readInto_29 rfl 0 rfl ?_
            refine r_getI3 (pc := 30) C 4 rfl O_26 (by decide) rfl t_184 dX3_readInto_30 ?_
            refine r_top (wr_s2 _ _ _ _) ?_
            refine r_iald (pc := 33) C ((itm 8 adS_8 ty vl k s4).2.1) A_28 (by omega) (by omega) dX3_readInto_33 ?_
            refine r_top (wr_o2 (k := 26) (k' := 28) _ _ _ _ (by omega)) ?_
            refine r_top (show (itm 8 adS_8 ty vl k s4).2.2 28 ((itm 8 adS_8 ty vl k s4).2.1) = st (itm 8 adS_8 ty vl k s4).2.1 from congrFun ((itm_keep ty vl k s4 (by decide)).trans hi4_4) _) ?_
            refine r_isub (pc := 34) C dX3_readInto_34 ?_
            exact r_reti (pc := 35) C (by rw [hi4_7, if_pos (by omega), show 121 - n = 121 - (n + 1) + 1 by omega, rdC_no h21]) (by rw [hi4_7, if_pos (by omega), show 121 - n = 121 - (n + 1) + 1 by omega, rdC_no h21]) dX3_readInto_35
  exact L4 _ 0 0 1 _ _ (Nat.lt_succ_self _) (by omega) (by exact h) (by exact h27) (by exact h29) (by exact h28) (by exact h3) (by exact hn) (by exact (if_pos rfl).symm) (rfl)
