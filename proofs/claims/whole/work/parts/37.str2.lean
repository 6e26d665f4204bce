theorem nar_c {a : Int} (h : 0 ≤ a ∧ a ≤ 255) : narrow .char (.int (iI a)) = .int (iI a) := by
  have h1 : ∀ b, b < 256 → narrow .char (.int (iI ((b : Nat) : Int))) = .int (iI ((b : Nat) : Int)) := by decide +kernel
  have h2 := h1 a.toNat (by omega)
  rw [show ((a.toNat : Nat) : Int) = a by omega] at h2
  exact h2
theorem bshr_0 {a : Int} (h : 0 ≤ a ∧ a ≤ 255) : bshr a 0 = a := by
  have h1 : ∀ b, b < 256 → bshr ((b : Nat) : Int) 0 = ((b : Nat) : Int) := by decide +kernel
  have h2 := h1 a.toNat (by omega)
  rw [show ((a.toNat : Nat) : Int) = a by omega] at h2
  exact h2
set_option maxHeartbeats 4000000 in
set_option maxRecDepth 100000 in
theorem c_coder (g : Gt) (q : Nat) (hq : q < 14) (σ : Sg) : Mt g yJ0_coder_7d493 cJ0_coder_7d493 1 (some FieldType.byte) 0 [.ref (gK g q)] σ (pI 0 σ) := by
  refine mt_ofF (own := RJ0) (by decide +kernel) rfl (Nat.le_of_ble_eq_true rfl) (fun E C => ?_)
  show J g E (pI 0 σ) 1 0 [(0, .ref (gK g q))] [] σ
  refine r_getsC (pc := 0) C t_613 dJ0_coder_7d493_0 ?_
  refine r_if_eq (pc := 3) C 13 ⟨by omega, by omega⟩ dJ0_coder_7d493_3 (by decide) (fun h3 => ?_) (fun h3 => ?_)
  · skip
    omega
  · skip
    refine r_aload_n (pc := 6) C dJ0_coder_7d493_6 rfl 0 rfl ?_
    refine r_strC (pc := 7) C hq t_1314 dJ0_coder_7d493_7 ?_
    refine r_goto (pc := 10) C 14 dJ0_coder_7d493_10 (by decide) ?_
    exact r_nret (rfl) (pc := 14) C ⟨rfl, rfl⟩ dJ0_coder_7d493_14
set_option maxHeartbeats 4000000 in
set_option maxRecDepth 100000 in
theorem c_isLatin1 (g : Gt) (q : Nat) (hq : q < 14) (σ : Sg) : Mt g yJ0_isLatin1_aae02 cJ0_isLatin1_aae02 1 (some FieldType.boolean) 0 [.ref (gK g q)] σ (pI 1 σ) := by
  refine mt_ofF (own := RJ0) (by decide +kernel) rfl (Nat.le_of_ble_eq_true rfl) (fun E C => ?_)
  show J g E (pI 1 σ) 1 0 [(0, .ref (gK g q))] [] σ
  refine r_getsC (pc := 0) C t_613 dJ0_isLatin1_aae02_0 ?_
  refine r_if_eq (pc := 3) C 17 ⟨by omega, by omega⟩ dJ0_isLatin1_aae02_3 (by decide) (fun h3 => ?_) (fun h3 => ?_)
  · skip
    omega
  · skip
    refine r_aload_n (pc := 6) C dJ0_isLatin1_aae02_6 rfl 0 rfl ?_
    refine r_strC (pc := 7) C hq t_1314 dJ0_isLatin1_aae02_7 ?_
    refine r_if_ne (pc := 10) C 17 ⟨by omega, by omega⟩ dJ0_isLatin1_aae02_10 (by decide) (fun h10 => ?_) (fun h10 => ?_)
    · skip
      omega
    · skip
      refine r_iconst (pc := 13) C dJ0_isLatin1_aae02_13 ?_
      refine r_goto (pc := 14) C 18 dJ0_isLatin1_aae02_14 (by decide) ?_
      exact r_retz (pc := 18) C (Or.inr rfl) rfl rfl dJ0_isLatin1_aae02_18
set_option maxHeartbeats 4000000 in
set_option maxRecDepth 100000 in
theorem c_slength (g : Gt) (q : Nat) (hq : q < 14) (σ : Sg) : Mt g yJ0_length_8abf5 cJ0_length_8abf5 1 (some FieldType.int) 1 [.ref (gK g q)] σ (pI ((sln q : Nat) : Int) σ) := by
  have hs := sln_lt hq
  refine mt_ofF (own := RJ0) (by decide +kernel) rfl (Nat.le_of_ble_eq_true rfl) (fun E C => ?_)
  show J g E (pI ((sln q : Nat) : Int) σ) 1 0 [(0, .ref (gK g q))] [] σ
  refine r_aload_n (pc := 0) C dJ0_length_8abf5_0 rfl 0 rfl ?_
  refine r_strV (pc := 1) C hq t_1313 dJ0_length_8abf5_1 ?_
  refine r_alenV (pc := 4) C hq dJ0_length_8abf5_4 ?_
  refine r_aload_n (pc := 5) C dJ0_length_8abf5_5 rfl 0 rfl ?_
  refine r_cTi (pc := 6) C hq (c_coder g q hq σ) yJ0_coder_7d493_w rfl t_609 ⟨by decide, by decide⟩ (Nat.le_of_ble_eq_true rfl) rfl dJ0_length_8abf5_6 ?_
  refine r_ishr (pc := 9) C dJ0_length_8abf5_9 ?_
  exact r_reti (pc := 10) C (bshr_0 (by exact ⟨by omega, by omega⟩)) (rfl) dJ0_length_8abf5_10
set_option maxHeartbeats 4000000 in
set_option maxRecDepth 100000 in
theorem c_pre_n (g : Gt) (a b : Int) (ha : 0 ≤ a ∧ a < b) (hb : b ≤ 1000) (σ : Sg) : Mt g yJ3_checkIndex_8e157 cJ3_checkIndex_8e157 3 (some FieldType.int) 0 [.int (iI (a)), .int (iI (b)), .null] σ (pI a σ) := by
  refine mt_ofF (own := RJ3) (by decide +kernel) rfl (Nat.le_of_ble_eq_true rfl) (fun E C => ?_)
  show J g E (pI a σ) 3 0 [(0, .int (iI (a))), (1, .int (iI (b))), (2, .null)] [] σ
  refine r_iload_n (pc := 0) C dJ3_checkIndex_8e157_0 rfl 0 rfl ?_
  refine r_if_lt (pc := 1) C 9 ⟨by omega, by omega⟩ dJ3_checkIndex_8e157_1 (by decide) (fun h1 => ?_) (fun h1 => ?_)
  · skip
    omega
  · skip
    refine r_iload_n (pc := 4) C dJ3_checkIndex_8e157_4 rfl 0 rfl ?_
    refine r_iload_n (pc := 5) C dJ3_checkIndex_8e157_5 rfl 1 rfl ?_
    refine r_icmp_lt (pc := 6) C 16 ⟨by omega, by omega⟩ ⟨by omega, by omega⟩ dJ3_checkIndex_8e157_6 (by decide) (fun h6 => ?_) (fun h6 => ?_)
    · skip
      refine r_iload_n (pc := 16) C dJ3_checkIndex_8e157_16 rfl 0 rfl ?_
      exact r_reti (pc := 17) C (rfl) (rfl) dJ3_checkIndex_8e157_17
    · skip
      omega
set_option maxHeartbeats 4000000 in
set_option maxRecDepth 100000 in
theorem c_pre_r (g : Gt) (a b : Int) (ha : 0 ≤ a ∧ a < b) (hb : b ≤ 1000) (t : Nat) (σ : Sg) : Mt g yJ3_checkIndex_8e157 cJ3_checkIndex_8e157 3 (some FieldType.int) 0 [.int (iI (a)), .int (iI (b)), .ref t] σ (pI a σ) := by
  refine mt_ofF (own := RJ3) (by decide +kernel) rfl (Nat.le_of_ble_eq_true rfl) (fun E C => ?_)
  show J g E (pI a σ) 3 0 [(0, .int (iI (a))), (1, .int (iI (b))), (2, .ref t)] [] σ
  refine r_iload_n (pc := 0) C dJ3_checkIndex_8e157_0 rfl 0 rfl ?_
  refine r_if_lt (pc := 1) C 9 ⟨by omega, by omega⟩ dJ3_checkIndex_8e157_1 (by decide) (fun h1 => ?_) (fun h1 => ?_)
  · skip
    omega
  · skip
    refine r_iload_n (pc := 4) C dJ3_checkIndex_8e157_4 rfl 0 rfl ?_
    refine r_iload_n (pc := 5) C dJ3_checkIndex_8e157_5 rfl 1 rfl ?_
    refine r_icmp_lt (pc := 6) C 16 ⟨by omega, by omega⟩ ⟨by omega, by omega⟩ dJ3_checkIndex_8e157_6 (by decide) (fun h6 => ?_) (fun h6 => ?_)
    · skip
      refine r_iload_n (pc := 16) C dJ3_checkIndex_8e157_16 rfl 0 rfl ?_
      exact r_reti (pc := 17) C (rfl) (rfl) dJ3_checkIndex_8e157_17
    · skip
      omega
set_option maxHeartbeats 4000000 in
set_option maxRecDepth 100000 in
theorem c_scheck (g : Gt) (a b : Int) (ha : 0 ≤ a ∧ a < b) (hb : b ≤ 1000) (σ : Sg) : Mt g yJ0_checkIndex_df160 cJ0_checkIndex_df160 2 none 1 [.int (iI (a)), .int (iI (b))] σ (pV σ) := by
  refine mt_ofF (own := RJ0) (by decide +kernel) rfl (Nat.le_of_ble_eq_true rfl) (fun E C => ?_)
  show J g E (pV σ) 2 0 [(0, .int (iI (a))), (1, .int (iI (b)))] [] σ
  refine r_iload_n (pc := 0) C dJ0_checkIndex_df160_0 rfl 0 rfl ?_
  refine r_iload_n (pc := 1) C dJ0_checkIndex_df160_1 rfl 1 rfl ?_
  refine r_getsF (pc := 2) C t_629 dJ0_checkIndex_df160_2 ?_ (fun t_ => ?_)
  · skip
    refine r_cSi (pc := 5) C (c_pre_n g a b (by omega) (by omega) σ) yJ3_checkIndex_8e157_w rfl t_631 ⟨by decide, by decide⟩ (Nat.le_of_ble_eq_true rfl) rfl dJ0_checkIndex_df160_5 ?_
    refine r_pop (pc := 8) C rfl dJ0_checkIndex_df160_8 ?_
    exact r_retv (pc := 9) C (rfl) dJ0_checkIndex_df160_9
  · skip
    refine r_cSi (pc := 5) C (c_pre_r g a b (by omega) (by omega) t_ σ) yJ3_checkIndex_8e157_w rfl t_631 ⟨by decide, by decide⟩ (Nat.le_of_ble_eq_true rfl) rfl dJ0_checkIndex_df160_5 ?_
    refine r_pop (pc := 8) C rfl dJ0_checkIndex_df160_8 ?_
    exact r_retv (pc := 9) C (rfl) dJ0_checkIndex_df160_9
set_option maxHeartbeats 4000000 in
set_option maxRecDepth 100000 in
theorem c_lchar (g : Gt) (q : Nat) (hq : q < 14) (j : Nat) (hj : j < sln q) (σ : Sg) : Mt g yJ1_charAt_3b067 cJ1_charAt_3b067 2 (some FieldType.char) 2 [.ref (gV g q), .int (iI ((j : Int)))] σ (pI (sby q j) σ) := by
  have hs := sln_lt hq
  have hb := sby_rng hq hj
  refine mt_ofF (own := RJ1) (by decide +kernel) rfl (Nat.le_of_ble_eq_true rfl) (fun E C => ?_)
  show J g E (pI (sby q j) σ) 2 0 [(0, .ref (gV g q)), (1, .int (iI ((j : Int))))] [] σ
  refine r_iload_n (pc := 0) C dJ1_charAt_3b067_0 rfl 1 rfl ?_
  refine r_aload_n (pc := 1) C dJ1_charAt_3b067_1 rfl 0 rfl ?_
  refine r_alenV (pc := 2) C hq dJ1_charAt_3b067_2 ?_
  refine r_cSv (pc := 3) C (c_scheck g (j : Int) ((sln q : Nat) : Int) (by omega) (by omega) σ) yJ0_checkIndex_df160_w rfl t_626 ⟨by decide, by decide⟩ (Nat.le_of_ble_eq_true rfl) rfl dJ1_charAt_3b067_3 ?_
  refine r_aload_n (pc := 6) C dJ1_charAt_3b067_6 rfl 0 rfl ?_
  refine r_iload_n (pc := 7) C dJ1_charAt_3b067_7 rfl 1 rfl ?_
  refine r_baldV (pc := 8) C j hq (by omega) (by omega) dJ1_charAt_3b067_8 ?_
  refine r_sipush (pc := 9) C dJ1_charAt_3b067_9 (by decide) ?_
  refine r_iand (pc := 12) C dJ1_charAt_3b067_12 ?_
  refine r_top (show _ = sby q j from band_255 (by omega)) ?_
  skip
  refine r_i2c (pc := 13) C (by omega) dJ1_charAt_3b067_13 ?_
  exact r_nret (nar_c (by omega)) (pc := 14) C ⟨rfl, rfl⟩ dJ1_charAt_3b067_14
set_option maxHeartbeats 4000000 in
set_option maxRecDepth 100000 in
theorem c_schar (g : Gt) (q : Nat) (hq : q < 14) (j : Nat) (hj : j < sln q) (σ : Sg) : Mt g yJ0_charAt_5068e cJ0_charAt_5068e 2 (some FieldType.char) 3 [.ref (gK g q), .int (iI ((j : Int)))] σ (pI (sby q j) σ) := by
  have hb := sby_rng hq hj
  refine mt_ofF (own := RJ0) (by decide +kernel) rfl (Nat.le_of_ble_eq_true rfl) (fun E C => ?_)
  show J g E (pI (sby q j) σ) 2 0 [(0, .ref (gK g q)), (1, .int (iI ((j : Int))))] [] σ
  refine r_aload_n (pc := 0) C dJ0_charAt_5068e_0 rfl 0 rfl ?_
  refine r_cTi (pc := 1) C hq (c_isLatin1 g q hq σ) yJ0_isLatin1_aae02_w rfl t_619 ⟨by decide, by decide⟩ (Nat.le_of_ble_eq_true rfl) rfl dJ0_charAt_5068e_1 ?_
  refine r_if_eq (pc := 4) C 16 ⟨by omega, by omega⟩ dJ0_charAt_5068e_4 (by decide) (fun h4 => ?_) (fun h4 => ?_)
  · skip
    omega
  · skip
    refine r_aload_n (pc := 7) C dJ0_charAt_5068e_7 rfl 0 rfl ?_
    refine r_strV (pc := 8) C hq t_1313 dJ0_charAt_5068e_8 ?_
    refine r_iload_n (pc := 11) C dJ0_charAt_5068e_11 rfl 1 rfl ?_
    refine r_cSi (pc := 12) C (c_lchar g q hq j (by omega) σ) yJ1_charAt_3b067_w rfl t_623 ⟨by decide, by decide⟩ (Nat.le_of_ble_eq_true rfl) rfl dJ0_charAt_5068e_12 ?_
    exact r_nret (nar_c (by omega)) (pc := 15) C ⟨rfl, rfl⟩ dJ0_charAt_5068e_15
