theorem spot_up2 {P : Nat → Int} {n : Int} (h : ∀ j, j < 10 → -1 ≤ P j ∧ P j < n) : ∀ j, j < 10 → -1 ≤ P j ∧ P j < n + 1 := fun j hj => by
  have := h j hj
  omega
theorem RW_1 {σ : Sg} {D : Nat → Int} (hW : RW σ 0) (h : rgD D) : RW (us σ 1 D) 0 := by
  obtain ⟨h1, h2, h3, h4, h5, h6, h7, h8, h9, h10, h11⟩ := hW
  exact ⟨h1, h2, h3, h4, h5, h, h7, h8, h9, h10, h11⟩
theorem RW_3 {σ : Sg} {D : Nat → Int} (hW : RW σ 0) (h : rgK D) : RW (us σ 3 D) 0 := by
  obtain ⟨h1, h2, h3, h4, h5, h6, h7, h8, h9, h10, h11⟩ := hW
  exact ⟨h1, h2, h3, h4, h5, h6, h, h8, h9, h10, h11⟩
theorem RW_4 {σ : Sg} {D : Nat → Int} (hW : RW σ 0) (h : rgA D) : RW (us σ 4 D) 0 := by
  obtain ⟨h1, h2, h3, h4, h5, h6, h7, h8, h9, h10, h11⟩ := hW
  exact ⟨h1, h2, h3, h4, h5, h6, h7, h, h9, h10, h11⟩
theorem RW_5 {σ : Sg} {D : Nat → Int} (hW : RW σ 0) (h : rgG D) : RW (us σ 5 D) 0 := by
  obtain ⟨h1, h2, h3, h4, h5, h6, h7, h8, h9, h10, h11⟩ := hW
  exact ⟨h1, h2, h3, h4, h5, h6, h7, h8, h, h10, h11⟩
theorem RW_6 {σ : Sg} {D : Nat → Int} (hW : RW σ 0) (h : rgM D) : RW (us σ 6 D) 0 := by
  obtain ⟨h1, h2, h3, h4, h5, h6, h7, h8, h9, h10, h11⟩ := hW
  exact ⟨h1, h2, h3, h4, h5, h6, h7, h8, h9, h, h11⟩
theorem RW_7 {σ : Sg} {k : Nat} {x : Int} (hW : RW σ 0) (h : -1 ≤ x ∧ x < σ 0 7) : RW (wr σ 7 k x) 0 := by
  obtain ⟨h1, h2, h3, h4, h5, h6, h7, h8, h9, h10, h11⟩ := hW
  refine ⟨h1, h2, h3, h4, h5, h6, h7, h8, h9, h10, fun j hj => ?_⟩
  have := h11 j hj
  show -1 ≤ up (σ 7) k x j ∧ up (σ 7) k x j < σ 0 7
  unfold up
  split <;> omega
theorem RW_08 {σ : Sg} {x : Int} (hW : RW σ 0) (h : 0 ≤ x ∧ x ≤ 99) : RW (wr σ 0 8 x) 0 := by
  obtain ⟨h1, h2, h3, h4, h5, h6, h7, h8, h9, h10, h11⟩ := hW
  exact ⟨h1, h, h3, h4, h5, h6, h7, h8, h9, h10, h11⟩
theorem RW_09 {σ : Sg} {x : Int} (hW : RW σ 0) (h : -3 ≤ x ∧ x ≤ 3) : RW (wr σ 0 9 x) 0 := by
  obtain ⟨h1, h2, h3, h4, h5, h6, h7, h8, h9, h10, h11⟩ := hW
  exact ⟨h1, h2, h, h4, h5, h6, h7, h8, h9, h10, h11⟩
theorem RW_011 {σ : Sg} {x : Int} (hW : RW σ 0) (h : rng x) : RW (wr σ 0 11 x) 0 := by
  obtain ⟨h1, h2, h3, h4, h5, h6, h7, h8, h9, h10, h11⟩ := hW
  exact ⟨h1, h2, h3, h4, h, h6, h7, h8, h9, h10, h11⟩
theorem RW_ad {σ : Sg} {k : Int} {f : Nat} (hW : RW σ 0) (hn : σ 0 7 < 8) (hk : 0 ≤ k ∧ k ≤ 6) (hf : f ≤ 11) : RW (adS_0 k f σ) 0 := by
  obtain ⟨h1, h2, h3, h4, h5, h6, h7, h8, h9, h10, h11⟩ := hW
  refine ⟨(by show 0 ≤ σ 0 7 + 1 ∧ σ 0 7 + 1 ≤ 8; omega), h2, h3, h4, h5, h6, rgK_up h7 hk, rgA_up h8 (by omega), rgG_up h9 (by omega), fun j hj => ?_, spot_up2 h11⟩
  have := h10 j hj
  show 0 ≤ zr (σ 6) _ 12 j ∧ zr (σ 6) _ 12 j ≤ 99
  unfold zr
  split <;> omega
theorem ad0_keep (kd : Int) (f : Nat) (τ : Sg) {c : Nat} (hc : 8 ≤ c) : adS_0 kd f τ c = τ c := by
  unfold adS_0
  rw [wr_n _ _ _ (by omega), us_n _ _ (by omega), wr_n _ _ _ (by omega), wr_n _ _ _ (by omega), wr_n _ _ _ (by omega)]
theorem dy0_keep (σ : Sg) {c : Nat} (hc : 8 ≤ c) : dyS_0 σ c = σ c := by
  unfold dyS_0
  rw [wr_n _ _ _ (by omega)]
  unfold prS_0 lmS_0 setS_0
  simp only [us_n _ _ (show c ≠ 5 by omega), us_n _ _ (show c ≠ 6 by omega), us_n _ _ (show c ≠ 1 by omega), us_n _ _ (show c ≠ 2 by omega)]
theorem ds0_keep (σ : Sg) {c : Nat} (hc : 8 ≤ c) : ∀ n, dsS_0 n σ c = σ c
  | 0 => rfl
  | n + 1 => (dy0_keep _ hc).trans (ds0_keep σ hc n)
theorem sn0_keep (σ : Sg) {c : Nat} (hc : 8 ≤ c) : ∀ n, snS n σ c = σ c
  | 0 => rfl
  | n + 1 => by
    show sn1 (snS n σ) c = σ c
    unfold sn1
    rw [dy0_keep _ hc, us_n _ _ (by omega), wr_n _ _ _ (by omega)]
    exact sn0_keep σ hc n
theorem st_dust (g : Gt) (x v : Int) (h_x : rng x) (h_v : rng v) (σ : Sg) (h : Rel σ) : LStp g yX4_dust cX4_dust 4 1 yX5_dust cX5_dust 3 2 [.int (iI x), .int (iI v)] σ := by
  have hW := h.2.1
  have hn_ := hW.1
  have hd := d_dust g x v h_x h_v σ h.2.1
  have he := fun (s : Sg) (hm : ∀ k, 40 < k → s k = σ k) => e_dust g x v h_x h_v σ s (h.S hm) h.2.1 (h.s6 hm)
  by_cases c1 : 0 ≤ x ∧ x < 12 ∧ 0 ≤ v ∧ v ≤ 9999
  · simp only [if_pos c1] at hd he
    exact stp_C h (fun k hk => wr_n _ _ _ (by omega)) (fun _ _ _ => rfl) (RW_1 hW (rgD_up hW.2.2.2.2.2.1 ⟨c1.2.2.1, c1.2.2.2⟩)) hd he
  · simp only [if_neg c1] at hd he
    exact stp_B 0 h hd he
theorem st_surface (g : Gt) (x w : Int) (h_x : rng x) (h_w : rng w) (σ : Sg) (h : Rel σ) : LStp g yX4_surface cX4_surface 3 2 yX5_surface cX5_surface 4 3 [.int (iI x), .int (iI w)] σ := by
  have hW := h.2.1
  have hn_ := hW.1
  have hd := d_surface g x w h_x h_w σ h.2.1
  have he := fun (s : Sg) (hm : ∀ k, 40 < k → s k = σ k) => e_surface g x w h_x h_w σ s (h.S hm) h.2.1 (h.s6 hm)
  by_cases c2 : 0 ≤ x ∧ x < 12 ∧ 0 ≤ w ∧ w ≤ 3
  · simp only [if_pos c2] at hd he
    exact stp_A h hd he
  · simp only [if_neg c2] at hd he
    exact stp_B 0 h hd he
theorem st_law (g : Gt) (w v : Int) (h_w : rng w) (h_v : rng v) (σ : Sg) (h : Rel σ) : LStp g yX4_law cX4_law 4 1 yX5_law cX5_law 4 1 [.int (iI w), .int (iI v)] σ := by
  have hW := h.2.1
  have hn_ := hW.1
  have hd := d_law g w v h_w h_v σ h.2.1
  have he := fun (s : Sg) (hm : ∀ k, 40 < k → s k = σ k) => e_law g w v h_w h_v σ s (h.S hm) h.2.1 (h.s6 hm)
  by_cases c3 : w = 0 ∧ 0 ≤ v ∧ v ≤ 99
  · simp only [if_pos c3, if_pos (show (w = 0 ∧ 0 ≤ v ∧ v ≤ 99) ∨ (w = 1 ∧ -3 ≤ v ∧ v ≤ 3) by omega)] at hd he
    exact stp_C h (fun k hk => wr_n _ _ _ (by omega)) (fun _ _ _ => rfl) (RW_08 hW c3.2) hd he
  · simp only [if_neg c3] at hd he
    by_cases c4 : w = 1 ∧ -3 ≤ v ∧ v ≤ 3
    · simp only [if_pos c4, if_pos (show (w = 0 ∧ 0 ≤ v ∧ v ≤ 99) ∨ (w = 1 ∧ -3 ≤ v ∧ v ≤ 3) by omega)] at hd he
      exact stp_C h (fun k hk => wr_n _ _ _ (by omega)) (fun _ _ _ => rfl) (RW_09 hW c4.2) hd he
    · simp only [if_neg c4, if_neg (show ¬ ((w = 0 ∧ 0 ≤ v ∧ v ≤ 99) ∨ (w = 1 ∧ -3 ≤ v ∧ v ≤ 3)) by omega)] at hd he
      exact stp_B 0 h hd he
theorem st_tenant (g : Gt) (k x : Int) (h_k : rng k) (h_x : rng x) (σ : Sg) (h : Rel σ) : LStp g yX4_tenant cX4_tenant 3 1 yX5_tenant cX5_tenant 3 2 [.int (iI k), .int (iI x)] σ := by
  have hW := h.2.1
  have hn_ := hW.1
  have hd := d_tenant g k x h_k h_x σ h.2.1
  have he := fun (s : Sg) (hm : ∀ k, 40 < k → s k = σ k) => e_tenant g k x h_k h_x σ s (h.S hm) h.2.1 (h.s6 hm)
  by_cases c5 : (0 ≤ k ∧ k < 7) ∧ 0 ≤ x ∧ x < 12
  · simp only [if_pos c5] at hd he
    by_cases c6 : 8 ≤ σ 0 7
    · simp only [if_pos c6] at hd he
      exact stp_B 1 h hd he
    · simp only [if_neg c6] at hd he
      exact stp_C h (fun k hk => ad0_keep _ _ _ (by omega)) (fun _ _ _ => rfl) (RW_ad hW (by omega) (by omega) (by omega)) hd he
  · simp only [if_neg c5] at hd he
    exact stp_B 0 h hd he
theorem st_of (g : Gt) (x w : Int) (h_x : rng x) (h_w : rng w) (σ : Sg) (h : Rel σ) : LStp g yX4_of cX4_of 3 2 yX5_of cX5_of 3 3 [.int (iI x), .int (iI w)] σ := by
  have hW := h.2.1
  have hn_ := hW.1
  have hd := d_of g x w h_x h_w σ h.2.1
  have he := fun (s : Sg) (hm : ∀ k, 40 < k → s k = σ k) => e_of g x w h_x h_w σ s (h.S hm) h.2.1 (h.s6 hm)
  by_cases c7 : 0 ≤ x ∧ x < σ 0 7 ∧ 0 ≤ w ∧ w ≤ 6
  · simp only [if_pos c7] at hd he
    exact stp_A h hd he
  · simp only [if_neg c7] at hd he
    exact stp_B 0 h hd he
theorem st_mark (g : Gt) (x f : Int) (h_x : rng x) (h_f : rng f) (σ : Sg) (h : Rel σ) : LStp g yX4_mark cX4_mark 3 1 yX5_mark cX5_mark 3 2 [.int (iI x), .int (iI f)] σ := by
  have hW := h.2.1
  have hn_ := hW.1
  have hd := d_mark g x f h_x h_f σ h.2.1
  have he := fun (s : Sg) (hm : ∀ k, 40 < k → s k = σ k) => e_mark g x f h_x h_f σ s (h.S hm) h.2.1 (h.s6 hm)
  by_cases c8 : (0 ≤ x ∧ x < σ 0 7) ∧ 0 ≤ f ∧ f < 12
  · simp only [if_pos c8] at hd he
    exact stp_A h hd he
  · simp only [if_neg c8] at hd he
    exact stp_B 0 h hd he
theorem st_charter (g : Gt) (x f v : Int) (h_x : rng x) (h_f : rng f) (h_v : rng v) (σ : Sg) (h : Rel σ) : LStp g yX4_charter cX4_charter 4 1 yX5_charter cX5_charter 4 2 [.int (iI x), .int (iI f), .int (iI v)] σ := by
  have hW := h.2.1
  have hn_ := hW.1
  have hd := d_charter g x f v h_x h_f h_v σ h.2.1
  have he := fun (s : Sg) (hm : ∀ k, 40 < k → s k = σ k) => e_charter g x f v h_x h_f h_v σ s (h.S hm) h.2.1 (h.s6 hm)
  by_cases c9 : (0 ≤ x ∧ x < σ 0 7) ∧ (0 ≤ f ∧ f < 12) ∧ 0 ≤ v ∧ v ≤ 99
  · simp only [if_pos c9] at hd he
    exact stp_C h (fun k hk => wr_n _ _ _ (by omega)) (fun _ _ _ => rfl) (RW_6 hW (rgM_up hW.2.2.2.2.2.2.2.2.2.1 c9.2.2)) hd he
  · simp only [if_neg c9] at hd he
    exact stp_B 0 h hd he
theorem st_sneeze (g : Gt) (x n : Int) (h_x : rng x) (h_n : rng n) (σ : Sg) (h : Rel σ) : LStp g yX4_sneeze cX4_sneeze 3 2 yX5_sneeze cX5_sneeze 3 2 [.int (iI x), .int (iI n)] σ := by
  have hW := h.2.1
  have hn_ := hW.1
  have hd := d_sneeze g x n h_x h_n σ h.2.1
  have he := fun (s : Sg) (hm : ∀ k, 40 < k → s k = σ k) => e_sneeze g x n h_x h_n σ s (h.S hm) h.2.1 (h.s6 hm)
  by_cases c10 : (0 ≤ x ∧ x < 12) ∧ -11 ≤ n ∧ n ≤ 11
  · simp only [if_pos c10] at hd he
    exact stp_C h (fun k hk => us_n _ _ (by omega)) (fun _ _ _ => rfl) (RW_1 hW (bwD_rng (by omega) hW.2.2.2.2.2.1)) hd he
  · simp only [if_neg c10] at hd he
    exact stp_B 0 h hd he
theorem st_seed (g : Gt) (v : Int) (h_v : rng v) (σ : Sg) (h : Rel σ) : LStp g yX4_seed cX4_seed 3 0 yX5_seed cX5_seed 2 1 [.int (iI v)] σ := by
  have hW := h.2.1
  have hn_ := hW.1
  have hd := d_seed g v h_v σ h.2.1
  have he := fun (s : Sg) (hm : ∀ k, 40 < k → s k = σ k) => e_seed g v h_v σ s (h.S hm) h.2.1
  exact stp_C h (fun k hk => wr_n _ _ _ (by omega)) (fun _ _ _ => rfl) (RW_011 hW h_v) hd he
theorem st_hold (g : Gt) (q x : Int) (h_q : rng q) (h_x : rng x) (σ : Sg) (h : Rel σ) : LStp g yX4_hold cX4_hold 3 1 yX5_hold cX5_hold 3 2 [.int (iI q), .int (iI x)] σ := by
  have hW := h.2.1
  have hn_ := hW.1
  have hd := d_hold g q x h_q h_x σ h.2.1
  have he := fun (s : Sg) (hm : ∀ k, 40 < k → s k = σ k) => e_hold g q x h_q h_x σ s (h.S hm) h.2.1
  by_cases c11 : (0 ≤ q ∧ q < 10) ∧ (x = -1 ∨ (0 ≤ x ∧ x < σ 0 7))
  · simp only [if_pos c11] at hd he
    exact stp_C h (fun k hk => wr_n _ _ _ (by omega)) (fun _ _ _ => rfl) (RW_7 hW (by have := hW.1; omega)) hd he
  · simp only [if_neg c11] at hd he
    exact stp_B 0 h hd he
theorem st_ahead (g : Gt) (x n : Int) (h_x : rng x) (h_n : rng n) (σ : Sg) (h : Rel σ) : LStp g yX4_ahead cX4_ahead 3 4 yX5_ahead cX5_ahead 3 6 [.int (iI x), .int (iI n)] σ := by
  have hW := h.2.1
  have hn_ := hW.1
  have hd := d_ahead g x n h_x h_n σ h.2.1
  have he := fun (s : Sg) (hm : ∀ k, 40 < k → s k = σ k) => e_ahead g x n h_x h_n σ s (h.S hm) h.2.1 (h.s6 hm)
  by_cases c12 : (0 ≤ x ∧ x < 12) ∧ 0 ≤ n ∧ n ≤ 60
  · simp only [if_pos c12] at hd he
    exact stp_A h hd he
  · simp only [if_neg c12] at hd he
    exact stp_B 0 h hd he
theorem st_goods (g : Gt) (x n : Int) (h_x : rng x) (h_n : rng n) (σ : Sg) (h : Rel σ) : LStp g yX4_goods cX4_goods 3 5 yX5_goods cX5_goods 3 7 [.int (iI x), .int (iI n)] σ := by
  have hW := h.2.1
  have hn_ := hW.1
  have hd := d_goods g x n h_x h_n σ h.2.1
  have he := fun (s : Sg) (hm : ∀ k, 40 < k → s k = σ k) => e_goods g x n h_x h_n σ s (h.S hm) h.2.1 (h.s6 hm)
  by_cases c13 : (0 ≤ x ∧ x < σ 0 7) ∧ 0 ≤ n ∧ n ≤ 60
  · simp only [if_pos c13] at hd he
    exact stp_A h hd he
  · simp only [if_neg c13] at hd he
    exact stp_B 0 h hd he
theorem st_holder (g : Gt) (x n : Int) (h_x : rng x) (h_n : rng n) (σ : Sg) (h : Rel σ) : LStp g yX4_holder cX4_holder 3 5 yX5_holder cX5_holder 3 6 [.int (iI x), .int (iI n)] σ := by
  have hW := h.2.1
  have hn_ := hW.1
  have hd := d_holder g x n h_x h_n σ h.2.1
  have he := fun (s : Sg) (hm : ∀ k, 40 < k → s k = σ k) => e_holder g x n h_x h_n σ s (h.S hm) h.2.1 (h.s6 hm)
  by_cases c14 : (0 ≤ x ∧ x < 12) ∧ 0 ≤ n ∧ n ≤ 60
  · simp only [if_pos c14] at hd he
    exact stp_A h hd he
  · simp only [if_neg c14] at hd he
    exact stp_B 0 h hd he
theorem st_seat (g : Gt) (x n : Int) (h_x : rng x) (h_n : rng n) (σ : Sg) (h : Rel σ) : LStp g yX4_seat cX4_seat 3 6 yX5_seat cX5_seat 3 8 [.int (iI x), .int (iI n)] σ := by
  have hW := h.2.1
  have hn_ := hW.1
  have hd := d_seat g x n h_x h_n σ h.2.1
  have he := fun (s : Sg) (hm : ∀ k, 40 < k → s k = σ k) => e_seat g x n h_x h_n σ s (h.S hm) h.2.1 (h.s6 hm)
  by_cases c15 : (0 ≤ x ∧ x < σ 0 7) ∧ 0 ≤ n ∧ n ≤ 40
  · simp only [if_pos c15] at hd he
    exact stp_A h hd he
  · simp only [if_neg c15] at hd he
    exact stp_B 0 h hd he
theorem st_kindFor (g : Gt) (x n : Int) (h_x : rng x) (h_n : rng n) (σ : Sg) (h : Rel σ) : LStp g yX4_kindFor cX4_kindFor 3 6 yX5_kindFor cX5_kindFor 3 8 [.int (iI x), .int (iI n)] σ := by
  have hW := h.2.1
  have hn_ := hW.1
  have hd := d_kindFor g x n h_x h_n σ h.2.1
  have he := fun (s : Sg) (hm : ∀ k, 40 < k → s k = σ k) => e_kindFor g x n h_x h_n σ s (h.S hm) h.2.1 (h.s6 hm)
  by_cases c16 : (0 ≤ x ∧ x < σ 0 7) ∧ 0 ≤ n ∧ n ≤ 40
  · simp only [if_pos c16] at hd he
    exact stp_A h hd he
  · simp only [if_neg c16] at hd he
    exact stp_B 0 h hd he
theorem st_draught (g : Gt) (x n : Int) (h_x : rng x) (h_n : rng n) (σ : Sg) (h : Rel σ) : LStp g yX4_draught cX4_draught 3 6 yX5_draught cX5_draught 3 8 [.int (iI x), .int (iI n)] σ := by
  have hW := h.2.1
  have hn_ := hW.1
  have hd := d_draught g x n h_x h_n σ h.2.1
  have he := fun (s : Sg) (hm : ∀ k, 40 < k → s k = σ k) => e_draught g x n h_x h_n σ s (h.S hm) h.2.1 (h.s6 hm)
  by_cases c17 : (0 ≤ x ∧ x < σ 0 7) ∧ 0 ≤ n ∧ n ≤ 40
  · simp only [if_pos c17] at hd he
    exact stp_A h hd he
  · simp only [if_neg c17] at hd he
    exact stp_B 0 h hd he
theorem st_when (g : Gt) (x f : Int) (h_x : rng x) (h_f : rng f) (σ : Sg) (h : Rel σ) : LStp g yX4_when cX4_when 4 5 yX5_when cX5_when 4 6 [.int (iI x), .int (iI f)] σ := by
  have hW := h.2.1
  have hn_ := hW.1
  have hd := d_when g x f h_x h_f σ h.2.1
  have he := fun (s : Sg) (hm : ∀ k, 40 < k → s k = σ k) => e_when g x f h_x h_f σ s (h.S hm) h.2.1 (h.s6 hm)
  by_cases c18 : (0 ≤ x ∧ x < σ 0 7) ∧ 0 ≤ f ∧ f < 12
  · simp only [if_pos c18] at hd he
    by_cases c19 : firstF (fun i => decide (holder (σ 0 7) (daysC (σ 0 7) (σ 0 8) (σ 0 9) (σ 3) (σ 4) 255 i (σ 1, σ 5, σ 6)).2.2 f.toNat = x)) 61 0 = -1
    · simp only [if_pos c19] at hd he
      exact stp_B 3 h hd he
    · simp only [if_neg c19] at hd he
      exact stp_A h hd he
  · simp only [if_neg c18] at hd he
    exact stp_B 0 h hd he
theorem st_rich (g : Gt) (x v : Int) (h_x : rng x) (h_v : rng v) (σ : Sg) (h : Rel σ) : LStp g yX4_rich cX4_rich 4 5 yX5_rich cX5_rich 4 6 [.int (iI x), .int (iI v)] σ := by
  have hW := h.2.1
  have hn_ := hW.1
  have hd := d_rich g x v h_x h_v σ h.2.1
  have he := fun (s : Sg) (hm : ∀ k, 40 < k → s k = σ k) => e_rich g x v h_x h_v σ s (h.S hm) h.2.1 (h.s6 hm)
  by_cases c20 : (0 ≤ x ∧ x < σ 0 7) ∧ 0 ≤ v ∧ v ≤ 99999
  · simp only [if_pos c20] at hd he
    by_cases c21 : firstF (fun i => decide (v ≤ (daysC (σ 0 7) (σ 0 8) (σ 0 9) (σ 3) (σ 4) 255 i (σ 1, σ 5, σ 6)).2.1 x.toNat)) 61 0 = -1
    · simp only [if_pos c21] at hd he
      exact stp_B 3 h hd he
    · simp only [if_neg c21] at hd he
      exact stp_A h hd he
  · simp only [if_neg c20] at hd he
    exact stp_B 0 h hd he
theorem st_clash (g : Gt) (σ : Sg) (h : Rel σ) : LStp g yX4_clash cX4_clash 2 5 yX5_clash cX5_clash 2 6 [] σ := by
  have hW := h.2.1
  have hn_ := hW.1
  have hd := d_clash g σ h.2.1
  have he := fun (s : Sg) (hm : ∀ k, 40 < k → s k = σ k) => e_clash g σ s (h.S hm) h.2.1 (h.s6 hm)
  by_cases c22 : firstF (fun i => !sameH (σ 0 7) (daysC (σ 0 7) (σ 0 8) (σ 0 9) (σ 3) (σ 4) 255 i (σ 1, σ 5, σ 6)).2.2 (σ 0 7) (σ 6)) 60 1 = -1
  · simp only [if_pos c22] at hd he
    exact stp_B 3 h hd he
  · simp only [if_neg c22] at hd he
    exact stp_A h hd he
theorem st_change (g : Gt) (x w v : Int) (h_x : rng x) (h_w : rng w) (h_v : rng v) (σ : Sg) (h : Rel σ) : LStp g yX4_change cX4_change 4 1 yX5_change cX5_change 5 2 [.int (iI x), .int (iI w), .int (iI v)] σ := by
  have hW := h.2.1
  have hn_ := hW.1
  have hd := d_change g x w v h_x h_w h_v σ h.2.1
  have he := fun (s : Sg) (hm : ∀ k, 40 < k → s k = σ k) => e_change g x w v h_x h_w h_v σ s (h.S hm) h.2.1 (h.s6 hm)
  by_cases c23 : (0 ≤ x ∧ x < σ 0 7) ∧ w = 0 ∧ 0 ≤ v ∧ v < 7
  · simp only [if_pos c23, if_pos (show ((0 ≤ x ∧ x < σ 0 7) ∧ w = 0 ∧ 0 ≤ v ∧ v < 7) ∨ ((0 ≤ x ∧ x < σ 0 7) ∧ w = 1 ∧ 0 ≤ v ∧ v < 12) ∨ ((0 ≤ x ∧ x < σ 0 7) ∧ w = 2 ∧ 0 ≤ v ∧ v ≤ 99999) by omega)] at hd he
    exact stp_C h (fun k hk => wr_n _ _ _ (by omega)) (fun _ _ _ => rfl) (RW_3 hW (rgK_up hW.2.2.2.2.2.2.1 (by omega))) hd he
  · simp only [if_neg c23] at hd he
    by_cases c24 : (0 ≤ x ∧ x < σ 0 7) ∧ w = 1 ∧ 0 ≤ v ∧ v < 12
    · simp only [if_pos c24, if_pos (show ((0 ≤ x ∧ x < σ 0 7) ∧ w = 0 ∧ 0 ≤ v ∧ v < 7) ∨ ((0 ≤ x ∧ x < σ 0 7) ∧ w = 1 ∧ 0 ≤ v ∧ v < 12) ∨ ((0 ≤ x ∧ x < σ 0 7) ∧ w = 2 ∧ 0 ≤ v ∧ v ≤ 99999) by omega)] at hd he
      exact stp_C h (fun k hk => wr_n _ _ _ (by omega)) (fun _ _ _ => rfl) (RW_4 hW (rgA_up hW.2.2.2.2.2.2.2.1 (by omega))) hd he
    · simp only [if_neg c24] at hd he
      by_cases c25 : (0 ≤ x ∧ x < σ 0 7) ∧ w = 2 ∧ 0 ≤ v ∧ v ≤ 99999
      · simp only [if_pos c25, if_pos (show ((0 ≤ x ∧ x < σ 0 7) ∧ w = 0 ∧ 0 ≤ v ∧ v < 7) ∨ ((0 ≤ x ∧ x < σ 0 7) ∧ w = 1 ∧ 0 ≤ v ∧ v < 12) ∨ ((0 ≤ x ∧ x < σ 0 7) ∧ w = 2 ∧ 0 ≤ v ∧ v ≤ 99999) by omega)] at hd he
        exact stp_C h (fun k hk => wr_n _ _ _ (by omega)) (fun _ _ _ => rfl) (RW_5 hW (rgG_up hW.2.2.2.2.2.2.2.2.1 (by omega))) hd he
      · simp only [if_neg c25, if_neg (show ¬ (((0 ≤ x ∧ x < σ 0 7) ∧ w = 0 ∧ 0 ≤ v ∧ v < 7) ∨ ((0 ≤ x ∧ x < σ 0 7) ∧ w = 1 ∧ 0 ≤ v ∧ v < 12) ∨ ((0 ≤ x ∧ x < σ 0 7) ∧ w = 2 ∧ 0 ≤ v ∧ v ≤ 99999)) by omega)] at hd he
        exact stp_B 0 h hd he
theorem st_swap (g : Gt) (x y : Int) (h_x : rng x) (h_y : rng y) (σ : Sg) (h : Rel σ) : LStp g yX4_swap cX4_swap 3 1 yX5_swap cX5_swap 3 3 [.int (iI x), .int (iI y)] σ := by
  have hW := h.2.1
  have hn_ := hW.1
  have hd := d_swap g x y h_x h_y σ h.2.1
  have he := fun (s : Sg) (hm : ∀ k, 40 < k → s k = σ k) => e_swap g x y h_x h_y σ s (h.S hm) h.2.1 (h.s6 hm)
  by_cases c26 : (0 ≤ x ∧ x < σ 0 7) ∧ (0 ≤ y ∧ y < σ 0 7) ∧ ¬ x = y
  · simp only [if_pos c26] at hd he
    by_cases c27 : σ 4 x.toNat = σ 4 y.toNat
    · simp only [if_pos c27, if_pos c27.symm] at hd he
      simp only [swap_same c27] at he
      exact stp_A h hd he
    · simp only [if_neg c27, if_neg (fun q => c27 (Eq.symm q))] at hd he
      exact stp_C h (fun k hk => (wr_n _ _ _ (by omega)).trans (wr_n _ _ _ (by omega))) (fun _ _ _ => rfl) (RW_4 (RW_4 hW (rgA_up hW.2.2.2.2.2.2.2.1 (hW.2.2.2.2.2.2.2.1 _ (by omega)))) (rgA_up (rgA_up hW.2.2.2.2.2.2.2.1 (hW.2.2.2.2.2.2.2.1 _ (by omega))) (hW.2.2.2.2.2.2.2.1 _ (by omega)))) hd he
  · simp only [if_neg c26] at hd he
    exact stp_B 0 h hd he
theorem st_go (g : Gt) (n : Int) (h_n : rng n) (σ : Sg) (h : Rel σ) : LStp g yX4_go cX4_go 2 5 yX5_go cX5_go 2 6 [.int (iI n)] σ := by
  have hW := h.2.1
  have hn_ := hW.1
  have hd := d_go g n h_n σ h.2.1
  have he := fun (s : Sg) (hm : ∀ k, 40 < k → s k = σ k) => e_go g n h_n σ s (h.S hm) h.2.1 (h.s6 hm)
  by_cases c28 : 1 ≤ n ∧ n ≤ 40
  · simp only [if_pos c28] at hd he
    by_cases c29 : 99999 - n < σ 0 10
    · simp only [if_pos c29, if_pos (show 99999 < σ 0 10 + n by omega)] at hd he
      exact stp_B 4 h hd he
    · simp only [if_neg c29, if_neg (show ¬ 99999 < σ 0 10 + n by omega)] at hd he
      have e := dsS_eq (σ := σ) n.toNat (by omega)
      simp only [← e] at he
      exact stp_C h (fun k hk => ds0_keep σ (by omega) _) (fun _ _ _ => rfl) (dsS_RW_0 hW _) hd he
  · simp only [if_neg c28] at hd he
    exact stp_B 0 h hd he
theorem st_sneezes (g : Gt) (n : Int) (h_n : rng n) (σ : Sg) (h : Rel σ) : LStp g yX4_sneezes cX4_sneezes 3 4 yX5_sneezes cX5_sneezes 4 5 [.int (iI n)] σ := by
  have hW := h.2.1
  have hn_ := hW.1
  have hd := d_sneezes g n h_n σ h.2.1
  have he := fun (s : Sg) (hm : ∀ k, 40 < k → s k = σ k) => e_sneezes g n h_n σ s (h.S hm) h.2.1 (h.s6 hm)
  by_cases c30 : 1 ≤ n ∧ n ≤ 20
  · simp only [if_pos c30] at hd he
    by_cases c31 : 99999 - n < σ 0 10
    · simp only [if_pos c31, if_pos (show 99999 < σ 0 10 + n by omega)] at hd he
      exact stp_B 4 h hd he
    · simp only [if_neg c31, if_neg (show ¬ 99999 < σ 0 10 + n by omega)] at hd he
      have e := snS_eq (σ := σ) n.toNat (by omega)
      simp only [← e] at he
      exact stp_C h (fun k hk => sn0_keep σ (by omega) _) (fun _ _ _ => rfl) (snS_RW hW _) hd he
  · simp only [if_neg c30] at hd he
    exact stp_B 0 h hd he
theorem st_now (g : Gt) (w : Int) (h_w : rng w) (σ : Sg) (h : Rel σ) : LStp g yX4_now cX4_now 2 3 yX5_now cX5_now 2 4 [.int (iI w)] σ := by
  have hW := h.2.1
  have hn_ := hW.1
  have hd := d_now g w h_w σ h.2.1
  have he := fun (s : Sg) (hm : ∀ k, 40 < k → s k = σ k) => e_now g w h_w σ s (h.S hm) h.2.1 (h.s6 hm)
  rw [held_is (holder (σ 0 7) (σ 6)) (fun f => (holder_rng _ _ f (by have := hW.1; omega)).1)] at hd
  rw [landless_is hW.1 (σ 6)] at hd
  by_cases c32 : 0 ≤ w ∧ w ≤ 5
  · simp only [if_pos c32] at hd he
    exact stp_A h hd he
  · simp only [if_neg c32] at hd he
    exact stp_B 0 h hd he
theorem st_count (g : Gt) (w : Int) (h_w : rng w) (σ : Sg) (h : Rel σ) : LStp g yX4_count cX4_count 2 3 yX5_count cX5_count 2 4 [.int (iI w)] σ := by
  have hW := h.2.1
  have hn_ := hW.1
  have hd := d_count g w h_w σ h.2.1
  have he := fun (s : Sg) (hm : ∀ k, 40 < k → s k = σ k) => (by have q := e_count g w h_w σ s (h.S hm) h.2.1; rw [show s 41 10 = σ 24 1 from (congrFun (hm 41 (by decide)) 10).trans h.2.2.2.2.1.1.symm] at q; exact q : Mt g yX5_count cX5_count 2 (some FieldType.int) 4 [.ref (gA g 41), .int (iI (w))] s _)
  rw [held_is (holder (σ 0 7) (σ 6)) (fun f => (holder_rng _ _ f (by have := hW.1; omega)).1)] at hd
  by_cases c33 : 0 ≤ w ∧ w ≤ 7
  · simp only [if_pos c33] at hd he
    exact stp_A h hd he
  · simp only [if_neg c33] at hd he
    exact stp_B 0 h hd he
theorem st_status (g : Gt) (w : Int) (h_w : rng w) (σ : Sg) (h : Rel σ) : LStp g yX4_status cX4_status 2 1 yX5_status cX5_status 4 2 [.int (iI w)] σ := by
  have hW := h.2.1
  have hn_ := hW.1
  have hd := d_status g w h_w σ
  have he := fun (s : Sg) (hm : ∀ k, 40 < k → s k = σ k) => (by have q := e_status g w h_w σ s (h.S hm); rw [show s 46 = σ 39 from (hm 46 (by decide)).trans h.2.2.2.2.2.2.1.symm] at q; exact q : Mt g yX5_status cX5_status 4 (some FieldType.int) 2 [.ref (gA g 41), .int (iI (w))] s _)
  by_cases c34 : -1 ≤ w ∧ w ≤ 6
  · simp only [if_pos c34] at hd he
    simp only [status_is _ c34] at he
    exact stp_A h hd he
  · simp only [if_neg c34] at hd he
    exact stp_B 0 h hd he
theorem st_as (g : Gt) (q w : Int) (h_q : rng q) (h_w : rng w) (σ : Sg) (h : Rel σ) : LStp g yX4_as cX4_as 4 2 yX5_as cX5_as 5 2 [.int (iI q), .int (iI w)] σ := by
  have hW := h.2.1
  have hn_ := hW.1
  have hd := d_as g q w h_q h_w σ h.2.1
  have he := fun (s : Sg) (hm : ∀ k, 40 < k → s k = σ k) => e_as g q w h_q h_w σ s (h.S hm) h.2.1
  by_cases c35 : (0 ≤ q ∧ q < 10) ∧ 0 ≤ w ∧ w < 7
  · simp only [if_pos c35] at hd he
    by_cases c36 : 0 ≤ σ 7 q.toNat ∧ σ 7 q.toNat < σ 0 7
    · simp only [if_pos c36] at hd he
      have e := ofM_is (k := σ 3 (σ 7 q.toNat).toNat) (w := w) (hW.2.2.2.2.2.2.1 _ (by omega)) (by omega)
      simp only [e] at he
      by_cases c37 : ofK 7 (σ 3 (σ 7 q.toNat).toNat) w = true
      · simp only [if_pos c37] at hd he
        exact stp_A h hd he
      · simp only [if_neg c37] at hd he
        exact stp_B 2 h hd he
    · simp only [if_neg c36] at hd he
      exact stp_B 5 h hd he
  · simp only [if_neg c35] at hd he
    exact stp_B 0 h hd he
