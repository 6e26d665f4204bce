set_option maxHeartbeats 4000000 in
set_option maxRecDepth 100000 in
theorem c_tryOut_0 (g : Gt) (t : Nat) (ht : t < 8) (c : Int) (σ : Sg) : Mt g yX4_tryOut cX4_tryOut 4 none 2 [.ref (gA g 40), .int (iI ((t : Int))), .int (iI (0)), .int (iI (c))] σ (pV (wr (bc_8_0 σ) 12 t c)) := by
  refine mt_of (own := RX4) (by decide) rfl (Nat.le_of_ble_eq_true rfl) (fun E C => ?_)
  show J g E (pV (wr (bc_8_0 σ) 12 t c)) 4 0 [(0, .ref (gA g 40)), (1, .int (iI ((t : Int)))), (2, .int (iI (0))), (3, .int (iI (c)))] [] σ
  refine r_aload_n (pc := 0) C dX4_tryOut_0 rfl 0 rfl ?_
  refine r_getR4 (pc := 1) C 1 (k' := 8) rfl O_40 (by decide) rfl t_217 dX4_tryOut_1 ?_
  refine r_aload_n (pc := 4) C dX4_tryOut_4 rfl 0 rfl ?_
  refine r_getR4 (pc := 5) C 0 (k' := 0) rfl O_40 (by decide) rfl t_216 dX4_tryOut_5 ?_
  refine r_cVv (pc := 8) C (c_become_8_0 g σ) yX0_become_w O_8 rfl rfl t_421 ⟨by decide, by decide⟩ (Nat.le_of_ble_eq_true rfl) rfl dX4_tryOut_8 ?_
  refine r_iload_n (pc := 11) C dX4_tryOut_11 rfl 2 rfl ?_
  refine r_tabIn (pc := 12) C 0 40 dX4_tryOut_12 rfl ⟨by decide, by decide⟩ (by decide) (by decide) rfl (by decide) ?_
  refine r_aload_n (pc := 40) C dX4_tryOut_40 rfl 0 rfl ?_
  refine r_getR4 (pc := 41) C 1 (k' := 8) rfl O_40 (by decide) rfl t_217 dX4_tryOut_41 ?_
  refine r_getR0 (pc := 44) C 3 (k' := 12) rfl O_8 (by decide) rfl t_110 dX4_tryOut_44 ?_
  refine r_iload_n (pc := 47) C dX4_tryOut_47 rfl 1 rfl ?_
  refine r_iload_n (pc := 48) C dX4_tryOut_48 rfl 3 rfl ?_
  refine r_iast (pc := 49) C t A_12 (by omega) (by omega) dX4_tryOut_49 ?_
  refine r_goto (pc := 50) C 86 dX4_tryOut_50 (by decide) ?_
  exact r_retv (pc := 86) C (rfl) dX4_tryOut_86
set_option maxHeartbeats 4000000 in
set_option maxRecDepth 100000 in
theorem c_tryOut_1 (g : Gt) (t : Nat) (ht : t < 8) (c : Int) (σ : Sg) : Mt g yX4_tryOut cX4_tryOut 4 none 2 [.ref (gA g 40), .int (iI ((t : Int))), .int (iI (1)), .int (iI (c))] σ (pV (wr (bc_8_0 σ) 11 t c)) := by
  refine mt_of (own := RX4) (by decide) rfl (Nat.le_of_ble_eq_true rfl) (fun E C => ?_)
  show J g E (pV (wr (bc_8_0 σ) 11 t c)) 4 0 [(0, .ref (gA g 40)), (1, .int (iI ((t : Int)))), (2, .int (iI (1))), (3, .int (iI (c)))] [] σ
  refine r_aload_n (pc := 0) C dX4_tryOut_0 rfl 0 rfl ?_
  refine r_getR4 (pc := 1) C 1 (k' := 8) rfl O_40 (by decide) rfl t_217 dX4_tryOut_1 ?_
  refine r_aload_n (pc := 4) C dX4_tryOut_4 rfl 0 rfl ?_
  refine r_getR4 (pc := 5) C 0 (k' := 0) rfl O_40 (by decide) rfl t_216 dX4_tryOut_5 ?_
  refine r_cVv (pc := 8) C (c_become_8_0 g σ) yX0_become_w O_8 rfl rfl t_421 ⟨by decide, by decide⟩ (Nat.le_of_ble_eq_true rfl) rfl dX4_tryOut_8 ?_
  refine r_iload_n (pc := 11) C dX4_tryOut_11 rfl 2 rfl ?_
  refine r_tabIn (pc := 12) C 1 53 dX4_tryOut_12 rfl ⟨by decide, by decide⟩ (by decide) (by decide) rfl (by decide) ?_
  refine r_aload_n (pc := 53) C dX4_tryOut_53 rfl 0 rfl ?_
  refine r_getR4 (pc := 54) C 1 (k' := 8) rfl O_40 (by decide) rfl t_217 dX4_tryOut_54 ?_
  refine r_getR0 (pc := 57) C 2 (k' := 11) rfl O_8 (by decide) rfl t_108 dX4_tryOut_57 ?_
  refine r_iload_n (pc := 60) C dX4_tryOut_60 rfl 1 rfl ?_
  refine r_iload_n (pc := 61) C dX4_tryOut_61 rfl 3 rfl ?_
  refine r_iast (pc := 62) C t A_11 (by omega) (by omega) dX4_tryOut_62 ?_
  refine r_goto (pc := 63) C 86 dX4_tryOut_63 (by decide) ?_
  exact r_retv (pc := 86) C (rfl) dX4_tryOut_86
set_option maxHeartbeats 4000000 in
set_option maxRecDepth 100000 in
theorem c_tryOut_2 (g : Gt) (t : Nat) (ht : t < 8) (c : Int) (σ : Sg) : Mt g yX4_tryOut cX4_tryOut 4 none 2 [.ref (gA g 40), .int (iI ((t : Int))), .int (iI (2)), .int (iI (c))] σ (pV (wr (bc_8_0 σ) 8 9 c)) := by
  refine mt_of (own := RX4) (by decide) rfl (Nat.le_of_ble_eq_true rfl) (fun E C => ?_)
  show J g E (pV (wr (bc_8_0 σ) 8 9 c)) 4 0 [(0, .ref (gA g 40)), (1, .int (iI ((t : Int)))), (2, .int (iI (2))), (3, .int (iI (c)))] [] σ
  refine r_aload_n (pc := 0) C dX4_tryOut_0 rfl 0 rfl ?_
  refine r_getR4 (pc := 1) C 1 (k' := 8) rfl O_40 (by decide) rfl t_217 dX4_tryOut_1 ?_
  refine r_aload_n (pc := 4) C dX4_tryOut_4 rfl 0 rfl ?_
  refine r_getR4 (pc := 5) C 0 (k' := 0) rfl O_40 (by decide) rfl t_216 dX4_tryOut_5 ?_
  refine r_cVv (pc := 8) C (c_become_8_0 g σ) yX0_become_w O_8 rfl rfl t_421 ⟨by decide, by decide⟩ (Nat.le_of_ble_eq_true rfl) rfl dX4_tryOut_8 ?_
  refine r_iload_n (pc := 11) C dX4_tryOut_11 rfl 2 rfl ?_
  refine r_tabIn (pc := 12) C 2 66 dX4_tryOut_12 rfl ⟨by decide, by decide⟩ (by decide) (by decide) rfl (by decide) ?_
  refine r_aload_n (pc := 66) C dX4_tryOut_66 rfl 0 rfl ?_
  refine r_getR4 (pc := 67) C 1 (k' := 8) rfl O_40 (by decide) rfl t_217 dX4_tryOut_67 ?_
  refine r_iload_n (pc := 70) C dX4_tryOut_70 rfl 3 rfl ?_
  refine r_put0 (pc := 71) C 9 rfl O_8 (by decide) rfl t_126 rfl (by decide +kernel) dX4_tryOut_71 ?_
  refine r_goto (pc := 74) C 86 dX4_tryOut_74 (by decide) ?_
  exact r_retv (pc := 86) C (rfl) dX4_tryOut_86
set_option maxHeartbeats 4000000 in
set_option maxRecDepth 100000 in
theorem c_tryOut_3 (g : Gt) (t : Nat) (ht : t < 8) (c : Nat) (hc : c < 8) (σ : Sg) : Mt g yX4_tryOut cX4_tryOut 4 none 2 [.ref (gA g 40), .int (iI ((t : Int))), .int (iI (3)), .int (iI ((c : Int)))] σ (pV (wr (wr (bc_8_0 σ) 12 t (bc_8_0 σ 12 c)) 12 c (bc_8_0 σ 12 t))) := by
  refine mt_of (own := RX4) (by decide) rfl (Nat.le_of_ble_eq_true rfl) (fun E C => ?_)
  show J g E (pV (wr (wr (bc_8_0 σ) 12 t (bc_8_0 σ 12 c)) 12 c (bc_8_0 σ 12 t))) 4 0 [(0, .ref (gA g 40)), (1, .int (iI ((t : Int)))), (2, .int (iI (3))), (3, .int (iI ((c : Int))))] [] σ
  refine r_aload_n (pc := 0) C dX4_tryOut_0 rfl 0 rfl ?_
  refine r_getR4 (pc := 1) C 1 (k' := 8) rfl O_40 (by decide) rfl t_217 dX4_tryOut_1 ?_
  refine r_aload_n (pc := 4) C dX4_tryOut_4 rfl 0 rfl ?_
  refine r_getR4 (pc := 5) C 0 (k' := 0) rfl O_40 (by decide) rfl t_216 dX4_tryOut_5 ?_
  refine r_cVv (pc := 8) C (c_become_8_0 g σ) yX0_become_w O_8 rfl rfl t_421 ⟨by decide, by decide⟩ (Nat.le_of_ble_eq_true rfl) rfl dX4_tryOut_8 ?_
  refine r_iload_n (pc := 11) C dX4_tryOut_11 rfl 2 rfl ?_
  refine r_tabOut (pc := 12) C 77 dX4_tryOut_12 ⟨by omega, by omega⟩ (by omega) (by decide) ?_
  refine r_aload_n (pc := 77) C dX4_tryOut_77 rfl 0 rfl ?_
  refine r_getR4 (pc := 78) C 1 (k' := 8) rfl O_40 (by decide) rfl t_217 dX4_tryOut_78 ?_
  refine r_iload_n (pc := 81) C dX4_tryOut_81 rfl 1 rfl ?_
  refine r_iload_n (pc := 82) C dX4_tryOut_82 rfl 3 rfl ?_
  refine r_cVv (pc := 83) C (c_changePlaces_8 g t c (by omega) (by omega) (bc_8_0 σ)) yX0_changePlaces_w O_8 rfl rfl t_332 ⟨by decide, by decide⟩ (Nat.le_of_ble_eq_true rfl) rfl dX4_tryOut_83 ?_
  exact r_retv (pc := 86) C (rfl) dX4_tryOut_86
set_option maxHeartbeats 4000000 in
set_option maxRecDepth 100000 in
theorem c_bestFor_0 (g : Gt) (t n : Nat) (hn : n ≤ 40) (σ : Sg) (hW : RW σ 0) (ht : (t : Int) < σ 0 7) : Mt g yX4_bestFor cX4_bestFor 9 (some FieldType.int) 5 [.ref (gA g 40), .int (iI ((t : Int))), .int (iI ((n : Int))), .int (iI (0)), .int (iI (0)), .int (iI (11))] σ (pT ((bst (vSeat (σ 0 7) (σ 0 8) (σ 0 9) (σ 3) (σ 4) (σ 1, σ 5, σ 6) t n) 0 12).1) σ) := by
  obtain ⟨hn8, hfl, hw, hdy, hz, hD_, hK_, hA_, hG_, hM_, hP_⟩ := id hW
  have hD : rgD (σ 1) := hD_
  have hA : rgA (σ 4) := hA_
  have hG : rgG (σ 5) := hG_
  have hM : rgM (σ 6) := hM_
  have hV : ∀ j : Nat, j < 12 → 0 ≤ (vSeat (σ 0 7) (σ 0 8) (σ 0 9) (σ 3) (σ 4) (σ 1, σ 5, σ 6) t n) (0 + (j : Int)) ∧ (vSeat (σ 0 7) (σ 0 8) (σ 0 9) (σ 3) (σ 4) (σ 1, σ 5, σ 6) t n) (0 + (j : Int)) ≤ 99999 := fun j hj => (daysC_rng (q := (σ 1, σ 5, σ 6)) hn8 hfl (rgA_up hA (by omega)) hD hG hM n).2.1 t (by omega)
  refine mt_of (own := RX4) (by decide) rfl (Nat.le_of_ble_eq_true rfl) (fun E C => ?_)
  show J g E (pT ((bst (vSeat (σ 0 7) (σ 0 8) (σ 0 9) (σ 3) (σ 4) (σ 1, σ 5, σ 6) t n) 0 12).1) σ) 9 0 [(0, .ref (gA g 40)), (1, .int (iI ((t : Int)))), (2, .int (iI ((n : Int)))), (3, .int (iI (0))), (4, .int (iI (0))), (5, .int (iI (11)))] [] σ
  refine r_iload (pc := 0) C dX4_bestFor_0 4 rfl ?_
  refine r_istore (pc := 2) C dX4_bestFor_2 (by decide) [1, 2, 3, 4, 5, 6, 0] (lv' := [(0, .ref (gA g 40)), (1, .int (iI ((t : Int)))), (2, .int (iI ((n : Int)))), (3, .int (iI (0))), (4, .int (iI (0))), (5, .int (iI (11))), (6, .int (iI (0)))]) rfl ?_
  refine r_iconst (pc := 4) C dX4_bestFor_4 ?_
  refine r_istore (pc := 5) C dX4_bestFor_5 (by decide) [1, 2, 3, 4, 5, 6, 7, 0] (lv' := [(0, .ref (gA g 40)), (1, .int (iI ((t : Int)))), (2, .int (iI ((n : Int)))), (3, .int (iI (0))), (4, .int (iI (0))), (5, .int (iI (11))), (6, .int (iI (0))), (7, .int (iI ((-1))))]) rfl ?_
  refine r_iload (pc := 7) C dX4_bestFor_7 4 rfl ?_
  refine r_istore (pc := 9) C dX4_bestFor_9 (by decide) [1, 2, 3, 4, 5, 6, 7, 8, 0] (lv' := [(0, .ref (gA g 40)), (1, .int (iI ((t : Int)))), (2, .int (iI ((n : Int)))), (3, .int (iI (0))), (4, .int (iI (0))), (5, .int (iI (11))), (6, .int (iI (0))), (7, .int (iI ((-1)))), (8, .int (iI (0)))]) rfl ?_
  have L11 : ∀ (n_ : Nat) (i : Nat) (x11_6 x11_7 x11_8 : Int) (s11 : Sg), 12 - i < n_ → (i ≤ 12) → (∀ k, (k < 8 ∨ 16 ≤ k) → s11 k = σ k) → x11_6 = (bst (vSeat (σ 0 7) (σ 0 8) (σ 0 9) (σ 3) (σ 4) (σ 1, σ 5, σ 6) t n) 0 i).1 → x11_7 = (bst (vSeat (σ 0 7) (σ 0 8) (σ 0 9) (σ 3) (σ 4) (σ 1, σ 5, σ 6) t n) 0 i).2 → x11_8 = (0 + (i : Int)) → J g E (pT ((bst (vSeat (σ 0 7) (σ 0 8) (σ 0 9) (σ 3) (σ 4) (σ 1, σ 5, σ 6) t n) 0 12).1) σ) 9 11 [(0, .ref (gA g 40)), (1, .int (iI ((t : Int)))), (2, .int (iI ((n : Int)))), (3, .int (iI (0))), (4, .int (iI (0))), (5, .int (iI (11))), (6, .int (iI (x11_6))), (7, .int (iI (x11_7))), (8, .int (iI (x11_8)))] [] s11 := by
    intro n_
    induction n_ with
    | zero => intro i x11_6 x11_7 x11_8 s11 hm_; exact absurd hm_ (Nat.not_lt_zero _)
    | succ n_ ih11 =>
      intro i x11_6 x11_7 x11_8 s11 hm11 hi11_0 hi11_1 e11_0 e11_1 e11_2 
      subst e11_0 e11_1 e11_2 
      have hb := bst_rng (V := (vSeat (σ 0 7) (σ 0 8) (σ 0 9) (σ 3) (σ 4) (σ 1, σ 5, σ 6) t n)) (a := 0) (m := 99999) (by omega) i (fun j hj => hV j (by omega))
      have hWs := RW_cong hi11_1 hW
      refine r_iload (pc := 11) C dX4_bestFor_11 8 rfl ?_
      refine r_iload (pc := 13) C dX4_bestFor_13 5 rfl ?_
      refine r_icmp_gt (pc := 15) C 83 ⟨by omega, by omega⟩ ⟨by omega, by omega⟩ dX4_bestFor_15 (by decide) (fun h15 => ?_) (fun h15 => ?_)
      · skip
        refine r_iload (pc := 83) C dX4_bestFor_83 6 rfl ?_
        exact r_retT (pc := 85) C (by rw [show i = 12 by omega]) (hi11_1) dX4_bestFor_85
      · skip
        refine r_iload_n (pc := 18) C dX4_bestFor_18 rfl 3 rfl ?_
        refine r_iconst (pc := 19) C dX4_bestFor_19 ?_
        refine r_icmp_ne (pc := 20) C 32 ⟨by omega, by omega⟩ ⟨by omega, by omega⟩ dX4_bestFor_20 (by decide) (fun h20 => ?_) (fun h20 => ?_)
        · skip
          refine r_aload_n (pc := 32) C dX4_bestFor_32 rfl 0 rfl ?_
          refine r_iload_n (pc := 33) C dX4_bestFor_33 rfl 1 rfl ?_
          refine r_iload_n (pc := 34) C dX4_bestFor_34 rfl 3 rfl ?_
          refine r_iload (pc := 35) C dX4_bestFor_35 8 rfl ?_
          have hVi := hV i (by omega)
          have hWd : RW (wr (bc_8_0 s11) 12 t (0 + (i : Int))) 8 := RWt0 (by omega) hWs
          refine r_cVv (pc := 37) C (c_tryOut_0 g t (by omega) (0 + (i : Int)) s11) yX4_tryOut_w O_40 rfl rfl t_465 ⟨by decide, by decide⟩ (Nat.le_of_ble_eq_true rfl) rfl dX4_bestFor_37 ?_
          refine r_aload_n (pc := 40) C dX4_bestFor_40 rfl 0 rfl ?_
          refine r_getR4 (pc := 41) C 1 (k' := 8) rfl O_40 (by decide) rfl t_217 dX4_bestFor_41 ?_
          refine r_iload_n (pc := 44) C dX4_bestFor_44 rfl 2 rfl ?_
          refine r_cVv (pc := 45) C (c_passDays_8 g n (by omega) (wr (bc_8_0 s11) 12 t (0 + (i : Int))) hWd) yX0_passDays_w O_8 rfl rfl t_354 ⟨by decide, by decide⟩ (Nat.le_of_ble_eq_true rfl) rfl dX4_bestFor_45 ?_
          refine r_aload_n (pc := 48) C dX4_bestFor_48 rfl 0 rfl ?_
          refine r_getR4 (pc := 49) C 1 (k' := 8) rfl O_40 (by decide) rfl t_217 dX4_bestFor_49 ?_
          refine r_getR0 (pc := 52) C 4 (k' := 13) rfl O_8 (by decide) rfl t_112 dX4_bestFor_52 ?_
          refine r_iload_n (pc := 55) C dX4_bestFor_55 rfl 1 rfl ?_
          refine r_iald (pc := 56) C t A_13 (by omega) (by omega) dX4_bestFor_56 ?_
          refine r_top (show (dsS_8 n (wr (bc_8_0 s11) 12 t (0 + (i : Int)))) 13 t = (vSeat (σ 0 7) (σ 0 8) (σ 0 9) (σ 3) (σ 4) (σ 1, σ 5, σ 6) t n) (0 + (i : Int)) from (show dsS_8 n (wr (bc_8_0 s11) 12 t (0 + (i : Int))) 13 t = (vSeat (σ 0 7) (σ 0 8) (σ 0 9) (σ 3) (σ 4) (σ 1, σ 5, σ 6) t n) (0 + (i : Int)) by rw [dsS_8_G]; show (daysC (s11 0 7) (s11 0 8) (s11 0 9) (s11 3) (up (s11 4) t (0 + (i : Int))) 255 n (s11 1, s11 5, s11 6)).2.1 t = _; rw [hi11_1 0 (by omega), hi11_1 1 (by omega), hi11_1 3 (by omega), hi11_1 4 (by omega), hi11_1 5 (by omega), hi11_1 6 (by omega)]; rfl)) ?_
          refine r_iload (pc := 57) C dX4_bestFor_57 7 rfl ?_
          refine r_icmp_le (pc := 59) C 77 ⟨by omega, by omega⟩ ⟨by omega, by omega⟩ dX4_bestFor_59 (by decide) (fun h59 => ?_) (fun h59 => ?_)
          · skip
            refine r_iinc (pc := 77) C dX4_bestFor_77 8 rfl (by decide) [1, 2, 3, 4, 5, 6, 7, 8, 0] (lv' := [(0, .ref (gA g 40)), (1, .int (iI ((t : Int)))), (2, .int (iI ((n : Int)))), (3, .int (iI (0))), (4, .int (iI (0))), (5, .int (iI (11))), (6, .int (iI ((bst (vSeat (σ 0 7) (σ 0 8) (σ 0 9) (σ 3) (σ 4) (σ 1, σ 5, σ 6) t n) 0 i).1))), (7, .int (iI ((bst (vSeat (σ 0 7) (σ 0 8) (σ 0 9) (σ 3) (σ 4) (σ 1, σ 5, σ 6) t n) 0 i).2))), (8, .int (iI ((0 + (i : Int)) + 1)))]) rfl ?_
            refine r_goto (pc := 80) C 11 dX4_bestFor_80 (by decide) ?_
            exact ih11 (i + 1) _ _ _ _ (by omega) (by omega) (by first | assumption | exact fun k hk => (tr_ds _ hk _).trans ((tr_wr _ hk (by omega)).trans ((tr_bc _ hk).trans (hi11_1 k hk)))) (by first | (rw [bst, if_pos (by omega)]; done) | (rw [bst, if_neg (by omega)]; done)) (by first | (rw [bst, if_pos (by omega)]; done) | (rw [bst, if_neg (by omega)]; done)) (by omega)
          · skip
            refine r_aload_n (pc := 62) C dX4_bestFor_62 rfl 0 rfl ?_
            refine r_getR4 (pc := 63) C 1 (k' := 8) rfl O_40 (by decide) rfl t_217 dX4_bestFor_63 ?_
            refine r_getR0 (pc := 66) C 4 (k' := 13) rfl O_8 (by decide) rfl t_112 dX4_bestFor_66 ?_
            refine r_iload_n (pc := 69) C dX4_bestFor_69 rfl 1 rfl ?_
            refine r_iald (pc := 70) C t A_13 (by omega) (by omega) dX4_bestFor_70 ?_
            refine r_top (show (dsS_8 n (wr (bc_8_0 s11) 12 t (0 + (i : Int)))) 13 t = (vSeat (σ 0 7) (σ 0 8) (σ 0 9) (σ 3) (σ 4) (σ 1, σ 5, σ 6) t n) (0 + (i : Int)) from (show dsS_8 n (wr (bc_8_0 s11) 12 t (0 + (i : Int))) 13 t = (vSeat (σ 0 7) (σ 0 8) (σ 0 9) (σ 3) (σ 4) (σ 1, σ 5, σ 6) t n) (0 + (i : Int)) by rw [dsS_8_G]; show (daysC (s11 0 7) (s11 0 8) (s11 0 9) (s11 3) (up (s11 4) t (0 + (i : Int))) 255 n (s11 1, s11 5, s11 6)).2.1 t = _; rw [hi11_1 0 (by omega), hi11_1 1 (by omega), hi11_1 3 (by omega), hi11_1 4 (by omega), hi11_1 5 (by omega), hi11_1 6 (by omega)]; rfl)) ?_
            refine r_istore (pc := 71) C dX4_bestFor_71 (by decide) [1, 2, 3, 4, 5, 6, 7, 0, 8] (lv' := [(0, .ref (gA g 40)), (1, .int (iI ((t : Int)))), (2, .int (iI ((n : Int)))), (3, .int (iI (0))), (4, .int (iI (0))), (5, .int (iI (11))), (6, .int (iI ((bst (vSeat (σ 0 7) (σ 0 8) (σ 0 9) (σ 3) (σ 4) (σ 1, σ 5, σ 6) t n) 0 i).1))), (7, .int (iI ((vSeat (σ 0 7) (σ 0 8) (σ 0 9) (σ 3) (σ 4) (σ 1, σ 5, σ 6) t n) (0 + (i : Int))))), (8, .int (iI ((0 + (i : Int)))))]) rfl ?_
            refine r_iload (pc := 73) C dX4_bestFor_73 8 rfl ?_
            refine r_istore (pc := 75) C dX4_bestFor_75 (by decide) [1, 2, 3, 4, 5, 6, 0, 7, 8] (lv' := [(0, .ref (gA g 40)), (1, .int (iI ((t : Int)))), (2, .int (iI ((n : Int)))), (3, .int (iI (0))), (4, .int (iI (0))), (5, .int (iI (11))), (6, .int (iI ((0 + (i : Int))))), (7, .int (iI ((vSeat (σ 0 7) (σ 0 8) (σ 0 9) (σ 3) (σ 4) (σ 1, σ 5, σ 6) t n) (0 + (i : Int))))), (8, .int (iI ((0 + (i : Int)))))]) rfl ?_
            refine r_iinc (pc := 77) C dX4_bestFor_77 8 rfl (by decide) [1, 2, 3, 4, 5, 6, 7, 8, 0] (lv' := [(0, .ref (gA g 40)), (1, .int (iI ((t : Int)))), (2, .int (iI ((n : Int)))), (3, .int (iI (0))), (4, .int (iI (0))), (5, .int (iI (11))), (6, .int (iI ((0 + (i : Int))))), (7, .int (iI ((vSeat (σ 0 7) (σ 0 8) (σ 0 9) (σ 3) (σ 4) (σ 1, σ 5, σ 6) t n) (0 + (i : Int))))), (8, .int (iI ((0 + (i : Int)) + 1)))]) rfl ?_
            refine r_goto (pc := 80) C 11 dX4_bestFor_80 (by decide) ?_
            exact ih11 (i + 1) _ _ _ _ (by omega) (by omega) (by first | assumption | exact fun k hk => (tr_ds _ hk _).trans ((tr_wr _ hk (by omega)).trans ((tr_bc _ hk).trans (hi11_1 k hk)))) (by first | (rw [bst, if_pos (by omega)]; done) | (rw [bst, if_neg (by omega)]; done)) (by first | (rw [bst, if_pos (by omega)]; done) | (rw [bst, if_neg (by omega)]; done)) (by omega)
        · skip
          omega
  exact L11 _ 0 _ _ _ _ (Nat.lt_succ_self _) (by omega) (by exact fun k _ => rfl) (rfl) (rfl) (by omega)
set_option maxHeartbeats 4000000 in
set_option maxRecDepth 100000 in
theorem c_bestFor_1 (g : Gt) (t n : Nat) (hn : n ≤ 40) (σ : Sg) (hW : RW σ 0) (ht : (t : Int) < σ 0 7) : Mt g yX4_bestFor cX4_bestFor 9 (some FieldType.int) 5 [.ref (gA g 40), .int (iI ((t : Int))), .int (iI ((n : Int))), .int (iI (1)), .int (iI (0)), .int (iI (6))] σ (pT ((bst (vKind (σ 0 7) (σ 0 8) (σ 0 9) (σ 3) (σ 4) (σ 1, σ 5, σ 6) t n) 0 7).1) σ) := by
  obtain ⟨hn8, hfl, hw, hdy, hz, hD_, hK_, hA_, hG_, hM_, hP_⟩ := id hW
  have hD : rgD (σ 1) := hD_
  have hA : rgA (σ 4) := hA_
  have hG : rgG (σ 5) := hG_
  have hM : rgM (σ 6) := hM_
  have hV : ∀ j : Nat, j < 7 → 0 ≤ (vKind (σ 0 7) (σ 0 8) (σ 0 9) (σ 3) (σ 4) (σ 1, σ 5, σ 6) t n) (0 + (j : Int)) ∧ (vKind (σ 0 7) (σ 0 8) (σ 0 9) (σ 3) (σ 4) (σ 1, σ 5, σ 6) t n) (0 + (j : Int)) ≤ 99999 := fun j hj => (daysC_rng (q := (σ 1, σ 5, σ 6)) hn8 hfl hA hD hG hM n).2.1 t (by omega)
  refine mt_of (own := RX4) (by decide) rfl (Nat.le_of_ble_eq_true rfl) (fun E C => ?_)
  show J g E (pT ((bst (vKind (σ 0 7) (σ 0 8) (σ 0 9) (σ 3) (σ 4) (σ 1, σ 5, σ 6) t n) 0 7).1) σ) 9 0 [(0, .ref (gA g 40)), (1, .int (iI ((t : Int)))), (2, .int (iI ((n : Int)))), (3, .int (iI (1))), (4, .int (iI (0))), (5, .int (iI (6)))] [] σ
  refine r_iload (pc := 0) C dX4_bestFor_0 4 rfl ?_
  refine r_istore (pc := 2) C dX4_bestFor_2 (by decide) [1, 2, 3, 4, 5, 6, 0] (lv' := [(0, .ref (gA g 40)), (1, .int (iI ((t : Int)))), (2, .int (iI ((n : Int)))), (3, .int (iI (1))), (4, .int (iI (0))), (5, .int (iI (6))), (6, .int (iI (0)))]) rfl ?_
  refine r_iconst (pc := 4) C dX4_bestFor_4 ?_
  refine r_istore (pc := 5) C dX4_bestFor_5 (by decide) [1, 2, 3, 4, 5, 6, 7, 0] (lv' := [(0, .ref (gA g 40)), (1, .int (iI ((t : Int)))), (2, .int (iI ((n : Int)))), (3, .int (iI (1))), (4, .int (iI (0))), (5, .int (iI (6))), (6, .int (iI (0))), (7, .int (iI ((-1))))]) rfl ?_
  refine r_iload (pc := 7) C dX4_bestFor_7 4 rfl ?_
  refine r_istore (pc := 9) C dX4_bestFor_9 (by decide) [1, 2, 3, 4, 5, 6, 7, 8, 0] (lv' := [(0, .ref (gA g 40)), (1, .int (iI ((t : Int)))), (2, .int (iI ((n : Int)))), (3, .int (iI (1))), (4, .int (iI (0))), (5, .int (iI (6))), (6, .int (iI (0))), (7, .int (iI ((-1)))), (8, .int (iI (0)))]) rfl ?_
  have L11 : ∀ (n_ : Nat) (i : Nat) (x11_6 x11_7 x11_8 : Int) (s11 : Sg), 7 - i < n_ → (i ≤ 7) → (∀ k, (k < 8 ∨ 16 ≤ k) → s11 k = σ k) → x11_6 = (bst (vKind (σ 0 7) (σ 0 8) (σ 0 9) (σ 3) (σ 4) (σ 1, σ 5, σ 6) t n) 0 i).1 → x11_7 = (bst (vKind (σ 0 7) (σ 0 8) (σ 0 9) (σ 3) (σ 4) (σ 1, σ 5, σ 6) t n) 0 i).2 → x11_8 = (0 + (i : Int)) → J g E (pT ((bst (vKind (σ 0 7) (σ 0 8) (σ 0 9) (σ 3) (σ 4) (σ 1, σ 5, σ 6) t n) 0 7).1) σ) 9 11 [(0, .ref (gA g 40)), (1, .int (iI ((t : Int)))), (2, .int (iI ((n : Int)))), (3, .int (iI (1))), (4, .int (iI (0))), (5, .int (iI (6))), (6, .int (iI (x11_6))), (7, .int (iI (x11_7))), (8, .int (iI (x11_8)))] [] s11 := by
    intro n_
    induction n_ with
    | zero => intro i x11_6 x11_7 x11_8 s11 hm_; exact absurd hm_ (Nat.not_lt_zero _)
    | succ n_ ih11 =>
      intro i x11_6 x11_7 x11_8 s11 hm11 hi11_0 hi11_1 e11_0 e11_1 e11_2 
      subst e11_0 e11_1 e11_2 
      have hb := bst_rng (V := (vKind (σ 0 7) (σ 0 8) (σ 0 9) (σ 3) (σ 4) (σ 1, σ 5, σ 6) t n)) (a := 0) (m := 99999) (by omega) i (fun j hj => hV j (by omega))
      have hWs := RW_cong hi11_1 hW
      refine r_iload (pc := 11) C dX4_bestFor_11 8 rfl ?_
      refine r_iload (pc := 13) C dX4_bestFor_13 5 rfl ?_
      refine r_icmp_gt (pc := 15) C 83 ⟨by omega, by omega⟩ ⟨by omega, by omega⟩ dX4_bestFor_15 (by decide) (fun h15 => ?_) (fun h15 => ?_)
      · skip
        refine r_iload (pc := 83) C dX4_bestFor_83 6 rfl ?_
        exact r_retT (pc := 85) C (by rw [show i = 7 by omega]) (hi11_1) dX4_bestFor_85
      · skip
        refine r_iload_n (pc := 18) C dX4_bestFor_18 rfl 3 rfl ?_
        refine r_iconst (pc := 19) C dX4_bestFor_19 ?_
        refine r_icmp_ne (pc := 20) C 32 ⟨by omega, by omega⟩ ⟨by omega, by omega⟩ dX4_bestFor_20 (by decide) (fun h20 => ?_) (fun h20 => ?_)
        · skip
          refine r_aload_n (pc := 32) C dX4_bestFor_32 rfl 0 rfl ?_
          refine r_iload_n (pc := 33) C dX4_bestFor_33 rfl 1 rfl ?_
          refine r_iload_n (pc := 34) C dX4_bestFor_34 rfl 3 rfl ?_
          refine r_iload (pc := 35) C dX4_bestFor_35 8 rfl ?_
          have hVi := hV i (by omega)
          have hWd : RW (wr (bc_8_0 s11) 11 t (0 + (i : Int))) 8 := RWt1 (by omega) hWs
          refine r_cVv (pc := 37) C (c_tryOut_1 g t (by omega) (0 + (i : Int)) s11) yX4_tryOut_w O_40 rfl rfl t_465 ⟨by decide, by decide⟩ (Nat.le_of_ble_eq_true rfl) rfl dX4_bestFor_37 ?_
          refine r_aload_n (pc := 40) C dX4_bestFor_40 rfl 0 rfl ?_
          refine r_getR4 (pc := 41) C 1 (k' := 8) rfl O_40 (by decide) rfl t_217 dX4_bestFor_41 ?_
          refine r_iload_n (pc := 44) C dX4_bestFor_44 rfl 2 rfl ?_
          refine r_cVv (pc := 45) C (c_passDays_8 g n (by omega) (wr (bc_8_0 s11) 11 t (0 + (i : Int))) hWd) yX0_passDays_w O_8 rfl rfl t_354 ⟨by decide, by decide⟩ (Nat.le_of_ble_eq_true rfl) rfl dX4_bestFor_45 ?_
          refine r_aload_n (pc := 48) C dX4_bestFor_48 rfl 0 rfl ?_
          refine r_getR4 (pc := 49) C 1 (k' := 8) rfl O_40 (by decide) rfl t_217 dX4_bestFor_49 ?_
          refine r_getR0 (pc := 52) C 4 (k' := 13) rfl O_8 (by decide) rfl t_112 dX4_bestFor_52 ?_
          refine r_iload_n (pc := 55) C dX4_bestFor_55 rfl 1 rfl ?_
          refine r_iald (pc := 56) C t A_13 (by omega) (by omega) dX4_bestFor_56 ?_
          refine r_top (show (dsS_8 n (wr (bc_8_0 s11) 11 t (0 + (i : Int)))) 13 t = (vKind (σ 0 7) (σ 0 8) (σ 0 9) (σ 3) (σ 4) (σ 1, σ 5, σ 6) t n) (0 + (i : Int)) from (show dsS_8 n (wr (bc_8_0 s11) 11 t (0 + (i : Int))) 13 t = (vKind (σ 0 7) (σ 0 8) (σ 0 9) (σ 3) (σ 4) (σ 1, σ 5, σ 6) t n) (0 + (i : Int)) by rw [dsS_8_G]; show (daysC (s11 0 7) (s11 0 8) (s11 0 9) (up (s11 3) t (0 + (i : Int))) (s11 4) 255 n (s11 1, s11 5, s11 6)).2.1 t = _; rw [hi11_1 0 (by omega), hi11_1 1 (by omega), hi11_1 3 (by omega), hi11_1 4 (by omega), hi11_1 5 (by omega), hi11_1 6 (by omega)]; rfl)) ?_
          refine r_iload (pc := 57) C dX4_bestFor_57 7 rfl ?_
          refine r_icmp_le (pc := 59) C 77 ⟨by omega, by omega⟩ ⟨by omega, by omega⟩ dX4_bestFor_59 (by decide) (fun h59 => ?_) (fun h59 => ?_)
          · skip
            refine r_iinc (pc := 77) C dX4_bestFor_77 8 rfl (by decide) [1, 2, 3, 4, 5, 6, 7, 8, 0] (lv' := [(0, .ref (gA g 40)), (1, .int (iI ((t : Int)))), (2, .int (iI ((n : Int)))), (3, .int (iI (1))), (4, .int (iI (0))), (5, .int (iI (6))), (6, .int (iI ((bst (vKind (σ 0 7) (σ 0 8) (σ 0 9) (σ 3) (σ 4) (σ 1, σ 5, σ 6) t n) 0 i).1))), (7, .int (iI ((bst (vKind (σ 0 7) (σ 0 8) (σ 0 9) (σ 3) (σ 4) (σ 1, σ 5, σ 6) t n) 0 i).2))), (8, .int (iI ((0 + (i : Int)) + 1)))]) rfl ?_
            refine r_goto (pc := 80) C 11 dX4_bestFor_80 (by decide) ?_
            exact ih11 (i + 1) _ _ _ _ (by omega) (by omega) (by first | assumption | exact fun k hk => (tr_ds _ hk _).trans ((tr_wr _ hk (by omega)).trans ((tr_bc _ hk).trans (hi11_1 k hk)))) (by first | (rw [bst, if_pos (by omega)]; done) | (rw [bst, if_neg (by omega)]; done)) (by first | (rw [bst, if_pos (by omega)]; done) | (rw [bst, if_neg (by omega)]; done)) (by omega)
          · skip
            refine r_aload_n (pc := 62) C dX4_bestFor_62 rfl 0 rfl ?_
            refine r_getR4 (pc := 63) C 1 (k' := 8) rfl O_40 (by decide) rfl t_217 dX4_bestFor_63 ?_
            refine r_getR0 (pc := 66) C 4 (k' := 13) rfl O_8 (by decide) rfl t_112 dX4_bestFor_66 ?_
            refine r_iload_n (pc := 69) C dX4_bestFor_69 rfl 1 rfl ?_
            refine r_iald (pc := 70) C t A_13 (by omega) (by omega) dX4_bestFor_70 ?_
            refine r_top (show (dsS_8 n (wr (bc_8_0 s11) 11 t (0 + (i : Int)))) 13 t = (vKind (σ 0 7) (σ 0 8) (σ 0 9) (σ 3) (σ 4) (σ 1, σ 5, σ 6) t n) (0 + (i : Int)) from (show dsS_8 n (wr (bc_8_0 s11) 11 t (0 + (i : Int))) 13 t = (vKind (σ 0 7) (σ 0 8) (σ 0 9) (σ 3) (σ 4) (σ 1, σ 5, σ 6) t n) (0 + (i : Int)) by rw [dsS_8_G]; show (daysC (s11 0 7) (s11 0 8) (s11 0 9) (up (s11 3) t (0 + (i : Int))) (s11 4) 255 n (s11 1, s11 5, s11 6)).2.1 t = _; rw [hi11_1 0 (by omega), hi11_1 1 (by omega), hi11_1 3 (by omega), hi11_1 4 (by omega), hi11_1 5 (by omega), hi11_1 6 (by omega)]; rfl)) ?_
            refine r_istore (pc := 71) C dX4_bestFor_71 (by decide) [1, 2, 3, 4, 5, 6, 7, 0, 8] (lv' := [(0, .ref (gA g 40)), (1, .int (iI ((t : Int)))), (2, .int (iI ((n : Int)))), (3, .int (iI (1))), (4, .int (iI (0))), (5, .int (iI (6))), (6, .int (iI ((bst (vKind (σ 0 7) (σ 0 8) (σ 0 9) (σ 3) (σ 4) (σ 1, σ 5, σ 6) t n) 0 i).1))), (7, .int (iI ((vKind (σ 0 7) (σ 0 8) (σ 0 9) (σ 3) (σ 4) (σ 1, σ 5, σ 6) t n) (0 + (i : Int))))), (8, .int (iI ((0 + (i : Int)))))]) rfl ?_
            refine r_iload (pc := 73) C dX4_bestFor_73 8 rfl ?_
            refine r_istore (pc := 75) C dX4_bestFor_75 (by decide) [1, 2, 3, 4, 5, 6, 0, 7, 8] (lv' := [(0, .ref (gA g 40)), (1, .int (iI ((t : Int)))), (2, .int (iI ((n : Int)))), (3, .int (iI (1))), (4, .int (iI (0))), (5, .int (iI (6))), (6, .int (iI ((0 + (i : Int))))), (7, .int (iI ((vKind (σ 0 7) (σ 0 8) (σ 0 9) (σ 3) (σ 4) (σ 1, σ 5, σ 6) t n) (0 + (i : Int))))), (8, .int (iI ((0 + (i : Int)))))]) rfl ?_
            refine r_iinc (pc := 77) C dX4_bestFor_77 8 rfl (by decide) [1, 2, 3, 4, 5, 6, 7, 8, 0] (lv' := [(0, .ref (gA g 40)), (1, .int (iI ((t : Int)))), (2, .int (iI ((n : Int)))), (3, .int (iI (1))), (4, .int (iI (0))), (5, .int (iI (6))), (6, .int (iI ((0 + (i : Int))))), (7, .int (iI ((vKind (σ 0 7) (σ 0 8) (σ 0 9) (σ 3) (σ 4) (σ 1, σ 5, σ 6) t n) (0 + (i : Int))))), (8, .int (iI ((0 + (i : Int)) + 1)))]) rfl ?_
            refine r_goto (pc := 80) C 11 dX4_bestFor_80 (by decide) ?_
            exact ih11 (i + 1) _ _ _ _ (by omega) (by omega) (by first | assumption | exact fun k hk => (tr_ds _ hk _).trans ((tr_wr _ hk (by omega)).trans ((tr_bc _ hk).trans (hi11_1 k hk)))) (by first | (rw [bst, if_pos (by omega)]; done) | (rw [bst, if_neg (by omega)]; done)) (by first | (rw [bst, if_pos (by omega)]; done) | (rw [bst, if_neg (by omega)]; done)) (by omega)
        · skip
          omega
  exact L11 _ 0 _ _ _ _ (Nat.lt_succ_self _) (by omega) (by exact fun k _ => rfl) (rfl) (rfl) (by omega)
set_option maxHeartbeats 4000000 in
set_option maxRecDepth 100000 in
theorem c_bestFor_2 (g : Gt) (t n : Nat) (hn : n ≤ 40) (σ : Sg) (hW : RW σ 0) (ht : (t : Int) < σ 0 7) : Mt g yX4_bestFor cX4_bestFor 9 (some FieldType.int) 5 [.ref (gA g 40), .int (iI ((t : Int))), .int (iI ((n : Int))), .int (iI (2)), .int (iI ((-3))), .int (iI (3))] σ (pT ((bst (vDrau (σ 0 7) (σ 0 8) (σ 0 9) (σ 3) (σ 4) (σ 1, σ 5, σ 6) t n) (-3) 7).1) σ) := by
  obtain ⟨hn8, hfl, hw, hdy, hz, hD_, hK_, hA_, hG_, hM_, hP_⟩ := id hW
  have hD : rgD (σ 1) := hD_
  have hA : rgA (σ 4) := hA_
  have hG : rgG (σ 5) := hG_
  have hM : rgM (σ 6) := hM_
  have hV : ∀ j : Nat, j < 7 → 0 ≤ (vDrau (σ 0 7) (σ 0 8) (σ 0 9) (σ 3) (σ 4) (σ 1, σ 5, σ 6) t n) ((-3) + (j : Int)) ∧ (vDrau (σ 0 7) (σ 0 8) (σ 0 9) (σ 3) (σ 4) (σ 1, σ 5, σ 6) t n) ((-3) + (j : Int)) ≤ 99999 := fun j hj => (daysC_rng (q := (σ 1, σ 5, σ 6)) hn8 hfl hA hD hG hM n).2.1 t (by omega)
  refine mt_of (own := RX4) (by decide) rfl (Nat.le_of_ble_eq_true rfl) (fun E C => ?_)
  show J g E (pT ((bst (vDrau (σ 0 7) (σ 0 8) (σ 0 9) (σ 3) (σ 4) (σ 1, σ 5, σ 6) t n) (-3) 7).1) σ) 9 0 [(0, .ref (gA g 40)), (1, .int (iI ((t : Int)))), (2, .int (iI ((n : Int)))), (3, .int (iI (2))), (4, .int (iI ((-3)))), (5, .int (iI (3)))] [] σ
  refine r_iload (pc := 0) C dX4_bestFor_0 4 rfl ?_
  refine r_istore (pc := 2) C dX4_bestFor_2 (by decide) [1, 2, 3, 4, 5, 6, 0] (lv' := [(0, .ref (gA g 40)), (1, .int (iI ((t : Int)))), (2, .int (iI ((n : Int)))), (3, .int (iI (2))), (4, .int (iI ((-3)))), (5, .int (iI (3))), (6, .int (iI ((-3))))]) rfl ?_
  refine r_iconst (pc := 4) C dX4_bestFor_4 ?_
  refine r_istore (pc := 5) C dX4_bestFor_5 (by decide) [1, 2, 3, 4, 5, 6, 7, 0] (lv' := [(0, .ref (gA g 40)), (1, .int (iI ((t : Int)))), (2, .int (iI ((n : Int)))), (3, .int (iI (2))), (4, .int (iI ((-3)))), (5, .int (iI (3))), (6, .int (iI ((-3)))), (7, .int (iI ((-1))))]) rfl ?_
  refine r_iload (pc := 7) C dX4_bestFor_7 4 rfl ?_
  refine r_istore (pc := 9) C dX4_bestFor_9 (by decide) [1, 2, 3, 4, 5, 6, 7, 8, 0] (lv' := [(0, .ref (gA g 40)), (1, .int (iI ((t : Int)))), (2, .int (iI ((n : Int)))), (3, .int (iI (2))), (4, .int (iI ((-3)))), (5, .int (iI (3))), (6, .int (iI ((-3)))), (7, .int (iI ((-1)))), (8, .int (iI ((-3))))]) rfl ?_
  have L11 : ∀ (n_ : Nat) (i : Nat) (x11_6 x11_7 x11_8 : Int) (s11 : Sg), 7 - i < n_ → (i ≤ 7) → (∀ k, (k < 8 ∨ 16 ≤ k) → s11 k = σ k) → x11_6 = (bst (vDrau (σ 0 7) (σ 0 8) (σ 0 9) (σ 3) (σ 4) (σ 1, σ 5, σ 6) t n) (-3) i).1 → x11_7 = (bst (vDrau (σ 0 7) (σ 0 8) (σ 0 9) (σ 3) (σ 4) (σ 1, σ 5, σ 6) t n) (-3) i).2 → x11_8 = ((-3) + (i : Int)) → J g E (pT ((bst (vDrau (σ 0 7) (σ 0 8) (σ 0 9) (σ 3) (σ 4) (σ 1, σ 5, σ 6) t n) (-3) 7).1) σ) 9 11 [(0, .ref (gA g 40)), (1, .int (iI ((t : Int)))), (2, .int (iI ((n : Int)))), (3, .int (iI (2))), (4, .int (iI ((-3)))), (5, .int (iI (3))), (6, .int (iI (x11_6))), (7, .int (iI (x11_7))), (8, .int (iI (x11_8)))] [] s11 := by
    intro n_
    induction n_ with
    | zero => intro i x11_6 x11_7 x11_8 s11 hm_; exact absurd hm_ (Nat.not_lt_zero _)
    | succ n_ ih11 =>
      intro i x11_6 x11_7 x11_8 s11 hm11 hi11_0 hi11_1 e11_0 e11_1 e11_2 
      subst e11_0 e11_1 e11_2 
      have hb := bst_rng (V := (vDrau (σ 0 7) (σ 0 8) (σ 0 9) (σ 3) (σ 4) (σ 1, σ 5, σ 6) t n)) (a := (-3)) (m := 99999) (by omega) i (fun j hj => hV j (by omega))
      have hWs := RW_cong hi11_1 hW
      refine r_iload (pc := 11) C dX4_bestFor_11 8 rfl ?_
      refine r_iload (pc := 13) C dX4_bestFor_13 5 rfl ?_
      refine r_icmp_gt (pc := 15) C 83 ⟨by omega, by omega⟩ ⟨by omega, by omega⟩ dX4_bestFor_15 (by decide) (fun h15 => ?_) (fun h15 => ?_)
      · skip
        refine r_iload (pc := 83) C dX4_bestFor_83 6 rfl ?_
        exact r_retT (pc := 85) C (by rw [show i = 7 by omega]) (hi11_1) dX4_bestFor_85
      · skip
        refine r_iload_n (pc := 18) C dX4_bestFor_18 rfl 3 rfl ?_
        refine r_iconst (pc := 19) C dX4_bestFor_19 ?_
        refine r_icmp_ne (pc := 20) C 32 ⟨by omega, by omega⟩ ⟨by omega, by omega⟩ dX4_bestFor_20 (by decide) (fun h20 => ?_) (fun h20 => ?_)
        · skip
          refine r_aload_n (pc := 32) C dX4_bestFor_32 rfl 0 rfl ?_
          refine r_iload_n (pc := 33) C dX4_bestFor_33 rfl 1 rfl ?_
          refine r_iload_n (pc := 34) C dX4_bestFor_34 rfl 3 rfl ?_
          refine r_iload (pc := 35) C dX4_bestFor_35 8 rfl ?_
          have hVi := hV i (by omega)
          have hWd : RW (wr (bc_8_0 s11) 8 9 ((-3) + (i : Int))) 8 := RWt2 (by omega) hWs
          refine r_cVv (pc := 37) C (c_tryOut_2 g t (by omega) ((-3) + (i : Int)) s11) yX4_tryOut_w O_40 rfl rfl t_465 ⟨by decide, by decide⟩ (Nat.le_of_ble_eq_true rfl) rfl dX4_bestFor_37 ?_
          refine r_aload_n (pc := 40) C dX4_bestFor_40 rfl 0 rfl ?_
          refine r_getR4 (pc := 41) C 1 (k' := 8) rfl O_40 (by decide) rfl t_217 dX4_bestFor_41 ?_
          refine r_iload_n (pc := 44) C dX4_bestFor_44 rfl 2 rfl ?_
          refine r_cVv (pc := 45) C (c_passDays_8 g n (by omega) (wr (bc_8_0 s11) 8 9 ((-3) + (i : Int))) hWd) yX0_passDays_w O_8 rfl rfl t_354 ⟨by decide, by decide⟩ (Nat.le_of_ble_eq_true rfl) rfl dX4_bestFor_45 ?_
          refine r_aload_n (pc := 48) C dX4_bestFor_48 rfl 0 rfl ?_
          refine r_getR4 (pc := 49) C 1 (k' := 8) rfl O_40 (by decide) rfl t_217 dX4_bestFor_49 ?_
          refine r_getR0 (pc := 52) C 4 (k' := 13) rfl O_8 (by decide) rfl t_112 dX4_bestFor_52 ?_
          refine r_iload_n (pc := 55) C dX4_bestFor_55 rfl 1 rfl ?_
          refine r_iald (pc := 56) C t A_13 (by omega) (by omega) dX4_bestFor_56 ?_
          refine r_top (show (dsS_8 n (wr (bc_8_0 s11) 8 9 ((-3) + (i : Int)))) 13 t = (vDrau (σ 0 7) (σ 0 8) (σ 0 9) (σ 3) (σ 4) (σ 1, σ 5, σ 6) t n) ((-3) + (i : Int)) from (show dsS_8 n (wr (bc_8_0 s11) 8 9 ((-3) + (i : Int))) 13 t = (vDrau (σ 0 7) (σ 0 8) (σ 0 9) (σ 3) (σ 4) (σ 1, σ 5, σ 6) t n) ((-3) + (i : Int)) by rw [dsS_8_G]; show (daysC (s11 0 7) (s11 0 8) ((-3) + (i : Int)) (s11 3) (s11 4) 255 n (s11 1, s11 5, s11 6)).2.1 t = _; rw [hi11_1 0 (by omega), hi11_1 1 (by omega), hi11_1 3 (by omega), hi11_1 4 (by omega), hi11_1 5 (by omega), hi11_1 6 (by omega)]; rfl)) ?_
          refine r_iload (pc := 57) C dX4_bestFor_57 7 rfl ?_
          refine r_icmp_le (pc := 59) C 77 ⟨by omega, by omega⟩ ⟨by omega, by omega⟩ dX4_bestFor_59 (by decide) (fun h59 => ?_) (fun h59 => ?_)
          · skip
            refine r_iinc (pc := 77) C dX4_bestFor_77 8 rfl (by decide) [1, 2, 3, 4, 5, 6, 7, 8, 0] (lv' := [(0, .ref (gA g 40)), (1, .int (iI ((t : Int)))), (2, .int (iI ((n : Int)))), (3, .int (iI (2))), (4, .int (iI ((-3)))), (5, .int (iI (3))), (6, .int (iI ((bst (vDrau (σ 0 7) (σ 0 8) (σ 0 9) (σ 3) (σ 4) (σ 1, σ 5, σ 6) t n) (-3) i).1))), (7, .int (iI ((bst (vDrau (σ 0 7) (σ 0 8) (σ 0 9) (σ 3) (σ 4) (σ 1, σ 5, σ 6) t n) (-3) i).2))), (8, .int (iI (((-3) + (i : Int)) + 1)))]) rfl ?_
            refine r_goto (pc := 80) C 11 dX4_bestFor_80 (by decide) ?_
            exact ih11 (i + 1) _ _ _ _ (by omega) (by omega) (by first | assumption | exact fun k hk => (tr_ds _ hk _).trans ((tr_wr _ hk (by omega)).trans ((tr_bc _ hk).trans (hi11_1 k hk)))) (by first | (rw [bst, if_pos (by omega)]; done) | (rw [bst, if_neg (by omega)]; done)) (by first | (rw [bst, if_pos (by omega)]; done) | (rw [bst, if_neg (by omega)]; done)) (by omega)
          · skip
            refine r_aload_n (pc := 62) C dX4_bestFor_62 rfl 0 rfl ?_
            refine r_getR4 (pc := 63) C 1 (k' := 8) rfl O_40 (by decide) rfl t_217 dX4_bestFor_63 ?_
            refine r_getR0 (pc := 66) C 4 (k' := 13) rfl O_8 (by decide) rfl t_112 dX4_bestFor_66 ?_
            refine r_iload_n (pc := 69) C dX4_bestFor_69 rfl 1 rfl ?_
            refine r_iald (pc := 70) C t A_13 (by omega) (by omega) dX4_bestFor_70 ?_
            refine r_top (show (dsS_8 n (wr (bc_8_0 s11) 8 9 ((-3) + (i : Int)))) 13 t = (vDrau (σ 0 7) (σ 0 8) (σ 0 9) (σ 3) (σ 4) (σ 1, σ 5, σ 6) t n) ((-3) + (i : Int)) from (show dsS_8 n (wr (bc_8_0 s11) 8 9 ((-3) + (i : Int))) 13 t = (vDrau (σ 0 7) (σ 0 8) (σ 0 9) (σ 3) (σ 4) (σ 1, σ 5, σ 6) t n) ((-3) + (i : Int)) by rw [dsS_8_G]; show (daysC (s11 0 7) (s11 0 8) ((-3) + (i : Int)) (s11 3) (s11 4) 255 n (s11 1, s11 5, s11 6)).2.1 t = _; rw [hi11_1 0 (by omega), hi11_1 1 (by omega), hi11_1 3 (by omega), hi11_1 4 (by omega), hi11_1 5 (by omega), hi11_1 6 (by omega)]; rfl)) ?_
            refine r_istore (pc := 71) C dX4_bestFor_71 (by decide) [1, 2, 3, 4, 5, 6, 7, 0, 8] (lv' := [(0, .ref (gA g 40)), (1, .int (iI ((t : Int)))), (2, .int (iI ((n : Int)))), (3, .int (iI (2))), (4, .int (iI ((-3)))), (5, .int (iI (3))), (6, .int (iI ((bst (vDrau (σ 0 7) (σ 0 8) (σ 0 9) (σ 3) (σ 4) (σ 1, σ 5, σ 6) t n) (-3) i).1))), (7, .int (iI ((vDrau (σ 0 7) (σ 0 8) (σ 0 9) (σ 3) (σ 4) (σ 1, σ 5, σ 6) t n) ((-3) + (i : Int))))), (8, .int (iI (((-3) + (i : Int)))))]) rfl ?_
            refine r_iload (pc := 73) C dX4_bestFor_73 8 rfl ?_
            refine r_istore (pc := 75) C dX4_bestFor_75 (by decide) [1, 2, 3, 4, 5, 6, 0, 7, 8] (lv' := [(0, .ref (gA g 40)), (1, .int (iI ((t : Int)))), (2, .int (iI ((n : Int)))), (3, .int (iI (2))), (4, .int (iI ((-3)))), (5, .int (iI (3))), (6, .int (iI (((-3) + (i : Int))))), (7, .int (iI ((vDrau (σ 0 7) (σ 0 8) (σ 0 9) (σ 3) (σ 4) (σ 1, σ 5, σ 6) t n) ((-3) + (i : Int))))), (8, .int (iI (((-3) + (i : Int)))))]) rfl ?_
            refine r_iinc (pc := 77) C dX4_bestFor_77 8 rfl (by decide) [1, 2, 3, 4, 5, 6, 7, 8, 0] (lv' := [(0, .ref (gA g 40)), (1, .int (iI ((t : Int)))), (2, .int (iI ((n : Int)))), (3, .int (iI (2))), (4, .int (iI ((-3)))), (5, .int (iI (3))), (6, .int (iI (((-3) + (i : Int))))), (7, .int (iI ((vDrau (σ 0 7) (σ 0 8) (σ 0 9) (σ 3) (σ 4) (σ 1, σ 5, σ 6) t n) ((-3) + (i : Int))))), (8, .int (iI (((-3) + (i : Int)) + 1)))]) rfl ?_
            refine r_goto (pc := 80) C 11 dX4_bestFor_80 (by decide) ?_
            exact ih11 (i + 1) _ _ _ _ (by omega) (by omega) (by first | assumption | exact fun k hk => (tr_ds _ hk _).trans ((tr_wr _ hk (by omega)).trans ((tr_bc _ hk).trans (hi11_1 k hk)))) (by first | (rw [bst, if_pos (by omega)]; done) | (rw [bst, if_neg (by omega)]; done)) (by first | (rw [bst, if_pos (by omega)]; done) | (rw [bst, if_neg (by omega)]; done)) (by omega)
        · skip
          omega
  exact L11 _ 0 _ _ _ _ (Nat.lt_succ_self _) (by omega) (by exact fun k _ => rfl) (rfl) (rfl) (by omega)
set_option maxHeartbeats 4000000 in
set_option maxRecDepth 100000 in
theorem c_bestFor_3 (g : Gt) (t n : Nat) (hn : n ≤ 40) (σ : Sg) (hW : RW σ 0) (ht : (t : Int) < σ 0 7) : Mt g yX4_bestFor cX4_bestFor 9 (some FieldType.int) 5 [.ref (gA g 40), .int (iI ((t : Int))), .int (iI ((n : Int))), .int (iI (3)), .int (iI (0)), .int (iI (σ 0 7 - 1))] σ (pT ((bstX (vSwap (σ 0 7) (σ 0 8) (σ 0 9) (σ 3) (σ 4) (σ 1, σ 5, σ 6) t n) t (σ 0 7).toNat).1) σ) := by
  obtain ⟨hn8, hfl, hw, hdy, hz, hD_, hK_, hA_, hG_, hM_, hP_⟩ := id hW
  have hD : rgD (σ 1) := hD_
  have hA : rgA (σ 4) := hA_
  have hG : rgG (σ 5) := hG_
  have hM : rgM (σ 6) := hM_
  have hV : ∀ j : Nat, j < (σ 0 7).toNat → 0 ≤ (vSwap (σ 0 7) (σ 0 8) (σ 0 9) (σ 3) (σ 4) (σ 1, σ 5, σ 6) t n) (j : Int) ∧ (vSwap (σ 0 7) (σ 0 8) (σ 0 9) (σ 3) (σ 4) (σ 1, σ 5, σ 6) t n) (j : Int) ≤ 99999 := fun j hj => (daysC_rng (q := (σ 1, σ 5, σ 6)) hn8 hfl (rgA_up (rgA_up hA (hA j (by omega))) (hA t (by omega))) hD hG hM n).2.1 t (by omega)
  refine mt_of (own := RX4) (by decide) rfl (Nat.le_of_ble_eq_true rfl) (fun E C => ?_)
  show J g E (pT ((bstX (vSwap (σ 0 7) (σ 0 8) (σ 0 9) (σ 3) (σ 4) (σ 1, σ 5, σ 6) t n) t (σ 0 7).toNat).1) σ) 9 0 [(0, .ref (gA g 40)), (1, .int (iI ((t : Int)))), (2, .int (iI ((n : Int)))), (3, .int (iI (3))), (4, .int (iI (0))), (5, .int (iI (σ 0 7 - 1)))] [] σ
  refine r_iload (pc := 0) C dX4_bestFor_0 4 rfl ?_
  refine r_istore (pc := 2) C dX4_bestFor_2 (by decide) [1, 2, 3, 4, 5, 6, 0] (lv' := [(0, .ref (gA g 40)), (1, .int (iI ((t : Int)))), (2, .int (iI ((n : Int)))), (3, .int (iI (3))), (4, .int (iI (0))), (5, .int (iI (σ 0 7 - 1))), (6, .int (iI (0)))]) rfl ?_
  refine r_iconst (pc := 4) C dX4_bestFor_4 ?_
  refine r_istore (pc := 5) C dX4_bestFor_5 (by decide) [1, 2, 3, 4, 5, 6, 7, 0] (lv' := [(0, .ref (gA g 40)), (1, .int (iI ((t : Int)))), (2, .int (iI ((n : Int)))), (3, .int (iI (3))), (4, .int (iI (0))), (5, .int (iI (σ 0 7 - 1))), (6, .int (iI (0))), (7, .int (iI ((-1))))]) rfl ?_
  refine r_iload (pc := 7) C dX4_bestFor_7 4 rfl ?_
  refine r_istore (pc := 9) C dX4_bestFor_9 (by decide) [1, 2, 3, 4, 5, 6, 7, 8, 0] (lv' := [(0, .ref (gA g 40)), (1, .int (iI ((t : Int)))), (2, .int (iI ((n : Int)))), (3, .int (iI (3))), (4, .int (iI (0))), (5, .int (iI (σ 0 7 - 1))), (6, .int (iI (0))), (7, .int (iI ((-1)))), (8, .int (iI (0)))]) rfl ?_
  have L11 : ∀ (n_ : Nat) (i : Nat) (x11_6 x11_7 x11_8 : Int) (s11 : Sg), (σ 0 7).toNat - i < n_ → ((i : Int) ≤ σ 0 7) → (∀ k, (k < 8 ∨ 16 ≤ k) → s11 k = σ k) → x11_6 = (bstX (vSwap (σ 0 7) (σ 0 8) (σ 0 9) (σ 3) (σ 4) (σ 1, σ 5, σ 6) t n) t i).1 → x11_7 = (bstX (vSwap (σ 0 7) (σ 0 8) (σ 0 9) (σ 3) (σ 4) (σ 1, σ 5, σ 6) t n) t i).2 → x11_8 = (i : Int) → J g E (pT ((bstX (vSwap (σ 0 7) (σ 0 8) (σ 0 9) (σ 3) (σ 4) (σ 1, σ 5, σ 6) t n) t (σ 0 7).toNat).1) σ) 9 11 [(0, .ref (gA g 40)), (1, .int (iI ((t : Int)))), (2, .int (iI ((n : Int)))), (3, .int (iI (3))), (4, .int (iI (0))), (5, .int (iI (σ 0 7 - 1))), (6, .int (iI (x11_6))), (7, .int (iI (x11_7))), (8, .int (iI (x11_8)))] [] s11 := by
    intro n_
    induction n_ with
    | zero => intro i x11_6 x11_7 x11_8 s11 hm_; exact absurd hm_ (Nat.not_lt_zero _)
    | succ n_ ih11 =>
      intro i x11_6 x11_7 x11_8 s11 hm11 hi11_0 hi11_1 e11_0 e11_1 e11_2 
      subst e11_0 e11_1 e11_2 
      have hb := bstX_rng (V := (vSwap (σ 0 7) (σ 0 8) (σ 0 9) (σ 3) (σ 4) (σ 1, σ 5, σ 6) t n)) (t := t) (m := 99999) (by omega) i (fun j hj => hV j (by omega))
      have hWs := RW_cong hi11_1 hW
      refine r_iload (pc := 11) C dX4_bestFor_11 8 rfl ?_
      refine r_iload (pc := 13) C dX4_bestFor_13 5 rfl ?_
      refine r_icmp_gt (pc := 15) C 83 ⟨by omega, by omega⟩ ⟨by omega, by omega⟩ dX4_bestFor_15 (by decide) (fun h15 => ?_) (fun h15 => ?_)
      · skip
        refine r_iload (pc := 83) C dX4_bestFor_83 6 rfl ?_
        exact r_retT (pc := 85) C (by rw [show i = (σ 0 7).toNat by omega]) (hi11_1) dX4_bestFor_85
      · skip
        refine r_iload_n (pc := 18) C dX4_bestFor_18 rfl 3 rfl ?_
        refine r_iconst (pc := 19) C dX4_bestFor_19 ?_
        refine r_icmp_ne (pc := 20) C 32 ⟨by omega, by omega⟩ ⟨by omega, by omega⟩ dX4_bestFor_20 (by decide) (fun h20 => ?_) (fun h20 => ?_)
        · skip
          refine r_aload_n (pc := 32) C dX4_bestFor_32 rfl 0 rfl ?_
          refine r_iload_n (pc := 33) C dX4_bestFor_33 rfl 1 rfl ?_
          refine r_iload_n (pc := 34) C dX4_bestFor_34 rfl 3 rfl ?_
          refine r_iload (pc := 35) C dX4_bestFor_35 8 rfl ?_
          have hVi := hV i (by omega)
          have hWd : RW (wr (wr (bc_8_0 s11) 12 t (bc_8_0 s11 12 i)) 12 i (bc_8_0 s11 12 t)) 8 := RWt3 (by omega) (by omega) hWs
          refine r_cVv (pc := 37) C (c_tryOut_3 g t (by omega) i (by omega) s11) yX4_tryOut_w O_40 rfl rfl t_465 ⟨by decide, by decide⟩ (Nat.le_of_ble_eq_true rfl) rfl dX4_bestFor_37 ?_
          refine r_aload_n (pc := 40) C dX4_bestFor_40 rfl 0 rfl ?_
          refine r_getR4 (pc := 41) C 1 (k' := 8) rfl O_40 (by decide) rfl t_217 dX4_bestFor_41 ?_
          refine r_iload_n (pc := 44) C dX4_bestFor_44 rfl 2 rfl ?_
          refine r_cVv (pc := 45) C (c_passDays_8 g n (by omega) (wr (wr (bc_8_0 s11) 12 t (bc_8_0 s11 12 i)) 12 i (bc_8_0 s11 12 t)) hWd) yX0_passDays_w O_8 rfl rfl t_354 ⟨by decide, by decide⟩ (Nat.le_of_ble_eq_true rfl) rfl dX4_bestFor_45 ?_
          refine r_aload_n (pc := 48) C dX4_bestFor_48 rfl 0 rfl ?_
          refine r_getR4 (pc := 49) C 1 (k' := 8) rfl O_40 (by decide) rfl t_217 dX4_bestFor_49 ?_
          refine r_getR0 (pc := 52) C 4 (k' := 13) rfl O_8 (by decide) rfl t_112 dX4_bestFor_52 ?_
          refine r_iload_n (pc := 55) C dX4_bestFor_55 rfl 1 rfl ?_
          refine r_iald (pc := 56) C t A_13 (by omega) (by omega) dX4_bestFor_56 ?_
          refine r_top (show (dsS_8 n (wr (wr (bc_8_0 s11) 12 t (bc_8_0 s11 12 i)) 12 i (bc_8_0 s11 12 t))) 13 t = (vSwap (σ 0 7) (σ 0 8) (σ 0 9) (σ 3) (σ 4) (σ 1, σ 5, σ 6) t n) (i : Int) from (show dsS_8 n (wr (wr (bc_8_0 s11) 12 t (bc_8_0 s11 12 i)) 12 i (bc_8_0 s11 12 t)) 13 t = (vSwap (σ 0 7) (σ 0 8) (σ 0 9) (σ 3) (σ 4) (σ 1, σ 5, σ 6) t n) (i : Int) by rw [dsS_8_G]; show (daysC (s11 0 7) (s11 0 8) (s11 0 9) (s11 3) (up (up (s11 4) t (s11 4 i)) i (s11 4 t)) 255 n (s11 1, s11 5, s11 6)).2.1 t = _; rw [hi11_1 0 (by omega), hi11_1 1 (by omega), hi11_1 3 (by omega), hi11_1 4 (by omega), hi11_1 5 (by omega), hi11_1 6 (by omega)]; rfl)) ?_
          refine r_iload (pc := 57) C dX4_bestFor_57 7 rfl ?_
          refine r_icmp_le (pc := 59) C 77 ⟨by omega, by omega⟩ ⟨by omega, by omega⟩ dX4_bestFor_59 (by decide) (fun h59 => ?_) (fun h59 => ?_)
          · skip
            refine r_iinc (pc := 77) C dX4_bestFor_77 8 rfl (by decide) [1, 2, 3, 4, 5, 6, 7, 8, 0] (lv' := [(0, .ref (gA g 40)), (1, .int (iI ((t : Int)))), (2, .int (iI ((n : Int)))), (3, .int (iI (3))), (4, .int (iI (0))), (5, .int (iI (σ 0 7 - 1))), (6, .int (iI ((bstX (vSwap (σ 0 7) (σ 0 8) (σ 0 9) (σ 3) (σ 4) (σ 1, σ 5, σ 6) t n) t i).1))), (7, .int (iI ((bstX (vSwap (σ 0 7) (σ 0 8) (σ 0 9) (σ 3) (σ 4) (σ 1, σ 5, σ 6) t n) t i).2))), (8, .int (iI ((i : Int) + 1)))]) rfl ?_
            refine r_goto (pc := 80) C 11 dX4_bestFor_80 (by decide) ?_
            exact ih11 (i + 1) _ _ _ _ (by omega) (by omega) (by first | assumption | exact fun k hk => (tr_ds _ hk _).trans ((tr_wr _ hk (by omega)).trans ((tr_wr _ hk (by omega)).trans ((tr_bc _ hk).trans (hi11_1 k hk))))) (by first | (rw [bstX, if_pos (by exact ⟨by omega, by omega⟩)]; done) | (rw [bstX, if_neg (by intro q; obtain ⟨q1, q2⟩ := q; omega)]; done)) (by first | (rw [bstX, if_pos (by exact ⟨by omega, by omega⟩)]; done) | (rw [bstX, if_neg (by intro q; obtain ⟨q1, q2⟩ := q; omega)]; done)) (by omega)
          · skip
            refine r_aload_n (pc := 62) C dX4_bestFor_62 rfl 0 rfl ?_
            refine r_getR4 (pc := 63) C 1 (k' := 8) rfl O_40 (by decide) rfl t_217 dX4_bestFor_63 ?_
            refine r_getR0 (pc := 66) C 4 (k' := 13) rfl O_8 (by decide) rfl t_112 dX4_bestFor_66 ?_
            refine r_iload_n (pc := 69) C dX4_bestFor_69 rfl 1 rfl ?_
            refine r_iald (pc := 70) C t A_13 (by omega) (by omega) dX4_bestFor_70 ?_
            refine r_top (show (dsS_8 n (wr (wr (bc_8_0 s11) 12 t (bc_8_0 s11 12 i)) 12 i (bc_8_0 s11 12 t))) 13 t = (vSwap (σ 0 7) (σ 0 8) (σ 0 9) (σ 3) (σ 4) (σ 1, σ 5, σ 6) t n) (i : Int) from (show dsS_8 n (wr (wr (bc_8_0 s11) 12 t (bc_8_0 s11 12 i)) 12 i (bc_8_0 s11 12 t)) 13 t = (vSwap (σ 0 7) (σ 0 8) (σ 0 9) (σ 3) (σ 4) (σ 1, σ 5, σ 6) t n) (i : Int) by rw [dsS_8_G]; show (daysC (s11 0 7) (s11 0 8) (s11 0 9) (s11 3) (up (up (s11 4) t (s11 4 i)) i (s11 4 t)) 255 n (s11 1, s11 5, s11 6)).2.1 t = _; rw [hi11_1 0 (by omega), hi11_1 1 (by omega), hi11_1 3 (by omega), hi11_1 4 (by omega), hi11_1 5 (by omega), hi11_1 6 (by omega)]; rfl)) ?_
            refine r_istore (pc := 71) C dX4_bestFor_71 (by decide) [1, 2, 3, 4, 5, 6, 7, 0, 8] (lv' := [(0, .ref (gA g 40)), (1, .int (iI ((t : Int)))), (2, .int (iI ((n : Int)))), (3, .int (iI (3))), (4, .int (iI (0))), (5, .int (iI (σ 0 7 - 1))), (6, .int (iI ((bstX (vSwap (σ 0 7) (σ 0 8) (σ 0 9) (σ 3) (σ 4) (σ 1, σ 5, σ 6) t n) t i).1))), (7, .int (iI ((vSwap (σ 0 7) (σ 0 8) (σ 0 9) (σ 3) (σ 4) (σ 1, σ 5, σ 6) t n) (i : Int)))), (8, .int (iI ((i : Int))))]) rfl ?_
            refine r_iload (pc := 73) C dX4_bestFor_73 8 rfl ?_
            refine r_istore (pc := 75) C dX4_bestFor_75 (by decide) [1, 2, 3, 4, 5, 6, 0, 7, 8] (lv' := [(0, .ref (gA g 40)), (1, .int (iI ((t : Int)))), (2, .int (iI ((n : Int)))), (3, .int (iI (3))), (4, .int (iI (0))), (5, .int (iI (σ 0 7 - 1))), (6, .int (iI ((i : Int)))), (7, .int (iI ((vSwap (σ 0 7) (σ 0 8) (σ 0 9) (σ 3) (σ 4) (σ 1, σ 5, σ 6) t n) (i : Int)))), (8, .int (iI ((i : Int))))]) rfl ?_
            refine r_iinc (pc := 77) C dX4_bestFor_77 8 rfl (by decide) [1, 2, 3, 4, 5, 6, 7, 8, 0] (lv' := [(0, .ref (gA g 40)), (1, .int (iI ((t : Int)))), (2, .int (iI ((n : Int)))), (3, .int (iI (3))), (4, .int (iI (0))), (5, .int (iI (σ 0 7 - 1))), (6, .int (iI ((i : Int)))), (7, .int (iI ((vSwap (σ 0 7) (σ 0 8) (σ 0 9) (σ 3) (σ 4) (σ 1, σ 5, σ 6) t n) (i : Int)))), (8, .int (iI ((i : Int) + 1)))]) rfl ?_
            refine r_goto (pc := 80) C 11 dX4_bestFor_80 (by decide) ?_
            exact ih11 (i + 1) _ _ _ _ (by omega) (by omega) (by first | assumption | exact fun k hk => (tr_ds _ hk _).trans ((tr_wr _ hk (by omega)).trans ((tr_wr _ hk (by omega)).trans ((tr_bc _ hk).trans (hi11_1 k hk))))) (by first | (rw [bstX, if_pos (by exact ⟨by omega, by omega⟩)]; done) | (rw [bstX, if_neg (by intro q; obtain ⟨q1, q2⟩ := q; omega)]; done)) (by first | (rw [bstX, if_pos (by exact ⟨by omega, by omega⟩)]; done) | (rw [bstX, if_neg (by intro q; obtain ⟨q1, q2⟩ := q; omega)]; done)) (by omega)
        · skip
          refine r_iload (pc := 23) C dX4_bestFor_23 8 rfl ?_
          refine r_iload_n (pc := 25) C dX4_bestFor_25 rfl 1 rfl ?_
          refine r_icmp_ne (pc := 26) C 32 ⟨by omega, by omega⟩ ⟨by omega, by omega⟩ dX4_bestFor_26 (by decide) (fun h26 => ?_) (fun h26 => ?_)
          · skip
            refine r_aload_n (pc := 32) C dX4_bestFor_32 rfl 0 rfl ?_
            refine r_iload_n (pc := 33) C dX4_bestFor_33 rfl 1 rfl ?_
            refine r_iload_n (pc := 34) C dX4_bestFor_34 rfl 3 rfl ?_
            refine r_iload (pc := 35) C dX4_bestFor_35 8 rfl ?_
            have hVi := hV i (by omega)
            have hWd : RW (wr (wr (bc_8_0 s11) 12 t (bc_8_0 s11 12 i)) 12 i (bc_8_0 s11 12 t)) 8 := RWt3 (by omega) (by omega) hWs
            refine r_cVv (pc := 37) C (c_tryOut_3 g t (by omega) i (by omega) s11) yX4_tryOut_w O_40 rfl rfl t_465 ⟨by decide, by decide⟩ (Nat.le_of_ble_eq_true rfl) rfl dX4_bestFor_37 ?_
            refine r_aload_n (pc := 40) C dX4_bestFor_40 rfl 0 rfl ?_
            refine r_getR4 (pc := 41) C 1 (k' := 8) rfl O_40 (by decide) rfl t_217 dX4_bestFor_41 ?_
            refine r_iload_n (pc := 44) C dX4_bestFor_44 rfl 2 rfl ?_
            refine r_cVv (pc := 45) C (c_passDays_8 g n (by omega) (wr (wr (bc_8_0 s11) 12 t (bc_8_0 s11 12 i)) 12 i (bc_8_0 s11 12 t)) hWd) yX0_passDays_w O_8 rfl rfl t_354 ⟨by decide, by decide⟩ (Nat.le_of_ble_eq_true rfl) rfl dX4_bestFor_45 ?_
            refine r_aload_n (pc := 48) C dX4_bestFor_48 rfl 0 rfl ?_
            refine r_getR4 (pc := 49) C 1 (k' := 8) rfl O_40 (by decide) rfl t_217 dX4_bestFor_49 ?_
            refine r_getR0 (pc := 52) C 4 (k' := 13) rfl O_8 (by decide) rfl t_112 dX4_bestFor_52 ?_
            refine r_iload_n (pc := 55) C dX4_bestFor_55 rfl 1 rfl ?_
            refine r_iald (pc := 56) C t A_13 (by omega) (by omega) dX4_bestFor_56 ?_
            refine r_top (show (dsS_8 n (wr (wr (bc_8_0 s11) 12 t (bc_8_0 s11 12 i)) 12 i (bc_8_0 s11 12 t))) 13 t = (vSwap (σ 0 7) (σ 0 8) (σ 0 9) (σ 3) (σ 4) (σ 1, σ 5, σ 6) t n) (i : Int) from (show dsS_8 n (wr (wr (bc_8_0 s11) 12 t (bc_8_0 s11 12 i)) 12 i (bc_8_0 s11 12 t)) 13 t = (vSwap (σ 0 7) (σ 0 8) (σ 0 9) (σ 3) (σ 4) (σ 1, σ 5, σ 6) t n) (i : Int) by rw [dsS_8_G]; show (daysC (s11 0 7) (s11 0 8) (s11 0 9) (s11 3) (up (up (s11 4) t (s11 4 i)) i (s11 4 t)) 255 n (s11 1, s11 5, s11 6)).2.1 t = _; rw [hi11_1 0 (by omega), hi11_1 1 (by omega), hi11_1 3 (by omega), hi11_1 4 (by omega), hi11_1 5 (by omega), hi11_1 6 (by omega)]; rfl)) ?_
            refine r_iload (pc := 57) C dX4_bestFor_57 7 rfl ?_
            refine r_icmp_le (pc := 59) C 77 ⟨by omega, by omega⟩ ⟨by omega, by omega⟩ dX4_bestFor_59 (by decide) (fun h59 => ?_) (fun h59 => ?_)
            · skip
              refine r_iinc (pc := 77) C dX4_bestFor_77 8 rfl (by decide) [1, 2, 3, 4, 5, 6, 7, 8, 0] (lv' := [(0, .ref (gA g 40)), (1, .int (iI ((t : Int)))), (2, .int (iI ((n : Int)))), (3, .int (iI (3))), (4, .int (iI (0))), (5, .int (iI (σ 0 7 - 1))), (6, .int (iI ((bstX (vSwap (σ 0 7) (σ 0 8) (σ 0 9) (σ 3) (σ 4) (σ 1, σ 5, σ 6) t n) t i).1))), (7, .int (iI ((bstX (vSwap (σ 0 7) (σ 0 8) (σ 0 9) (σ 3) (σ 4) (σ 1, σ 5, σ 6) t n) t i).2))), (8, .int (iI ((i : Int) + 1)))]) rfl ?_
              refine r_goto (pc := 80) C 11 dX4_bestFor_80 (by decide) ?_
              exact ih11 (i + 1) _ _ _ _ (by omega) (by omega) (by first | assumption | exact fun k hk => (tr_ds _ hk _).trans ((tr_wr _ hk (by omega)).trans ((tr_wr _ hk (by omega)).trans ((tr_bc _ hk).trans (hi11_1 k hk))))) (by first | (rw [bstX, if_pos (by exact ⟨by omega, by omega⟩)]; done) | (rw [bstX, if_neg (by intro q; obtain ⟨q1, q2⟩ := q; omega)]; done)) (by first | (rw [bstX, if_pos (by exact ⟨by omega, by omega⟩)]; done) | (rw [bstX, if_neg (by intro q; obtain ⟨q1, q2⟩ := q; omega)]; done)) (by omega)
            · skip
              refine r_aload_n (pc := 62) C dX4_bestFor_62 rfl 0 rfl ?_
              refine r_getR4 (pc := 63) C 1 (k' := 8) rfl O_40 (by decide) rfl t_217 dX4_bestFor_63 ?_
              refine r_getR0 (pc := 66) C 4 (k' := 13) rfl O_8 (by decide) rfl t_112 dX4_bestFor_66 ?_
              refine r_iload_n (pc := 69) C dX4_bestFor_69 rfl 1 rfl ?_
              refine r_iald (pc := 70) C t A_13 (by omega) (by omega) dX4_bestFor_70 ?_
              refine r_top (show (dsS_8 n (wr (wr (bc_8_0 s11) 12 t (bc_8_0 s11 12 i)) 12 i (bc_8_0 s11 12 t))) 13 t = (vSwap (σ 0 7) (σ 0 8) (σ 0 9) (σ 3) (σ 4) (σ 1, σ 5, σ 6) t n) (i : Int) from (show dsS_8 n (wr (wr (bc_8_0 s11) 12 t (bc_8_0 s11 12 i)) 12 i (bc_8_0 s11 12 t)) 13 t = (vSwap (σ 0 7) (σ 0 8) (σ 0 9) (σ 3) (σ 4) (σ 1, σ 5, σ 6) t n) (i : Int) by rw [dsS_8_G]; show (daysC (s11 0 7) (s11 0 8) (s11 0 9) (s11 3) (up (up (s11 4) t (s11 4 i)) i (s11 4 t)) 255 n (s11 1, s11 5, s11 6)).2.1 t = _; rw [hi11_1 0 (by omega), hi11_1 1 (by omega), hi11_1 3 (by omega), hi11_1 4 (by omega), hi11_1 5 (by omega), hi11_1 6 (by omega)]; rfl)) ?_
              refine r_istore (pc := 71) C dX4_bestFor_71 (by decide) [1, 2, 3, 4, 5, 6, 7, 0, 8] (lv' := [(0, .ref (gA g 40)), (1, .int (iI ((t : Int)))), (2, .int (iI ((n : Int)))), (3, .int (iI (3))), (4, .int (iI (0))), (5, .int (iI (σ 0 7 - 1))), (6, .int (iI ((bstX (vSwap (σ 0 7) (σ 0 8) (σ 0 9) (σ 3) (σ 4) (σ 1, σ 5, σ 6) t n) t i).1))), (7, .int (iI ((vSwap (σ 0 7) (σ 0 8) (σ 0 9) (σ 3) (σ 4) (σ 1, σ 5, σ 6) t n) (i : Int)))), (8, .int (iI ((i : Int))))]) rfl ?_
              refine r_iload (pc := 73) C dX4_bestFor_73 8 rfl ?_
              refine r_istore (pc := 75) C dX4_bestFor_75 (by decide) [1, 2, 3, 4, 5, 6, 0, 7, 8] (lv' := [(0, .ref (gA g 40)), (1, .int (iI ((t : Int)))), (2, .int (iI ((n : Int)))), (3, .int (iI (3))), (4, .int (iI (0))), (5, .int (iI (σ 0 7 - 1))), (6, .int (iI ((i : Int)))), (7, .int (iI ((vSwap (σ 0 7) (σ 0 8) (σ 0 9) (σ 3) (σ 4) (σ 1, σ 5, σ 6) t n) (i : Int)))), (8, .int (iI ((i : Int))))]) rfl ?_
              refine r_iinc (pc := 77) C dX4_bestFor_77 8 rfl (by decide) [1, 2, 3, 4, 5, 6, 7, 8, 0] (lv' := [(0, .ref (gA g 40)), (1, .int (iI ((t : Int)))), (2, .int (iI ((n : Int)))), (3, .int (iI (3))), (4, .int (iI (0))), (5, .int (iI (σ 0 7 - 1))), (6, .int (iI ((i : Int)))), (7, .int (iI ((vSwap (σ 0 7) (σ 0 8) (σ 0 9) (σ 3) (σ 4) (σ 1, σ 5, σ 6) t n) (i : Int)))), (8, .int (iI ((i : Int) + 1)))]) rfl ?_
              refine r_goto (pc := 80) C 11 dX4_bestFor_80 (by decide) ?_
              exact ih11 (i + 1) _ _ _ _ (by omega) (by omega) (by first | assumption | exact fun k hk => (tr_ds _ hk _).trans ((tr_wr _ hk (by omega)).trans ((tr_wr _ hk (by omega)).trans ((tr_bc _ hk).trans (hi11_1 k hk))))) (by first | (rw [bstX, if_pos (by exact ⟨by omega, by omega⟩)]; done) | (rw [bstX, if_neg (by intro q; obtain ⟨q1, q2⟩ := q; omega)]; done)) (by first | (rw [bstX, if_pos (by exact ⟨by omega, by omega⟩)]; done) | (rw [bstX, if_neg (by intro q; obtain ⟨q1, q2⟩ := q; omega)]; done)) (by omega)
          · skip
            refine r_goto (pc := 29) C 77 dX4_bestFor_29 (by decide) ?_
            refine r_iinc (pc := 77) C dX4_bestFor_77 8 rfl (by decide) [1, 2, 3, 4, 5, 6, 7, 8, 0] (lv' := [(0, .ref (gA g 40)), (1, .int (iI ((t : Int)))), (2, .int (iI ((n : Int)))), (3, .int (iI (3))), (4, .int (iI (0))), (5, .int (iI (σ 0 7 - 1))), (6, .int (iI ((bstX (vSwap (σ 0 7) (σ 0 8) (σ 0 9) (σ 3) (σ 4) (σ 1, σ 5, σ 6) t n) t i).1))), (7, .int (iI ((bstX (vSwap (σ 0 7) (σ 0 8) (σ 0 9) (σ 3) (σ 4) (σ 1, σ 5, σ 6) t n) t i).2))), (8, .int (iI ((i : Int) + 1)))]) rfl ?_
            refine r_goto (pc := 80) C 11 dX4_bestFor_80 (by decide) ?_
            exact ih11 (i + 1) _ _ _ _ (by omega) (by omega) (by first | assumption | exact fun k hk => (tr_ds _ hk _).trans ((tr_wr _ hk (by omega)).trans ((tr_wr _ hk (by omega)).trans ((tr_bc _ hk).trans (hi11_1 k hk))))) (by first | (rw [bstX, if_pos (by exact ⟨by omega, by omega⟩)]; done) | (rw [bstX, if_neg (by intro q; obtain ⟨q1, q2⟩ := q; omega)]; done)) (by first | (rw [bstX, if_pos (by exact ⟨by omega, by omega⟩)]; done) | (rw [bstX, if_neg (by intro q; obtain ⟨q1, q2⟩ := q; omega)]; done)) (by omega)
  exact L11 _ 0 _ _ _ _ (Nat.lt_succ_self _) (by omega) (by exact fun k _ => rfl) (rfl) (rfl) (rfl)
set_option maxHeartbeats 4000000 in
set_option maxRecDepth 100000 in
theorem d_seat (g : Gt) (x n : Int) (h_x : rng x) (h_n : rng n) (σ : Sg) (hW : RW σ 0)  : Mt g yX4_seat cX4_seat 3 (some FieldType.int) 6 [.ref (gA g 40), .int (iI (x)), .int (iI (n))] σ (pT (if (0 ≤ x ∧ x < σ 0 7) ∧ 0 ≤ n ∧ n ≤ 40 then (bst (vSeat (σ 0 7) (σ 0 8) (σ 0 9) (σ 3) (σ 4) (σ 1, σ 5, σ 6) x.toNat n.toNat) 0 12).1 else (-1000001 - ((0 : Nat) : Int))) (if (0 ≤ x ∧ x < σ 0 7) ∧ 0 ≤ n ∧ n ≤ 40 then σ else fin 0 σ)) := by
  obtain ⟨hn, hfl, hw, hdy, hz, hD_, hK_, hA_, hG_, hM_, hP_⟩ := id hW
  have hD : rgD (σ 1) := hD_
  have hK : rgK (σ 3) := hK_
  have hA : rgA (σ 4) := hA_
  have hG : rgG (σ 5) := hG_
  have hM : rgM (σ 6) := hM_
  have hP : ∀ j, j < 10 → -1 ≤ σ 7 j ∧ σ 7 j < σ 0 7 := hP_
  have ho_x := h_x.1; have hp_x := h_x.2
  have ho_n := h_n.1; have hp_n := h_n.2
  refine mt_of (own := RX4) (by decide) rfl (Nat.le_of_ble_eq_true rfl) (fun E C => ?_)
  show J g E (pT (if (0 ≤ x ∧ x < σ 0 7) ∧ 0 ≤ n ∧ n ≤ 40 then (bst (vSeat (σ 0 7) (σ 0 8) (σ 0 9) (σ 3) (σ 4) (σ 1, σ 5, σ 6) x.toNat n.toNat) 0 12).1 else (-1000001 - ((0 : Nat) : Int))) (if (0 ≤ x ∧ x < σ 0 7) ∧ 0 ≤ n ∧ n ≤ 40 then σ else fin 0 σ)) 3 0 [(0, .ref (gA g 40)), (1, .int (iI (x))), (2, .int (iI (n)))] [] σ
  refine r_aload_n (pc := 0) C dX4_seat_0 rfl 0 rfl ?_
  refine r_iload_n (pc := 1) C dX4_seat_1 rfl 1 rfl ?_
  refine r_cVi (pc := 2) C (c_isTenant g x h_x σ (by omega)) yX4_isTenant_w O_40 rfl rfl t_292 ⟨by decide, by decide⟩ (Nat.le_of_ble_eq_true rfl) rfl dX4_seat_2 ?_
  refine r_ifz_eq (pc := 5) C 18 dX4_seat_5 (by decide) (fun h5 => ?_) (fun h5 => ?_)
  · skip
    refine r_aload_n (pc := 18) C dX4_seat_18 rfl 0 rfl ?_
    refine r_iconst (pc := 19) C dX4_seat_19 ?_
    refine r_cVi (pc := 20) C (c_finding g 0 (by decide) σ) yX4_finding_w O_40 rfl rfl t_251 ⟨by decide, by decide⟩ (Nat.le_of_ble_eq_true rfl) rfl dX4_seat_20 ?_
    exact r_retT (pc := 23) C (by first | (exfalso; omega; done) | ((try (first | rw [if_pos (by omega)] | rw [if_neg (by omega)])); (try (first | rw [if_pos (by omega)] | rw [if_neg (by omega)])); (try (first | rw [if_pos (by omega)] | rw [if_neg (by omega)])); (try (first | rw [if_pos (by omega)] | rw [if_neg (by omega)])); (try rfl))) (fun k _ => congrFun (by first | (exfalso; omega; done) | ((try (first | rw [if_pos (by omega)] | rw [if_neg (by omega)])); (try (first | rw [if_pos (by omega)] | rw [if_neg (by omega)])); (try (first | rw [if_pos (by omega)] | rw [if_neg (by omega)])); (try (first | rw [if_pos (by omega)] | rw [if_neg (by omega)])); (try rfl))) k) dX4_seat_23
  · skip
    refine r_iload_n (pc := 8) C dX4_seat_8 rfl 2 rfl ?_
    refine r_iconst (pc := 9) C dX4_seat_9 ?_
    refine r_bipush (pc := 10) C dX4_seat_10 (by decide) ?_
    refine r_cSi (pc := 12) C (c_isWithin g n 0 40 h_n ⟨by omega, by omega⟩ ⟨by omega, by omega⟩ σ) yX4_isWithin_w rfl t_248 ⟨by decide, by decide⟩ (Nat.le_of_ble_eq_true rfl) rfl dX4_seat_12 ?_
    refine r_ifz_ne (pc := 15) C 24 dX4_seat_15 (by decide) (fun h15 => ?_) (fun h15 => ?_)
    · skip
      refine r_aload_n (pc := 24) C dX4_seat_24 rfl 0 rfl ?_
      refine r_iload_n (pc := 25) C dX4_seat_25 rfl 1 rfl ?_
      refine r_iload_n (pc := 26) C dX4_seat_26 rfl 2 rfl ?_
      refine r_iconst (pc := 27) C dX4_seat_27 ?_
      refine r_iconst (pc := 28) C dX4_seat_28 ?_
      refine r_bipush (pc := 29) C dX4_seat_29 (by decide) ?_
      refine r_cVt (pc := 31) C (c_bestFor_0 g x.toNat n.toNat (by omega) σ hW (by omega)) yX4_bestFor_w O_40 rfl rfl t_461 ⟨by decide, by decide⟩ (Nat.le_of_ble_eq_true rfl) (by rw [show ((x.toNat : Nat) : Int) = x by omega, show ((n.toNat : Nat) : Int) = n by omega]; rfl) dX4_seat_31 (fun s31 hT31 => ?_)
      exact r_retT (pc := 34) C (by rw [if_pos (by omega)]) (fun k hk => by rw [if_pos (by omega)]; exact hT31 k hk) dX4_seat_34
    · skip
      refine r_aload_n (pc := 18) C dX4_seat_18 rfl 0 rfl ?_
      refine r_iconst (pc := 19) C dX4_seat_19 ?_
      refine r_cVi (pc := 20) C (c_finding g 0 (by decide) σ) yX4_finding_w O_40 rfl rfl t_251 ⟨by decide, by decide⟩ (Nat.le_of_ble_eq_true rfl) rfl dX4_seat_20 ?_
      exact r_retT (pc := 23) C (by first | (exfalso; omega; done) | ((try (first | rw [if_pos (by omega)] | rw [if_neg (by omega)])); (try (first | rw [if_pos (by omega)] | rw [if_neg (by omega)])); (try (first | rw [if_pos (by omega)] | rw [if_neg (by omega)])); (try (first | rw [if_pos (by omega)] | rw [if_neg (by omega)])); (try rfl))) (fun k _ => congrFun (by first | (exfalso; omega; done) | ((try (first | rw [if_pos (by omega)] | rw [if_neg (by omega)])); (try (first | rw [if_pos (by omega)] | rw [if_neg (by omega)])); (try (first | rw [if_pos (by omega)] | rw [if_neg (by omega)])); (try (first | rw [if_pos (by omega)] | rw [if_neg (by omega)])); (try rfl))) k) dX4_seat_23
set_option maxHeartbeats 4000000 in
set_option maxRecDepth 100000 in
theorem d_kindFor (g : Gt) (x n : Int) (h_x : rng x) (h_n : rng n) (σ : Sg) (hW : RW σ 0)  : Mt g yX4_kindFor cX4_kindFor 3 (some FieldType.int) 6 [.ref (gA g 40), .int (iI (x)), .int (iI (n))] σ (pT (if (0 ≤ x ∧ x < σ 0 7) ∧ 0 ≤ n ∧ n ≤ 40 then (bst (vKind (σ 0 7) (σ 0 8) (σ 0 9) (σ 3) (σ 4) (σ 1, σ 5, σ 6) x.toNat n.toNat) 0 7).1 else (-1000001 - ((0 : Nat) : Int))) (if (0 ≤ x ∧ x < σ 0 7) ∧ 0 ≤ n ∧ n ≤ 40 then σ else fin 0 σ)) := by
  obtain ⟨hn, hfl, hw, hdy, hz, hD_, hK_, hA_, hG_, hM_, hP_⟩ := id hW
  have hD : rgD (σ 1) := hD_
  have hK : rgK (σ 3) := hK_
  have hA : rgA (σ 4) := hA_
  have hG : rgG (σ 5) := hG_
  have hM : rgM (σ 6) := hM_
  have hP : ∀ j, j < 10 → -1 ≤ σ 7 j ∧ σ 7 j < σ 0 7 := hP_
  have ho_x := h_x.1; have hp_x := h_x.2
  have ho_n := h_n.1; have hp_n := h_n.2
  refine mt_of (own := RX4) (by decide) rfl (Nat.le_of_ble_eq_true rfl) (fun E C => ?_)
  show J g E (pT (if (0 ≤ x ∧ x < σ 0 7) ∧ 0 ≤ n ∧ n ≤ 40 then (bst (vKind (σ 0 7) (σ 0 8) (σ 0 9) (σ 3) (σ 4) (σ 1, σ 5, σ 6) x.toNat n.toNat) 0 7).1 else (-1000001 - ((0 : Nat) : Int))) (if (0 ≤ x ∧ x < σ 0 7) ∧ 0 ≤ n ∧ n ≤ 40 then σ else fin 0 σ)) 3 0 [(0, .ref (gA g 40)), (1, .int (iI (x))), (2, .int (iI (n)))] [] σ
  refine r_aload_n (pc := 0) C dX4_kindFor_0 rfl 0 rfl ?_
  refine r_iload_n (pc := 1) C dX4_kindFor_1 rfl 1 rfl ?_
  refine r_cVi (pc := 2) C (c_isTenant g x h_x σ (by omega)) yX4_isTenant_w O_40 rfl rfl t_292 ⟨by decide, by decide⟩ (Nat.le_of_ble_eq_true rfl) rfl dX4_kindFor_2 ?_
  refine r_ifz_eq (pc := 5) C 18 dX4_kindFor_5 (by decide) (fun h5 => ?_) (fun h5 => ?_)
  · skip
    refine r_aload_n (pc := 18) C dX4_kindFor_18 rfl 0 rfl ?_
    refine r_iconst (pc := 19) C dX4_kindFor_19 ?_
    refine r_cVi (pc := 20) C (c_finding g 0 (by decide) σ) yX4_finding_w O_40 rfl rfl t_251 ⟨by decide, by decide⟩ (Nat.le_of_ble_eq_true rfl) rfl dX4_kindFor_20 ?_
    exact r_retT (pc := 23) C (by first | (exfalso; omega; done) | ((try (first | rw [if_pos (by omega)] | rw [if_neg (by omega)])); (try (first | rw [if_pos (by omega)] | rw [if_neg (by omega)])); (try (first | rw [if_pos (by omega)] | rw [if_neg (by omega)])); (try (first | rw [if_pos (by omega)] | rw [if_neg (by omega)])); (try rfl))) (fun k _ => congrFun (by first | (exfalso; omega; done) | ((try (first | rw [if_pos (by omega)] | rw [if_neg (by omega)])); (try (first | rw [if_pos (by omega)] | rw [if_neg (by omega)])); (try (first | rw [if_pos (by omega)] | rw [if_neg (by omega)])); (try (first | rw [if_pos (by omega)] | rw [if_neg (by omega)])); (try rfl))) k) dX4_kindFor_23
  · skip
    refine r_iload_n (pc := 8) C dX4_kindFor_8 rfl 2 rfl ?_
    refine r_iconst (pc := 9) C dX4_kindFor_9 ?_
    refine r_bipush (pc := 10) C dX4_kindFor_10 (by decide) ?_
    refine r_cSi (pc := 12) C (c_isWithin g n 0 40 h_n ⟨by omega, by omega⟩ ⟨by omega, by omega⟩ σ) yX4_isWithin_w rfl t_248 ⟨by decide, by decide⟩ (Nat.le_of_ble_eq_true rfl) rfl dX4_kindFor_12 ?_
    refine r_ifz_ne (pc := 15) C 24 dX4_kindFor_15 (by decide) (fun h15 => ?_) (fun h15 => ?_)
    · skip
      refine r_aload_n (pc := 24) C dX4_kindFor_24 rfl 0 rfl ?_
      refine r_iload_n (pc := 25) C dX4_kindFor_25 rfl 1 rfl ?_
      refine r_iload_n (pc := 26) C dX4_kindFor_26 rfl 2 rfl ?_
      refine r_iconst (pc := 27) C dX4_kindFor_27 ?_
      refine r_iconst (pc := 28) C dX4_kindFor_28 ?_
      refine r_bipush (pc := 29) C dX4_kindFor_29 (by decide) ?_
      refine r_cVt (pc := 31) C (c_bestFor_1 g x.toNat n.toNat (by omega) σ hW (by omega)) yX4_bestFor_w O_40 rfl rfl t_461 ⟨by decide, by decide⟩ (Nat.le_of_ble_eq_true rfl) (by rw [show ((x.toNat : Nat) : Int) = x by omega, show ((n.toNat : Nat) : Int) = n by omega]; rfl) dX4_kindFor_31 (fun s31 hT31 => ?_)
      exact r_retT (pc := 34) C (by rw [if_pos (by omega)]) (fun k hk => by rw [if_pos (by omega)]; exact hT31 k hk) dX4_kindFor_34
    · skip
      refine r_aload_n (pc := 18) C dX4_kindFor_18 rfl 0 rfl ?_
      refine r_iconst (pc := 19) C dX4_kindFor_19 ?_
      refine r_cVi (pc := 20) C (c_finding g 0 (by decide) σ) yX4_finding_w O_40 rfl rfl t_251 ⟨by decide, by decide⟩ (Nat.le_of_ble_eq_true rfl) rfl dX4_kindFor_20 ?_
      exact r_retT (pc := 23) C (by first | (exfalso; omega; done) | ((try (first | rw [if_pos (by omega)] | rw [if_neg (by omega)])); (try (first | rw [if_pos (by omega)] | rw [if_neg (by omega)])); (try (first | rw [if_pos (by omega)] | rw [if_neg (by omega)])); (try (first | rw [if_pos (by omega)] | rw [if_neg (by omega)])); (try rfl))) (fun k _ => congrFun (by first | (exfalso; omega; done) | ((try (first | rw [if_pos (by omega)] | rw [if_neg (by omega)])); (try (first | rw [if_pos (by omega)] | rw [if_neg (by omega)])); (try (first | rw [if_pos (by omega)] | rw [if_neg (by omega)])); (try (first | rw [if_pos (by omega)] | rw [if_neg (by omega)])); (try rfl))) k) dX4_kindFor_23
set_option maxHeartbeats 4000000 in
set_option maxRecDepth 100000 in
theorem d_draught (g : Gt) (x n : Int) (h_x : rng x) (h_n : rng n) (σ : Sg) (hW : RW σ 0)  : Mt g yX4_draught cX4_draught 3 (some FieldType.int) 6 [.ref (gA g 40), .int (iI (x)), .int (iI (n))] σ (pT (if (0 ≤ x ∧ x < σ 0 7) ∧ 0 ≤ n ∧ n ≤ 40 then (bst (vDrau (σ 0 7) (σ 0 8) (σ 0 9) (σ 3) (σ 4) (σ 1, σ 5, σ 6) x.toNat n.toNat) (-3) 7).1 else (-1000001 - ((0 : Nat) : Int))) (if (0 ≤ x ∧ x < σ 0 7) ∧ 0 ≤ n ∧ n ≤ 40 then σ else fin 0 σ)) := by
  obtain ⟨hn, hfl, hw, hdy, hz, hD_, hK_, hA_, hG_, hM_, hP_⟩ := id hW
  have hD : rgD (σ 1) := hD_
  have hK : rgK (σ 3) := hK_
  have hA : rgA (σ 4) := hA_
  have hG : rgG (σ 5) := hG_
  have hM : rgM (σ 6) := hM_
  have hP : ∀ j, j < 10 → -1 ≤ σ 7 j ∧ σ 7 j < σ 0 7 := hP_
  have ho_x := h_x.1; have hp_x := h_x.2
  have ho_n := h_n.1; have hp_n := h_n.2
  refine mt_of (own := RX4) (by decide) rfl (Nat.le_of_ble_eq_true rfl) (fun E C => ?_)
  show J g E (pT (if (0 ≤ x ∧ x < σ 0 7) ∧ 0 ≤ n ∧ n ≤ 40 then (bst (vDrau (σ 0 7) (σ 0 8) (σ 0 9) (σ 3) (σ 4) (σ 1, σ 5, σ 6) x.toNat n.toNat) (-3) 7).1 else (-1000001 - ((0 : Nat) : Int))) (if (0 ≤ x ∧ x < σ 0 7) ∧ 0 ≤ n ∧ n ≤ 40 then σ else fin 0 σ)) 3 0 [(0, .ref (gA g 40)), (1, .int (iI (x))), (2, .int (iI (n)))] [] σ
  refine r_aload_n (pc := 0) C dX4_draught_0 rfl 0 rfl ?_
  refine r_iload_n (pc := 1) C dX4_draught_1 rfl 1 rfl ?_
  refine r_cVi (pc := 2) C (c_isTenant g x h_x σ (by omega)) yX4_isTenant_w O_40 rfl rfl t_292 ⟨by decide, by decide⟩ (Nat.le_of_ble_eq_true rfl) rfl dX4_draught_2 ?_
  refine r_ifz_eq (pc := 5) C 18 dX4_draught_5 (by decide) (fun h5 => ?_) (fun h5 => ?_)
  · skip
    refine r_aload_n (pc := 18) C dX4_draught_18 rfl 0 rfl ?_
    refine r_iconst (pc := 19) C dX4_draught_19 ?_
    refine r_cVi (pc := 20) C (c_finding g 0 (by decide) σ) yX4_finding_w O_40 rfl rfl t_251 ⟨by decide, by decide⟩ (Nat.le_of_ble_eq_true rfl) rfl dX4_draught_20 ?_
    exact r_retT (pc := 23) C (by first | (exfalso; omega; done) | ((try (first | rw [if_pos (by omega)] | rw [if_neg (by omega)])); (try (first | rw [if_pos (by omega)] | rw [if_neg (by omega)])); (try (first | rw [if_pos (by omega)] | rw [if_neg (by omega)])); (try (first | rw [if_pos (by omega)] | rw [if_neg (by omega)])); (try rfl))) (fun k _ => congrFun (by first | (exfalso; omega; done) | ((try (first | rw [if_pos (by omega)] | rw [if_neg (by omega)])); (try (first | rw [if_pos (by omega)] | rw [if_neg (by omega)])); (try (first | rw [if_pos (by omega)] | rw [if_neg (by omega)])); (try (first | rw [if_pos (by omega)] | rw [if_neg (by omega)])); (try rfl))) k) dX4_draught_23
  · skip
    refine r_iload_n (pc := 8) C dX4_draught_8 rfl 2 rfl ?_
    refine r_iconst (pc := 9) C dX4_draught_9 ?_
    refine r_bipush (pc := 10) C dX4_draught_10 (by decide) ?_
    refine r_cSi (pc := 12) C (c_isWithin g n 0 40 h_n ⟨by omega, by omega⟩ ⟨by omega, by omega⟩ σ) yX4_isWithin_w rfl t_248 ⟨by decide, by decide⟩ (Nat.le_of_ble_eq_true rfl) rfl dX4_draught_12 ?_
    refine r_ifz_ne (pc := 15) C 24 dX4_draught_15 (by decide) (fun h15 => ?_) (fun h15 => ?_)
    · skip
      refine r_aload_n (pc := 24) C dX4_draught_24 rfl 0 rfl ?_
      refine r_iload_n (pc := 25) C dX4_draught_25 rfl 1 rfl ?_
      refine r_iload_n (pc := 26) C dX4_draught_26 rfl 2 rfl ?_
      refine r_iconst (pc := 27) C dX4_draught_27 ?_
      refine r_bipush (pc := 28) C dX4_draught_28 (by decide) ?_
      refine r_iconst (pc := 30) C dX4_draught_30 ?_
      refine r_cVt (pc := 31) C (c_bestFor_2 g x.toNat n.toNat (by omega) σ hW (by omega)) yX4_bestFor_w O_40 rfl rfl t_461 ⟨by decide, by decide⟩ (Nat.le_of_ble_eq_true rfl) (by rw [show ((x.toNat : Nat) : Int) = x by omega, show ((n.toNat : Nat) : Int) = n by omega]; rfl) dX4_draught_31 (fun s31 hT31 => ?_)
      exact r_retT (pc := 34) C (by rw [if_pos (by omega)]) (fun k hk => by rw [if_pos (by omega)]; exact hT31 k hk) dX4_draught_34
    · skip
      refine r_aload_n (pc := 18) C dX4_draught_18 rfl 0 rfl ?_
      refine r_iconst (pc := 19) C dX4_draught_19 ?_
      refine r_cVi (pc := 20) C (c_finding g 0 (by decide) σ) yX4_finding_w O_40 rfl rfl t_251 ⟨by decide, by decide⟩ (Nat.le_of_ble_eq_true rfl) rfl dX4_draught_20 ?_
      exact r_retT (pc := 23) C (by first | (exfalso; omega; done) | ((try (first | rw [if_pos (by omega)] | rw [if_neg (by omega)])); (try (first | rw [if_pos (by omega)] | rw [if_neg (by omega)])); (try (first | rw [if_pos (by omega)] | rw [if_neg (by omega)])); (try (first | rw [if_pos (by omega)] | rw [if_neg (by omega)])); (try rfl))) (fun k _ => congrFun (by first | (exfalso; omega; done) | ((try (first | rw [if_pos (by omega)] | rw [if_neg (by omega)])); (try (first | rw [if_pos (by omega)] | rw [if_neg (by omega)])); (try (first | rw [if_pos (by omega)] | rw [if_neg (by omega)])); (try (first | rw [if_pos (by omega)] | rw [if_neg (by omega)])); (try rfl))) k) dX4_draught_23
set_option maxHeartbeats 4000000 in
set_option maxRecDepth 100000 in
theorem d_swapFor (g : Gt) (x n : Int) (h_x : rng x) (h_n : rng n) (σ : Sg) (hW : RW σ 0)  : Mt g yX4_swapFor cX4_swapFor 3 (some FieldType.int) 6 [.ref (gA g 40), .int (iI (x)), .int (iI (n))] σ (pT (if (0 ≤ x ∧ x < σ 0 7) ∧ 0 ≤ n ∧ n ≤ 40 then (if σ 0 7 < 2 then (-1000001 - ((3 : Nat) : Int)) else (bstX (vSwap (σ 0 7) (σ 0 8) (σ 0 9) (σ 3) (σ 4) (σ 1, σ 5, σ 6) x.toNat n.toNat) x.toNat (σ 0 7).toNat).1) else (-1000001 - ((0 : Nat) : Int))) (if (0 ≤ x ∧ x < σ 0 7) ∧ 0 ≤ n ∧ n ≤ 40 then (if σ 0 7 < 2 then fin 3 σ else σ) else fin 0 σ)) := by
  obtain ⟨hn, hfl, hw, hdy, hz, hD_, hK_, hA_, hG_, hM_, hP_⟩ := id hW
  have hD : rgD (σ 1) := hD_
  have hK : rgK (σ 3) := hK_
  have hA : rgA (σ 4) := hA_
  have hG : rgG (σ 5) := hG_
  have hM : rgM (σ 6) := hM_
  have hP : ∀ j, j < 10 → -1 ≤ σ 7 j ∧ σ 7 j < σ 0 7 := hP_
  have ho_x := h_x.1; have hp_x := h_x.2
  have ho_n := h_n.1; have hp_n := h_n.2
  refine mt_of (own := RX4) (by decide) rfl (Nat.le_of_ble_eq_true rfl) (fun E C => ?_)
  show J g E (pT (if (0 ≤ x ∧ x < σ 0 7) ∧ 0 ≤ n ∧ n ≤ 40 then (if σ 0 7 < 2 then (-1000001 - ((3 : Nat) : Int)) else (bstX (vSwap (σ 0 7) (σ 0 8) (σ 0 9) (σ 3) (σ 4) (σ 1, σ 5, σ 6) x.toNat n.toNat) x.toNat (σ 0 7).toNat).1) else (-1000001 - ((0 : Nat) : Int))) (if (0 ≤ x ∧ x < σ 0 7) ∧ 0 ≤ n ∧ n ≤ 40 then (if σ 0 7 < 2 then fin 3 σ else σ) else fin 0 σ)) 3 0 [(0, .ref (gA g 40)), (1, .int (iI (x))), (2, .int (iI (n)))] [] σ
  refine r_aload_n (pc := 0) C dX4_swapFor_0 rfl 0 rfl ?_
  refine r_iload_n (pc := 1) C dX4_swapFor_1 rfl 1 rfl ?_
  refine r_cVi (pc := 2) C (c_isTenant g x h_x σ (by omega)) yX4_isTenant_w O_40 rfl rfl t_292 ⟨by decide, by decide⟩ (Nat.le_of_ble_eq_true rfl) rfl dX4_swapFor_2 ?_
  refine r_ifz_eq (pc := 5) C 18 dX4_swapFor_5 (by decide) (fun h5 => ?_) (fun h5 => ?_)
  · skip
    refine r_aload_n (pc := 18) C dX4_swapFor_18 rfl 0 rfl ?_
    refine r_iconst (pc := 19) C dX4_swapFor_19 ?_
    refine r_cVi (pc := 20) C (c_finding g 0 (by decide) σ) yX4_finding_w O_40 rfl rfl t_251 ⟨by decide, by decide⟩ (Nat.le_of_ble_eq_true rfl) rfl dX4_swapFor_20 ?_
    exact r_retT (pc := 23) C (by first | (exfalso; omega; done) | ((try (first | rw [if_pos (by omega)] | rw [if_neg (by omega)])); (try (first | rw [if_pos (by omega)] | rw [if_neg (by omega)])); (try (first | rw [if_pos (by omega)] | rw [if_neg (by omega)])); (try (first | rw [if_pos (by omega)] | rw [if_neg (by omega)])); (try rfl))) (fun k _ => congrFun (by first | (exfalso; omega; done) | ((try (first | rw [if_pos (by omega)] | rw [if_neg (by omega)])); (try (first | rw [if_pos (by omega)] | rw [if_neg (by omega)])); (try (first | rw [if_pos (by omega)] | rw [if_neg (by omega)])); (try (first | rw [if_pos (by omega)] | rw [if_neg (by omega)])); (try rfl))) k) dX4_swapFor_23
  · skip
    refine r_iload_n (pc := 8) C dX4_swapFor_8 rfl 2 rfl ?_
    refine r_iconst (pc := 9) C dX4_swapFor_9 ?_
    refine r_bipush (pc := 10) C dX4_swapFor_10 (by decide) ?_
    refine r_cSi (pc := 12) C (c_isWithin g n 0 40 h_n ⟨by omega, by omega⟩ ⟨by omega, by omega⟩ σ) yX4_isWithin_w rfl t_248 ⟨by decide, by decide⟩ (Nat.le_of_ble_eq_true rfl) rfl dX4_swapFor_12 ?_
    refine r_ifz_ne (pc := 15) C 24 dX4_swapFor_15 (by decide) (fun h15 => ?_) (fun h15 => ?_)
    · skip
      refine r_aload_n (pc := 24) C dX4_swapFor_24 rfl 0 rfl ?_
      refine r_getR4 (pc := 25) C 0 (k' := 0) rfl O_40 (by decide) rfl t_216 dX4_swapFor_25 ?_
      refine r_getI0 (pc := 28) C 7 rfl O_0 (by decide) rfl t_120 dX4_swapFor_28 ?_
      refine r_iconst (pc := 31) C dX4_swapFor_31 ?_
      refine r_icmp_ge (pc := 32) C 41 ⟨by omega, by omega⟩ ⟨by omega, by omega⟩ dX4_swapFor_32 (by decide) (fun h32 => ?_) (fun h32 => ?_)
      · skip
        refine r_aload_n (pc := 41) C dX4_swapFor_41 rfl 0 rfl ?_
        refine r_iload_n (pc := 42) C dX4_swapFor_42 rfl 1 rfl ?_
        refine r_iload_n (pc := 43) C dX4_swapFor_43 rfl 2 rfl ?_
        refine r_iconst (pc := 44) C dX4_swapFor_44 ?_
        refine r_iconst (pc := 45) C dX4_swapFor_45 ?_
        refine r_aload_n (pc := 46) C dX4_swapFor_46 rfl 0 rfl ?_
        refine r_getR4 (pc := 47) C 0 (k' := 0) rfl O_40 (by decide) rfl t_216 dX4_swapFor_47 ?_
        refine r_getI0 (pc := 50) C 7 rfl O_0 (by decide) rfl t_120 dX4_swapFor_50 ?_
        refine r_iconst (pc := 53) C dX4_swapFor_53 ?_
        refine r_isub (pc := 54) C dX4_swapFor_54 ?_
        refine r_cVt (pc := 55) C (c_bestFor_3 g x.toNat n.toNat (by omega) σ hW (by omega)) yX4_bestFor_w O_40 rfl rfl t_461 ⟨by decide, by decide⟩ (Nat.le_of_ble_eq_true rfl) (by rw [show ((x.toNat : Nat) : Int) = x by omega, show ((n.toNat : Nat) : Int) = n by omega]; rfl) dX4_swapFor_55 (fun s55 hT55 => ?_)
        exact r_retT (pc := 58) C (by rw [if_pos (by omega), if_neg (by omega)]) (fun k hk => by rw [if_pos (by omega), if_neg (by omega)]; exact hT55 k hk) dX4_swapFor_58
      · skip
        refine r_aload_n (pc := 35) C dX4_swapFor_35 rfl 0 rfl ?_
        refine r_iconst (pc := 36) C dX4_swapFor_36 ?_
        refine r_cVi (pc := 37) C (c_finding g 3 (by decide) σ) yX4_finding_w O_40 rfl rfl t_251 ⟨by decide, by decide⟩ (Nat.le_of_ble_eq_true rfl) rfl dX4_swapFor_37 ?_
        exact r_retT (pc := 40) C (by first | (exfalso; omega; done) | ((try (first | rw [if_pos (by omega)] | rw [if_neg (by omega)])); (try (first | rw [if_pos (by omega)] | rw [if_neg (by omega)])); (try (first | rw [if_pos (by omega)] | rw [if_neg (by omega)])); (try (first | rw [if_pos (by omega)] | rw [if_neg (by omega)])); (try rfl))) (fun k _ => congrFun (by first | (exfalso; omega; done) | ((try (first | rw [if_pos (by omega)] | rw [if_neg (by omega)])); (try (first | rw [if_pos (by omega)] | rw [if_neg (by omega)])); (try (first | rw [if_pos (by omega)] | rw [if_neg (by omega)])); (try (first | rw [if_pos (by omega)] | rw [if_neg (by omega)])); (try rfl))) k) dX4_swapFor_40
    · skip
      refine r_aload_n (pc := 18) C dX4_swapFor_18 rfl 0 rfl ?_
      refine r_iconst (pc := 19) C dX4_swapFor_19 ?_
      refine r_cVi (pc := 20) C (c_finding g 0 (by decide) σ) yX4_finding_w O_40 rfl rfl t_251 ⟨by decide, by decide⟩ (Nat.le_of_ble_eq_true rfl) rfl dX4_swapFor_20 ?_
      exact r_retT (pc := 23) C (by first | (exfalso; omega; done) | ((try (first | rw [if_pos (by omega)] | rw [if_neg (by omega)])); (try (first | rw [if_pos (by omega)] | rw [if_neg (by omega)])); (try (first | rw [if_pos (by omega)] | rw [if_neg (by omega)])); (try (first | rw [if_pos (by omega)] | rw [if_neg (by omega)])); (try rfl))) (fun k _ => congrFun (by first | (exfalso; omega; done) | ((try (first | rw [if_pos (by omega)] | rw [if_neg (by omega)])); (try (first | rw [if_pos (by omega)] | rw [if_neg (by omega)])); (try (first | rw [if_pos (by omega)] | rw [if_neg (by omega)])); (try (first | rw [if_pos (by omega)] | rw [if_neg (by omega)])); (try rfl))) k) dX4_swapFor_23
set_option maxHeartbeats 4000000 in
set_option maxRecDepth 100000 in
theorem c_dustWithFall (g : Gt) (f : Int) (hf : 0 ≤ f ∧ f ≤ 99) (n : Nat) (hn : n ≤ 60) (σ : Sg) (hW : RW σ 0) : Mt g yX4_dustWithFall cX4_dustWithFall 3 (some FieldType.int) 4 [.ref (gA g 40), .int (iI (f)), .int (iI ((n : Int)))] σ (pT (sumF (dstN (σ 0 7) f (σ 0 9) (σ 3) (σ 4) 255 n (σ 1)) 12) σ) := by
  refine mt_of (own := RX4) (by decide) rfl (Nat.le_of_ble_eq_true rfl) (fun E C => ?_)
  show J g E (pT (sumF (dstN (σ 0 7) f (σ 0 9) (σ 3) (σ 4) 255 n (σ 1)) 12) σ) 3 0 [(0, .ref (gA g 40)), (1, .int (iI (f))), (2, .int (iI ((n : Int))))] [] σ
  refine r_aload_n (pc := 0) C dX4_dustWithFall_0 rfl 0 rfl ?_
  refine r_getR4 (pc := 1) C 1 (k' := 8) rfl O_40 (by decide) rfl t_217 dX4_dustWithFall_1 ?_
  refine r_aload_n (pc := 4) C dX4_dustWithFall_4 rfl 0 rfl ?_
  refine r_getR4 (pc := 5) C 0 (k' := 0) rfl O_40 (by decide) rfl t_216 dX4_dustWithFall_5 ?_
  refine r_cVv (pc := 8) C (c_become_8_0 g σ) yX0_become_w O_8 rfl rfl t_421 ⟨by decide, by decide⟩ (Nat.le_of_ble_eq_true rfl) rfl dX4_dustWithFall_8 ?_
  refine r_aload_n (pc := 11) C dX4_dustWithFall_11 rfl 0 rfl ?_
  refine r_getR4 (pc := 12) C 1 (k' := 8) rfl O_40 (by decide) rfl t_217 dX4_dustWithFall_12 ?_
  refine r_iload_n (pc := 15) C dX4_dustWithFall_15 rfl 1 rfl ?_
  refine r_put0 (pc := 16) C 8 rfl O_8 (by decide) rfl t_123 rfl (by decide +kernel) dX4_dustWithFall_16 ?_
  refine r_aload_n (pc := 19) C dX4_dustWithFall_19 rfl 0 rfl ?_
  refine r_getR4 (pc := 20) C 1 (k' := 8) rfl O_40 (by decide) rfl t_217 dX4_dustWithFall_20 ?_
  refine r_iload_n (pc := 23) C dX4_dustWithFall_23 rfl 2 rfl ?_
  refine r_sipush (pc := 24) C dX4_dustWithFall_24 (by decide) ?_
  refine r_cVv (pc := 27) C (c_settleDays_8 g n (by omega) 255 ⟨by omega, by omega⟩ (wr (bc_8_0 σ) 8 8 f) (RWf hf hW)) yX0_settleDays_w O_8 rfl rfl t_428 ⟨by decide, by decide⟩ (Nat.le_of_ble_eq_true rfl) rfl dX4_dustWithFall_27 ?_
  refine r_aload_n (pc := 30) C dX4_dustWithFall_30 rfl 0 rfl ?_
  refine r_getR4 (pc := 31) C 1 (k' := 8) rfl O_40 (by decide) rfl t_217 dX4_dustWithFall_31 ?_
  refine r_cVi (pc := 34) C (c_allDust_8 g (stS_8 255 n (wr (bc_8_0 σ) 8 8 f))) yX0_allDust_w O_8 rfl rfl t_389 ⟨by decide, by decide⟩ (Nat.le_of_ble_eq_true rfl) rfl dX4_dustWithFall_34 ?_
  exact r_retT (pc := 37) C (by rw [stS_8_D]; rfl) (fun k hk => (tr_st _ _ hk _).trans ((tr_wr _ hk (by omega)).trans (tr_bc _ hk))) dX4_dustWithFall_37
set_option maxHeartbeats 4000000 in
set_option maxRecDepth 100000 in
theorem c_dustSweptBy (g : Gt) (m : Int) (hm : rng m) (n : Nat) (hn : n ≤ 60) (σ : Sg) (hW : RW σ 0) : Mt g yX4_dustSweptBy cX4_dustSweptBy 3 (some FieldType.int) 4 [.ref (gA g 40), .int (iI (m)), .int (iI ((n : Int)))] σ (pT (sumF (dstN (σ 0 7) (σ 0 8) (σ 0 9) (σ 3) (σ 4) m n (σ 1)) 12) σ) := by
  refine mt_of (own := RX4) (by decide) rfl (Nat.le_of_ble_eq_true rfl) (fun E C => ?_)
  show J g E (pT (sumF (dstN (σ 0 7) (σ 0 8) (σ 0 9) (σ 3) (σ 4) m n (σ 1)) 12) σ) 3 0 [(0, .ref (gA g 40)), (1, .int (iI (m))), (2, .int (iI ((n : Int))))] [] σ
  refine r_aload_n (pc := 0) C dX4_dustSweptBy_0 rfl 0 rfl ?_
  refine r_getR4 (pc := 1) C 1 (k' := 8) rfl O_40 (by decide) rfl t_217 dX4_dustSweptBy_1 ?_
  refine r_aload_n (pc := 4) C dX4_dustSweptBy_4 rfl 0 rfl ?_
  refine r_getR4 (pc := 5) C 0 (k' := 0) rfl O_40 (by decide) rfl t_216 dX4_dustSweptBy_5 ?_
  refine r_cVv (pc := 8) C (c_become_8_0 g σ) yX0_become_w O_8 rfl rfl t_421 ⟨by decide, by decide⟩ (Nat.le_of_ble_eq_true rfl) rfl dX4_dustSweptBy_8 ?_
  refine r_aload_n (pc := 11) C dX4_dustSweptBy_11 rfl 0 rfl ?_
  refine r_getR4 (pc := 12) C 1 (k' := 8) rfl O_40 (by decide) rfl t_217 dX4_dustSweptBy_12 ?_
  refine r_iload_n (pc := 15) C dX4_dustSweptBy_15 rfl 2 rfl ?_
  refine r_iload_n (pc := 16) C dX4_dustSweptBy_16 rfl 1 rfl ?_
  refine r_cVv (pc := 17) C (c_settleDays_8 g n (by omega) m hm (bc_8_0 σ) (bc_RW hW)) yX0_settleDays_w O_8 rfl rfl t_428 ⟨by decide, by decide⟩ (Nat.le_of_ble_eq_true rfl) rfl dX4_dustSweptBy_17 ?_
  refine r_aload_n (pc := 20) C dX4_dustSweptBy_20 rfl 0 rfl ?_
  refine r_getR4 (pc := 21) C 1 (k' := 8) rfl O_40 (by decide) rfl t_217 dX4_dustSweptBy_21 ?_
  refine r_cVi (pc := 24) C (c_allDust_8 g (stS_8 m n (bc_8_0 σ))) yX0_allDust_w O_8 rfl rfl t_389 ⟨by decide, by decide⟩ (Nat.le_of_ble_eq_true rfl) rfl dX4_dustSweptBy_24 ?_
  exact r_retT (pc := 27) C (by rw [stS_8_D]; rfl) (fun k hk => (tr_st _ _ hk _).trans (tr_bc _ hk)) dX4_dustSweptBy_27
set_option maxHeartbeats 4000000 in
set_option maxRecDepth 100000 in
theorem d_fallFor (g : Gt) (v n : Int) (h_v : rng v) (h_n : rng n) (σ : Sg) (hW : RW σ 0)  : Mt g yX4_fallFor cX4_fallFor 6 (some FieldType.int) 5 [.ref (gA g 40), .int (iI (v)), .int (iI (n))] σ (pT (if (0 ≤ v ∧ v ≤ 99999) ∧ 0 ≤ n ∧ n ≤ 40 then (if fbF (vFall (σ 0 7) (σ 0 8) (σ 0 9) (σ 3) (σ 4) (σ 1) n.toNat) v 7 = 99 then (-1000001 - ((3 : Nat) : Int)) else fbF (vFall (σ 0 7) (σ 0 8) (σ 0 9) (σ 3) (σ 4) (σ 1) n.toNat) v 7 + 1) else (-1000001 - ((0 : Nat) : Int))) (if (0 ≤ v ∧ v ≤ 99999) ∧ 0 ≤ n ∧ n ≤ 40 then (if fbF (vFall (σ 0 7) (σ 0 8) (σ 0 9) (σ 3) (σ 4) (σ 1) n.toNat) v 7 = 99 then fin 3 σ else σ) else fin 0 σ)) := by
  obtain ⟨hn, hfl, hw, hdy, hz, hD_, hK_, hA_, hG_, hM_, hP_⟩ := id hW
  have hD : rgD (σ 1) := hD_
  have hK : rgK (σ 3) := hK_
  have hA : rgA (σ 4) := hA_
  have hG : rgG (σ 5) := hG_
  have hM : rgM (σ 6) := hM_
  have hP : ∀ j, j < 10 → -1 ≤ σ 7 j ∧ σ 7 j < σ 0 7 := hP_
  have ho_v := h_v.1; have hp_v := h_v.2
  have ho_n := h_n.1; have hp_n := h_n.2
  refine mt_of (own := RX4) (by decide) rfl (Nat.le_of_ble_eq_true rfl) (fun E C => ?_)
  show J g E (pT (if (0 ≤ v ∧ v ≤ 99999) ∧ 0 ≤ n ∧ n ≤ 40 then (if fbF (vFall (σ 0 7) (σ 0 8) (σ 0 9) (σ 3) (σ 4) (σ 1) n.toNat) v 7 = 99 then (-1000001 - ((3 : Nat) : Int)) else fbF (vFall (σ 0 7) (σ 0 8) (σ 0 9) (σ 3) (σ 4) (σ 1) n.toNat) v 7 + 1) else (-1000001 - ((0 : Nat) : Int))) (if (0 ≤ v ∧ v ≤ 99999) ∧ 0 ≤ n ∧ n ≤ 40 then (if fbF (vFall (σ 0 7) (σ 0 8) (σ 0 9) (σ 3) (σ 4) (σ 1) n.toNat) v 7 = 99 then fin 3 σ else σ) else fin 0 σ)) 6 0 [(0, .ref (gA g 40)), (1, .int (iI (v))), (2, .int (iI (n)))] [] σ
  refine r_iload_n (pc := 0) C dX4_fallFor_0 rfl 1 rfl ?_
  refine r_iconst (pc := 1) C dX4_fallFor_1 ?_
  refine r_ldc (pc := 2) C 99999 t_319 (by decide) dX4_fallFor_2 ?_
  refine r_cSi (pc := 4) C (c_isWithin g v 0 99999 h_v ⟨by omega, by omega⟩ ⟨by omega, by omega⟩ σ) yX4_isWithin_w rfl t_248 ⟨by decide, by decide⟩ (Nat.le_of_ble_eq_true rfl) rfl dX4_fallFor_4 ?_
  refine r_ifz_eq (pc := 7) C 20 dX4_fallFor_7 (by decide) (fun h7 => ?_) (fun h7 => ?_)
  · skip
    refine r_aload_n (pc := 20) C dX4_fallFor_20 rfl 0 rfl ?_
    refine r_iconst (pc := 21) C dX4_fallFor_21 ?_
    refine r_cVi (pc := 22) C (c_finding g 0 (by decide) σ) yX4_finding_w O_40 rfl rfl t_251 ⟨by decide, by decide⟩ (Nat.le_of_ble_eq_true rfl) rfl dX4_fallFor_22 ?_
    exact r_retT (pc := 25) C (by first | (exfalso; omega; done) | ((try (first | rw [if_pos (by omega)] | rw [if_neg (by omega)])); (try (first | rw [if_pos (by omega)] | rw [if_neg (by omega)])); (try (first | rw [if_pos (by omega)] | rw [if_neg (by omega)])); (try (first | rw [if_pos (by omega)] | rw [if_neg (by omega)])); (try rfl))) (fun k _ => congrFun (by first | (exfalso; omega; done) | ((try (first | rw [if_pos (by omega)] | rw [if_neg (by omega)])); (try (first | rw [if_pos (by omega)] | rw [if_neg (by omega)])); (try (first | rw [if_pos (by omega)] | rw [if_neg (by omega)])); (try (first | rw [if_pos (by omega)] | rw [if_neg (by omega)])); (try rfl))) k) dX4_fallFor_25
  · skip
    refine r_iload_n (pc := 10) C dX4_fallFor_10 rfl 2 rfl ?_
    refine r_iconst (pc := 11) C dX4_fallFor_11 ?_
    refine r_bipush (pc := 12) C dX4_fallFor_12 (by decide) ?_
    refine r_cSi (pc := 14) C (c_isWithin g n 0 40 h_n ⟨by omega, by omega⟩ ⟨by omega, by omega⟩ σ) yX4_isWithin_w rfl t_248 ⟨by decide, by decide⟩ (Nat.le_of_ble_eq_true rfl) rfl dX4_fallFor_14 ?_
    refine r_ifz_ne (pc := 17) C 26 dX4_fallFor_17 (by decide) (fun h17 => ?_) (fun h17 => ?_)
    · skip
      refine r_iconst (pc := 26) C dX4_fallFor_26 ?_
      refine r_istore_n (pc := 27) C dX4_fallFor_27 rfl (by decide) [1, 2, 3, 0] (lv' := [(0, .ref (gA g 40)), (1, .int (iI (v))), (2, .int (iI (n))), (3, .int (iI ((-1))))]) rfl ?_
      refine r_bipush (pc := 28) C dX4_fallFor_28 (by decide) ?_
      refine r_istore (pc := 30) C dX4_fallFor_30 (by decide) [1, 2, 3, 4, 0] (lv' := [(0, .ref (gA g 40)), (1, .int (iI (v))), (2, .int (iI (n))), (3, .int (iI ((-1)))), (4, .int (iI (64)))]) rfl ?_
      have L32 : ∀ (n_ : Nat) (j : Nat) (x32_3 x32_4 : Int) (s32 : Sg), 7 - j < n_ → (j ≤ 7) → (∀ k, (k < 8 ∨ 16 ≤ k) → s32 k = σ k) → x32_3 = fbF (vFall (σ 0 7) (σ 0 8) (σ 0 9) (σ 3) (σ 4) (σ 1) n.toNat) v j → x32_4 = stp j → J g E (pT (if (0 ≤ v ∧ v ≤ 99999) ∧ 0 ≤ n ∧ n ≤ 40 then (if fbF (vFall (σ 0 7) (σ 0 8) (σ 0 9) (σ 3) (σ 4) (σ 1) n.toNat) v 7 = 99 then (-1000001 - ((3 : Nat) : Int)) else fbF (vFall (σ 0 7) (σ 0 8) (σ 0 9) (σ 3) (σ 4) (σ 1) n.toNat) v 7 + 1) else (-1000001 - ((0 : Nat) : Int))) (if (0 ≤ v ∧ v ≤ 99999) ∧ 0 ≤ n ∧ n ≤ 40 then (if fbF (vFall (σ 0 7) (σ 0 8) (σ 0 9) (σ 3) (σ 4) (σ 1) n.toNat) v 7 = 99 then fin 3 σ else σ) else fin 0 σ)) 6 32 [(0, .ref (gA g 40)), (1, .int (iI (v))), (2, .int (iI (n))), (3, .int (iI (x32_3))), (4, .int (iI (x32_4)))] [] s32 := by
        intro n_
        induction n_ with
        | zero => intro j x32_3 x32_4 s32 hm_; exact absurd hm_ (Nat.not_lt_zero _)
        | succ n_ ih32 =>
          intro j x32_3 x32_4 s32 hm32 hi32_0 hi32_1 e32_0 e32_1 
          subst e32_0 e32_1 
          have hr := fbF_rng (vFall (σ 0 7) (σ 0 8) (σ 0 9) (σ 3) (σ 4) (σ 1) n.toNat) v j (by omega)
          have hst : 0 ≤ stp j ∧ stp j ≤ 64 ∧ (0 < stp j ↔ j < 7) := if q : j < 7 then (by have := stp_pos q; omega) else (by rw [show j = 7 by omega]; decide)
          have hWs := RW_cong hi32_1 hW
          refine r_iload (pc := 32) C dX4_fallFor_32 4 rfl ?_
          refine r_if_le (pc := 34) C 73 ⟨by omega, by omega⟩ dX4_fallFor_34 (by decide) (fun h34 => ?_) (fun h34 => ?_)
          · skip
            have hj7 : j = 7 := by omega
            subst hj7
            refine r_iload_n (pc := 73) C dX4_fallFor_73 rfl 3 rfl ?_
            refine r_bipush (pc := 74) C dX4_fallFor_74 (by decide) ?_
            refine r_icmp_ne (pc := 76) C 87 ⟨by omega, by omega⟩ ⟨by omega, by omega⟩ dX4_fallFor_76 (by decide) (fun h76 => ?_) (fun h76 => ?_)
            · skip
              refine r_iload_n (pc := 87) C dX4_fallFor_87 rfl 3 rfl ?_
              refine r_iconst (pc := 88) C dX4_fallFor_88 ?_
              refine r_iadd (pc := 89) C dX4_fallFor_89 ?_
              exact r_retT (pc := 90) C (by first | (rw [if_pos (by omega), if_pos (by omega)]; done) | (rw [if_pos (by omega), if_neg (by omega)]; done)) (fun k hk => by first | (rw [if_pos (by omega), if_pos (by omega)]; exact tr_fin 3 hi32_1 k hk) | (rw [if_pos (by omega), if_neg (by omega)]; exact hi32_1 k hk)) dX4_fallFor_90
            · skip
              refine r_aload_n (pc := 79) C dX4_fallFor_79 rfl 0 rfl ?_
              refine r_iconst (pc := 80) C dX4_fallFor_80 ?_
              refine r_cVi (pc := 81) C (c_finding g 3 (by decide) s32) yX4_finding_w O_40 rfl rfl t_251 ⟨by decide, by decide⟩ (Nat.le_of_ble_eq_true rfl) rfl dX4_fallFor_81 ?_
              refine r_goto (pc := 84) C 90 dX4_fallFor_84 (by decide) ?_
              exact r_retT (pc := 90) C (by first | (rw [if_pos (by omega), if_pos (by omega)]; done) | (rw [if_pos (by omega), if_neg (by omega)]; done)) (fun k hk => by first | (rw [if_pos (by omega), if_pos (by omega)]; exact tr_fin 3 hi32_1 k hk) | (rw [if_pos (by omega), if_neg (by omega)]; exact hi32_1 k hk)) dX4_fallFor_90
          · skip
            refine r_iload_n (pc := 37) C dX4_fallFor_37 rfl 3 rfl ?_
            refine r_iload (pc := 38) C dX4_fallFor_38 4 rfl ?_
            refine r_iadd (pc := 40) C dX4_fallFor_40 ?_
            refine r_istore (pc := 41) C dX4_fallFor_41 (by decide) [1, 2, 3, 4, 5, 0] (lv' := [(0, .ref (gA g 40)), (1, .int (iI (v))), (2, .int (iI (n))), (3, .int (iI (fbF (vFall (σ 0 7) (σ 0 8) (σ 0 9) (σ 3) (σ 4) (σ 1) n.toNat) v j))), (4, .int (iI (stp j))), (5, .int (iI ((fbF (vFall (σ 0 7) (σ 0 8) (σ 0 9) (σ 3) (σ 4) (σ 1) n.toNat) v j) + (stp j))))]) rfl ?_
            refine r_iload (pc := 43) C dX4_fallFor_43 5 rfl ?_
            refine r_bipush (pc := 45) C dX4_fallFor_45 (by decide) ?_
            refine r_icmp_gt (pc := 47) C 64 ⟨by omega, by omega⟩ ⟨by omega, by omega⟩ dX4_fallFor_47 (by decide) (fun h47 => ?_) (fun h47 => ?_)
            · skip
              refine r_iload (pc := 64) C dX4_fallFor_64 4 rfl ?_
              refine r_iconst (pc := 66) C dX4_fallFor_66 ?_
              refine r_idiv (pc := 67) C (by omega) (by omega) (by omega) (by omega) dX4_fallFor_67 ?_
              refine r_istore (pc := 68) C dX4_fallFor_68 (by decide) [1, 2, 3, 4, 0, 5] (lv' := [(0, .ref (gA g 40)), (1, .int (iI (v))), (2, .int (iI (n))), (3, .int (iI (fbF (vFall (σ 0 7) (σ 0 8) (σ 0 9) (σ 3) (σ 4) (σ 1) n.toNat) v j))), (4, .int (iI ((stp j) / 2))), (5, .int (iI ((fbF (vFall (σ 0 7) (σ 0 8) (σ 0 9) (σ 3) (σ 4) (σ 1) n.toNat) v j) + (stp j))))]) rfl ?_
              refine r_goto (pc := 70) C 32 dX4_fallFor_70 (by decide) ?_
              refine r_lv [0, 1, 2, 3, 4] (lv' := [(0, .ref (gA g 40)), (1, .int (iI (v))), (2, .int (iI (n))), (3, .int (iI (fbF (vFall (σ 0 7) (σ 0 8) (σ 0 9) (σ 3) (σ 4) (σ 1) n.toNat) v j))), (4, .int (iI ((stp j) / 2)))]) rfl ?_
              exact ih32 (j + 1) _ _ _ (by omega) (by omega) (by first | assumption | exact fun k hk => (hT54 k hk).trans (hi32_1 k hk)) (by first | (rw [fbF, if_pos (by omega)]; done) | (rw [fbF, if_neg (by omega)]; done)) (rfl)
            · skip
              refine r_aload_n (pc := 50) C dX4_fallFor_50 rfl 0 rfl ?_
              refine r_iload (pc := 51) C dX4_fallFor_51 5 rfl ?_
              refine r_iload_n (pc := 53) C dX4_fallFor_53 rfl 2 rfl ?_
              refine r_cVt (pc := 54) C (c_dustWithFall g ((fbF (vFall (σ 0 7) (σ 0 8) (σ 0 9) (σ 3) (σ 4) (σ 1) n.toNat) v j) + (stp j)) (by omega) n.toNat (by omega) s32 hWs) yX4_dustWithFall_w O_40 rfl rfl t_481 ⟨by decide, by decide⟩ (Nat.le_of_ble_eq_true rfl) (by rw [show ((n.toNat : Nat) : Int) = n by omega]; rfl) dX4_fallFor_54 (fun s54 hT54 => ?_)
              refine r_top (show _ = (vFall (σ 0 7) (σ 0 8) (σ 0 9) (σ 3) (σ 4) (σ 1) n.toNat) (fbF (vFall (σ 0 7) (σ 0 8) (σ 0 9) (σ 3) (σ 4) (σ 1) n.toNat) v j + stp j) by rw [hi32_1 0 (by omega), hi32_1 1 (by omega), hi32_1 3 (by omega), hi32_1 4 (by omega)]; rfl) ?_
              have hd := dstS_rng (w := σ 0 9) (K := σ 3) (m := 255) (fl := (fbF (vFall (σ 0 7) (σ 0 8) (σ 0 9) (σ 3) (σ 4) (σ 1) n.toNat) v j + stp j)) hn (by omega) hA hD n.toNat
              have hd2 : 0 ≤ (vFall (σ 0 7) (σ 0 8) (σ 0 9) (σ 3) (σ 4) (σ 1) n.toNat) (fbF (vFall (σ 0 7) (σ 0 8) (σ 0 9) (σ 3) (σ 4) (σ 1) n.toNat) v j + stp j) ∧ (vFall (σ 0 7) (σ 0 8) (σ 0 9) (σ 3) (σ 4) (σ 1) n.toNat) (fbF (vFall (σ 0 7) (σ 0 8) (σ 0 9) (σ 3) (σ 4) (σ 1) n.toNat) v j + stp j) ≤ 119988 := hd
              skip
              refine r_iload_n (pc := 57) C dX4_fallFor_57 rfl 1 rfl ?_
              refine r_icmp_ge (pc := 58) C 64 ⟨by omega, by omega⟩ h_v dX4_fallFor_58 (by decide) (fun h58 => ?_) (fun h58 => ?_)
              · skip
                refine r_iload (pc := 64) C dX4_fallFor_64 4 rfl ?_
                refine r_iconst (pc := 66) C dX4_fallFor_66 ?_
                refine r_idiv (pc := 67) C (by omega) (by omega) (by omega) (by omega) dX4_fallFor_67 ?_
                refine r_istore (pc := 68) C dX4_fallFor_68 (by decide) [1, 2, 3, 4, 0, 5] (lv' := [(0, .ref (gA g 40)), (1, .int (iI (v))), (2, .int (iI (n))), (3, .int (iI (fbF (vFall (σ 0 7) (σ 0 8) (σ 0 9) (σ 3) (σ 4) (σ 1) n.toNat) v j))), (4, .int (iI ((stp j) / 2))), (5, .int (iI ((fbF (vFall (σ 0 7) (σ 0 8) (σ 0 9) (σ 3) (σ 4) (σ 1) n.toNat) v j) + (stp j))))]) rfl ?_
                refine r_goto (pc := 70) C 32 dX4_fallFor_70 (by decide) ?_
                refine r_lv [0, 1, 2, 3, 4] (lv' := [(0, .ref (gA g 40)), (1, .int (iI (v))), (2, .int (iI (n))), (3, .int (iI (fbF (vFall (σ 0 7) (σ 0 8) (σ 0 9) (σ 3) (σ 4) (σ 1) n.toNat) v j))), (4, .int (iI ((stp j) / 2)))]) rfl ?_
                exact ih32 (j + 1) _ _ _ (by omega) (by omega) (by first | assumption | exact fun k hk => (hT54 k hk).trans (hi32_1 k hk)) (by first | (rw [fbF, if_pos (by omega)]; done) | (rw [fbF, if_neg (by omega)]; done)) (rfl)
              · skip
                refine r_iload (pc := 61) C dX4_fallFor_61 5 rfl ?_
                refine r_istore_n (pc := 63) C dX4_fallFor_63 rfl (by decide) [1, 2, 3, 0, 4, 5] (lv' := [(0, .ref (gA g 40)), (1, .int (iI (v))), (2, .int (iI (n))), (3, .int (iI ((fbF (vFall (σ 0 7) (σ 0 8) (σ 0 9) (σ 3) (σ 4) (σ 1) n.toNat) v j) + (stp j)))), (4, .int (iI (stp j))), (5, .int (iI ((fbF (vFall (σ 0 7) (σ 0 8) (σ 0 9) (σ 3) (σ 4) (σ 1) n.toNat) v j) + (stp j))))]) rfl ?_
                refine r_iload (pc := 64) C dX4_fallFor_64 4 rfl ?_
                refine r_iconst (pc := 66) C dX4_fallFor_66 ?_
                refine r_idiv (pc := 67) C (by omega) (by omega) (by omega) (by omega) dX4_fallFor_67 ?_
                refine r_istore (pc := 68) C dX4_fallFor_68 (by decide) [1, 2, 3, 4, 0, 5] (lv' := [(0, .ref (gA g 40)), (1, .int (iI (v))), (2, .int (iI (n))), (3, .int (iI ((fbF (vFall (σ 0 7) (σ 0 8) (σ 0 9) (σ 3) (σ 4) (σ 1) n.toNat) v j) + (stp j)))), (4, .int (iI ((stp j) / 2))), (5, .int (iI ((fbF (vFall (σ 0 7) (σ 0 8) (σ 0 9) (σ 3) (σ 4) (σ 1) n.toNat) v j) + (stp j))))]) rfl ?_
                refine r_goto (pc := 70) C 32 dX4_fallFor_70 (by decide) ?_
                refine r_lv [0, 1, 2, 3, 4] (lv' := [(0, .ref (gA g 40)), (1, .int (iI (v))), (2, .int (iI (n))), (3, .int (iI ((fbF (vFall (σ 0 7) (σ 0 8) (σ 0 9) (σ 3) (σ 4) (σ 1) n.toNat) v j) + (stp j)))), (4, .int (iI ((stp j) / 2)))]) rfl ?_
                exact ih32 (j + 1) _ _ _ (by omega) (by omega) (by first | assumption | exact fun k hk => (hT54 k hk).trans (hi32_1 k hk)) (by first | (rw [fbF, if_pos (by omega)]; done) | (rw [fbF, if_neg (by omega)]; done)) (rfl)
      exact L32 _ 0 _ _ _ (Nat.lt_succ_self _) (by omega) (by exact fun k _ => rfl) (rfl) (rfl)
    · skip
      refine r_aload_n (pc := 20) C dX4_fallFor_20 rfl 0 rfl ?_
      refine r_iconst (pc := 21) C dX4_fallFor_21 ?_
      refine r_cVi (pc := 22) C (c_finding g 0 (by decide) σ) yX4_finding_w O_40 rfl rfl t_251 ⟨by decide, by decide⟩ (Nat.le_of_ble_eq_true rfl) rfl dX4_fallFor_22 ?_
      exact r_retT (pc := 25) C (by first | (exfalso; omega; done) | ((try (first | rw [if_pos (by omega)] | rw [if_neg (by omega)])); (try (first | rw [if_pos (by omega)] | rw [if_neg (by omega)])); (try (first | rw [if_pos (by omega)] | rw [if_neg (by omega)])); (try (first | rw [if_pos (by omega)] | rw [if_neg (by omega)])); (try rfl))) (fun k _ => congrFun (by first | (exfalso; omega; done) | ((try (first | rw [if_pos (by omega)] | rw [if_neg (by omega)])); (try (first | rw [if_pos (by omega)] | rw [if_neg (by omega)])); (try (first | rw [if_pos (by omega)] | rw [if_neg (by omega)])); (try (first | rw [if_pos (by omega)] | rw [if_neg (by omega)])); (try rfl))) k) dX4_fallFor_25
set_option maxHeartbeats 4000000 in
set_option maxRecDepth 100000 in
theorem d_without (g : Gt) (n : Int) (h_n : rng n) (σ : Sg) (hW : RW σ 0)  : Mt g yX4_without cX4_without 6 (some FieldType.int) 5 [.ref (gA g 40), .int (iI (n))] σ (pT (if 0 ≤ n ∧ n ≤ 40 then (if σ 0 7 = 0 then (-1000001 - ((3 : Nat) : Int)) else (bst (vOut (σ 0 7) (σ 0 8) (σ 0 9) (σ 3) (σ 4) (σ 1) n.toNat) 0 (σ 0 7).toNat).1) else (-1000001 - ((0 : Nat) : Int))) (if 0 ≤ n ∧ n ≤ 40 then (if σ 0 7 = 0 then fin 3 σ else σ) else fin 0 σ)) := by
  obtain ⟨hn, hfl, hw, hdy, hz, hD_, hK_, hA_, hG_, hM_, hP_⟩ := id hW
  have hD : rgD (σ 1) := hD_
  have hK : rgK (σ 3) := hK_
  have hA : rgA (σ 4) := hA_
  have hG : rgG (σ 5) := hG_
  have hM : rgM (σ 6) := hM_
  have hP : ∀ j, j < 10 → -1 ≤ σ 7 j ∧ σ 7 j < σ 0 7 := hP_
  have ho_n := h_n.1; have hp_n := h_n.2
  have hV : ∀ j : Nat, j < (σ 0 7).toNat → 0 ≤ (vOut (σ 0 7) (σ 0 8) (σ 0 9) (σ 3) (σ 4) (σ 1) n.toNat) (0 + (j : Int)) ∧ (vOut (σ 0 7) (σ 0 8) (σ 0 9) (σ 3) (σ 4) (σ 1) n.toNat) (0 + (j : Int)) ≤ 119988 := fun j hj => dstS_rng hn hfl hA hD n.toNat
  refine mt_of (own := RX4) (by decide) rfl (Nat.le_of_ble_eq_true rfl) (fun E C => ?_)
  show J g E (pT (if 0 ≤ n ∧ n ≤ 40 then (if σ 0 7 = 0 then (-1000001 - ((3 : Nat) : Int)) else (bst (vOut (σ 0 7) (σ 0 8) (σ 0 9) (σ 3) (σ 4) (σ 1) n.toNat) 0 (σ 0 7).toNat).1) else (-1000001 - ((0 : Nat) : Int))) (if 0 ≤ n ∧ n ≤ 40 then (if σ 0 7 = 0 then fin 3 σ else σ) else fin 0 σ)) 6 0 [(0, .ref (gA g 40)), (1, .int (iI (n)))] [] σ
  refine r_iload_n (pc := 0) C dX4_without_0 rfl 1 rfl ?_
  refine r_iconst (pc := 1) C dX4_without_1 ?_
  refine r_bipush (pc := 2) C dX4_without_2 (by decide) ?_
  refine r_cSi (pc := 4) C (c_isWithin g n 0 40 h_n ⟨by omega, by omega⟩ ⟨by omega, by omega⟩ σ) yX4_isWithin_w rfl t_248 ⟨by decide, by decide⟩ (Nat.le_of_ble_eq_true rfl) rfl dX4_without_4 ?_
  refine r_ifz_ne (pc := 7) C 16 dX4_without_7 (by decide) (fun h7 => ?_) (fun h7 => ?_)
  · skip
    refine r_aload_n (pc := 16) C dX4_without_16 rfl 0 rfl ?_
    refine r_getR4 (pc := 17) C 0 (k' := 0) rfl O_40 (by decide) rfl t_216 dX4_without_17 ?_
    refine r_getI0 (pc := 20) C 7 rfl O_0 (by decide) rfl t_120 dX4_without_20 ?_
    refine r_if_ne (pc := 23) C 32 ⟨by omega, by omega⟩ dX4_without_23 (by decide) (fun h23 => ?_) (fun h23 => ?_)
    · skip
      refine r_iconst (pc := 32) C dX4_without_32 ?_
      refine r_istore_n (pc := 33) C dX4_without_33 rfl (by decide) [1, 2, 0] (lv' := [(0, .ref (gA g 40)), (1, .int (iI (n))), (2, .int (iI (0)))]) rfl ?_
      refine r_iconst (pc := 34) C dX4_without_34 ?_
      refine r_istore_n (pc := 35) C dX4_without_35 rfl (by decide) [1, 2, 3, 0] (lv' := [(0, .ref (gA g 40)), (1, .int (iI (n))), (2, .int (iI (0))), (3, .int (iI ((-1))))]) rfl ?_
      refine r_iconst (pc := 36) C dX4_without_36 ?_
      refine r_istore (pc := 37) C dX4_without_37 (by decide) [1, 2, 3, 4, 0] (lv' := [(0, .ref (gA g 40)), (1, .int (iI (n))), (2, .int (iI (0))), (3, .int (iI ((-1)))), (4, .int (iI (0)))]) rfl ?_
      have L39 : ∀ (n_ : Nat) (i : Nat) (x39_2 x39_3 x39_4 : Int) (s39 : Sg), (σ 0 7).toNat - i < n_ → ((i : Int) ≤ σ 0 7) → (∀ k, (k < 8 ∨ 16 ≤ k) → s39 k = σ k) → x39_2 = (bst (vOut (σ 0 7) (σ 0 8) (σ 0 9) (σ 3) (σ 4) (σ 1) n.toNat) 0 i).1 → x39_3 = (bst (vOut (σ 0 7) (σ 0 8) (σ 0 9) (σ 3) (σ 4) (σ 1) n.toNat) 0 i).2 → x39_4 = (i : Int) → J g E (pT (if 0 ≤ n ∧ n ≤ 40 then (if σ 0 7 = 0 then (-1000001 - ((3 : Nat) : Int)) else (bst (vOut (σ 0 7) (σ 0 8) (σ 0 9) (σ 3) (σ 4) (σ 1) n.toNat) 0 (σ 0 7).toNat).1) else (-1000001 - ((0 : Nat) : Int))) (if 0 ≤ n ∧ n ≤ 40 then (if σ 0 7 = 0 then fin 3 σ else σ) else fin 0 σ)) 6 39 [(0, .ref (gA g 40)), (1, .int (iI (n))), (2, .int (iI (x39_2))), (3, .int (iI (x39_3))), (4, .int (iI (x39_4)))] [] s39 := by
        intro n_
        induction n_ with
        | zero => intro i x39_2 x39_3 x39_4 s39 hm_; exact absurd hm_ (Nat.not_lt_zero _)
        | succ n_ ih39 =>
          intro i x39_2 x39_3 x39_4 s39 hm39 hi39_0 hi39_1 e39_0 e39_1 e39_2 
          subst e39_0 e39_1 e39_2 
          have hb := bst_rng (V := (vOut (σ 0 7) (σ 0 8) (σ 0 9) (σ 3) (σ 4) (σ 1) n.toNat)) (a := 0) (m := 119988) (by omega) i (fun j hj => hV j (by omega))
          have hWs := RW_cong hi39_1 hW
          refine r_iload (pc := 39) C dX4_without_39 4 rfl ?_
          refine r_aload_n (pc := 41) C dX4_without_41 rfl 0 rfl ?_
          refine r_getR4 (pc := 42) C 0 (k' := 0) rfl O_40 (by decide) rfl t_216 dX4_without_42 ?_
          refine r_getI0 (pc := 45) C 7 rfl O_0 (by decide) rfl t_120 dX4_without_45 ?_
          refine r_top (show s39 0 7 = σ 0 7 from by rw [hi39_1 0 (by omega)]) ?_
          refine r_icmp_ge (pc := 48) C 86 ⟨by omega, by omega⟩ ⟨by omega, by omega⟩ dX4_without_48 (by decide) (fun h48 => ?_) (fun h48 => ?_)
          · skip
            refine r_iload_n (pc := 86) C dX4_without_86 rfl 2 rfl ?_
            exact r_retT (pc := 87) C (by rw [if_pos (by omega), if_neg (by omega), show i = (σ 0 7).toNat by omega]) (fun k hk => by rw [if_pos (by omega), if_neg (by omega)]; exact hi39_1 k hk) dX4_without_87
          · skip
            refine r_aload_n (pc := 51) C dX4_without_51 rfl 0 rfl ?_
            refine r_sipush (pc := 52) C dX4_without_52 (by decide) ?_
            refine r_iconst (pc := 55) C dX4_without_55 ?_
            refine r_iload (pc := 56) C dX4_without_56 4 rfl ?_
            refine r_ishl (pc := 58) C dX4_without_58 ?_
            refine r_iconst (pc := 59) C dX4_without_59 ?_
            refine r_ixor (pc := 60) C dX4_without_60 ?_
            refine r_iand (pc := 61) C dX4_without_61 ?_
            refine r_iload_n (pc := 62) C dX4_without_62 rfl 1 rfl ?_
            refine r_cVt (pc := 63) C (c_dustSweptBy g (band 255 (bxor (bshl 1 (i : Int)) (-1))) (band_rng _ _) n.toNat (by omega) s39 hWs) yX4_dustSweptBy_w O_40 rfl rfl t_493 ⟨by decide, by decide⟩ (Nat.le_of_ble_eq_true rfl) (by rw [show ((n.toNat : Nat) : Int) = n by omega]; rfl) dX4_without_63 (fun s63 hT63 => ?_)
            have hVi := hV i (by omega)
            refine r_top (show _ = (vOut (σ 0 7) (σ 0 8) (σ 0 9) (σ 3) (σ 4) (σ 1) n.toNat) (0 + (i : Int)) by rw [hi39_1 0 (by omega), hi39_1 1 (by omega), hi39_1 3 (by omega), hi39_1 4 (by omega)]; rw [Int.zero_add]; rfl) ?_
            skip
            refine r_istore (pc := 66) C dX4_without_66 (by decide) [1, 2, 3, 4, 5, 0] (lv' := [(0, .ref (gA g 40)), (1, .int (iI (n))), (2, .int (iI ((bst (vOut (σ 0 7) (σ 0 8) (σ 0 9) (σ 3) (σ 4) (σ 1) n.toNat) 0 i).1))), (3, .int (iI ((bst (vOut (σ 0 7) (σ 0 8) (σ 0 9) (σ 3) (σ 4) (σ 1) n.toNat) 0 i).2))), (4, .int (iI ((i : Int)))), (5, .int (iI ((vOut (σ 0 7) (σ 0 8) (σ 0 9) (σ 3) (σ 4) (σ 1) n.toNat) (0 + (i : Int)))))]) rfl ?_
            refine r_iload (pc := 68) C dX4_without_68 5 rfl ?_
            refine r_iload_n (pc := 70) C dX4_without_70 rfl 3 rfl ?_
            refine r_icmp_le (pc := 71) C 80 ⟨by omega, by omega⟩ ⟨by omega, by omega⟩ dX4_without_71 (by decide) (fun h71 => ?_) (fun h71 => ?_)
            · skip
              refine r_iinc (pc := 80) C dX4_without_80 4 rfl (by decide) [1, 2, 3, 4, 0, 5] (lv' := [(0, .ref (gA g 40)), (1, .int (iI (n))), (2, .int (iI ((bst (vOut (σ 0 7) (σ 0 8) (σ 0 9) (σ 3) (σ 4) (σ 1) n.toNat) 0 i).1))), (3, .int (iI ((bst (vOut (σ 0 7) (σ 0 8) (σ 0 9) (σ 3) (σ 4) (σ 1) n.toNat) 0 i).2))), (4, .int (iI ((i : Int) + 1))), (5, .int (iI ((vOut (σ 0 7) (σ 0 8) (σ 0 9) (σ 3) (σ 4) (σ 1) n.toNat) (0 + (i : Int)))))]) rfl ?_
              refine r_goto (pc := 83) C 39 dX4_without_83 (by decide) ?_
              refine r_lv [0, 1, 2, 3, 4] (lv' := [(0, .ref (gA g 40)), (1, .int (iI (n))), (2, .int (iI ((bst (vOut (σ 0 7) (σ 0 8) (σ 0 9) (σ 3) (σ 4) (σ 1) n.toNat) 0 i).1))), (3, .int (iI ((bst (vOut (σ 0 7) (σ 0 8) (σ 0 9) (σ 3) (σ 4) (σ 1) n.toNat) 0 i).2))), (4, .int (iI ((i : Int) + 1)))]) rfl ?_
              exact ih39 (i + 1) _ _ _ _ (by omega) (by omega) (by exact fun k hk => (hT63 k hk).trans (hi39_1 k hk)) (by first | (rw [bst, if_pos (by omega), Int.zero_add]; done) | (rw [bst, if_neg (by omega)]; done)) (by first | (rw [bst, if_pos (by omega)]; done) | (rw [bst, if_neg (by omega)]; done)) (by omega)
            · skip
              refine r_iload (pc := 74) C dX4_without_74 5 rfl ?_
              refine r_istore_n (pc := 76) C dX4_without_76 rfl (by decide) [1, 2, 3, 0, 4, 5] (lv' := [(0, .ref (gA g 40)), (1, .int (iI (n))), (2, .int (iI ((bst (vOut (σ 0 7) (σ 0 8) (σ 0 9) (σ 3) (σ 4) (σ 1) n.toNat) 0 i).1))), (3, .int (iI ((vOut (σ 0 7) (σ 0 8) (σ 0 9) (σ 3) (σ 4) (σ 1) n.toNat) (0 + (i : Int))))), (4, .int (iI ((i : Int)))), (5, .int (iI ((vOut (σ 0 7) (σ 0 8) (σ 0 9) (σ 3) (σ 4) (σ 1) n.toNat) (0 + (i : Int)))))]) rfl ?_
              refine r_iload (pc := 77) C dX4_without_77 4 rfl ?_
              refine r_istore_n (pc := 79) C dX4_without_79 rfl (by decide) [1, 2, 0, 3, 4, 5] (lv' := [(0, .ref (gA g 40)), (1, .int (iI (n))), (2, .int (iI ((i : Int)))), (3, .int (iI ((vOut (σ 0 7) (σ 0 8) (σ 0 9) (σ 3) (σ 4) (σ 1) n.toNat) (0 + (i : Int))))), (4, .int (iI ((i : Int)))), (5, .int (iI ((vOut (σ 0 7) (σ 0 8) (σ 0 9) (σ 3) (σ 4) (σ 1) n.toNat) (0 + (i : Int)))))]) rfl ?_
              refine r_iinc (pc := 80) C dX4_without_80 4 rfl (by decide) [1, 2, 3, 4, 0, 5] (lv' := [(0, .ref (gA g 40)), (1, .int (iI (n))), (2, .int (iI ((i : Int)))), (3, .int (iI ((vOut (σ 0 7) (σ 0 8) (σ 0 9) (σ 3) (σ 4) (σ 1) n.toNat) (0 + (i : Int))))), (4, .int (iI ((i : Int) + 1))), (5, .int (iI ((vOut (σ 0 7) (σ 0 8) (σ 0 9) (σ 3) (σ 4) (σ 1) n.toNat) (0 + (i : Int)))))]) rfl ?_
              refine r_goto (pc := 83) C 39 dX4_without_83 (by decide) ?_
              refine r_lv [0, 1, 2, 3, 4] (lv' := [(0, .ref (gA g 40)), (1, .int (iI (n))), (2, .int (iI ((i : Int)))), (3, .int (iI ((vOut (σ 0 7) (σ 0 8) (σ 0 9) (σ 3) (σ 4) (σ 1) n.toNat) (0 + (i : Int))))), (4, .int (iI ((i : Int) + 1)))]) rfl ?_
              exact ih39 (i + 1) _ _ _ _ (by omega) (by omega) (by exact fun k hk => (hT63 k hk).trans (hi39_1 k hk)) (by first | (rw [bst, if_pos (by omega), Int.zero_add]; done) | (rw [bst, if_neg (by omega)]; done)) (by first | (rw [bst, if_pos (by omega)]; done) | (rw [bst, if_neg (by omega)]; done)) (by omega)
      exact L39 _ 0 _ _ _ _ (Nat.lt_succ_self _) (by omega) (by exact fun k _ => rfl) (rfl) (rfl) (rfl)
    · skip
      refine r_aload_n (pc := 26) C dX4_without_26 rfl 0 rfl ?_
      refine r_iconst (pc := 27) C dX4_without_27 ?_
      refine r_cVi (pc := 28) C (c_finding g 3 (by decide) σ) yX4_finding_w O_40 rfl rfl t_251 ⟨by decide, by decide⟩ (Nat.le_of_ble_eq_true rfl) rfl dX4_without_28 ?_
      exact r_retT (pc := 31) C (by first | (exfalso; omega; done) | ((try (first | rw [if_pos (by omega)] | rw [if_neg (by omega)])); (try (first | rw [if_pos (by omega)] | rw [if_neg (by omega)])); (try (first | rw [if_pos (by omega)] | rw [if_neg (by omega)])); (try (first | rw [if_pos (by omega)] | rw [if_neg (by omega)])); (try rfl))) (fun k _ => congrFun (by first | (exfalso; omega; done) | ((try (first | rw [if_pos (by omega)] | rw [if_neg (by omega)])); (try (first | rw [if_pos (by omega)] | rw [if_neg (by omega)])); (try (first | rw [if_pos (by omega)] | rw [if_neg (by omega)])); (try (first | rw [if_pos (by omega)] | rw [if_neg (by omega)])); (try rfl))) k) dX4_without_31
  · skip
    refine r_aload_n (pc := 10) C dX4_without_10 rfl 0 rfl ?_
    refine r_iconst (pc := 11) C dX4_without_11 ?_
    refine r_cVi (pc := 12) C (c_finding g 0 (by decide) σ) yX4_finding_w O_40 rfl rfl t_251 ⟨by decide, by decide⟩ (Nat.le_of_ble_eq_true rfl) rfl dX4_without_12 ?_
    exact r_retT (pc := 15) C (by first | (exfalso; omega; done) | ((try (first | rw [if_pos (by omega)] | rw [if_neg (by omega)])); (try (first | rw [if_pos (by omega)] | rw [if_neg (by omega)])); (try (first | rw [if_pos (by omega)] | rw [if_neg (by omega)])); (try (first | rw [if_pos (by omega)] | rw [if_neg (by omega)])); (try rfl))) (fun k _ => congrFun (by first | (exfalso; omega; done) | ((try (first | rw [if_pos (by omega)] | rw [if_neg (by omega)])); (try (first | rw [if_pos (by omega)] | rw [if_neg (by omega)])); (try (first | rw [if_pos (by omega)] | rw [if_neg (by omega)])); (try (first | rw [if_pos (by omega)] | rw [if_neg (by omega)])); (try rfl))) k) dX4_without_15
