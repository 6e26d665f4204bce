/-- the cells as the constructors leave them -/
def zRm : Nat → Int := fun j => if j = 8 then 3 else if j = 11 then 1 else 0
def zSp : Nat → Int := fun j => if j < 10 then -1 else 0
def zMd : Nat → Int := fun j => if j = 6 then 255 else 0
def zSs : Nat → Int := fun j => if 137 ≤ j ∧ j < 137 + 10 then -1 else if j = 2 then 3 else if j = 4 then 1 else 0
def sg0 : Sg := fun k => match k with
  | 0 => zRm
  | 8 => zRm
  | 16 => zRm
  | 7 => zSp
  | 15 => zSp
  | 23 => zSp
  | 41 => zMd
  | 42 => zSs
  | _ => fun _ => 0
theorem sp0_is : spI 10 = fun j => iI (zSp j) := by
  funext j
  unfold spI zSp
  split <;> rfl
theorem ss0_is : sI 10 = fun j => iI (zSs j) := by
  funext j
  unfold sI zSs
  repeat' split
  all_goals rfl
theorem sg0_S : sg0 42 = mkS sg0 := by
  funext i
  show zSs i = sg0 (cidx i).1 (cidx i).2
  unfold cidx
  by_cases h0 : i = 0
  · subst h0
    rfl
  by_cases h1 : i = 1
  · subst h1
    rfl
  by_cases h2 : i = 2
  · subst h2
    rfl
  by_cases h3 : i = 3
  · subst h3
    rfl
  by_cases h4 : i = 4
  · subst h4
    rfl
  rw [if_neg h0, if_neg h1, if_neg h2, if_neg h3, if_neg h4]
  unfold zSs
  rw [if_neg h2, if_neg h4]
  by_cases h5 : i < 17
  · rw [if_pos h5, if_neg (by omega)]
    rfl
  · rw [if_neg h5]
    by_cases h6 : i < 41
    · rw [if_pos h6, if_neg (by omega)]
      dsimp only
      rcases (show (i - 17) % 3 = 0 ∨ (i - 17) % 3 = 1 ∨ (i - 17) % 3 = 2 by omega) with e | e | e <;> rw [e] <;> rfl
    · rw [if_neg h6]
      by_cases h7 : i < 137
      · rw [if_pos h7, if_neg (by omega)]
        rfl
      · rw [if_neg h7]
        show _ = zSp (i - 137)
        unfold zSp
        by_cases h8 : i < 137 + 10
        · rw [if_pos (by omega), if_pos (by omega)]
        · rw [if_neg (by omega), if_neg (by omega)]
theorem sg0_W : RW sg0 0 := by
  refine ⟨⟨by decide, by decide⟩, ⟨by decide, by decide⟩, ⟨by decide, by decide⟩, ⟨by decide, by decide⟩, ⟨by decide, by decide⟩, fun j _ => ⟨by show (0 : Int) ≤ 0; decide, by show (0 : Int) ≤ 9999; decide⟩, fun j _ => ⟨by show (0 : Int) ≤ 0; decide, by show (0 : Int) ≤ 6; decide⟩, fun j _ => ⟨by show (0 : Int) ≤ 0; decide, by show (0 : Int) ≤ 11; decide⟩, fun j _ => ⟨by show (0 : Int) ≤ 0; decide, by show (0 : Int) ≤ 99999; decide⟩, fun j _ => ⟨by show (0 : Int) ≤ 0; decide, by show (0 : Int) ≤ 99; decide⟩, fun j hj => ?_⟩
  show -1 ≤ zSp j ∧ zSp j < 0
  unfold zSp
  rw [if_pos hj]
  omega
theorem sg0_R : Rel sg0 := by
  refine ⟨sg0_S, sg0_W, fun q => absurd (show (0 : Int) = 1 from q) (by decide), ⟨rfl, Or.inl rfl⟩, ⟨rfl, by decide, by decide⟩, ⟨rfl, fun j _ => ⟨by show (0 : Int) ≤ 0; decide, by show (0 : Int) ≤ 255; decide⟩⟩, rfl, rfl, fun s hs => ?_⟩
  rcases (show s = 0 ∨ s = 1 ∨ s = 2 ∨ s = 3 by omega) with rfl | rfl | rfl | rfl <;> exact ⟨⟨rfl, rfl⟩, ⟨Or.inl rfl, by show (0 : Int) ≤ 0; decide, by show (0 : Int) ≤ 40; decide⟩, fun j _ => ⟨⟨by show (-2147483648 : Int) ≤ 0; decide, by show (0 : Int) ≤ 2147483647; decide⟩, rfl⟩⟩
/-- the addresses: the class's by u, its object, the model's object, the model's by v -/
def adr (u : Nat → Nat) (h1 h2 : Nat) (v : Nat → Nat) : Nat → Nat := fun k => if k < 40 then u k else if k = 40 then h1 else if k = 41 then h2 else v (k - 41)
theorem q30 {cQ : ClassId} {u v : Nat → Nat} {h1 h2 : Nat} : vp_cell cQ (4, .inr (.inr (.inr (.inr (va_up (va_up (va_up (va_up (fun _ => none) 0 (some (u 31))) 1 (some (u 33))) 2 (some (u 35))) 3 (some (u 37))))))) = vp_cell cQ (4, .inr (.inr (.inr (.inr (fun j => some (adr u h1 h2 v (31 + 2 * j))))))) := by
  rw [vp_cell_q, vp_cell_q]
  unfold arrV
  congr 2
  funext j
  obtain ⟨j, hj⟩ := j
  rcases (show j = 0 ∨ j = 1 ∨ j = 2 ∨ j = 3 by omega) with rfl | rfl | rfl | rfl <;> rfl
set_option maxRecDepth 100000 in
set_option maxHeartbeats 4000000 in
theorem cw_of {l : Launch} {D : va_G} {cI cQ : ClassId} {u v gT gK gV : Nat → Nat} {h1 h2 : Nat} {H : Heap} (hP : va_P D cls [(h1, ob 4 [.ref (u 0), .ref (u 8), .ref (u 16), .int (iI 0), .ref (u 24), .ref (u 26), .ref (u 30), .ref (u 39)]), ((u 0), ob 0 [.ref (u 1), .ref (u 2), .ref (u 3), .ref (u 4), .ref (u 5), .ref (u 6), .ref (u 7), .int (iI 0), .int (iI 3), .int (iI 0), .int (iI 0), .int (iI 1)]), ((u 1), iz cI 12), ((u 2), iz cI 12), ((u 3), iz cI 8), ((u 4), iz cI 8), ((u 5), iz cI 8), ((u 6), iz cI 96), ((u 7), ifn cI 10 (spI 10)), ((u 8), ob 0 [.ref (u 9), .ref (u 10), .ref (u 11), .ref (u 12), .ref (u 13), .ref (u 14), .ref (u 15), .int (iI 0), .int (iI 3), .int (iI 0), .int (iI 0), .int (iI 1)]), ((u 9), iz cI 12), ((u 10), iz cI 12), ((u 11), iz cI 8), ((u 12), iz cI 8), ((u 13), iz cI 8), ((u 14), iz cI 96), ((u 15), ifn cI 10 (spI 10)), ((u 16), ob 0 [.ref (u 17), .ref (u 18), .ref (u 19), .ref (u 20), .ref (u 21), .ref (u 22), .ref (u 23), .int (iI 0), .int (iI 3), .int (iI 0), .int (iI 0), .int (iI 1)]), ((u 17), iz cI 12), ((u 18), iz cI 12), ((u 19), iz cI 8), ((u 20), iz cI 8), ((u 21), iz cI 8), ((u 22), iz cI 96), ((u 23), ifn cI 10 (spI 10)), ((u 24), ob 2 [.ref (u 25), .int (iI 0)]), ((u 25), iz cI 120), ((u 26), ob 3 [.ref (u 27), .ref (u 28), .ref (u 29), .int (iI 0), .int (iI 0)]), ((u 27), iz cI 121), ((u 28), iz cI 121), ((u 29), iz cI 121), ((u 30), shq (cQ) (va_up (va_up (va_up (va_up (fun _ => none) 0 (some (u 31))) 1 (some (u 33))) 2 (some (u 35))) 3 (some (u 37)))), ((u 31), ob 1 [.ref (u 32), .int (iI 0), .int (iI 0)]), ((u 32), iz cI 40), ((u 33), ob 1 [.ref (u 34), .int (iI 0), .int (iI 0)]), ((u 34), iz cI 40), ((u 35), ob 1 [.ref (u 36), .int (iI 0), .int (iI 0)]), ((u 36), iz cI 40), ((u 37), ob 1 [.ref (u 38), .int (iI 0), .int (iI 0)]), ((u 38), iz cI 40), ((u 39), iz cI 7), (h2, ob 5 [.ref (v 1), .ref (v 2), .ref (v 3), .ref (v 4), .ref (v 5), .int (iI 0), .int (iI 255), .ref (v 6), .ref (v 7), .ref (v 8), .int (iI 0), .int (iI 0), .int (iI 0), .int (iI 0), .int (iI 0), .ref (v 9), .ref (v 10), .ref (v 11), .ref (v 12)]), ((v 1), ifn cI 147 (sI 10)), ((v 2), iz cI 147), ((v 3), iz cI 147), ((v 4), iz cI 147), ((v 5), iz cI 7), ((v 6), iz cI 12), ((v 7), iz cI 12), ((v 8), iz cI 120), ((v 9), iz cI 4), ((v 10), iz cI 4), ((v 11), iz cI 160), ((v 12), iz cI 40)] H) : va_P D cls (cw (l, D, cI, cQ, adr u h1 h2 v, gT, gK, gV) sg0) H := by
  intro k q hq
  obtain ⟨hk, rfl⟩ := cw_inv hq
  rcases (show k = 0 ∨ k = 1 ∨ k = 2 ∨ k = 3 ∨ k = 4 ∨ k = 5 ∨ k = 6 ∨ k = 7 ∨ k = 8 ∨ k = 9 ∨ k = 10 ∨ k = 11 ∨ k = 12 ∨ k = 13 ∨ k = 14 ∨ k = 15 ∨ k = 16 ∨ k = 17 ∨ k = 18 ∨ k = 19 ∨ k = 20 ∨ k = 21 ∨ k = 22 ∨ k = 23 ∨ k = 24 ∨ k = 25 ∨ k = 26 ∨ k = 27 ∨ k = 28 ∨ k = 29 ∨ k = 30 ∨ k = 31 ∨ k = 32 ∨ k = 33 ∨ k = 34 ∨ k = 35 ∨ k = 36 ∨ k = 37 ∨ k = 38 ∨ k = 39 ∨ k = 40 ∨ k = 41 ∨ k = 42 ∨ k = 43 ∨ k = 44 ∨ k = 45 ∨ k = 46 ∨ k = 47 ∨ k = 48 ∨ k = 49 ∨ k = 50 ∨ k = 51 ∨ k = 52 ∨ k = 53 by omega) with rfl | rfl | rfl | rfl | rfl | rfl | rfl | rfl | rfl | rfl | rfl | rfl | rfl | rfl | rfl | rfl | rfl | rfl | rfl | rfl | rfl | rfl | rfl | rfl | rfl | rfl | rfl | rfl | rfl | rfl | rfl | rfl | rfl | rfl | rfl | rfl | rfl | rfl | rfl | rfl | rfl | rfl | rfl | rfl | rfl | rfl | rfl | rfl | rfl | rfl | rfl | rfl | rfl | rfl
  · exact hP 1 _ rfl
  · exact hP 2 _ rfl
  · exact hP 3 _ rfl
  · exact hP 4 _ rfl
  · exact hP 5 _ rfl
  · exact hP 6 _ rfl
  · exact hP 7 _ rfl
  · have q := hP 8 _ rfl
    rw [sp0_is] at q
    exact q
  · exact hP 9 _ rfl
  · exact hP 10 _ rfl
  · exact hP 11 _ rfl
  · exact hP 12 _ rfl
  · exact hP 13 _ rfl
  · exact hP 14 _ rfl
  · exact hP 15 _ rfl
  · have q := hP 16 _ rfl
    rw [sp0_is] at q
    exact q
  · exact hP 17 _ rfl
  · exact hP 18 _ rfl
  · exact hP 19 _ rfl
  · exact hP 20 _ rfl
  · exact hP 21 _ rfl
  · exact hP 22 _ rfl
  · exact hP 23 _ rfl
  · have q := hP 24 _ rfl
    rw [sp0_is] at q
    exact q
  · exact hP 25 _ rfl
  · exact hP 26 _ rfl
  · exact hP 27 _ rfl
  · exact hP 28 _ rfl
  · exact hP 29 _ rfl
  · exact hP 30 _ rfl
  · have q : H[u 30]? = some (vp_cell cQ _) := hP 31 _ rfl
    rw [q30 (h1 := h1) (h2 := h2) (v := v)] at q
    exact q
  · exact hP 32 _ rfl
  · exact hP 33 _ rfl
  · exact hP 34 _ rfl
  · exact hP 35 _ rfl
  · exact hP 36 _ rfl
  · exact hP 37 _ rfl
  · exact hP 38 _ rfl
  · exact hP 39 _ rfl
  · exact hP 40 _ rfl
  · exact hP 0 _ rfl
  · exact hP 41 _ rfl
  · have q := hP 42 _ rfl
    rw [ss0_is] at q
    exact q
  · exact hP 43 _ rfl
  · exact hP 44 _ rfl
  · exact hP 45 _ rfl
  · exact hP 46 _ rfl
  · exact hP 47 _ rfl
  · exact hP 48 _ rfl
  · exact hP 49 _ rfl
  · exact hP 50 _ rfl
  · exact hP 51 _ rfl
  · exact hP 52 _ rfl
  · exact hP 53 _ rfl
set_option maxRecDepth 100000 in
set_option maxHeartbeats 4000000 in
theorem Dg_of {l : Launch} {D : va_G} {cI cQ : ClassId} {u v gT gK gV : Nat → Nat} {h1 h2 sz : Nat} (hD : va_D (fun q => sz ≤ q) [(h1, ob 4 [.ref (u 0), .ref (u 8), .ref (u 16), .int (iI 0), .ref (u 24), .ref (u 26), .ref (u 30), .ref (u 39)]), ((u 0), ob 0 [.ref (u 1), .ref (u 2), .ref (u 3), .ref (u 4), .ref (u 5), .ref (u 6), .ref (u 7), .int (iI 0), .int (iI 3), .int (iI 0), .int (iI 0), .int (iI 1)]), ((u 1), iz cI 12), ((u 2), iz cI 12), ((u 3), iz cI 8), ((u 4), iz cI 8), ((u 5), iz cI 8), ((u 6), iz cI 96), ((u 7), ifn cI 10 (spI 10)), ((u 8), ob 0 [.ref (u 9), .ref (u 10), .ref (u 11), .ref (u 12), .ref (u 13), .ref (u 14), .ref (u 15), .int (iI 0), .int (iI 3), .int (iI 0), .int (iI 0), .int (iI 1)]), ((u 9), iz cI 12), ((u 10), iz cI 12), ((u 11), iz cI 8), ((u 12), iz cI 8), ((u 13), iz cI 8), ((u 14), iz cI 96), ((u 15), ifn cI 10 (spI 10)), ((u 16), ob 0 [.ref (u 17), .ref (u 18), .ref (u 19), .ref (u 20), .ref (u 21), .ref (u 22), .ref (u 23), .int (iI 0), .int (iI 3), .int (iI 0), .int (iI 0), .int (iI 1)]), ((u 17), iz cI 12), ((u 18), iz cI 12), ((u 19), iz cI 8), ((u 20), iz cI 8), ((u 21), iz cI 8), ((u 22), iz cI 96), ((u 23), ifn cI 10 (spI 10)), ((u 24), ob 2 [.ref (u 25), .int (iI 0)]), ((u 25), iz cI 120), ((u 26), ob 3 [.ref (u 27), .ref (u 28), .ref (u 29), .int (iI 0), .int (iI 0)]), ((u 27), iz cI 121), ((u 28), iz cI 121), ((u 29), iz cI 121), ((u 30), shq (cQ) (va_up (va_up (va_up (va_up (fun _ => none) 0 (some (u 31))) 1 (some (u 33))) 2 (some (u 35))) 3 (some (u 37)))), ((u 31), ob 1 [.ref (u 32), .int (iI 0), .int (iI 0)]), ((u 32), iz cI 40), ((u 33), ob 1 [.ref (u 34), .int (iI 0), .int (iI 0)]), ((u 34), iz cI 40), ((u 35), ob 1 [.ref (u 36), .int (iI 0), .int (iI 0)]), ((u 36), iz cI 40), ((u 37), ob 1 [.ref (u 38), .int (iI 0), .int (iI 0)]), ((u 38), iz cI 40), ((u 39), iz cI 7), (h2, ob 5 [.ref (v 1), .ref (v 2), .ref (v 3), .ref (v 4), .ref (v 5), .int (iI 0), .int (iI 255), .ref (v 6), .ref (v 7), .ref (v 8), .int (iI 0), .int (iI 0), .int (iI 0), .int (iI 0), .int (iI 0), .ref (v 9), .ref (v 10), .ref (v 11), .ref (v 12)]), ((v 1), ifn cI 147 (sI 10)), ((v 2), iz cI 147), ((v 3), iz cI 147), ((v 4), iz cI 147), ((v 5), iz cI 7), ((v 6), iz cI 12), ((v 7), iz cI 12), ((v 8), iz cI 120), ((v 9), iz cI 4), ((v 10), iz cI 4), ((v 11), iz cI 160), ((v 12), iz cI 40)]) : Dg (l, D, cI, cQ, adr u h1 h2 v, gT, gK, gV) ∧ ∀ k, k < 54 → sz ≤ adr u h1 h2 v k := by
  have key : ∀ k, k < 54 → ∃ e : va_E, ([(h1, ob 4 [.ref (u 0), .ref (u 8), .ref (u 16), .int (iI 0), .ref (u 24), .ref (u 26), .ref (u 30), .ref (u 39)]), ((u 0), ob 0 [.ref (u 1), .ref (u 2), .ref (u 3), .ref (u 4), .ref (u 5), .ref (u 6), .ref (u 7), .int (iI 0), .int (iI 3), .int (iI 0), .int (iI 0), .int (iI 1)]), ((u 1), iz cI 12), ((u 2), iz cI 12), ((u 3), iz cI 8), ((u 4), iz cI 8), ((u 5), iz cI 8), ((u 6), iz cI 96), ((u 7), ifn cI 10 (spI 10)), ((u 8), ob 0 [.ref (u 9), .ref (u 10), .ref (u 11), .ref (u 12), .ref (u 13), .ref (u 14), .ref (u 15), .int (iI 0), .int (iI 3), .int (iI 0), .int (iI 0), .int (iI 1)]), ((u 9), iz cI 12), ((u 10), iz cI 12), ((u 11), iz cI 8), ((u 12), iz cI 8), ((u 13), iz cI 8), ((u 14), iz cI 96), ((u 15), ifn cI 10 (spI 10)), ((u 16), ob 0 [.ref (u 17), .ref (u 18), .ref (u 19), .ref (u 20), .ref (u 21), .ref (u 22), .ref (u 23), .int (iI 0), .int (iI 3), .int (iI 0), .int (iI 0), .int (iI 1)]), ((u 17), iz cI 12), ((u 18), iz cI 12), ((u 19), iz cI 8), ((u 20), iz cI 8), ((u 21), iz cI 8), ((u 22), iz cI 96), ((u 23), ifn cI 10 (spI 10)), ((u 24), ob 2 [.ref (u 25), .int (iI 0)]), ((u 25), iz cI 120), ((u 26), ob 3 [.ref (u 27), .ref (u 28), .ref (u 29), .int (iI 0), .int (iI 0)]), ((u 27), iz cI 121), ((u 28), iz cI 121), ((u 29), iz cI 121), ((u 30), shq (cQ) (va_up (va_up (va_up (va_up (fun _ => none) 0 (some (u 31))) 1 (some (u 33))) 2 (some (u 35))) 3 (some (u 37)))), ((u 31), ob 1 [.ref (u 32), .int (iI 0), .int (iI 0)]), ((u 32), iz cI 40), ((u 33), ob 1 [.ref (u 34), .int (iI 0), .int (iI 0)]), ((u 34), iz cI 40), ((u 35), ob 1 [.ref (u 36), .int (iI 0), .int (iI 0)]), ((u 36), iz cI 40), ((u 37), ob 1 [.ref (u 38), .int (iI 0), .int (iI 0)]), ((u 38), iz cI 40), ((u 39), iz cI 7), (h2, ob 5 [.ref (v 1), .ref (v 2), .ref (v 3), .ref (v 4), .ref (v 5), .int (iI 0), .int (iI 255), .ref (v 6), .ref (v 7), .ref (v 8), .int (iI 0), .int (iI 0), .int (iI 0), .int (iI 0), .int (iI 0), .ref (v 9), .ref (v 10), .ref (v 11), .ref (v 12)]), ((v 1), ifn cI 147 (sI 10)), ((v 2), iz cI 147), ((v 3), iz cI 147), ((v 4), iz cI 147), ((v 5), iz cI 7), ((v 6), iz cI 12), ((v 7), iz cI 12), ((v 8), iz cI 120), ((v 9), iz cI 4), ((v 10), iz cI 4), ((v 11), iz cI 160), ((v 12), iz cI 40)] : va_W)[if k = 40 then 0 else if k < 40 then 1 + k else k]? = some (adr u h1 h2 v k, e) := by
    intro k hk
    rcases (show k = 0 ∨ k = 1 ∨ k = 2 ∨ k = 3 ∨ k = 4 ∨ k = 5 ∨ k = 6 ∨ k = 7 ∨ k = 8 ∨ k = 9 ∨ k = 10 ∨ k = 11 ∨ k = 12 ∨ k = 13 ∨ k = 14 ∨ k = 15 ∨ k = 16 ∨ k = 17 ∨ k = 18 ∨ k = 19 ∨ k = 20 ∨ k = 21 ∨ k = 22 ∨ k = 23 ∨ k = 24 ∨ k = 25 ∨ k = 26 ∨ k = 27 ∨ k = 28 ∨ k = 29 ∨ k = 30 ∨ k = 31 ∨ k = 32 ∨ k = 33 ∨ k = 34 ∨ k = 35 ∨ k = 36 ∨ k = 37 ∨ k = 38 ∨ k = 39 ∨ k = 40 ∨ k = 41 ∨ k = 42 ∨ k = 43 ∨ k = 44 ∨ k = 45 ∨ k = 46 ∨ k = 47 ∨ k = 48 ∨ k = 49 ∨ k = 50 ∨ k = 51 ∨ k = 52 ∨ k = 53 by omega) with rfl | rfl | rfl | rfl | rfl | rfl | rfl | rfl | rfl | rfl | rfl | rfl | rfl | rfl | rfl | rfl | rfl | rfl | rfl | rfl | rfl | rfl | rfl | rfl | rfl | rfl | rfl | rfl | rfl | rfl | rfl | rfl | rfl | rfl | rfl | rfl | rfl | rfl | rfl | rfl | rfl | rfl | rfl | rfl | rfl | rfl | rfl | rfl | rfl | rfl | rfl | rfl | rfl | rfl <;> exact ⟨_, rfl⟩
  refine ⟨fun i j hi hj e => ?_, fun k hk => ?_⟩
  · obtain ⟨ei, h3⟩ := key i hi
    obtain ⟨ej, h4⟩ := key j hj
    have q := hD.1 _ _ _ _ h3 h4 e
    repeat' split at q
    all_goals omega
  · obtain ⟨ei, h3⟩ := key k hk
    exact hD.2 _ _ h3
set_option maxHeartbeats 4000000 in
set_option maxRecDepth 100000 in
theorem whole_start {p : Program} {e : Env} {s : State} {m : MethodId} {below : List Frame} {meth : Method} {c : Code} (l : Launch) (hflags : l.flags = flags0) {b L : Nat} {xs : Nat → Int32} (hL : L ≤ 3072) (C0 : lw_At p s m meth c b L xs) : W p l e room_1 s m #[Value.ref b] below meth c s.heap [] 0 0 (lw_Z below #[Value.ref b] s) (entryFrame m ([Value.ref b] : List Value).toArray 4) := by
  obtain ⟨hx, hb, hr, hml, hown, hts0, hX, hbl, hlocks, hgv⟩ := id C0
  have hts := tbl_law hts0
  have hA : ∀ q : Nat, s.heap.size ≤ q → (fun q : Nat => s.heap.size ≤ q) q := fun _ h => h
  obtain ⟨c0, iS0, hKn0⟩ := u_known (C := RX0) (T := TX0) (N := 12) (n := 12) hts inX0 (hts _ t_98)
  obtain ⟨c1, iS1, hKn1⟩ := u_known (C := RX1) (T := TX1) (N := 3) (n := 3) hts inX1 (hts _ t_198)
  obtain ⟨c2, iS2, hKn2⟩ := u_known (C := RX2) (T := TX2) (N := 2) (n := 2) hts inX2 (hts _ t_159)
  obtain ⟨c3, iS3, hKn3⟩ := u_known (C := RX3) (T := TX3) (N := 5) (n := 5) hts inX3 (hts _ t_175)
  obtain ⟨c4, iS4, hKn4⟩ := u_known (C := RX4) (T := TX4) (N := 8) (n := 8) hts inX4 (hts _ t_90)
  obtain ⟨c5, iS5, hKn5⟩ := u_known (C := RX5) (T := TX5) (N := 19) (n := 19) hts inX5 (hts _ t_775)
  obtain ⟨D, hKc⟩ : ∃ D : va_G, ∀ (k : Nat) (q : vw_C), cls[k]? = some q → u_Kn s q.1 q.2.1 q.2.2 (D.1 k) (D.2 k) := by
    refine ⟨(fun k => if k = 0 then c0 else if k = 1 then c1 else if k = 2 then c2 else if k = 3 then c3 else if k = 4 then c4 else c5, fun k => if k = 0 then iS0 else if k = 1 then iS1 else if k = 2 then iS2 else if k = 3 then iS3 else if k = 4 then iS4 else iS5), ?_⟩
    intro k q hq
    match k, hq with
    | 0, hq => cases hq; exact hKn0
    | 1, hq => cases hq; exact hKn1
    | 2, hq => cases hq; exact hKn2
    | 3, hq => cases hq; exact hKn3
    | 4, hq => cases hq; exact hKn4
    | 5, hq => cases hq; exact hKn5
    | k + 6, hq => simp [cls] at hq
  obtain ⟨cI, hK⟩ := kI_of hKc (hts _ t_157)
  have hS : va_S (fun q : Nat => s.heap.size ≤ q) s.heap s.heap [] := va_S.rf
  have hP : va_P D cls [] s.heap := fun k q h => by simp at h
  have hD : va_D (fun q : Nat => s.heap.size ≤ q) [] := ⟨fun i j p q h => by simp at h, fun k q h => by simp at h⟩
  have hl := lv_entry ([.ref b]) (n := 4) (Nat.le_of_ble_eq_true rfl)
  rw [lg_entry_eq]
  generalize (lg_sl ([.ref b]) ++ List.replicate (4 - (lg_sl ([.ref b])).length) Slot.unset).toArray = ls at hl ⊢
  have hl : lv_has ls 4 [(0, .ref b)] := hl
  have nT : va_Nw (.methodLinkNest RX4 28 yX2_init RX4) s := va_Nw.of rfl (hts0 _ (lw_mem 160 (by decide +kernel)))
  have nR : va_Nw (.methodLinkNest RX4 35 yX3_init RX4) s := va_Nw.of rfl (hts0 _ (lw_mem 176 (by decide +kernel)))
  have nS : va_Nw (.methodLinkNest RX4 46 yX1_init RX4) s := va_Nw.of rfl (hts0 _ (lw_mem 199 (by decide +kernel)))
  have nA : va_AO RX1 s := va_AO.of (hts0 _ (lw_mem 197 (by decide +kernel) : Cond.arrayOver (.object RX1) ∈ lw_tbl))
  refine va_new (ci := 4) (fs := [.null, .null, .null, .int (iI 0), .null, .null, .null, .null]) (C := RX4) (T := TX4) (N := 8) hx hb hts inX4 tyX4 tyX4_ok hown (hts _ t_89) (hts _ t_90) (hts _ t_76) hK hP hD hS hA rfl (fun j hj => by rcases (show j = 0 ∨ j = 1 ∨ j = 2 ∨ j = 3 ∨ j = 4 ∨ j = 5 ∨ j = 6 ∨ j = 7 by omega) with rfl | rfl | rfl | rfl | rfl | rfl | rfl | rfl <;> first | rfl | exact congrArg Value.int iI_0) (Nat.le_of_ble_eq_true rfl) (Nat.le_of_ble_eq_true rfl) dL_law_0 (fun h1 H hP hD hS => ?_)
  replace hP : va_P D cls [(h1, ob 4 [.null, .null, .null, .int (iI 0), .null, .null, .null, .null])] H := hP
  replace hD : va_D (fun q : Nat => s.heap.size ≤ q) [(h1, ob 4 [.null, .null, .null, .int (iI 0), .null, .null, .null, .null])] := hD
  refine W.widen (k := 1) (n := 8) (Nat.le_of_ble_eq_true rfl) (Nat.le_of_ble_eq_true rfl) ?_
  refine lv_dup hx hb dL_law_3 rfl ?_
  have hPc := hP.sub (ws' := [(h1, ob 4 [.null, .null, .null, .int (iI 0), .null, .null, .null, .null])]) [0] rfl
  have hDc := hD.sub (ws' := [(h1, ob 4 [.null, .null, .null, .int (iI 0), .null, .null, .null, .null])]) [0] (by decide) rfl
  have hKc := hK.sub (tys' := [(cI, .int)]) [0] rfl
  have hFc := va_free (wc := [(h1, ob 4 [.null, .null, .null, .int (iI 0), .null, .null, .null, .null])]) hD hS hA [0] rfl
  refine va_callv (va_runI (As := []) (rest := [.ref h1]) ⟨hx, hb, hml, hown, hts⟩ (i_Dust l D cI h1 H.size) (cwI 0 hts (wsOf_good t_93) rfl rfl rfl (hts _ t_76) (hts _ t_91) (hts _ t_92) rfl (by decide +kernel) ⟨Nat.le_of_ble_eq_true rfl, Nat.le_of_ble_eq_true rfl⟩) ⟨fun a U g mk q => by obtain ⟨q0, q1, qP, qK, qD, n1, n2, n3, n4⟩ := q; exact ⟨q0, q1, qP, va_K.moved (u := U) (U := U.calling g mk a) (Vm.Alike.refl U.vm) qK, qD, va_Nw.same (U := U.calling g mk a) rfl rfl n1, va_Nw.same (U := U.calling g mk a) rfl rfl n2, va_Nw.same (U := U.calling g mk a) rfl rfl n3, va_AO.moved (u := U) (U := U.calling g mk a) (Vm.Alike.refl U.vm) n4⟩, fun U hU hW => ⟨rfl, by rw [hU], by rw [hU]; exact hPc, va_K.moved hW.alike hKc, hDc.weaken (fun _ _ _ _ => trivial), va_Nw.warmM hW nT, va_Nw.warmM hW nR, va_Nw.warmM hW nS, va_AO.moved hW.alike nA⟩⟩ rfl rfl hl.1 rfl (lv_room (Nat.le_of_ble_eq_true rfl)) dL_law_4 ⟨Nat.le_of_ble_eq_true rfl, Nat.le_of_ble_eq_true rfl⟩) hS (fun q _ h => hFc q h) hFc (fun u t H1 locs ht hvm _ hB hz1 hk1 hS => ?_)
  obtain ⟨hP1, hK1, hD1⟩ := hB
  rw [ht] at hP1
  replace hK1 := va_K.moved hvm.symm hK1
  obtain ⟨hP, hD⟩ := va_join (wr := []) (w1 := [(h1, ob 4 [.ref (u.1 0), .ref (u.1 8), .ref (u.1 16), .int (iI 0), .ref (u.1 24), .ref (u.1 26), .ref (u.1 30), .ref (u.1 39)]), ((u.1 0), ob 0 [.ref (u.1 1), .ref (u.1 2), .ref (u.1 3), .ref (u.1 4), .ref (u.1 5), .ref (u.1 6), .ref (u.1 7), .int (iI 0), .int (iI 3), .int (iI 0), .int (iI 0), .int (iI 1)]), ((u.1 1), iz cI 12), ((u.1 2), iz cI 12), ((u.1 3), iz cI 8), ((u.1 4), iz cI 8), ((u.1 5), iz cI 8), ((u.1 6), iz cI 96), ((u.1 7), ifn cI 10 (spI 10)), ((u.1 8), ob 0 [.ref (u.1 9), .ref (u.1 10), .ref (u.1 11), .ref (u.1 12), .ref (u.1 13), .ref (u.1 14), .ref (u.1 15), .int (iI 0), .int (iI 3), .int (iI 0), .int (iI 0), .int (iI 1)]), ((u.1 9), iz cI 12), ((u.1 10), iz cI 12), ((u.1 11), iz cI 8), ((u.1 12), iz cI 8), ((u.1 13), iz cI 8), ((u.1 14), iz cI 96), ((u.1 15), ifn cI 10 (spI 10)), ((u.1 16), ob 0 [.ref (u.1 17), .ref (u.1 18), .ref (u.1 19), .ref (u.1 20), .ref (u.1 21), .ref (u.1 22), .ref (u.1 23), .int (iI 0), .int (iI 3), .int (iI 0), .int (iI 0), .int (iI 1)]), ((u.1 17), iz cI 12), ((u.1 18), iz cI 12), ((u.1 19), iz cI 8), ((u.1 20), iz cI 8), ((u.1 21), iz cI 8), ((u.1 22), iz cI 96), ((u.1 23), ifn cI 10 (spI 10)), ((u.1 24), ob 2 [.ref (u.1 25), .int (iI 0)]), ((u.1 25), iz cI 120), ((u.1 26), ob 3 [.ref (u.1 27), .ref (u.1 28), .ref (u.1 29), .int (iI 0), .int (iI 0)]), ((u.1 27), iz cI 121), ((u.1 28), iz cI 121), ((u.1 29), iz cI 121), ((u.1 30), shq (u.2) (va_up (va_up (va_up (va_up (fun _ => none) 0 (some (u.1 31))) 1 (some (u.1 33))) 2 (some (u.1 35))) 3 (some (u.1 37)))), ((u.1 31), ob 1 [.ref (u.1 32), .int (iI 0), .int (iI 0)]), ((u.1 32), iz cI 40), ((u.1 33), ob 1 [.ref (u.1 34), .int (iI 0), .int (iI 0)]), ((u.1 34), iz cI 40), ((u.1 35), ob 1 [.ref (u.1 36), .int (iI 0), .int (iI 0)]), ((u.1 36), iz cI 40), ((u.1 37), ob 1 [.ref (u.1 38), .int (iI 0), .int (iI 0)]), ((u.1 38), iz cI 40), ((u.1 39), iz cI 7)]) hP hD [0] [] rfl rfl (by decide) (by decide) hk1 hFc hP1 hD1
  clear hP1 hD1 hPc hDc hKc hFc hk1 hz1
  generalize H1 = H at hP hS ⊢
  replace hP : va_P D cls [(h1, ob 4 [.ref (u.1 0), .ref (u.1 8), .ref (u.1 16), .int (iI 0), .ref (u.1 24), .ref (u.1 26), .ref (u.1 30), .ref (u.1 39)]), ((u.1 0), ob 0 [.ref (u.1 1), .ref (u.1 2), .ref (u.1 3), .ref (u.1 4), .ref (u.1 5), .ref (u.1 6), .ref (u.1 7), .int (iI 0), .int (iI 3), .int (iI 0), .int (iI 0), .int (iI 1)]), ((u.1 1), iz cI 12), ((u.1 2), iz cI 12), ((u.1 3), iz cI 8), ((u.1 4), iz cI 8), ((u.1 5), iz cI 8), ((u.1 6), iz cI 96), ((u.1 7), ifn cI 10 (spI 10)), ((u.1 8), ob 0 [.ref (u.1 9), .ref (u.1 10), .ref (u.1 11), .ref (u.1 12), .ref (u.1 13), .ref (u.1 14), .ref (u.1 15), .int (iI 0), .int (iI 3), .int (iI 0), .int (iI 0), .int (iI 1)]), ((u.1 9), iz cI 12), ((u.1 10), iz cI 12), ((u.1 11), iz cI 8), ((u.1 12), iz cI 8), ((u.1 13), iz cI 8), ((u.1 14), iz cI 96), ((u.1 15), ifn cI 10 (spI 10)), ((u.1 16), ob 0 [.ref (u.1 17), .ref (u.1 18), .ref (u.1 19), .ref (u.1 20), .ref (u.1 21), .ref (u.1 22), .ref (u.1 23), .int (iI 0), .int (iI 3), .int (iI 0), .int (iI 0), .int (iI 1)]), ((u.1 17), iz cI 12), ((u.1 18), iz cI 12), ((u.1 19), iz cI 8), ((u.1 20), iz cI 8), ((u.1 21), iz cI 8), ((u.1 22), iz cI 96), ((u.1 23), ifn cI 10 (spI 10)), ((u.1 24), ob 2 [.ref (u.1 25), .int (iI 0)]), ((u.1 25), iz cI 120), ((u.1 26), ob 3 [.ref (u.1 27), .ref (u.1 28), .ref (u.1 29), .int (iI 0), .int (iI 0)]), ((u.1 27), iz cI 121), ((u.1 28), iz cI 121), ((u.1 29), iz cI 121), ((u.1 30), shq (u.2) (va_up (va_up (va_up (va_up (fun _ => none) 0 (some (u.1 31))) 1 (some (u.1 33))) 2 (some (u.1 35))) 3 (some (u.1 37)))), ((u.1 31), ob 1 [.ref (u.1 32), .int (iI 0), .int (iI 0)]), ((u.1 32), iz cI 40), ((u.1 33), ob 1 [.ref (u.1 34), .int (iI 0), .int (iI 0)]), ((u.1 34), iz cI 40), ((u.1 35), ob 1 [.ref (u.1 36), .int (iI 0), .int (iI 0)]), ((u.1 36), iz cI 40), ((u.1 37), ob 1 [.ref (u.1 38), .int (iI 0), .int (iI 0)]), ((u.1 38), iz cI 40), ((u.1 39), iz cI 7)] H := hP
  replace hD : va_D (fun q : Nat => s.heap.size ≤ q) [(h1, ob 4 [.ref (u.1 0), .ref (u.1 8), .ref (u.1 16), .int (iI 0), .ref (u.1 24), .ref (u.1 26), .ref (u.1 30), .ref (u.1 39)]), ((u.1 0), ob 0 [.ref (u.1 1), .ref (u.1 2), .ref (u.1 3), .ref (u.1 4), .ref (u.1 5), .ref (u.1 6), .ref (u.1 7), .int (iI 0), .int (iI 3), .int (iI 0), .int (iI 0), .int (iI 1)]), ((u.1 1), iz cI 12), ((u.1 2), iz cI 12), ((u.1 3), iz cI 8), ((u.1 4), iz cI 8), ((u.1 5), iz cI 8), ((u.1 6), iz cI 96), ((u.1 7), ifn cI 10 (spI 10)), ((u.1 8), ob 0 [.ref (u.1 9), .ref (u.1 10), .ref (u.1 11), .ref (u.1 12), .ref (u.1 13), .ref (u.1 14), .ref (u.1 15), .int (iI 0), .int (iI 3), .int (iI 0), .int (iI 0), .int (iI 1)]), ((u.1 9), iz cI 12), ((u.1 10), iz cI 12), ((u.1 11), iz cI 8), ((u.1 12), iz cI 8), ((u.1 13), iz cI 8), ((u.1 14), iz cI 96), ((u.1 15), ifn cI 10 (spI 10)), ((u.1 16), ob 0 [.ref (u.1 17), .ref (u.1 18), .ref (u.1 19), .ref (u.1 20), .ref (u.1 21), .ref (u.1 22), .ref (u.1 23), .int (iI 0), .int (iI 3), .int (iI 0), .int (iI 0), .int (iI 1)]), ((u.1 17), iz cI 12), ((u.1 18), iz cI 12), ((u.1 19), iz cI 8), ((u.1 20), iz cI 8), ((u.1 21), iz cI 8), ((u.1 22), iz cI 96), ((u.1 23), ifn cI 10 (spI 10)), ((u.1 24), ob 2 [.ref (u.1 25), .int (iI 0)]), ((u.1 25), iz cI 120), ((u.1 26), ob 3 [.ref (u.1 27), .ref (u.1 28), .ref (u.1 29), .int (iI 0), .int (iI 0)]), ((u.1 27), iz cI 121), ((u.1 28), iz cI 121), ((u.1 29), iz cI 121), ((u.1 30), shq (u.2) (va_up (va_up (va_up (va_up (fun _ => none) 0 (some (u.1 31))) 1 (some (u.1 33))) 2 (some (u.1 35))) 3 (some (u.1 37)))), ((u.1 31), ob 1 [.ref (u.1 32), .int (iI 0), .int (iI 0)]), ((u.1 32), iz cI 40), ((u.1 33), ob 1 [.ref (u.1 34), .int (iI 0), .int (iI 0)]), ((u.1 34), iz cI 40), ((u.1 35), ob 1 [.ref (u.1 36), .int (iI 0), .int (iI 0)]), ((u.1 36), iz cI 40), ((u.1 37), ob 1 [.ref (u.1 38), .int (iI 0), .int (iI 0)]), ((u.1 38), iz cI 40), ((u.1 39), iz cI 7)] := hD
  refine W.widen (k := 41) (n := 1179) (Nat.le_of_ble_eq_true rfl) (Nat.le_of_ble_eq_true rfl) ?_
  replace hK := hK1
  refine lv_astore_n (lv' := [(1, .ref h1), (0, .ref b)]) hx hb dL_law_7 rfl hl (by decide) rfl (fun ls hl => ?_)
  refine va_new (ci := 5) (fs := [.null, .null, .null, .null, .null, .int (iI 0), .int (iI 0), .null, .null, .null, .int (iI 0), .int (iI 0), .int (iI 0), .int (iI 0), .int (iI 0), .null, .null, .null, .null]) (C := RX5) (T := TX5) (N := 19) hx hb hts inX5 tyX5 tyX5_ok hown (hts _ t_774) (hts _ t_775) (hts _ t_81) hK hP hD hS hA rfl (fun j hj => by rcases (show j = 0 ∨ j = 1 ∨ j = 2 ∨ j = 3 ∨ j = 4 ∨ j = 5 ∨ j = 6 ∨ j = 7 ∨ j = 8 ∨ j = 9 ∨ j = 10 ∨ j = 11 ∨ j = 12 ∨ j = 13 ∨ j = 14 ∨ j = 15 ∨ j = 16 ∨ j = 17 ∨ j = 18 by omega) with rfl | rfl | rfl | rfl | rfl | rfl | rfl | rfl | rfl | rfl | rfl | rfl | rfl | rfl | rfl | rfl | rfl | rfl | rfl <;> first | rfl | exact congrArg Value.int iI_0) (Nat.le_of_ble_eq_true rfl) (Nat.le_of_ble_eq_true rfl) dL_law_8 (fun h2 H hP hD hS => ?_)
  replace hP : va_P D cls [(h1, ob 4 [.ref (u.1 0), .ref (u.1 8), .ref (u.1 16), .int (iI 0), .ref (u.1 24), .ref (u.1 26), .ref (u.1 30), .ref (u.1 39)]), ((u.1 0), ob 0 [.ref (u.1 1), .ref (u.1 2), .ref (u.1 3), .ref (u.1 4), .ref (u.1 5), .ref (u.1 6), .ref (u.1 7), .int (iI 0), .int (iI 3), .int (iI 0), .int (iI 0), .int (iI 1)]), ((u.1 1), iz cI 12), ((u.1 2), iz cI 12), ((u.1 3), iz cI 8), ((u.1 4), iz cI 8), ((u.1 5), iz cI 8), ((u.1 6), iz cI 96), ((u.1 7), ifn cI 10 (spI 10)), ((u.1 8), ob 0 [.ref (u.1 9), .ref (u.1 10), .ref (u.1 11), .ref (u.1 12), .ref (u.1 13), .ref (u.1 14), .ref (u.1 15), .int (iI 0), .int (iI 3), .int (iI 0), .int (iI 0), .int (iI 1)]), ((u.1 9), iz cI 12), ((u.1 10), iz cI 12), ((u.1 11), iz cI 8), ((u.1 12), iz cI 8), ((u.1 13), iz cI 8), ((u.1 14), iz cI 96), ((u.1 15), ifn cI 10 (spI 10)), ((u.1 16), ob 0 [.ref (u.1 17), .ref (u.1 18), .ref (u.1 19), .ref (u.1 20), .ref (u.1 21), .ref (u.1 22), .ref (u.1 23), .int (iI 0), .int (iI 3), .int (iI 0), .int (iI 0), .int (iI 1)]), ((u.1 17), iz cI 12), ((u.1 18), iz cI 12), ((u.1 19), iz cI 8), ((u.1 20), iz cI 8), ((u.1 21), iz cI 8), ((u.1 22), iz cI 96), ((u.1 23), ifn cI 10 (spI 10)), ((u.1 24), ob 2 [.ref (u.1 25), .int (iI 0)]), ((u.1 25), iz cI 120), ((u.1 26), ob 3 [.ref (u.1 27), .ref (u.1 28), .ref (u.1 29), .int (iI 0), .int (iI 0)]), ((u.1 27), iz cI 121), ((u.1 28), iz cI 121), ((u.1 29), iz cI 121), ((u.1 30), shq (u.2) (va_up (va_up (va_up (va_up (fun _ => none) 0 (some (u.1 31))) 1 (some (u.1 33))) 2 (some (u.1 35))) 3 (some (u.1 37)))), ((u.1 31), ob 1 [.ref (u.1 32), .int (iI 0), .int (iI 0)]), ((u.1 32), iz cI 40), ((u.1 33), ob 1 [.ref (u.1 34), .int (iI 0), .int (iI 0)]), ((u.1 34), iz cI 40), ((u.1 35), ob 1 [.ref (u.1 36), .int (iI 0), .int (iI 0)]), ((u.1 36), iz cI 40), ((u.1 37), ob 1 [.ref (u.1 38), .int (iI 0), .int (iI 0)]), ((u.1 38), iz cI 40), ((u.1 39), iz cI 7), (h2, ob 5 [.null, .null, .null, .null, .null, .int (iI 0), .int (iI 0), .null, .null, .null, .int (iI 0), .int (iI 0), .int (iI 0), .int (iI 0), .int (iI 0), .null, .null, .null, .null])] H := hP
  replace hD : va_D (fun q : Nat => s.heap.size ≤ q) [(h1, ob 4 [.ref (u.1 0), .ref (u.1 8), .ref (u.1 16), .int (iI 0), .ref (u.1 24), .ref (u.1 26), .ref (u.1 30), .ref (u.1 39)]), ((u.1 0), ob 0 [.ref (u.1 1), .ref (u.1 2), .ref (u.1 3), .ref (u.1 4), .ref (u.1 5), .ref (u.1 6), .ref (u.1 7), .int (iI 0), .int (iI 3), .int (iI 0), .int (iI 0), .int (iI 1)]), ((u.1 1), iz cI 12), ((u.1 2), iz cI 12), ((u.1 3), iz cI 8), ((u.1 4), iz cI 8), ((u.1 5), iz cI 8), ((u.1 6), iz cI 96), ((u.1 7), ifn cI 10 (spI 10)), ((u.1 8), ob 0 [.ref (u.1 9), .ref (u.1 10), .ref (u.1 11), .ref (u.1 12), .ref (u.1 13), .ref (u.1 14), .ref (u.1 15), .int (iI 0), .int (iI 3), .int (iI 0), .int (iI 0), .int (iI 1)]), ((u.1 9), iz cI 12), ((u.1 10), iz cI 12), ((u.1 11), iz cI 8), ((u.1 12), iz cI 8), ((u.1 13), iz cI 8), ((u.1 14), iz cI 96), ((u.1 15), ifn cI 10 (spI 10)), ((u.1 16), ob 0 [.ref (u.1 17), .ref (u.1 18), .ref (u.1 19), .ref (u.1 20), .ref (u.1 21), .ref (u.1 22), .ref (u.1 23), .int (iI 0), .int (iI 3), .int (iI 0), .int (iI 0), .int (iI 1)]), ((u.1 17), iz cI 12), ((u.1 18), iz cI 12), ((u.1 19), iz cI 8), ((u.1 20), iz cI 8), ((u.1 21), iz cI 8), ((u.1 22), iz cI 96), ((u.1 23), ifn cI 10 (spI 10)), ((u.1 24), ob 2 [.ref (u.1 25), .int (iI 0)]), ((u.1 25), iz cI 120), ((u.1 26), ob 3 [.ref (u.1 27), .ref (u.1 28), .ref (u.1 29), .int (iI 0), .int (iI 0)]), ((u.1 27), iz cI 121), ((u.1 28), iz cI 121), ((u.1 29), iz cI 121), ((u.1 30), shq (u.2) (va_up (va_up (va_up (va_up (fun _ => none) 0 (some (u.1 31))) 1 (some (u.1 33))) 2 (some (u.1 35))) 3 (some (u.1 37)))), ((u.1 31), ob 1 [.ref (u.1 32), .int (iI 0), .int (iI 0)]), ((u.1 32), iz cI 40), ((u.1 33), ob 1 [.ref (u.1 34), .int (iI 0), .int (iI 0)]), ((u.1 34), iz cI 40), ((u.1 35), ob 1 [.ref (u.1 36), .int (iI 0), .int (iI 0)]), ((u.1 36), iz cI 40), ((u.1 37), ob 1 [.ref (u.1 38), .int (iI 0), .int (iI 0)]), ((u.1 38), iz cI 40), ((u.1 39), iz cI 7), (h2, ob 5 [.null, .null, .null, .null, .null, .int (iI 0), .int (iI 0), .null, .null, .null, .int (iI 0), .int (iI 0), .int (iI 0), .int (iI 0), .int (iI 0), .null, .null, .null, .null])] := hD
  refine W.widen (k := 42) (n := 1198) (Nat.le_of_ble_eq_true rfl) (Nat.le_of_ble_eq_true rfl) ?_
  refine lv_dup hx hb dL_law_11 rfl ?_
  have hPc := hP.sub (ws' := [(h2, ob 5 [.null, .null, .null, .null, .null, .int (iI 0), .int (iI 0), .null, .null, .null, .int (iI 0), .int (iI 0), .int (iI 0), .int (iI 0), .int (iI 0), .null, .null, .null, .null])]) [41] rfl
  have hDc := hD.sub (ws' := [(h2, ob 5 [.null, .null, .null, .null, .null, .int (iI 0), .int (iI 0), .null, .null, .null, .int (iI 0), .int (iI 0), .int (iI 0), .int (iI 0), .int (iI 0), .null, .null, .null, .null])]) [41] (by decide) rfl
  have hKc := hK.sub (tys' := [(cI, .int)]) [0] rfl
  have hFc := va_free (wc := [(h2, ob 5 [.null, .null, .null, .null, .null, .int (iI 0), .int (iI 0), .null, .null, .null, .int (iI 0), .int (iI 0), .int (iI 0), .int (iI 0), .int (iI 0), .null, .null, .null, .null])]) hD hS hA [41] rfl
  refine va_callv (va_runI (As := []) (rest := [.ref h2]) ⟨hx, hb, hml, hown, hts⟩ (i_Model l D cI h2 H.size) (cwI 0 hts (wsOf_good t_778) rfl rfl rfl (hts _ t_81) (hts _ t_776) (hts _ t_777) rfl (by decide +kernel) ⟨Nat.le_of_ble_eq_true rfl, Nat.le_of_ble_eq_true rfl⟩) ⟨fun a U g mk q => by obtain ⟨q0, q1, qP, qK, qD⟩ := q; exact ⟨q0, q1, qP, va_K.moved (u := U) (U := U.calling g mk a) (Vm.Alike.refl U.vm) qK, qD⟩, fun U hU hW => ⟨rfl, by rw [hU], by rw [hU]; exact hPc, va_K.moved hW.alike hKc, hDc.weaken (fun _ _ _ _ => trivial)⟩⟩ rfl rfl hl.1 rfl (lv_room (Nat.le_of_ble_eq_true rfl)) dL_law_12 ⟨Nat.le_of_ble_eq_true rfl, Nat.le_of_ble_eq_true rfl⟩) hS (fun q _ h => hFc q h) hFc (fun v t H1 locs ht hvm _ hB hz1 hk1 hS => ?_)
  obtain ⟨hP1, hK1, hD1⟩ := hB
  rw [ht] at hP1
  replace hK1 := va_K.moved hvm.symm hK1
  obtain ⟨hP, hD⟩ := va_join (wr := [(h1, ob 4 [.ref (u.1 0), .ref (u.1 8), .ref (u.1 16), .int (iI 0), .ref (u.1 24), .ref (u.1 26), .ref (u.1 30), .ref (u.1 39)]), ((u.1 0), ob 0 [.ref (u.1 1), .ref (u.1 2), .ref (u.1 3), .ref (u.1 4), .ref (u.1 5), .ref (u.1 6), .ref (u.1 7), .int (iI 0), .int (iI 3), .int (iI 0), .int (iI 0), .int (iI 1)]), ((u.1 1), iz cI 12), ((u.1 2), iz cI 12), ((u.1 3), iz cI 8), ((u.1 4), iz cI 8), ((u.1 5), iz cI 8), ((u.1 6), iz cI 96), ((u.1 7), ifn cI 10 (spI 10)), ((u.1 8), ob 0 [.ref (u.1 9), .ref (u.1 10), .ref (u.1 11), .ref (u.1 12), .ref (u.1 13), .ref (u.1 14), .ref (u.1 15), .int (iI 0), .int (iI 3), .int (iI 0), .int (iI 0), .int (iI 1)]), ((u.1 9), iz cI 12), ((u.1 10), iz cI 12), ((u.1 11), iz cI 8), ((u.1 12), iz cI 8), ((u.1 13), iz cI 8), ((u.1 14), iz cI 96), ((u.1 15), ifn cI 10 (spI 10)), ((u.1 16), ob 0 [.ref (u.1 17), .ref (u.1 18), .ref (u.1 19), .ref (u.1 20), .ref (u.1 21), .ref (u.1 22), .ref (u.1 23), .int (iI 0), .int (iI 3), .int (iI 0), .int (iI 0), .int (iI 1)]), ((u.1 17), iz cI 12), ((u.1 18), iz cI 12), ((u.1 19), iz cI 8), ((u.1 20), iz cI 8), ((u.1 21), iz cI 8), ((u.1 22), iz cI 96), ((u.1 23), ifn cI 10 (spI 10)), ((u.1 24), ob 2 [.ref (u.1 25), .int (iI 0)]), ((u.1 25), iz cI 120), ((u.1 26), ob 3 [.ref (u.1 27), .ref (u.1 28), .ref (u.1 29), .int (iI 0), .int (iI 0)]), ((u.1 27), iz cI 121), ((u.1 28), iz cI 121), ((u.1 29), iz cI 121), ((u.1 30), shq (u.2) (va_up (va_up (va_up (va_up (fun _ => none) 0 (some (u.1 31))) 1 (some (u.1 33))) 2 (some (u.1 35))) 3 (some (u.1 37)))), ((u.1 31), ob 1 [.ref (u.1 32), .int (iI 0), .int (iI 0)]), ((u.1 32), iz cI 40), ((u.1 33), ob 1 [.ref (u.1 34), .int (iI 0), .int (iI 0)]), ((u.1 34), iz cI 40), ((u.1 35), ob 1 [.ref (u.1 36), .int (iI 0), .int (iI 0)]), ((u.1 36), iz cI 40), ((u.1 37), ob 1 [.ref (u.1 38), .int (iI 0), .int (iI 0)]), ((u.1 38), iz cI 40), ((u.1 39), iz cI 7)]) (w1 := [(h2, ob 5 [.ref (v 1), .ref (v 2), .ref (v 3), .ref (v 4), .ref (v 5), .int (iI 0), .int (iI 255), .ref (v 6), .ref (v 7), .ref (v 8), .int (iI 0), .int (iI 0), .int (iI 0), .int (iI 0), .int (iI 0), .ref (v 9), .ref (v 10), .ref (v 11), .ref (v 12)]), ((v 1), ifn cI 147 (sI 10)), ((v 2), iz cI 147), ((v 3), iz cI 147), ((v 4), iz cI 147), ((v 5), iz cI 7), ((v 6), iz cI 12), ((v 7), iz cI 12), ((v 8), iz cI 120), ((v 9), iz cI 4), ((v 10), iz cI 4), ((v 11), iz cI 160), ((v 12), iz cI 40)]) hP hD [41] [0, 1, 2, 3, 4, 5, 6, 7, 8, 9, 10, 11, 12, 13, 14, 15, 16, 17, 18, 19, 20, 21, 22, 23, 24, 25, 26, 27, 28, 29, 30, 31, 32, 33, 34, 35, 36, 37, 38, 39, 40] rfl rfl (by decide) (by decide) hk1 hFc hP1 hD1
  clear hP1 hD1 hPc hDc hKc hFc hk1 hz1
  generalize H1 = H at hP hS ⊢
  replace hP : va_P D cls [(h1, ob 4 [.ref (u.1 0), .ref (u.1 8), .ref (u.1 16), .int (iI 0), .ref (u.1 24), .ref (u.1 26), .ref (u.1 30), .ref (u.1 39)]), ((u.1 0), ob 0 [.ref (u.1 1), .ref (u.1 2), .ref (u.1 3), .ref (u.1 4), .ref (u.1 5), .ref (u.1 6), .ref (u.1 7), .int (iI 0), .int (iI 3), .int (iI 0), .int (iI 0), .int (iI 1)]), ((u.1 1), iz cI 12), ((u.1 2), iz cI 12), ((u.1 3), iz cI 8), ((u.1 4), iz cI 8), ((u.1 5), iz cI 8), ((u.1 6), iz cI 96), ((u.1 7), ifn cI 10 (spI 10)), ((u.1 8), ob 0 [.ref (u.1 9), .ref (u.1 10), .ref (u.1 11), .ref (u.1 12), .ref (u.1 13), .ref (u.1 14), .ref (u.1 15), .int (iI 0), .int (iI 3), .int (iI 0), .int (iI 0), .int (iI 1)]), ((u.1 9), iz cI 12), ((u.1 10), iz cI 12), ((u.1 11), iz cI 8), ((u.1 12), iz cI 8), ((u.1 13), iz cI 8), ((u.1 14), iz cI 96), ((u.1 15), ifn cI 10 (spI 10)), ((u.1 16), ob 0 [.ref (u.1 17), .ref (u.1 18), .ref (u.1 19), .ref (u.1 20), .ref (u.1 21), .ref (u.1 22), .ref (u.1 23), .int (iI 0), .int (iI 3), .int (iI 0), .int (iI 0), .int (iI 1)]), ((u.1 17), iz cI 12), ((u.1 18), iz cI 12), ((u.1 19), iz cI 8), ((u.1 20), iz cI 8), ((u.1 21), iz cI 8), ((u.1 22), iz cI 96), ((u.1 23), ifn cI 10 (spI 10)), ((u.1 24), ob 2 [.ref (u.1 25), .int (iI 0)]), ((u.1 25), iz cI 120), ((u.1 26), ob 3 [.ref (u.1 27), .ref (u.1 28), .ref (u.1 29), .int (iI 0), .int (iI 0)]), ((u.1 27), iz cI 121), ((u.1 28), iz cI 121), ((u.1 29), iz cI 121), ((u.1 30), shq (u.2) (va_up (va_up (va_up (va_up (fun _ => none) 0 (some (u.1 31))) 1 (some (u.1 33))) 2 (some (u.1 35))) 3 (some (u.1 37)))), ((u.1 31), ob 1 [.ref (u.1 32), .int (iI 0), .int (iI 0)]), ((u.1 32), iz cI 40), ((u.1 33), ob 1 [.ref (u.1 34), .int (iI 0), .int (iI 0)]), ((u.1 34), iz cI 40), ((u.1 35), ob 1 [.ref (u.1 36), .int (iI 0), .int (iI 0)]), ((u.1 36), iz cI 40), ((u.1 37), ob 1 [.ref (u.1 38), .int (iI 0), .int (iI 0)]), ((u.1 38), iz cI 40), ((u.1 39), iz cI 7), (h2, ob 5 [.ref (v 1), .ref (v 2), .ref (v 3), .ref (v 4), .ref (v 5), .int (iI 0), .int (iI 255), .ref (v 6), .ref (v 7), .ref (v 8), .int (iI 0), .int (iI 0), .int (iI 0), .int (iI 0), .int (iI 0), .ref (v 9), .ref (v 10), .ref (v 11), .ref (v 12)]), ((v 1), ifn cI 147 (sI 10)), ((v 2), iz cI 147), ((v 3), iz cI 147), ((v 4), iz cI 147), ((v 5), iz cI 7), ((v 6), iz cI 12), ((v 7), iz cI 12), ((v 8), iz cI 120), ((v 9), iz cI 4), ((v 10), iz cI 4), ((v 11), iz cI 160), ((v 12), iz cI 40)] H := hP
  replace hD : va_D (fun q : Nat => s.heap.size ≤ q) [(h1, ob 4 [.ref (u.1 0), .ref (u.1 8), .ref (u.1 16), .int (iI 0), .ref (u.1 24), .ref (u.1 26), .ref (u.1 30), .ref (u.1 39)]), ((u.1 0), ob 0 [.ref (u.1 1), .ref (u.1 2), .ref (u.1 3), .ref (u.1 4), .ref (u.1 5), .ref (u.1 6), .ref (u.1 7), .int (iI 0), .int (iI 3), .int (iI 0), .int (iI 0), .int (iI 1)]), ((u.1 1), iz cI 12), ((u.1 2), iz cI 12), ((u.1 3), iz cI 8), ((u.1 4), iz cI 8), ((u.1 5), iz cI 8), ((u.1 6), iz cI 96), ((u.1 7), ifn cI 10 (spI 10)), ((u.1 8), ob 0 [.ref (u.1 9), .ref (u.1 10), .ref (u.1 11), .ref (u.1 12), .ref (u.1 13), .ref (u.1 14), .ref (u.1 15), .int (iI 0), .int (iI 3), .int (iI 0), .int (iI 0), .int (iI 1)]), ((u.1 9), iz cI 12), ((u.1 10), iz cI 12), ((u.1 11), iz cI 8), ((u.1 12), iz cI 8), ((u.1 13), iz cI 8), ((u.1 14), iz cI 96), ((u.1 15), ifn cI 10 (spI 10)), ((u.1 16), ob 0 [.ref (u.1 17), .ref (u.1 18), .ref (u.1 19), .ref (u.1 20), .ref (u.1 21), .ref (u.1 22), .ref (u.1 23), .int (iI 0), .int (iI 3), .int (iI 0), .int (iI 0), .int (iI 1)]), ((u.1 17), iz cI 12), ((u.1 18), iz cI 12), ((u.1 19), iz cI 8), ((u.1 20), iz cI 8), ((u.1 21), iz cI 8), ((u.1 22), iz cI 96), ((u.1 23), ifn cI 10 (spI 10)), ((u.1 24), ob 2 [.ref (u.1 25), .int (iI 0)]), ((u.1 25), iz cI 120), ((u.1 26), ob 3 [.ref (u.1 27), .ref (u.1 28), .ref (u.1 29), .int (iI 0), .int (iI 0)]), ((u.1 27), iz cI 121), ((u.1 28), iz cI 121), ((u.1 29), iz cI 121), ((u.1 30), shq (u.2) (va_up (va_up (va_up (va_up (fun _ => none) 0 (some (u.1 31))) 1 (some (u.1 33))) 2 (some (u.1 35))) 3 (some (u.1 37)))), ((u.1 31), ob 1 [.ref (u.1 32), .int (iI 0), .int (iI 0)]), ((u.1 32), iz cI 40), ((u.1 33), ob 1 [.ref (u.1 34), .int (iI 0), .int (iI 0)]), ((u.1 34), iz cI 40), ((u.1 35), ob 1 [.ref (u.1 36), .int (iI 0), .int (iI 0)]), ((u.1 36), iz cI 40), ((u.1 37), ob 1 [.ref (u.1 38), .int (iI 0), .int (iI 0)]), ((u.1 38), iz cI 40), ((u.1 39), iz cI 7), (h2, ob 5 [.ref (v 1), .ref (v 2), .ref (v 3), .ref (v 4), .ref (v 5), .int (iI 0), .int (iI 255), .ref (v 6), .ref (v 7), .ref (v 8), .int (iI 0), .int (iI 0), .int (iI 0), .int (iI 0), .int (iI 0), .ref (v 9), .ref (v 10), .ref (v 11), .ref (v 12)]), ((v 1), ifn cI 147 (sI 10)), ((v 2), iz cI 147), ((v 3), iz cI 147), ((v 4), iz cI 147), ((v 5), iz cI 7), ((v 6), iz cI 12), ((v 7), iz cI 12), ((v 8), iz cI 120), ((v 9), iz cI 4), ((v 10), iz cI 4), ((v 11), iz cI 160), ((v 12), iz cI 40)] := hD
  refine W.widen (k := 54) (n := 2145) (Nat.le_of_ble_eq_true rfl) (Nat.le_of_ble_eq_true rfl) ?_
  refine lv_astore_n (lv' := [(2, .ref h2), (1, .ref h1), (0, .ref b)]) hx hb dL_law_15 rfl hl (by decide) rfl (fun ls hl => ?_)
  refine lv_iconst (v := nI 0) hx hb dL_law_16 (by decide) ?_
  refine lv_istore_n (lv' := [(3, .int (nI 0)), (2, .ref h2), (1, .ref h1), (0, .ref b)]) hx hb dL_law_17 rfl hl (by decide) rfl (fun ls hl => ?_)
  obtain ⟨u, cQ⟩ := u
  have hD2 := Dg_of (l := l) (D := D) (cI := cI) (cQ := cQ) (u := u) (v := v) (gT := fun _ => 0) (gK := fun _ => 0) (gV := fun _ => 0) hD
  obtain ⟨gT, gK, gV, hF⟩ := Fx_of l hts0 hgv hK (ad := adr u h1 h2 v) hD2.2
  have CC : CL (l, D, cI, cQ, adr u h1 h2 v, gT, gK, gV) p s m meth c b L xs := ⟨hx, hb, hml, hown, hts, ⟨hX, hbl, hL⟩, hr, hlocks, hF, hD2.1, hD2.2⟩
  exact law_loop CC ⟨Nat.le_of_ble_eq_true rfl, Nat.le_of_ble_eq_true rfl⟩ L 0 sg0 (by omega) (by omega) sg0_R ls H _ (lv_sub hl [3, 2, 1, 0] rfl) (cw_of hP) hS
set_option maxHeartbeats 4000000 in
theorem lw_walk (l : Launch) (hflags : l.flags = flags0) (b : Addr) (xs : List Int32) : MetFree l x (headSpec (Jvm.Cond.code x code maxLocals ret :: tables_1) room_1) (lw_P b xs) (fun _ _ _ _ _ => True) lw_Q := by
  refine MetFree.of_bodyS (code := code) (maxLocals := maxLocals) (ret := ret) (by decide) ?_ ?_
  · intro args s m h hn
    obtain ⟨meth, c, h1, h2, h3, h4, h5, h6, -, -⟩ := Cond.code_spec hn (atoms_spec (ws := Jvm.Cond.code x code maxLocals ret :: tables_1) h _ List.mem_cons_self)
    exact ⟨meth, c, h1, h2, h3, h4, h5, h6⟩
  · intro p e s m args below meth c s₁ B hml0 hP _
    obtain ⟨rfl, hx, hbd, hgv⟩ := hP
    obtain ⟨scr, harrAt, hlist, hof, hsmall⟩ := hx
    obtain ⟨hcb, hkn, -, -⟩ := State.arrayAt?_spec harrAt
    have hown : s.vm.findClass R_law = some m.cls := findClass_of_methodNamed B.named
    have hts0 : ∀ c ∈ (Jvm.Cond.code x code maxLocals ret :: tables_1), c.before #[Value.ref b] s = true := atoms_spec (ws := Jvm.Cond.code x code maxLocals ret :: tables_1) B.pre
    have hts : ∀ w ∈ lw_tbl, w.before #[Value.ref b] s = true := k2_hts_sels lw_privs (fun w hw => hts0 w (List.mem_cons_of_mem _ hw)) lw_privs_ok
    have hml : c.maxLocals = 4 := B.maxLocals_eq (hts0 _ List.mem_cons_self)
    have X₀ : Stand p l e room_1 s m #[Value.ref b] below meth c s₁ [] 0 0 := Stand.of_body B
    have hh0 : s₁.heap = s.heap := by rw [B.state]; rfl
    have hsz : scr.slots.size = xs.length := by rw [← Array.length_toList, hlist, List.length_map]
    have hval : ∀ j : Nat, j < xs.length → scr.slots[j]? = some (.int (xs.getD j 0)) := fun j hj => by
      rw [← Array.getElem?_toList, hlist]
      simp [hj]
    have hbl : b < s.heap.size := (Array.getElem?_eq_some_iff.mp hcb).1
    have hX : va_X b xs.length (fun j => xs.getD j 0) s s.heap := ⟨scr, hcb, hof, hkn, hsz, hval⟩
    have K : W p l e room_1 s m #[Value.ref b] below meth c s₁.heap [] 0 0 (lw_Z below #[Value.ref b] s) (entryFrame m ([Value.ref b] : List Value).toArray 4) := by
      rw [hh0]
      exact whole_start l hflags hbd ⟨B.exec, B.bytes, B.returns, hml, hown, hts, hX, hbl, B.notSynchronized, hgv⟩
    obtain ⟨t, a1, o, b1, b2, b3⟩ := K s₁ rfl X₀
    exact ⟨t, o, a1, b1, b2, b3⟩
theorem lw_pre_spec {args : Array Value} {s : State} (h : (Jvm.Cond.and given_1 narrow_1).before args s = true) (hr : rest_1_c.before args s = true) : ∃ (b : Addr) (xs : List Int32), lw_P b xs args s := by
  have hs := flat_of_before _ h
  have hq := flat_of_before _ hr
  have hc : (Cond.count 1).before args s = true := hs _ (by decide +kernel)
  have harr : (Cond.arrayOf (.arg 0) .int).before args s = true := hs _ (by decide +kernel)
  have hle : (Cond.le (.length (.arg 0)) (.int 3072)).before args s = true := hs _ (by decide +kernel)
  have hlen : (Cond.isInt (.length (.arg 0))).before args s = true := hq _ (by decide +kernel)
  have hall : (Cond.all (.arg 0) (.isInt (.elem (.arg 0) (.index 0)))).before args s = true := hq _ (by decide +kernel)
  obtain ⟨b, xs, hb, hx⟩ := State.ints_of_pre rfl harr hlen hall
  have hsm : xs.length < 2 ^ 31 := hx.choose_spec.2.2.2
  have hev : (Term.length (.arg 0)).eval args s none [] s = some (.int xs.length.toInt32) := hx.length_eval hb
  have hv := Cond.le_ints hev (show (Term.int 3072).eval args s none [] s = some (.int 3072) from rfl)
  have hd : xs.length.toInt32 ≤ 3072 := by
    simpa [Cond.before, Cond.holds, hv] using hle
  have hN : xs.length ≤ 3072 := (Int32.ofNat_le_ofNat hsm (by decide)).mp (show Int32.ofNat xs.length ≤ Int32.ofNat 3072 from hd)
  exact ⟨b, xs, Cond.one_arg hc (show args[0]? = some (.ref b) from hb), hx, hN, h⟩
theorem lw_comes (l : Launch) (hflags : l.flags = flags0) : Comes l x (Jvm.Cond.code x code maxLocals ret :: tables_1) room_1 (fun tb e args s => Calls_1 tb e args s ∧ rest_1 tb e args s ∧ Pre_1 tb e args s)
    (fun _ _ args s o t => lw_Q args s o t) := by
  intro p e ha hc hk s m args below hf hfit hheap happ hpre
  obtain ⟨b, xs, hP⟩ := lw_pre_spec hpre.2.2 hpre.2.1
  obtain ⟨k, o, h1, h2, h3, hQ⟩ := lw_walk l hflags b xs p e ha hc hk s m args below hf ((Spec.applies_iff_loose hf).mp happ).1 hP trivial
  exact ⟨k, o, h1, h2, h3, hQ⟩
theorem lw_frame {s t : State} {o : Outcome} {args : Array Value} (h : Framed s o t [] 600000 7302250) :
    Framed s o t (fieldLocs frame_1_writes args s ++ arrayLocs frame_1_arrays args s ++ staticLocs frame_1_statics s) 600000 7302250 := h
theorem lw_limb (L : Cond) (hL : ∀ (args : Array Value) (s t : State), L.after args s (.returned (some (.int 1))) t = true) :
    ArmFor flags0 classFile x code maxLocals ret World_1 tables_1 room_1 Calls_1 rest_1 Pre_1
      (fun tb e a s o t => postC L tb e a s o t ∧ Framed s o t (fieldLocs frame_1_writes a s ++ arrayLocs frame_1_arrays a s ++ staticLocs frame_1_statics s) 600000 7302250) := by
  intro l hflags _ _ p e ha hc hk s m args below hf hfit hheap happ hpre
  obtain ⟨k, o, h1, h2, h3, rfl, hF⟩ := lw_comes l hflags p e ha hc hk s m args below hf hfit hheap happ hpre
  exact ⟨k, _, h1, h2, h3, hL args s _, lw_frame hF⟩
theorem i_vc : Claimed_1_1 ∧ Claimed_1_2 := ⟨lw_limb limb_1_1 (fun args s t => by simp [limb_1_1, Cond.after, Cond.holds, Cond.value]), lw_limb limb_1_2 (fun args s t => Cond.after_iff.mpr (by
  first | (rw [show limb_1_2 = Cond.eq .result (.int 1) from rfl, Cond.eq_ints (x := 1) (y := 1) rfl rfl]; simp; done) | (simp [limb_1_2, Cond.value, Term.eval]; done)))⟩
