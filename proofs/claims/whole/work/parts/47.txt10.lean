/-! ===== the tokens, by their places, as the model sees them ===== -/
def wcd (w : Nat) : Int := ([676791764, 409156, 427300, 24416759, 77177328, 3124, 267570, 153204, 198028, 4900691220, 52, 7847059, 13683059] : List Int).getD w 0
def TV (σ : Sg) (ty vl : Nat → Int) (pos : Nat → Nat) (K : Nat) : Prop := (TkK ty vl K) ∧ (∀ k, k ≤ K → (pos k : Int) ≤ σ 41 10) ∧ (∀ k, k ≤ K → ((48 ≤ btA (σ 49) (σ 41 10).toNat (pos k) ∧ btA (σ 49) (σ 41 10).toNat (pos k) ≤ 57) ↔ ty k = 2)) ∧ (∀ k, k ≤ K → ty k = 2 → (nuM (σ 49) (pos k) (tE (σ 49) (σ 41 10).toNat (pos k) - pos k) = vl k ∧ vl k ≤ 9999) ∨ (9999 < nuM (σ 49) (pos k) (tE (σ 49) (σ 41 10).toNat (pos k) - pos k) ∧ 9999 < vl k)) ∧ (∀ k, k < K → skp (σ 49) (σ 41 10).toNat 120 (tE (σ 49) (σ 41 10).toNat (pos k)) = pos (k + 1)) ∧ (∀ k, k ≤ K → ∀ w : Nat, w < 13 → (wdM (σ 49) (σ 41 10).toNat (pos k) 0 = wcd w ↔ (ty k = 1 ∧ vl k = (w : Int)))) ∧ (∀ k, k ≤ K → (btA (σ 49) (σ 41 10).toNat (pos k) = 45 ↔ ty k = 4)) ∧ (∀ k, k ≤ K → (btA (σ 49) (σ 41 10).toNat (pos k) = 59 ↔ ty k = 3)) ∧ (∀ k, k ≤ K → ((pos k : Int) < σ 41 10 ↔ k ≠ K))
theorem TV.tk {σ : Sg} {ty vl : Nat → Int} {pos : Nat → Nat} {K : Nat} (h : TV σ ty vl pos K) : TkK ty vl K := h.1
theorem TV.le {σ : Sg} {ty vl : Nat → Int} {pos : Nat → Nat} {K : Nat} (h : TV σ ty vl pos K) : ∀ k, k ≤ K → (pos k : Int) ≤ σ 41 10 := h.2.1
theorem TV.dg {σ : Sg} {ty vl : Nat → Int} {pos : Nat → Nat} {K : Nat} (h : TV σ ty vl pos K) : ∀ k, k ≤ K → ((48 ≤ btA (σ 49) (σ 41 10).toNat (pos k) ∧ btA (σ 49) (σ 41 10).toNat (pos k) ≤ 57) ↔ ty k = 2) := h.2.2.1
theorem TV.nu {σ : Sg} {ty vl : Nat → Int} {pos : Nat → Nat} {K : Nat} (h : TV σ ty vl pos K) : ∀ k, k ≤ K → ty k = 2 → (nuM (σ 49) (pos k) (tE (σ 49) (σ 41 10).toNat (pos k) - pos k) = vl k ∧ vl k ≤ 9999) ∨ (9999 < nuM (σ 49) (pos k) (tE (σ 49) (σ 41 10).toNat (pos k) - pos k) ∧ 9999 < vl k) := h.2.2.2.1
theorem TV.nx {σ : Sg} {ty vl : Nat → Int} {pos : Nat → Nat} {K : Nat} (h : TV σ ty vl pos K) : ∀ k, k < K → skp (σ 49) (σ 41 10).toNat 120 (tE (σ 49) (σ 41 10).toNat (pos k)) = pos (k + 1) := h.2.2.2.2.1
theorem TV.wd {σ : Sg} {ty vl : Nat → Int} {pos : Nat → Nat} {K : Nat} (h : TV σ ty vl pos K) : ∀ k, k ≤ K → ∀ w : Nat, w < 13 → (wdM (σ 49) (σ 41 10).toNat (pos k) 0 = wcd w ↔ (ty k = 1 ∧ vl k = (w : Int))) := h.2.2.2.2.2.1
theorem TV.mi {σ : Sg} {ty vl : Nat → Int} {pos : Nat → Nat} {K : Nat} (h : TV σ ty vl pos K) : ∀ k, k ≤ K → (btA (σ 49) (σ 41 10).toNat (pos k) = 45 ↔ ty k = 4) := h.2.2.2.2.2.2.1
theorem TV.se {σ : Sg} {ty vl : Nat → Int} {pos : Nat → Nat} {K : Nat} (h : TV σ ty vl pos K) : ∀ k, k ≤ K → (btA (σ 49) (σ 41 10).toNat (pos k) = 59 ↔ ty k = 3) := h.2.2.2.2.2.2.2.1
theorem TV.en {σ : Sg} {ty vl : Nat → Int} {pos : Nat → Nat} {K : Nat} (h : TV σ ty vl pos K) : ∀ k, k ≤ K → ((pos k : Int) < σ 41 10 ↔ k ≠ K) := h.2.2.2.2.2.2.2.2
theorem TV.lt {σ : Sg} {ty vl : Nat → Int} {pos : Nat → Nat} {K k : Nat} (h : TV σ ty vl pos K) (hk : k ≤ K) (hy : ty k ≠ 6) : k < K := by
  rcases Nat.lt_or_eq_of_le hk with e | e
  · exact e
  · rw [e] at hy
    exact absurd h.tk.2.1 hy
def PS (σ : Sg) (pos : Nat → Nat) (k : Nat) (v w : Int) (ρ : Sg) : Sg := MS2 σ ((pos k : Nat) : Int) ((tE (σ 49) (σ 41 10).toNat (pos k) : Nat) : Int) v w ρ
theorem tE_120 {σ : Sg} (hl : 0 ≤ σ 41 10 ∧ σ 41 10 ≤ 120) {p : Nat} (h : (p : Int) ≤ σ 41 10) : ((tE (σ 49) (σ 41 10).toNat p : Nat) : Int) ≤ σ 41 10 := by
  have := (tE_le (B := σ 49) (L := (σ 41 10).toNat) (p := p) (by omega)).2
  omega
theorem m_y (g : Gt) {ty vl : Nat → Int} {pos : Nat → Nat} {K : Nat} (k : Nat) (v : Int) (ρ σ : Sg) (hl : 0 ≤ σ 41 10 ∧ σ 41 10 ≤ 120) (hB : ∀ j, j < 120 → 0 ≤ σ 49 j ∧ σ 49 j ≤ 255) (hV : TV σ ty vl pos K) (hk : k < K) : Mt g yX5_must cX5_must 2 none 3 [.ref (gA g 41), .int (iI 1)] (PS σ pos k v 0 ρ) (pV (PS σ pos (k + 1) v 0 ρ)) := by
  have e := c_must_y g (tE (σ 49) (σ 41 10).toNat (pos k)) (pos k : Int) v ρ σ hl hB (tE_120 hl (hV.le k (by omega)))
  rw [hV.nx k hk] at e
  exact e
theorem n_y (g : Gt) {ty vl : Nat → Int} {pos : Nat → Nat} {K : Nat} (k : Nat) (hi : Int) (hhi : 0 ≤ hi ∧ hi ≤ 9999) (v : Int) (ρ σ : Sg) (hl : 0 ≤ σ 41 10 ∧ σ 41 10 ≤ 120) (hB : ∀ j, j < 120 → 0 ≤ σ 49 j ∧ σ 49 j ≤ 255) (hV : TV σ ty vl pos K) (hk : k ≤ K) (hy : ty k = 2 ∧ vl k ≤ hi) : Mt g yX5_number cX5_number 6 none 4 [.ref (gA g 41), .int (iI 0), .int (iI hi)] (PS σ pos k v 0 ρ) (pV (PS σ pos (k + 1) (vl k) 0 ρ)) := by
  have hn := hV.nu k hk hy.1
  have hq : nuM (σ 49) (pos k) (tE (σ 49) (σ 41 10).toNat (pos k) - pos k) = vl k := by omega
  have e := c_number_y g (pos k) hi hhi v ρ σ hl hB (hV.le k hk) ((hV.dg k hk).mpr hy.1) (by omega)
  rw [hV.nx k (hV.lt hk (by omega)), hq] at e
  exact e
def nvv (σ : Sg) (ty : Nat → Int) (pos : Nat → Nat) (k : Nat) : Int := if ty k = 2 then nuM (σ 49) (pos k) (tE (σ 49) (σ 41 10).toNat (pos k) - pos k) else 0
theorem n_n (g : Gt) {ty vl : Nat → Int} {pos : Nat → Nat} {K : Nat} (k : Nat) (hi : Int) (hhi : 0 ≤ hi ∧ hi ≤ 9999) (v : Int) (ρ σ : Sg) (hl : 0 ≤ σ 41 10 ∧ σ 41 10 ≤ 120) (hB : ∀ j, j < 120 → 0 ≤ σ 49 j ∧ σ 49 j ≤ 255) (hV : TV σ ty vl pos K) (hk : k ≤ K) (hy : ¬ (ty k = 2 ∧ vl k ≤ hi)) : Mt g yX5_number cX5_number 6 none 4 [.ref (gA g 41), .int (iI 0), .int (iI hi)] (PS σ pos k v 0 ρ) (pV (PS σ pos k (nvv σ ty pos k) 1 ρ)) := by
  by_cases h2 : ty k = 2
  · have hn := hV.nu k hk h2
    have e := c_number_n g (pos k) hi hhi v ρ σ hl hB (hV.le k hk) ((hV.dg k hk).mpr h2) (by omega)
    rw [show nvv σ ty pos k = _ from if_pos h2]
    exact e
  · have e := c_number_f g (pos k) hi hhi v ρ σ hl hB (hV.le k hk) (fun q => h2 ((hV.dg k hk).mp q))
    rw [show nvv σ ty pos k = 0 from if_neg h2]
    exact e
