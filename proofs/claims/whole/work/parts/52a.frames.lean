/-! the model's frames: what a run above them leaves -/
def LX (f k : Nat) (μ μ' : nMem) : Prop :=
  (∀ b, ¬ b = 104 → b < 117 ∨ 136 < b → μ'.1 b = μ.1 b) ∧ (∀ j, ¬ j = 24 → ¬ j = 27 → μ'.1 104 j = μ.1 104 j) ∧ (∀ b, ¬ b = 119 → ¬ b = 132 → μ'.2 b = μ.2 b) ∧
  (∀ b, 128 ≤ b → b ≤ 136 → ¬ b = 132 → ¬ b = 134 → ¬ b = 135 → ∀ g, g < f → μ'.1 b g = μ.1 b g) ∧ (∀ j, j < 12 * f → μ'.1 134 j = μ.1 134 j) ∧ (∀ j, j < 16 * f → μ'.2 132 j = μ.2 132 j) ∧
  (∀ i, i < 12 → ¬ i = k → ¬ μ.1 135 i = 0 → ¬ μ'.1 135 i = 0 ∧ μ'.1 123 i = μ.1 123 i ∧ ∀ j, j < 12 → μ'.1 124 (12 * i + j) = μ.1 124 (12 * i + j))
/-- no cell left out: 12 is none -/
abbrev LO (f : Nat) (μ μ' : nMem) : Prop := LX f 12 μ μ'
theorem LX.rfl {f k : Nat} {μ : nMem} : LX f k μ μ := ⟨fun _ _ _ => Eq.refl _, fun _ _ _ => Eq.refl _, fun _ _ _ => Eq.refl _, fun _ _ _ _ _ _ _ _ => Eq.refl _, fun _ _ => Eq.refl _, fun _ _ => Eq.refl _, fun _ _ _ h => ⟨h, Eq.refl _, fun _ _ => Eq.refl _⟩⟩
theorem LX.trans {f k : Nat} {a b c : nMem} (h1 : LX f k a b) (h2 : LX f k b c) : LX f k a c := by
  obtain ⟨a1, a2, a3, a4, a5, a6, a7⟩ := h1
  obtain ⟨b1, b2, b3, b4, b5, b6, b7⟩ := h2
  refine ⟨fun x p q => (b1 x p q).trans (a1 x p q), fun x p q => (b2 x p q).trans (a2 x p q), fun x p q => (b3 x p q).trans (a3 x p q), fun x p q r s t g hg => (b4 x p q r s t g hg).trans (a4 x p q r s t g hg), fun j hj => (b5 j hj).trans (a5 j hj), fun j hj => (b6 j hj).trans (a6 j hj), fun i hi hk h => ?_⟩
  obtain ⟨c1, c2, c3⟩ := a7 i hi hk h
  obtain ⟨d1, d2, d3⟩ := b7 i hi hk c1
  exact ⟨d1, d2.trans c2, fun j hj => (d3 j hj).trans (c3 j hj)⟩
theorem LX.down {f g k : Nat} {μ μ' : nMem} (h : LX f k μ μ') (hg : g ≤ f) : LX g k μ μ' := by
  obtain ⟨a1, a2, a3, a4, a5, a6, a7⟩ := h
  exact ⟨a1, a2, a3, fun x p q r s t i hi => a4 x p q r s t i (by omega), fun j hj => a5 j (by omega), fun j hj => a6 j (by omega), a7⟩
theorem LX.toX {f k : Nat} {μ μ' : nMem} (h : LX f 12 μ μ') : LX f k μ μ' := by
  obtain ⟨a1, a2, a3, a4, a5, a6, a7⟩ := h
  exact ⟨a1, a2, a3, a4, a5, a6, fun i hi _ h => a7 i hi (by omega) h⟩
theorem LX.toO {f k : Nat} {μ μ' : nMem} (h : LX f k μ μ') (h0 : μ.1 135 k = 0) : LX f 12 μ μ' := by
  obtain ⟨a1, a2, a3, a4, a5, a6, a7⟩ := h
  exact ⟨a1, a2, a3, a4, a5, a6, fun i hi _ h => a7 i hi (fun z => h (by rw [z]; exact h0)) h⟩
theorem LX.st {f k : Nat} {μ : nMem} {b j : Nat} {x : Int32} (h : (b = 104 ∧ (j = 24 ∨ j = 27)) ∨ (117 ≤ b ∧ b ≤ 127 ∧ ¬ b = 123 ∧ ¬ b = 124) ∨ (128 ≤ b ∧ b ≤ 136 ∧ ¬ b = 132 ∧ ¬ b = 134 ∧ ¬ b = 135 ∧ f ≤ j) ∨ (b = 134 ∧ 12 * f ≤ j) ∨ (b = 135 ∧ (j = k ∨ ¬ x = 0)) ∨ (b = 123 ∧ j = k) ∨ (b = 124 ∧ ∃ i, i < 12 ∧ j = 12 * k + i)) : LX f k μ (ms μ b j x) := by
  refine ⟨fun c h1 h2 => ms_o (by omega), fun i h1 h2 => ?_, fun c _ _ => Eq.refl _, fun c h1 h2 h3 h4 h5 g hg => ?_, fun i hi => ?_, fun i hi => Eq.refl _, fun i hi hk h9 => ⟨?_, ?_, fun m hm => ?_⟩⟩
  · rw [ms_r, if_neg (by omega)]
  · rw [ms_r, if_neg (by omega)]
  · rw [ms_r, if_neg (by omega)]
  · rw [ms_r]
    split
    · rename_i z
      rcases h with h | h | h | h | h | h | h
      · omega
      · omega
      · omega
      · omega
      · rcases h.2 with q | q
        · omega
        · exact q
      · omega
      · omega
    · exact h9
  · rw [ms_r, if_neg (by omega)]
  · rw [ms_r, if_neg]
    intro z
    rcases h with h | h | h | h | h | h | h
    · omega
    · omega
    · omega
    · omega
    · omega
    · omega
    · obtain ⟨_, q, hq, e⟩ := h
      omega
theorem LX.lg {f k : Nat} {μ : nMem} {b j : Nat} {x : Int64} (h : b = 119 ∨ (b = 132 ∧ 16 * f ≤ j)) : LX f k μ (ml μ b j x) := by
  refine ⟨fun _ _ _ => Eq.refl _, fun _ _ _ => Eq.refl _, fun c h1 h2 => ml_o (by omega), fun _ _ _ _ _ _ _ _ => Eq.refl _, fun _ _ => Eq.refl _, fun i hi => ?_, fun _ _ _ h => ⟨h, Eq.refl _, fun _ _ => Eq.refl _⟩⟩
  rw [ml_r, if_neg (by omega)]
theorem sa_X {f k s : Nat} {μ : nMem} {w : Int32} : LX f k μ (saM μ f s w) := by
  unfold saM
  exact (((LX.st (by omega)).trans (LX.st (by omega))).trans (LX.st (Or.inr (Or.inr (Or.inr (Or.inr (Or.inl ⟨rfl, Or.inr (by decide)⟩))))))).trans (LX.st (by omega))
theorem fi_X {f k n : Nat} {μ : nMem} : LX f k μ (fiM μ n k) := by
  unfold fiM
  exact (LX.st (by omega)).trans (LX.st (by omega))
theorem cn_X {f k i w : Nat} {μ : nMem} : LX f k μ (cnM μ i w) := by
  unfold cnM
  exact (LX.st (by omega)).trans (LX.st (by omega))
theorem us_X {f k i : Nat} {μ : nMem} : LX f k μ (usM μ i) := by
  unfold usM
  exact (LX.st (by omega)).trans (LX.st (by omega))
theorem wc_X {f k : Nat} {μ : nMem} {fc : Nat → Nat} : ∀ r, r ≤ 12 → LX f k μ (wcM μ k fc r) := by
  intro r
  induction r with
  | zero => intro _; exact LX.rfl
  | succ r ih =>
    intro hr
    rw [wcM]
    exact (ih (by omega)).trans (LX.st (Or.inr (Or.inr (Or.inr (Or.inr (Or.inr (Or.inr ⟨rfl, r, by omega, rfl⟩)))))))
theorem wkN_X {f k n : Nat} {μ : nMem} {x le : Int32} {v : Int64} : LX f k μ (wkN μ n k x v le) := by
  unfold wkN
  exact ((((((LX.st (by omega)).trans (LX.st (by omega))).trans (LX.st (by omega))).trans (LX.lg (by omega))).trans (LX.st (by omega))).trans (LX.st (by omega))).trans (LX.st (by omega))
theorem wk_X {f k n : Nat} {μ : nMem} {v : Int64} {fc : Nat → Nat} {r : Nat} (hr : r ≤ 12) : LX f k μ (wkM μ n k v fc r) := by
  unfold wkM
  exact (((cn_X.trans (wc_X r hr)).trans wkN_X).trans us_X).trans fi_X
theorem ps_X {f k t : Nat} {μ : nMem} {v : Int64} : LX f k μ (psM μ f t v) := by
  unfold psM
  exact (LX.lg (by omega)).trans (LX.st (by omega))
theorem af_X {f k s r : Nat} {μ : nMem} : LX f k μ (afM μ f s r) := by
  unfold afM
  split
  · exact LX.rfl
  · exact (LX.st (by omega)).trans (LX.st (by omega))
