/-! behind bringing up and working out -/
def StB (γ : nMem) (s : Nat) : Prop := ¬ γ.1 (nN s) 2 = 0 ∧ γ.1 (nN s) 5 = γ.1 0 6
theorem wEnd_S (γ : nMem) (k : Nat) (v : Int64) : StB (wEnd γ k v) k ∧ ¬ (wEnd γ k v).1 (nN k) 3 = 0 := by
  have k0 : (kvs (ms γ (nN k) 7 (lst γ k)) k v (γ.1 0 6)).1 0 6 = γ.1 0 6 := by
    have := (kvs_K (γ := ms γ (nN k) 7 (lst γ k)) (k := k) (v := v) (r := γ.1 0 6)).1
    rw [this]; simp [ms_r, ml_r, ms_2, ml_1, ad_CC, ad_CN, ad_CR, ad_CY, ad_CK, ad_C0, ad_0C, ad_C99, ad_99C, ad_NN, ad_NC, ad_NR, ad_NY, ad_NK, ad_N0, ad_0N, ad_N99, ad_99N, ad_N98, ad_98N, ad_RR, ad_RC, ad_RN, ad_RY, ad_RK, ad_R0, ad_0R, ad_R99, ad_99R, ad_R98, ad_98R, ad_YY, ad_YC, ad_YN, ad_YR, ad_YK, ad_Y0, ad_0Y, ad_Y99, ad_99Y, ad_Y98, ad_98Y, ad_KK, ad_KC, ad_KN, ad_KR, ad_KY, ad_K0, ad_0K, ad_K99, ad_99K, ad_K98, ad_98K]
  unfold StB wEnd
  simp [tly, mU, kv, ms_r, ml_r, ms_2, ml_1, ad_CC, ad_CN, ad_CR, ad_CY, ad_CK, ad_C0, ad_0C, ad_C99, ad_99C, ad_NN, ad_NC, ad_NR, ad_NY, ad_NK, ad_N0, ad_0N, ad_N99, ad_99N, ad_N98, ad_98N, ad_RR, ad_RC, ad_RN, ad_RY, ad_RK, ad_R0, ad_0R, ad_R99, ad_99R, ad_R98, ad_98R, ad_YY, ad_YC, ad_YN, ad_YR, ad_YK, ad_Y0, ad_0Y, ad_Y99, ad_99Y, ad_Y98, ad_98Y, ad_KK, ad_KC, ad_KN, ad_KR, ad_KY, ad_K0, ad_0K, ad_K99, ad_99K, ad_K98, ad_98K, k0]
theorem wF_S {cd : Nat → pC} {B W : nMem → Nat → nMem} (γ : nMem) (k : Nat) : StB (wF cd B W γ k) k ∧ ¬ (wF cd B W γ k).1 (nN k) 3 = 0 := by
  unfold wF
  split
  exact wEnd_S _ _ _
theorem bF_S {cd : Nat → pC} {B W : nMem → Nat → nMem} (hB : ∀ γ k, KA γ (B γ k)) {γ : nMem} {k : Nat} (h4 : ¬ γ.1 (nC k) 4 = 0) (h9 : γ.1 (nC k) 9 = 0) : StB (bF cd B W γ k) k := by
  unfold bF
  rw [if_neg h4, if_neg (by simp [h9])]
  split
  · assumption
  · have key : StB (bIn cd B W (ms γ (nC k) 9 1) k) k := by
      unfold bIn
      split
      · rename_i hn
        have hK := ruF_K (k := k) hB (γ := ms γ (nC k) 9 1)
        split
        · rename_i μ1 e
          rw [e] at hK
          have h2 : ¬ γ.1 (nN k) 2 = 0 := by
            intro h2
            have : (ruF B (ms γ (nC k) 9 1) k).1 = false := by
              unfold ruF
              rw [if_pos (by simpa [ms_r, ml_r, ms_2, ml_1, ad_CC, ad_CN, ad_CR, ad_CY, ad_CK, ad_C0, ad_0C, ad_C99, ad_99C, ad_NN, ad_NC, ad_NR, ad_NY, ad_NK, ad_N0, ad_0N, ad_N99, ad_99N, ad_N98, ad_98N, ad_RR, ad_RC, ad_RN, ad_RY, ad_RK, ad_R0, ad_0R, ad_R99, ad_99R, ad_R98, ad_98R, ad_YY, ad_YC, ad_YN, ad_YR, ad_YK, ad_Y0, ad_0Y, ad_Y99, ad_99Y, ad_Y98, ad_98Y, ad_KK, ad_KC, ad_KN, ad_KR, ad_KY, ad_K0, ad_0K, ad_K99, ad_99K, ad_K98, ad_98K] using h2)]
            rw [e] at this
            cases this
          have h3 := hK.2.1 k (by simpa [ms_r, ml_r, ms_2, ml_1, ad_CC, ad_CN, ad_CR, ad_CY, ad_CK, ad_C0, ad_0C, ad_C99, ad_99C, ad_NN, ad_NC, ad_NR, ad_NY, ad_NK, ad_N0, ad_0N, ad_N99, ad_99N, ad_N98, ad_98N, ad_RR, ad_RC, ad_RN, ad_RY, ad_RK, ad_R0, ad_0R, ad_R99, ad_99R, ad_R98, ad_98R, ad_YY, ad_YC, ad_YN, ad_YR, ad_YK, ad_Y0, ad_0Y, ad_Y99, ad_99Y, ad_Y98, ad_98Y, ad_KK, ad_KC, ad_KN, ad_KR, ad_KY, ad_K0, ad_0K, ad_K99, ad_99K, ad_K98, ad_98K] using h2)
          unfold StB
          refine ⟨?_, ?_⟩
          · simpa [vfy, ms_r, ml_r, ms_2, ml_1, ad_CC, ad_CN, ad_CR, ad_CY, ad_CK, ad_C0, ad_0C, ad_C99, ad_99C, ad_NN, ad_NC, ad_NR, ad_NY, ad_NK, ad_N0, ad_0N, ad_N99, ad_99N, ad_N98, ad_98N, ad_RR, ad_RC, ad_RN, ad_RY, ad_RK, ad_R0, ad_0R, ad_R99, ad_99R, ad_R98, ad_98R, ad_YY, ad_YC, ad_YN, ad_YR, ad_YK, ad_Y0, ad_0Y, ad_Y99, ad_99Y, ad_Y98, ad_98Y, ad_KK, ad_KC, ad_KN, ad_KR, ad_KY, ad_K0, ad_0K, ad_K99, ad_99K, ad_K98, ad_98K] using h3
          · simp [vfy, ms_r, ml_r, ms_2, ml_1, ad_CC, ad_CN, ad_CR, ad_CY, ad_CK, ad_C0, ad_0C, ad_C99, ad_99C, ad_NN, ad_NC, ad_NR, ad_NY, ad_NK, ad_N0, ad_0N, ad_N99, ad_99N, ad_N98, ad_98N, ad_RR, ad_RC, ad_RN, ad_RY, ad_RK, ad_R0, ad_0R, ad_R99, ad_99R, ad_R98, ad_98R, ad_YY, ad_YC, ad_YN, ad_YR, ad_YK, ad_Y0, ad_0Y, ad_Y99, ad_99Y, ad_Y98, ad_98Y, ad_KK, ad_KC, ad_KN, ad_KR, ad_KY, ad_K0, ad_0K, ad_K99, ad_99K, ad_K98, ad_98K]
        · exact (wF_S _ _).1
      · rename_i hn
        have h2 : ¬ γ.1 (nN k) 2 = 0 := fun z => hn (Or.inl (by simpa [ms_r, ml_r, ms_2, ml_1, ad_CC, ad_CN, ad_CR, ad_CY, ad_CK, ad_C0, ad_0C, ad_C99, ad_99C, ad_NN, ad_NC, ad_NR, ad_NY, ad_NK, ad_N0, ad_0N, ad_N99, ad_99N, ad_N98, ad_98N, ad_RR, ad_RC, ad_RN, ad_RY, ad_RK, ad_R0, ad_0R, ad_R99, ad_99R, ad_R98, ad_98R, ad_YY, ad_YC, ad_YN, ad_YR, ad_YK, ad_Y0, ad_0Y, ad_Y99, ad_99Y, ad_Y98, ad_98Y, ad_KK, ad_KC, ad_KN, ad_KR, ad_KY, ad_K0, ad_0K, ad_K99, ad_99K, ad_K98, ad_98K] using z))
        unfold StB
        simp [vfy, ms_r, ml_r, ms_2, ml_1, ad_CC, ad_CN, ad_CR, ad_CY, ad_CK, ad_C0, ad_0C, ad_C99, ad_99C, ad_NN, ad_NC, ad_NR, ad_NY, ad_NK, ad_N0, ad_0N, ad_N99, ad_99N, ad_N98, ad_98N, ad_RR, ad_RC, ad_RN, ad_RY, ad_RK, ad_R0, ad_0R, ad_R99, ad_99R, ad_R98, ad_98R, ad_YY, ad_YC, ad_YN, ad_YR, ad_YK, ad_Y0, ad_0Y, ad_Y99, ad_99Y, ad_Y98, ad_98Y, ad_KK, ad_KC, ad_KN, ad_KR, ad_KY, ad_K0, ad_0K, ad_K99, ad_99K, ad_K98, ad_98K, h2]
    unfold StB at key ⊢
    simpa [ms_r, ml_r, ms_2, ml_1, ad_CC, ad_CN, ad_CR, ad_CY, ad_CK, ad_C0, ad_0C, ad_C99, ad_99C, ad_NN, ad_NC, ad_NR, ad_NY, ad_NK, ad_N0, ad_0N, ad_N99, ad_99N, ad_N98, ad_98N, ad_RR, ad_RC, ad_RN, ad_RY, ad_RK, ad_R0, ad_0R, ad_R99, ad_99R, ad_R98, ad_98R, ad_YY, ad_YC, ad_YN, ad_YR, ad_YK, ad_Y0, ad_0Y, ad_Y99, ad_99Y, ad_Y98, ad_98Y, ad_KK, ad_KC, ad_KN, ad_KR, ad_KY, ad_K0, ad_0K, ad_K99, ad_99K, ad_K98, ad_98K] using key
theorem bw_S (cd : Nat → pC) : ∀ d, (∀ γ k, k < 12 → fw γ 12 ≤ d → ¬ γ.1 (nC k) 4 = 0 → γ.1 (nC k) 9 = 0 → StB ((bw cd d).1 γ k) k) ∧ ∀ γ k, fw (ms γ (nC k) 9 1) 12 < d → StB ((bw cd d).2 γ k) k ∧ ¬ ((bw cd d).2 γ k).1 (nN k) 3 = 0 := by
  intro d
  cases d with
  | zero => exact ⟨fun γ k hk hf h4 h9 => (Nat.not_succ_le_zero _ (Nat.le_trans (fw_pos h4 h9 12 hk) hf)).elim, fun γ k h => (Nat.not_lt_zero _ h).elim⟩
  | succ d =>
    have e : bw cd (d + 1) = (bF cd (bw cd d).1 (bw cd d).2, wF cd (bw cd d).1 (bw cd d).2) := rfl
    rw [e]
    exact ⟨fun γ k hk hf h4 h9 => bF_S (bw_K cd d).1 h4 h9, fun γ k _ => wF_S γ k⟩
/-- a cell that is up to date is left as it is -/
theorem bw_I (cd : Nat → pC) (d : Nat) {γ : nMem} {k : Nat} (h : γ.1 (nC k) 4 = 0 ∨ ¬ γ.1 (nC k) 9 = 0 ∨ StB γ k) : (bw cd d).1 γ k = γ := by
  cases d with
  | zero => rfl
  | succ d =>
    show bF cd _ _ γ k = γ
    unfold bF
    by_cases h4 : γ.1 (nC k) 4 = 0
    · rw [if_pos h4]
    rw [if_neg h4]
    by_cases h9 : ¬ γ.1 (nC k) 9 = 0
    · rw [if_pos h9]
    rw [if_neg h9]
    rcases h with h | h | h
    · exact absurd h h4
    · exact absurd h h9
    · exact if_pos h
/-! twelve cells -/
theorem pigeon : ∀ (n : Nat) (g : Nat → Nat), (∀ i, i < n + 1 → g i < n) → ∃ i j, i < j ∧ j < n + 1 ∧ g i = g j := by
  intro n
  induction n with
  | zero => intro g h; exact absurd (h 0 (by omega)) (by omega)
  | succ n ih =>
    intro g h
    by_cases hx : ∃ i, i < n + 1 ∧ g i = g (n + 1)
    · obtain ⟨i, hi, e⟩ := hx
      exact ⟨i, n + 1, hi, by omega, e⟩
    · obtain ⟨i, j, hij, hj, e⟩ := ih (fun i => if g i = n then g (n + 1) else g i) (fun i hi => by
        have h1 := h i (by omega)
        have h2 := h (n + 1) (by omega)
        have h3 : ¬ g i = g (n + 1) := fun z => hx ⟨i, hi, z⟩
        show (if g i = n then g (n + 1) else g i) < n
        split <;> omega)
      refine ⟨i, j, hij, by omega, ?_⟩
      have h3 : ¬ g i = g (n + 1) := fun z => hx ⟨i, by omega, z⟩
      have h4 : ¬ g j = g (n + 1) := fun z => hx ⟨j, by omega, z⟩
      change (if g i = n then g (n + 1) else g i) = (if g j = n then g (n + 1) else g j) at e
      split at e <;> split at e <;> omega
/-! a frame at work: found cells and stack -/
abbrev cN (γ : nMem) (k : Nat) : Nat := (γ.1 (nN k) 1).toNatClampNeg
abbrev FR (γ μ : nMem) (f k tp at_ : Nat) : Prop := (μ.1 128 f = nI k) ∧ (μ.1 129 f = 3) ∧ (μ.1 130 f = nI at_) ∧ (μ.1 131 f = nI tp) ∧ (∀ i, i < tp → μ.2 132 (16 * f + i) = (γ.1 (nK k) i).toInt64) ∧ (μ.1 133 f = γ.1 (nN k) 1) ∧ (∀ i, i < cN γ k → μ.1 134 (12 * f + i) = γ.1 (nR k) i) ∧ (μ.1 136 f = 0)
theorem FR.cl {γ μ : nMem} {f k tp at_ : Nat} (h : FR γ μ f k tp at_) : μ.1 128 f = nI k := h.1
theorem FR.md {γ μ : nMem} {f k tp at_ : Nat} (h : FR γ μ f k tp at_) : μ.1 129 f = 3 := h.2.1
theorem FR.ap {γ μ : nMem} {f k tp at_ : Nat} (h : FR γ μ f k tp at_) : μ.1 130 f = nI at_ := h.2.2.1
theorem FR.dp {γ μ : nMem} {f k tp at_ : Nat} (h : FR γ μ f k tp at_) : μ.1 131 f = nI tp := h.2.2.2.1
theorem FR.sk {γ μ : nMem} {f k tp at_ : Nat} (h : FR γ μ f k tp at_) : ∀ i, i < tp → μ.2 132 (16 * f + i) = (γ.1 (nK k) i).toInt64 := h.2.2.2.2.1
theorem FR.fo {γ μ : nMem} {f k tp at_ : Nat} (h : FR γ μ f k tp at_) : μ.1 133 f = γ.1 (nN k) 1 := h.2.2.2.2.2.1
theorem FR.fc {γ μ : nMem} {f k tp at_ : Nat} (h : FR γ μ f k tp at_) : ∀ i, i < cN γ k → μ.1 134 (12 * f + i) = γ.1 (nR k) i := h.2.2.2.2.2.2.1
theorem FR.rg {γ μ : nMem} {f k tp at_ : Nat} (h : FR γ μ f k tp at_) : μ.1 136 f = 0 := h.2.2.2.2.2.2.2
/-- reads so far: none at work, notes there (but of s), all different -/
abbrev RD (γ : nMem) (k s : Nat) : Prop := (∀ i, i < cN γ k → γ.1 (nC (rN γ k i)) 9 = 0) ∧ (∀ i, i < cN γ k → ¬ rN γ k i = s → ¬ γ.1 (nC (rN γ k i)) 4 = 0 → ¬ γ.1 (nN (rN γ k i)) 2 = 0) ∧ (∀ i j, i < j → j < cN γ k → ¬ γ.1 (nR k) i = γ.1 (nR k) j)
theorem RD.nw {γ : nMem} {k s : Nat} (h : RD γ k s) : ∀ i, i < cN γ k → γ.1 (nC (rN γ k i)) 9 = 0 := h.1
theorem RD.nt {γ : nMem} {k s : Nat} (h : RD γ k s) : ∀ i, i < cN γ k → ¬ rN γ k i = s → ¬ γ.1 (nC (rN γ k i)) 4 = 0 → ¬ γ.1 (nN (rN γ k i)) 2 = 0 := h.2.1
theorem RD.di {γ : nMem} {k s : Nat} (h : RD γ k s) : ∀ i j, i < j → j < cN γ k → ¬ γ.1 (nR k) i = γ.1 (nR k) j := h.2.2
theorem FR.keep {γ γ' μ μ' : nMem} {f k tp at_ : Nat} (h : FR γ μ f k tp at_) (hK : KA γ γ') (h9 : ¬ γ.1 (nC k) 9 = 0) (hL : LX (f + 1) 12 μ μ') (htp : tp ≤ 16) (hc : cN γ k ≤ 12) : FR γ' μ' f k tp at_ := by
  obtain ⟨c1, c2, c3, c4, c5, c6, c7, c8⟩ := h
  obtain ⟨_, k2, k3, k4⟩ := hK.2.2 k h9
  obtain ⟨_, _, _, l4, l5, l6, _⟩ := hL
  have e : ∀ b, 128 ≤ b → b ≤ 136 → ¬ b = 132 → ¬ b = 134 → ¬ b = 135 → μ'.1 b f = μ.1 b f := fun b p q r s t => l4 b p q r s t f (by omega)
  refine ⟨?_, ?_, ?_, ?_, fun i hi => ?_, ?_, fun i hi => ?_, ?_⟩
  · rw [e 128 (by omega) (by omega) (by omega) (by omega) (by omega)]; exact c1
  · rw [e 129 (by omega) (by omega) (by omega) (by omega) (by omega)]; exact c2
  · rw [e 130 (by omega) (by omega) (by omega) (by omega) (by omega)]; exact c3
  · rw [e 131 (by omega) (by omega) (by omega) (by omega) (by omega)]; exact c4
  · rw [l6 _ (by omega), k4]; exact c5 i hi
  · rw [e 133 (by omega) (by omega) (by omega) (by omega) (by omega), k2]; exact c6
  · unfold cN at hi
    rw [k2] at hi
    have hi2 : i < 12 := Nat.lt_of_lt_of_le hi hc
    rw [l5 _ (by omega), k3]; exact c7 i hi
  · rw [e 136 (by omega) (by omega) (by omega) (by omega) (by omega)]; exact c8
theorem RD.keep {cd : Nat → pC} {γ γ' : nMem} {k s : Nat} (h : RD γ k s) (hK : KA γ γ') (h9 : ¬ γ.1 (nC k) 9 = 0) (hF : FL γ γ') (hW : WN γ k) : RD γ' k s := by
  obtain ⟨c1, c2, c3⟩ := h
  obtain ⟨_, k2, k3, _⟩ := hK.2.2 k h9
  have hr := hW.n.2.2
  have er : ∀ i, rN γ' k i = rN γ k i := fun i => by unfold rN; rw [k3]
  have ec : cN γ' k = cN γ k := by unfold cN; rw [k2]
  refine ⟨fun i hi => ?_, fun i hi hs h4 => ?_, fun i j hij hj => ?_⟩
  · rw [ec] at hi
    rw [er, (hF _ (hr i hi).2).2]; exact c1 i hi
  · rw [ec] at hi
    rw [er] at hs h4 ⊢
    rw [(hF _ (hr i hi).2).1] at h4
    exact hK.2.1 _ (c2 i hi hs h4)
  · rw [ec] at hj
    rw [k3]; exact c3 i j hij hj
/-! steps in the model -/
def MS (cd : Nat → pC) (μ : nMem) : Prop := ∀ k, k < 12 → ¬ μ.1 107 k = 0 → μ.1 110 k = nI (cd k).length ∧ ∀ j q, (cd k)[j]? = some q → μ.1 111 (40 * k + j) = (rn q).1 ∧ μ.1 112 (40 * k + j) = (rn q).2
theorem MS.keep {cd : Nat → pC} {f k : Nat} {μ μ' : nMem} (h : MS cd μ) (hL : LX f k μ μ') : MS cd μ' := by
  intro i hi h4
  rw [hL.1 107 (by decide) (by omega)] at h4
  rw [hL.1 110 (by decide) (by omega), hL.1 111 (by decide) (by omega), hL.1 112 (by decide) (by omega)]
  exact h i hi h4
