theorem t3 {i k j w : Nat} (hj : j < 3) (hw : w < 3) : (3 * i + j = 3 * k + w) = (i = k ∧ j = w) := propext ⟨fun h => by omega, fun h => by omega⟩
theorem t12 {i k j w : Nat} (hj : j < 12) (hw : w < 12) : (12 * i + j = 12 * k + w) = (i = k ∧ j = w) := propext ⟨fun h => by omega, fun h => by omega⟩
theorem REL.pass {γ μ : nMem} {k f : Nat} (h : REL γ μ) (hk : k < 12) (hn : ¬ γ.1 (nN k) 2 = 0) (hr0 : RR γ μ k) : REL (ms (vfy γ k 2) (nC k) 9 0) (fiM (ms (cnM μ k 2) 120 k (μ.1 104 3)) f k) := by
  obtain ⟨⟨w1, w2, w3, w4⟩, hc, hr⟩ := h
  refine ⟨⟨?_, ?_, ?_, ?_⟩, fun i hi => ?_, fun i hi hz => ?_⟩
  · simp [vfy, fiM, cnM, ms_r, ml_r, ms_2, ml_1, ad_CC, ad_CN, ad_CR, ad_CY, ad_CK, ad_C0, ad_0C, ad_C99, ad_99C, ad_NN, ad_NC, ad_NR, ad_NY, ad_NK, ad_N0, ad_0N, ad_N99, ad_99N, ad_N98, ad_98N, ad_RR, ad_RC, ad_RN, ad_RY, ad_RK, ad_R0, ad_0R, ad_R99, ad_99R, ad_R98, ad_98R, ad_YY, ad_YC, ad_YN, ad_YR, ad_YK, ad_Y0, ad_0Y, ad_Y99, ad_99Y, ad_Y98, ad_98Y, ad_KK, ad_KC, ad_KN, ad_KR, ad_KY, ad_K0, ad_0K, ad_K99, ad_99K, ad_K98, ad_98K, w1]
  · simp [vfy, fiM, cnM, ms_r, ml_r, ms_2, ml_1, ad_CC, ad_CN, ad_CR, ad_CY, ad_CK, ad_C0, ad_0C, ad_C99, ad_99C, ad_NN, ad_NC, ad_NR, ad_NY, ad_NK, ad_N0, ad_0N, ad_N99, ad_99N, ad_N98, ad_98N, ad_RR, ad_RC, ad_RN, ad_RY, ad_RK, ad_R0, ad_0R, ad_R99, ad_99R, ad_R98, ad_98R, ad_YY, ad_YC, ad_YN, ad_YR, ad_YK, ad_Y0, ad_0Y, ad_Y99, ad_99Y, ad_Y98, ad_98Y, ad_KK, ad_KC, ad_KN, ad_KR, ad_KY, ad_K0, ad_0K, ad_K99, ad_99K, ad_K98, ad_98K, w2]
  · intro j hj; simp [vfy, fiM, cnM, ms_r, ml_r, ms_2, ml_1, ad_CC, ad_CN, ad_CR, ad_CY, ad_CK, ad_C0, ad_0C, ad_C99, ad_99C, ad_NN, ad_NC, ad_NR, ad_NY, ad_NK, ad_N0, ad_0N, ad_N99, ad_99N, ad_N98, ad_98N, ad_RR, ad_RC, ad_RN, ad_RY, ad_RK, ad_R0, ad_0R, ad_R99, ad_99R, ad_R98, ad_98R, ad_YY, ad_YC, ad_YN, ad_YR, ad_YK, ad_Y0, ad_0Y, ad_Y99, ad_99Y, ad_Y98, ad_98Y, ad_KK, ad_KC, ad_KN, ad_KR, ad_KY, ad_K0, ad_0K, ad_K99, ad_99K, ad_K98, ad_98K, a98 hk, w3 j hj]
  · intro j hj; simp [vfy, fiM, cnM, ms_r, ml_r, ms_2, ml_1, ad_CC, ad_CN, ad_CR, ad_CY, ad_CK, ad_C0, ad_0C, ad_C99, ad_99C, ad_NN, ad_NC, ad_NR, ad_NY, ad_NK, ad_N0, ad_0N, ad_N99, ad_99N, ad_N98, ad_98N, ad_RR, ad_RC, ad_RN, ad_RY, ad_RK, ad_R0, ad_0R, ad_R99, ad_99R, ad_R98, ad_98R, ad_YY, ad_YC, ad_YN, ad_YR, ad_YK, ad_Y0, ad_0Y, ad_Y99, ad_99Y, ad_Y98, ad_98Y, ad_KK, ad_KC, ad_KN, ad_KR, ad_KY, ad_K0, ad_0K, ad_K99, ad_99K, ad_K98, ad_98K, w4 j hj, w4 2 (by omega)]
  · obtain ⟨a1, a2, a3, a4, a5, a6, a7, a8, a9, b1, b2, b3, b4, b5, b6⟩ := hc i hi
    by_cases e : i = k
    · subst e
      refine ⟨?_, ?_, ?_, ?_, ?_, ?_, ?_, ?_, ?_, ?_, ?_, ?_, ?_, ?_, ?_⟩ <;> simp [vfy, fiM, cnM, ms_r, ml_r, ms_2, ml_1, ad_CC, ad_CN, ad_CR, ad_CY, ad_CK, ad_C0, ad_0C, ad_C99, ad_99C, ad_NN, ad_NC, ad_NR, ad_NY, ad_NK, ad_N0, ad_0N, ad_N99, ad_99N, ad_N98, ad_98N, ad_RR, ad_RC, ad_RN, ad_RY, ad_RK, ad_R0, ad_0R, ad_R99, ad_99R, ad_R98, ad_98R, ad_YY, ad_YC, ad_YN, ad_YR, ad_YK, ad_Y0, ad_0Y, ad_Y99, ad_99Y, ad_Y98, ad_98Y, ad_KK, ad_KC, ad_KN, ad_KR, ad_KY, ad_K0, ad_0K, ad_K99, ad_99K, ad_K98, ad_98K, w1]
      all_goals (first | assumption | skip)
      · intro j hj; rw [a8 j hj, a8 2 (by omega)]
      · intro z; exact (b3 z).2
      · intro z; exact absurd z hn
    · refine ⟨?_, ?_, ?_, ?_, ?_, ?_, ?_, ?_, ?_, ?_, ?_, ?_, ?_, ?_, ?_⟩ <;> simp [vfy, fiM, cnM, ms_r, ml_r, ms_2, ml_1, ad_CC, ad_CN, ad_CR, ad_CY, ad_CK, ad_C0, ad_0C, ad_C99, ad_99C, ad_NN, ad_NC, ad_NR, ad_NY, ad_NK, ad_N0, ad_0N, ad_N99, ad_99N, ad_N98, ad_98N, ad_RR, ad_RC, ad_RN, ad_RY, ad_RK, ad_R0, ad_0R, ad_R99, ad_99R, ad_R98, ad_98R, ad_YY, ad_YC, ad_YN, ad_YR, ad_YK, ad_Y0, ad_0Y, ad_Y99, ad_99Y, ad_Y98, ad_98Y, ad_KK, ad_KC, ad_KN, ad_KR, ad_KY, ad_K0, ad_0K, ad_K99, ad_99K, ad_K98, ad_98K, e]
      all_goals (first | assumption | skip)
      intro j hj
      rw [if_neg (by omega)]
      exact a8 j hj
  · by_cases e : i = k
    · subst e
      simpa [vfy, fiM, cnM, RR, ms_r, ml_r, ms_2, ml_1, ad_CC, ad_CN, ad_CR, ad_CY, ad_CK, ad_C0, ad_0C, ad_C99, ad_99C, ad_NN, ad_NC, ad_NR, ad_NY, ad_NK, ad_N0, ad_0N, ad_N99, ad_99N, ad_N98, ad_98N, ad_RR, ad_RC, ad_RN, ad_RY, ad_RK, ad_R0, ad_0R, ad_R99, ad_99R, ad_R98, ad_98R, ad_YY, ad_YC, ad_YN, ad_YR, ad_YK, ad_Y0, ad_0Y, ad_Y99, ad_99Y, ad_Y98, ad_98Y, ad_KK, ad_KC, ad_KN, ad_KR, ad_KY, ad_K0, ad_0K, ad_K99, ad_99K, ad_K98, ad_98K] using hr0
    · have := hr i hi (by simpa [vfy, ms_r, ml_r, ms_2, ml_1, ad_CC, ad_CN, ad_CR, ad_CY, ad_CK, ad_C0, ad_0C, ad_C99, ad_99C, ad_NN, ad_NC, ad_NR, ad_NY, ad_NK, ad_N0, ad_0N, ad_N99, ad_99N, ad_N98, ad_98N, ad_RR, ad_RC, ad_RN, ad_RY, ad_RK, ad_R0, ad_0R, ad_R99, ad_99R, ad_R98, ad_98R, ad_YY, ad_YC, ad_YN, ad_YR, ad_YK, ad_Y0, ad_0Y, ad_Y99, ad_99Y, ad_Y98, ad_98Y, ad_KK, ad_KC, ad_KN, ad_KR, ad_KY, ad_K0, ad_0K, ad_K99, ad_99K, ad_K98, ad_98K, e] using hz)
      simpa [vfy, fiM, cnM, RR, ms_r, ml_r, ms_2, ml_1, ad_CC, ad_CN, ad_CR, ad_CY, ad_CK, ad_C0, ad_0C, ad_C99, ad_99C, ad_NN, ad_NC, ad_NR, ad_NY, ad_NK, ad_N0, ad_0N, ad_N99, ad_99N, ad_N98, ad_98N, ad_RR, ad_RC, ad_RN, ad_RY, ad_RK, ad_R0, ad_0R, ad_R99, ad_99R, ad_R98, ad_98R, ad_YY, ad_YC, ad_YN, ad_YR, ad_YK, ad_Y0, ad_0Y, ad_Y99, ad_99Y, ad_Y98, ad_98Y, ad_KK, ad_KC, ad_KN, ad_KR, ad_KY, ad_K0, ad_0K, ad_K99, ad_99K, ad_K98, ad_98K, e] using this
theorem REL.conf {γ μ : nMem} {k f : Nat} {l : Int32} (h : REL γ μ) (hk : k < 12) (hn : ¬ γ.1 (nN k) 2 = 0) (hr0 : RR γ μ k) : REL (ms (vfy (ms γ (nN k) 7 l) k 1) (nC k) 9 0) (fiM (ms (ms (cnM μ k 1) 120 k (μ.1 104 3)) 122 k l) f k) := by
  obtain ⟨⟨w1, w2, w3, w4⟩, hc, hr⟩ := h
  refine ⟨⟨?_, ?_, ?_, ?_⟩, fun i hi => ?_, fun i hi hz => ?_⟩
  · simp [vfy, fiM, cnM, ms_r, ml_r, ms_2, ml_1, ad_CC, ad_CN, ad_CR, ad_CY, ad_CK, ad_C0, ad_0C, ad_C99, ad_99C, ad_NN, ad_NC, ad_NR, ad_NY, ad_NK, ad_N0, ad_0N, ad_N99, ad_99N, ad_N98, ad_98N, ad_RR, ad_RC, ad_RN, ad_RY, ad_RK, ad_R0, ad_0R, ad_R99, ad_99R, ad_R98, ad_98R, ad_YY, ad_YC, ad_YN, ad_YR, ad_YK, ad_Y0, ad_0Y, ad_Y99, ad_99Y, ad_Y98, ad_98Y, ad_KK, ad_KC, ad_KN, ad_KR, ad_KY, ad_K0, ad_0K, ad_K99, ad_99K, ad_K98, ad_98K, w1]
  · simp [vfy, fiM, cnM, ms_r, ml_r, ms_2, ml_1, ad_CC, ad_CN, ad_CR, ad_CY, ad_CK, ad_C0, ad_0C, ad_C99, ad_99C, ad_NN, ad_NC, ad_NR, ad_NY, ad_NK, ad_N0, ad_0N, ad_N99, ad_99N, ad_N98, ad_98N, ad_RR, ad_RC, ad_RN, ad_RY, ad_RK, ad_R0, ad_0R, ad_R99, ad_99R, ad_R98, ad_98R, ad_YY, ad_YC, ad_YN, ad_YR, ad_YK, ad_Y0, ad_0Y, ad_Y99, ad_99Y, ad_Y98, ad_98Y, ad_KK, ad_KC, ad_KN, ad_KR, ad_KY, ad_K0, ad_0K, ad_K99, ad_99K, ad_K98, ad_98K, w2]
  · intro j hj; simp [vfy, fiM, cnM, ms_r, ml_r, ms_2, ml_1, ad_CC, ad_CN, ad_CR, ad_CY, ad_CK, ad_C0, ad_0C, ad_C99, ad_99C, ad_NN, ad_NC, ad_NR, ad_NY, ad_NK, ad_N0, ad_0N, ad_N99, ad_99N, ad_N98, ad_98N, ad_RR, ad_RC, ad_RN, ad_RY, ad_RK, ad_R0, ad_0R, ad_R99, ad_99R, ad_R98, ad_98R, ad_YY, ad_YC, ad_YN, ad_YR, ad_YK, ad_Y0, ad_0Y, ad_Y99, ad_99Y, ad_Y98, ad_98Y, ad_KK, ad_KC, ad_KN, ad_KR, ad_KY, ad_K0, ad_0K, ad_K99, ad_99K, ad_K98, ad_98K, a98 hk, w3 j hj]
  · intro j hj; simp [vfy, fiM, cnM, ms_r, ml_r, ms_2, ml_1, ad_CC, ad_CN, ad_CR, ad_CY, ad_CK, ad_C0, ad_0C, ad_C99, ad_99C, ad_NN, ad_NC, ad_NR, ad_NY, ad_NK, ad_N0, ad_0N, ad_N99, ad_99N, ad_N98, ad_98N, ad_RR, ad_RC, ad_RN, ad_RY, ad_RK, ad_R0, ad_0R, ad_R99, ad_99R, ad_R98, ad_98R, ad_YY, ad_YC, ad_YN, ad_YR, ad_YK, ad_Y0, ad_0Y, ad_Y99, ad_99Y, ad_Y98, ad_98Y, ad_KK, ad_KC, ad_KN, ad_KR, ad_KY, ad_K0, ad_0K, ad_K99, ad_99K, ad_K98, ad_98K, w4 j hj, w4 1 (by omega)]
  · obtain ⟨a1, a2, a3, a4, a5, a6, a7, a8, a9, b1, b2, b3, b4, b5, b6⟩ := hc i hi
    by_cases e : i = k
    · subst e
      refine ⟨?_, ?_, ?_, ?_, ?_, ?_, ?_, ?_, ?_, ?_, ?_, ?_, ?_, ?_, ?_⟩ <;> simp [vfy, fiM, cnM, ms_r, ml_r, ms_2, ml_1, ad_CC, ad_CN, ad_CR, ad_CY, ad_CK, ad_C0, ad_0C, ad_C99, ad_99C, ad_NN, ad_NC, ad_NR, ad_NY, ad_NK, ad_N0, ad_0N, ad_N99, ad_99N, ad_N98, ad_98N, ad_RR, ad_RC, ad_RN, ad_RY, ad_RK, ad_R0, ad_0R, ad_R99, ad_99R, ad_R98, ad_98R, ad_YY, ad_YC, ad_YN, ad_YR, ad_YK, ad_Y0, ad_0Y, ad_Y99, ad_99Y, ad_Y98, ad_98Y, ad_KK, ad_KC, ad_KN, ad_KR, ad_KY, ad_K0, ad_0K, ad_K99, ad_99K, ad_K98, ad_98K, w1]
      all_goals (first | assumption | skip)
      · intro j hj; rw [a8 j hj, a8 1 (by omega)]
      · intro z; exact (b3 z).2.1
      · intro z; exact absurd z hn
    · refine ⟨?_, ?_, ?_, ?_, ?_, ?_, ?_, ?_, ?_, ?_, ?_, ?_, ?_, ?_, ?_⟩ <;> simp [vfy, fiM, cnM, ms_r, ml_r, ms_2, ml_1, ad_CC, ad_CN, ad_CR, ad_CY, ad_CK, ad_C0, ad_0C, ad_C99, ad_99C, ad_NN, ad_NC, ad_NR, ad_NY, ad_NK, ad_N0, ad_0N, ad_N99, ad_99N, ad_N98, ad_98N, ad_RR, ad_RC, ad_RN, ad_RY, ad_RK, ad_R0, ad_0R, ad_R99, ad_99R, ad_R98, ad_98R, ad_YY, ad_YC, ad_YN, ad_YR, ad_YK, ad_Y0, ad_0Y, ad_Y99, ad_99Y, ad_Y98, ad_98Y, ad_KK, ad_KC, ad_KN, ad_KR, ad_KY, ad_K0, ad_0K, ad_K99, ad_99K, ad_K98, ad_98K, e]
      all_goals (first | assumption | skip)
      intro j hj
      rw [if_neg (by omega)]
      exact a8 j hj
  · by_cases e : i = k
    · subst e
      simpa [vfy, fiM, cnM, RR, ms_r, ml_r, ms_2, ml_1, ad_CC, ad_CN, ad_CR, ad_CY, ad_CK, ad_C0, ad_0C, ad_C99, ad_99C, ad_NN, ad_NC, ad_NR, ad_NY, ad_NK, ad_N0, ad_0N, ad_N99, ad_99N, ad_N98, ad_98N, ad_RR, ad_RC, ad_RN, ad_RY, ad_RK, ad_R0, ad_0R, ad_R99, ad_99R, ad_R98, ad_98R, ad_YY, ad_YC, ad_YN, ad_YR, ad_YK, ad_Y0, ad_0Y, ad_Y99, ad_99Y, ad_Y98, ad_98Y, ad_KK, ad_KC, ad_KN, ad_KR, ad_KY, ad_K0, ad_0K, ad_K99, ad_99K, ad_K98, ad_98K] using hr0
    · have := hr i hi (by simpa [vfy, ms_r, ml_r, ms_2, ml_1, ad_CC, ad_CN, ad_CR, ad_CY, ad_CK, ad_C0, ad_0C, ad_C99, ad_99C, ad_NN, ad_NC, ad_NR, ad_NY, ad_NK, ad_N0, ad_0N, ad_N99, ad_99N, ad_N98, ad_98N, ad_RR, ad_RC, ad_RN, ad_RY, ad_RK, ad_R0, ad_0R, ad_R99, ad_99R, ad_R98, ad_98R, ad_YY, ad_YC, ad_YN, ad_YR, ad_YK, ad_Y0, ad_0Y, ad_Y99, ad_99Y, ad_Y98, ad_98Y, ad_KK, ad_KC, ad_KN, ad_KR, ad_KY, ad_K0, ad_0K, ad_K99, ad_99K, ad_K98, ad_98K, e] using hz)
      simpa [vfy, fiM, cnM, RR, ms_r, ml_r, ms_2, ml_1, ad_CC, ad_CN, ad_CR, ad_CY, ad_CK, ad_C0, ad_0C, ad_C99, ad_99C, ad_NN, ad_NC, ad_NR, ad_NY, ad_NK, ad_N0, ad_0N, ad_N99, ad_99N, ad_N98, ad_98N, ad_RR, ad_RC, ad_RN, ad_RY, ad_RK, ad_R0, ad_0R, ad_R99, ad_99R, ad_R98, ad_98R, ad_YY, ad_YC, ad_YN, ad_YR, ad_YK, ad_Y0, ad_0Y, ad_Y99, ad_99Y, ad_Y98, ad_98Y, ad_KK, ad_KC, ad_KN, ad_KR, ad_KY, ad_K0, ad_0K, ad_K99, ad_99K, ad_K98, ad_98K, e] using this
/-! the work's end -/
theorem wcM_r {m : nMem} {k : Nat} {fc : Nat → Nat} : ∀ (r i j : Nat), r ≤ 12 → j < 12 → (wcM m k fc r).1 124 (12 * i + j) = if i = k ∧ j < r then nI (fc j) else m.1 124 (12 * i + j) := by
  intro r
  induction r with
  | zero => intro i j _ _; rw [wcM, if_neg (fun z => by omega)]
  | succ r ih =>
    intro i j hr hj
    rw [wcM, ms_r, ih i j (by omega) hj]
    simp only [t12 hj (show r < 12 by omega)]
    by_cases e : i = k
    · by_cases e2 : j = r
      · subst e2; simp [e]
      · have : (j < r + 1) = (j < r) := propext (by omega)
        simp [e, e2, this]
    · simp [e]
theorem REL.work {γ μ : nMem} {k f : Nat} {v : Int64} {fc : Nat → Nat} {r : Nat} (h : REL γ μ) (hk : k < 12) (h4 : ¬ γ.1 (nC k) 4 = 0) (hv : v = BADv ∨ ∃ x : Int32, v = x.toInt64) (hr12 : r ≤ 12) (hw : ∀ i, i < 12 → (γ.1 (nN i) 1).toNatClampNeg ≤ 12) (hcn : γ.1 (nN k) 1 = nI r) (hf1 : μ.1 133 f = nI r) (hfc : ∀ i, i < r → γ.1 (nR k) i = nI (fc i)) (hle : lst γ k = lrM (cnM μ k 0) f fc r) : REL (wEnd γ k v) (wkM μ f k v fc r) := by
  obtain ⟨⟨w1, w2, w3, w4⟩, hc, hr⟩ := h
  have hcl : (nI r).toNatClampNeg = r := nI_clamp (by omega)
  have hsy : (if syM (wcM (cnM μ k 0) k fc r) k v = true then μ.1 121 k else μ.1 104 3) = (kvs (ms γ (nN k) 7 (lst γ k)) k v (γ.1 0 6)).1 (nN k) 6 := by
    obtain ⟨a1, a2, a3, a4, a5, a6, a7, a8, a9, b1, b2, b3, b4, b5, b6⟩ := hc k hk
    unfold syM kvs
    simp only [wcM_o (m := cnM μ k 0) (k := k) (fc := fc) (b := 117) (by decide) r, wcM_o (m := cnM μ k 0) (k := k) (fc := fc) (b := 118) (by decide) r, wcM_o (m := cnM μ k 0) (k := k) (fc := fc) (b := 120) (by decide) r, wcM_o (m := cnM μ k 0) (k := k) (fc := fc) (b := 104) (by decide) r, wcM_2]
    have c2 : (cnM μ k 0).2 = μ.2 := rfl
    rw [cnM_o (b := 117) (by decide) (by decide), cnM_o (b := 118) (by decide) (by decide), cnM_o (b := 120) (by decide) (by decide), cnM_o (b := 104) (by decide) (by decide), c2, a9, b1, w1]
    by_cases hn : γ.1 (nN k) 2 = 0
    · have h3 := b5.1 hn
      simp [ms_r, ml_r, ms_2, ml_1, ad_CC, ad_CN, ad_CR, ad_CY, ad_CK, ad_C0, ad_0C, ad_C99, ad_99C, ad_NN, ad_NC, ad_NR, ad_NY, ad_NK, ad_N0, ad_0N, ad_N99, ad_99N, ad_N98, ad_98N, ad_RR, ad_RC, ad_RN, ad_RY, ad_RK, ad_R0, ad_0R, ad_R99, ad_99R, ad_R98, ad_98R, ad_YY, ad_YC, ad_YN, ad_YR, ad_YK, ad_Y0, ad_0Y, ad_Y99, ad_99Y, ad_Y98, ad_98Y, ad_KK, ad_KC, ad_KN, ad_KR, ad_KY, ad_K0, ad_0K, ad_K99, ad_99K, ad_K98, ad_98K, hn, h3]
    · obtain ⟨v1, v2, v3⟩ := b3 hn
      rw [v1, v2]
      by_cases h3 : γ.1 (nN k) 3 = 0
      · by_cases h5 : γ.1 (nN k) 5 = γ.1 0 6
        · simp [ms_r, ml_r, ms_2, ml_1, ad_CC, ad_CN, ad_CR, ad_CY, ad_CK, ad_C0, ad_0C, ad_C99, ad_99C, ad_NN, ad_NC, ad_NR, ad_NY, ad_NK, ad_N0, ad_0N, ad_N99, ad_99N, ad_N98, ad_98N, ad_RR, ad_RC, ad_RN, ad_RY, ad_RK, ad_R0, ad_0R, ad_R99, ad_99R, ad_R98, ad_98R, ad_YY, ad_YC, ad_YN, ad_YR, ad_YK, ad_Y0, ad_0Y, ad_Y99, ad_99Y, ad_Y98, ad_98Y, ad_KK, ad_KC, ad_KN, ad_KR, ad_KY, ad_K0, ad_0K, ad_K99, ad_99K, ad_K98, ad_98K, hn, h3, h5]
        · simp [ms_r, ml_r, ms_2, ml_1, ad_CC, ad_CN, ad_CR, ad_CY, ad_CK, ad_C0, ad_0C, ad_C99, ad_99C, ad_NN, ad_NC, ad_NR, ad_NY, ad_NK, ad_N0, ad_0N, ad_N99, ad_99N, ad_N98, ad_98N, ad_RR, ad_RC, ad_RN, ad_RY, ad_RK, ad_R0, ad_0R, ad_R99, ad_99R, ad_R98, ad_98R, ad_YY, ad_YC, ad_YN, ad_YR, ad_YK, ad_Y0, ad_0Y, ad_Y99, ad_99Y, ad_Y98, ad_98Y, ad_KK, ad_KC, ad_KN, ad_KR, ad_KY, ad_K0, ad_0K, ad_K99, ad_99K, ad_K98, ad_98K, hn, h3, h5]
      · rw [(b2 h3).1]
        by_cases h4 : γ.2 (nN k) 4 = v
        · simp [ms_r, ml_r, ms_2, ml_1, ad_CC, ad_CN, ad_CR, ad_CY, ad_CK, ad_C0, ad_0C, ad_C99, ad_99C, ad_NN, ad_NC, ad_NR, ad_NY, ad_NK, ad_N0, ad_0N, ad_N99, ad_99N, ad_N98, ad_98N, ad_RR, ad_RC, ad_RN, ad_RY, ad_RK, ad_R0, ad_0R, ad_R99, ad_99R, ad_R98, ad_98R, ad_YY, ad_YC, ad_YN, ad_YR, ad_YK, ad_Y0, ad_0Y, ad_Y99, ad_99Y, ad_Y98, ad_98Y, ad_KK, ad_KC, ad_KN, ad_KR, ad_KY, ad_K0, ad_0K, ad_K99, ad_99K, ad_K98, ad_98K, hn, h3, h4]
        · by_cases h5 : γ.1 (nN k) 5 = γ.1 0 6
          · simp [ms_r, ml_r, ms_2, ml_1, ad_CC, ad_CN, ad_CR, ad_CY, ad_CK, ad_C0, ad_0C, ad_C99, ad_99C, ad_NN, ad_NC, ad_NR, ad_NY, ad_NK, ad_N0, ad_0N, ad_N99, ad_99N, ad_N98, ad_98N, ad_RR, ad_RC, ad_RN, ad_RY, ad_RK, ad_R0, ad_0R, ad_R99, ad_99R, ad_R98, ad_98R, ad_YY, ad_YC, ad_YN, ad_YR, ad_YK, ad_Y0, ad_0Y, ad_Y99, ad_99Y, ad_Y98, ad_98Y, ad_KK, ad_KC, ad_KN, ad_KR, ad_KY, ad_K0, ad_0K, ad_K99, ad_99K, ad_K98, ad_98K, hn, h3, h4, h5]
          · simp [ms_r, ml_r, ms_2, ml_1, ad_CC, ad_CN, ad_CR, ad_CY, ad_CK, ad_C0, ad_0C, ad_C99, ad_99C, ad_NN, ad_NC, ad_NR, ad_NY, ad_NK, ad_N0, ad_0N, ad_N99, ad_99N, ad_N98, ad_98N, ad_RR, ad_RC, ad_RN, ad_RY, ad_RK, ad_R0, ad_0R, ad_R99, ad_99R, ad_R98, ad_98R, ad_YY, ad_YC, ad_YN, ad_YR, ad_YK, ad_Y0, ad_0Y, ad_Y99, ad_99Y, ad_Y98, ad_98Y, ad_KK, ad_KC, ad_KN, ad_KR, ad_KY, ad_K0, ad_0K, ad_K99, ad_99K, ad_K98, ad_98K, hn, h3, h4, h5]
  have kvo : ∀ b j, ¬ (b = nN k ∧ j = 6) → (kvs (ms γ (nN k) 7 (lst γ k)) k v (γ.1 0 6)).1 b j = (ms γ (nN k) 7 (lst γ k)).1 b j := by
    intro b j hb
    unfold kvs
    split
    · split
      · rw [ms_r, if_neg hb]
      · rfl
    · rfl
  have kv2 : (kvs (ms γ (nN k) 7 (lst γ k)) k v (γ.1 0 6)).2 = γ.2 := by
    unfold kvs
    split
    · split <;> rfl
    · rfl
  have wo : ∀ b, ¬ b = 124 → ¬ b = 126 → ¬ b = 127 → (wcM (cnM μ k 0) k fc r).1 b = μ.1 b := fun b h1 h2 h3 => by rw [wcM_o h1, cnM_o h2 h3]
  have w2' : (wcM (cnM μ k 0) k fc r).2 = μ.2 := by rw [wcM_2]; rfl
  have w126 : ∀ j, (wcM (cnM μ k 0) k fc r).1 126 j = (cnM μ k 0).1 126 j := fun j => by rw [wcM_o (by decide)]
  have w127 : ∀ j, (wcM (cnM μ k 0) k fc r).1 127 j = (cnM μ k 0).1 127 j := fun j => by rw [wcM_o (by decide)]
  have hsy2 : (if syM (wcM (cnM μ k 0) k fc r) k v = true then (wcM (cnM μ k 0) k fc r).1 121 k else (wcM (cnM μ k 0) k fc r).1 104 3) = (kvs (ms γ (nN k) 7 (lst γ k)) k v (γ.1 0 6)).1 (nN k) 6 := by
    rw [wo 121 (by decide) (by decide) (by decide), wo 104 (by decide) (by decide) (by decide)]; exact hsy
  unfold wEnd wkM
  rw [hsy2, ← hle]
  generalize hS : (kvs (ms γ (nN k) 7 (lst γ k)) k v (γ.1 0 6)).1 (nN k) 6 = S
  generalize hK : kvs (ms γ (nN k) 7 (lst γ k)) k v (γ.1 0 6) = K at hS kvo kv2
  generalize hL : lst γ k = le at kvo
  generalize hW : wcM (cnM μ k 0) k fc r = M at wo w2' w126 w127
  have M124 : ∀ i j, j < 12 → M.1 124 (12 * i + j) = if i = k ∧ j < r then nI (fc j) else μ.1 124 (12 * i + j) := fun i j hj => by
    rw [← hW, wcM_r r i j hr12 hj, cnM_o (by decide) (by decide)]
  rw [hL] at hK
  have hM : ∀ b, ¬ b = 124 → ¬ b = 126 → ¬ b = 127 → ∀ j, M.1 b j = μ.1 b j := fun b h1 h2 h3 j => by rw [wo b h1 h2 h3]
  have m104 := hM 104 (by decide) (by decide) (by decide)
  have m106 := hM 106 (by decide) (by decide) (by decide)
  have m107 := hM 107 (by decide) (by decide) (by decide)
  have m113 := hM 113 (by decide) (by decide) (by decide)
  have m114 := hM 114 (by decide) (by decide) (by decide)
  have m115 := hM 115 (by decide) (by decide) (by decide)
  have m116 := hM 116 (by decide) (by decide) (by decide)
  have m117 := hM 117 (by decide) (by decide) (by decide)
  have m118 := hM 118 (by decide) (by decide) (by decide)
  have m120 := hM 120 (by decide) (by decide) (by decide)
  have m121 := hM 121 (by decide) (by decide) (by decide)
  have m122 := hM 122 (by decide) (by decide) (by decide)
  have m123 := hM 123 (by decide) (by decide) (by decide)
  have m125 := hM 125 (by decide) (by decide) (by decide)
  have m133 := hM 133 (by decide) (by decide) (by decide)
  have m135 := hM 135 (by decide) (by decide) (by decide)
  have kC : ∀ i j, K.1 (nC i) j = γ.1 (nC i) j := fun i j => by rw [kvo _ _ (fun z => by have := z.1; unfold nC nN at this; omega), ms_r, if_neg (fun z => by have := z.1; unfold nC nN at this; omega)]
  have kY : ∀ i j, K.1 (nY i) j = γ.1 (nY i) j := fun i j => by rw [kvo _ _ (fun z => by have := z.1; unfold nY nN at this; omega), ms_r, if_neg (fun z => by have := z.1; unfold nY nN at this; omega)]
  have kR : ∀ i j, K.1 (nR i) j = γ.1 (nR i) j := fun i j => by rw [kvo _ _ (fun z => by have := z.1; unfold nR nN at this; omega), ms_r, if_neg (fun z => by have := z.1; unfold nR nN at this; omega)]
  have k0 : ∀ j, K.1 0 j = γ.1 0 j := fun j => by rw [kvo _ _ (fun z => by have := z.1; unfold nN at this; omega), ms_r, if_neg (fun z => by have := z.1; unfold nN at this; omega)]
  have k98 : ∀ j, K.1 98 j = γ.1 98 j := fun j => by rw [kvo _ _ (fun z => by have := z.1; unfold nN at this; omega), ms_r, if_neg (fun z => by have := z.1; unfold nN at this; omega)]
  have k99 : ∀ j, K.1 99 j = γ.1 99 j := fun j => by rw [kvo _ _ (fun z => by have := z.1; unfold nN at this; omega), ms_r, if_neg (fun z => by have := z.1; unfold nN at this; omega)]
  have kN : ∀ i j, ¬ i = k → K.1 (nN i) j = γ.1 (nN i) j := fun i j hi => by rw [kvo _ _ (fun z => by have := z.1; unfold nN at this; omega), ms_r, if_neg (fun z => by have := z.1; unfold nN at this; omega)]
  have kNk : ∀ j, ¬ j = 6 → K.1 (nN k) j = if j = 7 then le else γ.1 (nN k) j := fun j hj => by rw [kvo _ _ (fun z => hj z.2), ms_r]; simp
  have kN1 := kNk 1 (by decide)
  have kN7 := kNk 7 (by decide)
  simp at kN1 kN7
  refine ⟨⟨?_, ?_, ?_, ?_⟩, fun i hi => ?_, fun i hi hz => ?_⟩
  · simp [tly, mU, kv, fiM, usM, wkN, hK, ms_r, ml_r, ms_2, ml_1, ad_CC, ad_CN, ad_CR, ad_CY, ad_CK, ad_C0, ad_0C, ad_C99, ad_99C, ad_NN, ad_NC, ad_NR, ad_NY, ad_NK, ad_N0, ad_0N, ad_N99, ad_99N, ad_N98, ad_98N, ad_RR, ad_RC, ad_RN, ad_RY, ad_RK, ad_R0, ad_0R, ad_R99, ad_99R, ad_R98, ad_98R, ad_YY, ad_YC, ad_YN, ad_YR, ad_YK, ad_Y0, ad_0Y, ad_Y99, ad_99Y, ad_Y98, ad_98Y, ad_KK, ad_KC, ad_KN, ad_KR, ad_KY, ad_K0, ad_0K, ad_K99, ad_99K, ad_K98, ad_98K, m104, k0, w1]
  · simp [tly, mU, kv, fiM, usM, wkN, hK, ms_r, ml_r, ms_2, ml_1, ad_CC, ad_CN, ad_CR, ad_CY, ad_CK, ad_C0, ad_0C, ad_C99, ad_99C, ad_NN, ad_NC, ad_NR, ad_NY, ad_NK, ad_N0, ad_0N, ad_N99, ad_99N, ad_N98, ad_98N, ad_RR, ad_RC, ad_RN, ad_RY, ad_RK, ad_R0, ad_0R, ad_R99, ad_99R, ad_R98, ad_98R, ad_YY, ad_YC, ad_YN, ad_YR, ad_YK, ad_Y0, ad_0Y, ad_Y99, ad_99Y, ad_Y98, ad_98Y, ad_KK, ad_KC, ad_KN, ad_KR, ad_KY, ad_K0, ad_0K, ad_K99, ad_99K, ad_K98, ad_98K, m104, k0, w2]
  · intro j hj; simp [tly, mU, kv, fiM, usM, wkN, hK, ms_r, ml_r, ms_2, ml_1, ad_CC, ad_CN, ad_CR, ad_CY, ad_CK, ad_C0, ad_0C, ad_C99, ad_99C, ad_NN, ad_NC, ad_NR, ad_NY, ad_NK, ad_N0, ad_0N, ad_N99, ad_99N, ad_N98, ad_98N, ad_RR, ad_RC, ad_RN, ad_RY, ad_RK, ad_R0, ad_0R, ad_R99, ad_99R, ad_R98, ad_98R, ad_YY, ad_YC, ad_YN, ad_YR, ad_YK, ad_Y0, ad_0Y, ad_Y99, ad_99Y, ad_Y98, ad_98Y, ad_KK, ad_KC, ad_KN, ad_KR, ad_KY, ad_K0, ad_0K, ad_K99, ad_99K, ad_K98, ad_98K, a98 hk, m106, k98, w3 j hj]
  · intro j hj; simp [tly, mU, kv, fiM, usM, wkN, hK, ms_r, ml_r, ms_2, ml_1, ad_CC, ad_CN, ad_CR, ad_CY, ad_CK, ad_C0, ad_0C, ad_C99, ad_99C, ad_NN, ad_NC, ad_NR, ad_NY, ad_NK, ad_N0, ad_0N, ad_N99, ad_99N, ad_N98, ad_98N, ad_RR, ad_RC, ad_RN, ad_RY, ad_RK, ad_R0, ad_0R, ad_R99, ad_99R, ad_R98, ad_98R, ad_YY, ad_YC, ad_YN, ad_YR, ad_YK, ad_Y0, ad_0Y, ad_Y99, ad_99Y, ad_Y98, ad_98Y, ad_KK, ad_KC, ad_KN, ad_KR, ad_KY, ad_K0, ad_0K, ad_K99, ad_99K, ad_K98, ad_98K, w127, k99, cnM, w4 j hj, w4 0 (by omega)]
  · obtain ⟨a1, a2, a3, a4, a5, a6, a7, a8, a9, b1, b2, b3, b4, b5, b6⟩ := hc i hi
    by_cases e : i = k
    · subst e
      refine ⟨?_, ?_, ?_, ?_, ?_, ?_, ?_, ?_, ?_, ?_, ?_, ?_, ?_, ?_, ?_⟩ <;> simp [tly, mU, kv, fiM, usM, wkN, hK, ms_r, ml_r, ms_2, ml_1, ad_CC, ad_CN, ad_CR, ad_CY, ad_CK, ad_C0, ad_0C, ad_C99, ad_99C, ad_NN, ad_NC, ad_NR, ad_NY, ad_NK, ad_N0, ad_0N, ad_N99, ad_99N, ad_N98, ad_98N, ad_RR, ad_RC, ad_RN, ad_RY, ad_RK, ad_R0, ad_0R, ad_R99, ad_99R, ad_R98, ad_98R, ad_YY, ad_YC, ad_YN, ad_YR, ad_YK, ad_Y0, ad_0Y, ad_Y99, ad_99Y, ad_Y98, ad_98Y, ad_KK, ad_KC, ad_KN, ad_KR, ad_KY, ad_K0, ad_0K, ad_K99, ad_99K, ad_K98, ad_98K, m104, m107, m113, m114, m115, m116, m117, m118, m120, m121, m122, m125, m135, kC, kY, k0, kN7, hS, w1, w2, w126, cnM]
      all_goals (first | assumption | skip)
      · intro j hj; rw [a8 j hj]; have := a8 0 (by omega); simp at this; rw [this]
    · refine ⟨?_, ?_, ?_, ?_, ?_, ?_, ?_, ?_, ?_, ?_, ?_, ?_, ?_, ?_, ?_⟩ <;> simp [tly, mU, kv, fiM, usM, wkN, hK, ms_r, ml_r, ms_2, ml_1, ad_CC, ad_CN, ad_CR, ad_CY, ad_CK, ad_C0, ad_0C, ad_C99, ad_99C, ad_NN, ad_NC, ad_NR, ad_NY, ad_NK, ad_N0, ad_0N, ad_N99, ad_99N, ad_N98, ad_98N, ad_RR, ad_RC, ad_RN, ad_RY, ad_RK, ad_R0, ad_0R, ad_R99, ad_99R, ad_R98, ad_98R, ad_YY, ad_YC, ad_YN, ad_YR, ad_YK, ad_Y0, ad_0Y, ad_Y99, ad_99Y, ad_Y98, ad_98Y, ad_KK, ad_KC, ad_KN, ad_KR, ad_KY, ad_K0, ad_0K, ad_K99, ad_99K, ad_K98, ad_98K, m104, m107, m113, m114, m115, m116, m117, m118, m120, m121, m122, m125, m135, kC, kY, k0, kN i _ e, kv2, w2', e, w126, cnM]
      all_goals (first | assumption | skip)
      intro j hj
      rw [if_neg (by omega)]
      exact a8 j hj
  · by_cases e : i = k
    · subst e
      unfold RR
      simp [tly, mU, kv, fiM, usM, wkN, hK, ms_r, ml_r, ms_2, ml_1, ad_CC, ad_CN, ad_CR, ad_CY, ad_CK, ad_C0, ad_0C, ad_C99, ad_99C, ad_NN, ad_NC, ad_NR, ad_NY, ad_NK, ad_N0, ad_0N, ad_N99, ad_99N, ad_N98, ad_98N, ad_RR, ad_RC, ad_RN, ad_RY, ad_RK, ad_R0, ad_0R, ad_R99, ad_99R, ad_R98, ad_98R, ad_YY, ad_YC, ad_YN, ad_YR, ad_YK, ad_Y0, ad_0Y, ad_Y99, ad_99Y, ad_Y98, ad_98Y, ad_KK, ad_KC, ad_KN, ad_KR, ad_KY, ad_K0, ad_0K, ad_K99, ad_99K, ad_K98, ad_98K, m133, hf1, kN1, hcn, kR]
      intro j hj
      rw [hcl] at hj
      have := M124 i j (by omega)
      rw [this]
      simp [hj, hfc j hj]
    · have := hr i hi (by simpa [tly, mU, kv, hK, ms_r, ml_r, ms_2, ml_1, ad_CC, ad_CN, ad_CR, ad_CY, ad_CK, ad_C0, ad_0C, ad_C99, ad_99C, ad_NN, ad_NC, ad_NR, ad_NY, ad_NK, ad_N0, ad_0N, ad_N99, ad_99N, ad_N98, ad_98N, ad_RR, ad_RC, ad_RN, ad_RY, ad_RK, ad_R0, ad_0R, ad_R99, ad_99R, ad_R98, ad_98R, ad_YY, ad_YC, ad_YN, ad_YR, ad_YK, ad_Y0, ad_0Y, ad_Y99, ad_99Y, ad_Y98, ad_98Y, ad_KK, ad_KC, ad_KN, ad_KR, ad_KY, ad_K0, ad_0K, ad_K99, ad_99K, ad_K98, ad_98K, kC, e] using hz)
      unfold RR at this ⊢
      simp [tly, mU, kv, fiM, usM, wkN, hK, ms_r, ml_r, ms_2, ml_1, ad_CC, ad_CN, ad_CR, ad_CY, ad_CK, ad_C0, ad_0C, ad_C99, ad_99C, ad_NN, ad_NC, ad_NR, ad_NY, ad_NK, ad_N0, ad_0N, ad_N99, ad_99N, ad_N98, ad_98N, ad_RR, ad_RC, ad_RN, ad_RY, ad_RK, ad_R0, ad_0R, ad_R99, ad_99R, ad_R98, ad_98R, ad_YY, ad_YC, ad_YN, ad_YR, ad_YK, ad_Y0, ad_0Y, ad_Y99, ad_99Y, ad_Y98, ad_98Y, ad_KK, ad_KC, ad_KN, ad_KR, ad_KY, ad_K0, ad_0K, ad_K99, ad_99K, ad_K98, ad_98K, m123, kR, kN i _ e, e]
      intro h2
      obtain ⟨t1, t2⟩ := this h2
      refine ⟨t1, fun j hj => ?_⟩
      have hj2 := hw i hi
      rw [M124 i j (by omega), if_neg (fun z => e z.1)]
      exact t2 j hj
