/-! class memory and model memory: one state -/
theorem ad_CC (i k : Nat) : (nC i = nC k) = (i = k) := propext (by unfold nC; omega)
theorem ad_CN (i k : Nat) : (nC i = nN k) = False := eq_false (by unfold nC nN; omega)
theorem ad_CR (i k : Nat) : (nC i = nR k) = False := eq_false (by unfold nC nR; omega)
theorem ad_CY (i k : Nat) : (nC i = nY k) = False := eq_false (by unfold nC nY; omega)
theorem ad_CK (i k : Nat) : (nC i = nK k) = False := eq_false (by unfold nC nK; omega)
theorem ad_C0 (k : Nat) : (nC k = 0) = False := eq_false (by unfold nC; omega)
theorem ad_0C (k : Nat) : (0 = nC k) = False := eq_false (by unfold nC; omega)
theorem ad_C99 (k : Nat) : (nC k = 99) = False := eq_false (by unfold nC; omega)
theorem ad_99C (k : Nat) : (99 = nC k) = False := eq_false (by unfold nC; omega)
theorem ad_NN (i k : Nat) : (nN i = nN k) = (i = k) := propext (by unfold nN; omega)
theorem ad_NC (i k : Nat) : (nN i = nC k) = False := eq_false (by unfold nN nC; omega)
theorem ad_NR (i k : Nat) : (nN i = nR k) = False := eq_false (by unfold nN nR; omega)
theorem ad_NY (i k : Nat) : (nN i = nY k) = False := eq_false (by unfold nN nY; omega)
theorem ad_NK (i k : Nat) : (nN i = nK k) = False := eq_false (by unfold nN nK; omega)
theorem ad_N0 (k : Nat) : (nN k = 0) = False := eq_false (by unfold nN; omega)
theorem ad_0N (k : Nat) : (0 = nN k) = False := eq_false (by unfold nN; omega)
theorem ad_N99 (k : Nat) : (nN k = 99) = False := eq_false (by unfold nN; omega)
theorem ad_99N (k : Nat) : (99 = nN k) = False := eq_false (by unfold nN; omega)
theorem ad_N98 (k : Nat) : (nN k = 98) = False := eq_false (by unfold nN; omega)
theorem ad_98N (k : Nat) : (98 = nN k) = False := eq_false (by unfold nN; omega)
theorem ad_RR (i k : Nat) : (nR i = nR k) = (i = k) := propext (by unfold nR; omega)
theorem ad_RC (i k : Nat) : (nR i = nC k) = False := eq_false (by unfold nR nC; omega)
theorem ad_RN (i k : Nat) : (nR i = nN k) = False := eq_false (by unfold nR nN; omega)
theorem ad_RY (i k : Nat) : (nR i = nY k) = False := eq_false (by unfold nR nY; omega)
theorem ad_RK (i k : Nat) : (nR i = nK k) = False := eq_false (by unfold nR nK; omega)
theorem ad_R0 (k : Nat) : (nR k = 0) = False := eq_false (by unfold nR; omega)
theorem ad_0R (k : Nat) : (0 = nR k) = False := eq_false (by unfold nR; omega)
theorem ad_R99 (k : Nat) : (nR k = 99) = False := eq_false (by unfold nR; omega)
theorem ad_99R (k : Nat) : (99 = nR k) = False := eq_false (by unfold nR; omega)
theorem ad_R98 (k : Nat) : (nR k = 98) = False := eq_false (by unfold nR; omega)
theorem ad_98R (k : Nat) : (98 = nR k) = False := eq_false (by unfold nR; omega)
theorem ad_YY (i k : Nat) : (nY i = nY k) = (i = k) := propext (by unfold nY; omega)
theorem ad_YC (i k : Nat) : (nY i = nC k) = False := eq_false (by unfold nY nC; omega)
theorem ad_YN (i k : Nat) : (nY i = nN k) = False := eq_false (by unfold nY nN; omega)
theorem ad_YR (i k : Nat) : (nY i = nR k) = False := eq_false (by unfold nY nR; omega)
theorem ad_YK (i k : Nat) : (nY i = nK k) = False := eq_false (by unfold nY nK; omega)
theorem ad_Y0 (k : Nat) : (nY k = 0) = False := eq_false (by unfold nY; omega)
theorem ad_0Y (k : Nat) : (0 = nY k) = False := eq_false (by unfold nY; omega)
theorem ad_Y99 (k : Nat) : (nY k = 99) = False := eq_false (by unfold nY; omega)
theorem ad_99Y (k : Nat) : (99 = nY k) = False := eq_false (by unfold nY; omega)
theorem ad_Y98 (k : Nat) : (nY k = 98) = False := eq_false (by unfold nY; omega)
theorem ad_98Y (k : Nat) : (98 = nY k) = False := eq_false (by unfold nY; omega)
theorem ad_KK (i k : Nat) : (nK i = nK k) = (i = k) := propext (by unfold nK; omega)
theorem ad_KC (i k : Nat) : (nK i = nC k) = False := eq_false (by unfold nK nC; omega)
theorem ad_KN (i k : Nat) : (nK i = nN k) = False := eq_false (by unfold nK nN; omega)
theorem ad_KR (i k : Nat) : (nK i = nR k) = False := eq_false (by unfold nK nR; omega)
theorem ad_KY (i k : Nat) : (nK i = nY k) = False := eq_false (by unfold nK nY; omega)
theorem ad_K0 (k : Nat) : (nK k = 0) = False := eq_false (by unfold nK; omega)
theorem ad_0K (k : Nat) : (0 = nK k) = False := eq_false (by unfold nK; omega)
theorem ad_K99 (k : Nat) : (nK k = 99) = False := eq_false (by unfold nK; omega)
theorem ad_99K (k : Nat) : (99 = nK k) = False := eq_false (by unfold nK; omega)
theorem ad_K98 (k : Nat) : (nK k = 98) = False := eq_false (by unfold nK; omega)
theorem ad_98K (k : Nat) : (98 = nK k) = False := eq_false (by unfold nK; omega)
abbrev RC (γ μ : nMem) (k : Nat) : Prop := (μ.1 107 k = γ.1 (nC k) 4) ∧ (μ.1 113 k = γ.1 (nC k) 5) ∧ (μ.1 114 k = γ.1 (nC k) 6) ∧ (μ.1 115 k = γ.1 (nC k) 7) ∧ (μ.1 116 k = γ.1 (nC k) 8) ∧ (μ.1 135 k = γ.1 (nC k) 9) ∧ (μ.1 125 k = γ.1 (nC k) 10) ∧ (∀ j, j < 3 → μ.1 126 (3 * k + j) = γ.1 (nY k) j) ∧ (μ.1 117 k = γ.1 (nN k) 2) ∧ (μ.1 118 k = γ.1 (nN k) 3) ∧ (¬ γ.1 (nN k) 3 = 0 → μ.2 119 k = γ.2 (nN k) 4 ∧ (γ.2 (nN k) 4 = BADv ∨ ∃ x : Int32, γ.2 (nN k) 4 = x.toInt64)) ∧ (¬ γ.1 (nN k) 2 = 0 → μ.1 120 k = γ.1 (nN k) 5 ∧ μ.1 121 k = γ.1 (nN k) 6 ∧ μ.1 122 k = γ.1 (nN k) 7) ∧ (γ.1 (nN k) 2 = 0 → γ.1 (nC k) 9 = 0 → γ.1 (nN k) 1 = 0 ∧ γ.1 (nN k) 3 = 0 ∧ γ.1 (nN k) 5 = 0 ∧ γ.1 (nN k) 6 = 0 ∧ γ.1 (nN k) 7 = 0) ∧ ((γ.1 (nN k) 2 = 0 → γ.1 (nN k) 3 = 0) ∧ (γ.1 (nN k) 2 = 0 ∨ γ.1 (nN k) 2 = 1) ∧ (γ.1 (nN k) 3 = 0 ∨ γ.1 (nN k) 3 = 1)) ∧ (γ.1 (nC k) 4 = 0 → γ.1 (nN k) 2 = 0 ∧ γ.1 (nN k) 3 = 0)
theorem RC.fm {γ μ : nMem} {k : Nat} (h : RC γ μ k) : μ.1 107 k = γ.1 (nC k) 4 := h.1
theorem RC.al {γ μ : nMem} {k : Nat} (h : RC γ μ k) : μ.1 113 k = γ.1 (nC k) 5 := h.2.1
theorem RC.nu {γ μ : nMem} {k : Nat} (h : RC γ μ k) : μ.1 114 k = γ.1 (nC k) 6 := h.2.2.1
theorem RC.du {γ μ : nMem} {k : Nat} (h : RC γ μ k) : μ.1 115 k = γ.1 (nC k) 7 := h.2.2.2.1
theorem RC.bo {γ μ : nMem} {k : Nat} (h : RC γ μ k) : μ.1 116 k = γ.1 (nC k) 8 := h.2.2.2.2.1
theorem RC.aw {γ μ : nMem} {k : Nat} (h : RC γ μ k) : μ.1 135 k = γ.1 (nC k) 9 := h.2.2.2.2.2.1
theorem RC.us {γ μ : nMem} {k : Nat} (h : RC γ μ k) : μ.1 125 k = γ.1 (nC k) 10 := h.2.2.2.2.2.2.1
theorem RC.of {γ μ : nMem} {k : Nat} (h : RC γ μ k) : ∀ j, j < 3 → μ.1 126 (3 * k + j) = γ.1 (nY k) j := h.2.2.2.2.2.2.2.1
theorem RC.no {γ μ : nMem} {k : Nat} (h : RC γ μ k) : μ.1 117 k = γ.1 (nN k) 2 := h.2.2.2.2.2.2.2.2.1
theorem RC.va {γ μ : nMem} {k : Nat} (h : RC γ μ k) : μ.1 118 k = γ.1 (nN k) 3 := h.2.2.2.2.2.2.2.2.2.1
theorem RC.vl {γ μ : nMem} {k : Nat} (h : RC γ μ k) : ¬ γ.1 (nN k) 3 = 0 → μ.2 119 k = γ.2 (nN k) 4 ∧ (γ.2 (nN k) 4 = BADv ∨ ∃ x : Int32, γ.2 (nN k) 4 = x.toInt64) := h.2.2.2.2.2.2.2.2.2.2.1
theorem RC.ve {γ μ : nMem} {k : Nat} (h : RC γ μ k) : ¬ γ.1 (nN k) 2 = 0 → μ.1 120 k = γ.1 (nN k) 5 ∧ μ.1 121 k = γ.1 (nN k) 6 ∧ μ.1 122 k = γ.1 (nN k) 7 := h.2.2.2.2.2.2.2.2.2.2.2.1
theorem RC.zn {γ μ : nMem} {k : Nat} (h : RC γ μ k) : γ.1 (nN k) 2 = 0 → γ.1 (nC k) 9 = 0 → γ.1 (nN k) 1 = 0 ∧ γ.1 (nN k) 3 = 0 ∧ γ.1 (nN k) 5 = 0 ∧ γ.1 (nN k) 6 = 0 ∧ γ.1 (nN k) 7 = 0 := h.2.2.2.2.2.2.2.2.2.2.2.2.1
theorem RC.nv {γ μ : nMem} {k : Nat} (h : RC γ μ k) : (γ.1 (nN k) 2 = 0 → γ.1 (nN k) 3 = 0) ∧ (γ.1 (nN k) 2 = 0 ∨ γ.1 (nN k) 2 = 1) ∧ (γ.1 (nN k) 3 = 0 ∨ γ.1 (nN k) 3 = 1) := h.2.2.2.2.2.2.2.2.2.2.2.2.2.1
theorem RC.inn {γ μ : nMem} {k : Nat} (h : RC γ μ k) : γ.1 (nC k) 4 = 0 → γ.1 (nN k) 2 = 0 ∧ γ.1 (nN k) 3 = 0 := h.2.2.2.2.2.2.2.2.2.2.2.2.2.2
def RR (γ μ : nMem) (k : Nat) : Prop := ¬ γ.1 (nN k) 2 = 0 → μ.1 123 k = γ.1 (nN k) 1 ∧ ∀ i, i < (γ.1 (nN k) 1).toNatClampNeg → μ.1 124 (12 * k + i) = γ.1 (nR k) i
abbrev RW (γ μ : nMem) : Prop := (μ.1 104 3 = γ.1 0 6) ∧ (μ.1 104 24 = γ.1 0 7) ∧ (∀ j, j < 3 → μ.1 106 j = γ.1 98 j) ∧ (∀ j, j < 3 → μ.1 127 j = γ.1 99 j)
theorem RW.rv {γ μ : nMem} (h : RW γ μ) : μ.1 104 3 = γ.1 0 6 := h.1
theorem RW.ck {γ μ : nMem} (h : RW γ μ) : μ.1 104 24 = γ.1 0 7 := h.2.1
theorem RW.ch {γ μ : nMem} (h : RW γ μ) : ∀ j, j < 3 → μ.1 106 j = γ.1 98 j := h.2.2.1
theorem RW.lt {γ μ : nMem} (h : RW γ μ) : ∀ j, j < 3 → μ.1 127 j = γ.1 99 j := h.2.2.2
abbrev REL (γ μ : nMem) : Prop := (RW γ μ) ∧ (∀ k, k < 12 → RC γ μ k) ∧ (∀ k, k < 12 → γ.1 (nC k) 9 = 0 → RR γ μ k)
theorem REL.w {γ μ : nMem} (h : REL γ μ) : RW γ μ := h.1
theorem REL.c {γ μ : nMem} (h : REL γ μ) : ∀ k, k < 12 → RC γ μ k := h.2.1
theorem REL.r {γ μ : nMem} (h : REL γ μ) : ∀ k, k < 12 → γ.1 (nC k) 9 = 0 → RR γ μ k := h.2.2
theorem a98 {k : Nat} (h : k < 12) : (98 = nC k) = False := eq_false (by unfold nC; omega)
theorem REL.start {γ μ : nMem} {n k : Nat} {w : Int32} (h : REL γ μ) (hk : k < 12) (h9 : γ.1 (nC k) 9 = 0) : REL (ms γ (nC k) 9 1) (saM μ n k w) := by
  obtain ⟨⟨w1, w2, w3, w4⟩, hc, hr⟩ := h
  refine ⟨⟨?_, ?_, ?_, ?_⟩, fun i hi => ?_, fun i hi => ?_⟩
  · simp [saM, ms_r, ml_r, ms_2, ml_1, ad_CC, ad_CN, ad_CR, ad_CY, ad_CK, ad_C0, ad_0C, ad_C99, ad_99C, ad_NN, ad_NC, ad_NR, ad_NY, ad_NK, ad_N0, ad_0N, ad_N99, ad_99N, ad_N98, ad_98N, ad_RR, ad_RC, ad_RN, ad_RY, ad_RK, ad_R0, ad_0R, ad_R99, ad_99R, ad_R98, ad_98R, ad_YY, ad_YC, ad_YN, ad_YR, ad_YK, ad_Y0, ad_0Y, ad_Y99, ad_99Y, ad_Y98, ad_98Y, ad_KK, ad_KC, ad_KN, ad_KR, ad_KY, ad_K0, ad_0K, ad_K99, ad_99K, ad_K98, ad_98K, w1]
  · simp [saM, ms_r, ml_r, ms_2, ml_1, ad_CC, ad_CN, ad_CR, ad_CY, ad_CK, ad_C0, ad_0C, ad_C99, ad_99C, ad_NN, ad_NC, ad_NR, ad_NY, ad_NK, ad_N0, ad_0N, ad_N99, ad_99N, ad_N98, ad_98N, ad_RR, ad_RC, ad_RN, ad_RY, ad_RK, ad_R0, ad_0R, ad_R99, ad_99R, ad_R98, ad_98R, ad_YY, ad_YC, ad_YN, ad_YR, ad_YK, ad_Y0, ad_0Y, ad_Y99, ad_99Y, ad_Y98, ad_98Y, ad_KK, ad_KC, ad_KN, ad_KR, ad_KY, ad_K0, ad_0K, ad_K99, ad_99K, ad_K98, ad_98K, w2]
  · intro j hj; simp [saM, ms_r, ml_r, ms_2, ml_1, ad_CC, ad_CN, ad_CR, ad_CY, ad_CK, ad_C0, ad_0C, ad_C99, ad_99C, ad_NN, ad_NC, ad_NR, ad_NY, ad_NK, ad_N0, ad_0N, ad_N99, ad_99N, ad_N98, ad_98N, ad_RR, ad_RC, ad_RN, ad_RY, ad_RK, ad_R0, ad_0R, ad_R99, ad_99R, ad_R98, ad_98R, ad_YY, ad_YC, ad_YN, ad_YR, ad_YK, ad_Y0, ad_0Y, ad_Y99, ad_99Y, ad_Y98, ad_98Y, ad_KK, ad_KC, ad_KN, ad_KR, ad_KY, ad_K0, ad_0K, ad_K99, ad_99K, ad_K98, ad_98K, a98 hk, w3 j hj]
  · intro j hj; simp [saM, ms_r, ml_r, ms_2, ml_1, ad_CC, ad_CN, ad_CR, ad_CY, ad_CK, ad_C0, ad_0C, ad_C99, ad_99C, ad_NN, ad_NC, ad_NR, ad_NY, ad_NK, ad_N0, ad_0N, ad_N99, ad_99N, ad_N98, ad_98N, ad_RR, ad_RC, ad_RN, ad_RY, ad_RK, ad_R0, ad_0R, ad_R99, ad_99R, ad_R98, ad_98R, ad_YY, ad_YC, ad_YN, ad_YR, ad_YK, ad_Y0, ad_0Y, ad_Y99, ad_99Y, ad_Y98, ad_98Y, ad_KK, ad_KC, ad_KN, ad_KR, ad_KY, ad_K0, ad_0K, ad_K99, ad_99K, ad_K98, ad_98K, w4 j hj]
  · obtain ⟨a1, a2, a3, a4, a5, a6, a7, a8, a9, b1, b2, b3, b4, b5, b6⟩ := hc i hi
    by_cases e : i = k
    · subst e
      refine ⟨?_, ?_, ?_, ?_, ?_, ?_, ?_, ?_, ?_, ?_, ?_, ?_, ?_, ?_, ?_⟩ <;> simp [saM, ms_r, ml_r, ms_2, ml_1, ad_CC, ad_CN, ad_CR, ad_CY, ad_CK, ad_C0, ad_0C, ad_C99, ad_99C, ad_NN, ad_NC, ad_NR, ad_NY, ad_NK, ad_N0, ad_0N, ad_N99, ad_99N, ad_N98, ad_98N, ad_RR, ad_RC, ad_RN, ad_RY, ad_RK, ad_R0, ad_0R, ad_R99, ad_99R, ad_R98, ad_98R, ad_YY, ad_YC, ad_YN, ad_YR, ad_YK, ad_Y0, ad_0Y, ad_Y99, ad_99Y, ad_Y98, ad_98Y, ad_KK, ad_KC, ad_KN, ad_KR, ad_KY, ad_K0, ad_0K, ad_K99, ad_99K, ad_K98, ad_98K, *]
      all_goals (first | assumption | (intros; simp_all))
    · refine ⟨?_, ?_, ?_, ?_, ?_, ?_, ?_, ?_, ?_, ?_, ?_, ?_, ?_, ?_, ?_⟩ <;> simp [saM, ms_r, ml_r, ms_2, ml_1, ad_CC, ad_CN, ad_CR, ad_CY, ad_CK, ad_C0, ad_0C, ad_C99, ad_99C, ad_NN, ad_NC, ad_NR, ad_NY, ad_NK, ad_N0, ad_0N, ad_N99, ad_99N, ad_N98, ad_98N, ad_RR, ad_RC, ad_RN, ad_RY, ad_RK, ad_R0, ad_0R, ad_R99, ad_99R, ad_R98, ad_98R, ad_YY, ad_YC, ad_YN, ad_YR, ad_YK, ad_Y0, ad_0Y, ad_Y99, ad_99Y, ad_Y98, ad_98Y, ad_KK, ad_KC, ad_KN, ad_KR, ad_KY, ad_K0, ad_0K, ad_K99, ad_99K, ad_K98, ad_98K, *]
      all_goals (first | assumption | (intros; simp_all))
  · by_cases e : i = k
    · subst e; simp [ms_r, ml_r, ms_2, ml_1, ad_CC, ad_CN, ad_CR, ad_CY, ad_CK, ad_C0, ad_0C, ad_C99, ad_99C, ad_NN, ad_NC, ad_NR, ad_NY, ad_NK, ad_N0, ad_0N, ad_N99, ad_99N, ad_N98, ad_98N, ad_RR, ad_RC, ad_RN, ad_RY, ad_RK, ad_R0, ad_0R, ad_R99, ad_99R, ad_R98, ad_98R, ad_YY, ad_YC, ad_YN, ad_YR, ad_YK, ad_Y0, ad_0Y, ad_Y99, ad_99Y, ad_Y98, ad_98Y, ad_KK, ad_KC, ad_KN, ad_KR, ad_KY, ad_K0, ad_0K, ad_K99, ad_99K, ad_K98, ad_98K]
    · have := hr i hi
      simpa [saM, RR, ms_r, ml_r, ms_2, ml_1, ad_CC, ad_CN, ad_CR, ad_CY, ad_CK, ad_C0, ad_0C, ad_C99, ad_99C, ad_NN, ad_NC, ad_NR, ad_NY, ad_NK, ad_N0, ad_0N, ad_N99, ad_99N, ad_N98, ad_98N, ad_RR, ad_RC, ad_RN, ad_RY, ad_RK, ad_R0, ad_0R, ad_R99, ad_99R, ad_R98, ad_98R, ad_YY, ad_YC, ad_YN, ad_YR, ad_YK, ad_Y0, ad_0Y, ad_Y99, ad_99Y, ad_Y98, ad_98Y, ad_KK, ad_KC, ad_KN, ad_KR, ad_KY, ad_K0, ad_0K, ad_K99, ad_99K, ad_K98, ad_98K, e] using this

theorem REL.mcong {γ μ μ' : nMem} (h : REL γ μ) (e : ∀ b, (105 ≤ b ∧ b ≤ 127) ∨ b = 135 → μ'.1 b = μ.1 b) (e3 : μ'.1 104 3 = μ.1 104 3) (e4 : μ'.1 104 24 = μ.1 104 24) (e9 : μ'.2 119 = μ.2 119) : REL γ μ' := by
  obtain ⟨⟨w1, w2, w3, w4⟩, hc, hr⟩ := h
  have f106 := e 106 (by omega)
  have f107 := e 107 (by omega)
  have f113 := e 113 (by omega)
  have f114 := e 114 (by omega)
  have f115 := e 115 (by omega)
  have f116 := e 116 (by omega)
  have f117 := e 117 (by omega)
  have f118 := e 118 (by omega)
  have f120 := e 120 (by omega)
  have f121 := e 121 (by omega)
  have f122 := e 122 (by omega)
  have f123 := e 123 (by omega)
  have f124 := e 124 (by omega)
  have f125 := e 125 (by omega)
  have f126 := e 126 (by omega)
  have f127 := e 127 (by omega)
  have f135 := e 135 (by omega)
  refine ⟨⟨e3.trans w1, e4.trans w2, by rw [f106]; exact w3, by rw [f127]; exact w4⟩, fun i hi => ?_, fun i hi => ?_⟩
  · obtain ⟨a1, a2, a3, a4, a5, a6, a7, a8, a9, b1, b2, b3, b4, b5, b6⟩ := hc i hi
    refine ⟨by rw [f107]; exact a1, by rw [f113]; exact a2, by rw [f114]; exact a3, by rw [f115]; exact a4, by rw [f116]; exact a5, by rw [f135]; exact a6, by rw [f125]; exact a7, by rw [f126]; exact a8, by rw [f117]; exact a9, by rw [f118]; exact b1, by rw [e9]; exact b2, by rw [f120, f121, f122]; exact b3, b4, b5, b6⟩
  · have := hr i hi
    unfold RR
    rw [f123, f124]
    exact this
theorem REL.ck {γ μ : nMem} {k j : Nat} {x : Int32} (h : REL γ μ) : REL (ms γ (nK k) j x) μ := by
  obtain ⟨⟨w1, w2, w3, w4⟩, hc, hr⟩ := h
  refine ⟨⟨?_, ?_, ?_, ?_⟩, fun i hi => ?_, fun i hi => ?_⟩
  · simp [ms_r, ml_r, ms_2, ml_1, ad_CC, ad_CN, ad_CR, ad_CY, ad_CK, ad_C0, ad_0C, ad_C99, ad_99C, ad_NN, ad_NC, ad_NR, ad_NY, ad_NK, ad_N0, ad_0N, ad_N99, ad_99N, ad_N98, ad_98N, ad_RR, ad_RC, ad_RN, ad_RY, ad_RK, ad_R0, ad_0R, ad_R99, ad_99R, ad_R98, ad_98R, ad_YY, ad_YC, ad_YN, ad_YR, ad_YK, ad_Y0, ad_0Y, ad_Y99, ad_99Y, ad_Y98, ad_98Y, ad_KK, ad_KC, ad_KN, ad_KR, ad_KY, ad_K0, ad_0K, ad_K99, ad_99K, ad_K98, ad_98K, w1]
  · simp [ms_r, ml_r, ms_2, ml_1, ad_CC, ad_CN, ad_CR, ad_CY, ad_CK, ad_C0, ad_0C, ad_C99, ad_99C, ad_NN, ad_NC, ad_NR, ad_NY, ad_NK, ad_N0, ad_0N, ad_N99, ad_99N, ad_N98, ad_98N, ad_RR, ad_RC, ad_RN, ad_RY, ad_RK, ad_R0, ad_0R, ad_R99, ad_99R, ad_R98, ad_98R, ad_YY, ad_YC, ad_YN, ad_YR, ad_YK, ad_Y0, ad_0Y, ad_Y99, ad_99Y, ad_Y98, ad_98Y, ad_KK, ad_KC, ad_KN, ad_KR, ad_KY, ad_K0, ad_0K, ad_K99, ad_99K, ad_K98, ad_98K, w2]
  · intro j hj; simp [ms_r, ml_r, ms_2, ml_1, ad_CC, ad_CN, ad_CR, ad_CY, ad_CK, ad_C0, ad_0C, ad_C99, ad_99C, ad_NN, ad_NC, ad_NR, ad_NY, ad_NK, ad_N0, ad_0N, ad_N99, ad_99N, ad_N98, ad_98N, ad_RR, ad_RC, ad_RN, ad_RY, ad_RK, ad_R0, ad_0R, ad_R99, ad_99R, ad_R98, ad_98R, ad_YY, ad_YC, ad_YN, ad_YR, ad_YK, ad_Y0, ad_0Y, ad_Y99, ad_99Y, ad_Y98, ad_98Y, ad_KK, ad_KC, ad_KN, ad_KR, ad_KY, ad_K0, ad_0K, ad_K99, ad_99K, ad_K98, ad_98K, w3 j hj]
  · intro j hj; simp [ms_r, ml_r, ms_2, ml_1, ad_CC, ad_CN, ad_CR, ad_CY, ad_CK, ad_C0, ad_0C, ad_C99, ad_99C, ad_NN, ad_NC, ad_NR, ad_NY, ad_NK, ad_N0, ad_0N, ad_N99, ad_99N, ad_N98, ad_98N, ad_RR, ad_RC, ad_RN, ad_RY, ad_RK, ad_R0, ad_0R, ad_R99, ad_99R, ad_R98, ad_98R, ad_YY, ad_YC, ad_YN, ad_YR, ad_YK, ad_Y0, ad_0Y, ad_Y99, ad_99Y, ad_Y98, ad_98Y, ad_KK, ad_KC, ad_KN, ad_KR, ad_KY, ad_K0, ad_0K, ad_K99, ad_99K, ad_K98, ad_98K, w4 j hj]
  · have := hc i hi
    obtain ⟨a1, a2, a3, a4, a5, a6, a7, a8, a9, b1, b2, b3, b4, b5, b6⟩ := this
    refine ⟨?_, ?_, ?_, ?_, ?_, ?_, ?_, ?_, ?_, ?_, ?_, ?_, ?_, ?_, ?_⟩ <;> simpa [ms_r, ml_r, ms_2, ml_1, ad_CC, ad_CN, ad_CR, ad_CY, ad_CK, ad_C0, ad_0C, ad_C99, ad_99C, ad_NN, ad_NC, ad_NR, ad_NY, ad_NK, ad_N0, ad_0N, ad_N99, ad_99N, ad_N98, ad_98N, ad_RR, ad_RC, ad_RN, ad_RY, ad_RK, ad_R0, ad_0R, ad_R99, ad_99R, ad_R98, ad_98R, ad_YY, ad_YC, ad_YN, ad_YR, ad_YK, ad_Y0, ad_0Y, ad_Y99, ad_99Y, ad_Y98, ad_98Y, ad_KK, ad_KC, ad_KN, ad_KR, ad_KY, ad_K0, ad_0K, ad_K99, ad_99K, ad_K98, ad_98K]
  · have := hr i hi
    simpa [RR, ms_r, ml_r, ms_2, ml_1, ad_CC, ad_CN, ad_CR, ad_CY, ad_CK, ad_C0, ad_0C, ad_C99, ad_99C, ad_NN, ad_NC, ad_NR, ad_NY, ad_NK, ad_N0, ad_0N, ad_N99, ad_99N, ad_N98, ad_98N, ad_RR, ad_RC, ad_RN, ad_RY, ad_RK, ad_R0, ad_0R, ad_R99, ad_99R, ad_R98, ad_98R, ad_YY, ad_YC, ad_YN, ad_YR, ad_YK, ad_Y0, ad_0Y, ad_Y99, ad_99Y, ad_Y98, ad_98Y, ad_KK, ad_KC, ad_KN, ad_KR, ad_KY, ad_K0, ad_0K, ad_K99, ad_99K, ad_K98, ad_98K] using this
theorem REL.cn {γ μ : nMem} {k : Nat} {x : Int32} (h : REL γ μ) (h9 : ¬ γ.1 (nC k) 9 = 0) : REL (ms γ (nN k) 1 x) μ := by
  obtain ⟨⟨w1, w2, w3, w4⟩, hc, hr⟩ := h
  refine ⟨⟨?_, ?_, ?_, ?_⟩, fun i hi => ?_, fun i hi hz => ?_⟩
  · simp [ms_r, ml_r, ms_2, ml_1, ad_CC, ad_CN, ad_CR, ad_CY, ad_CK, ad_C0, ad_0C, ad_C99, ad_99C, ad_NN, ad_NC, ad_NR, ad_NY, ad_NK, ad_N0, ad_0N, ad_N99, ad_99N, ad_N98, ad_98N, ad_RR, ad_RC, ad_RN, ad_RY, ad_RK, ad_R0, ad_0R, ad_R99, ad_99R, ad_R98, ad_98R, ad_YY, ad_YC, ad_YN, ad_YR, ad_YK, ad_Y0, ad_0Y, ad_Y99, ad_99Y, ad_Y98, ad_98Y, ad_KK, ad_KC, ad_KN, ad_KR, ad_KY, ad_K0, ad_0K, ad_K99, ad_99K, ad_K98, ad_98K, w1]
  · simp [ms_r, ml_r, ms_2, ml_1, ad_CC, ad_CN, ad_CR, ad_CY, ad_CK, ad_C0, ad_0C, ad_C99, ad_99C, ad_NN, ad_NC, ad_NR, ad_NY, ad_NK, ad_N0, ad_0N, ad_N99, ad_99N, ad_N98, ad_98N, ad_RR, ad_RC, ad_RN, ad_RY, ad_RK, ad_R0, ad_0R, ad_R99, ad_99R, ad_R98, ad_98R, ad_YY, ad_YC, ad_YN, ad_YR, ad_YK, ad_Y0, ad_0Y, ad_Y99, ad_99Y, ad_Y98, ad_98Y, ad_KK, ad_KC, ad_KN, ad_KR, ad_KY, ad_K0, ad_0K, ad_K99, ad_99K, ad_K98, ad_98K, w2]
  · intro j hj; simp [ms_r, ml_r, ms_2, ml_1, ad_CC, ad_CN, ad_CR, ad_CY, ad_CK, ad_C0, ad_0C, ad_C99, ad_99C, ad_NN, ad_NC, ad_NR, ad_NY, ad_NK, ad_N0, ad_0N, ad_N99, ad_99N, ad_N98, ad_98N, ad_RR, ad_RC, ad_RN, ad_RY, ad_RK, ad_R0, ad_0R, ad_R99, ad_99R, ad_R98, ad_98R, ad_YY, ad_YC, ad_YN, ad_YR, ad_YK, ad_Y0, ad_0Y, ad_Y99, ad_99Y, ad_Y98, ad_98Y, ad_KK, ad_KC, ad_KN, ad_KR, ad_KY, ad_K0, ad_0K, ad_K99, ad_99K, ad_K98, ad_98K, w3 j hj]
  · intro j hj; simp [ms_r, ml_r, ms_2, ml_1, ad_CC, ad_CN, ad_CR, ad_CY, ad_CK, ad_C0, ad_0C, ad_C99, ad_99C, ad_NN, ad_NC, ad_NR, ad_NY, ad_NK, ad_N0, ad_0N, ad_N99, ad_99N, ad_N98, ad_98N, ad_RR, ad_RC, ad_RN, ad_RY, ad_RK, ad_R0, ad_0R, ad_R99, ad_99R, ad_R98, ad_98R, ad_YY, ad_YC, ad_YN, ad_YR, ad_YK, ad_Y0, ad_0Y, ad_Y99, ad_99Y, ad_Y98, ad_98Y, ad_KK, ad_KC, ad_KN, ad_KR, ad_KY, ad_K0, ad_0K, ad_K99, ad_99K, ad_K98, ad_98K, w4 j hj]
  · obtain ⟨a1, a2, a3, a4, a5, a6, a7, a8, a9, b1, b2, b3, b4, b5, b6⟩ := hc i hi
    by_cases e : i = k
    · subst e
      refine ⟨?_, ?_, ?_, ?_, ?_, ?_, ?_, ?_, ?_, ?_, ?_, ?_, ?_, ?_, ?_⟩ <;> simp [ms_r, ml_r, ms_2, ml_1, ad_CC, ad_CN, ad_CR, ad_CY, ad_CK, ad_C0, ad_0C, ad_C99, ad_99C, ad_NN, ad_NC, ad_NR, ad_NY, ad_NK, ad_N0, ad_0N, ad_N99, ad_99N, ad_N98, ad_98N, ad_RR, ad_RC, ad_RN, ad_RY, ad_RK, ad_R0, ad_0R, ad_R99, ad_99R, ad_R98, ad_98R, ad_YY, ad_YC, ad_YN, ad_YR, ad_YK, ad_Y0, ad_0Y, ad_Y99, ad_99Y, ad_Y98, ad_98Y, ad_KK, ad_KC, ad_KN, ad_KR, ad_KY, ad_K0, ad_0K, ad_K99, ad_99K, ad_K98, ad_98K]
      all_goals (first | assumption | skip)
      exact fun _ z => absurd z h9
    · refine ⟨?_, ?_, ?_, ?_, ?_, ?_, ?_, ?_, ?_, ?_, ?_, ?_, ?_, ?_, ?_⟩ <;> simp [ms_r, ml_r, ms_2, ml_1, ad_CC, ad_CN, ad_CR, ad_CY, ad_CK, ad_C0, ad_0C, ad_C99, ad_99C, ad_NN, ad_NC, ad_NR, ad_NY, ad_NK, ad_N0, ad_0N, ad_N99, ad_99N, ad_N98, ad_98N, ad_RR, ad_RC, ad_RN, ad_RY, ad_RK, ad_R0, ad_0R, ad_R99, ad_99R, ad_R98, ad_98R, ad_YY, ad_YC, ad_YN, ad_YR, ad_YK, ad_Y0, ad_0Y, ad_Y99, ad_99Y, ad_Y98, ad_98Y, ad_KK, ad_KC, ad_KN, ad_KR, ad_KY, ad_K0, ad_0K, ad_K99, ad_99K, ad_K98, ad_98K, e] <;> assumption
  · have e : ¬ i = k := fun e => h9 (by subst e; simpa [ms_r, ml_r, ms_2, ml_1, ad_CC, ad_CN, ad_CR, ad_CY, ad_CK, ad_C0, ad_0C, ad_C99, ad_99C, ad_NN, ad_NC, ad_NR, ad_NY, ad_NK, ad_N0, ad_0N, ad_N99, ad_99N, ad_N98, ad_98N, ad_RR, ad_RC, ad_RN, ad_RY, ad_RK, ad_R0, ad_0R, ad_R99, ad_99R, ad_R98, ad_98R, ad_YY, ad_YC, ad_YN, ad_YR, ad_YK, ad_Y0, ad_0Y, ad_Y99, ad_99Y, ad_Y98, ad_98Y, ad_KK, ad_KC, ad_KN, ad_KR, ad_KY, ad_K0, ad_0K, ad_K99, ad_99K, ad_K98, ad_98K] using hz)
    have := hr i hi (by simpa [ms_r, ml_r, ms_2, ml_1, ad_CC, ad_CN, ad_CR, ad_CY, ad_CK, ad_C0, ad_0C, ad_C99, ad_99C, ad_NN, ad_NC, ad_NR, ad_NY, ad_NK, ad_N0, ad_0N, ad_N99, ad_99N, ad_N98, ad_98N, ad_RR, ad_RC, ad_RN, ad_RY, ad_RK, ad_R0, ad_0R, ad_R99, ad_99R, ad_R98, ad_98R, ad_YY, ad_YC, ad_YN, ad_YR, ad_YK, ad_Y0, ad_0Y, ad_Y99, ad_99Y, ad_Y98, ad_98Y, ad_KK, ad_KC, ad_KN, ad_KR, ad_KY, ad_K0, ad_0K, ad_K99, ad_99K, ad_K98, ad_98K] using hz)
    simpa [RR, ms_r, ml_r, ms_2, ml_1, ad_CC, ad_CN, ad_CR, ad_CY, ad_CK, ad_C0, ad_0C, ad_C99, ad_99C, ad_NN, ad_NC, ad_NR, ad_NY, ad_NK, ad_N0, ad_0N, ad_N99, ad_99N, ad_N98, ad_98N, ad_RR, ad_RC, ad_RN, ad_RY, ad_RK, ad_R0, ad_0R, ad_R99, ad_99R, ad_R98, ad_98R, ad_YY, ad_YC, ad_YN, ad_YR, ad_YK, ad_Y0, ad_0Y, ad_Y99, ad_99Y, ad_Y98, ad_98Y, ad_KK, ad_KC, ad_KN, ad_KR, ad_KY, ad_K0, ad_0K, ad_K99, ad_99K, ad_K98, ad_98K, e] using this
theorem REL.cr {γ μ : nMem} {k j : Nat} {x : Int32} (h : REL γ μ) (h9 : ¬ γ.1 (nC k) 9 = 0) : REL (ms γ (nR k) j x) μ := by
  obtain ⟨⟨w1, w2, w3, w4⟩, hc, hr⟩ := h
  refine ⟨⟨?_, ?_, ?_, ?_⟩, fun i hi => ?_, fun i hi hz => ?_⟩
  · simp [ms_r, ml_r, ms_2, ml_1, ad_CC, ad_CN, ad_CR, ad_CY, ad_CK, ad_C0, ad_0C, ad_C99, ad_99C, ad_NN, ad_NC, ad_NR, ad_NY, ad_NK, ad_N0, ad_0N, ad_N99, ad_99N, ad_N98, ad_98N, ad_RR, ad_RC, ad_RN, ad_RY, ad_RK, ad_R0, ad_0R, ad_R99, ad_99R, ad_R98, ad_98R, ad_YY, ad_YC, ad_YN, ad_YR, ad_YK, ad_Y0, ad_0Y, ad_Y99, ad_99Y, ad_Y98, ad_98Y, ad_KK, ad_KC, ad_KN, ad_KR, ad_KY, ad_K0, ad_0K, ad_K99, ad_99K, ad_K98, ad_98K, w1]
  · simp [ms_r, ml_r, ms_2, ml_1, ad_CC, ad_CN, ad_CR, ad_CY, ad_CK, ad_C0, ad_0C, ad_C99, ad_99C, ad_NN, ad_NC, ad_NR, ad_NY, ad_NK, ad_N0, ad_0N, ad_N99, ad_99N, ad_N98, ad_98N, ad_RR, ad_RC, ad_RN, ad_RY, ad_RK, ad_R0, ad_0R, ad_R99, ad_99R, ad_R98, ad_98R, ad_YY, ad_YC, ad_YN, ad_YR, ad_YK, ad_Y0, ad_0Y, ad_Y99, ad_99Y, ad_Y98, ad_98Y, ad_KK, ad_KC, ad_KN, ad_KR, ad_KY, ad_K0, ad_0K, ad_K99, ad_99K, ad_K98, ad_98K, w2]
  · intro j hj; simp [ms_r, ml_r, ms_2, ml_1, ad_CC, ad_CN, ad_CR, ad_CY, ad_CK, ad_C0, ad_0C, ad_C99, ad_99C, ad_NN, ad_NC, ad_NR, ad_NY, ad_NK, ad_N0, ad_0N, ad_N99, ad_99N, ad_N98, ad_98N, ad_RR, ad_RC, ad_RN, ad_RY, ad_RK, ad_R0, ad_0R, ad_R99, ad_99R, ad_R98, ad_98R, ad_YY, ad_YC, ad_YN, ad_YR, ad_YK, ad_Y0, ad_0Y, ad_Y99, ad_99Y, ad_Y98, ad_98Y, ad_KK, ad_KC, ad_KN, ad_KR, ad_KY, ad_K0, ad_0K, ad_K99, ad_99K, ad_K98, ad_98K, w3 j hj]
  · intro j hj; simp [ms_r, ml_r, ms_2, ml_1, ad_CC, ad_CN, ad_CR, ad_CY, ad_CK, ad_C0, ad_0C, ad_C99, ad_99C, ad_NN, ad_NC, ad_NR, ad_NY, ad_NK, ad_N0, ad_0N, ad_N99, ad_99N, ad_N98, ad_98N, ad_RR, ad_RC, ad_RN, ad_RY, ad_RK, ad_R0, ad_0R, ad_R99, ad_99R, ad_R98, ad_98R, ad_YY, ad_YC, ad_YN, ad_YR, ad_YK, ad_Y0, ad_0Y, ad_Y99, ad_99Y, ad_Y98, ad_98Y, ad_KK, ad_KC, ad_KN, ad_KR, ad_KY, ad_K0, ad_0K, ad_K99, ad_99K, ad_K98, ad_98K, w4 j hj]
  · obtain ⟨a1, a2, a3, a4, a5, a6, a7, a8, a9, b1, b2, b3, b4, b5, b6⟩ := hc i hi
    refine ⟨?_, ?_, ?_, ?_, ?_, ?_, ?_, ?_, ?_, ?_, ?_, ?_, ?_, ?_, ?_⟩ <;> simpa [ms_r, ml_r, ms_2, ml_1, ad_CC, ad_CN, ad_CR, ad_CY, ad_CK, ad_C0, ad_0C, ad_C99, ad_99C, ad_NN, ad_NC, ad_NR, ad_NY, ad_NK, ad_N0, ad_0N, ad_N99, ad_99N, ad_N98, ad_98N, ad_RR, ad_RC, ad_RN, ad_RY, ad_RK, ad_R0, ad_0R, ad_R99, ad_99R, ad_R98, ad_98R, ad_YY, ad_YC, ad_YN, ad_YR, ad_YK, ad_Y0, ad_0Y, ad_Y99, ad_99Y, ad_Y98, ad_98Y, ad_KK, ad_KC, ad_KN, ad_KR, ad_KY, ad_K0, ad_0K, ad_K99, ad_99K, ad_K98, ad_98K]
  · have e : ¬ i = k := fun e => h9 (by subst e; simpa [ms_r, ml_r, ms_2, ml_1, ad_CC, ad_CN, ad_CR, ad_CY, ad_CK, ad_C0, ad_0C, ad_C99, ad_99C, ad_NN, ad_NC, ad_NR, ad_NY, ad_NK, ad_N0, ad_0N, ad_N99, ad_99N, ad_N98, ad_98N, ad_RR, ad_RC, ad_RN, ad_RY, ad_RK, ad_R0, ad_0R, ad_R99, ad_99R, ad_R98, ad_98R, ad_YY, ad_YC, ad_YN, ad_YR, ad_YK, ad_Y0, ad_0Y, ad_Y99, ad_99Y, ad_Y98, ad_98Y, ad_KK, ad_KC, ad_KN, ad_KR, ad_KY, ad_K0, ad_0K, ad_K99, ad_99K, ad_K98, ad_98K] using hz)
    have := hr i hi (by simpa [ms_r, ml_r, ms_2, ml_1, ad_CC, ad_CN, ad_CR, ad_CY, ad_CK, ad_C0, ad_0C, ad_C99, ad_99C, ad_NN, ad_NC, ad_NR, ad_NY, ad_NK, ad_N0, ad_0N, ad_N99, ad_99N, ad_N98, ad_98N, ad_RR, ad_RC, ad_RN, ad_RY, ad_RK, ad_R0, ad_0R, ad_R99, ad_99R, ad_R98, ad_98R, ad_YY, ad_YC, ad_YN, ad_YR, ad_YK, ad_Y0, ad_0Y, ad_Y99, ad_99Y, ad_Y98, ad_98Y, ad_KK, ad_KC, ad_KN, ad_KR, ad_KY, ad_K0, ad_0K, ad_K99, ad_99K, ad_K98, ad_98K] using hz)
    simpa [RR, ms_r, ml_r, ms_2, ml_1, ad_CC, ad_CN, ad_CR, ad_CY, ad_CK, ad_C0, ad_0C, ad_C99, ad_99C, ad_NN, ad_NC, ad_NR, ad_NY, ad_NK, ad_N0, ad_0N, ad_N99, ad_99N, ad_N98, ad_98N, ad_RR, ad_RC, ad_RN, ad_RY, ad_RK, ad_R0, ad_0R, ad_R99, ad_99R, ad_R98, ad_98R, ad_YY, ad_YC, ad_YN, ad_YR, ad_YK, ad_Y0, ad_0Y, ad_Y99, ad_99Y, ad_Y98, ad_98Y, ad_KK, ad_KC, ad_KN, ad_KR, ad_KY, ad_K0, ad_0K, ad_K99, ad_99K, ad_K98, ad_98K, e] using this
theorem REL.use {γ μ : nMem} {k : Nat} (h : REL γ μ) (hk : k < 12) : REL (mU γ k) (usM μ k) := by
  obtain ⟨⟨w1, w2, w3, w4⟩, hc, hr⟩ := h
  refine ⟨⟨?_, ?_, ?_, ?_⟩, fun i hi => ?_, fun i hi hz => ?_⟩
  · simp [mU, usM, ms_r, ml_r, ms_2, ml_1, ad_CC, ad_CN, ad_CR, ad_CY, ad_CK, ad_C0, ad_0C, ad_C99, ad_99C, ad_NN, ad_NC, ad_NR, ad_NY, ad_NK, ad_N0, ad_0N, ad_N99, ad_99N, ad_N98, ad_98N, ad_RR, ad_RC, ad_RN, ad_RY, ad_RK, ad_R0, ad_0R, ad_R99, ad_99R, ad_R98, ad_98R, ad_YY, ad_YC, ad_YN, ad_YR, ad_YK, ad_Y0, ad_0Y, ad_Y99, ad_99Y, ad_Y98, ad_98Y, ad_KK, ad_KC, ad_KN, ad_KR, ad_KY, ad_K0, ad_0K, ad_K99, ad_99K, ad_K98, ad_98K, w1]
  · simp [mU, usM, ms_r, ml_r, ms_2, ml_1, ad_CC, ad_CN, ad_CR, ad_CY, ad_CK, ad_C0, ad_0C, ad_C99, ad_99C, ad_NN, ad_NC, ad_NR, ad_NY, ad_NK, ad_N0, ad_0N, ad_N99, ad_99N, ad_N98, ad_98N, ad_RR, ad_RC, ad_RN, ad_RY, ad_RK, ad_R0, ad_0R, ad_R99, ad_99R, ad_R98, ad_98R, ad_YY, ad_YC, ad_YN, ad_YR, ad_YK, ad_Y0, ad_0Y, ad_Y99, ad_99Y, ad_Y98, ad_98Y, ad_KK, ad_KC, ad_KN, ad_KR, ad_KY, ad_K0, ad_0K, ad_K99, ad_99K, ad_K98, ad_98K, w2]
  · intro j hj; simp [mU, usM, ms_r, ml_r, ms_2, ml_1, ad_CC, ad_CN, ad_CR, ad_CY, ad_CK, ad_C0, ad_0C, ad_C99, ad_99C, ad_NN, ad_NC, ad_NR, ad_NY, ad_NK, ad_N0, ad_0N, ad_N99, ad_99N, ad_N98, ad_98N, ad_RR, ad_RC, ad_RN, ad_RY, ad_RK, ad_R0, ad_0R, ad_R99, ad_99R, ad_R98, ad_98R, ad_YY, ad_YC, ad_YN, ad_YR, ad_YK, ad_Y0, ad_0Y, ad_Y99, ad_99Y, ad_Y98, ad_98Y, ad_KK, ad_KC, ad_KN, ad_KR, ad_KY, ad_K0, ad_0K, ad_K99, ad_99K, ad_K98, ad_98K, a98 hk, w3 j hj]
  · intro j hj; simp [mU, usM, ms_r, ml_r, ms_2, ml_1, ad_CC, ad_CN, ad_CR, ad_CY, ad_CK, ad_C0, ad_0C, ad_C99, ad_99C, ad_NN, ad_NC, ad_NR, ad_NY, ad_NK, ad_N0, ad_0N, ad_N99, ad_99N, ad_N98, ad_98N, ad_RR, ad_RC, ad_RN, ad_RY, ad_RK, ad_R0, ad_0R, ad_R99, ad_99R, ad_R98, ad_98R, ad_YY, ad_YC, ad_YN, ad_YR, ad_YK, ad_Y0, ad_0Y, ad_Y99, ad_99Y, ad_Y98, ad_98Y, ad_KK, ad_KC, ad_KN, ad_KR, ad_KY, ad_K0, ad_0K, ad_K99, ad_99K, ad_K98, ad_98K, w4 j hj]
  · obtain ⟨a1, a2, a3, a4, a5, a6, a7, a8, a9, b1, b2, b3, b4, b5, b6⟩ := hc i hi
    by_cases e : i = k
    · subst e
      refine ⟨?_, ?_, ?_, ?_, ?_, ?_, ?_, ?_, ?_, ?_, ?_, ?_, ?_, ?_, ?_⟩ <;> simp [mU, usM, ms_r, ml_r, ms_2, ml_1, ad_CC, ad_CN, ad_CR, ad_CY, ad_CK, ad_C0, ad_0C, ad_C99, ad_99C, ad_NN, ad_NC, ad_NR, ad_NY, ad_NK, ad_N0, ad_0N, ad_N99, ad_99N, ad_N98, ad_98N, ad_RR, ad_RC, ad_RN, ad_RY, ad_RK, ad_R0, ad_0R, ad_R99, ad_99R, ad_R98, ad_98R, ad_YY, ad_YC, ad_YN, ad_YR, ad_YK, ad_Y0, ad_0Y, ad_Y99, ad_99Y, ad_Y98, ad_98Y, ad_KK, ad_KC, ad_KN, ad_KR, ad_KY, ad_K0, ad_0K, ad_K99, ad_99K, ad_K98, ad_98K, w2] <;> assumption
    · refine ⟨?_, ?_, ?_, ?_, ?_, ?_, ?_, ?_, ?_, ?_, ?_, ?_, ?_, ?_, ?_⟩ <;> simp [mU, usM, ms_r, ml_r, ms_2, ml_1, ad_CC, ad_CN, ad_CR, ad_CY, ad_CK, ad_C0, ad_0C, ad_C99, ad_99C, ad_NN, ad_NC, ad_NR, ad_NY, ad_NK, ad_N0, ad_0N, ad_N99, ad_99N, ad_N98, ad_98N, ad_RR, ad_RC, ad_RN, ad_RY, ad_RK, ad_R0, ad_0R, ad_R99, ad_99R, ad_R98, ad_98R, ad_YY, ad_YC, ad_YN, ad_YR, ad_YK, ad_Y0, ad_0Y, ad_Y99, ad_99Y, ad_Y98, ad_98Y, ad_KK, ad_KC, ad_KN, ad_KR, ad_KY, ad_K0, ad_0K, ad_K99, ad_99K, ad_K98, ad_98K, e] <;> assumption
  · have := hr i hi (by simpa [mU, ms_r, ml_r, ms_2, ml_1, ad_CC, ad_CN, ad_CR, ad_CY, ad_CK, ad_C0, ad_0C, ad_C99, ad_99C, ad_NN, ad_NC, ad_NR, ad_NY, ad_NK, ad_N0, ad_0N, ad_N99, ad_99N, ad_N98, ad_98N, ad_RR, ad_RC, ad_RN, ad_RY, ad_RK, ad_R0, ad_0R, ad_R99, ad_99R, ad_R98, ad_98R, ad_YY, ad_YC, ad_YN, ad_YR, ad_YK, ad_Y0, ad_0Y, ad_Y99, ad_99Y, ad_Y98, ad_98Y, ad_KK, ad_KC, ad_KN, ad_KR, ad_KY, ad_K0, ad_0K, ad_K99, ad_99K, ad_K98, ad_98K] using hz)
    simpa [mU, usM, RR, ms_r, ml_r, ms_2, ml_1, ad_CC, ad_CN, ad_CR, ad_CY, ad_CK, ad_C0, ad_0C, ad_C99, ad_99C, ad_NN, ad_NC, ad_NR, ad_NY, ad_NK, ad_N0, ad_0N, ad_N99, ad_99N, ad_N98, ad_98N, ad_RR, ad_RC, ad_RN, ad_RY, ad_RK, ad_R0, ad_0R, ad_R99, ad_99R, ad_R98, ad_98R, ad_YY, ad_YC, ad_YN, ad_YR, ad_YK, ad_Y0, ad_0Y, ad_Y99, ad_99Y, ad_Y98, ad_98Y, ad_KK, ad_KC, ad_KN, ad_KR, ad_KY, ad_K0, ad_0K, ad_K99, ad_99K, ad_K98, ad_98K] using this
