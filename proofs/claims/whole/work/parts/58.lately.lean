/-! the model's ask: its own parts -/
def lzM : Nat → nMem → nMem
  | 0, m => m
  | i + 1, m => ms (lzM i m) 127 i 0
theorem lz3_99 {γ : nMem} {j : Nat} (hj : j < 3) : (lz 3 γ).1 99 j = 0 := by
  show (ms (ms (ms γ 99 0 0) 99 1 0) 99 2 0).1 99 j = 0
  rw [ms_r, ms_r, ms_r]
  split
  · rfl
  · split
    · rfl
    · rw [if_pos (by omega)]
theorem lzM3_127 {μ : nMem} {j : Nat} (hj : j < 3) : (lzM 3 μ).1 127 j = 0 := by
  show (ms (ms (ms μ 127 0 0) 127 1 0) 127 2 0).1 127 j = 0
  rw [ms_r, ms_r, ms_r]
  split
  · rfl
  · split
    · rfl
    · rw [if_pos (by omega)]
theorem lzM_o {i : Nat} {m : nMem} {b : Nat} (h : ¬ b = 127) : (lzM i m).1 b = m.1 b := by
  induction i with
  | zero => rfl
  | succ i ih => rw [lzM, ms_o h, ih]
theorem lzM_2 {i : Nat} {m : nMem} : (lzM i m).2 = m.2 := by
  induction i with
  | zero => rfl
  | succ i ih => rw [lzM, ms_2, ih]
theorem lz_2 {i : Nat} {m : nMem} : (lz i m).2 = m.2 := by
  induction i with
  | zero => rfl
  | succ i ih => rw [lz, ms_2, ih]
theorem lzM_X {f k i : Nat} {m : nMem} : LX f k m (lzM i m) := by
  induction i with
  | zero => exact LX.rfl
  | succ i ih => exact ih.trans (LX.st (by omega))
theorem REL.lzz {γ μ : nMem} (h : REL γ μ) : REL (lz 3 γ) (lzM 3 μ) := by
  obtain ⟨⟨w1, w2, w3, w4⟩, hc, hr⟩ := h
  have gC : ∀ i, (lz 3 γ).1 (nC i) = γ.1 (nC i) := fun i => lz_o (by unfold nC; omega)
  have gN : ∀ i, (lz 3 γ).1 (nN i) = γ.1 (nN i) := fun i => lz_o (by unfold nN; omega)
  have gR : ∀ i, (lz 3 γ).1 (nR i) = γ.1 (nR i) := fun i => lz_o (by unfold nR; omega)
  have gY : ∀ i, (lz 3 γ).1 (nY i) = γ.1 (nY i) := fun i => lz_o (by unfold nY; omega)
  have m : ∀ b, ¬ b = 127 → (lzM 3 μ).1 b = μ.1 b := fun b hb => lzM_o hb
  refine ⟨⟨?_, ?_, fun j hj => ?_, fun j hj => ?_⟩, fun i hi => ?_, fun i hi hz => ?_⟩
  · rw [m 104 (by decide), lz_o (by decide)]; exact w1
  · rw [m 104 (by decide), lz_o (by decide)]; exact w2
  · rw [m 106 (by decide), lz_o (by decide)]; exact w3 j hj
  · rw [lz3_99 hj, lzM3_127 hj]
  · obtain ⟨a1, a2, a3, a4, a5, a6, a7, a8, a9, b1, b2, b3, b4, b5, b6⟩ := hc i hi
    rw [RC, gC, gN, gY, lz_2, lzM_2, m 107 (by decide), m 113 (by decide), m 114 (by decide), m 115 (by decide), m 116 (by decide), m 117 (by decide), m 118 (by decide), m 120 (by decide), m 121 (by decide), m 122 (by decide), m 125 (by decide), m 126 (by decide), m 135 (by decide)]
    exact ⟨a1, a2, a3, a4, a5, a6, a7, a8, a9, b1, b2, b3, b4, b5, b6⟩
  · rw [gC] at hz
    have := hr i hi hz
    unfold RR at this ⊢
    rw [gN, gR, m 123 (by decide), m 124 (by decide)]
    exact this
theorem REL.drop {γ μ : nMem} {o : Nat} (h : REL γ μ) : REL (ms γ (nN o) 3 0) (ms μ 118 o 0) := by
  obtain ⟨⟨w1, w2, w3, w4⟩, hc, hr⟩ := h
  refine ⟨⟨?_, ?_, ?_, ?_⟩, fun i hi => ?_, fun i hi hz => ?_⟩
  · simp [ms_r, ml_r, ms_2, ml_1, ad_CC, ad_CN, ad_CR, ad_CY, ad_CK, ad_C0, ad_0C, ad_C99, ad_99C, ad_NN, ad_NC, ad_NR, ad_NY, ad_NK, ad_N0, ad_0N, ad_N99, ad_99N, ad_N98, ad_98N, ad_RR, ad_RC, ad_RN, ad_RY, ad_RK, ad_R0, ad_0R, ad_R99, ad_99R, ad_R98, ad_98R, ad_YY, ad_YC, ad_YN, ad_YR, ad_YK, ad_Y0, ad_0Y, ad_Y99, ad_99Y, ad_Y98, ad_98Y, ad_KK, ad_KC, ad_KN, ad_KR, ad_KY, ad_K0, ad_0K, ad_K99, ad_99K, ad_K98, ad_98K, w1]
  · simp [ms_r, ml_r, ms_2, ml_1, ad_CC, ad_CN, ad_CR, ad_CY, ad_CK, ad_C0, ad_0C, ad_C99, ad_99C, ad_NN, ad_NC, ad_NR, ad_NY, ad_NK, ad_N0, ad_0N, ad_N99, ad_99N, ad_N98, ad_98N, ad_RR, ad_RC, ad_RN, ad_RY, ad_RK, ad_R0, ad_0R, ad_R99, ad_99R, ad_R98, ad_98R, ad_YY, ad_YC, ad_YN, ad_YR, ad_YK, ad_Y0, ad_0Y, ad_Y99, ad_99Y, ad_Y98, ad_98Y, ad_KK, ad_KC, ad_KN, ad_KR, ad_KY, ad_K0, ad_0K, ad_K99, ad_99K, ad_K98, ad_98K, w2]
  · intro j hj; simp [ms_r, ml_r, ms_2, ml_1, ad_CC, ad_CN, ad_CR, ad_CY, ad_CK, ad_C0, ad_0C, ad_C99, ad_99C, ad_NN, ad_NC, ad_NR, ad_NY, ad_NK, ad_N0, ad_0N, ad_N99, ad_99N, ad_N98, ad_98N, ad_RR, ad_RC, ad_RN, ad_RY, ad_RK, ad_R0, ad_0R, ad_R99, ad_99R, ad_R98, ad_98R, ad_YY, ad_YC, ad_YN, ad_YR, ad_YK, ad_Y0, ad_0Y, ad_Y99, ad_99Y, ad_Y98, ad_98Y, ad_KK, ad_KC, ad_KN, ad_KR, ad_KY, ad_K0, ad_0K, ad_K99, ad_99K, ad_K98, ad_98K, w3 j hj]
  · intro j hj; simp [ms_r, ml_r, ms_2, ml_1, ad_CC, ad_CN, ad_CR, ad_CY, ad_CK, ad_C0, ad_0C, ad_C99, ad_99C, ad_NN, ad_NC, ad_NR, ad_NY, ad_NK, ad_N0, ad_0N, ad_N99, ad_99N, ad_N98, ad_98N, ad_RR, ad_RC, ad_RN, ad_RY, ad_RK, ad_R0, ad_0R, ad_R99, ad_99R, ad_R98, ad_98R, ad_YY, ad_YC, ad_YN, ad_YR, ad_YK, ad_Y0, ad_0Y, ad_Y99, ad_99Y, ad_Y98, ad_98Y, ad_KK, ad_KC, ad_KN, ad_KR, ad_KY, ad_K0, ad_0K, ad_K99, ad_99K, ad_K98, ad_98K, w4 j hj]
  · obtain ⟨a1, a2, a3, a4, a5, a6, a7, a8, a9, b1, b2, b3, b4, b5, b6⟩ := hc i hi
    by_cases e : i = o
    · subst e
      refine ⟨?_, ?_, ?_, ?_, ?_, ?_, ?_, ?_, ?_, ?_, ?_, ?_, ?_, ?_, ?_⟩ <;> simp [ms_r, ml_r, ms_2, ml_1, ad_CC, ad_CN, ad_CR, ad_CY, ad_CK, ad_C0, ad_0C, ad_C99, ad_99C, ad_NN, ad_NC, ad_NR, ad_NY, ad_NK, ad_N0, ad_0N, ad_N99, ad_99N, ad_N98, ad_98N, ad_RR, ad_RC, ad_RN, ad_RY, ad_RK, ad_R0, ad_0R, ad_R99, ad_99R, ad_R98, ad_98R, ad_YY, ad_YC, ad_YN, ad_YR, ad_YK, ad_Y0, ad_0Y, ad_Y99, ad_99Y, ad_Y98, ad_98Y, ad_KK, ad_KC, ad_KN, ad_KR, ad_KY, ad_K0, ad_0K, ad_K99, ad_99K, ad_K98, ad_98K]
      all_goals (first | assumption | skip)
      · intro z y; have := b4 z y; exact ⟨this.1, this.2.2⟩
      · exact b5.2.1
      · intro z; exact (b6 z).1
    · refine ⟨?_, ?_, ?_, ?_, ?_, ?_, ?_, ?_, ?_, ?_, ?_, ?_, ?_, ?_, ?_⟩ <;> simp [ms_r, ml_r, ms_2, ml_1, ad_CC, ad_CN, ad_CR, ad_CY, ad_CK, ad_C0, ad_0C, ad_C99, ad_99C, ad_NN, ad_NC, ad_NR, ad_NY, ad_NK, ad_N0, ad_0N, ad_N99, ad_99N, ad_N98, ad_98N, ad_RR, ad_RC, ad_RN, ad_RY, ad_RK, ad_R0, ad_0R, ad_R99, ad_99R, ad_R98, ad_98R, ad_YY, ad_YC, ad_YN, ad_YR, ad_YK, ad_Y0, ad_0Y, ad_Y99, ad_99Y, ad_Y98, ad_98Y, ad_KK, ad_KC, ad_KN, ad_KR, ad_KY, ad_K0, ad_0K, ad_K99, ad_99K, ad_K98, ad_98K, e] <;> assumption
  · have := hr i hi (by simpa [ms_r, ml_r, ms_2, ml_1, ad_CC, ad_CN, ad_CR, ad_CY, ad_CK, ad_C0, ad_0C, ad_C99, ad_99C, ad_NN, ad_NC, ad_NR, ad_NY, ad_NK, ad_N0, ad_0N, ad_N99, ad_99N, ad_N98, ad_98N, ad_RR, ad_RC, ad_RN, ad_RY, ad_RK, ad_R0, ad_0R, ad_R99, ad_99R, ad_R98, ad_98R, ad_YY, ad_YC, ad_YN, ad_YR, ad_YK, ad_Y0, ad_0Y, ad_Y99, ad_99Y, ad_Y98, ad_98Y, ad_KK, ad_KC, ad_KN, ad_KR, ad_KY, ad_K0, ad_0K, ad_K99, ad_99K, ad_K98, ad_98K] using hz)
    simpa [RR, ms_r, ml_r, ms_2, ml_1, ad_CC, ad_CN, ad_CR, ad_CY, ad_CK, ad_C0, ad_0C, ad_C99, ad_99C, ad_NN, ad_NC, ad_NR, ad_NY, ad_NK, ad_N0, ad_0N, ad_N99, ad_99N, ad_N98, ad_98N, ad_RR, ad_RC, ad_RN, ad_RY, ad_RK, ad_R0, ad_0R, ad_R99, ad_99R, ad_R98, ad_98R, ad_YY, ad_YC, ad_YN, ad_YR, ad_YK, ad_Y0, ad_0Y, ad_Y99, ad_99Y, ad_Y98, ad_98Y, ad_KK, ad_KC, ad_KN, ad_KR, ad_KY, ad_K0, ad_0K, ad_K99, ad_99K, ad_K98, ad_98K] using this
/-- the one dropped next, as the model counts -/
def odI : Option Nat → Int32
  | none => -1
  | some o => nI o
theorem vcn_eq {γ μ : nMem} (h : REL γ μ) : ∀ i, i ≤ 12 → vcm μ i = vcn γ i := by
  intro i
  induction i with
  | zero => intro _; rfl
  | succ i ih =>
    intro hi
    rw [vcm, vcn, ih (by omega), (h.c i (by omega)).va]
theorem od_none {γ : nMem} : ∀ i, od γ i = none → vcn γ i = 0 := by
  intro i
  induction i with
  | zero => intro _; rfl
  | succ i ih =>
    intro h
    rw [od] at h
    rw [vcn]
    by_cases h3 : γ.1 (nN i) 3 = 0
    · rw [if_pos h3] at h ⊢; rw [ih h]
    · rw [if_neg h3] at h
      rcases e : od γ i with _ | o
      · rw [e] at h; cases h
      · rw [e] at h
        dsimp only at h
        split at h <;> cases h
theorem od_val {γ : nMem} : ∀ i o, od γ i = some o → o < i ∧ ¬ γ.1 (nN o) 3 = 0 := by
  intro i
  induction i with
  | zero => intro o h; cases h
  | succ i ih =>
    intro o h
    rw [od] at h
    by_cases h3 : γ.1 (nN i) 3 = 0
    · rw [if_pos h3] at h; have := ih o h; exact ⟨by omega, this.2⟩
    · rw [if_neg h3] at h
      rcases e : od γ i with _ | o'
      · rw [e] at h; cases h; exact ⟨by omega, h3⟩
      · rw [e] at h
        dsimp only at h
        have := ih o' e
        split at h
        · cases h; exact ⟨by omega, this.2⟩
        · cases h; exact ⟨by omega, h3⟩
theorem vcn_drop {γ : nMem} {o : Nat} (h3 : ¬ γ.1 (nN o) 3 = 0) : ∀ i, vcn (ms γ (nN o) 3 0) i + (if o < i then 1 else 0) = vcn γ i := by
  intro i
  induction i with
  | zero => rfl
  | succ i ih =>
    rw [vcn, vcn]
    by_cases e : i = o
    · subst e
      rw [if_neg h3]
      have e2 : (ms γ (nN i) 3 0).1 (nN i) 3 = 0 := by simp [ms_r, ml_r, ms_2, ml_1, ad_CC, ad_CN, ad_CR, ad_CY, ad_CK, ad_C0, ad_0C, ad_C99, ad_99C, ad_NN, ad_NC, ad_NR, ad_NY, ad_NK, ad_N0, ad_0N, ad_N99, ad_99N, ad_N98, ad_98N, ad_RR, ad_RC, ad_RN, ad_RY, ad_RK, ad_R0, ad_0R, ad_R99, ad_99R, ad_R98, ad_98R, ad_YY, ad_YC, ad_YN, ad_YR, ad_YK, ad_Y0, ad_0Y, ad_Y99, ad_99Y, ad_Y98, ad_98Y, ad_KK, ad_KC, ad_KN, ad_KR, ad_KY, ad_K0, ad_0K, ad_K99, ad_99K, ad_K98, ad_98K]
      rw [if_pos e2, if_pos (by omega)]
      rw [if_neg (by omega)] at ih
      omega
    · have e2 : (ms γ (nN o) 3 0).1 (nN i) 3 = γ.1 (nN i) 3 := by simp [ms_r, ml_r, ms_2, ml_1, ad_CC, ad_CN, ad_CR, ad_CY, ad_CK, ad_C0, ad_0C, ad_C99, ad_99C, ad_NN, ad_NC, ad_NR, ad_NY, ad_NK, ad_N0, ad_0N, ad_N99, ad_99N, ad_N98, ad_98N, ad_RR, ad_RC, ad_RN, ad_RY, ad_RK, ad_R0, ad_0R, ad_R99, ad_99R, ad_R98, ad_98R, ad_YY, ad_YC, ad_YN, ad_YR, ad_YK, ad_Y0, ad_0Y, ad_Y99, ad_99Y, ad_Y98, ad_98Y, ad_KK, ad_KC, ad_KN, ad_KR, ad_KY, ad_K0, ad_0K, ad_K99, ad_99K, ad_K98, ad_98K, e]
      rw [e2]
      by_cases hlt : o < i
      · rw [if_pos hlt] at ih
        rw [if_pos (show o < i + 1 by omega)]
        omega
      · rw [if_neg hlt] at ih
        rw [if_neg (show ¬ o < i + 1 by omega)]
        omega
