section NN
variable {cd : Nat → pC} {R : nMem → Prop} {d : Nat}
theorem SW_S (hR : MR R) (hB : SB cd R d) (hW : SW cd R d) : SW cd R (d + 1) := by
  intro γ μ k f hwf hms hrl hop hcl hmd hf12 hfd hk h4 hq
  have hwf1 : WF cd (ms γ (nC k) 9 1) := hwf.cong (WE.ms (free_C hk (by decide)))
  have hK := (hwf k hk).2.2 h4
  obtain ⟨⟨ht, t0, t1, t15, tst⟩, hlen, _, _⟩ := hK
  have hL : FL (ms γ (nC k) 9 1) (ms (ms γ (nC k) 9 1) (nN k) 1 0) := FL.ms fl_N
  have h9 : ¬ (ms γ (nC k) 9 1).1 (nC k) 9 = 0 := by simp [ms_r, ml_r, ms_2, ml_1, ad_CC, ad_CN, ad_CR, ad_CY, ad_CK, ad_C0, ad_0C, ad_C99, ad_99C, ad_NN, ad_NC, ad_NR, ad_NY, ad_NK, ad_N0, ad_0N, ad_N99, ad_99N, ad_N98, ad_98N, ad_RR, ad_RC, ad_RN, ad_RY, ad_RK, ad_R0, ad_0R, ad_R99, ad_99R, ad_R98, ad_98R, ad_YY, ad_YC, ad_YN, ad_YR, ad_YK, ad_Y0, ad_0Y, ad_Y99, ad_99Y, ad_Y98, ad_98Y, ad_KK, ad_KC, ad_KN, ad_KR, ad_KY, ad_K0, ad_0K, ad_K99, ad_99K, ad_K98, ad_98K]
  have hX : LX f k μ (ms (ms (ms (ms (ms μ 130 f 0) 131 f 0) 133 f 0) 136 f 0) 129 f 3) := ((((LX.st (by omega)).trans (LX.st (by omega))).trans (LX.st (by omega))).trans (LX.st (by omega))).trans (LX.st (by omega))
  refine hR.init μ f k (by omega) hk hop hcl hmd ?_
  refine evl_S (f := f) hR hB hW hk t1 t15 tst 30 (ms (ms γ (nC k) 9 1) (nN k) 1 0) _ 0 0 ?_ (Nat.zero_le _) (by omega) t0.symm (fun μ' p1 p2 p3 => ?_)
  · refine ⟨hwf1.n0 hk, hms.keep hX, ?_, ?_, ⟨?_, ?_, ?_, ?_, fun i hi => by omega, ?_, fun i hi => ?_, ?_⟩, ⟨fun i hi => ?_, fun i hi => ?_, fun i j hij hj => ?_⟩, ?_, ?_, ?_, ?_⟩
    · exact (((((hrl.fs (by omega)).fs (by omega)).fs (by omega)).fs (by omega)).fs (by omega)).cn h9
    · simpa [ms_r, ml_r, ms_2, ml_1, ad_CC, ad_CN, ad_CR, ad_CY, ad_CK, ad_C0, ad_0C, ad_C99, ad_99C, ad_NN, ad_NC, ad_NR, ad_NY, ad_NK, ad_N0, ad_0N, ad_N99, ad_99N, ad_N98, ad_98N, ad_RR, ad_RC, ad_RN, ad_RY, ad_RK, ad_R0, ad_0R, ad_R99, ad_99R, ad_R98, ad_98R, ad_YY, ad_YC, ad_YN, ad_YR, ad_YK, ad_Y0, ad_0Y, ad_Y99, ad_99Y, ad_Y98, ad_98Y, ad_KK, ad_KC, ad_KN, ad_KR, ad_KY, ad_K0, ad_0K, ad_K99, ad_99K, ad_K98, ad_98K] using hop
    · simpa [ms_r, ml_r, ms_2, ml_1, ad_CC, ad_CN, ad_CR, ad_CY, ad_CK, ad_C0, ad_0C, ad_C99, ad_99C, ad_NN, ad_NC, ad_NR, ad_NY, ad_NK, ad_N0, ad_0N, ad_N99, ad_99N, ad_N98, ad_98N, ad_RR, ad_RC, ad_RN, ad_RY, ad_RK, ad_R0, ad_0R, ad_R99, ad_99R, ad_R98, ad_98R, ad_YY, ad_YC, ad_YN, ad_YR, ad_YK, ad_Y0, ad_0Y, ad_Y99, ad_99Y, ad_Y98, ad_98Y, ad_KK, ad_KC, ad_KN, ad_KR, ad_KY, ad_K0, ad_0K, ad_K99, ad_99K, ad_K98, ad_98K] using hcl
    · simp [ms_r, ml_r, ms_2, ml_1, ad_CC, ad_CN, ad_CR, ad_CY, ad_CK, ad_C0, ad_0C, ad_C99, ad_99C, ad_NN, ad_NC, ad_NR, ad_NY, ad_NK, ad_N0, ad_0N, ad_N99, ad_99N, ad_N98, ad_98N, ad_RR, ad_RC, ad_RN, ad_RY, ad_RK, ad_R0, ad_0R, ad_R99, ad_99R, ad_R98, ad_98R, ad_YY, ad_YC, ad_YN, ad_YR, ad_YK, ad_Y0, ad_0Y, ad_Y99, ad_99Y, ad_Y98, ad_98Y, ad_KK, ad_KC, ad_KN, ad_KR, ad_KY, ad_K0, ad_0K, ad_K99, ad_99K, ad_K98, ad_98K]
    · simp [ms_r, ml_r, ms_2, ml_1, ad_CC, ad_CN, ad_CR, ad_CY, ad_CK, ad_C0, ad_0C, ad_C99, ad_99C, ad_NN, ad_NC, ad_NR, ad_NY, ad_NK, ad_N0, ad_0N, ad_N99, ad_99N, ad_N98, ad_98N, ad_RR, ad_RC, ad_RN, ad_RY, ad_RK, ad_R0, ad_0R, ad_R99, ad_99R, ad_R98, ad_98R, ad_YY, ad_YC, ad_YN, ad_YR, ad_YK, ad_Y0, ad_0Y, ad_Y99, ad_99Y, ad_Y98, ad_98Y, ad_KK, ad_KC, ad_KN, ad_KR, ad_KY, ad_K0, ad_0K, ad_K99, ad_99K, ad_K98, ad_98K]; rfl
    · simp [ms_r, ml_r, ms_2, ml_1, ad_CC, ad_CN, ad_CR, ad_CY, ad_CK, ad_C0, ad_0C, ad_C99, ad_99C, ad_NN, ad_NC, ad_NR, ad_NY, ad_NK, ad_N0, ad_0N, ad_N99, ad_99N, ad_N98, ad_98N, ad_RR, ad_RC, ad_RN, ad_RY, ad_RK, ad_R0, ad_0R, ad_R99, ad_99R, ad_R98, ad_98R, ad_YY, ad_YC, ad_YN, ad_YR, ad_YK, ad_Y0, ad_0Y, ad_Y99, ad_99Y, ad_Y98, ad_98Y, ad_KK, ad_KC, ad_KN, ad_KR, ad_KY, ad_K0, ad_0K, ad_K99, ad_99K, ad_K98, ad_98K]; rfl
    · simp [ms_r, ml_r, ms_2, ml_1, ad_CC, ad_CN, ad_CR, ad_CY, ad_CK, ad_C0, ad_0C, ad_C99, ad_99C, ad_NN, ad_NC, ad_NR, ad_NY, ad_NK, ad_N0, ad_0N, ad_N99, ad_99N, ad_N98, ad_98N, ad_RR, ad_RC, ad_RN, ad_RY, ad_RK, ad_R0, ad_0R, ad_R99, ad_99R, ad_R98, ad_98R, ad_YY, ad_YC, ad_YN, ad_YR, ad_YK, ad_Y0, ad_0Y, ad_Y99, ad_99Y, ad_Y98, ad_98Y, ad_KK, ad_KC, ad_KN, ad_KR, ad_KY, ad_K0, ad_0K, ad_K99, ad_99K, ad_K98, ad_98K]
    · exfalso
      have : cN (ms (ms γ (nC k) 9 1) (nN k) 1 0) k = 0 := by unfold cN; simp [ms_r, ml_r, ms_2, ml_1, ad_CC, ad_CN, ad_CR, ad_CY, ad_CK, ad_C0, ad_0C, ad_C99, ad_99C, ad_NN, ad_NC, ad_NR, ad_NY, ad_NK, ad_N0, ad_0N, ad_N99, ad_99N, ad_N98, ad_98N, ad_RR, ad_RC, ad_RN, ad_RY, ad_RK, ad_R0, ad_0R, ad_R99, ad_99R, ad_R98, ad_98R, ad_YY, ad_YC, ad_YN, ad_YR, ad_YK, ad_Y0, ad_0Y, ad_Y99, ad_99Y, ad_Y98, ad_98Y, ad_KK, ad_KC, ad_KN, ad_KR, ad_KY, ad_K0, ad_0K, ad_K99, ad_99K, ad_K98, ad_98K]
      omega
    · simp [ms_r, ml_r, ms_2, ml_1, ad_CC, ad_CN, ad_CR, ad_CY, ad_CK, ad_C0, ad_0C, ad_C99, ad_99C, ad_NN, ad_NC, ad_NR, ad_NY, ad_NK, ad_N0, ad_0N, ad_N99, ad_99N, ad_N98, ad_98N, ad_RR, ad_RC, ad_RN, ad_RY, ad_RK, ad_R0, ad_0R, ad_R99, ad_99R, ad_R98, ad_98R, ad_YY, ad_YC, ad_YN, ad_YR, ad_YK, ad_Y0, ad_0Y, ad_Y99, ad_99Y, ad_Y98, ad_98Y, ad_KK, ad_KC, ad_KN, ad_KR, ad_KY, ad_K0, ad_0K, ad_K99, ad_99K, ad_K98, ad_98K]
    · exfalso
      have : cN (ms (ms γ (nC k) 9 1) (nN k) 1 0) k = 0 := by unfold cN; simp [ms_r, ml_r, ms_2, ml_1, ad_CC, ad_CN, ad_CR, ad_CY, ad_CK, ad_C0, ad_0C, ad_C99, ad_99C, ad_NN, ad_NC, ad_NR, ad_NY, ad_NK, ad_N0, ad_0N, ad_N99, ad_99N, ad_N98, ad_98N, ad_RR, ad_RC, ad_RN, ad_RY, ad_RK, ad_R0, ad_0R, ad_R99, ad_99R, ad_R98, ad_98R, ad_YY, ad_YC, ad_YN, ad_YR, ad_YK, ad_Y0, ad_0Y, ad_Y99, ad_99Y, ad_Y98, ad_98Y, ad_KK, ad_KC, ad_KN, ad_KR, ad_KY, ad_K0, ad_0K, ad_K99, ad_99K, ad_K98, ad_98K]
      omega
    · exfalso
      have : cN (ms (ms γ (nC k) 9 1) (nN k) 1 0) k = 0 := by unfold cN; simp [ms_r, ml_r, ms_2, ml_1, ad_CC, ad_CN, ad_CR, ad_CY, ad_CK, ad_C0, ad_0C, ad_C99, ad_99C, ad_NN, ad_NC, ad_NR, ad_NY, ad_NK, ad_N0, ad_0N, ad_N99, ad_99N, ad_N98, ad_98N, ad_RR, ad_RC, ad_RN, ad_RY, ad_RK, ad_R0, ad_0R, ad_R99, ad_99R, ad_R98, ad_98R, ad_YY, ad_YC, ad_YN, ad_YR, ad_YK, ad_Y0, ad_0Y, ad_Y99, ad_99Y, ad_Y98, ad_98Y, ad_KK, ad_KC, ad_KN, ad_KR, ad_KY, ad_K0, ad_0K, ad_K99, ad_99K, ad_K98, ad_98K]
      omega
    · exfalso
      have : cN (ms (ms γ (nC k) 9 1) (nN k) 1 0) k = 0 := by unfold cN; simp [ms_r, ml_r, ms_2, ml_1, ad_CC, ad_CN, ad_CR, ad_CY, ad_CK, ad_C0, ad_0C, ad_C99, ad_99C, ad_NN, ad_NC, ad_NR, ad_NY, ad_NK, ad_N0, ad_0N, ad_N99, ad_99N, ad_N98, ad_98N, ad_RR, ad_RC, ad_RN, ad_RY, ad_RK, ad_R0, ad_0R, ad_R99, ad_99R, ad_R98, ad_98R, ad_YY, ad_YC, ad_YN, ad_YR, ad_YK, ad_Y0, ad_0Y, ad_Y99, ad_99Y, ad_Y98, ad_98Y, ad_KK, ad_KC, ad_KN, ad_KR, ad_KY, ad_K0, ad_0K, ad_K99, ad_99K, ad_K98, ad_98K]
      omega
    · simpa [ms_r, ml_r, ms_2, ml_1, ad_CC, ad_CN, ad_CR, ad_CY, ad_CK, ad_C0, ad_0C, ad_C99, ad_99C, ad_NN, ad_NC, ad_NR, ad_NY, ad_NK, ad_N0, ad_0N, ad_N99, ad_99N, ad_N98, ad_98N, ad_RR, ad_RC, ad_RN, ad_RY, ad_RK, ad_R0, ad_0R, ad_R99, ad_99R, ad_R98, ad_98R, ad_YY, ad_YC, ad_YN, ad_YR, ad_YK, ad_Y0, ad_0Y, ad_Y99, ad_99Y, ad_Y98, ad_98Y, ad_KK, ad_KC, ad_KN, ad_KR, ad_KY, ad_K0, ad_0K, ad_K99, ad_99K, ad_K98, ad_98K] using h4
    · simp [ms_r, ml_r, ms_2, ml_1, ad_CC, ad_CN, ad_CR, ad_CY, ad_CK, ad_C0, ad_0C, ad_C99, ad_99C, ad_NN, ad_NC, ad_NR, ad_NY, ad_NK, ad_N0, ad_0N, ad_N99, ad_99N, ad_N98, ad_98N, ad_RR, ad_RC, ad_RN, ad_RY, ad_RK, ad_R0, ad_0R, ad_R99, ad_99R, ad_R98, ad_98R, ad_YY, ad_YC, ad_YN, ad_YR, ad_YK, ad_Y0, ad_0Y, ad_Y99, ad_99Y, ad_Y98, ad_98Y, ad_KK, ad_KC, ad_KN, ad_KR, ad_KY, ad_K0, ad_0K, ad_K99, ad_99K, ad_K98, ad_98K]
    · rw [fw_FL hL 12 (Nat.le_refl _)]; exact hf12
    · rw [fw_FL hL 12 (Nat.le_refl _)]; omega
  · have e : bw cd (d + 1) = (bF cd (bw cd d).1 (bw cd d).2, wF cd (bw cd d).1 (bw cd d).2) := rfl
    rw [e] at hq
    dsimp only at hq
    unfold wF at hq
    rcases e2 : evl (fun m s => gF (bw cd d).1 (bw cd d).2 m k s) (cd k) k 30 (ms (ms γ (nC k) 9 1) (nN k) 1 0) 0 0 with ⟨v, u⟩
    rw [e2] at hq p1
    exact hq μ' p1 p2 (hX.trans p3)
/-- looking through the reads -/
abbrev TV (cd : Nat → pC) (d f k i : Nat) (γ μ : nMem) : Prop := (WF cd γ) ∧ (MS cd μ) ∧ (REL γ μ) ∧ (μ.1 104 27 = nI (f + 1)) ∧ (μ.1 128 f = nI k) ∧ (μ.1 129 f = 1) ∧ (μ.1 130 f = nI i) ∧ (RR γ μ k) ∧ (¬ γ.1 (nN k) 2 = 0) ∧ (¬ γ.1 (nC k) 4 = 0) ∧ (¬ γ.1 (nC k) 9 = 0) ∧ (f + 1 + fw γ 12 ≤ 12) ∧ (fw γ 12 ≤ d) ∧ (∀ j, j < i → γ.1 (nC (rN γ k j)) 9 = 0 ∧ (¬ γ.1 (nC (rN γ k j)) 4 = 0 → ¬ γ.1 (nN (rN γ k j)) 2 = 0))
theorem TV.wf {cd : Nat → pC} {d f k i : Nat} {γ μ : nMem} (h : TV cd d f k i γ μ) : WF cd γ := h.1
theorem TV.mst {cd : Nat → pC} {d f k i : Nat} {γ μ : nMem} (h : TV cd d f k i γ μ) : MS cd μ := h.2.1
theorem TV.rl {cd : Nat → pC} {d f k i : Nat} {γ μ : nMem} (h : TV cd d f k i γ μ) : REL γ μ := h.2.2.1
theorem TV.op {cd : Nat → pC} {d f k i : Nat} {γ μ : nMem} (h : TV cd d f k i γ μ) : μ.1 104 27 = nI (f + 1) := h.2.2.2.1
theorem TV.cl {cd : Nat → pC} {d f k i : Nat} {γ μ : nMem} (h : TV cd d f k i γ μ) : μ.1 128 f = nI k := h.2.2.2.2.1
theorem TV.md {cd : Nat → pC} {d f k i : Nat} {γ μ : nMem} (h : TV cd d f k i γ μ) : μ.1 129 f = 1 := h.2.2.2.2.2.1
theorem TV.ap {cd : Nat → pC} {d f k i : Nat} {γ μ : nMem} (h : TV cd d f k i γ μ) : μ.1 130 f = nI i := h.2.2.2.2.2.2.1
theorem TV.rr {cd : Nat → pC} {d f k i : Nat} {γ μ : nMem} (h : TV cd d f k i γ μ) : RR γ μ k := h.2.2.2.2.2.2.2.1
theorem TV.no {cd : Nat → pC} {d f k i : Nat} {γ μ : nMem} (h : TV cd d f k i γ μ) : ¬ γ.1 (nN k) 2 = 0 := h.2.2.2.2.2.2.2.2.1
theorem TV.h4 {cd : Nat → pC} {d f k i : Nat} {γ μ : nMem} (h : TV cd d f k i γ μ) : ¬ γ.1 (nC k) 4 = 0 := h.2.2.2.2.2.2.2.2.2.1
theorem TV.h9 {cd : Nat → pC} {d f k i : Nat} {γ μ : nMem} (h : TV cd d f k i γ μ) : ¬ γ.1 (nC k) 9 = 0 := h.2.2.2.2.2.2.2.2.2.2.1
theorem TV.fr12 {cd : Nat → pC} {d f k i : Nat} {γ μ : nMem} (h : TV cd d f k i γ μ) : f + 1 + fw γ 12 ≤ 12 := h.2.2.2.2.2.2.2.2.2.2.2.1
theorem TV.fd {cd : Nat → pC} {d f k i : Nat} {γ μ : nMem} (h : TV cd d f k i γ μ) : fw γ 12 ≤ d := h.2.2.2.2.2.2.2.2.2.2.2.2.1
theorem TV.rd {cd : Nat → pC} {d f k i : Nat} {γ μ : nMem} (h : TV cd d f k i γ μ) : ∀ j, j < i → γ.1 (nC (rN γ k j)) 9 = 0 ∧ (¬ γ.1 (nC (rN γ k j)) 4 = 0 → ¬ γ.1 (nN (rN γ k j)) 2 = 0) := h.2.2.2.2.2.2.2.2.2.2.2.2.2
theorem TV.sub {f k i : Nat} {γ γ' μ μ' : nMem} (h : TV cd d f k i γ μ) (hk : k < 12) (hi : i ≤ cN γ k) (hw : WF cd γ') (hR : REL γ' μ') (ho : μ'.1 104 27 = nI (f + 1)) (hL : LX (f + 1) 12 μ μ') (hK : KA γ γ') (hF : FL γ γ') : TV cd d f k i γ' μ' := by
  have hW := (h.wf k hk).1.n
  have hrc := h.rl.c k hk
  obtain ⟨_, k2, k3, _⟩ := hK.2.2 k h.h9
  obtain ⟨l1, l2, l3, l4, l5, l6, l7⟩ := hL
  have e : ∀ b, 128 ≤ b → b ≤ 136 → ¬ b = 132 → ¬ b = 134 → ¬ b = 135 → μ'.1 b f = μ.1 b f := fun b p q r s t => l4 b p q r s t f (by omega)
  refine ⟨hw, h.mst.keep ⟨l1, l2, l3, l4, l5, l6, l7⟩, hR, ho, ?_, ?_, ?_, ?_, ?_, ?_, ?_, ?_, ?_, fun j hj => ?_⟩
  · rw [e 128 (by omega) (by omega) (by omega) (by omega) (by omega)]; exact h.cl
  · rw [e 129 (by omega) (by omega) (by omega) (by omega) (by omega)]; exact h.md
  · rw [e 130 (by omega) (by omega) (by omega) (by omega) (by omega)]; exact h.ap
  · have h7 := l7 k hk (by omega) (by rw [hrc.aw]; exact h.h9)
    have hr := h.rr h.no
    intro _
    rw [k2, k3, h7.2.1]
    refine ⟨hr.1, fun j hj => ?_⟩
    have : j < 12 := Nat.lt_of_lt_of_le hj hW.2.1
    rw [h7.2.2 j this]
    exact hr.2 j hj
  · rw [k2]; exact h.no
  · rw [(hF k hk).1]; exact h.h4
  · rw [(hF k hk).2]; exact h.h9
  · rw [fw_FL hF 12 (Nat.le_refl _)]; exact h.fr12
  · rw [fw_FL hF 12 (Nat.le_refl _)]; exact h.fd
  · have er : rN γ' k j = rN γ k j := by unfold rN; rw [k3]
    have hr12 := (hW.2.2 j (Nat.lt_of_lt_of_le hj hi)).2
    rw [er, (hF _ hr12).1, (hF _ hr12).2]
    exact ⟨(h.rd j hj).1, fun z => hK.2.1 _ ((h.rd j hj).2 z)⟩
theorem thru_at (hR : MR R) {f k i : Nat} {γ μ : nMem} (h : TV cd d f k i γ μ) (hk : k < 12) (hi : i ≤ cN γ k)
    (q0 : i = cN γ k → R (fiM (ms (ms (cnM μ k 1) 120 k (μ.1 104 3)) 122 k (lst γ k)) f k))
    (q1 : i < cN γ k → ¬ γ.1 (nC (rN γ k i)) 9 = 0 → R (ms μ 129 f 2))
    (q2 : i < cN γ k → γ.1 (nC (rN γ k i)) 9 = 0 → ¬ (γ.1 (nC (rN γ k i)) 4 = 0 ∨ StB γ (rN γ k i)) → f + 1 < 12 ∧ R (saM μ (f + 1) (rN γ k i) 0))
    (q3 : i < cN γ k → γ.1 (nC (rN γ k i)) 9 = 0 → (γ.1 (nC (rN γ k i)) 4 = 0 ∨ StB γ (rN γ k i)) → ¬ (if γ.1 (nC (rN γ k i)) 4 = 0 then γ.1 (nC (rN γ k i)) 8 else γ.1 (nN (rN γ k i)) 6) ≤ γ.1 (nN k) 5 → R (ms μ 129 f 2))
    (q4 : i < cN γ k → γ.1 (nC (rN γ k i)) 9 = 0 → (γ.1 (nC (rN γ k i)) 4 = 0 ∨ StB γ (rN γ k i)) → (if γ.1 (nC (rN γ k i)) 4 = 0 then γ.1 (nC (rN γ k i)) 8 else γ.1 (nN (rN γ k i)) 6) ≤ γ.1 (nN k) 5 → R (ms μ 130 f (nI (i + 1)))) : R μ := by
  have hW := (h.wf k hk).1.n
  have hrr := h.rr h.no
  have hrc := h.rl.c k hk
  have hf12 := h.fr12
  have hve := (hrc.ve h.no).1
  have hso : i < cN γ k → (γ.1 (nC (rN γ k i)) 4 = 0 ∨ StB γ (rN γ k i)) → sOf μ (rN γ k i) = (if γ.1 (nC (rN γ k i)) 4 = 0 then γ.1 (nC (rN γ k i)) 8 else γ.1 (nN (rN γ k i)) 6) := by
    intro hi2 hst
    have hr12 := (hW.2.2 i hi2).2
    have hs := h.rl.c _ hr12
    unfold sOf
    rw [hs.fm, hs.bo]
    by_cases h4 : γ.1 (nC (rN γ k i)) 4 = 0
    · rw [if_pos h4, if_pos h4]
    · rw [if_neg h4, if_neg h4]
      rcases hst with z | z
      · exact absurd z h4
      · exact (hs.ve z.1).2.1
  refine hR.thru μ f k i (rN γ k) (cN γ k) (by omega) hk h.op h.cl h.md h.ap (by rw [hrr.1]; exact hW.1) hW.2.1 (fun j hj => ⟨by rw [hrr.2 j hj]; exact (hW.2.2 j hj).1, (hW.2.2 j hj).2⟩) hi (fun e => ?_) (fun hi2 z => ?_) (fun hi2 z y => ?_) (fun hi2 z y w => ?_) (fun hi2 z y w => ?_)
  · have el : ldM (ms (cnM μ k 1) 120 k (μ.1 104 3)) (rN γ k) (cN γ k) = lst γ k := by
      symm
      unfold lst
      refine ld_eq h.rl _ (fun s => ?_) _ _ (fun j hj => ?_)
      · unfold dOf
        rw [ms_o (by decide), ms_o (by decide), ms_o (by decide)]
        exact dOf_cn
      · exact ⟨rfl, (hW.2.2 j hj).2, h.rd j (by unfold cN at e; omega)⟩
    rw [el]
    exact q0 e
  · exact q1 hi2 (by rw [← (h.rl.c _ (hW.2.2 i hi2).2).aw]; exact z)
  · refine q2 hi2 (by rw [← (h.rl.c _ (hW.2.2 i hi2).2).aw]; exact z) (fun x => ?_)
    rw [(st_R h.rl (hW.2.2 i hi2).2).mpr x] at y
    cases y
  · have x := (st_R h.rl (hW.2.2 i hi2).2).mp y
    refine q3 hi2 (by rw [← (h.rl.c _ (hW.2.2 i hi2).2).aw]; exact z) x ?_
    rw [← hso hi2 x, ← hve]
    exact Int32.not_le.mpr w
  · have x := (st_R h.rl (hW.2.2 i hi2).2).mp y
    refine q4 hi2 (by rw [← (h.rl.c _ (hW.2.2 i hi2).2).aw]; exact z) x ?_
    rw [← hso hi2 x, ← hve]
    exact Int32.not_lt.mp w
theorem thru_S (hR : MR R) (hB : SB cd R d) {f k : Nat} (hk : k < 12) : ∀ (g i : Nat) (γ μ : nMem), g + i = 13 → TV cd d f k i γ μ → i ≤ cN γ k →
    ((ruL (bw cd d).1 k g γ i).1 = true → ∀ μ', REL (ms (vfy (ms (ruL (bw cd d).1 k g γ i).2 (nN k) 7 (lst (ruL (bw cd d).1 k g γ i).2 k)) k 1) (nC k) 9 0) μ' → μ'.1 104 27 = nI f → LX f k μ μ' → R μ') →
    ((ruL (bw cd d).1 k g γ i).1 = false → ∀ μ', WF cd (ruL (bw cd d).1 k g γ i).2 → MS cd μ' → REL (ruL (bw cd d).1 k g γ i).2 μ' → μ'.1 104 27 = nI (f + 1) → μ'.1 128 f = nI k → μ'.1 129 f = 2 → FL γ (ruL (bw cd d).1 k g γ i).2 → LX f k μ μ' → R μ') → R μ := by
  intro g
  induction g with
  | zero =>
    intro i γ μ hg h hi
    have := (h.wf k hk).1.n.2.1
    exfalso
    have : cN γ k ≤ 12 := this
    omega
  | succ g ih =>
    intro i γ μ hg h hi hT hF
    have hW := (h.wf k hk).1.n
    have hf12 := h.fr12
    by_cases hlt : i < cN γ k
    · have hs12 := (hW.2.2 i hlt).2
      have hPB := (bw_P cd d).1 γ (rN γ k i) h.wf hs12 h.fd
      have hK := (bw_K cd d).1 γ (rN γ k i)
      obtain ⟨_, kn, kr, _⟩ := hK.2.2 k h.h9
      -- behind the bringing up
      have key : ∀ (γ' μ1 : nMem), γ' = (bw cd d).1 γ (rN γ k i) → TV cd d f k i γ' μ1 → (γ'.1 (nC (rN γ k i)) 9 = 0 → γ'.1 (nC (rN γ k i)) 4 = 0 ∨ StB γ' (rN γ k i)) → LX f k μ μ1 → FL γ γ' → γ'.1 (nN k) = γ.1 (nN k) → γ'.1 (nR k) = γ.1 (nR k) → R μ1 := by
        intro γ' μ1 eγ h1 hst hX hFL ekn ekr
        have er : rN γ' k i = rN γ k i := by unfold rN; rw [ekr]
        have ec : cN γ' k = cN γ k := by unfold cN; rw [ekn]
        have hru : ruL (bw cd d).1 k (g + 1) γ i = (if γ'.1 (nC (rN γ k i)) 9 = 0 then (if (if γ'.1 (nC (rN γ k i)) 4 = 0 then γ'.1 (nC (rN γ k i)) 8 else γ'.1 (nN (rN γ k i)) 6) ≤ γ'.1 (nN k) 5 then ruL (bw cd d).1 k g γ' (i + 1) else (false, γ')) else (false, γ')) := by
          rw [ruL, if_pos hlt, ← eγ]
        have hf : ∀ x, ruL (bw cd d).1 k (g + 1) γ i = (false, γ') → R (ms μ1 129 f x) ∨ ¬ x = 2 := by
          intro x e
          by_cases hx : x = 2
          · left
            subst hx
            rw [e] at hF
            refine hF rfl _ h1.wf (h1.mst.keep (LX.st (f := f) (k := k) (by omega))) (h1.rl.fs (by omega)) ?_ ?_ ?_ hFL (hX.trans (LX.st (by omega)))
            · simpa [ms_r, ml_r, ms_2, ml_1, ad_CC, ad_CN, ad_CR, ad_CY, ad_CK, ad_C0, ad_0C, ad_C99, ad_99C, ad_NN, ad_NC, ad_NR, ad_NY, ad_NK, ad_N0, ad_0N, ad_N99, ad_99N, ad_N98, ad_98N, ad_RR, ad_RC, ad_RN, ad_RY, ad_RK, ad_R0, ad_0R, ad_R99, ad_99R, ad_R98, ad_98R, ad_YY, ad_YC, ad_YN, ad_YR, ad_YK, ad_Y0, ad_0Y, ad_Y99, ad_99Y, ad_Y98, ad_98Y, ad_KK, ad_KC, ad_KN, ad_KR, ad_KY, ad_K0, ad_0K, ad_K99, ad_99K, ad_K98, ad_98K] using h1.op
            · simpa [ms_r, ml_r, ms_2, ml_1, ad_CC, ad_CN, ad_CR, ad_CY, ad_CK, ad_C0, ad_0C, ad_C99, ad_99C, ad_NN, ad_NC, ad_NR, ad_NY, ad_NK, ad_N0, ad_0N, ad_N99, ad_99N, ad_N98, ad_98N, ad_RR, ad_RC, ad_RN, ad_RY, ad_RK, ad_R0, ad_0R, ad_R99, ad_99R, ad_R98, ad_98R, ad_YY, ad_YC, ad_YN, ad_YR, ad_YK, ad_Y0, ad_0Y, ad_Y99, ad_99Y, ad_Y98, ad_98Y, ad_KK, ad_KC, ad_KN, ad_KR, ad_KY, ad_K0, ad_0K, ad_K99, ad_99K, ad_K98, ad_98K] using h1.cl
            · simp [ms_r, ml_r, ms_2, ml_1, ad_CC, ad_CN, ad_CR, ad_CY, ad_CK, ad_C0, ad_0C, ad_C99, ad_99C, ad_NN, ad_NC, ad_NR, ad_NY, ad_NK, ad_N0, ad_0N, ad_N99, ad_99N, ad_N98, ad_98N, ad_RR, ad_RC, ad_RN, ad_RY, ad_RK, ad_R0, ad_0R, ad_R99, ad_99R, ad_R98, ad_98R, ad_YY, ad_YC, ad_YN, ad_YR, ad_YK, ad_Y0, ad_0Y, ad_Y99, ad_99Y, ad_Y98, ad_98Y, ad_KK, ad_KC, ad_KN, ad_KR, ad_KY, ad_K0, ad_0K, ad_K99, ad_99K, ad_K98, ad_98K]
          · exact Or.inr hx
        refine thru_at hR h1 hk (by omega) (fun e => by omega) (fun _ z => ?_) (fun _ z y => ?_) (fun _ z y w => ?_) (fun _ z y w => ?_)
        · rw [er] at z
          rcases hf 2 (by rw [hru, if_neg z]) with r | r
          · exact r
          · exact absurd rfl r
        · rw [er] at z y
          exact absurd (hst z) y
        · rw [er] at z w
          rcases hf 2 (by rw [hru, if_pos z, if_neg w]) with r | r
          · exact r
          · exact absurd rfl r
        · rw [er] at z y w
          rw [hru, if_pos z, if_pos w] at hT hF
          refine ih (i + 1) γ' (ms μ1 130 f (nI (i + 1))) (by omega) ?_ (by omega) (fun e μ' p1 p2 p3 => hT e μ' p1 p2 (hX.trans ((LX.st (by omega)).trans p3))) (fun e μ' p1 p2 p3 p4 p5 p6 p7 p8 => hF e μ' p1 p2 p3 p4 p5 p6 (hFL.trans p7) (hX.trans ((LX.st (by omega)).trans p8)))
          obtain ⟨a1, a2, a3, a4, a5, a6, a7, a8, a9, b1, b2, b3, b4, b5⟩ := h1
          refine ⟨a1, a2.keep (LX.st (f := f) (k := k) (by omega)), a3.fs (by omega), ?_, ?_, ?_, ?_, ?_, a9, b1, b2, b3, b4, fun j hj => ?_⟩
          · simpa [ms_r, ml_r, ms_2, ml_1, ad_CC, ad_CN, ad_CR, ad_CY, ad_CK, ad_C0, ad_0C, ad_C99, ad_99C, ad_NN, ad_NC, ad_NR, ad_NY, ad_NK, ad_N0, ad_0N, ad_N99, ad_99N, ad_N98, ad_98N, ad_RR, ad_RC, ad_RN, ad_RY, ad_RK, ad_R0, ad_0R, ad_R99, ad_99R, ad_R98, ad_98R, ad_YY, ad_YC, ad_YN, ad_YR, ad_YK, ad_Y0, ad_0Y, ad_Y99, ad_99Y, ad_Y98, ad_98Y, ad_KK, ad_KC, ad_KN, ad_KR, ad_KY, ad_K0, ad_0K, ad_K99, ad_99K, ad_K98, ad_98K] using a4
          · simpa [ms_r, ml_r, ms_2, ml_1, ad_CC, ad_CN, ad_CR, ad_CY, ad_CK, ad_C0, ad_0C, ad_C99, ad_99C, ad_NN, ad_NC, ad_NR, ad_NY, ad_NK, ad_N0, ad_0N, ad_N99, ad_99N, ad_N98, ad_98N, ad_RR, ad_RC, ad_RN, ad_RY, ad_RK, ad_R0, ad_0R, ad_R99, ad_99R, ad_R98, ad_98R, ad_YY, ad_YC, ad_YN, ad_YR, ad_YK, ad_Y0, ad_0Y, ad_Y99, ad_99Y, ad_Y98, ad_98Y, ad_KK, ad_KC, ad_KN, ad_KR, ad_KY, ad_K0, ad_0K, ad_K99, ad_99K, ad_K98, ad_98K] using a5
          · simpa [ms_r, ml_r, ms_2, ml_1, ad_CC, ad_CN, ad_CR, ad_CY, ad_CK, ad_C0, ad_0C, ad_C99, ad_99C, ad_NN, ad_NC, ad_NR, ad_NY, ad_NK, ad_N0, ad_0N, ad_N99, ad_99N, ad_N98, ad_98N, ad_RR, ad_RC, ad_RN, ad_RY, ad_RK, ad_R0, ad_0R, ad_R99, ad_99R, ad_R98, ad_98R, ad_YY, ad_YC, ad_YN, ad_YR, ad_YK, ad_Y0, ad_0Y, ad_Y99, ad_99Y, ad_Y98, ad_98Y, ad_KK, ad_KC, ad_KN, ad_KR, ad_KY, ad_K0, ad_0K, ad_K99, ad_99K, ad_K98, ad_98K] using a6
          · simp [ms_r, ml_r, ms_2, ml_1, ad_CC, ad_CN, ad_CR, ad_CY, ad_CK, ad_C0, ad_0C, ad_C99, ad_99C, ad_NN, ad_NC, ad_NR, ad_NY, ad_NK, ad_N0, ad_0N, ad_N99, ad_99N, ad_N98, ad_98N, ad_RR, ad_RC, ad_RN, ad_RY, ad_RK, ad_R0, ad_0R, ad_R99, ad_99R, ad_R98, ad_98R, ad_YY, ad_YC, ad_YN, ad_YR, ad_YK, ad_Y0, ad_0Y, ad_Y99, ad_99Y, ad_Y98, ad_98Y, ad_KK, ad_KC, ad_KN, ad_KR, ad_KY, ad_K0, ad_0K, ad_K99, ad_99K, ad_K98, ad_98K]
          · unfold RR at a8 ⊢; simpa [ms_r, ml_r, ms_2, ml_1, ad_CC, ad_CN, ad_CR, ad_CY, ad_CK, ad_C0, ad_0C, ad_C99, ad_99C, ad_NN, ad_NC, ad_NR, ad_NY, ad_NK, ad_N0, ad_0N, ad_N99, ad_99N, ad_N98, ad_98N, ad_RR, ad_RC, ad_RN, ad_RY, ad_RK, ad_R0, ad_0R, ad_R99, ad_99R, ad_R98, ad_98R, ad_YY, ad_YC, ad_YN, ad_YR, ad_YK, ad_Y0, ad_0Y, ad_Y99, ad_99Y, ad_Y98, ad_98Y, ad_KK, ad_KC, ad_KN, ad_KR, ad_KY, ad_K0, ad_0K, ad_K99, ad_99K, ad_K98, ad_98K] using a8
          · rcases Nat.lt_or_ge j i with q | q
            · exact b5 j q
            · have : j = i := by omega
              subst this
              rw [er]
              refine ⟨z, fun h4 => ?_⟩
              rcases y with y | y
              · exact absurd y h4
              · exact y.1
      by_cases hns : γ.1 (nC (rN γ k i)) 9 = 0 ∧ ¬ (γ.1 (nC (rN γ k i)) 4 = 0 ∨ StB γ (rN γ k i))
      · obtain ⟨h9, hns⟩ := hns
        have h4 : ¬ γ.1 (nC (rN γ k i)) 4 = 0 := fun z => hns (Or.inl z)
        have hp := fw_pos h4 h9 12 hs12
        refine thru_at hR h hk hi (fun e => by omega) (fun _ z => absurd h9 z) (fun _ _ _ => ⟨by omega, ?_⟩) (fun _ _ y => absurd y hns) (fun _ _ y => absurd y hns)
        refine hB γ μ (rN γ k i) (f + 1) h.wf h.mst h.rl h.op (by omega) h.fd hs12 h4 h9 (fun z => hns (Or.inr z)) (fun μ' p1 p2 p3 => ?_)
        exact key _ μ' rfl (h.sub hk hi hPB.1 p1 p2 p3 hK hPB.2) (fun _ => Or.inr ((bw_S cd d).1 γ _ hs12 h.fd h4 h9)) ((p3.down (by omega)).toX) hPB.2 kn kr
      · have hst : γ.1 (nC (rN γ k i)) 9 = 0 → γ.1 (nC (rN γ k i)) 4 = 0 ∨ StB γ (rN γ k i) := fun z => Classical.byContradiction (fun y => hns ⟨z, y⟩)
        have eI : (bw cd d).1 γ (rN γ k i) = γ := by
          refine bw_I cd d ?_
          by_cases h9 : γ.1 (nC (rN γ k i)) 9 = 0
          · rcases hst h9 with z | z
            · exact Or.inl z
            · exact Or.inr (Or.inr z)
          · exact Or.inr (Or.inl h9)
        exact key γ μ eI.symm h hst LX.rfl FL.rfl rfl rfl
    · have he : i = cN γ k := by omega
      have hru : ruL (bw cd d).1 k (g + 1) γ i = (true, γ) := by rw [ruL, if_neg hlt]
      rw [hru] at hT
      refine thru_at hR h hk hi (fun _ => ?_) (fun z => absurd z hlt) (fun z => absurd z hlt) (fun z => absurd z hlt) (fun z => absurd z hlt)
      refine hT rfl _ (h.rl.conf hk h.no h.rr) ?_ (((cn_X.trans (LX.st (by omega))).trans (LX.st (by omega))).trans fi_X)
      unfold fiM
      rw [ms_o (by decide), ms_r, if_pos ⟨rfl, rfl⟩]
end NN
