/-! reading a cell: both sides -/
theorem REL.fs {γ μ : nMem} {b j : Nat} {x : Int32} (h : REL γ μ) (hb : 128 ≤ b ∧ ¬ b = 135 ∨ b = 104 ∧ j = 27) : REL γ (ms μ b j x) :=
  h.mcong (fun c hc => ms_o (by omega)) (by rw [ms_r, if_neg (by omega)]) (by rw [ms_r, if_neg (by omega)]) rfl
theorem REL.fl {γ μ : nMem} {j : Nat} {x : Int64} (h : REL γ μ) : REL γ (ml μ 132 j x) :=
  h.mcong (fun c hc => rfl) rfl rfl (ml_o (by decide))
theorem thM_iff {m : nMem} {f s : Nat} : ∀ r, thM m f s r = true ↔ ∃ i, i < r ∧ m.1 134 (12 * f + i) = nI s := by
  intro r
  induction r with
  | zero => exact ⟨fun h => (by cases h), fun ⟨i, hi, _⟩ => by omega⟩
  | succ r ih =>
    rw [thM]
    by_cases h1 : thM m f s r = true
    · rw [if_pos h1]
      obtain ⟨i, hi, e⟩ := ih.mp h1
      exact ⟨fun _ => ⟨i, by omega, e⟩, fun _ => rfl⟩
    · rw [if_neg h1]
      by_cases h2 : m.1 134 (12 * f + r) = nI s
      · rw [if_pos h2]; exact ⟨fun _ => ⟨r, by omega, h2⟩, fun _ => rfl⟩
      · rw [if_neg h2]
        refine ⟨fun h => (by cases h), fun ⟨i, hi, e⟩ => ?_⟩
        rcases Nat.lt_or_ge i r with z | z
        · exact absurd (ih.mpr ⟨i, z, e⟩) h1
        · exact absurd (by rw [← show i = r by omega]; exact e) h2
theorem af_R {γ μ : nMem} {f k s tp at_ : Nat} (hR : REL γ μ) (hF : FR γ μ f k tp at_) (h9 : ¬ γ.1 (nC k) 9 = 0) (hW : WN γ k) (hdi : ∀ i j, i < j → j < cN γ k → ¬ γ.1 (nR k) i = γ.1 (nR k) j) (hs : s < 12) :
    REL (adR γ k s) (afM μ f s (rM μ f)) ∧ FR (adR γ k s) (afM μ f s (rM μ f)) f k tp at_ ∧ (∃ i, i < cN (adR γ k s) k ∧ rN (adR γ k s) k i = s) ∧ (∀ i, i < cN (adR γ k s) k → rN (adR γ k s) k i = s ∨ (i < cN γ k ∧ rN (adR γ k s) k i = rN γ k i)) ∧ (∀ i j, i < j → j < cN (adR γ k s) k → ¬ (adR γ k s).1 (nR k) i = (adR γ k s).1 (nR k) j) ∧ (thM μ f s (rM μ f) = true ∨ rM μ f < 12) := by
  obtain ⟨n1, n2, n3⟩ := hW.n
  obtain ⟨g1, g2, g3⟩ := hF.fo' hW
  have hth : thM μ f s (rM μ f) = true ↔ ∃ i, i < cN γ k ∧ γ.1 (nR k) i = nI s := by
    rw [thM_iff, g2]
    exact ⟨fun ⟨i, hi, e⟩ => ⟨i, hi, by rw [← hF.fc i hi]; exact e⟩, fun ⟨i, hi, e⟩ => ⟨i, hi, by rw [hF.fc i hi]; exact e⟩⟩
  by_cases hx : ∃ i, i < cN γ k ∧ γ.1 (nR k) i = nI s
  · have ea : adR γ k s = γ := if_pos (Or.inl hx)
    have eb : afM μ f s (rM μ f) = μ := if_pos (hth.mpr hx)
    rw [ea, eb]
    obtain ⟨i, hi, e⟩ := hx
    exact ⟨hR, hF, ⟨i, hi, by unfold rN; rw [e, nI_clamp (by omega)]⟩, fun i hi => Or.inr ⟨hi, rfl⟩, hdi, Or.inl (hth.mpr ⟨i, hi, e⟩)⟩
  · have hlt : cN γ k < 12 := by
      rcases Nat.lt_or_ge (cN γ k) 12 with z | z
      · exact z
      · exfalso
        have hc : cN γ k = 12 := Nat.le_antisymm n2 z
        obtain ⟨i, j, hij, hj, e⟩ := pigeon 12 (fun i => if i < 12 then rN γ k i else s) (fun i hi => by
          show (if i < 12 then rN γ k i else s) < 12
          split
          · rename_i hi2; exact (n3 i (Nat.lt_of_lt_of_le hi2 z)).2
          · exact hs)
        change (if i < 12 then rN γ k i else s) = (if j < 12 then rN γ k j else s) at e
        rw [if_pos (by omega)] at e
        have hi2 := n3 i (by have : i < 12 := by omega
                             exact Nat.lt_of_lt_of_le this z)
        by_cases hj2 : j < 12
        · rw [if_pos hj2] at e
          have hj3 := n3 j (Nat.lt_of_lt_of_le hj2 z)
          exact hdi i j hij (Nat.lt_of_lt_of_le hj2 z) (by rw [hi2.1, hj3.1, e])
        · rw [if_neg hj2] at e
          exact hx ⟨i, Nat.lt_of_lt_of_le (by omega) z, by rw [hi2.1, e]⟩
    have ea : adR γ k s = ms (ms γ (nR k) (cN γ k) (nI s)) (nN k) 1 (nI (cN γ k + 1)) := if_neg (fun z => by
      rcases z with z | z
      · exact hx z
      · have : cN γ k = 12 := z
        omega)
    have eb : afM μ f s (rM μ f) = ms (ms μ 134 (12 * f + cN γ k) (nI s)) 133 f (nI (cN γ k + 1)) := by
      unfold afM
      rw [if_neg (fun z => hx (hth.mp z)), g2]
    have ec : cN (adR γ k s) k = cN γ k + 1 := by
      rw [ea]
      show ((ms (ms γ (nR k) (cN γ k) (nI s)) (nN k) 1 (nI (cN γ k + 1))).1 (nN k) 1).toNatClampNeg = _
      rw [ms_r, if_pos ⟨rfl, rfl⟩, nI_clamp (by omega)]
    have er : ∀ i, (adR γ k s).1 (nR k) i = if i = cN γ k then nI s else γ.1 (nR k) i := fun i => by
      rw [ea]; simp [ms_r, ml_r, ms_2, ml_1, ad_CC, ad_CN, ad_CR, ad_CY, ad_CK, ad_C0, ad_0C, ad_C99, ad_99C, ad_NN, ad_NC, ad_NR, ad_NY, ad_NK, ad_N0, ad_0N, ad_N99, ad_99N, ad_N98, ad_98N, ad_RR, ad_RC, ad_RN, ad_RY, ad_RK, ad_R0, ad_0R, ad_R99, ad_99R, ad_R98, ad_98R, ad_YY, ad_YC, ad_YN, ad_YR, ad_YK, ad_Y0, ad_0Y, ad_Y99, ad_99Y, ad_Y98, ad_98Y, ad_KK, ad_KC, ad_KN, ad_KR, ad_KY, ad_K0, ad_0K, ad_K99, ad_99K, ad_K98, ad_98K]
    have ern : ∀ i, rN (adR γ k s) k i = if i = cN γ k then s else rN γ k i := fun i => by
      unfold rN
      rw [er]
      split
      · rw [nI_clamp (by omega)]
      · rfl
    refine ⟨?_, ?_, ⟨cN γ k, by omega, by rw [ern, if_pos rfl]⟩, fun i hi => ?_, fun i j hij hj => ?_, Or.inr (by omega)⟩
    · rw [ea, eb]
      exact (((hR.fs (by omega)).fs (by omega)).cr h9).cn (by simpa [ms_r, ml_r, ms_2, ml_1, ad_CC, ad_CN, ad_CR, ad_CY, ad_CK, ad_C0, ad_0C, ad_C99, ad_99C, ad_NN, ad_NC, ad_NR, ad_NY, ad_NK, ad_N0, ad_0N, ad_N99, ad_99N, ad_N98, ad_98N, ad_RR, ad_RC, ad_RN, ad_RY, ad_RK, ad_R0, ad_0R, ad_R99, ad_99R, ad_R98, ad_98R, ad_YY, ad_YC, ad_YN, ad_YR, ad_YK, ad_Y0, ad_0Y, ad_Y99, ad_99Y, ad_Y98, ad_98Y, ad_KK, ad_KC, ad_KN, ad_KR, ad_KY, ad_K0, ad_0K, ad_K99, ad_99K, ad_K98, ad_98K] using h9)
    · obtain ⟨c1, c2, c3, c4, c5, c6, c7, c8⟩ := hF
      refine ⟨?_, ?_, ?_, ?_, fun i hi => ?_, ?_, fun i hi => ?_, ?_⟩
      · rw [eb]; simpa [ms_r, ml_r, ms_2, ml_1, ad_CC, ad_CN, ad_CR, ad_CY, ad_CK, ad_C0, ad_0C, ad_C99, ad_99C, ad_NN, ad_NC, ad_NR, ad_NY, ad_NK, ad_N0, ad_0N, ad_N99, ad_99N, ad_N98, ad_98N, ad_RR, ad_RC, ad_RN, ad_RY, ad_RK, ad_R0, ad_0R, ad_R99, ad_99R, ad_R98, ad_98R, ad_YY, ad_YC, ad_YN, ad_YR, ad_YK, ad_Y0, ad_0Y, ad_Y99, ad_99Y, ad_Y98, ad_98Y, ad_KK, ad_KC, ad_KN, ad_KR, ad_KY, ad_K0, ad_0K, ad_K99, ad_99K, ad_K98, ad_98K] using c1
      · rw [eb]; simpa [ms_r, ml_r, ms_2, ml_1, ad_CC, ad_CN, ad_CR, ad_CY, ad_CK, ad_C0, ad_0C, ad_C99, ad_99C, ad_NN, ad_NC, ad_NR, ad_NY, ad_NK, ad_N0, ad_0N, ad_N99, ad_99N, ad_N98, ad_98N, ad_RR, ad_RC, ad_RN, ad_RY, ad_RK, ad_R0, ad_0R, ad_R99, ad_99R, ad_R98, ad_98R, ad_YY, ad_YC, ad_YN, ad_YR, ad_YK, ad_Y0, ad_0Y, ad_Y99, ad_99Y, ad_Y98, ad_98Y, ad_KK, ad_KC, ad_KN, ad_KR, ad_KY, ad_K0, ad_0K, ad_K99, ad_99K, ad_K98, ad_98K] using c2
      · rw [eb]; simpa [ms_r, ml_r, ms_2, ml_1, ad_CC, ad_CN, ad_CR, ad_CY, ad_CK, ad_C0, ad_0C, ad_C99, ad_99C, ad_NN, ad_NC, ad_NR, ad_NY, ad_NK, ad_N0, ad_0N, ad_N99, ad_99N, ad_N98, ad_98N, ad_RR, ad_RC, ad_RN, ad_RY, ad_RK, ad_R0, ad_0R, ad_R99, ad_99R, ad_R98, ad_98R, ad_YY, ad_YC, ad_YN, ad_YR, ad_YK, ad_Y0, ad_0Y, ad_Y99, ad_99Y, ad_Y98, ad_98Y, ad_KK, ad_KC, ad_KN, ad_KR, ad_KY, ad_K0, ad_0K, ad_K99, ad_99K, ad_K98, ad_98K] using c3
      · rw [eb]; simpa [ms_r, ml_r, ms_2, ml_1, ad_CC, ad_CN, ad_CR, ad_CY, ad_CK, ad_C0, ad_0C, ad_C99, ad_99C, ad_NN, ad_NC, ad_NR, ad_NY, ad_NK, ad_N0, ad_0N, ad_N99, ad_99N, ad_N98, ad_98N, ad_RR, ad_RC, ad_RN, ad_RY, ad_RK, ad_R0, ad_0R, ad_R99, ad_99R, ad_R98, ad_98R, ad_YY, ad_YC, ad_YN, ad_YR, ad_YK, ad_Y0, ad_0Y, ad_Y99, ad_99Y, ad_Y98, ad_98Y, ad_KK, ad_KC, ad_KN, ad_KR, ad_KY, ad_K0, ad_0K, ad_K99, ad_99K, ad_K98, ad_98K] using c4
      · rw [eb, ea]; simpa [ms_r, ml_r, ms_2, ml_1, ad_CC, ad_CN, ad_CR, ad_CY, ad_CK, ad_C0, ad_0C, ad_C99, ad_99C, ad_NN, ad_NC, ad_NR, ad_NY, ad_NK, ad_N0, ad_0N, ad_N99, ad_99N, ad_N98, ad_98N, ad_RR, ad_RC, ad_RN, ad_RY, ad_RK, ad_R0, ad_0R, ad_R99, ad_99R, ad_R98, ad_98R, ad_YY, ad_YC, ad_YN, ad_YR, ad_YK, ad_Y0, ad_0Y, ad_Y99, ad_99Y, ad_Y98, ad_98Y, ad_KK, ad_KC, ad_KN, ad_KR, ad_KY, ad_K0, ad_0K, ad_K99, ad_99K, ad_K98, ad_98K] using c5 i hi
      · rw [eb, ea]; simp [ms_r, ml_r, ms_2, ml_1, ad_CC, ad_CN, ad_CR, ad_CY, ad_CK, ad_C0, ad_0C, ad_C99, ad_99C, ad_NN, ad_NC, ad_NR, ad_NY, ad_NK, ad_N0, ad_0N, ad_N99, ad_99N, ad_N98, ad_98N, ad_RR, ad_RC, ad_RN, ad_RY, ad_RK, ad_R0, ad_0R, ad_R99, ad_99R, ad_R98, ad_98R, ad_YY, ad_YC, ad_YN, ad_YR, ad_YK, ad_Y0, ad_0Y, ad_Y99, ad_99Y, ad_Y98, ad_98Y, ad_KK, ad_KC, ad_KN, ad_KR, ad_KY, ad_K0, ad_0K, ad_K99, ad_99K, ad_K98, ad_98K]
      · rw [ec] at hi
        rw [er, eb]
        simp [ms_r, ml_r, ms_2, ml_1, ad_CC, ad_CN, ad_CR, ad_CY, ad_CK, ad_C0, ad_0C, ad_C99, ad_99C, ad_NN, ad_NC, ad_NR, ad_NY, ad_NK, ad_N0, ad_0N, ad_N99, ad_99N, ad_N98, ad_98N, ad_RR, ad_RC, ad_RN, ad_RY, ad_RK, ad_R0, ad_0R, ad_R99, ad_99R, ad_R98, ad_98R, ad_YY, ad_YC, ad_YN, ad_YR, ad_YK, ad_Y0, ad_0Y, ad_Y99, ad_99Y, ad_Y98, ad_98Y, ad_KK, ad_KC, ad_KN, ad_KR, ad_KY, ad_K0, ad_0K, ad_K99, ad_99K, ad_K98, ad_98K]
        split
        · rfl
        · exact c7 i (by omega)
      · rw [eb]; simpa [ms_r, ml_r, ms_2, ml_1, ad_CC, ad_CN, ad_CR, ad_CY, ad_CK, ad_C0, ad_0C, ad_C99, ad_99C, ad_NN, ad_NC, ad_NR, ad_NY, ad_NK, ad_N0, ad_0N, ad_N99, ad_99N, ad_N98, ad_98N, ad_RR, ad_RC, ad_RN, ad_RY, ad_RK, ad_R0, ad_0R, ad_R99, ad_99R, ad_R98, ad_98R, ad_YY, ad_YC, ad_YN, ad_YR, ad_YK, ad_Y0, ad_0Y, ad_Y99, ad_99Y, ad_Y98, ad_98Y, ad_KK, ad_KC, ad_KN, ad_KR, ad_KY, ad_K0, ad_0K, ad_K99, ad_99K, ad_K98, ad_98K] using c8
    · rw [ec] at hi
      rw [ern]
      split
      · exact Or.inl rfl
      · exact Or.inr ⟨by omega, rfl⟩
    · rw [ec] at hj
      rw [er, er, if_neg (by omega)]
      split
      · exact fun z => hx ⟨i, by omega, z⟩
      · exact hdi i j hij (by omega)
theorem EV.add {cd : Nat → pC} {d f k s : Nat} {γ μ : nMem} {tp at_ : Nat} (h : EV cd d f k 12 γ μ tp at_) (hk : k < 12) (hs : s < 12) (h9 : γ.1 (nC s) 9 = 0) : EV cd d f k s (adR γ k s) (afM μ f s (rM μ f)) tp at_ ∧ ∃ i, i < cN (adR γ k s) k ∧ rN (adR γ k s) k i = s := by
  obtain ⟨e1, e2, e3, e4, e5, _⟩ := af_R (s := s) h.rl h.fr h.h9 (h.wf k hk).1 h.rd.di hs
  have hL : FL γ (adR γ k s) := adR_L
  have hX : LX f k μ (afM μ f s (rM μ f)) := af_X
  have hn2 : ∀ i j, ¬ j = 1 → (adR γ k s).1 (nN i) j = γ.1 (nN i) j := fun i j hj => by
    unfold adR
    split
    · rfl
    · simp [ms_r, ml_r, ms_2, ml_1, ad_CC, ad_CN, ad_CR, ad_CY, ad_CK, ad_C0, ad_0C, ad_C99, ad_99C, ad_NN, ad_NC, ad_NR, ad_NY, ad_NK, ad_N0, ad_0N, ad_N99, ad_99N, ad_N98, ad_98N, ad_RR, ad_RC, ad_RN, ad_RY, ad_RK, ad_R0, ad_0R, ad_R99, ad_99R, ad_R98, ad_98R, ad_YY, ad_YC, ad_YN, ad_YR, ad_YK, ad_Y0, ad_0Y, ad_Y99, ad_99Y, ad_Y98, ad_98Y, ad_KK, ad_KC, ad_KN, ad_KR, ad_KY, ad_K0, ad_0K, ad_K99, ad_99K, ad_K98, ad_98K, hj]
  have hc : ∀ i j, (adR γ k s).1 (nC i) j = γ.1 (nC i) j := fun i j => by
    unfold adR
    split
    · rfl
    · simp [ms_r, ml_r, ms_2, ml_1, ad_CC, ad_CN, ad_CR, ad_CY, ad_CK, ad_C0, ad_0C, ad_C99, ad_99C, ad_NN, ad_NC, ad_NR, ad_NY, ad_NK, ad_N0, ad_0N, ad_N99, ad_99N, ad_N98, ad_98N, ad_RR, ad_RC, ad_RN, ad_RY, ad_RK, ad_R0, ad_0R, ad_R99, ad_99R, ad_R98, ad_98R, ad_YY, ad_YC, ad_YN, ad_YR, ad_YK, ad_Y0, ad_0Y, ad_Y99, ad_99Y, ad_Y98, ad_98Y, ad_KK, ad_KC, ad_KN, ad_KR, ad_KY, ad_K0, ad_0K, ad_K99, ad_99K, ad_K98, ad_98K]
  refine ⟨⟨adR_W h.wf hk hs, h.mst.keep hX, e1, ?_, e2, ⟨fun i hi => ?_, fun i hi hne h4 => ?_, e5⟩, ?_, ?_, ?_, ?_⟩, e3⟩
  · unfold afM
    split
    · exact h.op
    · rw [ms_o (by decide), ms_o (by decide)]; exact h.op
  · rw [hc]
    rcases e4 i hi with e | ⟨hi2, e⟩
    · rw [e]; exact h9
    · rw [e]; exact h.rd.nw i hi2
  · rw [hn2 _ _ (by decide)]
    rw [hc] at h4
    rcases e4 i hi with e | ⟨hi2, e⟩
    · exact absurd e hne
    · rw [e] at h4 ⊢
      exact h.rd.nt i hi2 (by have := ((h.wf k hk).1.n.2.2 i hi2).2; omega) h4
  · rw [hc]; exact h.h4
  · rw [hc]; exact h.h9
  · rw [fw_FL hL 12 (Nat.le_refl _)]; exact h.fr12
  · rw [fw_FL hL 12 (Nat.le_refl _)]; exact h.fd
theorem EV.ring {cd : Nat → pC} {d f k s : Nat} {γ μ : nMem} {tp at_ : Nat} (h : EV cd d f k 12 γ μ tp at_) (hk : k < 12) (hs : s < 12) (h9 : ¬ γ.1 (nC s) 9 = 0) : REL (wEnd (adR γ k s) k BADv) (wkX (ms (afM μ f s (rM μ f)) 136 f 1) f k BADv) := by
  obtain ⟨e1, e2, e3, e4, e5, _⟩ := af_R (s := s) h.rl h.fr h.h9 (h.wf k hk).1 h.rd.di hs
  have hwf := adR_W h.wf hk hs
  have hW := (hwf k hk).1
  obtain ⟨n1, n2, n3⟩ := hW.n
  obtain ⟨g1, g2, g3⟩ := e2.fo' hW
  have hc : ∀ i j, (adR γ k s).1 (nC i) j = γ.1 (nC i) j := fun i j => by
    unfold adR
    split
    · rfl
    · simp [ms_r, ml_r, ms_2, ml_1, ad_CC, ad_CN, ad_CR, ad_CY, ad_CK, ad_C0, ad_0C, ad_C99, ad_99C, ad_NN, ad_NC, ad_NR, ad_NY, ad_NK, ad_N0, ad_0N, ad_N99, ad_99N, ad_N98, ad_98N, ad_RR, ad_RC, ad_RN, ad_RY, ad_RK, ad_R0, ad_0R, ad_R99, ad_99R, ad_R98, ad_98R, ad_YY, ad_YC, ad_YN, ad_YR, ad_YK, ad_Y0, ad_0Y, ad_Y99, ad_99Y, ad_Y98, ad_98Y, ad_KK, ad_KC, ad_KN, ad_KR, ad_KY, ad_K0, ad_0K, ad_K99, ad_99K, ad_K98, ad_98K]
  have f1 : fcM (ms (afM μ f s (rM μ f)) 136 f 1) f = fcM (afM μ f s (rM μ f)) f := by
    funext i; unfold fcM; rw [ms_o (by decide)]
  have f2 : rM (ms (afM μ f s (rM μ f)) 136 f 1) f = rM (afM μ f s (rM μ f)) f := by
    unfold rM; rw [ms_o (by decide)]
  unfold wkX
  rw [f1, f2, g2]
  refine (e1.fs (by omega)).work hk (by rw [hc]; exact h.h4) (Or.inl rfl) n2 (fun i hi => (hwf i hi).1.n.2.1) n1 (by rw [ms_o (by decide), e2.fo]; exact n1) (fun i hi => by rw [g3 i hi]; exact (n3 i hi).1) ?_
  unfold lrM
  have e136 : (ms (afM μ f s (rM μ f)) 136 f 1).1 136 f = 1 := by rw [ms_r, if_pos ⟨rfl, rfl⟩]
  rw [cnM_o (by decide) (by decide), e136, if_neg (by decide)]
  refine ld_0 hwf hk _ (Nat.le_refl _) ?_
  obtain ⟨i, hi, e⟩ := e3
  refine ⟨i, hi, ?_⟩
  rw [e]
  unfold gd
  rw [hc, if_neg h9]
theorem EV.use {cd : Nat → pC} {d f k x s : Nat} {γ μ : nMem} {tp at_ : Nat} (h : EV cd d f k x γ μ tp at_) (hs : s < 12) : EV cd d f k x (mU γ s) (usM μ s) tp at_ := by
  have hL : FL γ (mU γ s) := mU_L
  have hX : LX f k μ (usM μ s) := us_X
  obtain ⟨c1, c2, c3, c4, c5, c6, c7, c8⟩ := h.fr
  obtain ⟨d1, d2, d3⟩ := h.rd
  have hn : ∀ i, (mU γ s).1 (nN i) = γ.1 (nN i) := fun i => by unfold mU; rw [ms_o (by unfold nN nC; omega), ms_o (by unfold nN; omega)]
  have hr : ∀ i, (mU γ s).1 (nR i) = γ.1 (nR i) := fun i => by unfold mU; rw [ms_o (by unfold nR nC; omega), ms_o (by unfold nR; omega)]
  have hkk : ∀ i, (mU γ s).1 (nK i) = γ.1 (nK i) := fun i => by unfold mU; rw [ms_o (by unfold nK nC; omega), ms_o (by unfold nK; omega)]
  have hc : ∀ i j, ¬ j = 10 → (mU γ s).1 (nC i) j = γ.1 (nC i) j := fun i j hj => by simp [mU, ms_r, ml_r, ms_2, ml_1, ad_CC, ad_CN, ad_CR, ad_CY, ad_CK, ad_C0, ad_0C, ad_C99, ad_99C, ad_NN, ad_NC, ad_NR, ad_NY, ad_NK, ad_N0, ad_0N, ad_N99, ad_99N, ad_N98, ad_98N, ad_RR, ad_RC, ad_RN, ad_RY, ad_RK, ad_R0, ad_0R, ad_R99, ad_99R, ad_R98, ad_98R, ad_YY, ad_YC, ad_YN, ad_YR, ad_YK, ad_Y0, ad_0Y, ad_Y99, ad_99Y, ad_Y98, ad_98Y, ad_KK, ad_KC, ad_KN, ad_KR, ad_KY, ad_K0, ad_0K, ad_K99, ad_99K, ad_K98, ad_98K, hj]
  have hrn : ∀ i, rN (mU γ s) k i = rN γ k i := fun i => by unfold rN; rw [hr]
  have hcn : cN (mU γ s) k = cN γ k := by unfold cN; rw [hn]
  have hm : ∀ b, 128 ≤ b → (usM μ s).1 b = μ.1 b := fun b hb => by unfold usM; rw [ms_o (by omega), ms_o (by omega)]
  refine ⟨h.wf.cong (mU_E hs), h.mst.keep hX, h.rl.use hs, ?_, ⟨?_, ?_, ?_, ?_, ?_, ?_, ?_, ?_⟩, ⟨fun i hi => ?_, fun i hi hne h4 => ?_, fun i j hij hj => ?_⟩, ?_, ?_, ?_, ?_⟩
  · unfold usM; rw [ms_o (by decide), ms_r, if_neg (by omega)]; exact h.op
  · rw [hm 128 (by omega)]; exact c1
  · rw [hm 129 (by omega)]; exact c2
  · rw [hm 130 (by omega)]; exact c3
  · rw [hm 131 (by omega)]; exact c4
  · rw [hkk]; exact c5
  · rw [hm 133 (by omega), hn]; exact c6
  · rw [hcn, hm 134 (by omega), hr]; exact c7
  · rw [hm 136 (by omega)]; exact c8
  · rw [hcn] at hi; rw [hrn, hc _ _ (by decide)]; exact d1 i hi
  · rw [hcn] at hi; rw [hrn] at hne h4 ⊢; rw [hc _ _ (by decide)] at h4; rw [hn]; exact d2 i hi hne h4
  · rw [hcn] at hj; rw [hr]; exact d3 i j hij hj
  · rw [hc _ _ (by decide)]; exact h.h4
  · rw [hc _ _ (by decide)]; exact h.h9
  · rw [fw_FL hL 12 (Nat.le_refl _)]; exact h.fr12
  · rw [fw_FL hL 12 (Nat.le_refl _)]; exact h.fd
/-- the frame, behind a run above it -/
theorem EV.sub {cd : Nat → pC} {d f k x : Nat} {γ γ' μ μ' : nMem} {tp at_ : Nat} (h : EV cd d f k x γ μ tp at_) (hk : k < 12) (htp : tp ≤ 16) (hw : WF cd γ') (hR : REL γ' μ') (ho : μ'.1 104 27 = nI (f + 1)) (hL : LX (f + 1) 12 μ μ') (hK : KA γ γ') (hF : FL γ γ') : EV cd d f k x γ' μ' tp at_ := by
  have hW := (h.wf k hk).1
  refine ⟨hw, h.mst.keep hL, hR, ho, h.fr.keep hK h.h9 hL htp hW.n.2.1, h.rd.keep (cd := cd) hK h.h9 hF hW, ?_, ?_, ?_, ?_⟩
  · rw [(hF k hk).1]; exact h.h4
  · rw [(hF k hk).2]; exact h.h9
  · rw [fw_FL hF 12 (Nat.le_refl _)]; exact h.fr12
  · rw [fw_FL hF 12 (Nat.le_refl _)]; exact h.fd
