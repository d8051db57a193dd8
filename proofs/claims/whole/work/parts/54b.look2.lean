section LL
variable {cd : Nat → pC} {R : nMem → Prop} {d f k s : Nat} {q : Nat × Nat} {tp at_ : Nat}
theorem rdC.keep {γ γ' : nMem} (h : rdC q γ k tp s) (hK : KA γ γ') (h9 : ¬ γ.1 (nC k) 9 = 0) : rdC q γ' k tp s := by
  unfold rdC at h ⊢
  rw [(hK.2.2 k h9).2.2.2]
  exact h
theorem fd_keep {γ γ' : nMem} (h : ∃ i, i < cN γ k ∧ rN γ k i = s) (hK : KA γ γ') (h9 : ¬ γ.1 (nC k) 9 = 0) : ∃ i, i < cN γ' k ∧ rN γ' k i = s := by
  obtain ⟨i, hi, e⟩ := h
  refine ⟨i, ?_, ?_⟩
  · unfold cN at hi ⊢; rw [(hK.2.2 k h9).2.1]; exact hi
  · unfold rN at e ⊢; rw [(hK.2.2 k h9).2.2.1]; exact e
theorem lk3 (hR : MR R) (hW : SW cd R d) {γ m : nMem} (h : EV cd d f k 12 γ m tp at_) (hk : k < 12) (hs : s < 12) (hq : (cd k)[at_]? = some q) (htp : tp < 16) (hc : rdC q γ k tp s) (hfd : ∃ i, i < cN γ k ∧ rN γ k i = s) (h9 : γ.1 (nC s) 9 = 0) (hst : γ.1 (nC s) 4 = 0 ∨ StB γ s) (hP : PO cd R d f k tp at_ q m (uF (bw cd d).1 (bw cd d).2 γ s).1 (uF (bw cd d).1 (bw cd d).2 γ s).2) : LKo R f k s tp at_ (rn q).1 m := by
  have hI : (bw cd d).1 γ s = γ := bw_I cd d (by rcases hst with z | z; exact Or.inl z; exact Or.inr (Or.inr z))
  by_cases h4 : γ.1 (nC s) 4 = 0
  · have e : uF (bw cd d).1 (bw cd d).2 γ s = ((γ.1 (nC s) 6).toInt64, γ) := by unfold uF; rw [if_pos h4]
    rw [e] at hP
    exact lk4 h hk hs htp hc h9 (Or.inl h4) (by rw [if_pos h4]) (by rw [if_pos h4]) hP
  · have hSt : StB γ s := by rcases hst with z | z; exact absurd z h4; exact z
    by_cases h3 : γ.1 (nN s) 3 = 0
    · have e : uF (bw cd d).1 (bw cd d).2 γ s = ((mU ((bw cd d).2 γ s) s).2 (nN s) 4, mU ((bw cd d).2 γ s) s) := by
        unfold uF; rw [if_neg h4, hI, if_pos h3]
      rw [e] at hP
      have hrc := h.rl.c s hs
      have hst2 : stM m s = true := (st_R h.rl hs).mpr (Or.inr hSt)
      have hfs := fw_set (x := 1) (by decide) h4 h9 12 (Nat.le_refl _)
      rw [if_pos hs] at hfs
      have hf12 := h.fr12
      have hfd2 := h.fd
      have hPW := (bw_P cd d).2 γ s h.wf hs h4 (by omega)
      have hK : KA γ ((bw cd d).2 γ s) := ((bw_K cd d).2 γ s).a h9
      have hFL : FL γ ((bw cd d).2 γ s) := FL.of_FW hPW.2 h9
      refine ⟨fun z => absurd (by rw [hrc.aw]; exact h9) z, fun _ z => (by rw [hst2] at z; cases z), fun _ _ _ _ => ⟨by omega, ?_⟩, fun _ _ z => ?_, fun _ _ z => ?_⟩
      · refine hW γ (saM m (f + 1) s 2) s (f + 1) h.wf (h.mst.keep (sa_X (f := f + 1) (k := s))) (h.rl.start hs h9) ?_ ?_ ?_ (by omega) (by omega) hs h4 (fun μ' h1 h2 h3' => ?_)
        · unfold saM; rw [ms_r, if_pos ⟨rfl, rfl⟩]
        · unfold saM; simp [ms_r, ml_r, ms_2, ml_1, ad_CC, ad_CN, ad_CR, ad_CY, ad_CK, ad_C0, ad_0C, ad_C99, ad_99C, ad_NN, ad_NC, ad_NR, ad_NY, ad_NK, ad_N0, ad_0N, ad_N99, ad_99N, ad_N98, ad_98N, ad_RR, ad_RC, ad_RN, ad_RY, ad_RK, ad_R0, ad_0R, ad_R99, ad_99R, ad_R98, ad_98R, ad_YY, ad_YC, ad_YN, ad_YR, ad_YK, ad_Y0, ad_0Y, ad_Y99, ad_99Y, ad_Y98, ad_98Y, ad_KK, ad_KC, ad_KN, ad_KR, ad_KY, ad_K0, ad_0K, ad_K99, ad_99K, ad_K98, ad_98K]
        · unfold saM; simp [ms_r, ml_r, ms_2, ml_1, ad_CC, ad_CN, ad_CR, ad_CY, ad_CK, ad_C0, ad_0C, ad_C99, ad_99C, ad_NN, ad_NC, ad_NR, ad_NY, ad_NK, ad_N0, ad_0N, ad_N99, ad_99N, ad_N98, ad_98N, ad_RR, ad_RC, ad_RN, ad_RY, ad_RK, ad_R0, ad_0R, ad_R99, ad_99R, ad_R98, ad_98R, ad_YY, ad_YC, ad_YN, ad_YR, ad_YK, ad_Y0, ad_0Y, ad_Y99, ad_99Y, ad_Y98, ad_98Y, ad_KK, ad_KC, ad_KN, ad_KR, ad_KY, ad_K0, ad_0K, ad_K99, ad_99K, ad_K98, ad_98K]
        have hL : LX (f + 1) 12 m μ' := (LX.trans sa_X h3').toO (by rw [hrc.aw]; exact h9)
        have hE := h.sub hk (by omega) hPW.1 h1 h2 hL hK hFL
        refine look_again hR hE hk hs hq htp (hc.keep hK h.h9) (fd_keep hfd hK h.h9) ?_
        have hS := (bw_S cd d).2 γ s (by omega)
        have h4' : ¬ ((bw cd d).2 γ s).1 (nC s) 4 = 0 := by rw [(hFL s hs).1]; exact h4
        refine lk4 hE hk hs htp (hc.keep hK h.h9) (by rw [(hFL s hs).2]; exact h9) (Or.inr hS) (by rw [if_neg h4']) (by rw [if_neg h4']) ?_
        exact PO.mono hP ((hL.down (by omega)).toX)
      · rcases z with z | z
        · exact absurd (by rw [← hrc.fm]; exact z) h4
        · exact absurd (by rw [hrc.va]; exact h3) z
      · rcases z with z | z
        · exact absurd (by rw [← hrc.fm]; exact z) h4
        · exact absurd (by rw [hrc.va]; exact h3) z
    · have e : uF (bw cd d).1 (bw cd d).2 γ s = ((mU γ s).2 (nN s) 4, mU γ s) := by
        unfold uF; rw [if_neg h4, hI, if_neg h3]
      rw [e] at hP
      exact lk4 h hk hs htp hc h9 (Or.inr ⟨hSt, h3⟩) (by rw [if_neg h4]; rfl) (by rw [if_neg h4]) hP
theorem EV.full {γ m : nMem} (h : EV cd d f k s γ m tp at_) (hn : ¬ γ.1 (nC s) 4 = 0 → ¬ γ.1 (nN s) 2 = 0) : EV cd d f k 12 γ m tp at_ := by
  obtain ⟨a1, a2, a3, a4, a5, ⟨r1, r2, r3⟩, a7, a8, a9, b1⟩ := h
  exact ⟨a1, a2, a3, a4, a5, ⟨r1, fun i hi _ h4 => by
    by_cases e : rN γ k i = s
    · rw [e] at h4 ⊢; exact hn h4
    · exact r2 i hi e h4, r3⟩, a7, a8, a9, b1⟩
theorem lk2 (hR : MR R) (hB : SB cd R d) (hW : SW cd R d) {γ m : nMem} (h : EV cd d f k s γ m tp at_) (hk : k < 12) (hs : s < 12) (hq : (cd k)[at_]? = some q) (htp : tp < 16) (hc : rdC q γ k tp s) (hfd : ∃ i, i < cN γ k ∧ rN γ k i = s) (h9 : γ.1 (nC s) 9 = 0) (hP : PO cd R d f k tp at_ q m (uF (bw cd d).1 (bw cd d).2 γ s).1 (uF (bw cd d).1 (bw cd d).2 γ s).2) : LKo R f k s tp at_ (rn q).1 m := by
  by_cases hst : γ.1 (nC s) 4 = 0 ∨ StB γ s
  · refine lk3 hR hW (h.full ?_) hk hs hq htp hc hfd h9 hst hP
    intro h4
    rcases hst with z | z
    · exact absurd z h4
    · exact z.1
  · have h4 : ¬ γ.1 (nC s) 4 = 0 := fun z => hst (Or.inl z)
    have hns : ¬ StB γ s := fun z => hst (Or.inr z)
    have hst2 : ¬ stM m s = true := fun z => hst ((st_R h.rl hs).mp z)
    have hrc := h.rl.c s hs
    have hp := fw_pos h4 h9 12 hs
    have hf12 := h.fr12
    have hPB := (bw_P cd d).1 γ s h.wf hs h.fd
    have hK := (bw_K cd d).1 γ s
    refine ⟨fun z => absurd (by rw [hrc.aw]; exact h9) z, fun _ _ => ⟨by omega, ?_⟩, fun _ z => absurd z hst2, fun _ z => absurd z hst2, fun _ z => absurd z hst2⟩
    refine hB γ m s (f + 1) h.wf h.mst h.rl h.op (by omega) h.fd hs h4 h9 hns (fun μ' h1 h2 hL => ?_)
    have hS := (bw_S cd d).1 γ s hs h.fd h4 h9
    have hE := (h.sub hk (by omega) hPB.1 h1 h2 hL hK hPB.2).full (fun _ => hS.1)
    have hc' := hc.keep hK h.h9
    have hfd' := fd_keep hfd hK h.h9
    have eI : (bw cd d).1 ((bw cd d).1 γ s) s = (bw cd d).1 γ s := bw_I cd d (Or.inr (Or.inr hS))
    have e : uF (bw cd d).1 (bw cd d).2 ((bw cd d).1 γ s) s = uF (bw cd d).1 (bw cd d).2 γ s := by
      unfold uF
      rw [eI, (hPB.2 s hs).1, if_neg h4, if_neg h4]
    refine look_again hR hE hk hs hq htp hc' hfd' ?_
    refine lk3 hR hW hE hk hs hq htp hc' hfd' (by rw [(hPB.2 s hs).2]; exact h9) (Or.inr hS) ?_
    rw [e]
    exact PO.mono hP ((hL.down (by omega)).toX)
/-- one read -/
theorem look_S (hR : MR R) (hB : SB cd R d) (hW : SW cd R d) {γ m : nMem} (h : EV cd d f k 12 γ m tp at_) (hk : k < 12) (hs : s < 12) (hq : (cd k)[at_]? = some q) (htp : tp < 16) (hc : rdC q γ k tp s) (hP : PO cd R d f k tp at_ q m (gF (bw cd d).1 (bw cd d).2 γ k s).1 (gF (bw cd d).1 (bw cd d).2 γ k s).2) : R m := by
  have hth := (af_R (s := s) h.rl h.fr h.h9 (h.wf k hk).1 h.rd.di hs).2.2.2.2.2
  have hc9 : ∀ i j, (adR γ k s).1 (nC i) j = γ.1 (nC i) j := fun i j => by
    unfold adR
    split
    · rfl
    · simp [ms_r, ml_r, ms_2, ml_1, ad_CC, ad_CN, ad_CR, ad_CY, ad_CK, ad_C0, ad_0C, ad_C99, ad_99C, ad_NN, ad_NC, ad_NR, ad_NY, ad_NK, ad_N0, ad_0N, ad_N99, ad_99N, ad_N98, ad_98N, ad_RR, ad_RC, ad_RN, ad_RY, ad_RK, ad_R0, ad_0R, ad_R99, ad_99R, ad_R98, ad_98R, ad_YY, ad_YC, ad_YN, ad_YR, ad_YK, ad_Y0, ad_0Y, ad_Y99, ad_99Y, ad_Y98, ad_98Y, ad_KK, ad_KC, ad_KN, ad_KR, ad_KY, ad_K0, ad_0K, ad_K99, ad_99K, ad_K98, ad_98K]
  have hcK : (adR γ k s).1 (nK k) = γ.1 (nK k) := by
    unfold adR
    split
    · rfl
    · rw [ms_o (by unfold nK nN; omega), ms_o (by unfold nK nR; omega)]
  refine look_at hR h hk hs hq htp hc hth ?_
  have haf : ∀ b j, ¬ b = 133 → ¬ b = 134 → (afM m f s (rM m f)).1 b j = m.1 b j := fun b j h1 h2 => by
    unfold afM
    split
    · rfl
    · rw [ms_o h1, ms_o h2]
  by_cases h9 : γ.1 (nC s) 9 = 0
  · obtain ⟨hE, hfd⟩ := h.add hk hs h9
    have e : gF (bw cd d).1 (bw cd d).2 γ k s = uF (bw cd d).1 (bw cd d).2 (adR γ k s) s := by
      unfold gF; rw [if_pos (by rw [hc9]; exact h9)]
    rw [e] at hP
    refine lk2 hR hB hW hE hk hs hq htp ?_ hfd (by rw [hc9]; exact h9) (PO.mono hP af_X)
    unfold rdC at hc ⊢
    rw [hcK]
    exact hc
  · have e : gF (bw cd d).1 (bw cd d).2 γ k s = (BADv, adR γ k s) := by
      unfold gF; rw [if_neg (by rw [hc9]; exact h9)]
    rw [e] at hP
    have ha : ¬ (afM m f s (rM m f)).1 135 s = 0 := by
      rw [haf _ _ (by decide) (by decide), (h.rl.c s hs).aw]; exact h9
    refine ⟨fun _ => ?_, fun z => absurd z ha, fun z => absurd z ha, fun z => absurd z ha, fun z => absurd z ha⟩
    refine hP.bad rfl _ (h.ring hk hs h9) wkX_27 ?_
    have hwf := adR_W h.wf hk hs
    have g := ((af_R (s := s) h.rl h.fr h.h9 (h.wf k hk).1 h.rd.di hs).2.1.fo' (hwf k hk).1).1.2.1
    have f2 : rM (ms (afM m f s (rM m f)) 136 f 1) f = rM (afM m f s (rM m f)) f := by
      unfold rM; rw [ms_o (by decide)]
    exact (af_X.trans (LX.st (by omega))).trans (wk_X (by rw [f2]; exact g))
end LL
