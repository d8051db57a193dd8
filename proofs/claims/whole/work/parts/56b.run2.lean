theorem ms_id {γ : nMem} {a j : Nat} {x : Int32} (h : γ.1 a j = x) : ms γ a j x = γ := by
  unfold ms
  refine Prod.ext ?_ rfl
  funext b
  dsimp only
  split
  · rename_i e
    subst e
    funext i
    by_cases hi : i = j
    · subst hi; rw [pk_us, h]
    · rw [pk_un hi]
  · rfl
theorem wF_9 {cd : Nat → pC} {B W : nMem → Nat → nMem} {γ : nMem} {k : Nat} : ms (wF cd B W γ k) (nC k) 9 0 = wF cd B W γ k := by
  unfold wF
  split
  unfold wEnd
  rw [ms_ms]
section OO
variable {cd : Nat → pC} {R : nMem → Prop} {d : Nat}
theorem SB_S (hR : MR R) (hB : SB cd R d) (hW1 : SW cd R (d + 1)) : SB cd R (d + 1) := by
  intro γ μ k f hwf hms hrl hop hf12 hfd hk h4 h9 hns hq
  have hrl1 : REL (ms γ (nC k) 9 1) (saM μ f k 0) := hrl.start hk h9
  have hwf1 : WF cd (ms γ (nC k) 9 1) := hwf.cong (WE.ms (free_C hk (by decide)))
  have hfs := fw_set (x := 1) (by decide) h4 h9 12 (Nat.le_refl _)
  rw [if_pos hk] at hfs
  have hXs : LX f k μ (saM μ f k 0) := sa_X
  have m27 : (saM μ f k 0).1 104 27 = nI (f + 1) := by unfold saM; rw [ms_r, if_pos ⟨rfl, rfl⟩]
  have m128 : (saM μ f k 0).1 128 f = nI k := by unfold saM; simp [ms_r, ml_r, ms_2, ml_1, ad_CC, ad_CN, ad_CR, ad_CY, ad_CK, ad_C0, ad_0C, ad_C99, ad_99C, ad_NN, ad_NC, ad_NR, ad_NY, ad_NK, ad_N0, ad_0N, ad_N99, ad_99N, ad_N98, ad_98N, ad_RR, ad_RC, ad_RN, ad_RY, ad_RK, ad_R0, ad_0R, ad_R99, ad_99R, ad_R98, ad_98R, ad_YY, ad_YC, ad_YN, ad_YR, ad_YK, ad_Y0, ad_0Y, ad_Y99, ad_99Y, ad_Y98, ad_98Y, ad_KK, ad_KC, ad_KN, ad_KR, ad_KY, ad_K0, ad_0K, ad_K99, ad_99K, ad_K98, ad_98K]
  have m129 : (saM μ f k 0).1 129 f = 0 := by unfold saM; simp [ms_r, ml_r, ms_2, ml_1, ad_CC, ad_CN, ad_CR, ad_CY, ad_CK, ad_C0, ad_0C, ad_C99, ad_99C, ad_NN, ad_NC, ad_NR, ad_NY, ad_NK, ad_N0, ad_0N, ad_N99, ad_99N, ad_N98, ad_98N, ad_RR, ad_RC, ad_RN, ad_RY, ad_RK, ad_R0, ad_0R, ad_R99, ad_99R, ad_R98, ad_98R, ad_YY, ad_YC, ad_YN, ad_YR, ad_YK, ad_Y0, ad_0Y, ad_Y99, ad_99Y, ad_Y98, ad_98Y, ad_KK, ad_KC, ad_KN, ad_KR, ad_KY, ad_K0, ad_0K, ad_K99, ad_99K, ad_K98, ad_98K]
  have h135 : μ.1 135 k = 0 := by rw [(hrl.c k hk).aw]; exact h9
  obtain ⟨⟨e, he, he3⟩, _⟩ := (hwf k hk).2.1
  have hrr : RR (ms γ (nC k) 9 1) (saM μ f k 0) k := by
    have := hrl.r k hk h9
    unfold RR at this ⊢
    unfold saM
    simpa [ms_r, ml_r, ms_2, ml_1, ad_CC, ad_CN, ad_CR, ad_CY, ad_CK, ad_C0, ad_0C, ad_C99, ad_99C, ad_NN, ad_NC, ad_NR, ad_NY, ad_NK, ad_N0, ad_0N, ad_N99, ad_99N, ad_N98, ad_98N, ad_RR, ad_RC, ad_RN, ad_RY, ad_RK, ad_R0, ad_0R, ad_R99, ad_99R, ad_R98, ad_98R, ad_YY, ad_YC, ad_YN, ad_YR, ad_YK, ad_Y0, ad_0Y, ad_Y99, ad_99Y, ad_Y98, ad_98Y, ad_KK, ad_KC, ad_KN, ad_KR, ad_KY, ad_K0, ad_0K, ad_K99, ad_99K, ad_K98, ad_98K] using this
  have hrc := hrl1.c k hk
  have g2 : ∀ j, (ms γ (nC k) 9 1).1 (nN k) j = γ.1 (nN k) j := fun j => by simp [ms_r, ml_r, ms_2, ml_1, ad_CC, ad_CN, ad_CR, ad_CY, ad_CK, ad_C0, ad_0C, ad_C99, ad_99C, ad_NN, ad_NC, ad_NR, ad_NY, ad_NK, ad_N0, ad_0N, ad_N99, ad_99N, ad_N98, ad_98N, ad_RR, ad_RC, ad_RN, ad_RY, ad_RK, ad_R0, ad_0R, ad_R99, ad_99R, ad_R98, ad_98R, ad_YY, ad_YC, ad_YN, ad_YR, ad_YK, ad_Y0, ad_0Y, ad_Y99, ad_99Y, ad_Y98, ad_98Y, ad_KK, ad_KC, ad_KN, ad_KR, ad_KY, ad_K0, ad_0K, ad_K99, ad_99K, ad_K98, ad_98K]
  have g5 : (ms γ (nC k) 9 1).1 (nC k) 5 = γ.1 (nC k) 5 := by simp [ms_r, ml_r, ms_2, ml_1, ad_CC, ad_CN, ad_CR, ad_CY, ad_CK, ad_C0, ad_0C, ad_C99, ad_99C, ad_NN, ad_NC, ad_NR, ad_NY, ad_NK, ad_N0, ad_0N, ad_N99, ad_99N, ad_N98, ad_98N, ad_RR, ad_RC, ad_RN, ad_RY, ad_RK, ad_R0, ad_0R, ad_R99, ad_99R, ad_R98, ad_98R, ad_YY, ad_YC, ad_YN, ad_YR, ad_YK, ad_Y0, ad_0Y, ad_Y99, ad_99Y, ad_Y98, ad_98Y, ad_KK, ad_KC, ad_KN, ad_KR, ad_KY, ad_K0, ad_0K, ad_K99, ad_99K, ad_K98, ad_98K]
  have g98 : ∀ j, (ms γ (nC k) 9 1).1 98 j = γ.1 98 j := fun j => by simp [ms_r, ml_r, ms_2, ml_1, ad_CC, ad_CN, ad_CR, ad_CY, ad_CK, ad_C0, ad_0C, ad_C99, ad_99C, ad_NN, ad_NC, ad_NR, ad_NY, ad_NK, ad_N0, ad_0N, ad_N99, ad_99N, ad_N98, ad_98N, ad_RR, ad_RC, ad_RN, ad_RY, ad_RK, ad_R0, ad_0R, ad_R99, ad_99R, ad_R98, ad_98R, ad_YY, ad_YC, ad_YN, ad_YR, ad_YK, ad_Y0, ad_0Y, ad_Y99, ad_99Y, ad_Y98, ad_98Y, ad_KK, ad_KC, ad_KN, ad_KR, ad_KY, ad_K0, ad_0K, ad_K99, ad_99K, ad_K98, ad_98K, a98 hk]
  have h41 : ¬ (ms γ (nC k) 9 1).1 (nC k) 4 = 0 := by simpa [ms_r, ml_r, ms_2, ml_1, ad_CC, ad_CN, ad_CR, ad_CY, ad_CK, ad_C0, ad_0C, ad_C99, ad_99C, ad_NN, ad_NC, ad_NR, ad_NY, ad_NK, ad_N0, ad_0N, ad_N99, ad_99N, ad_N98, ad_98N, ad_RR, ad_RC, ad_RN, ad_RY, ad_RK, ad_R0, ad_0R, ad_R99, ad_99R, ad_R98, ad_98R, ad_YY, ad_YC, ad_YN, ad_YR, ad_YK, ad_Y0, ad_0Y, ad_Y99, ad_99Y, ad_Y98, ad_98Y, ad_KK, ad_KC, ad_KN, ad_KR, ad_KY, ad_K0, ad_0K, ad_K99, ad_99K, ad_K98, ad_98K] using h4
  have h91 : ¬ (ms γ (nC k) 9 1).1 (nC k) 9 = 0 := by simp [ms_r, ml_r, ms_2, ml_1, ad_CC, ad_CN, ad_CR, ad_CY, ad_CK, ad_C0, ad_0C, ad_C99, ad_99C, ad_NN, ad_NC, ad_NR, ad_NY, ad_NK, ad_N0, ad_0N, ad_N99, ad_99N, ad_N98, ad_98N, ad_RR, ad_RC, ad_RN, ad_RY, ad_RK, ad_R0, ad_0R, ad_R99, ad_99R, ad_R98, ad_98R, ad_YY, ad_YC, ad_YN, ad_YR, ad_YK, ad_Y0, ad_0Y, ad_Y99, ad_99Y, ad_Y98, ad_98Y, ad_KK, ad_KC, ad_KN, ad_KR, ad_KY, ad_K0, ad_0K, ad_K99, ad_99K, ad_K98, ad_98K]
  have ebw : bw cd (d + 1) = (bF cd (bw cd d).1 (bw cd d).2, wF cd (bw cd d).1 (bw cd d).2) := rfl
  have ebF : (bw cd (d + 1)).1 γ k = ms (bIn cd (bw cd d).1 (bw cd d).2 (ms γ (nC k) 9 1) k) (nC k) 9 0 := by
    rw [ebw]
    show bF cd _ _ γ k = _
    unfold bF
    rw [if_neg h4, if_neg (by simp [h9])]
    exact if_neg hns
  rw [ebF] at hq
  have e98 : (saM μ f k 0).1 106 e = γ.1 98 e := by rw [hrl1.w.ch e he3, g98]
  have ecl : (γ.1 (nN k) 7).toNatClampNeg = e := by rw [he, nI_clamp (by omega)]
  -- working out from a frame of mode 2
  have hwork : ∀ (γ' μ' : nMem), WF cd γ' → MS cd μ' → REL γ' μ' → FL (ms γ (nC k) 9 1) γ' → μ'.1 104 27 = nI (f + 1) → μ'.1 128 f = nI k → μ'.1 129 f = 2 → LX f k μ μ' → ruF (bw cd d).1 (ms γ (nC k) 9 1) k = (false, γ') → ((ms γ (nC k) 9 1).1 (nN k) 2 = 0 ∨ ¬ (ms γ (nC k) 9 1).1 98 ((ms γ (nC k) 9 1).1 (nN k) 7).toNatClampNeg ≤ (ms γ (nC k) 9 1).1 (nN k) 5) → R μ' := by
    intro γ' μ' w1 w2 w3 w4 w5 w6 w7 w8 w9 wc
    have e9 : γ'.1 (nC k) 9 = 1 := by rw [(w4 k hk).2]; simp [ms_r, ml_r, ms_2, ml_1, ad_CC, ad_CN, ad_CR, ad_CY, ad_CK, ad_C0, ad_0C, ad_C99, ad_99C, ad_NN, ad_NC, ad_NR, ad_NY, ad_NK, ad_N0, ad_0N, ad_N99, ad_99N, ad_N98, ad_98N, ad_RR, ad_RC, ad_RN, ad_RY, ad_RK, ad_R0, ad_0R, ad_R99, ad_99R, ad_R98, ad_98R, ad_YY, ad_YC, ad_YN, ad_YR, ad_YK, ad_Y0, ad_0Y, ad_Y99, ad_99Y, ad_Y98, ad_98Y, ad_KK, ad_KC, ad_KN, ad_KR, ad_KY, ad_K0, ad_0K, ad_K99, ad_99K, ad_K98, ad_98K]
    have e4 : ¬ γ'.1 (nC k) 4 = 0 := by rw [(w4 k hk).1]; exact h41
    have efw := fw_FL w4 12 (Nat.le_refl _)
    refine hW1 γ' μ' k f w1 w2 (by rw [ms_id e9]; exact w3) w5 w6 w7 (by rw [ms_id e9]; omega) (by rw [ms_id e9]; omega) hk e4 (fun μ2 p1 p2 p3 => ?_)
    refine hq μ2 ?_ p2 ((w8.trans p3).toO h135)
    have : bIn cd (bw cd d).1 (bw cd d).2 (ms γ (nC k) 9 1) k = wF cd (bw cd d).1 (bw cd d).2 γ' k := by
      unfold bIn
      rw [if_pos wc, w9]
    rw [this, wF_9]
    rw [ebw] at p1
    exact p1
  refine hR.enter (saM μ f k 0) f k e (by have := fw_pos h4 h9 12 hk; omega) hk m27 m128 m129 (fun z => ?_) he3 (fun z y => ?_) (fun z => ?_)
  · rw [hrc.no] at z
    rw [(hrc.ve z).2.2, g2]; exact he
  · have hn : ¬ (ms γ (nC k) 9 1).1 (nN k) 2 = 0 := by rw [← hrc.no]; exact z
    have hpass : bIn cd (bw cd d).1 (bw cd d).2 (ms γ (nC k) 9 1) k = vfy (ms γ (nC k) 9 1) k 2 := by
      unfold bIn
      rw [if_neg]
      intro w
      rcases w with w | w
      · exact hn w
      · apply w
        rw [g98, g2, g2, ecl, ← e98]
        rw [(hrc.ve hn).1, g2] at y
        exact Int32.not_lt.mp y
    rw [hpass] at hq
    refine hq _ (hrl1.pass hk hn hrr) ?_ ?_
    · unfold fiM; rw [ms_o (by decide), ms_r, if_pos ⟨rfl, rfl⟩]
    · exact (hXs.trans ((cn_X.trans (LX.st (by omega))).trans fi_X)).toO h135
  · have wc : (ms γ (nC k) 9 1).1 (nN k) 2 = 0 ∨ ¬ (ms γ (nC k) 9 1).1 98 ((ms γ (nC k) 9 1).1 (nN k) 7).toNatClampNeg ≤ (ms γ (nC k) 9 1).1 (nN k) 5 := by
      by_cases hn : (ms γ (nC k) 9 1).1 (nN k) 2 = 0
      · exact Or.inl hn
      · right
        rcases z with z | z
        · exact absurd (by rw [← hrc.no]; exact z) hn
        · rw [g98, g2, g2, ecl, ← e98]
          rw [(hrc.ve hn).1, g2] at z
          exact Int32.not_le.mpr z
    have hX2 : ∀ x, LX f k μ (ms (ms (saM μ f k 0) 130 f 0) 129 f x) := fun x => (hXs.trans (LX.st (by omega))).trans (LX.st (by omega))
    have hrl2 : ∀ x, REL (ms γ (nC k) 9 1) (ms (ms (saM μ f k 0) 130 f 0) 129 f x) := fun x => (hrl1.fs (by omega)).fs (by omega)
    have o27 : ∀ x, (ms (ms (saM μ f k 0) 130 f 0) 129 f x).1 104 27 = nI (f + 1) := fun x => by rw [ms_o (by decide), ms_o (by decide)]; exact m27
    have o128 : ∀ x, (ms (ms (saM μ f k 0) 130 f 0) 129 f x).1 128 f = nI k := fun x => by rw [ms_o (by decide), ms_o (by decide)]; exact m128
    have o129 : ∀ x, (ms (ms (saM μ f k 0) 130 f 0) 129 f x).1 129 f = x := fun x => by rw [ms_r, if_pos ⟨rfl, rfl⟩]
    by_cases hn : (saM μ f k 0).1 117 k = 0
    · rw [if_pos hn]
      have hru : ruF (bw cd d).1 (ms γ (nC k) 9 1) k = (false, ms γ (nC k) 9 1) := by
        unfold ruF; rw [if_pos (by rw [← hrc.no]; exact hn)]
      exact hwork _ _ hwf1 (hms.keep (hX2 2)) (hrl2 2) FL.rfl (o27 2) (o128 2) (o129 2) (hX2 2) hru wc
    · rw [if_neg hn]
      have hn2 : ¬ (ms γ (nC k) 9 1).1 (nN k) 2 = 0 := by rw [← hrc.no]; exact hn
      by_cases ha : (saM μ f k 0).1 120 k < (saM μ f k 0).1 113 k
      · rw [if_pos ha]
        have hru : ruF (bw cd d).1 (ms γ (nC k) 9 1) k = (false, ms γ (nC k) 9 1) := by
          unfold ruF
          rw [if_neg hn2, if_neg]
          rw [← hrc.al, ← (hrc.ve hn2).1]
          exact Int32.not_le.mpr ha
        exact hwork _ _ hwf1 (hms.keep (hX2 2)) (hrl2 2) FL.rfl (o27 2) (o128 2) (o129 2) (hX2 2) hru wc
      · rw [if_neg ha]
        have hru : ruF (bw cd d).1 (ms γ (nC k) 9 1) k = ruL (bw cd d).1 k 13 (ms γ (nC k) 9 1) 0 := by
          unfold ruF
          rw [if_neg hn2, if_pos]
          rw [← hrc.al, ← (hrc.ve hn2).1]
          exact Int32.not_lt.mp ha
        have hTV : TV cd d f k 0 (ms γ (nC k) 9 1) (ms (ms (saM μ f k 0) 130 f 0) 129 f 1) := by
          refine ⟨hwf1, hms.keep (hX2 1), hrl2 1, o27 1, o128 1, o129 1, ?_, ?_, hn2, h41, h91, by omega, by omega, fun j hj => by omega⟩
          · rw [ms_o (by decide), ms_r, if_pos ⟨rfl, rfl⟩]; rfl
          · unfold RR at hrr ⊢
            have x1 : (ms (ms (saM μ f k 0) 130 f 0) 129 f 1).1 123 = (saM μ f k 0).1 123 := by rw [ms_o (by decide), ms_o (by decide)]
            have x2 : (ms (ms (saM μ f k 0) 130 f 0) 129 f 1).1 124 = (saM μ f k 0).1 124 := by rw [ms_o (by decide), ms_o (by decide)]
            rw [x1, x2]
            exact hrr
        refine thru_S hR hB hk 13 0 _ _ rfl hTV (Nat.zero_le _) (fun t μ' p1 p2 p3 => ?_) (fun t μ' p1 p2 p3 p4 p5 p6 p7 p8 => ?_)
        · refine hq μ' ?_ p2 (((hX2 1).trans p3).toO h135)
          have : bIn cd (bw cd d).1 (bw cd d).2 (ms γ (nC k) 9 1) k = vfy (ms (ruL (bw cd d).1 k 13 (ms γ (nC k) 9 1) 0).2 (nN k) 7 (lst (ruL (bw cd d).1 k 13 (ms γ (nC k) 9 1) 0).2 k)) k 1 := by
            unfold bIn
            rw [if_pos wc, hru]
            rcases e2 : ruL (bw cd d).1 k 13 (ms γ (nC k) 9 1) 0 with ⟨b, u⟩
            rw [e2] at t
            dsimp only at t
            subst t
            rfl
          rw [this]
          exact p1
        · exact hwork _ μ' p1 p2 p3 p7 p4 p5 p6 ((hX2 1).trans p8) (by
            rw [hru]
            rcases e2 : ruL (bw cd d).1 k 13 (ms γ (nC k) 9 1) 0 with ⟨b, u⟩
            rw [e2] at t
            dsimp only at t
            subst t
            rfl) wc
end OO
theorem S_all {cd : Nat → pC} {R : nMem → Prop} (hR : MR R) : ∀ d, SB cd R d ∧ SW cd R d := by
  intro d
  induction d with
  | zero => exact ⟨fun γ μ k f _ _ _ _ _ hfd hk h4 h9 _ _ => (Nat.not_succ_le_zero _ (Nat.le_trans (fw_pos h4 h9 12 hk) hfd)).elim, fun γ μ k f _ _ _ _ _ _ _ h => (Nat.not_lt_zero _ h).elim⟩
  | succ d ih =>
    have hw := SW_S hR ih.1 ih.2
    exact ⟨SB_S hR ih.1 hw, hw⟩
