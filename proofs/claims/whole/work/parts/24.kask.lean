/-! asking: the contracts -/
def KB (L : Nat) (xs : Nat → Int32) (cd : Nat → pC) (d : Nat) (B : nMem → Nat → nMem) (dep : Nat) : Prop := ∀ (dd : Nat) (Q : ax_Q) (μ : nMem) (k : Nat), WF cd μ → k < 12 → fw μ 12 ≤ d → Q none (ns_rep (B μ k)) → nM L xs (dd + dep) 16 [.ref 0, .ref (nC k)] (ns_rep μ) Q
def KW (L : Nat) (xs : Nat → Int32) (cd : Nat → pC) (d : Nat) (W : nMem → Nat → nMem) (dep : Nat) : Prop := ∀ (dd : Nat) (Q : ax_Q) (μ : nMem) (k : Nat), WF cd μ → k < 12 → ¬ μ.1 (nC k) 4 = 0 → fw (ms μ (nC k) 9 1) 12 < d → Q none (ns_rep (W μ k)) → nM L xs (dd + dep) 20 [.ref 0, .ref (nC k)] (ns_rep μ) Q
def KU (L : Nat) (xs : Nat → Int32) (cd : Nat → pC) (d : Nat) (B W : nMem → Nat → nMem) (dep : Nat) : Prop := ∀ (dd : Nat) (Q : ax_Q) (μ : nMem) (k : Nat), WF cd μ → k < 12 → μ.1 (nC k) 9 = 0 → fw μ 12 ≤ d → Q (some (.long (uF B W μ k).1)) (ns_rep (uF B W μ k).2) → nM L xs (dd + dep) 15 [.ref 0, .ref (nC k)] (ns_rep μ) Q
def KG (L : Nat) (xs : Nat → Int32) (cd : Nat → pC) (d : Nat) (B W : nMem → Nat → nMem) (dep : Nat) : Prop := ∀ (dd : Nat) (Q : ax_Q) (μ : nMem) (k s : Nat), WF cd μ → k < 12 → s < 12 → fw μ 12 ≤ d → Q (some (.long (gF B W μ k s).1)) (ns_rep (gF B W μ k s).2) → nM L xs (dd + dep) 24 [.ref 0, .ref (nC k), .int (nI s)] (ns_rep μ) Q
theorem c_adR {L : Nat} {xs : Nat → Int32} {d : Nat} {Q : ax_Q} {cd : Nat → pC} {μ : nMem} {k s : Nat} (h : WF cd μ) (hk : k < 12) (hq : Q none (ns_rep (adR μ k s))) : nM L xs (d + 1) 92 [.ref (nN k), .int (nI s)] (ns_rep μ) Q := by
  obtain ⟨n1, n2, n3⟩ := (h k hk).1.n
  refine c_O_addRead hk n1 n2 (fun z => ?_) (fun z hn => ?_) (fun z hn => ?_)
  · unfold adR at hq; rw [if_pos (Or.inl z)] at hq; exact hq
  · unfold adR at hq
    rw [if_neg (fun y => y.elim (fun ⟨i, hi, e⟩ => z i hi e) (fun e => by omega))] at hq
    exact hq
  · unfold adR at hq; rw [if_pos (Or.inr hn)] at hq; exact hq

theorem k_up {L : Nat} {xs : Nat → Int32} {cd : Nat → pC} {d e : Nat} {B W : nMem → Nat → nMem} (hB : KB L xs cd d B (e + 2)) (hW : KW L xs cd d W (e + 2)) (pB : PB cd d B) : KU L xs cd d B W (e + 3) := by
  intro dd Q μ k h hk h9 hf hq
  show nM L xs ((dd + e + 2) + 1) _ _ _ _
  refine nM.of ns_I_N_upToDateValue rfl (ls := [_, _]) (Nat.le_of_ble_eq_true rfl) rfl ?_
  refine aw_aload_n (pc' := 1) nd_N_upToDateValue_0 rfl rfl rfl ?_
  refine aw_get (pc' := 4) nd_N_upToDateValue_1 rfl nF_0_84 (g_C_hasFormula (by assumption)) ?_
  refine aw_if_ne (pc' := 7) (tg := 13) nd_N_upToDateValue_4 (by decide) rfl (fun hb4 => ?_) (fun hb4 => ?_)
  · skip
    refine aw_aload_n (pc' := 14) nd_N_upToDateValue_13 rfl rfl rfl ?_
    refine aw_aload_n (pc' := 15) nd_N_upToDateValue_14 rfl rfl rfl ?_
    refine aw_callV (pc' := 18) (as := [_]) (st := []) nd_N_upToDateValue_15 rfl nC_0_163 ⟨(Nat.le_of_ble_eq_true rfl), rfl, rfl⟩ ns_ioN (Nat.le_of_ble_eq_true rfl) (Nat.le_of_ble_eq_true rfl) (Nat.le_of_ble_eq_true rfl) ?_
    refine hB dd _ μ k h hk hf ?_
    obtain ⟨b1, b2⟩ := pB μ k h hk hf
    show nW _ _ _ _ _ 18 _ [] _ _ _
    refine aw_aload_n (pc' := 19) nd_N_upToDateValue_18 rfl rfl rfl ?_
    refine aw_get (pc' := 22) nd_N_upToDateValue_19 rfl nF_0_113 (g_C_note (by assumption)) ?_
    refine aw_get (pc' := 25) nd_N_upToDateValue_22 rfl nF_0_128 (g_O_hasValue (by assumption)) ?_
    refine aw_if_ne (pc' := 28) (tg := 33) nd_N_upToDateValue_25 (by decide) rfl (fun hb25 => ?_) (fun hb25 => ?_)
    · skip
      refine aw_aload_n (pc' := 34) nd_N_upToDateValue_33 rfl rfl rfl ?_
      refine aw_aload_n (pc' := 35) nd_N_upToDateValue_34 rfl rfl rfl ?_
      refine aw_callV (pc' := 38) (as := [_]) (st := []) nd_N_upToDateValue_35 rfl nC_0_169 ⟨(Nat.le_of_ble_eq_true rfl), rfl, rfl⟩ ns_ioN (Nat.le_of_ble_eq_true rfl) (Nat.le_of_ble_eq_true rfl) (Nat.le_of_ble_eq_true rfl) ?_
      refine c_N_markUsed hk ?_
      show nW _ _ _ _ _ 38 _ [] _ _ _
      refine aw_aload_n (pc' := 39) nd_N_upToDateValue_38 rfl rfl rfl ?_
      refine aw_get (pc' := 42) nd_N_upToDateValue_39 rfl nF_0_113 (g_C_note (by assumption)) ?_
      refine aw_get (pc' := 45) nd_N_upToDateValue_42 rfl nF_0_172 (g_O_value (by assumption)) ?_
      refine aw_lreturn nd_N_upToDateValue_45 rfl (Nat.le_of_ble_eq_true rfl) (Nat.le_of_ble_eq_true rfl) ?_
      unfold uF at hq
      first
        | (rw [if_pos hb4] at hq; exact hq)
        | (rw [if_neg hb4, if_pos hb25] at hq; exact hq)
        | (rw [if_neg hb4, if_neg hb25] at hq; exact hq)
    · skip
      refine aw_aload_n (pc' := 29) nd_N_upToDateValue_28 rfl rfl rfl ?_
      refine aw_aload_n (pc' := 30) nd_N_upToDateValue_29 rfl rfl rfl ?_
      refine aw_callV (pc' := 33) (as := [_]) (st := []) nd_N_upToDateValue_30 rfl nC_0_166 ⟨(Nat.le_of_ble_eq_true rfl), rfl, rfl⟩ ns_ioN (Nat.le_of_ble_eq_true rfl) (Nat.le_of_ble_eq_true rfl) (Nat.le_of_ble_eq_true rfl) ?_
      refine hW dd _ (B μ k) k b1 hk (by rw [(b2 k hk).1]; exact hb4) (by
          have hfw := fw_set (μ := B μ k) (k := k) (x := 1) (by decide) (by rw [(b2 k hk).1]; exact hb4) (by rw [(b2 k hk).2]; exact h9) 12 (by omega)
          rw [if_pos hk, fw_FL b2 12 (by omega)] at hfw
          omega) ?_
      show nW _ _ _ _ _ 33 _ [] _ _ _
      refine aw_aload_n (pc' := 34) nd_N_upToDateValue_33 rfl rfl rfl ?_
      refine aw_aload_n (pc' := 35) nd_N_upToDateValue_34 rfl rfl rfl ?_
      refine aw_callV (pc' := 38) (as := [_]) (st := []) nd_N_upToDateValue_35 rfl nC_0_169 ⟨(Nat.le_of_ble_eq_true rfl), rfl, rfl⟩ ns_ioN (Nat.le_of_ble_eq_true rfl) (Nat.le_of_ble_eq_true rfl) (Nat.le_of_ble_eq_true rfl) ?_
      refine c_N_markUsed hk ?_
      show nW _ _ _ _ _ 38 _ [] _ _ _
      refine aw_aload_n (pc' := 39) nd_N_upToDateValue_38 rfl rfl rfl ?_
      refine aw_get (pc' := 42) nd_N_upToDateValue_39 rfl nF_0_113 (g_C_note (by assumption)) ?_
      refine aw_get (pc' := 45) nd_N_upToDateValue_42 rfl nF_0_172 (g_O_value (by assumption)) ?_
      refine aw_lreturn nd_N_upToDateValue_45 rfl (Nat.le_of_ble_eq_true rfl) (Nat.le_of_ble_eq_true rfl) ?_
      unfold uF at hq
      first
        | (rw [if_pos hb4] at hq; exact hq)
        | (rw [if_neg hb4, if_pos hb25] at hq; exact hq)
        | (rw [if_neg hb4, if_neg hb25] at hq; exact hq)
  · skip
    refine aw_aload_n (pc' := 8) nd_N_upToDateValue_7 rfl rfl rfl ?_
    refine aw_get (pc' := 11) nd_N_upToDateValue_8 rfl nF_0_88 (g_C_number (by assumption)) ?_
    refine aw_i2l (pc' := 12) nd_N_upToDateValue_11 rfl ?_
    refine aw_lreturn nd_N_upToDateValue_12 rfl (Nat.le_of_ble_eq_true rfl) (Nat.le_of_ble_eq_true rfl) ?_
    unfold uF at hq
    first
      | (rw [if_pos hb4] at hq; exact hq)
      | (rw [if_neg hb4, if_pos hb25] at hq; exact hq)
      | (rw [if_neg hb4, if_neg hb25] at hq; exact hq)

theorem k_give {L : Nat} {xs : Nat → Int32} {cd : Nat → pC} {d e : Nat} {B W : nMem → Nat → nMem} (hU : KU L xs cd d B W (e + 2)) : KG L xs cd d B W (e + 3) := by
  intro dd Q μ k s h hk hs hf hq
  show nM L xs ((dd + e + 2) + 1) _ _ _ _
  refine nM.of ns_I_N_giveTo rfl (ls := [_, _, _, _]) (Nat.le_of_ble_eq_true rfl) rfl ?_
  refine aw_aload_n (pc' := 1) nd_N_giveTo_0 rfl rfl rfl ?_
  refine aw_get (pc' := 4) nd_N_giveTo_1 rfl nF_0_113 (g_C_note (by assumption)) ?_
  refine aw_iload_n (pc' := 5) nd_N_giveTo_4 rfl rfl ?_
  refine aw_callV (pc' := 8) (as := [_]) (st := []) nd_N_giveTo_5 rfl nC_0_237 ⟨(Nat.le_of_ble_eq_true rfl), rfl, rfl⟩ (ns_ioO (by assumption)) (Nat.le_of_ble_eq_true rfl) (Nat.le_of_ble_eq_true rfl) (Nat.le_of_ble_eq_true rfl) ?_
  refine c_adR h hk ?_
  show nW _ _ _ _ _ 8 _ [] _ _ _
  refine aw_aload_n (pc' := 9) nd_N_giveTo_8 rfl rfl rfl ?_
  refine aw_get (pc' := 12) nd_N_giveTo_9 rfl nF_0_24 g_N_cells ?_
  refine aw_iload_n (pc' := 13) nd_N_giveTo_12 rfl rfl ?_
  refine aw_cells (pc' := 14) nd_N_giveTo_13 rfl s rfl hs ?_
  refine aw_astore_n (pc' := 15) (ls' := [_, _, _, _]) nd_N_giveTo_14 rfl rfl (Nat.le_of_ble_eq_true rfl) rfl ?_
  refine aw_aload_n (pc' := 16) nd_N_giveTo_15 rfl rfl rfl ?_
  refine aw_get (pc' := 19) nd_N_giveTo_16 rfl nF_0_176 (g_C_atWork (by assumption)) ?_
  refine aw_if_eq (pc' := 22) (tg := 28) nd_N_giveTo_19 (by decide) rfl (fun hb19 => ?_) (fun hb19 => ?_)
  · skip
    refine aw_aload_n (pc' := 29) nd_N_giveTo_28 rfl rfl rfl ?_
    refine aw_aload_n (pc' := 30) nd_N_giveTo_29 rfl rfl rfl ?_
    refine aw_callV (pc' := 33) (as := [_]) (st := []) nd_N_giveTo_30 rfl nC_0_100 ⟨(Nat.le_of_ble_eq_true rfl), rfl, rfl⟩ ns_ioN (Nat.le_of_ble_eq_true rfl) (Nat.le_of_ble_eq_true rfl) (Nat.le_of_ble_eq_true rfl) ?_
    refine hU dd _ (adR μ k s) s (adR_W h hk hs) hs hb19 (by rw [fw_FL adR_L 12 (by omega)]; exact hf) ?_
    show nW _ _ _ _ _ 33 _ [_] _ _ _
    refine aw_lreturn nd_N_giveTo_33 rfl (Nat.le_of_ble_eq_true rfl) (Nat.le_of_ble_eq_true rfl) ?_
    unfold gF at hq
    first
      | (rw [if_pos hb19] at hq; exact hq)
      | (rw [if_neg hb19] at hq; exact hq)
  · skip
    refine aw_ldc2 (pc' := 25) nd_N_giveTo_22 rfl nK_0_231 ?_
    refine aw_goto (pc' := 33) nd_N_giveTo_25 (by decide) ?_
    refine aw_lreturn nd_N_giveTo_33 rfl (Nat.le_of_ble_eq_true rfl) (Nat.le_of_ble_eq_true rfl) ?_
    unfold gF at hq
    first
      | (rw [if_pos hb19] at hq; exact hq)
      | (rw [if_neg hb19] at hq; exact hq)

theorem l_eval {L : Nat} {xs : Nat → Int32} {cd : Nat → pC} {d e : Nat} {B W : nMem → Nat → nMem} {k : Nat} (hk : k < 12) (hG : KG L xs cd d B W (e + 2)) (pG : ∀ μ s, WF cd μ → s < 12 → fw μ 12 ≤ d → WF cd (gF B W μ k s).2 ∧ FL μ (gF B W μ k s).2) {ht : Nat → Nat} (h15 : ∀ i, i ≤ (cd k).length → ht i ≤ 15)
    (hT : ∀ (i : Nat) (q : Nat × Nat), (cd k)[i]? = some q → (q.1 = 0 ∧ ht (i + 1) = ht i + 1 ∧ q.2 < 10000) ∨ (q.1 = 1 ∧ ht (i + 1) = ht i + 1 ∧ q.2 < 12) ∨ ((q.1 = 2 ∨ q.1 = 3) ∧ 1 ≤ ht i ∧ ht (i + 1) = ht i ∧ q.2 < 10000) ∨ (q.1 = 4 ∧ 1 ≤ ht i ∧ ht (i + 1) + 1 = ht i ∧ ht q.2 + 1 = ht i ∧ i < q.2 ∧ q.2 ≤ (cd k).length) ∨ (q.1 = 5 ∧ ht q.2 = ht i ∧ i < q.2 ∧ q.2 ≤ (cd k).length) ∨ ((6 ≤ q.1 ∧ q.1 ≤ 10) ∧ 2 ≤ ht i ∧ ht (i + 1) + 1 = ht i ∧ q.2 < 10000)) :
    ∀ (g j dd : Nat) (Q : ax_Q) (μ : nMem) (tp at_ : Nat) (o7 o8 o9 o10 o11 : Option Value), g + j = 30 → WF cd μ → ¬ μ.1 (nC k) 4 = 0 → fw μ 12 ≤ d → tp = ht at_ → at_ ≤ (cd k).length → Q (some (.long (evl (fun m s => gF B W m k s) (cd k) k g μ tp at_).1)) (ns_rep (evl (fun m s => gF B W m k s) (cd k) k g μ tp at_).2) → nW L xs (dd + e + 2) ns_I_N_evaluate Q 19 [some (.ref 0), some (.ref (nC k)), some (.ref (nF k)), some (.ref (nK k)), some (.int (nI tp)), some (.int (nI at_)), some (.int (nI j)), o7, o8, o9, o10, o11] [] 0 0 (ns_rep μ) := by
  have hk13 : k < 13 := by omega
  intro g
  induction g with
  | zero =>
    intro j dd Q μ tp at_ o7 o8 o9 o10 o11 hg h h4 hf htp hat hq
    obtain rfl : j = 30 := by omega
    refine aw_iload (pc' := 21) nd_N_evaluate_19 rfl rfl ?_
    refine aw_bipush (pc' := 23) (x := 30) nd_N_evaluate_21 rfl (by decide) ?_
    refine aw_icmp_ge (pc' := 26) (tg := 243) nd_N_evaluate_23 (by decide) rfl (fun _ => ?_) (fun hx => absurd (by decide) hx)
    refine aw_aload_n (pc' := 244) nd_N_evaluate_243 rfl rfl rfl ?_
    refine aw_iconst (pc' := 245) (x := 0) nd_N_evaluate_244 rfl (by decide) ?_
    refine aw_iald (pc' := 246) nd_N_evaluate_245 rfl (ga_K hk) 0 (by decide) (by decide) ?_
    refine aw_i2l (pc' := 247) nd_N_evaluate_246 rfl ?_
    refine aw_lreturn nd_N_evaluate_247 rfl (Nat.le_of_ble_eq_true rfl) (Nat.le_of_ble_eq_true rfl) ?_
    exact hq
  | succ g ih =>
    intro j dd Q μ tp at_ o7 o8 o9 o10 o11 hg h h4 hf htp hat hq
    obtain ⟨-, hlen, hcnt, hst⟩ := (h k hk).2.2 h4
    have hh := h15 at_ hat
    by_cases hal : at_ = (cd k).length
    · subst hal
      have hnone : (cd k)[(cd k).length]? = none := List.getElem?_eq_none (Nat.le_refl _)
      rw [evl, hnone] at hq
      refine aw_iload (pc' := 21) nd_N_evaluate_19 rfl rfl ?_
      refine aw_bipush (pc' := 23) (x := 30) nd_N_evaluate_21 rfl (by decide) ?_
      refine aw_icmp_ge (pc' := 26) (tg := 243) nd_N_evaluate_23 (by decide) rfl (fun hx => absurd hx (nI_ge (b := 30) (by omega) (by decide))) (fun _ => ?_)
      refine aw_iload (pc' := 28) nd_N_evaluate_26 rfl rfl ?_
      refine aw_aload_n (pc' := 29) nd_N_evaluate_28 rfl rfl rfl ?_
      refine aw_get (pc' := 32) nd_N_evaluate_29 rfl nF_0_214 (g_F_stepCount (by assumption)) ?_
      refine aw_icmp_ge (pc' := 35) (tg := 243) nd_N_evaluate_32 (by decide) rfl (fun _ => ?_) (fun hx => absurd (by rw [hcnt]; exact nI_le (Nat.le_refl _) (by omega)) hx)
      refine aw_aload_n (pc' := 244) nd_N_evaluate_243 rfl rfl rfl ?_
      refine aw_iconst (pc' := 245) (x := 0) nd_N_evaluate_244 rfl (by decide) ?_
      refine aw_iald (pc' := 246) nd_N_evaluate_245 rfl (ga_K hk) 0 (by decide) (by decide) ?_
      refine aw_i2l (pc' := 247) nd_N_evaluate_246 rfl ?_
      refine aw_lreturn nd_N_evaluate_247 rfl (Nat.le_of_ble_eq_true rfl) (Nat.le_of_ble_eq_true rfl) ?_
      exact hq
    have hlt : at_ < (cd k).length := by omega
    rcases hcs : (cd k)[at_]? with _ | ⟨op, ar⟩
    · exact absurd (List.getElem?_eq_none_iff.mp hcs) (by omega)
    have hen := hst at_ (op, ar) hcs
    have hty := hT at_ (op, ar) hcs
    dsimp only at hty
    have hbd : op ≤ 10 ∧ ar < 10000 := by omega
    have hdv : μ.1 (nS k) at_ / 10000 = nI op := by rw [hen]; exact en_div hbd.1 hbd.2
    have hrm : μ.1 (nS k) at_ - μ.1 (nS k) at_ / 10000 * 10000 = nI ar := by rw [hen]; exact en_rem hbd.1 hbd.2
    rw [evl, hcs] at hq
    dsimp only at hq
    have keep : ∀ (i : Nat) (x : Int32) (μ1 : nMem), WF cd μ1 → FL μ μ1 → WF cd (ms μ1 (nK k) i x) ∧ ¬ (ms μ1 (nK k) i x).1 (nC k) 4 = 0 ∧ fw (ms μ1 (nK k) i x) 12 ≤ d := by
      intro i x μ1 w l
      have l2 : FL μ (ms μ1 (nK k) i x) := l.trans (FL.ms fl_K)
      exact ⟨w.cong (WE.ms (free_K hk)), by rw [(l2 k hk).1]; exact h4, by rw [fw_FL l2 12 (by omega)]; exact hf⟩
    refine aw_iload (pc' := 21) nd_N_evaluate_19 rfl rfl ?_
    refine aw_bipush (pc' := 23) (x := 30) nd_N_evaluate_21 rfl (by decide) ?_
    refine aw_icmp_ge (pc' := 26) (tg := 243) nd_N_evaluate_23 (by decide) rfl (fun hx => absurd hx (nI_ge (b := 30) (by omega) (by decide))) (fun _ => ?_)
    refine aw_iload (pc' := 28) nd_N_evaluate_26 rfl rfl ?_
    refine aw_aload_n (pc' := 29) nd_N_evaluate_28 rfl rfl rfl ?_
    refine aw_get (pc' := 32) nd_N_evaluate_29 rfl nF_0_214 (g_F_stepCount (by assumption)) ?_
    refine aw_icmp_ge (pc' := 35) (tg := 243) nd_N_evaluate_32 (by decide) rfl (fun hx => absurd hx (by rw [hcnt]; exact nI_ge hlt (by omega))) (fun _ => ?_)
    refine aw_aload_n (pc' := 36) nd_N_evaluate_35 rfl rfl rfl ?_
    refine aw_iload (pc' := 38) nd_N_evaluate_36 rfl rfl ?_
    refine aw_callV (pc' := 41) (as := [_]) (st := []) nd_N_evaluate_38 rfl nC_0_217 ⟨(Nat.le_of_ble_eq_true rfl), rfl, rfl⟩ (ns_ioF hk13) (Nat.le_of_ble_eq_true rfl) (Nat.le_of_ble_eq_true rfl) (Nat.le_of_ble_eq_true rfl) ?_
    refine c_F_operandAt hk13 (by omega) ?_
    rw [hrm]
    show nW _ _ _ _ _ 41 _ [_] _ _ _
    refine aw_istore (pc' := 43) (ls' := [_, _, _, _, _, _, _, _, _, _, _, _]) nd_N_evaluate_41 rfl (Nat.le_of_ble_eq_true rfl) rfl ?_
    refine aw_aload_n (pc' := 44) nd_N_evaluate_43 rfl rfl rfl ?_
    refine aw_iload (pc' := 46) nd_N_evaluate_44 rfl rfl ?_
    refine aw_callV (pc' := 49) (as := [_]) (st := []) nd_N_evaluate_46 rfl nC_0_221 ⟨(Nat.le_of_ble_eq_true rfl), rfl, rfl⟩ (ns_ioF hk13) (Nat.le_of_ble_eq_true rfl) (Nat.le_of_ble_eq_true rfl) (Nat.le_of_ble_eq_true rfl) ?_
    refine c_F_stepAt hk13 (by omega) ?_
    rw [hdv]
    show nW _ _ _ _ _ 49 _ [_] _ _ _
    refine aw_istore (pc' := 51) (ls' := [_, _, _, _, _, _, _, _, _, _, _, _]) nd_N_evaluate_49 rfl (Nat.le_of_ble_eq_true rfl) rfl ?_
    refine aw_iinc (pc' := 54) (ls' := [_, _, _, _, _, _, _, _, _, _, _, _]) nd_N_evaluate_51 rfl rfl (nI_1 at_) rfl ?_
    refine aw_iload (pc' := 56) nd_N_evaluate_54 rfl rfl ?_
    rcases hty with ⟨rfl, z1, z2⟩ | ⟨rfl, z1, z2⟩ | ⟨z0, z1, z2, z3⟩ | ⟨rfl, z1, z2, z3, z4, z5⟩ | ⟨rfl, z1, z2, z3⟩ | ⟨z0, z1, z2, z3⟩
    · rw [if_pos rfl] at hq
      have kw := keep tp (nI ar) μ h FL.rfl
      refine aw_tabIn (tg := 96) (off := 40) nd_N_evaluate_56 (by decide) (by decide) (by decide) ?_
      refine aw_aload_n (pc' := 97) nd_N_evaluate_96 rfl rfl rfl ?_
      refine aw_iload (pc' := 99) nd_N_evaluate_97 rfl rfl ?_
      refine aw_iinc (pc' := 102) (ls' := [_, _, _, _, _, _, _, _, _, _, _, _]) nd_N_evaluate_99 rfl rfl (nI_1 tp) rfl ?_
      refine aw_iload (pc' := 104) nd_N_evaluate_102 rfl rfl ?_
      refine aw_iast (pc' := 105) nd_N_evaluate_104 rfl rfl tp rfl (by omega) (pa_K hk) ?_
      refine aw_goto (pc' := 237) nd_N_evaluate_105 (by decide) ?_
      refine aw_iinc (pc' := 240) (ls' := [_, _, _, _, _, _, _, _, _, _, _, _]) nd_N_evaluate_237 rfl rfl (nI_1 j) rfl ?_
      refine aw_goto (pc' := 19) nd_N_evaluate_240 (by decide) ?_
      exact ih (j + 1) dd Q _ (tp + 1) (at_ + 1) _ _ _ _ _ (by omega) kw.1 kw.2.1 kw.2.2 (by omega) (by omega) hq
    · rw [if_neg (by decide), if_pos rfl] at hq
      refine aw_tabIn (tg := 108) (off := 52) nd_N_evaluate_56 (by decide) (by decide) (by decide) ?_
      refine aw_iload (pc' := 110) nd_N_evaluate_108 rfl rfl ?_
      refine aw_iconst (pc' := 111) (x := 1) nd_N_evaluate_110 rfl (by decide) ?_
      refine aw_icmp_ne (pc' := 114) (tg := 119) nd_N_evaluate_111 (by decide) rfl (fun hx => absurd rfl hx) (fun _ => ?_)
      refine aw_iload (pc' := 116) nd_N_evaluate_114 rfl rfl ?_
      refine aw_goto (pc' := 131) nd_N_evaluate_116 (by decide) ?_
      refine aw_istore (pc' := 133) (ls' := [_, _, _, _, _, _, _, _, _, _, _, _]) nd_N_evaluate_131 rfl (Nat.le_of_ble_eq_true rfl) rfl ?_
      refine aw_aload_n (pc' := 134) nd_N_evaluate_133 rfl rfl rfl ?_
      refine aw_aload_n (pc' := 135) nd_N_evaluate_134 rfl rfl rfl ?_
      refine aw_iload (pc' := 137) nd_N_evaluate_135 rfl rfl ?_
      refine aw_callV (pc' := 140) (as := [_, _]) (st := []) nd_N_evaluate_137 rfl nC_0_227 ⟨(Nat.le_of_ble_eq_true rfl), rfl, rfl⟩ ns_ioN (Nat.le_of_ble_eq_true rfl) (Nat.le_of_ble_eq_true rfl) (Nat.le_of_ble_eq_true rfl) ?_
      obtain ⟨g1, g2⟩ := pG μ ar h z2 hf
      refine hG dd _ μ k ar h hk z2 hf ?_
      rcases hg2 : gF B W μ k ar with ⟨v, μ1⟩
      rw [hg2] at hq g1 g2
      dsimp only at hq g1 g2 ⊢
      show nW _ _ _ _ _ 140 _ [_] _ _ _
      refine aw_lstore (pc' := 142) (ls' := [_, _, _, _, _, _, _, _, _, _, _, _]) nd_N_evaluate_140 rfl (Nat.le_of_ble_eq_true rfl) rfl ?_
      refine aw_lload (pc' := 144) nd_N_evaluate_142 rfl rfl ?_
      refine aw_ldc2 (pc' := 147) nd_N_evaluate_144 rfl nK_0_231 ?_
      refine aw_lcmp (pc' := 148) nd_N_evaluate_147 rfl ?_
      have hcm : lg_cmp v 1099511627776 = 0 ↔ v = BADv := lg_cmp_eq _ _
      refine aw_if_ne (pc' := 151) (tg := 155) nd_N_evaluate_148 (by decide) rfl (fun hb148 => ?_) (fun hb148 => ?_)
      · skip
        rw [if_neg (fun z => hb148 (hcm.mpr z))] at hq
        have kw := keep (tp) v.toInt32 μ1 g1 g2
        refine aw_aload_n (pc' := 156) nd_N_evaluate_155 rfl rfl rfl ?_
        refine aw_iload (pc' := 158) nd_N_evaluate_156 rfl rfl ?_
        refine aw_iinc (pc' := 161) (ls' := [_, _, _, _, _, _, _, _, _, _, _, _]) nd_N_evaluate_158 rfl rfl (nI_1 tp) rfl ?_
        refine aw_lload (pc' := 163) nd_N_evaluate_161 rfl rfl ?_
        refine aw_l2i (pc' := 164) nd_N_evaluate_163 rfl ?_
        refine aw_iast (pc' := 165) nd_N_evaluate_164 rfl rfl tp rfl (by omega) (pa_K hk) ?_
        refine aw_goto (pc' := 237) nd_N_evaluate_165 (by decide) ?_
        refine aw_iinc (pc' := 240) (ls' := [_, _, _, _, _, _, _, _, _, _, _, _]) nd_N_evaluate_237 rfl rfl (nI_1 j) rfl ?_
        refine aw_goto (pc' := 19) nd_N_evaluate_240 (by decide) ?_
        exact ih (j + 1) dd Q _ (tp + 1) (at_ + 1) _ _ _ _ _ (by omega) kw.1 kw.2.1 kw.2.2 (by omega) (by omega) hq
      · skip
        refine aw_ldc2 (pc' := 154) nd_N_evaluate_151 rfl nK_0_231 ?_
        refine aw_lreturn nd_N_evaluate_154 rfl (Nat.le_of_ble_eq_true rfl) (Nat.le_of_ble_eq_true rfl) ?_
        rw [if_pos (hcm.mp hb148)] at hq
        exact hq
    · obtain ⟨t, rfl⟩ : ∃ t, tp = t + 1 := ⟨tp - 1, by omega⟩
      rw [Nat.add_sub_cancel] at hq
      rcases z0 with rfl | rfl
      · rw [if_neg (by decide), if_neg (by decide), if_pos rfl] at hq
        refine aw_tabIn (tg := 108) (off := 52) nd_N_evaluate_56 (by decide) (by decide) (by decide) ?_
        refine aw_iload (pc' := 110) nd_N_evaluate_108 rfl rfl ?_
        refine aw_iconst (pc' := 111) (x := 1) nd_N_evaluate_110 rfl (by decide) ?_
        refine aw_icmp_ne (pc' := 114) (tg := 119) nd_N_evaluate_111 (by decide) rfl (fun _ => ?_) (fun hx => absurd hx (by decide))
        refine aw_aload_n (pc' := 120) nd_N_evaluate_119 rfl rfl rfl ?_
        refine aw_iinc (pc' := 123) (ls' := [_, _, _, _, _, _, _, _, _, _, _, _]) nd_N_evaluate_120 rfl rfl (pk_m1 t) rfl ?_
        refine aw_iload (pc' := 125) nd_N_evaluate_123 rfl rfl ?_
        refine aw_iald (pc' := 126) nd_N_evaluate_125 rfl (ga_K hk) t rfl (by omega) ?_
        refine aw_bipush (pc' := 128) (x := 12) nd_N_evaluate_126 rfl (by decide) ?_
        refine aw_callS (a := 0) (pc' := 131) (as := [_, _]) (st := []) nd_N_evaluate_128 rfl nC_0_224 ⟨(Nat.le_of_ble_eq_true rfl), rfl, rfl⟩ (Nat.le_of_ble_eq_true rfl) (Nat.le_of_ble_eq_true rfl) (Nat.le_of_ble_eq_true rfl) ?_
        refine c_floorMod (by decide) ?_
        change nW _ _ _ _ _ _ _ ((some (Value.int (fmI (μ.1 (nK k) t)))).toList ++ _) _ _ _
        rw [(fmI_of (μ.1 (nK k) t)).1]
        show nW _ _ _ _ _ 131 _ [_] _ _ _
        refine aw_istore (pc' := 133) (ls' := [_, _, _, _, _, _, _, _, _, _, _, _]) nd_N_evaluate_131 rfl (Nat.le_of_ble_eq_true rfl) rfl ?_
        refine aw_aload_n (pc' := 134) nd_N_evaluate_133 rfl rfl rfl ?_
        refine aw_aload_n (pc' := 135) nd_N_evaluate_134 rfl rfl rfl ?_
        refine aw_iload (pc' := 137) nd_N_evaluate_135 rfl rfl ?_
        refine aw_callV (pc' := 140) (as := [_, _]) (st := []) nd_N_evaluate_137 rfl nC_0_227 ⟨(Nat.le_of_ble_eq_true rfl), rfl, rfl⟩ ns_ioN (Nat.le_of_ble_eq_true rfl) (Nat.le_of_ble_eq_true rfl) (Nat.le_of_ble_eq_true rfl) ?_
        obtain ⟨g1, g2⟩ := pG μ (fm (μ.1 (nK k) t)) h (fmI_of _).2 hf
        refine hG dd _ μ k (fm (μ.1 (nK k) t)) h hk (fmI_of _).2 hf ?_
        rcases hg2 : gF B W μ k (fm (μ.1 (nK k) t)) with ⟨v, μ1⟩
        rw [hg2] at hq g1 g2
        dsimp only at hq g1 g2 ⊢
        show nW _ _ _ _ _ 140 _ [_] _ _ _
        refine aw_lstore (pc' := 142) (ls' := [_, _, _, _, _, _, _, _, _, _, _, _]) nd_N_evaluate_140 rfl (Nat.le_of_ble_eq_true rfl) rfl ?_
        refine aw_lload (pc' := 144) nd_N_evaluate_142 rfl rfl ?_
        refine aw_ldc2 (pc' := 147) nd_N_evaluate_144 rfl nK_0_231 ?_
        refine aw_lcmp (pc' := 148) nd_N_evaluate_147 rfl ?_
        have hcm : lg_cmp v 1099511627776 = 0 ↔ v = BADv := lg_cmp_eq _ _
        refine aw_if_ne (pc' := 151) (tg := 155) nd_N_evaluate_148 (by decide) rfl (fun hb148 => ?_) (fun hb148 => ?_)
        · skip
          rw [if_neg (fun z => hb148 (hcm.mpr z))] at hq
          have kw := keep (t) v.toInt32 μ1 g1 g2
          refine aw_aload_n (pc' := 156) nd_N_evaluate_155 rfl rfl rfl ?_
          refine aw_iload (pc' := 158) nd_N_evaluate_156 rfl rfl ?_
          refine aw_iinc (pc' := 161) (ls' := [_, _, _, _, _, _, _, _, _, _, _, _]) nd_N_evaluate_158 rfl rfl (nI_1 t) rfl ?_
          refine aw_lload (pc' := 163) nd_N_evaluate_161 rfl rfl ?_
          refine aw_l2i (pc' := 164) nd_N_evaluate_163 rfl ?_
          refine aw_iast (pc' := 165) nd_N_evaluate_164 rfl rfl t rfl (by omega) (pa_K hk) ?_
          refine aw_goto (pc' := 237) nd_N_evaluate_165 (by decide) ?_
          refine aw_iinc (pc' := 240) (ls' := [_, _, _, _, _, _, _, _, _, _, _, _]) nd_N_evaluate_237 rfl rfl (nI_1 j) rfl ?_
          refine aw_goto (pc' := 19) nd_N_evaluate_240 (by decide) ?_
          exact ih (j + 1) dd Q _ (t + 1) (at_ + 1) _ _ _ _ _ (by omega) kw.1 kw.2.1 kw.2.2 (by omega) (by omega) hq
        · skip
          refine aw_ldc2 (pc' := 154) nd_N_evaluate_151 rfl nK_0_231 ?_
          refine aw_lreturn nd_N_evaluate_154 rfl (Nat.le_of_ble_eq_true rfl) (Nat.le_of_ble_eq_true rfl) ?_
          rw [if_pos (hcm.mp hb148)] at hq
          exact hq
      · rw [if_neg (by decide), if_neg (by decide), if_neg (by decide), if_pos rfl] at hq
        have kw := keep t (-(μ.1 (nK k) t)) μ h FL.rfl
        refine aw_tabIn (tg := 168) (off := 112) nd_N_evaluate_56 (by decide) (by decide) (by decide) ?_
        refine aw_aload_n (pc' := 169) nd_N_evaluate_168 rfl rfl rfl ?_
        refine aw_iload (pc' := 171) nd_N_evaluate_169 rfl rfl ?_
        refine aw_iconst (pc' := 172) (x := 1) nd_N_evaluate_171 rfl (by decide) ?_
        refine aw_isub (pc' := 173) nd_N_evaluate_172 rfl ?_
        
        refine aw_aload_n (pc' := 174) nd_N_evaluate_173 rfl rfl rfl ?_
        refine aw_iload (pc' := 176) nd_N_evaluate_174 rfl rfl ?_
        refine aw_iconst (pc' := 177) (x := 1) nd_N_evaluate_176 rfl (by decide) ?_
        refine aw_isub (pc' := 178) nd_N_evaluate_177 rfl ?_
        refine aw_iald (pc' := 179) nd_N_evaluate_178 rfl (ga_K hk) t (nI_pred t) (by omega) ?_
        refine aw_ineg (pc' := 180) nd_N_evaluate_179 rfl ?_
        
        refine aw_iast (pc' := 181) nd_N_evaluate_180 rfl rfl t (nI_pred t) (by omega) (pa_K hk) ?_
        refine aw_goto (pc' := 237) nd_N_evaluate_181 (by decide) ?_
        refine aw_iinc (pc' := 240) (ls' := [_, _, _, _, _, _, _, _, _, _, _, _]) nd_N_evaluate_237 rfl rfl (nI_1 j) rfl ?_
        refine aw_goto (pc' := 19) nd_N_evaluate_240 (by decide) ?_
        exact ih (j + 1) dd Q _ (t + 1) (at_ + 1) _ _ _ _ _ (by omega) kw.1 kw.2.1 kw.2.2 (by omega) (by omega) hq
    · obtain ⟨t, rfl⟩ : ∃ t, tp = t + 1 := ⟨tp - 1, by omega⟩
      rw [Nat.add_sub_cancel] at hq
      rw [if_neg (by decide), if_neg (by decide), if_neg (by decide), if_neg (by decide), if_pos rfl] at hq
      refine aw_tabIn (tg := 184) (off := 128) nd_N_evaluate_56 (by decide) (by decide) (by decide) ?_
      refine aw_aload_n (pc' := 185) nd_N_evaluate_184 rfl rfl rfl ?_
      refine aw_iinc (pc' := 188) (ls' := [_, _, _, _, _, _, _, _, _, _, _, _]) nd_N_evaluate_185 rfl rfl (pk_m1 t) rfl ?_
      refine aw_iload (pc' := 190) nd_N_evaluate_188 rfl rfl ?_
      refine aw_iald (pc' := 191) nd_N_evaluate_190 rfl (ga_K hk) t rfl (by omega) ?_
      refine aw_if_ne (pc' := 194) (tg := 199) nd_N_evaluate_191 (by decide) rfl (fun hb191 => ?_) (fun hb191 => ?_)
      · skip
        refine aw_iload (pc' := 201) nd_N_evaluate_199 rfl rfl ?_
        refine aw_istore (pc' := 203) (ls' := [_, _, _, _, _, _, _, _, _, _, _, _]) nd_N_evaluate_201 rfl (Nat.le_of_ble_eq_true rfl) rfl ?_
        refine aw_goto (pc' := 237) nd_N_evaluate_203 (by decide) ?_
        refine aw_iinc (pc' := 240) (ls' := [_, _, _, _, _, _, _, _, _, _, _, _]) nd_N_evaluate_237 rfl rfl (nI_1 j) rfl ?_
        refine aw_goto (pc' := 19) nd_N_evaluate_240 (by decide) ?_
        first
          | (rw [if_pos hb191] at hq; exact ih (j + 1) dd Q _ t ar _ _ _ _ _ (by omega) h h4 hf (by omega) (by omega) hq)
          | (rw [if_neg hb191] at hq; exact ih (j + 1) dd Q _ t (at_ + 1) _ _ _ _ _ (by omega) h h4 hf (by omega) (by omega) hq)
      · skip
        refine aw_iload (pc' := 196) nd_N_evaluate_194 rfl rfl ?_
        refine aw_goto (pc' := 201) nd_N_evaluate_196 (by decide) ?_
        refine aw_istore (pc' := 203) (ls' := [_, _, _, _, _, _, _, _, _, _, _, _]) nd_N_evaluate_201 rfl (Nat.le_of_ble_eq_true rfl) rfl ?_
        refine aw_goto (pc' := 237) nd_N_evaluate_203 (by decide) ?_
        refine aw_iinc (pc' := 240) (ls' := [_, _, _, _, _, _, _, _, _, _, _, _]) nd_N_evaluate_237 rfl rfl (nI_1 j) rfl ?_
        refine aw_goto (pc' := 19) nd_N_evaluate_240 (by decide) ?_
        first
          | (rw [if_pos hb191] at hq; exact ih (j + 1) dd Q _ t ar _ _ _ _ _ (by omega) h h4 hf (by omega) (by omega) hq)
          | (rw [if_neg hb191] at hq; exact ih (j + 1) dd Q _ t (at_ + 1) _ _ _ _ _ (by omega) h h4 hf (by omega) (by omega) hq)
    · rw [if_neg (by decide), if_neg (by decide), if_neg (by decide), if_neg (by decide), if_neg (by decide), if_pos rfl] at hq
      refine aw_tabIn (tg := 206) (off := 150) nd_N_evaluate_56 (by decide) (by decide) (by decide) ?_
      refine aw_iload (pc' := 208) nd_N_evaluate_206 rfl rfl ?_
      refine aw_istore (pc' := 210) (ls' := [_, _, _, _, _, _, _, _, _, _, _, _]) nd_N_evaluate_208 rfl (Nat.le_of_ble_eq_true rfl) rfl ?_
      refine aw_goto (pc' := 237) nd_N_evaluate_210 (by decide) ?_
      refine aw_iinc (pc' := 240) (ls' := [_, _, _, _, _, _, _, _, _, _, _, _]) nd_N_evaluate_237 rfl rfl (nI_1 j) rfl ?_
      refine aw_goto (pc' := 19) nd_N_evaluate_240 (by decide) ?_
      exact ih (j + 1) dd Q _ tp ar _ _ _ _ _ (by omega) h h4 hf (by omega) (by omega) hq
    · obtain ⟨t, rfl⟩ : ∃ t, tp = t + 2 := ⟨tp - 2, by omega⟩
      rw [if_neg (by omega), if_neg (by omega), if_neg (by omega), if_neg (by omega), if_neg (by omega), if_neg (by omega), show t + 2 - 2 = t by omega, show t + 2 - 1 = t + 1 by omega] at hq
      have kw := keep t (cmb op (μ.1 (nK k) t) (μ.1 (nK k) (t + 1))) μ h FL.rfl
      have hop : nI op = 6 ∧ op = 6 ∨ nI op = 7 ∧ op = 7 ∨ nI op = 8 ∧ op = 8 ∨ nI op = 9 ∧ op = 9 ∨ nI op = 10 ∧ op = 10 := by
        rcases (by omega : op = 6 ∨ op = 7 ∨ op = 8 ∨ op = 9 ∨ op = 10) with rfl | rfl | rfl | rfl | rfl <;> decide
      have hcb : (if nI op = 6 then μ.1 (nK k) t + μ.1 (nK k) (t + 1) else if nI op = 7 then μ.1 (nK k) t - μ.1 (nK k) (t + 1) else if nI op = 8 then μ.1 (nK k) t * μ.1 (nK k) (t + 1) else if nI op = 9 then bi (decide (μ.1 (nK k) t < μ.1 (nK k) (t + 1))) else bi (decide (μ.1 (nK k) t = μ.1 (nK k) (t + 1)))) = cmb op (μ.1 (nK k) t) (μ.1 (nK k) (t + 1)) := by
        rcases hop with ⟨a, b⟩ | ⟨a, b⟩ | ⟨a, b⟩ | ⟨a, b⟩ | ⟨a, b⟩ <;> (rw [a]; subst b; rfl)
      have hout : (nI op).toInt < 0 ∨ 5 < (nI op).toInt := by rw [nI_toInt (by omega)]; omega
      refine aw_tabOut (tg := 213) nd_N_evaluate_56 hout (by decide) ?_
      refine aw_iinc (pc' := 216) (ls' := [_, _, _, _, _, _, _, _, _, _, _, _]) nd_N_evaluate_213 rfl rfl (pk_m1 (t + 1)) rfl ?_
      refine aw_aload_n (pc' := 217) nd_N_evaluate_216 rfl rfl rfl ?_
      refine aw_iload (pc' := 219) nd_N_evaluate_217 rfl rfl ?_
      refine aw_iconst (pc' := 220) (x := 1) nd_N_evaluate_219 rfl (by decide) ?_
      refine aw_isub (pc' := 221) nd_N_evaluate_220 rfl ?_
      refine aw_iload (pc' := 223) nd_N_evaluate_221 rfl rfl ?_
      refine aw_aload_n (pc' := 224) nd_N_evaluate_223 rfl rfl rfl ?_
      refine aw_iload (pc' := 226) nd_N_evaluate_224 rfl rfl ?_
      refine aw_iconst (pc' := 227) (x := 1) nd_N_evaluate_226 rfl (by decide) ?_
      refine aw_isub (pc' := 228) nd_N_evaluate_227 rfl ?_
      refine aw_iald (pc' := 229) nd_N_evaluate_228 rfl (ga_K hk) t (nI_pred t) (by omega) ?_
      refine aw_aload_n (pc' := 230) nd_N_evaluate_229 rfl rfl rfl ?_
      refine aw_iload (pc' := 232) nd_N_evaluate_230 rfl rfl ?_
      refine aw_iald (pc' := 233) nd_N_evaluate_232 rfl (ga_K hk) (t + 1) rfl (by omega) ?_
      refine aw_callS (a := 0) (pc' := 236) (as := [_, _, _]) (st := [_, _]) nd_N_evaluate_233 rfl nC_0_233 ⟨(Nat.le_of_ble_eq_true rfl), rfl, rfl⟩ (Nat.le_of_ble_eq_true rfl) (Nat.le_of_ble_eq_true rfl) (Nat.le_of_ble_eq_true rfl) ?_
      refine c_N_combine ?_
      rw [hcb]
      show nW _ _ _ _ _ 236 _ [_, _, _] _ _ _
      refine aw_iast (pc' := 237) nd_N_evaluate_236 rfl rfl t (nI_pred t) (by omega) (pa_K hk) ?_
      refine aw_iinc (pc' := 240) (ls' := [_, _, _, _, _, _, _, _, _, _, _, _]) nd_N_evaluate_237 rfl rfl (nI_1 j) rfl ?_
      refine aw_goto (pc' := 19) nd_N_evaluate_240 (by decide) ?_
      exact ih (j + 1) dd Q _ (t + 1) (at_ + 1) _ _ _ _ _ (by omega) kw.1 kw.2.1 kw.2.2 (by omega) (by omega) hq
