/-! the sheet's own small methods; loops -/

theorem ne_NR {k j : Nat} (h : k < 12) : ¬ nN k = nR j := by unfold nN nR; omega
theorem ne_RN {k j : Nat} (h : k < 12) : ¬ nR k = nN j := by unfold nN nR; omega
theorem ne_YN {k j : Nat} : ¬ nY k = nN j := by unfold nY nN; omega
theorem ne_lt {f : Nat → Nat} {k : Nat} : True := trivial
theorem nN_l {k : Nat} (h : k < 12) : nN k < 98 := by unfold nN; omega
theorem nC_l {k : Nat} (h : k < 12) : nC k < 98 := by unfold nC; omega
theorem nY_l {k : Nat} (h : k < 12) : nY k < 98 := by unfold nY; omega
theorem nY_0 {k : Nat} : 0 < nY k := by unfold nY; omega
theorem nN_0 {k : Nat} : 0 < nN k := by unfold nN; omega
theorem nC_0 {k : Nat} : 0 < nC k := by unfold nC; omega
theorem ne_NC {k j : Nat} : ¬ nN k = nC j := by unfold nN nC; omega
theorem ne_CN {k j : Nat} : ¬ nC k = nN j := by unfold nN nC; omega

theorem c_N_combine {L : Nat} {xs : Nat → Int32} {d : Nat} {Q : ax_Q} {a x y : Int32} {h : ax_H} (hq : Q (some (.int (if a = 6 then x + y else if a = 7 then x - y else if a = 8 then x * y else if a = 9 then bi (decide (x < y)) else bi (decide (x = y))))) h) : nM L xs (d + 1) 23 [.int a, .int x, .int y] h Q := by
  refine nM.of ns_I_N_combine rfl (ls := [_, _, _]) (Nat.le_of_ble_eq_true rfl) rfl ?_
  refine aw_iload_n (pc' := 1) nd_N_combine_0 rfl rfl ?_
  have e6 : (6 : Int32).toInt = 6 := by decide
  have e7 : (7 : Int32).toInt = 7 := by decide
  have e8 : (8 : Int32).toInt = 8 := by decide
  have e9 : (9 : Int32).toInt = 9 := by decide
  by_cases h6 : a = 6
  · subst h6
    refine aw_tabIn (tg := 32) (off := 31) nd_N_combine_1 (by decide) (by decide) (by decide) ?_
    refine aw_iload_n (pc' := 33) nd_N_combine_32 rfl rfl ?_
    refine aw_iload_n (pc' := 34) nd_N_combine_33 rfl rfl ?_
    refine aw_iadd (pc' := 35) nd_N_combine_34 rfl ?_
    exact aw_ireturn nd_N_combine_35 rfl rfl (Nat.le_of_ble_eq_true rfl) (Nat.le_of_ble_eq_true rfl) (by simpa using hq)
  by_cases h7 : a = 7
  · subst h7
    refine aw_tabIn (tg := 36) (off := 35) nd_N_combine_1 (by decide) (by decide) (by decide) ?_
    refine aw_iload_n (pc' := 37) nd_N_combine_36 rfl rfl ?_
    refine aw_iload_n (pc' := 38) nd_N_combine_37 rfl rfl ?_
    refine aw_isub (pc' := 39) nd_N_combine_38 rfl ?_
    exact aw_ireturn nd_N_combine_39 rfl rfl (Nat.le_of_ble_eq_true rfl) (Nat.le_of_ble_eq_true rfl) (by simpa using hq)
  by_cases h8 : a = 8
  · subst h8
    refine aw_tabIn (tg := 40) (off := 39) nd_N_combine_1 (by decide) (by decide) (by decide) ?_
    refine aw_iload_n (pc' := 41) nd_N_combine_40 rfl rfl ?_
    refine aw_iload_n (pc' := 42) nd_N_combine_41 rfl rfl ?_
    refine aw_imul (pc' := 43) nd_N_combine_42 rfl ?_
    exact aw_ireturn nd_N_combine_43 rfl rfl (Nat.le_of_ble_eq_true rfl) (Nat.le_of_ble_eq_true rfl) (by simpa using hq)
  by_cases h9 : a = 9
  · subst h9
    refine aw_tabIn (tg := 44) (off := 43) nd_N_combine_1 (by decide) (by decide) (by decide) ?_
    refine aw_iload_n (pc' := 45) nd_N_combine_44 rfl rfl ?_
    refine aw_iload_n (pc' := 46) nd_N_combine_45 rfl rfl ?_
    refine aw_icmp_ge (pc' := 49) (tg := 53) nd_N_combine_46 (by decide) rfl (fun hb => ?_) (fun hb => ?_)
    · refine aw_iconst (pc' := 54) (x := 0) nd_N_combine_53 rfl (by decide) ?_
      exact aw_ireturn nd_N_combine_54 rfl rfl (Nat.le_of_ble_eq_true rfl) (Nat.le_of_ble_eq_true rfl) (by have := Int32.not_lt.mpr hb; simpa [bi, this] using hq)
    · refine aw_iconst (pc' := 50) (x := 1) nd_N_combine_49 rfl (by decide) ?_
      refine aw_goto (pc' := 54) nd_N_combine_50 (by decide) ?_
      exact aw_ireturn nd_N_combine_54 rfl rfl (Nat.le_of_ble_eq_true rfl) (Nat.le_of_ble_eq_true rfl) (by have := Int32.not_le.mp hb; simpa [bi, this] using hq)
  have hout : a.toInt < 6 ∨ 9 < a.toInt := by
    have n6 : ¬ a.toInt = 6 := fun z => h6 (Int32.toInt_inj.mp (by rw [z, e6]))
    have n7 : ¬ a.toInt = 7 := fun z => h7 (Int32.toInt_inj.mp (by rw [z, e7]))
    have n8 : ¬ a.toInt = 8 := fun z => h8 (Int32.toInt_inj.mp (by rw [z, e8]))
    have n9 : ¬ a.toInt = 9 := fun z => h9 (Int32.toInt_inj.mp (by rw [z, e9]))
    omega
  refine aw_tabOut (tg := 55) nd_N_combine_1 hout (by decide) ?_
  refine aw_iload_n (pc' := 56) nd_N_combine_55 rfl rfl ?_
  refine aw_iload_n (pc' := 57) nd_N_combine_56 rfl rfl ?_
  refine aw_icmp_ne (pc' := 60) (tg := 64) nd_N_combine_57 (by decide) rfl (fun hb => ?_) (fun hb => ?_)
  · refine aw_iconst (pc' := 65) (x := 0) nd_N_combine_64 rfl (by decide) ?_
    exact aw_ireturn nd_N_combine_65 rfl rfl (Nat.le_of_ble_eq_true rfl) (Nat.le_of_ble_eq_true rfl) (by simpa [bi, h6, h7, h8, h9, hb] using hq)
  · refine aw_iconst (pc' := 61) (x := 1) nd_N_combine_60 rfl (by decide) ?_
    refine aw_goto (pc' := 65) nd_N_combine_61 (by decide) ?_
    exact aw_ireturn nd_N_combine_65 rfl rfl (Nat.le_of_ble_eq_true rfl) (Nat.le_of_ble_eq_true rfl) (by simpa [bi, h6, h7, h8, h9, hb] using hq)

theorem c_N_tally {L : Nat} {xs : Nat → Int32} {d : Nat} {Q : ax_Q} {μ : nMem} {k j : Nat} (hk : k < 12) (hj : j < 3) (hq : Q none (ns_rep (ms (ms μ (nY k) j (μ.1 (nY k) j + 1)) 99 j (μ.1 99 j + 1)))) : nM L xs (d + 1) 26 [.ref 0, .ref (nC k), .int (nI j)] (ns_rep μ) Q := by
  refine nM.of ns_I_N_tally rfl (ls := [_, _, _]) (Nat.le_of_ble_eq_true rfl) rfl ?_
  refine aw_aload_n (pc' := 1) nd_N_tally_0 rfl rfl rfl ?_
  refine aw_get (pc' := 4) nd_N_tally_1 rfl nF_0_107 (g_C_tally (by assumption)) ?_
  refine aw_iload_n (pc' := 5) nd_N_tally_4 rfl rfl ?_
  refine aw_dup2 (pc' := 6) nd_N_tally_5 rfl rfl rfl ?_
  refine aw_iald (pc' := 7) nd_N_tally_6 rfl (ga_Y (by assumption)) j rfl hj ?_
  refine aw_iconst (pc' := 8) (x := 1) nd_N_tally_7 rfl (by decide) ?_
  refine aw_iadd (pc' := 9) nd_N_tally_8 rfl ?_
  refine aw_iast (pc' := 10) nd_N_tally_9 rfl rfl j rfl hj (pa_Y (by assumption)) ?_
  refine aw_aload_n (pc' := 11) nd_N_tally_10 rfl rfl rfl ?_
  refine aw_get (pc' := 14) nd_N_tally_11 rfl nF_0_33 g_N_latestTally ?_
  refine aw_iload_n (pc' := 15) nd_N_tally_14 rfl rfl ?_
  refine aw_dup2 (pc' := 16) nd_N_tally_15 rfl rfl rfl ?_
  refine aw_iald (pc' := 17) nd_N_tally_16 rfl ga_latestTally j rfl hj ?_
  refine aw_iconst (pc' := 18) (x := 1) nd_N_tally_17 rfl (by decide) ?_
  refine aw_iadd (pc' := 19) nd_N_tally_18 rfl ?_
  refine aw_iast (pc' := 20) nd_N_tally_19 rfl rfl j rfl hj pa_latestTally ?_
  refine aw_return nd_N_tally_20 rfl (Nat.le_of_ble_eq_true rfl) (Nat.le_of_ble_eq_true rfl) ?_
  have e : (ms μ (nY k) j (μ.1 (nY k) j + 1)).1 99 = μ.1 99 := ms_o (by have := nY_l hk; omega)
  rw [e]
  exact hq

theorem c_N_verify {L : Nat} {xs : Nat → Int32} {d : Nat} {Q : ax_Q} {μ : nMem} {k j : Nat} (hk : k < 12) (hj : j < 3) (hq : Q none (ns_rep (ms (ms (ms μ (nN k) 5 (μ.1 0 6)) (nY k) j (μ.1 (nY k) j + 1)) 99 j (μ.1 99 j + 1)))) : nM L xs (d + 2) 19 [.ref 0, .ref (nC k), .int (nI j)] (ns_rep μ) Q := by
  refine nM.of ns_I_N_verify rfl (ls := [_, _, _]) (Nat.le_of_ble_eq_true rfl) rfl ?_
  refine aw_aload_n (pc' := 1) nd_N_verify_0 rfl rfl rfl ?_
  refine aw_get (pc' := 4) nd_N_verify_1 rfl nF_0_113 (g_C_note (by assumption)) ?_
  refine aw_aload_n (pc' := 5) nd_N_verify_4 rfl rfl rfl ?_
  refine aw_get (pc' := 8) nd_N_verify_5 rfl nF_0_52 g_N_now ?_
  refine aw_put (pc' := 11) nd_N_verify_8 rfl nF_0_117 trivial (p_O_verified (by assumption)) ?_
  refine aw_aload_n (pc' := 12) nd_N_verify_11 rfl rfl rfl ?_
  refine aw_aload_n (pc' := 13) nd_N_verify_12 rfl rfl rfl ?_
  refine aw_iload_n (pc' := 14) nd_N_verify_13 rfl rfl ?_
  refine aw_callV (pc' := 17) (as := [_, _]) (st := []) nd_N_verify_14 rfl nC_0_202 ⟨(Nat.le_of_ble_eq_true rfl), rfl, rfl⟩ ns_ioN (Nat.le_of_ble_eq_true rfl) (Nat.le_of_ble_eq_true rfl) (Nat.le_of_ble_eq_true rfl) ?_
  refine c_N_tally hk hj ?_
  show nW _ _ _ _ _ 17 _ [] _ _ _
  refine aw_return nd_N_verify_17 rfl (Nat.le_of_ble_eq_true rfl) (Nat.le_of_ble_eq_true rfl) ?_
  have e1 : (ms μ (nN k) 5 (μ.1 0 6)).1 (nY k) = μ.1 (nY k) := ms_o ne_YN
  have e2 : (ms μ (nN k) 5 (μ.1 0 6)).1 99 = μ.1 99 := ms_o (by have := nN_l hk; omega)
  rw [← e1, ← e2] at hq
  exact hq

theorem c_N_changed {L : Nat} {xs : Nat → Int32} {d : Nat} {Q : ax_Q} {μ : nMem} {x : Int32} (hq : Q (some (.int (if x < 0 then -1 else if 2 < x then -1 else μ.1 98 x.toNatClampNeg))) (ns_rep μ)) : nM L xs (d + 2) 6 [.ref 0, .int x] (ns_rep μ) Q := by
  refine nM.of ns_I_N_changed rfl (ls := [_, _]) (Nat.le_of_ble_eq_true rfl) rfl ?_
  refine aw_iload_n (pc' := 1) nd_N_changed_0 rfl rfl ?_
  refine aw_callS (a := 0) (pc' := 4) (as := [_]) (st := []) nd_N_changed_1 rfl nC_0_81 ⟨(Nat.le_of_ble_eq_true rfl), rfl, rfl⟩ (Nat.le_of_ble_eq_true rfl) (Nat.le_of_ble_eq_true rfl) (Nat.le_of_ble_eq_true rfl) ?_
  refine c_N_isDur ?_
  show nW _ _ _ _ _ 4 _ [_] _ _ _
  refine aw_if_eq (pc' := 7) (tg := 16) nd_N_changed_4 (by decide) rfl (fun hb => ?_) (fun hb => ?_)
  · skip
    have hx : x < 0 ∨ 2 < x := by
      by_cases h1 : x < 0
      · exact Or.inl h1
      · by_cases h2 : 2 < x
        · exact Or.inr h2
        · exact absurd hb (by simp [bi, h1, h2])
    refine aw_iconst (pc' := 17) (x := -1) nd_N_changed_16 rfl (by decide) ?_
    refine aw_ireturn nd_N_changed_17 rfl rfl (Nat.le_of_ble_eq_true rfl) (Nat.le_of_ble_eq_true rfl) ?_
    first
      | (rcases hx with h1 | h1
         · simpa [h1] using hq
         · by_cases h0 : x < 0
           · simpa [h0] using hq
           · simpa [h0, h1] using hq)
      | (rw [if_neg hx.1, if_neg hx.2, nI_clamp (by omega)] at hq; exact hq)
  · skip
    have hx : ¬ x < 0 ∧ ¬ 2 < x := by
      refine ⟨fun z => hb ?_, fun z => hb ?_⟩
      · simp [bi, z]
      · simp [bi, z]
    obtain ⟨j, hj, rfl⟩ := nI_of2 (M := 2) (n := 2) (by decide) hx.1 (Int32.not_lt.mp hx.2)
    refine aw_aload_n (pc' := 8) nd_N_changed_7 rfl rfl rfl ?_
    refine aw_get (pc' := 11) nd_N_changed_8 rfl nF_0_29 g_N_lastChanges ?_
    refine aw_iload_n (pc' := 12) nd_N_changed_11 rfl rfl ?_
    refine aw_iald (pc' := 13) nd_N_changed_12 rfl ga_lastChanges j rfl (by omega) ?_
    refine aw_goto (pc' := 17) nd_N_changed_13 (by decide) ?_
    refine aw_ireturn nd_N_changed_17 rfl rfl (Nat.le_of_ble_eq_true rfl) (Nat.le_of_ble_eq_true rfl) ?_
    first
      | (rcases hx with h1 | h1
         · simpa [h1] using hq
         · by_cases h0 : x < 0
           · simpa [h0] using hq
           · simpa [h0, h1] using hq)
      | (rw [if_neg hx.1, if_neg hx.2, nI_clamp (by omega)] at hq; exact hq)

theorem c_N_passes {L : Nat} {xs : Nat → Int32} {d : Nat} {Q : ax_Q} {μ : nMem} {k j : Nat} (hk : k < 12) (hj : μ.1 (nN k) 7 = nI j) (hj3 : j < 3) (hq : Q (some (.int (bi (if μ.1 (nN k) 2 = 0 then false else decide (μ.1 98 j ≤ μ.1 (nN k) 5))))) (ns_rep μ)) : nM L xs (d + 1) 17 [.ref 0, .ref (nN k)] (ns_rep μ) Q := by
  refine nM.of ns_I_N_passes rfl (ls := [_, _]) (Nat.le_of_ble_eq_true rfl) rfl ?_
  refine aw_aload_n (pc' := 1) nd_N_passes_0 rfl rfl rfl ?_
  refine aw_get (pc' := 4) nd_N_passes_1 rfl nF_0_199 (g_O_exists (by assumption)) ?_
  refine aw_if_eq (pc' := 7) (tg := 27) nd_N_passes_4 (by decide) rfl (fun hb4 => ?_) (fun hb4 => ?_)
  · skip
    refine aw_iconst (pc' := 28) (x := 0) nd_N_passes_27 rfl (by decide) ?_
    refine aw_ireturn nd_N_passes_28 rfl (by first | rfl | assumption) (Nat.le_of_ble_eq_true rfl) (Nat.le_of_ble_eq_true rfl) ?_
    first
      | simpa [bi, *] using hq
      | (have := Int32.not_le.mpr hb20; simpa [bi, *] using hq)
      | (have := Int32.not_lt.mp hb20; simpa [bi, *] using hq)
  · skip
    refine aw_aload_n (pc' := 8) nd_N_passes_7 rfl rfl rfl ?_
    refine aw_get (pc' := 11) nd_N_passes_8 rfl nF_0_29 g_N_lastChanges ?_
    refine aw_aload_n (pc' := 12) nd_N_passes_11 rfl rfl rfl ?_
    refine aw_get (pc' := 15) nd_N_passes_12 rfl nF_0_198 (g_O_durability (by assumption)) ?_
    refine aw_iald (pc' := 16) nd_N_passes_15 rfl ga_lastChanges j hj hj3 ?_
    refine aw_aload_n (pc' := 17) nd_N_passes_16 rfl rfl rfl ?_
    refine aw_get (pc' := 20) nd_N_passes_17 rfl nF_0_117 (g_O_verified (by assumption)) ?_
    refine aw_icmp_gt (pc' := 23) (tg := 27) nd_N_passes_20 (by decide) rfl (fun hb20 => ?_) (fun hb20 => ?_)
    · skip
      refine aw_iconst (pc' := 28) (x := 0) nd_N_passes_27 rfl (by decide) ?_
      refine aw_ireturn nd_N_passes_28 rfl (by first | rfl | assumption) (Nat.le_of_ble_eq_true rfl) (Nat.le_of_ble_eq_true rfl) ?_
      first
        | simpa [bi, *] using hq
        | (have := Int32.not_le.mpr hb20; simpa [bi, *] using hq)
        | (have := Int32.not_lt.mp hb20; simpa [bi, *] using hq)
    · skip
      refine aw_iconst (pc' := 24) (x := 1) nd_N_passes_23 rfl (by decide) ?_
      refine aw_goto (pc' := 28) nd_N_passes_24 (by decide) ?_
      refine aw_ireturn nd_N_passes_28 rfl (by first | rfl | assumption) (Nat.le_of_ble_eq_true rfl) (Nat.le_of_ble_eq_true rfl) ?_
      first
        | simpa [bi, *] using hq
        | (have := Int32.not_le.mpr hb20; simpa [bi, *] using hq)
        | (have := Int32.not_lt.mp hb20; simpa [bi, *] using hq)

theorem l_O_addRead {L : Nat} {xs : Nat → Int32} {d : Nat} {Q : ax_Q} {μ : nMem} {k n : Nat} {x : Int32} (hk : k < 12) (hn : μ.1 (nN k) 1 = nI n) (hle : n ≤ 12) (hq1 : (∃ i, i < n ∧ μ.1 (nR k) i = x) → Q none (ns_rep μ)) (hq2 : (∀ i, i < n → ¬ μ.1 (nR k) i = x) → n < 12 → Q none (ns_rep (ms (ms μ (nR k) n x) (nN k) 1 (nI (n + 1))))) (hq3 : (∀ i, i < n → ¬ μ.1 (nR k) i = x) → n = 12 → Q none (ns_rep μ)) : ∀ m j, m + j = n → (∀ i, i < j → ¬ μ.1 (nR k) i = x) → nW L xs d ns_I_O_addRead Q 2 [some (.ref (nN k)), some (.int x), some (.int (nI j))] [] 0 0 (ns_rep μ) := by
  intro m
  induction m with
  | zero =>
    intro j hj hall
    obtain rfl : j = n := by omega
    refine aw_iload_n (pc' := 3) nd_O_addRead_2 rfl rfl ?_
    refine aw_aload_n (pc' := 4) nd_O_addRead_3 rfl rfl rfl ?_
    refine aw_get (pc' := 7) nd_O_addRead_4 rfl nF_3_15 (g_O_readCount (by assumption)) ?_
    refine aw_icmp_ge (pc' := 10) (tg := 27) nd_O_addRead_7 (by decide) rfl (fun _ => ?_) (fun hx => absurd (by rw [hn]; exact nI_le (Nat.le_refl _) (by omega)) hx)
    refine aw_aload_n (pc' := 28) nd_O_addRead_27 rfl rfl rfl ?_
    refine aw_get (pc' := 31) nd_O_addRead_28 rfl nF_3_15 (g_O_readCount (by assumption)) ?_
    refine aw_aload_n (pc' := 32) nd_O_addRead_31 rfl rfl rfl ?_
    refine aw_get (pc' := 35) nd_O_addRead_32 rfl nF_3_9 (g_O_reads (by assumption)) ?_
    refine aw_alen (pc' := 36) nd_O_addRead_35 rfl (ga_R (by assumption)).1 ?_
    have e12 : (nI 12 : Int32) ≤ nI j ↔ 12 ≤ j := nI_leI (by decide) (by omega)
    rw [hn]
    refine aw_icmp_ge (pc' := 39) (tg := 59) nd_O_addRead_36 (by decide) rfl (fun hb36 => ?_) (fun hb36 => ?_)
    · skip
      refine aw_return nd_O_addRead_59 rfl (Nat.le_of_ble_eq_true rfl) (Nat.le_of_ble_eq_true rfl) ?_
      first
        | exact hq3 hall (by have := e12.mp hb36; omega)
        | (have e : (ms μ (nR k) j x).1 (nN k) 1 + 1 = nI (j + 1) := by rw [ms_o (ne_NR hk), hn, nI_1]
           rw [e]
           exact hq2 hall (by have := mt e12.mpr hb36; omega))
    · skip
      refine aw_aload_n (pc' := 40) nd_O_addRead_39 rfl rfl rfl ?_
      refine aw_get (pc' := 43) nd_O_addRead_40 rfl nF_3_9 (g_O_reads (by assumption)) ?_
      refine aw_aload_n (pc' := 44) nd_O_addRead_43 rfl rfl rfl ?_
      refine aw_get (pc' := 47) nd_O_addRead_44 rfl nF_3_15 (g_O_readCount (by assumption)) ?_
      refine aw_iload_n (pc' := 48) nd_O_addRead_47 rfl rfl ?_
      refine aw_iast (pc' := 49) nd_O_addRead_48 rfl rfl j hn (by have := mt e12.mpr hb36; omega) (pa_R (by assumption)) ?_
      refine aw_aload_n (pc' := 50) nd_O_addRead_49 rfl rfl rfl ?_
      refine aw_dup (pc' := 51) nd_O_addRead_50 rfl rfl ?_
      refine aw_get (pc' := 54) nd_O_addRead_51 rfl nF_3_15 (g_O_readCount (by assumption)) ?_
      refine aw_iconst (pc' := 55) (x := 1) nd_O_addRead_54 rfl (by decide) ?_
      refine aw_iadd (pc' := 56) nd_O_addRead_55 rfl ?_
      refine aw_put (pc' := 59) nd_O_addRead_56 rfl nF_3_15 trivial (p_O_readCount (by assumption)) ?_
      refine aw_return nd_O_addRead_59 rfl (Nat.le_of_ble_eq_true rfl) (Nat.le_of_ble_eq_true rfl) ?_
      first
        | exact hq3 hall (by have := e12.mp hb36; omega)
        | (have e : (ms μ (nR k) j x).1 (nN k) 1 + 1 = nI (j + 1) := by rw [ms_o (ne_NR hk), hn, nI_1]
           rw [e]
           exact hq2 hall (by have := mt e12.mpr hb36; omega))
  | succ m ih =>
    intro j hj hall
    refine aw_iload_n (pc' := 3) nd_O_addRead_2 rfl rfl ?_
    refine aw_aload_n (pc' := 4) nd_O_addRead_3 rfl rfl rfl ?_
    refine aw_get (pc' := 7) nd_O_addRead_4 rfl nF_3_15 (g_O_readCount (by assumption)) ?_
    refine aw_icmp_ge (pc' := 10) (tg := 27) nd_O_addRead_7 (by decide) rfl (fun hx => absurd hx (by rw [hn]; exact nI_ge (by omega) (by omega))) (fun _ => ?_)
    refine aw_aload_n (pc' := 11) nd_O_addRead_10 rfl rfl rfl ?_
    refine aw_get (pc' := 14) nd_O_addRead_11 rfl nF_3_9 (g_O_reads (by assumption)) ?_
    refine aw_iload_n (pc' := 15) nd_O_addRead_14 rfl rfl ?_
    refine aw_iald (pc' := 16) nd_O_addRead_15 rfl (ga_R (by assumption)) j rfl (by omega) ?_
    refine aw_iload_n (pc' := 17) nd_O_addRead_16 rfl rfl ?_
    refine aw_icmp_ne (pc' := 20) (tg := 21) nd_O_addRead_17 (by decide) rfl (fun hb17 => ?_) (fun hb17 => ?_)
    · skip
      refine aw_iinc (pc' := 24) (ls' := [_, _, _]) nd_O_addRead_21 rfl rfl (nI_1 j) rfl ?_
      refine aw_goto (pc' := 2) nd_O_addRead_24 (by decide) ?_
      refine ih (j + 1) (by omega) ?_
      intro i hi
      by_cases e : i = j
      · rw [e]; exact hb17
      · exact hall i (by omega)
    · skip
      refine aw_return nd_O_addRead_20 rfl (Nat.le_of_ble_eq_true rfl) (Nat.le_of_ble_eq_true rfl) ?_
      exact hq1 ⟨j, by omega, hb17⟩

theorem c_O_addRead {L : Nat} {xs : Nat → Int32} {d : Nat} {Q : ax_Q} {μ : nMem} {k n : Nat} {x : Int32} (hk : k < 12) (hn : μ.1 (nN k) 1 = nI n) (hle : n ≤ 12) (hq1 : (∃ i, i < n ∧ μ.1 (nR k) i = x) → Q none (ns_rep μ)) (hq2 : (∀ i, i < n → ¬ μ.1 (nR k) i = x) → n < 12 → Q none (ns_rep (ms (ms μ (nR k) n x) (nN k) 1 (nI (n + 1))))) (hq3 : (∀ i, i < n → ¬ μ.1 (nR k) i = x) → n = 12 → Q none (ns_rep μ)) : nM L xs (d + 1) 92 [.ref (nN k), .int x] (ns_rep μ) Q := by
  refine nM.of ns_I_O_addRead rfl (ls := [_, _, _]) (Nat.le_of_ble_eq_true rfl) rfl ?_
  refine aw_iconst (pc' := 1) (x := 0) nd_O_addRead_0 rfl (by decide) ?_
  refine aw_istore_n (pc' := 2) (ls' := [_, _, _]) nd_O_addRead_1 rfl (Nat.le_of_ble_eq_true rfl) rfl ?_
  exact l_O_addRead hk hn hle hq1 hq2 hq3 n 0 (by omega) (fun i hi => absurd hi (by omega))
