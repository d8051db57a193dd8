/-! the model's asking: enter -/
def cnM (μ : nMem) (k w : Nat) : nMem := ms (ms μ 126 (3 * k + w) (μ.1 126 (3 * k + w) + 1)) 127 w (μ.1 127 w + 1)
def fiM (μ : nMem) (n k : Nat) : nMem := ms (ms μ 104 27 (nI n)) 135 k 0
theorem cnM_o {μ : nMem} {k w b : Nat} (h1 : ¬ b = 126) (h2 : ¬ b = 127) : (cnM μ k w).1 b = μ.1 b := by unfold cnM; rw [ms_o h2, ms_o h1]

theorem l_M_enter50 {L : Nat} {xs : Nat → Int32} {d : Nat} {Q : ax_Q} {μ : nMem} {f k : Nat} (hf : f < 12) (hk : k < 12) (hq : Q none (ns_rep (ms (ms μ 130 f 0) 129 f (if μ.1 117 k = 0 then 2 else if μ.1 120 k < μ.1 113 k then 2 else 1)))) : nW L xs d ns_I_M_enter Q 50 [some (.ref 104), some (.int (nI f)), some (.int (nI k))] [] 0 0 (ns_rep μ) := by
  refine aw_aload_n (pc' := 51) nd_M_enter_50 rfl rfl rfl ?_
  refine aw_get (pc' := 54) nd_M_enter_51 rfl nF_5_91 g_M_at ?_
  refine aw_iload_n (pc' := 55) nd_M_enter_54 rfl rfl ?_
  refine aw_iconst (pc' := 56) (x := 0) nd_M_enter_55 rfl (by decide) ?_
  refine aw_iast (pc' := 57) nd_M_enter_56 rfl rfl f rfl hf pa_Mat ?_
  refine aw_aload_n (pc' := 58) nd_M_enter_57 rfl rfl rfl ?_
  refine aw_get (pc' := 61) nd_M_enter_58 rfl nF_5_88 g_M_mode ?_
  refine aw_iload_n (pc' := 62) nd_M_enter_61 rfl rfl ?_
  refine aw_aload_n (pc' := 63) nd_M_enter_62 rfl rfl rfl ?_
  refine aw_get (pc' := 66) nd_M_enter_63 rfl nF_5_51 g_M_noted ?_
  refine aw_iload_n (pc' := 67) nd_M_enter_66 rfl rfl ?_
  refine aw_bald (pc' := 68) nd_M_enter_67 rfl ga_Mnoted k rfl hk ?_
  refine aw_if_eq (pc' := 71) (tg := 90) nd_M_enter_68 (by decide) rfl (fun hb68 => ?_) (fun hb68 => ?_)
  · skip
    refine aw_iconst (pc' := 91) (x := 2) nd_M_enter_90 rfl (by decide) ?_
    refine aw_iast (pc' := 92) nd_M_enter_91 rfl rfl f rfl hf pa_Mmode ?_
    refine aw_return nd_M_enter_92 rfl (Nat.le_of_ble_eq_true rfl) (Nat.le_of_ble_eq_true rfl) ?_
    first
      | (rw [ms_o (by decide)] at hb68; rw [if_pos hb68] at hq; exact hq)
      | (rw [ms_o (by decide)] at hb68; rw [ms_o (by decide), ms_o (by decide)] at hb83; rw [if_neg hb68, if_pos hb83] at hq; exact hq)
      | (rw [ms_o (by decide)] at hb68; rw [ms_o (by decide), ms_o (by decide)] at hb83; rw [if_neg hb68, if_neg hb83] at hq; exact hq)
  · skip
    refine aw_aload_n (pc' := 72) nd_M_enter_71 rfl rfl rfl ?_
    refine aw_get (pc' := 75) nd_M_enter_72 rfl nF_5_39 g_M_altered ?_
    refine aw_iload_n (pc' := 76) nd_M_enter_75 rfl rfl ?_
    refine aw_iald (pc' := 77) nd_M_enter_76 rfl ga_Maltered k rfl hk ?_
    refine aw_aload_n (pc' := 78) nd_M_enter_77 rfl rfl rfl ?_
    refine aw_get (pc' := 81) nd_M_enter_78 rfl nF_5_61 g_M_verified ?_
    refine aw_iload_n (pc' := 82) nd_M_enter_81 rfl rfl ?_
    refine aw_iald (pc' := 83) nd_M_enter_82 rfl ga_Mverified k rfl hk ?_
    refine aw_icmp_gt (pc' := 86) (tg := 90) nd_M_enter_83 (by decide) rfl (fun hb83 => ?_) (fun hb83 => ?_)
    · skip
      refine aw_iconst (pc' := 91) (x := 2) nd_M_enter_90 rfl (by decide) ?_
      refine aw_iast (pc' := 92) nd_M_enter_91 rfl rfl f rfl hf pa_Mmode ?_
      refine aw_return nd_M_enter_92 rfl (Nat.le_of_ble_eq_true rfl) (Nat.le_of_ble_eq_true rfl) ?_
      first
        | (rw [ms_o (by decide)] at hb68; rw [if_pos hb68] at hq; exact hq)
        | (rw [ms_o (by decide)] at hb68; rw [ms_o (by decide), ms_o (by decide)] at hb83; rw [if_neg hb68, if_pos hb83] at hq; exact hq)
        | (rw [ms_o (by decide)] at hb68; rw [ms_o (by decide), ms_o (by decide)] at hb83; rw [if_neg hb68, if_neg hb83] at hq; exact hq)
    · skip
      refine aw_iconst (pc' := 87) (x := 1) nd_M_enter_86 rfl (by decide) ?_
      refine aw_goto (pc' := 91) nd_M_enter_87 (by decide) ?_
      refine aw_iast (pc' := 92) nd_M_enter_91 rfl rfl f rfl hf pa_Mmode ?_
      refine aw_return nd_M_enter_92 rfl (Nat.le_of_ble_eq_true rfl) (Nat.le_of_ble_eq_true rfl) ?_
      first
        | (rw [ms_o (by decide)] at hb68; rw [if_pos hb68] at hq; exact hq)
        | (rw [ms_o (by decide)] at hb68; rw [ms_o (by decide), ms_o (by decide)] at hb83; rw [if_neg hb68, if_pos hb83] at hq; exact hq)
        | (rw [ms_o (by decide)] at hb68; rw [ms_o (by decide), ms_o (by decide)] at hb83; rw [if_neg hb68, if_neg hb83] at hq; exact hq)

theorem c_M_enter {L : Nat} {xs : Nat → Int32} {d : Nat} {Q : ax_Q} {μ : nMem} {f k e : Nat} (hf : f < 12) (hk : k < 12) (ho : μ.1 104 27 = nI (f + 1)) (hp : μ.1 128 f = nI k) (he : ¬ μ.1 117 k = 0 → μ.1 122 k = nI e) (he3 : e < 3) (hq1 : ¬ μ.1 117 k = 0 → ¬ μ.1 120 k < μ.1 106 e → Q none (ns_rep (fiM (ms (cnM μ k 2) 120 k (μ.1 104 3)) f k))) (hq2 : (μ.1 117 k = 0 ∨ μ.1 120 k < μ.1 106 e) → Q none (ns_rep (ms (ms μ 130 f 0) 129 f (if μ.1 117 k = 0 then 2 else if μ.1 120 k < μ.1 113 k then 2 else 1)))) : nM L xs (d + 2) 58 [.ref 104, .int (nI f), .int (nI k)] (ns_rep μ) Q := by
  refine nM.of ns_I_M_enter rfl (ls := [_, _, _]) (Nat.le_of_ble_eq_true rfl) rfl ?_
  refine aw_aload_n (pc' := 1) nd_M_enter_0 rfl rfl rfl ?_
  refine aw_get (pc' := 4) nd_M_enter_1 rfl nF_5_51 g_M_noted ?_
  refine aw_iload_n (pc' := 5) nd_M_enter_4 rfl rfl ?_
  refine aw_bald (pc' := 6) nd_M_enter_5 rfl ga_Mnoted k rfl hk ?_
  refine aw_if_eq (pc' := 9) (tg := 50) nd_M_enter_6 (by decide) rfl (fun hb6 => ?_) (fun hb6 => ?_)
  · skip
    first
      | exact l_M_enter50 hf hk (hq2 (Or.inl hb6))
      | exact l_M_enter50 hf hk (hq2 (Or.inr hb26))
  · skip
    refine aw_aload_n (pc' := 10) nd_M_enter_9 rfl rfl rfl ?_
    refine aw_get (pc' := 13) nd_M_enter_10 rfl nF_5_17 g_M_changes ?_
    refine aw_aload_n (pc' := 14) nd_M_enter_13 rfl rfl rfl ?_
    refine aw_get (pc' := 17) nd_M_enter_14 rfl nF_5_67 g_M_noteDurable ?_
    refine aw_iload_n (pc' := 18) nd_M_enter_17 rfl rfl ?_
    refine aw_iald (pc' := 19) nd_M_enter_18 rfl ga_MnoteDurable k rfl hk ?_
    refine aw_iald (pc' := 20) nd_M_enter_19 rfl ga_Mchanges e (he hb6) he3 ?_
    refine aw_aload_n (pc' := 21) nd_M_enter_20 rfl rfl rfl ?_
    refine aw_get (pc' := 24) nd_M_enter_21 rfl nF_5_61 g_M_verified ?_
    refine aw_iload_n (pc' := 25) nd_M_enter_24 rfl rfl ?_
    refine aw_iald (pc' := 26) nd_M_enter_25 rfl ga_Mverified k rfl hk ?_
    refine aw_icmp_gt (pc' := 29) (tg := 50) nd_M_enter_26 (by decide) rfl (fun hb26 => ?_) (fun hb26 => ?_)
    · skip
      first
        | exact l_M_enter50 hf hk (hq2 (Or.inl hb6))
        | exact l_M_enter50 hf hk (hq2 (Or.inr hb26))
    · skip
      refine aw_aload_n (pc' := 30) nd_M_enter_29 rfl rfl rfl ?_
      refine aw_iload_n (pc' := 31) nd_M_enter_30 rfl rfl ?_
      refine aw_iconst (pc' := 32) (x := 2) nd_M_enter_31 rfl (by decide) ?_
      refine aw_callV (pc' := 35) (as := [_, _]) (st := []) nd_M_enter_32 rfl nC_5_210 ⟨(Nat.le_of_ble_eq_true rfl), rfl, rfl⟩ ns_ioM (Nat.le_of_ble_eq_true rfl) (Nat.le_of_ble_eq_true rfl) (Nat.le_of_ble_eq_true rfl) ?_
      refine c_M_counts (w := 2) hk (by decide) ?_
      rw [show ms (ms μ 126 (3 * k + 2) (μ.1 126 (3 * k + 2) + 1)) 127 2 (μ.1 127 2 + 1) = cnM μ k 2 from rfl]
      show nW _ _ _ _ _ 35 _ [] _ _ _
      refine aw_aload_n (pc' := 36) nd_M_enter_35 rfl rfl rfl ?_
      refine aw_get (pc' := 39) nd_M_enter_36 rfl nF_5_61 g_M_verified ?_
      refine aw_iload_n (pc' := 40) nd_M_enter_39 rfl rfl ?_
      refine aw_aload_n (pc' := 41) nd_M_enter_40 rfl rfl rfl ?_
      refine aw_get (pc' := 44) nd_M_enter_41 rfl nF_5_13 g_M_revision ?_
      rw [cnM_o (by decide) (by decide)]
      refine aw_iast (pc' := 45) nd_M_enter_44 rfl rfl k rfl hk pa_Mverified ?_
      refine aw_aload_n (pc' := 46) nd_M_enter_45 rfl rfl rfl ?_
      refine aw_callV (pc' := 49) (as := []) (st := []) nd_M_enter_46 rfl nC_5_213 ⟨(Nat.le_of_ble_eq_true rfl), rfl, rfl⟩ ns_ioM (Nat.le_of_ble_eq_true rfl) (Nat.le_of_ble_eq_true rfl) (Nat.le_of_ble_eq_true rfl) ?_
      refine c_M_finish (n := f) (k := k) (by rw [ms_o (by decide), cnM_o (by decide) (by decide)]; exact ho) hf hk (by rw [ms_o (by decide), cnM_o (by decide) (by decide)]; exact hp) ?_
      show nW _ _ _ _ _ 49 _ [] _ _ _
      refine aw_return nd_M_enter_49 rfl (Nat.le_of_ble_eq_true rfl) (Nat.le_of_ble_eq_true rfl) ?_
      exact hq1 hb6 hb26

