/-! what a memory holds behind a write -/
theorem ms_o {μ : nMem} {a k : Nat} {x : Int32} {b : Nat} (h : ¬ b = a) : (ms μ a k x).1 b = μ.1 b := if_neg h
theorem ms_s {μ : nMem} {a k : Nat} {x : Int32} : (ms μ a k x).1 a = upd (μ.1 a) k x := if_pos rfl
theorem ms_2 {μ : nMem} {a k : Nat} {x : Int32} : (ms μ a k x).2 = μ.2 := rfl
theorem ml_1 {μ : nMem} {a k : Nat} {x : Int64} : (ml μ a k x).1 = μ.1 := rfl
theorem ml_o {μ : nMem} {a k : Nat} {x : Int64} {b : Nat} (h : ¬ b = a) : (ml μ a k x).2 b = μ.2 b := if_neg h
theorem ml_s {μ : nMem} {a k : Nat} {x : Int64} : (ml μ a k x).2 a = vp_updL (μ.2 a) k x := if_pos rfl
theorem ms_r {μ : nMem} {a k : Nat} {x : Int32} {b j : Nat} : (ms μ a k x).1 b j = if b = a ∧ j = k then x else μ.1 b j := by
  by_cases h : b = a
  · subst h
    rw [ms_s]
    by_cases hj : j = k
    · simp [upd, hj]
    · simp [upd, hj]
  · rw [ms_o h, if_neg (fun z => h z.1)]
theorem ml_r {μ : nMem} {a k : Nat} {x : Int64} {b j : Nat} : (ml μ a k x).2 b j = if b = a ∧ j = k then x else μ.2 b j := by
  by_cases h : b = a
  · subst h
    rw [ml_s]
    by_cases hj : j = k
    · simp [vp_updL, hj]
    · simp [vp_updL, hj]
  · rw [ml_o h, if_neg (fun z => h z.1)]
theorem ms_ms {μ : nMem} {a k : Nat} {x y : Int32} : ms (ms μ a k x) a k y = ms μ a k y := by
  refine Prod.ext (funext fun b => ?_) rfl
  by_cases h : b = a
  · subst h
    rw [ms_s, ms_s, ms_s]
    funext j
    by_cases hj : j = k
    · simp [upd, hj]
    · simp [upd, hj]
  · rw [ms_o h, ms_o h, ms_o h]
/-! leaves: Formula's and Cell's, and the small ones -/
def bi (b : Bool) : Int32 := if b then 1 else 0
theorem bi_narrow (b : Bool) : narrow .boolean (.int (bi b)) = .int (bi b) := by cases b <;> rfl
theorem bi_0 (b : Bool) : bi b = 0 ↔ b = false := by cases b <;> simp [bi]
def isLet (x : Int32) : Bool := if x < 65 then false else if 77 ≤ x then false else true
def isDig (x : Int32) : Bool := if x < 48 then false else if 57 < x then false else true

theorem c_F_isLetter {L : Nat} {xs : Nat → Int32} {d : Nat} {Q : ax_Q} {x : Int32} {h : ax_H} (hq : Q (some (.int (bi (isLet x)))) h) : nM L xs (d + 1) 78 [.int x] h Q := by
  refine nM.of ns_I_F_isLetter rfl (ls := [_]) (Nat.le_of_ble_eq_true rfl) rfl ?_
  refine aw_iload_n (pc' := 1) nd_F_isLetter_0 rfl rfl ?_
  refine aw_bipush (pc' := 3) (x := 65) nd_F_isLetter_1 rfl (by decide) ?_
  refine aw_icmp_lt (pc' := 6) (tg := 16) nd_F_isLetter_3 (by decide) rfl (fun hb3 => ?_) (fun hb3 => ?_)
  · skip
    refine aw_iconst (pc' := 17) (x := 0) nd_F_isLetter_16 rfl (by decide) ?_
    refine aw_ireturn nd_F_isLetter_17 rfl (by first | rfl | assumption) (Nat.le_of_ble_eq_true rfl) (Nat.le_of_ble_eq_true rfl) ?_
    simpa [isLet, bi, *] using hq
  · skip
    refine aw_iload_n (pc' := 7) nd_F_isLetter_6 rfl rfl ?_
    refine aw_bipush (pc' := 9) (x := 77) nd_F_isLetter_7 rfl (by decide) ?_
    refine aw_icmp_ge (pc' := 12) (tg := 16) nd_F_isLetter_9 (by decide) rfl (fun hb9 => ?_) (fun hb9 => ?_)
    · skip
      refine aw_iconst (pc' := 17) (x := 0) nd_F_isLetter_16 rfl (by decide) ?_
      refine aw_ireturn nd_F_isLetter_17 rfl (by first | rfl | assumption) (Nat.le_of_ble_eq_true rfl) (Nat.le_of_ble_eq_true rfl) ?_
      simpa [isLet, bi, *] using hq
    · skip
      refine aw_iconst (pc' := 13) (x := 1) nd_F_isLetter_12 rfl (by decide) ?_
      refine aw_goto (pc' := 17) nd_F_isLetter_13 (by decide) ?_
      refine aw_ireturn nd_F_isLetter_17 rfl (by first | rfl | assumption) (Nat.le_of_ble_eq_true rfl) (Nat.le_of_ble_eq_true rfl) ?_
      simpa [isLet, bi, *] using hq

theorem c_F_isDigit {L : Nat} {xs : Nat → Int32} {d : Nat} {Q : ax_Q} {x : Int32} {h : ax_H} (hq : Q (some (.int (bi (isDig x)))) h) : nM L xs (d + 1) 79 [.int x] h Q := by
  refine nM.of ns_I_F_isDigit rfl (ls := [_]) (Nat.le_of_ble_eq_true rfl) rfl ?_
  refine aw_iload_n (pc' := 1) nd_F_isDigit_0 rfl rfl ?_
  refine aw_bipush (pc' := 3) (x := 48) nd_F_isDigit_1 rfl (by decide) ?_
  refine aw_icmp_lt (pc' := 6) (tg := 16) nd_F_isDigit_3 (by decide) rfl (fun hb3 => ?_) (fun hb3 => ?_)
  · skip
    refine aw_iconst (pc' := 17) (x := 0) nd_F_isDigit_16 rfl (by decide) ?_
    refine aw_ireturn nd_F_isDigit_17 rfl (by first | rfl | assumption) (Nat.le_of_ble_eq_true rfl) (Nat.le_of_ble_eq_true rfl) ?_
    simpa [isDig, bi, *] using hq
  · skip
    refine aw_iload_n (pc' := 7) nd_F_isDigit_6 rfl rfl ?_
    refine aw_bipush (pc' := 9) (x := 57) nd_F_isDigit_7 rfl (by decide) ?_
    refine aw_icmp_gt (pc' := 12) (tg := 16) nd_F_isDigit_9 (by decide) rfl (fun hb9 => ?_) (fun hb9 => ?_)
    · skip
      refine aw_iconst (pc' := 17) (x := 0) nd_F_isDigit_16 rfl (by decide) ?_
      refine aw_ireturn nd_F_isDigit_17 rfl (by first | rfl | assumption) (Nat.le_of_ble_eq_true rfl) (Nat.le_of_ble_eq_true rfl) ?_
      simpa [isDig, bi, *] using hq
    · skip
      refine aw_iconst (pc' := 13) (x := 1) nd_F_isDigit_12 rfl (by decide) ?_
      refine aw_goto (pc' := 17) nd_F_isDigit_13 (by decide) ?_
      refine aw_ireturn nd_F_isDigit_17 rfl (by first | rfl | assumption) (Nat.le_of_ble_eq_true rfl) (Nat.le_of_ble_eq_true rfl) ?_
      simpa [isDig, bi, *] using hq

theorem ne_FT (k j : Nat) : ¬ nF k = nT j := (by unfold nF nT; (repeat' split) <;> omega)
theorem ne_FS (k j : Nat) : ¬ nF k = nS j := (by unfold nF nS; (repeat' split) <;> omega)
theorem ne_TS (k j : Nat) : ¬ nT k = nS j := (by unfold nT nS; (repeat' split) <;> omega)

theorem c_F_append {L : Nat} {xs : Nat → Int32} {d : Nat} {Q : ax_Q} {μ : nMem} {k n : Nat} {c : Int32} (hk : k < 13) (hn : μ.1 (nF k) 2 = nI n) (hle : n ≤ 30) (hc : vp_nar .char c = c) (hq1 : n < 30 → Q (some (.int 1)) (ns_rep (ms (ms μ (nT k) n c) (nF k) 2 (nI (n + 1))))) (hq2 : n = 30 → Q (some (.int 0)) (ns_rep μ)) : nM L xs (d + 1) 81 [.ref (nF k), .int c] (ns_rep μ) Q := by
  refine nM.of ns_I_F_append rfl (ls := [_, _]) (Nat.le_of_ble_eq_true rfl) rfl ?_
  refine aw_aload_n (pc' := 1) nd_F_append_0 rfl rfl rfl ?_
  refine aw_get (pc' := 4) nd_F_append_1 rfl nF_2_34 (g_F_length (by assumption)) ?_
  refine aw_bipush (pc' := 6) (x := 30) nd_F_append_4 rfl (by decide) ?_
  have hx30 : (30 : Int32) = nI 30 := by decide
  rw [hn, hx30]
  refine aw_icmp_lt (pc' := 9) (tg := 11) nd_F_append_6 (by decide) rfl (fun hb6 => ?_) (fun hb6 => ?_)
  · skip
    refine aw_aload_n (pc' := 12) nd_F_append_11 rfl rfl rfl ?_
    refine aw_get (pc' := 15) nd_F_append_12 rfl nF_2_9 (g_F_text (by assumption)) ?_
    refine aw_aload_n (pc' := 16) nd_F_append_15 rfl rfl rfl ?_
    refine aw_get (pc' := 19) nd_F_append_16 rfl nF_2_34 (g_F_length (by assumption)) ?_
    refine aw_iload_n (pc' := 20) nd_F_append_19 rfl rfl ?_
    refine aw_cast (pc' := 21) nd_F_append_20 rfl hc n hn (by have := (nI_ltI (a := n) (b := 30) (by omega) (by decide)).mp hb6; omega) (pa_T (by assumption)) ?_
    refine aw_aload_n (pc' := 22) nd_F_append_21 rfl rfl rfl ?_
    refine aw_dup (pc' := 23) nd_F_append_22 rfl rfl ?_
    refine aw_get (pc' := 26) nd_F_append_23 rfl nF_2_34 (g_F_length (by assumption)) ?_
    refine aw_iconst (pc' := 27) (x := 1) nd_F_append_26 rfl (by decide) ?_
    refine aw_iadd (pc' := 28) nd_F_append_27 rfl ?_
    refine aw_put (pc' := 31) nd_F_append_28 rfl nF_2_34 trivial (p_F_length (by assumption)) ?_
    refine aw_iconst (pc' := 32) (x := 1) nd_F_append_31 rfl (by decide) ?_
    refine aw_ireturn nd_F_append_32 rfl (by first | rfl | assumption) (Nat.le_of_ble_eq_true rfl) (Nat.le_of_ble_eq_true rfl) ?_
    have hlt : n < 30 := (nI_ltI (a := n) (b := 30) (by omega) (by decide)).mp hb6
    have e : (ms μ (nT k) n c).1 (nF k) 2 + 1 = nI (n + 1) := by rw [ms_o (ne_FT k k), hn, nI_1]
    rw [e]
    exact hq1 hlt
  · skip
    refine aw_iconst (pc' := 10) (x := 0) nd_F_append_9 rfl (by decide) ?_
    refine aw_ireturn nd_F_append_10 rfl (by first | rfl | assumption) (Nat.le_of_ble_eq_true rfl) (Nat.le_of_ble_eq_true rfl) ?_
    refine hq2 ?_
    have : ¬ n < 30 := fun z => hb6 ((nI_ltI (by omega) (by decide)).mpr z)
    omega

theorem c_F_addStep {L : Nat} {xs : Nat → Int32} {d : Nat} {Q : ax_Q} {μ : nMem} {k n : Nat} {a b : Int32} (hk : k < 13) (hn : μ.1 (nF k) 3 = nI n) (hlt : n < 30) (hq : Q (some (.int (nI n))) (ns_rep (ms (ms μ (nS k) n (a * 10000 + b)) (nF k) 3 (nI (n + 1))))) : nM L xs (d + 1) 82 [.ref (nF k), .int a, .int b] (ns_rep μ) Q := by
  refine nM.of ns_I_F_addStep rfl (ls := [_, _, _]) (Nat.le_of_ble_eq_true rfl) rfl ?_
  refine aw_aload_n (pc' := 1) nd_F_addStep_0 rfl rfl rfl ?_
  refine aw_get (pc' := 4) nd_F_addStep_1 rfl nF_2_38 (g_F_stepCount (by assumption)) ?_
  refine aw_bipush (pc' := 6) (x := 30) nd_F_addStep_4 rfl (by decide) ?_
  refine aw_icmp_ge (pc' := 9) (tg := 35) nd_F_addStep_6 (by decide) rfl (fun hx => absurd hx (by rw [hn]; exact nI_ge hlt (by decide))) (fun _ => ?_)
  refine aw_aload_n (pc' := 10) nd_F_addStep_9 rfl rfl rfl ?_
  refine aw_get (pc' := 13) nd_F_addStep_10 rfl nF_2_15 (g_F_steps (by assumption)) ?_
  refine aw_aload_n (pc' := 14) nd_F_addStep_13 rfl rfl rfl ?_
  refine aw_get (pc' := 17) nd_F_addStep_14 rfl nF_2_38 (g_F_stepCount (by assumption)) ?_
  refine aw_iload_n (pc' := 18) nd_F_addStep_17 rfl rfl ?_
  refine aw_sipush (pc' := 21) (x := 10000) nd_F_addStep_18 rfl (by decide) ?_
  refine aw_imul (pc' := 22) nd_F_addStep_21 rfl ?_
  refine aw_iload_n (pc' := 23) nd_F_addStep_22 rfl rfl ?_
  refine aw_iadd (pc' := 24) nd_F_addStep_23 rfl ?_
  refine aw_iast (pc' := 25) nd_F_addStep_24 rfl rfl n hn hlt (pa_S (by assumption)) ?_
  refine aw_aload_n (pc' := 26) nd_F_addStep_25 rfl rfl rfl ?_
  refine aw_dup (pc' := 27) nd_F_addStep_26 rfl rfl ?_
  refine aw_get (pc' := 30) nd_F_addStep_27 rfl nF_2_38 (g_F_stepCount (by assumption)) ?_
  refine aw_iconst (pc' := 31) (x := 1) nd_F_addStep_30 rfl (by decide) ?_
  refine aw_iadd (pc' := 32) nd_F_addStep_31 rfl ?_
  refine aw_put (pc' := 35) nd_F_addStep_32 rfl nF_2_38 trivial (p_F_stepCount (by assumption)) ?_
  refine aw_aload_n (pc' := 36) nd_F_addStep_35 rfl rfl rfl ?_
  refine aw_get (pc' := 39) nd_F_addStep_36 rfl nF_2_38 (g_F_stepCount (by assumption)) ?_
  refine aw_iconst (pc' := 40) (x := 1) nd_F_addStep_39 rfl (by decide) ?_
  refine aw_isub (pc' := 41) nd_F_addStep_40 rfl ?_
  refine aw_ireturn nd_F_addStep_41 rfl rfl (Nat.le_of_ble_eq_true rfl) (Nat.le_of_ble_eq_true rfl) ?_
  have e : (ms μ (nS k) n (a * 10000 + b)).1 (nF k) 3 + 1 = nI (n + 1) := by rw [ms_o (ne_FS k k), hn, nI_1]
  rw [e]
  have e2 : (ms (ms μ (nS k) n (a * 10000 + b)) (nF k) 3 (nI (n + 1))).1 (nF k) 3 - 1 = nI n := by rw [ms_s, pk_us, nI_pred]
  rw [e2]
  exact hq

theorem c_F_stepAt {L : Nat} {xs : Nat → Int32} {d : Nat} {Q : ax_Q} {μ : nMem} {k j : Nat} (hk : k < 13) (hj : j < 30) (hq : Q (some (.int (μ.1 (nS k) j / 10000))) (ns_rep μ)) : nM L xs (d + 1) 84 [.ref (nF k), .int (nI j)] (ns_rep μ) Q := by
  refine nM.of ns_I_F_stepAt rfl (ls := [_, _]) (Nat.le_of_ble_eq_true rfl) rfl ?_
  refine aw_aload_n (pc' := 1) nd_F_stepAt_0 rfl rfl rfl ?_
  refine aw_get (pc' := 4) nd_F_stepAt_1 rfl nF_2_15 (g_F_steps (by assumption)) ?_
  refine aw_iload_n (pc' := 5) nd_F_stepAt_4 rfl rfl ?_
  refine aw_iald (pc' := 6) nd_F_stepAt_5 rfl (ga_S (by assumption)) j rfl hj ?_
  refine aw_sipush (pc' := 9) (x := 10000) nd_F_stepAt_6 rfl (by decide) ?_
  refine aw_idiv (pc' := 10) nd_F_stepAt_9 rfl (by decide) ?_
  refine aw_ireturn nd_F_stepAt_10 rfl rfl (Nat.le_of_ble_eq_true rfl) (Nat.le_of_ble_eq_true rfl) ?_
  exact hq

theorem c_F_operandAt {L : Nat} {xs : Nat → Int32} {d : Nat} {Q : ax_Q} {μ : nMem} {k j : Nat} (hk : k < 13) (hj : j < 30) (hq : Q (some (.int (μ.1 (nS k) j - μ.1 (nS k) j / 10000 * 10000))) (ns_rep μ)) : nM L xs (d + 1) 85 [.ref (nF k), .int (nI j)] (ns_rep μ) Q := by
  refine nM.of ns_I_F_operandAt rfl (ls := [_, _]) (Nat.le_of_ble_eq_true rfl) rfl ?_
  refine aw_aload_n (pc' := 1) nd_F_operandAt_0 rfl rfl rfl ?_
  refine aw_get (pc' := 4) nd_F_operandAt_1 rfl nF_2_15 (g_F_steps (by assumption)) ?_
  refine aw_iload_n (pc' := 5) nd_F_operandAt_4 rfl rfl ?_
  refine aw_iald (pc' := 6) nd_F_operandAt_5 rfl (ga_S (by assumption)) j rfl hj ?_
  refine aw_sipush (pc' := 9) (x := 10000) nd_F_operandAt_6 rfl (by decide) ?_
  refine aw_irem (pc' := 10) nd_F_operandAt_9 rfl (by decide) ?_
  refine aw_ireturn nd_F_operandAt_10 rfl rfl (Nat.le_of_ble_eq_true rfl) (Nat.le_of_ble_eq_true rfl) ?_
  exact hq

theorem c_F_jumpToEnd {L : Nat} {xs : Nat → Int32} {d : Nat} {Q : ax_Q} {μ : nMem} {k j : Nat} (hk : k < 13) (hj : j < 30) (hq : Q none (ns_rep (ms μ (nS k) j (μ.1 (nS k) j / 10000 * 10000 + μ.1 (nF k) 3)))) : nM L xs (d + 2) 83 [.ref (nF k), .int (nI j)] (ns_rep μ) Q := by
  refine nM.of ns_I_F_jumpToEnd rfl (ls := [_, _]) (Nat.le_of_ble_eq_true rfl) rfl ?_
  refine aw_aload_n (pc' := 1) nd_F_jumpToEnd_0 rfl rfl rfl ?_
  refine aw_get (pc' := 4) nd_F_jumpToEnd_1 rfl nF_2_15 (g_F_steps (by assumption)) ?_
  refine aw_iload_n (pc' := 5) nd_F_jumpToEnd_4 rfl rfl ?_
  refine aw_aload_n (pc' := 6) nd_F_jumpToEnd_5 rfl rfl rfl ?_
  refine aw_iload_n (pc' := 7) nd_F_jumpToEnd_6 rfl rfl ?_
  refine aw_callV (pc' := 10) (as := [_]) (st := [_, _]) nd_F_jumpToEnd_7 rfl nC_2_41 ⟨(Nat.le_of_ble_eq_true rfl), rfl, rfl⟩ (ns_ioF (by assumption)) (Nat.le_of_ble_eq_true rfl) (Nat.le_of_ble_eq_true rfl) (Nat.le_of_ble_eq_true rfl) ?_
  refine c_F_stepAt hk hj ?_
  show nW _ _ _ _ _ 10 _ [_, _, _] _ _ _
  refine aw_sipush (pc' := 13) (x := 10000) nd_F_jumpToEnd_10 rfl (by decide) ?_
  refine aw_imul (pc' := 14) nd_F_jumpToEnd_13 rfl ?_
  refine aw_aload_n (pc' := 15) nd_F_jumpToEnd_14 rfl rfl rfl ?_
  refine aw_get (pc' := 18) nd_F_jumpToEnd_15 rfl nF_2_38 (g_F_stepCount (by assumption)) ?_
  refine aw_iadd (pc' := 19) nd_F_jumpToEnd_18 rfl ?_
  refine aw_iast (pc' := 20) nd_F_jumpToEnd_19 rfl rfl j rfl hj (pa_S (by assumption)) ?_
  refine aw_return nd_F_jumpToEnd_20 rfl (Nat.le_of_ble_eq_true rfl) (Nat.le_of_ble_eq_true rfl) ?_
  exact hq

theorem c_C_own {L : Nat} {xs : Nat → Int32} {d : Nat} {Q : ax_Q} {μ : nMem} {k : Nat} (hk : k < 12) (hq : Q (some (.int (if μ.1 (nC k) 4 = 0 then μ.1 (nC k) 7 else 2))) (ns_rep μ)) : nM L xs (d + 1) 74 [.ref (nC k)] (ns_rep μ) Q := by
  refine nM.of ns_I_C_ownDurability rfl (ls := [_]) (Nat.le_of_ble_eq_true rfl) rfl ?_
  refine aw_aload_n (pc' := 1) nd_C_ownDurability_0 rfl rfl rfl ?_
  refine aw_get (pc' := 4) nd_C_ownDurability_1 rfl nF_1_32 (g_C_hasFormula (by assumption)) ?_
  refine aw_if_eq (pc' := 7) (tg := 11) nd_C_ownDurability_4 (by decide) rfl (fun hb4 => ?_) (fun hb4 => ?_)
  · skip
    refine aw_aload_n (pc' := 12) nd_C_ownDurability_11 rfl rfl rfl ?_
    refine aw_get (pc' := 15) nd_C_ownDurability_12 rfl nF_1_36 (g_C_durability (by assumption)) ?_
    refine aw_ireturn nd_C_ownDurability_15 rfl rfl (Nat.le_of_ble_eq_true rfl) (Nat.le_of_ble_eq_true rfl) ?_
    simpa [*] using hq
  · skip
    refine aw_iconst (pc' := 8) (x := 2) nd_C_ownDurability_7 rfl (by decide) ?_
    refine aw_goto (pc' := 15) nd_C_ownDurability_8 (by decide) ?_
    refine aw_ireturn nd_C_ownDurability_15 rfl rfl (Nat.le_of_ble_eq_true rfl) (Nat.le_of_ble_eq_true rfl) ?_
    simpa [*] using hq

theorem c_C_given {L : Nat} {xs : Nat → Int32} {d : Nat} {Q : ax_Q} {μ : nMem} {k : Nat} (hk : k < 12) (hq : Q (some (.int (if μ.1 (nC k) 4 = 0 then μ.1 (nC k) 7 else μ.1 (nN k) 7))) (ns_rep μ)) : nM L xs (d + 1) 75 [.ref (nC k)] (ns_rep μ) Q := by
  refine nM.of ns_I_C_givenDurability rfl (ls := [_]) (Nat.le_of_ble_eq_true rfl) rfl ?_
  refine aw_aload_n (pc' := 1) nd_C_givenDurability_0 rfl rfl rfl ?_
  refine aw_get (pc' := 4) nd_C_givenDurability_1 rfl nF_1_32 (g_C_hasFormula (by assumption)) ?_
  refine aw_if_eq (pc' := 7) (tg := 17) nd_C_givenDurability_4 (by decide) rfl (fun hb4 => ?_) (fun hb4 => ?_)
  · skip
    refine aw_aload_n (pc' := 18) nd_C_givenDurability_17 rfl rfl rfl ?_
    refine aw_get (pc' := 21) nd_C_givenDurability_18 rfl nF_1_36 (g_C_durability (by assumption)) ?_
    refine aw_ireturn nd_C_givenDurability_21 rfl rfl (Nat.le_of_ble_eq_true rfl) (Nat.le_of_ble_eq_true rfl) ?_
    simpa [*] using hq
  · skip
    refine aw_aload_n (pc' := 8) nd_C_givenDurability_7 rfl rfl rfl ?_
    refine aw_get (pc' := 11) nd_C_givenDurability_8 rfl nF_1_21 (g_C_note (by assumption)) ?_
    refine aw_get (pc' := 14) nd_C_givenDurability_11 rfl nF_1_40 (g_O_durability (by assumption)) ?_
    refine aw_goto (pc' := 21) nd_C_givenDurability_14 (by decide) ?_
    refine aw_ireturn nd_C_givenDurability_21 rfl rfl (Nat.le_of_ble_eq_true rfl) (Nat.le_of_ble_eq_true rfl) ?_
    simpa [*] using hq

theorem c_C_since {L : Nat} {xs : Nat → Int32} {d : Nat} {Q : ax_Q} {μ : nMem} {k : Nat} (hk : k < 12) (hq : Q (some (.int (if μ.1 (nC k) 4 = 0 then μ.1 (nC k) 8 else μ.1 (nN k) 6))) (ns_rep μ)) : nM L xs (d + 1) 76 [.ref (nC k)] (ns_rep μ) Q := by
  refine nM.of ns_I_C_unchangedSince rfl (ls := [_]) (Nat.le_of_ble_eq_true rfl) rfl ?_
  refine aw_aload_n (pc' := 1) nd_C_unchangedSince_0 rfl rfl rfl ?_
  refine aw_get (pc' := 4) nd_C_unchangedSince_1 rfl nF_1_32 (g_C_hasFormula (by assumption)) ?_
  refine aw_if_eq (pc' := 7) (tg := 17) nd_C_unchangedSince_4 (by decide) rfl (fun hb4 => ?_) (fun hb4 => ?_)
  · skip
    refine aw_aload_n (pc' := 18) nd_C_unchangedSince_17 rfl rfl rfl ?_
    refine aw_get (pc' := 21) nd_C_unchangedSince_18 rfl nF_1_44 (g_C_inputSince (by assumption)) ?_
    refine aw_ireturn nd_C_unchangedSince_21 rfl rfl (Nat.le_of_ble_eq_true rfl) (Nat.le_of_ble_eq_true rfl) ?_
    simpa [*] using hq
  · skip
    refine aw_aload_n (pc' := 8) nd_C_unchangedSince_7 rfl rfl rfl ?_
    refine aw_get (pc' := 11) nd_C_unchangedSince_8 rfl nF_1_21 (g_C_note (by assumption)) ?_
    refine aw_get (pc' := 14) nd_C_unchangedSince_11 rfl nF_1_41 (g_O_since (by assumption)) ?_
    refine aw_goto (pc' := 21) nd_C_unchangedSince_14 (by decide) ?_
    refine aw_ireturn nd_C_unchangedSince_21 rfl rfl (Nat.le_of_ble_eq_true rfl) (Nat.le_of_ble_eq_true rfl) ?_
    simpa [*] using hq

theorem c_O_ver {L : Nat} {xs : Nat → Int32} {d : Nat} {Q : ax_Q} {μ : nMem} {k : Nat} {r : Int32} (hk : k < 12) (hq : Q (some (.int (bi (if μ.1 (nN k) 2 = 0 then false else decide (μ.1 (nN k) 5 = r))))) (ns_rep μ)) : nM L xs (d + 1) 90 [.ref (nN k), .int r] (ns_rep μ) Q := by
  refine nM.of ns_I_O_isVerifiedIn rfl (ls := [_, _]) (Nat.le_of_ble_eq_true rfl) rfl ?_
  refine aw_aload_n (pc' := 1) nd_O_isVerifiedIn_0 rfl rfl rfl ?_
  refine aw_get (pc' := 4) nd_O_isVerifiedIn_1 rfl nF_3_19 (g_O_exists (by assumption)) ?_
  refine aw_if_eq (pc' := 7) (tg := 19) nd_O_isVerifiedIn_4 (by decide) rfl (fun hb4 => ?_) (fun hb4 => ?_)
  · skip
    refine aw_iconst (pc' := 20) (x := 0) nd_O_isVerifiedIn_19 rfl (by decide) ?_
    refine aw_ireturn nd_O_isVerifiedIn_20 rfl (by first | rfl | assumption) (Nat.le_of_ble_eq_true rfl) (Nat.le_of_ble_eq_true rfl) ?_
    simpa [bi, *] using hq
  · skip
    refine aw_aload_n (pc' := 8) nd_O_isVerifiedIn_7 rfl rfl rfl ?_
    refine aw_get (pc' := 11) nd_O_isVerifiedIn_8 rfl nF_3_26 (g_O_verified (by assumption)) ?_
    refine aw_iload_n (pc' := 12) nd_O_isVerifiedIn_11 rfl rfl ?_
    refine aw_icmp_ne (pc' := 15) (tg := 19) nd_O_isVerifiedIn_12 (by decide) rfl (fun hb12 => ?_) (fun hb12 => ?_)
    · skip
      refine aw_iconst (pc' := 20) (x := 0) nd_O_isVerifiedIn_19 rfl (by decide) ?_
      refine aw_ireturn nd_O_isVerifiedIn_20 rfl (by first | rfl | assumption) (Nat.le_of_ble_eq_true rfl) (Nat.le_of_ble_eq_true rfl) ?_
      simpa [bi, *] using hq
    · skip
      refine aw_iconst (pc' := 16) (x := 1) nd_O_isVerifiedIn_15 rfl (by decide) ?_
      refine aw_goto (pc' := 20) nd_O_isVerifiedIn_16 (by decide) ?_
      refine aw_ireturn nd_O_isVerifiedIn_20 rfl (by first | rfl | assumption) (Nat.le_of_ble_eq_true rfl) (Nat.le_of_ble_eq_true rfl) ?_
      simpa [bi, *] using hq

theorem c_O_clear {L : Nat} {xs : Nat → Int32} {d : Nat} {Q : ax_Q} {μ : nMem} {k : Nat} (hk : k < 12) (hq : Q none (ns_rep (ms (ms (ms (ms (ms (ms μ (nN k) 1 0) (nN k) 2 0) (nN k) 3 0) (nN k) 5 0) (nN k) 6 0) (nN k) 7 0))) : nM L xs (d + 1) 89 [.ref (nN k)] (ns_rep μ) Q := by
  refine nM.of ns_I_O_clear rfl (ls := [_]) (Nat.le_of_ble_eq_true rfl) rfl ?_
  refine aw_aload_n (pc' := 1) nd_O_clear_0 rfl rfl rfl ?_
  refine aw_iconst (pc' := 2) (x := 0) nd_O_clear_1 rfl (by decide) ?_
  refine aw_put (pc' := 5) nd_O_clear_2 rfl nF_3_15 trivial (p_O_readCount (by assumption)) ?_
  refine aw_aload_n (pc' := 6) nd_O_clear_5 rfl rfl rfl ?_
  refine aw_iconst (pc' := 7) (x := 0) nd_O_clear_6 rfl (by decide) ?_
  refine aw_put (pc' := 10) nd_O_clear_7 rfl nF_3_19 (by first | exact Or.inl rfl | exact Or.inr rfl | assumption) (p_O_exists (by assumption)) ?_
  refine aw_aload_n (pc' := 11) nd_O_clear_10 rfl rfl rfl ?_
  refine aw_iconst (pc' := 12) (x := 0) nd_O_clear_11 rfl (by decide) ?_
  refine aw_put (pc' := 15) nd_O_clear_12 rfl nF_3_23 (by first | exact Or.inl rfl | exact Or.inr rfl | assumption) (p_O_hasValue (by assumption)) ?_
  refine aw_aload_n (pc' := 16) nd_O_clear_15 rfl rfl rfl ?_
  refine aw_iconst (pc' := 17) (x := 0) nd_O_clear_16 rfl (by decide) ?_
  refine aw_put (pc' := 20) nd_O_clear_17 rfl nF_3_26 trivial (p_O_verified (by assumption)) ?_
  refine aw_aload_n (pc' := 21) nd_O_clear_20 rfl rfl rfl ?_
  refine aw_iconst (pc' := 22) (x := 0) nd_O_clear_21 rfl (by decide) ?_
  refine aw_put (pc' := 25) nd_O_clear_22 rfl nF_3_29 trivial (p_O_since (by assumption)) ?_
  refine aw_aload_n (pc' := 26) nd_O_clear_25 rfl rfl rfl ?_
  refine aw_iconst (pc' := 27) (x := 0) nd_O_clear_26 rfl (by decide) ?_
  refine aw_put (pc' := 30) nd_O_clear_27 rfl nF_3_32 trivial (p_O_durability (by assumption)) ?_
  refine aw_return nd_O_clear_30 rfl (Nat.le_of_ble_eq_true rfl) (Nat.le_of_ble_eq_true rfl) ?_
  exact hq

theorem c_N_isCell {L : Nat} {xs : Nat → Int32} {d : Nat} {Q : ax_Q} {x : Int32} {h : ax_H} (hq : Q (some (.int (bi (if x < 0 then false else if 12 ≤ x then false else true)))) h) : nM L xs (d + 1) 10 [.int x] h Q := by
  refine nM.of ns_I_N_isCell rfl (ls := [_]) (Nat.le_of_ble_eq_true rfl) rfl ?_
  refine aw_iload_n (pc' := 1) nd_N_isCell_0 rfl rfl ?_
  refine aw_if_lt (pc' := 4) (tg := 14) nd_N_isCell_1 (by decide) rfl (fun hb1 => ?_) (fun hb1 => ?_)
  · skip
    refine aw_iconst (pc' := 15) (x := 0) nd_N_isCell_14 rfl (by decide) ?_
    refine aw_ireturn nd_N_isCell_15 rfl (by first | rfl | assumption) (Nat.le_of_ble_eq_true rfl) (Nat.le_of_ble_eq_true rfl) ?_
    simpa [bi, *] using hq
  · skip
    refine aw_iload_n (pc' := 5) nd_N_isCell_4 rfl rfl ?_
    refine aw_bipush (pc' := 7) (x := 12) nd_N_isCell_5 rfl (by decide) ?_
    refine aw_icmp_ge (pc' := 10) (tg := 14) nd_N_isCell_7 (by decide) rfl (fun hb7 => ?_) (fun hb7 => ?_)
    · skip
      refine aw_iconst (pc' := 15) (x := 0) nd_N_isCell_14 rfl (by decide) ?_
      refine aw_ireturn nd_N_isCell_15 rfl (by first | rfl | assumption) (Nat.le_of_ble_eq_true rfl) (Nat.le_of_ble_eq_true rfl) ?_
      simpa [bi, *] using hq
    · skip
      refine aw_iconst (pc' := 11) (x := 1) nd_N_isCell_10 rfl (by decide) ?_
      refine aw_goto (pc' := 15) nd_N_isCell_11 (by decide) ?_
      refine aw_ireturn nd_N_isCell_15 rfl (by first | rfl | assumption) (Nat.le_of_ble_eq_true rfl) (Nat.le_of_ble_eq_true rfl) ?_
      simpa [bi, *] using hq

theorem c_N_isDur {L : Nat} {xs : Nat → Int32} {d : Nat} {Q : ax_Q} {x : Int32} {h : ax_H} (hq : Q (some (.int (bi (if x < 0 then false else if 2 < x then false else true)))) h) : nM L xs (d + 1) 11 [.int x] h Q := by
  refine nM.of ns_I_N_isDurability rfl (ls := [_]) (Nat.le_of_ble_eq_true rfl) rfl ?_
  refine aw_iload_n (pc' := 1) nd_N_isDurability_0 rfl rfl ?_
  refine aw_if_lt (pc' := 4) (tg := 13) nd_N_isDurability_1 (by decide) rfl (fun hb1 => ?_) (fun hb1 => ?_)
  · skip
    refine aw_iconst (pc' := 14) (x := 0) nd_N_isDurability_13 rfl (by decide) ?_
    refine aw_ireturn nd_N_isDurability_14 rfl (by first | rfl | assumption) (Nat.le_of_ble_eq_true rfl) (Nat.le_of_ble_eq_true rfl) ?_
    simpa [bi, *] using hq
  · skip
    refine aw_iload_n (pc' := 5) nd_N_isDurability_4 rfl rfl ?_
    refine aw_iconst (pc' := 6) (x := 2) nd_N_isDurability_5 rfl (by decide) ?_
    refine aw_icmp_gt (pc' := 9) (tg := 13) nd_N_isDurability_6 (by decide) rfl (fun hb6 => ?_) (fun hb6 => ?_)
    · skip
      refine aw_iconst (pc' := 14) (x := 0) nd_N_isDurability_13 rfl (by decide) ?_
      refine aw_ireturn nd_N_isDurability_14 rfl (by first | rfl | assumption) (Nat.le_of_ble_eq_true rfl) (Nat.le_of_ble_eq_true rfl) ?_
      simpa [bi, *] using hq
    · skip
      refine aw_iconst (pc' := 10) (x := 1) nd_N_isDurability_9 rfl (by decide) ?_
      refine aw_goto (pc' := 14) nd_N_isDurability_10 (by decide) ?_
      refine aw_ireturn nd_N_isDurability_14 rfl (by first | rfl | assumption) (Nat.le_of_ble_eq_true rfl) (Nat.le_of_ble_eq_true rfl) ?_
      simpa [bi, *] using hq

theorem c_N_revision {L : Nat} {xs : Nat → Int32} {d : Nat} {Q : ax_Q} {μ : nMem} (hq : Q (some (.int (μ.1 0 6))) (ns_rep μ)) : nM L xs (d + 1) 5 [.ref 0] (ns_rep μ) Q := by
  refine nM.of ns_I_N_revision rfl (ls := [_]) (Nat.le_of_ble_eq_true rfl) rfl ?_
  refine aw_aload_n (pc' := 1) nd_N_revision_0 rfl rfl rfl ?_
  refine aw_get (pc' := 4) nd_N_revision_1 rfl nF_0_52 g_N_now ?_
  refine aw_ireturn nd_N_revision_4 rfl rfl (Nat.le_of_ble_eq_true rfl) (Nat.le_of_ble_eq_true rfl) ?_
  exact hq

theorem c_N_markUsed {L : Nat} {xs : Nat → Int32} {d : Nat} {Q : ax_Q} {μ : nMem} {k : Nat} (hk : k < 12) (hq : Q none (ns_rep (ms (ms μ 0 7 (μ.1 0 7 + 1)) (nC k) 10 (μ.1 0 7 + 1)))) : nM L xs (d + 1) 25 [.ref 0, .ref (nC k)] (ns_rep μ) Q := by
  refine nM.of ns_I_N_markUsed rfl (ls := [_, _]) (Nat.le_of_ble_eq_true rfl) rfl ?_
  refine aw_aload_n (pc' := 1) nd_N_markUsed_0 rfl rfl rfl ?_
  refine aw_dup (pc' := 2) nd_N_markUsed_1 rfl rfl ?_
  refine aw_get (pc' := 5) nd_N_markUsed_2 rfl nF_0_240 g_N_uses ?_
  refine aw_iconst (pc' := 6) (x := 1) nd_N_markUsed_5 rfl (by decide) ?_
  refine aw_iadd (pc' := 7) nd_N_markUsed_6 rfl ?_
  refine aw_put (pc' := 10) nd_N_markUsed_7 rfl nF_0_240 trivial p_N_uses ?_
  refine aw_aload_n (pc' := 11) nd_N_markUsed_10 rfl rfl rfl ?_
  refine aw_aload_n (pc' := 12) nd_N_markUsed_11 rfl rfl rfl ?_
  refine aw_get (pc' := 15) nd_N_markUsed_12 rfl nF_0_240 g_N_uses ?_
  refine aw_put (pc' := 18) nd_N_markUsed_15 rfl nF_0_243 trivial (p_C_lastUse (by assumption)) ?_
  refine aw_return nd_N_markUsed_18 rfl (Nat.le_of_ble_eq_true rfl) (Nat.le_of_ble_eq_true rfl) ?_
  have e : (ms μ 0 7 (μ.1 0 7 + 1)).1 0 7 = μ.1 0 7 + 1 := by rw [ms_s, pk_us]
  rw [e]
  exact hq

theorem c_P_fault {L : Nat} {xs : Nat → Int32} {d : Nat} {Q : ax_Q} {μ : nMem} (hq : Q (some (.int (μ.1 103 1))) (ns_rep μ)) : nM L xs (d + 1) 95 [.ref 103] (ns_rep μ) Q := by
  refine nM.of ns_I_P_fault rfl (ls := [_]) (Nat.le_of_ble_eq_true rfl) rfl ?_
  refine aw_aload_n (pc' := 1) nd_P_fault_0 rfl rfl rfl ?_
  refine aw_get (pc' := 4) nd_P_fault_1 rfl nF_4_15 g_P_at ?_
  refine aw_ireturn nd_P_fault_4 rfl rfl (Nat.le_of_ble_eq_true rfl) (Nat.le_of_ble_eq_true rfl) ?_
  exact hq

theorem c_floorMod {L : Nat} {xs : Nat → Int32} {d : Nat} {Q : ax_Q} {x y : Int32} {h : ax_H} (hy : ¬ y = 0) (hq : Q (some (.int (if 0 ≤ x ^^^ y then x - x / y * y else if x - x / y * y = 0 then x - x / y * y else x - x / y * y + y))) h) : nM L xs (d + 1) 106 [.int x, .int y] h Q := by
  refine nM.of ns_I_J_floorMod rfl (ls := [_, _, _]) (Nat.le_of_ble_eq_true rfl) rfl ?_
  refine aw_iload_n (pc' := 1) nd_J_floorMod_0 rfl rfl ?_
  refine aw_iload_n (pc' := 2) nd_J_floorMod_1 rfl rfl ?_
  refine aw_irem (pc' := 3) nd_J_floorMod_2 rfl hy ?_
  refine aw_istore_n (pc' := 4) (ls' := [_, _, _]) nd_J_floorMod_3 rfl (Nat.le_of_ble_eq_true rfl) rfl ?_
  refine aw_iload_n (pc' := 5) nd_J_floorMod_4 rfl rfl ?_
  refine aw_iload_n (pc' := 6) nd_J_floorMod_5 rfl rfl ?_
  refine aw_ixor (pc' := 7) nd_J_floorMod_6 rfl ?_
  refine aw_if_ge (pc' := 10) (tg := 18) nd_J_floorMod_7 (by decide) rfl (fun hb7 => ?_) (fun hb7 => ?_)
  · skip
    refine aw_iload_n (pc' := 19) nd_J_floorMod_18 rfl rfl ?_
    refine aw_ireturn nd_J_floorMod_19 rfl rfl (Nat.le_of_ble_eq_true rfl) (Nat.le_of_ble_eq_true rfl) ?_
    simpa [*] using hq
  · skip
    refine aw_iload_n (pc' := 11) nd_J_floorMod_10 rfl rfl ?_
    refine aw_if_eq (pc' := 14) (tg := 18) nd_J_floorMod_11 (by decide) rfl (fun hb11 => ?_) (fun hb11 => ?_)
    · skip
      refine aw_iload_n (pc' := 19) nd_J_floorMod_18 rfl rfl ?_
      refine aw_ireturn nd_J_floorMod_19 rfl rfl (Nat.le_of_ble_eq_true rfl) (Nat.le_of_ble_eq_true rfl) ?_
      simpa [*] using hq
    · skip
      refine aw_iload_n (pc' := 15) nd_J_floorMod_14 rfl rfl ?_
      refine aw_iload_n (pc' := 16) nd_J_floorMod_15 rfl rfl ?_
      refine aw_iadd (pc' := 17) nd_J_floorMod_16 rfl ?_
      refine aw_ireturn nd_J_floorMod_17 rfl rfl (Nat.le_of_ble_eq_true rfl) (Nat.le_of_ble_eq_true rfl) ?_
      simpa [*] using hq
