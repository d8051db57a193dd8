/-! the parser as a whole; define -/
theorem CU.up {L : Nat} {xs : Nat → Int32} {μ0 : nMem} {n f : Nat} {G : Nat → Nat → pC → pR} {id dep dep' : Nat} (h : CU L xs μ0 n f G id dep) (hd : dep ≤ dep') : CU L xs μ0 n f G id dep' := by
  intro d Q μ dp i cs hs hdp hi hf hcs hq
  have e := h (d + (dep' - dep)) Q μ dp i cs hs hdp hi hf hcs hq
  rw [show d + (dep' - dep) + dep = d + dep' by omega] at e
  exact e
theorem CB.up {L : Nat} {xs : Nat → Int32} {μ0 : nMem} {n f : Nat} {G : Nat → Nat → pC → pR} {id dep dep' : Nat} (h : CB L xs μ0 n f G id dep) (hd : dep ≤ dep') : CB L xs μ0 n f G id dep' := by
  intro d Q μ dp i cs hs hdp hi hf hcs hq
  have e := h (d + (dep' - dep)) Q μ dp i cs hs hdp hi hf hcs hq
  rw [show d + (dep' - dep) + dep = d + dep' by omega] at e
  exact e
theorem c_P_W {L : Nat} {xs : Nat → Int32} {μ0 : nMem} {n : Nat} (hH : PH μ0 n) : ∀ f, CU L xs μ0 n f (pW (μ0.1 (nT 12)) n f).1 102 (4 * f + 3) ∧ CU L xs μ0 n f (pW (μ0.1 (nT 12)) n f).2 98 (4 * f + 6) := by
  intro f
  induction f with
  | zero => exact ⟨fun _ _ _ _ _ _ _ _ _ h => absurd h (by omega), fun _ _ _ _ _ _ _ _ _ h => absurd h (by omega)⟩
  | succ f ih =>
    obtain ⟨hU, hF⟩ := ih
    obtain ⟨oU, oF⟩ := pW_ok (μ0.1 (nT 12)) n f
    have u1 : CU L xs μ0 n (f + 1) (pUf (μ0.1 (nT 12)) n (pW (μ0.1 (nT 12)) n f).1 (pW (μ0.1 (nT 12)) n f).2) 102 (4 * f + 4 + 3) := c_P_unit hH (e := 4 * f + 4) (hU.up (by omega)) oU (hF.up (by omega)) oF
    have o1 := pUf_ok (t := (μ0.1 (nT 12))) oU oF
    have p1 := c_P_prod hH (e := 4 * f + 5) u1 o1
    have s1 := c_P_sum hH (e := 4 * f + 6) (p1.up (by omega)) (pP_ok o1)
    have b1 := c_P_bra hH (e := 4 * f + 4) hF oF
    have f1 := c_P_for hH (e := 4 * f + 7) (s1.up (by omega)) (pS_ok o1) (b1.up (by omega))
    exact ⟨u1.up (by omega), f1.up (by omega)⟩
/-- what the parser makes of a text of n characters -/
def pAcc (t : Nat → Int32) (n : Nat) : pR := (pW t n 31).2 0 0 []
theorem pAcc_ok (t : Nat → Int32) {n : Nat} (hn : n ≤ 30) : (pAcc t n).2.1 ≤ n ∧ (pAcc t n).2.2.length ≤ (pAcc t n).2.1 := by
  obtain ⟨a1, a2, a3, a4⟩ := (pW_ok t n 31).2 0 0 [] (by omega) (by omega)
  have e : ([] : pC).length = 0 := rfl
  rw [e] at a3
  exact ⟨a2, by unfold pAcc; omega⟩
theorem PSt.start {μ : nMem} : PSt μ (ms (ms μ 103 1 0) (nF 12) 3 0) 0 [] := by
  refine ⟨⟨fun b h1 h2 h3 => ?_, fun j hj => ?_, fun j hj => ?_, rfl⟩, ?_, ?_, fun j q hq => ?_, fun q hq => ?_⟩
  · rw [ms_o h2, ms_o h1]
  · rw [ms_s, pk_un hj, ms_o (by decide)]
  · rw [ms_o (by decide), ms_s, pk_un hj]
  · rw [ms_o (by decide), ms_s, pk_us]; rfl
  · rw [ms_s, pk_us]; rfl
  · simp at hq
  · simp at hq

theorem c_P_accepts {L : Nat} {xs : Nat → Int32} {d : Nat} {Q : ax_Q} {μ : nMem} {n : Nat} (hH : PH μ n) (hq : ∀ μ', PSt μ μ' (pAcc (μ.1 (nT 12)) n).2.1 (pAcc (μ.1 (nT 12)) n).2.2 → Q (some (.int (bi ((pAcc (μ.1 (nT 12)) n).1 && decide ((pAcc (μ.1 (nT 12)) n).2.1 = n))))) (ns_rep μ')) : nM L xs (d + 131) 94 [.ref 103] (ns_rep μ) Q := by
  have h12 : 12 < 13 := by omega
  refine nM.of ns_I_P_accepts rfl (ls := [_]) (Nat.le_of_ble_eq_true rfl) rfl ?_
  refine aw_aload_n (pc' := 1) nd_P_accepts_0 rfl rfl rfl ?_
  refine aw_iconst (pc' := 2) (x := 0) nd_P_accepts_1 rfl (by decide) ?_
  refine aw_put (pc' := 5) nd_P_accepts_2 rfl nF_4_15 trivial p_P_at ?_
  refine aw_aload_n (pc' := 6) nd_P_accepts_5 rfl rfl rfl ?_
  refine aw_get (pc' := 9) nd_P_accepts_6 rfl nF_4_9 g_P_formula ?_
  refine aw_iconst (pc' := 10) (x := 0) nd_P_accepts_9 rfl (by decide) ?_
  refine aw_put (pc' := 13) nd_P_accepts_10 rfl nF_4_19 trivial (p_F_stepCount h12) ?_
  refine aw_aload_n (pc' := 14) nd_P_accepts_13 rfl rfl rfl ?_
  refine aw_iconst (pc' := 15) (x := 0) nd_P_accepts_14 rfl (by decide) ?_
  refine aw_callV (pc' := 18) (as := [_]) (st := []) nd_P_accepts_15 rfl nC_4_24 ⟨(Nat.le_of_ble_eq_true rfl), rfl, rfl⟩ ns_ioP (Nat.le_of_ble_eq_true rfl) (Nat.le_of_ble_eq_true rfl) (Nat.le_of_ble_eq_true rfl) ?_
  have ho := pAcc_ok (μ.1 (nT 12)) hH.2.1
  refine (show CU L xs μ n 31 (pW (μ.1 (nT 12)) n 31).2 98 130 from (c_P_W hH 31).2) d _ _ 0 0 [] PSt.start (by decide) (Nat.zero_le _) (by have := hH.2.1; omega) (Nat.zero_le _) ?_
  change ∀ μ', PSt μ μ' (pAcc (μ.1 (nT 12)) n).2.1 (pAcc (μ.1 (nT 12)) n).2.2 → nW L xs (d + 130) _ _ _ _ ((some (Value.int (bi (pAcc (μ.1 (nT 12)) n).1))).toList ++ _) _ _ (ns_rep μ')
  rcases hr : pAcc (μ.1 (nT 12)) n with ⟨ok, i1, cs1⟩
  rw [hr] at hq ho
  dsimp only at hq ho ⊢
  intro μ1 hs1
  have e2 := hs1.2.1
  have e3 := hs1.len.trans hH.1
  have e4 : nI i1 = nI n ↔ i1 = n := nI_eq (by have := hH.2.1; omega) (by have := hH.2.1; omega)
  cases ok with
  | false =>
    show nW _ _ _ _ _ 18 _ [_] _ _ _
    refine aw_if_eq (pc' := 21) (tg := 39) nd_P_accepts_18 (by decide) rfl (fun _ => ?_) (fun hx => absurd (by decide) hx)
    refine aw_iconst (pc' := 40) (x := 0) nd_P_accepts_39 rfl (by decide) ?_
    refine aw_ireturn nd_P_accepts_40 rfl (by first | rfl | assumption) (Nat.le_of_ble_eq_true rfl) (Nat.le_of_ble_eq_true rfl) ?_
    have hq := hq _ hs1
    first
      | exact hq
      | (rw [show decide (i1 = n) = true from decide_eq_true (e4.mp hb32)] at hq; exact hq)
      | (rw [show decide (i1 = n) = false from decide_eq_false (fun z => hb32 (e4.mpr z))] at hq; exact hq)
  | true =>
    show nW _ _ _ _ _ 18 _ [_] _ _ _
    refine aw_if_eq (pc' := 21) (tg := 39) nd_P_accepts_18 (by decide) rfl (fun hx => absurd hx (by decide)) (fun _ => ?_)
    refine aw_aload_n (pc' := 22) nd_P_accepts_21 rfl rfl rfl ?_
    refine aw_get (pc' := 25) nd_P_accepts_22 rfl nF_4_15 g_P_at ?_
    refine aw_aload_n (pc' := 26) nd_P_accepts_25 rfl rfl rfl ?_
    refine aw_get (pc' := 29) nd_P_accepts_26 rfl nF_4_9 g_P_formula ?_
    refine aw_get (pc' := 32) nd_P_accepts_29 rfl nF_4_28 (g_F_length h12) ?_
    rw [e2, e3]
    refine aw_icmp_ne (pc' := 35) (tg := 39) nd_P_accepts_32 (by decide) rfl (fun hb32 => ?_) (fun hb32 => ?_)
    · skip
      refine aw_iconst (pc' := 40) (x := 0) nd_P_accepts_39 rfl (by decide) ?_
      refine aw_ireturn nd_P_accepts_40 rfl (by first | rfl | assumption) (Nat.le_of_ble_eq_true rfl) (Nat.le_of_ble_eq_true rfl) ?_
      have hq := hq _ hs1
      first
        | exact hq
        | (rw [show decide (i1 = n) = true from decide_eq_true (e4.mp hb32)] at hq; exact hq)
        | (rw [show decide (i1 = n) = false from decide_eq_false (fun z => hb32 (e4.mpr z))] at hq; exact hq)
    · skip
      refine aw_iconst (pc' := 36) (x := 1) nd_P_accepts_35 rfl (by decide) ?_
      refine aw_goto (pc' := 40) nd_P_accepts_36 (by decide) ?_
      refine aw_ireturn nd_P_accepts_40 rfl (by first | rfl | assumption) (Nat.le_of_ble_eq_true rfl) (Nat.le_of_ble_eq_true rfl) ?_
      have hq := hq _ hs1
      first
        | exact hq
        | (rw [show decide (i1 = n) = true from decide_eq_true (e4.mp hb32)] at hq; exact hq)
        | (rw [show decide (i1 = n) = false from decide_eq_false (fun z => hb32 (e4.mpr z))] at hq; exact hq)

def cpF (m : nMem) (k : Nat) : nMem := ms (ms (mw (mw m (nT k) (va_cpy (m.1 (nT 12)) (m.1 (nT k)) 0 0 30)) (nS k) (va_cpy (m.1 (nS 12)) (m.1 (nS k)) 0 0 30)) (nF k) 2 (m.1 (nF 12) 2)) (nF k) 3 (m.1 (nF 12) 3)
def mkF (μ : nMem) (k o : Nat) : nMem := ms (ms (cpF (srv μ o) k) (nC k) 5 ((cpF (srv μ o) k).1 0 6)) (nC k) 4 1
theorem srv_o {μ : nMem} {o b : Nat} (h : ¬ b = 98) (h0 : ¬ b = 0) : (srv μ o).1 b = μ.1 b := by
  unfold srv
  rw [sr_o h, ms_o h0]

theorem c_N_makeFormula {L : Nat} {xs : Nat → Int32} {d : Nat} {Q : ax_Q} {μ : nMem} {k a m o : Nat} (hk : k < 12) (ha : μ.1 (nF k) 2 = nI a) (ha30 : a ≤ 30) (hm : μ.1 (nF 12) 2 = nI m) (hm30 : m ≤ 30) (ho : oD μ k = nI o) (ho3 : o < 3) (hfit : ∀ i, i < 30 → fits .char (.int (μ.1 (nT 12) i)) = true) (hq1 : ¬ μ.1 (nC k) 4 = 0 → a = m → (∀ i, i < a → μ.1 (nT k) i = μ.1 (nT 12) i) → Q none (ns_rep μ)) (hq2 : (¬ μ.1 (nC k) 4 = 0 → a = m → ¬ ∀ i, i < a → μ.1 (nT k) i = μ.1 (nT 12) i) → Q none (ns_rep (mkF μ k o))) : nM L xs (d + 2) 12 [.ref 0, .ref (nC k)] (ns_rep μ) Q := by
  have h12 : 12 < 13 := by omega
  have hk13 : k < 13 := by omega
  refine nM.of ns_I_N_makeFormula rfl (ls := [_, _]) (Nat.le_of_ble_eq_true rfl) rfl ?_
  refine aw_aload_n (pc' := 1) nd_N_makeFormula_0 rfl rfl rfl ?_
  refine aw_get (pc' := 4) nd_N_makeFormula_1 rfl nF_0_84 (g_C_hasFormula (by assumption)) ?_
  refine aw_if_eq (pc' := 7) (tg := 22) nd_N_makeFormula_4 (by decide) rfl (fun hb4 => ?_) (fun hb4 => ?_)
  · skip
    refine aw_aload_n (pc' := 23) nd_N_makeFormula_22 rfl rfl rfl ?_
    refine aw_aload_n (pc' := 24) nd_N_makeFormula_23 rfl rfl rfl ?_
    refine aw_callV (pc' := 27) (as := []) (st := [_]) nd_N_makeFormula_24 rfl nC_0_144 ⟨(Nat.le_of_ble_eq_true rfl), rfl, rfl⟩ (ns_ioC (by assumption)) (Nat.le_of_ble_eq_true rfl) (Nat.le_of_ble_eq_true rfl) (Nat.le_of_ble_eq_true rfl) ?_
    refine c_C_own hk ?_
    rw [show (if μ.1 (nC k) 4 = 0 then μ.1 (nC k) 7 else 2) = nI o from ho]
    show nW _ _ _ _ _ 27 _ [_, _] _ _ _
    refine aw_callV (pc' := 30) (as := [_]) (st := []) nd_N_makeFormula_27 rfl nC_0_147 ⟨(Nat.le_of_ble_eq_true rfl), rfl, rfl⟩ ns_ioN (Nat.le_of_ble_eq_true rfl) (Nat.le_of_ble_eq_true rfl) (Nat.le_of_ble_eq_true rfl) ?_
    refine c_N_startRevision ho3 ?_
    show nW _ _ _ _ _ 30 _ [] _ _ _
    refine aw_aload_n (pc' := 31) nd_N_makeFormula_30 rfl rfl rfl ?_
    refine aw_get (pc' := 34) nd_N_makeFormula_31 rfl nF_0_137 (g_C_formula (by assumption)) ?_
    refine aw_aload_n (pc' := 35) nd_N_makeFormula_34 rfl rfl rfl ?_
    refine aw_get (pc' := 38) nd_N_makeFormula_35 rfl nF_0_39 g_N_pad ?_
    refine aw_callV (pc' := 41) (as := [_]) (st := []) nd_N_makeFormula_38 rfl nC_0_151 ⟨(Nat.le_of_ble_eq_true rfl), rfl, rfl⟩ (ns_ioF hk13) (Nat.le_of_ble_eq_true rfl) (Nat.le_of_ble_eq_true rfl) (Nat.le_of_ble_eq_true rfl) ?_
    refine c_F_copyFrom hk (by rw [srv_o (by decide) (by decide)]; exact hfit) ?_
    show nW _ _ _ _ _ 41 _ [] _ _ _
    refine aw_aload_n (pc' := 42) nd_N_makeFormula_41 rfl rfl rfl ?_
    refine aw_aload_n (pc' := 43) nd_N_makeFormula_42 rfl rfl rfl ?_
    refine aw_get (pc' := 46) nd_N_makeFormula_43 rfl nF_0_52 g_N_now ?_
    refine aw_put (pc' := 49) nd_N_makeFormula_46 rfl nF_0_154 trivial (p_C_formulaChanged (by assumption)) ?_
    refine aw_aload_n (pc' := 50) nd_N_makeFormula_49 rfl rfl rfl ?_
    refine aw_iconst (pc' := 51) (x := 1) nd_N_makeFormula_50 rfl (by decide) ?_
    refine aw_put (pc' := 54) nd_N_makeFormula_51 rfl nF_0_84 (by first | exact Or.inl rfl | exact Or.inr rfl | assumption) (p_C_hasFormula (by assumption)) ?_
    refine aw_return nd_N_makeFormula_54 rfl (Nat.le_of_ble_eq_true rfl) (Nat.le_of_ble_eq_true rfl) ?_
    first
      | exact hq2 (fun z => absurd hb4 z)
      | exact hq2 (fun _ => hno)
  · skip
    refine aw_aload_n (pc' := 8) nd_N_makeFormula_7 rfl rfl rfl ?_
    refine aw_get (pc' := 11) nd_N_makeFormula_8 rfl nF_0_137 (g_C_formula (by assumption)) ?_
    refine aw_aload_n (pc' := 12) nd_N_makeFormula_11 rfl rfl rfl ?_
    refine aw_get (pc' := 15) nd_N_makeFormula_12 rfl nF_0_39 g_N_pad ?_
    refine aw_callV (pc' := 18) (as := [_]) (st := []) nd_N_makeFormula_15 rfl nC_0_140 ⟨(Nat.le_of_ble_eq_true rfl), rfl, rfl⟩ (ns_ioF hk13) (Nat.le_of_ble_eq_true rfl) (Nat.le_of_ble_eq_true rfl) (Nat.le_of_ble_eq_true rfl) ?_
    refine c_F_hasText hk ha ha30 hm hm30 (fun he hall => ?_) (fun hno => ?_)
    · skip
      show nW _ _ _ _ _ 18 _ [_] _ _ _
      refine aw_if_eq (pc' := 21) (tg := 22) nd_N_makeFormula_18 (by decide) rfl (fun hx => absurd hx (by decide)) (fun _ => ?_)
      refine aw_return nd_N_makeFormula_21 rfl (Nat.le_of_ble_eq_true rfl) (Nat.le_of_ble_eq_true rfl) ?_
      exact hq1 hb4 he hall
    · skip
      show nW _ _ _ _ _ 18 _ [_] _ _ _
      refine aw_if_eq (pc' := 21) (tg := 22) nd_N_makeFormula_18 (by decide) rfl (fun _ => ?_) (fun hx => absurd (by decide) hx)
      refine aw_aload_n (pc' := 23) nd_N_makeFormula_22 rfl rfl rfl ?_
      refine aw_aload_n (pc' := 24) nd_N_makeFormula_23 rfl rfl rfl ?_
      refine aw_callV (pc' := 27) (as := []) (st := [_]) nd_N_makeFormula_24 rfl nC_0_144 ⟨(Nat.le_of_ble_eq_true rfl), rfl, rfl⟩ (ns_ioC (by assumption)) (Nat.le_of_ble_eq_true rfl) (Nat.le_of_ble_eq_true rfl) (Nat.le_of_ble_eq_true rfl) ?_
      refine c_C_own hk ?_
      rw [show (if μ.1 (nC k) 4 = 0 then μ.1 (nC k) 7 else 2) = nI o from ho]
      show nW _ _ _ _ _ 27 _ [_, _] _ _ _
      refine aw_callV (pc' := 30) (as := [_]) (st := []) nd_N_makeFormula_27 rfl nC_0_147 ⟨(Nat.le_of_ble_eq_true rfl), rfl, rfl⟩ ns_ioN (Nat.le_of_ble_eq_true rfl) (Nat.le_of_ble_eq_true rfl) (Nat.le_of_ble_eq_true rfl) ?_
      refine c_N_startRevision ho3 ?_
      show nW _ _ _ _ _ 30 _ [] _ _ _
      refine aw_aload_n (pc' := 31) nd_N_makeFormula_30 rfl rfl rfl ?_
      refine aw_get (pc' := 34) nd_N_makeFormula_31 rfl nF_0_137 (g_C_formula (by assumption)) ?_
      refine aw_aload_n (pc' := 35) nd_N_makeFormula_34 rfl rfl rfl ?_
      refine aw_get (pc' := 38) nd_N_makeFormula_35 rfl nF_0_39 g_N_pad ?_
      refine aw_callV (pc' := 41) (as := [_]) (st := []) nd_N_makeFormula_38 rfl nC_0_151 ⟨(Nat.le_of_ble_eq_true rfl), rfl, rfl⟩ (ns_ioF hk13) (Nat.le_of_ble_eq_true rfl) (Nat.le_of_ble_eq_true rfl) (Nat.le_of_ble_eq_true rfl) ?_
      refine c_F_copyFrom hk (by rw [srv_o (by decide) (by decide)]; exact hfit) ?_
      show nW _ _ _ _ _ 41 _ [] _ _ _
      refine aw_aload_n (pc' := 42) nd_N_makeFormula_41 rfl rfl rfl ?_
      refine aw_aload_n (pc' := 43) nd_N_makeFormula_42 rfl rfl rfl ?_
      refine aw_get (pc' := 46) nd_N_makeFormula_43 rfl nF_0_52 g_N_now ?_
      refine aw_put (pc' := 49) nd_N_makeFormula_46 rfl nF_0_154 trivial (p_C_formulaChanged (by assumption)) ?_
      refine aw_aload_n (pc' := 50) nd_N_makeFormula_49 rfl rfl rfl ?_
      refine aw_iconst (pc' := 51) (x := 1) nd_N_makeFormula_50 rfl (by decide) ?_
      refine aw_put (pc' := 54) nd_N_makeFormula_51 rfl nF_0_84 (by first | exact Or.inl rfl | exact Or.inr rfl | assumption) (p_C_hasFormula (by assumption)) ?_
      refine aw_return nd_N_makeFormula_54 rfl (Nat.le_of_ble_eq_true rfl) (Nat.le_of_ble_eq_true rfl) ?_
      first
        | exact hq2 (fun z => absurd hb4 z)
        | exact hq2 (fun _ => hno)

theorem c_N_define {L : Nat} {xs : Nat → Int32} {d : Nat} {Q : ax_Q} {μ : nMem} {n : Nat} {x : Int32} (hH : PH μ n) (hq0 : ic x = false → Q (some (.int (-1))) (ns_rep (ms μ (nF 12) 2 0)))
    (hq1 : ∀ k μ', k < 12 → x = nI k → PSt μ μ' (pAcc (μ.1 (nT 12)) n).2.1 (pAcc (μ.1 (nT 12)) n).2.2 → ((pAcc (μ.1 (nT 12)) n).1 && decide ((pAcc (μ.1 (nT 12)) n).2.1 = n)) = false → Q (some (.int (nI (1 + (pAcc (μ.1 (nT 12)) n).2.1)))) (ns_rep (ms μ' (nF 12) 2 0)))
    (hq2 : ∀ k μ', k < 12 → x = nI k → PSt μ μ' (pAcc (μ.1 (nT 12)) n).2.1 (pAcc (μ.1 (nT 12)) n).2.2 → ((pAcc (μ.1 (nT 12)) n).1 && decide ((pAcc (μ.1 (nT 12)) n).2.1 = n)) = true → ∃ a o, μ'.1 (nF k) 2 = nI a ∧ a ≤ 30 ∧ oD μ' k = nI o ∧ o < 3 ∧ (∀ i, i < 30 → fits .char (.int (μ'.1 (nT 12) i)) = true) ∧ (¬ μ'.1 (nC k) 4 = 0 → a = n → (∀ i, i < a → μ'.1 (nT k) i = μ'.1 (nT 12) i) → Q (some (.int 0)) (ns_rep (ms μ' (nF 12) 2 0))) ∧ ((¬ μ'.1 (nC k) 4 = 0 → a = n → ¬ ∀ i, i < a → μ'.1 (nT k) i = μ'.1 (nT 12) i) → Q (some (.int 0)) (ns_rep (ms (mkF μ' k o) (nF 12) 2 0)))) : nM L xs (d + 132) 2 [.ref 0, .int x] (ns_rep μ) Q := by
  have h12 : 12 < 13 := by omega
  have ho := pAcc_ok (μ.1 (nT 12)) hH.2.1
  have hn30 := hH.2.1
  refine nM.of ns_I_N_define rfl (ls := [_, _, _]) (Nat.le_of_ble_eq_true rfl) rfl ?_
  refine aw_iconst (pc' := 1) (x := -1) nd_N_define_0 rfl (by decide) ?_
  refine aw_istore_n (pc' := 2) (ls' := [_, _, _]) nd_N_define_1 rfl (Nat.le_of_ble_eq_true rfl) rfl ?_
  refine aw_iload_n (pc' := 3) nd_N_define_2 rfl rfl ?_
  refine aw_callS (a := 0) (pc' := 6) (as := [_]) (st := []) nd_N_define_3 rfl nC_0_62 ⟨(Nat.le_of_ble_eq_true rfl), rfl, rfl⟩ (Nat.le_of_ble_eq_true rfl) (Nat.le_of_ble_eq_true rfl) (Nat.le_of_ble_eq_true rfl) ?_
  refine c_N_isCell ?_
  change nW _ _ _ _ _ _ _ ((some (Value.int (bi (ic x)))).toList ++ _) _ _ _
  show nW _ _ _ _ _ 6 _ [_] _ _ _
  refine aw_if_eq (pc' := 9) (tg := 33) nd_N_define_6 (by decide) rfl (fun hb6 => ?_) (fun hb6 => ?_)
  · skip
    refine aw_iload_n (pc' := 34) nd_N_define_33 rfl rfl ?_
    refine aw_if_ne (pc' := 37) (tg := 47) nd_N_define_34 (by decide) rfl (fun _ => ?_) (fun hx => absurd hx (by decide))
    refine aw_aload_n (pc' := 48) nd_N_define_47 rfl rfl rfl ?_
    refine aw_get (pc' := 51) nd_N_define_48 rfl nF_0_39 g_N_pad ?_
    refine aw_iconst (pc' := 52) (x := 0) nd_N_define_51 rfl (by decide) ?_
    refine aw_put (pc' := 55) nd_N_define_52 rfl nF_0_78 trivial (p_F_length h12) ?_
    refine aw_iload_n (pc' := 56) nd_N_define_55 rfl rfl ?_
    refine aw_ireturn nd_N_define_56 rfl rfl (Nat.le_of_ble_eq_true rfl) (Nat.le_of_ble_eq_true rfl) ?_
    first
      | exact hq0 (bi_f hb6)
      | (have e := hq1 k _ hk rfl hs1 hb; rw [hone] at e; exact e)
      | exact hA z1 z2 z3
      | exact hB z
  · skip
    obtain ⟨k, hk, rfl⟩ := ic_t (bi_t hb6)
    refine aw_aload_n (pc' := 10) nd_N_define_9 rfl rfl rfl ?_
    refine aw_get (pc' := 13) nd_N_define_10 rfl nF_0_48 g_N_parser ?_
    refine aw_callV (pc' := 16) (as := []) (st := []) nd_N_define_13 rfl nC_0_66 ⟨(Nat.le_of_ble_eq_true rfl), rfl, rfl⟩ ns_ioP (Nat.le_of_ble_eq_true rfl) (Nat.le_of_ble_eq_true rfl) (Nat.le_of_ble_eq_true rfl) ?_
    refine c_P_accepts hH ?_
    intro μ1 hs1
    rcases hb : ((pAcc (μ.1 (nT 12)) n).1 && decide ((pAcc (μ.1 (nT 12)) n).2.1 = n)) with _ | _
    · skip
      show nW _ _ _ _ _ 16 _ [_] _ _ _
      refine aw_if_eq (pc' := 19) (tg := 23) nd_N_define_16 (by decide) rfl (fun _ => ?_) (fun hx => absurd (by decide) hx)
      refine aw_iconst (pc' := 24) (x := 1) nd_N_define_23 rfl (by decide) ?_
      refine aw_aload_n (pc' := 25) nd_N_define_24 rfl rfl rfl ?_
      refine aw_get (pc' := 28) nd_N_define_25 rfl nF_0_48 g_N_parser ?_
      refine aw_callV (pc' := 31) (as := []) (st := [_]) nd_N_define_28 rfl nC_0_70 ⟨(Nat.le_of_ble_eq_true rfl), rfl, rfl⟩ ns_ioP (Nat.le_of_ble_eq_true rfl) (Nat.le_of_ble_eq_true rfl) (Nat.le_of_ble_eq_true rfl) ?_
      refine c_P_fault ?_
      show nW _ _ _ _ _ 31 _ [_, _] _ _ _
      rw [hs1.2.1]
      have hone : nI (1 + (pAcc (μ.1 (nT 12)) n).2.1) = 1 + nI (pAcc (μ.1 (nT 12)) n).2.1 := (nI_add 1 _).symm
      have hne : ¬ 1 + nI (pAcc (μ.1 (nT 12)) n).2.1 = 0 := by rw [← hone]; exact nI_ne0 (by omega) (by omega)
      refine aw_iadd (pc' := 32) nd_N_define_31 rfl ?_
      refine aw_istore_n (pc' := 33) (ls' := [_, _, _]) nd_N_define_32 rfl (Nat.le_of_ble_eq_true rfl) rfl ?_
      refine aw_iload_n (pc' := 34) nd_N_define_33 rfl rfl ?_
      refine aw_if_ne (pc' := 37) (tg := 47) nd_N_define_34 (by decide) rfl (fun _ => ?_) (fun hx => absurd hx hne)
      refine aw_aload_n (pc' := 48) nd_N_define_47 rfl rfl rfl ?_
      refine aw_get (pc' := 51) nd_N_define_48 rfl nF_0_39 g_N_pad ?_
      refine aw_iconst (pc' := 52) (x := 0) nd_N_define_51 rfl (by decide) ?_
      refine aw_put (pc' := 55) nd_N_define_52 rfl nF_0_78 trivial (p_F_length h12) ?_
      refine aw_iload_n (pc' := 56) nd_N_define_55 rfl rfl ?_
      refine aw_ireturn nd_N_define_56 rfl rfl (Nat.le_of_ble_eq_true rfl) (Nat.le_of_ble_eq_true rfl) ?_
      first
        | exact hq0 (bi_f hb6)
        | (have e := hq1 k _ hk rfl hs1 hb; rw [hone] at e; exact e)
        | exact hA z1 z2 z3
        | exact hB z
    · skip
      show nW _ _ _ _ _ 16 _ [_] _ _ _
      refine aw_if_eq (pc' := 19) (tg := 23) nd_N_define_16 (by decide) rfl (fun hx => absurd hx (by decide)) (fun _ => ?_)
      refine aw_iconst (pc' := 20) (x := 0) nd_N_define_19 rfl (by decide) ?_
      refine aw_goto (pc' := 32) nd_N_define_20 (by decide) ?_
      refine aw_istore_n (pc' := 33) (ls' := [_, _, _]) nd_N_define_32 rfl (Nat.le_of_ble_eq_true rfl) rfl ?_
      refine aw_iload_n (pc' := 34) nd_N_define_33 rfl rfl ?_
      refine aw_if_ne (pc' := 37) (tg := 47) nd_N_define_34 (by decide) rfl (fun hx => absurd rfl hx) (fun _ => ?_)
      obtain ⟨a, o, ha, ha30, hoo, ho3, hfit, hA, hB⟩ := hq2 k _ hk rfl hs1 hb
      refine aw_aload_n (pc' := 38) nd_N_define_37 rfl rfl rfl ?_
      refine aw_aload_n (pc' := 39) nd_N_define_38 rfl rfl rfl ?_
      refine aw_get (pc' := 42) nd_N_define_39 rfl nF_0_24 g_N_cells ?_
      refine aw_iload_n (pc' := 43) nd_N_define_42 rfl rfl ?_
      refine aw_cells (pc' := 44) nd_N_define_43 rfl k rfl hk ?_
      refine aw_callV (pc' := 47) (as := [_]) (st := []) nd_N_define_44 rfl nC_0_74 ⟨(Nat.le_of_ble_eq_true rfl), rfl, rfl⟩ ns_ioN (Nat.le_of_ble_eq_true rfl) (Nat.le_of_ble_eq_true rfl) (Nat.le_of_ble_eq_true rfl) ?_
      refine c_N_makeFormula hk ha ha30 (hs1.len.trans hH.1) hn30 hoo ho3 hfit (fun z1 z2 z3 => ?_) (fun z => ?_)
      · skip
        show nW _ _ _ _ _ 47 _ [] _ _ _
        refine aw_aload_n (pc' := 48) nd_N_define_47 rfl rfl rfl ?_
        refine aw_get (pc' := 51) nd_N_define_48 rfl nF_0_39 g_N_pad ?_
        refine aw_iconst (pc' := 52) (x := 0) nd_N_define_51 rfl (by decide) ?_
        refine aw_put (pc' := 55) nd_N_define_52 rfl nF_0_78 trivial (p_F_length h12) ?_
        refine aw_iload_n (pc' := 56) nd_N_define_55 rfl rfl ?_
        refine aw_ireturn nd_N_define_56 rfl rfl (Nat.le_of_ble_eq_true rfl) (Nat.le_of_ble_eq_true rfl) ?_
        first
          | exact hq0 (bi_f hb6)
          | (have e := hq1 k _ hk rfl hs1 hb; rw [hone] at e; exact e)
          | exact hA z1 z2 z3
          | exact hB z
      · skip
        show nW _ _ _ _ _ 47 _ [] _ _ _
        refine aw_aload_n (pc' := 48) nd_N_define_47 rfl rfl rfl ?_
        refine aw_get (pc' := 51) nd_N_define_48 rfl nF_0_39 g_N_pad ?_
        refine aw_iconst (pc' := 52) (x := 0) nd_N_define_51 rfl (by decide) ?_
        refine aw_put (pc' := 55) nd_N_define_52 rfl nF_0_78 trivial (p_F_length h12) ?_
        refine aw_iload_n (pc' := 56) nd_N_define_55 rfl rfl ?_
        refine aw_ireturn nd_N_define_56 rfl rfl (Nat.le_of_ble_eq_true rfl) (Nat.le_of_ble_eq_true rfl) ?_
        first
          | exact hq0 (bi_f hb6)
          | (have e := hq1 k _ hk rfl hs1 hb; rw [hone] at e; exact e)
          | exact hA z1 z2 z3
          | exact hB z
