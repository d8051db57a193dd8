/-! the parser's memory -/
def en (q : Nat × Nat) : Int32 := nI q.1 * 10000 + nI q.2
theorem en_nI (q : Nat × Nat) : en q = nI (q.1 * 10000 + q.2) := by
  have e : (10000 : Int32) = nI 10000 := by decide
  unfold en
  rw [e, pk_mul, nI_add]
theorem en_div {q : Nat × Nat} (h1 : q.1 ≤ 10) (h2 : q.2 < 10000) : en q / 10000 = nI q.1 := by
  have e : (10000 : Int32) = nI 10000 := by decide
  rw [en_nI, e, pk_div (by omega) (by decide) (by decide)]
  congr 1
  omega
theorem en_rem {q : Nat × Nat} (h1 : q.1 ≤ 10) (h2 : q.2 < 10000) : en q - en q / 10000 * 10000 = nI q.2 := by
  have e : (10000 : Int32) = nI 10000 := by decide
  rw [en_nI, e, pk_rem (by omega) (by decide) (by decide)]
  congr 1
  omega
/-- all but the parser's place, the pad's number of steps and its steps is as it was -/
def Pf (μ0 μ : nMem) : Prop := (∀ b, ¬ b = 103 → ¬ b = nF 12 → ¬ b = nS 12 → μ.1 b = μ0.1 b) ∧ (∀ j, ¬ j = 3 → μ.1 (nF 12) j = μ0.1 (nF 12) j) ∧ (∀ j, ¬ j = 1 → μ.1 103 j = μ0.1 103 j) ∧ μ.2 = μ0.2
def PSt (μ0 μ : nMem) (i : Nat) (cs : pC) : Prop := Pf μ0 μ ∧ μ.1 103 1 = nI i ∧ μ.1 (nF 12) 3 = nI cs.length ∧ (∀ j q, cs[j]? = some q → μ.1 (nS 12) j = en q) ∧ ∀ q ∈ cs, q.1 ≤ 10 ∧ q.2 < 10000
/-- the pad's text -/
def PH (μ0 : nMem) (n : Nat) : Prop := μ0.1 (nF 12) 2 = nI n ∧ n ≤ 30 ∧ ∀ j, j < n → vp_nar .char (μ0.1 (nT 12) j) = μ0.1 (nT 12) j
theorem v12F : nF 12 = 100 := rfl
theorem v12S : nS 12 = 102 := rfl
theorem v12T : nT 12 = 101 := rfl
theorem PSt.at {μ0 μ : nMem} {i i' : Nat} {cs : pC} {x : Int32} (h : PSt μ0 μ i cs) (hx : x = nI i') : PSt μ0 (ms μ 103 1 x) i' cs := by
  subst hx
  obtain ⟨⟨p1, p2, p3, p4⟩, h2, h3, h4, h5⟩ := h
  refine ⟨⟨fun b h1 hb2 hb3 => ?_, fun j hj => ?_, fun j hj => ?_, p4⟩, ?_, ?_, fun j q hq => ?_, h5⟩
  · rw [ms_o h1]; exact p1 b h1 hb2 hb3
  · rw [ms_o (by decide)]; exact p2 j hj
  · rw [ms_s, pk_un hj]; exact p3 j hj
  · rw [ms_s, pk_us]
  · rw [ms_o (by decide)]; exact h3
  · rw [ms_o (by decide)]; exact h4 j q hq
theorem PSt.inc {μ0 μ : nMem} {i : Nat} {cs : pC} (h : PSt μ0 μ i cs) : PSt μ0 (ms μ 103 1 (μ.1 103 1 + 1)) (i + 1) cs := h.at (by rw [h.2.1, nI_1])
theorem PSt.add {μ0 μ : nMem} {i : Nat} {cs : pC} {q : Nat × Nat} {x : Int32} (h : PSt μ0 μ i cs) (hx : x = en q) (h1 : q.1 ≤ 10) (h2 : q.2 < 10000) : PSt μ0 (ms (ms μ (nS 12) cs.length x) (nF 12) 3 (nI (cs.length + 1))) i (cs ++ [q]) := by
  subst hx
  obtain ⟨⟨p1, p2, p3, p4⟩, g2, g3, g4, g5⟩ := h
  refine ⟨⟨fun b hb1 hb2 hb3 => ?_, fun j hj => ?_, fun j hj => ?_, p4⟩, ?_, ?_, fun j q' hq => ?_, fun q' hq => ?_⟩
  · rw [ms_o hb2, ms_o hb3]; exact p1 b hb1 hb2 hb3
  · rw [ms_s, pk_un hj, ms_o (by decide)]; exact p2 j hj
  · rw [ms_o (by decide), ms_o (by decide)]; exact p3 j hj
  · rw [ms_o (by decide), ms_o (by decide)]; exact g2
  · rw [ms_s, pk_us, List.length_append, List.length_singleton]
  · rw [ms_o (by decide), ms_s]
    by_cases hj : j = cs.length
    · subst hj
      rw [pk_us]
      rw [List.getElem?_append_right (Nat.le_refl _), Nat.sub_self] at hq
      rw [Option.some.inj hq]
    · rw [pk_un hj]
      have hlt : j < cs.length := by
        have := (List.getElem?_eq_some_iff.mp hq).1
        rw [List.length_append, List.length_singleton] at this
        omega
      rw [List.getElem?_append_left hlt] at hq
      exact g4 j q' hq
  · rcases List.mem_append.mp hq with hq | hq
    · exact g5 q' hq
    · rw [List.mem_singleton.mp hq]; exact ⟨h1, h2⟩
theorem PSt.jm {μ0 μ : nMem} {i j : Nat} {cs : pC} (h : PSt μ0 μ i cs) (hj : j < cs.length) (hl : cs.length ≤ 30) : PSt μ0 (ms μ (nS 12) j (μ.1 (nS 12) j / 10000 * 10000 + μ.1 (nF 12) 3)) i (jmp cs j) := by
  obtain ⟨⟨p1, p2, p3, p4⟩, g2, g3, g4, g5⟩ := h
  have hq0 : cs[j]? = some (cs[j]) := List.getElem?_eq_getElem hj
  have hd : cs.getD j (0, 0) = cs[j] := by simp [List.getD, hq0]
  have hb := g5 _ (List.getElem_mem hj)
  have hv : μ.1 (nS 12) j / 10000 * 10000 + μ.1 (nF 12) 3 = en ((cs.getD j (0, 0)).1, cs.length) := by
    rw [g4 j _ hq0, en_div hb.1 hb.2, g3, hd]
    rfl
  rw [hv]
  refine ⟨⟨fun b hb1 hb2 hb3 => ?_, fun j' hj' => ?_, fun j' hj' => ?_, p4⟩, ?_, ?_, fun j' q' hq => ?_, fun q' hq => ?_⟩
  · rw [ms_o hb3]; exact p1 b hb1 hb2 hb3
  · rw [ms_o (by decide)]; exact p2 j' hj'
  · rw [ms_o (by decide)]; exact p3 j' hj'
  · rw [ms_o (by decide)]; exact g2
  · rw [ms_o (by decide), jmp_len]; exact g3
  · rw [ms_s]
    unfold jmp at hq
    rw [List.getElem?_set] at hq
    split at hq
    · rename_i e
      subst e
      (try rw [if_pos hj] at hq)
      rw [pk_us, ← Option.some.inj hq]
    · rename_i e
      rw [pk_un (fun z => e z.symm)]
      exact g4 j' q' hq
  · unfold jmp at hq
    rcases List.mem_or_eq_of_mem_set hq with hq | rfl
    · exact g5 q' hq
    · refine ⟨?_, ?_⟩
      · dsimp only; rw [hd]; exact hb.1
      · dsimp only; omega
theorem PSt.txt {μ0 μ : nMem} {i : Nat} {cs : pC} (h : PSt μ0 μ i cs) : μ.1 (nT 12) = μ0.1 (nT 12) := h.1.1 _ (by decide) (by decide) (by decide)
theorem PSt.len {μ0 μ : nMem} {i : Nat} {cs : pC} (h : PSt μ0 μ i cs) : μ.1 (nF 12) 2 = μ0.1 (nF 12) 2 := h.1.2.1 2 (by decide)

theorem c_P_next {L : Nat} {xs : Nat → Int32} {d : Nat} {Q : ax_Q} {μ0 μ : nMem} {n i : Nat} {cs : pC} (hH : PH μ0 n) (hs : PSt μ0 μ i cs) (hi : i ≤ n) (hq : Q (some (.int (nx (μ0.1 (nT 12)) n i))) (ns_rep μ)) : nM L xs (d + 1) 96 [.ref 103] (ns_rep μ) Q := by
  obtain ⟨hn, hn30, hch⟩ := hH
  have h12 : 12 < 13 := by omega
  have ei : nI n ≤ nI i ↔ n ≤ i := nI_leI (by omega) (by omega)
  refine nM.of ns_I_P_next rfl (ls := [_]) (Nat.le_of_ble_eq_true rfl) rfl ?_
  refine aw_aload_n (pc' := 1) nd_P_next_0 rfl rfl rfl ?_
  refine aw_get (pc' := 4) nd_P_next_1 rfl nF_4_15 g_P_at ?_
  refine aw_aload_n (pc' := 5) nd_P_next_4 rfl rfl rfl ?_
  refine aw_get (pc' := 8) nd_P_next_5 rfl nF_4_9 g_P_formula ?_
  refine aw_get (pc' := 11) nd_P_next_8 rfl nF_4_28 (g_F_length h12) ?_
  rw [hs.2.1, hs.len, hn]
  refine aw_icmp_ge (pc' := 14) (tg := 29) nd_P_next_11 (by decide) rfl (fun hb11 => ?_) (fun hb11 => ?_)
  · skip
    
    refine aw_iconst (pc' := 30) (x := 0) nd_P_next_29 rfl (by decide) ?_
    refine aw_ireturn nd_P_next_30 rfl (by first | rfl | (show Value.int (vp_nar .char _) = _; rw [hs.txt, hch i hlt])) (Nat.le_of_ble_eq_true rfl) (Nat.le_of_ble_eq_true rfl) ?_
    first
      | (unfold nx at hq; rw [if_neg (by have := ei.mp hb11; omega)] at hq; exact hq)
      | (unfold nx at hq; rw [if_pos hlt] at hq; rw [hs.txt]; exact hq)
  · skip
    have hlt : i < n := by have := mt ei.mpr hb11; omega
    refine aw_aload_n (pc' := 15) nd_P_next_14 rfl rfl rfl ?_
    refine aw_get (pc' := 18) nd_P_next_15 rfl nF_4_9 g_P_formula ?_
    refine aw_get (pc' := 21) nd_P_next_18 rfl nF_4_31 (g_F_text h12) ?_
    refine aw_aload_n (pc' := 22) nd_P_next_21 rfl rfl rfl ?_
    refine aw_get (pc' := 25) nd_P_next_22 rfl nF_4_15 g_P_at ?_
    refine aw_cald (pc' := 26) nd_P_next_25 rfl (ga_T h12) i hs.2.1 (by omega) ?_
    refine aw_goto (pc' := 30) nd_P_next_26 (by decide) ?_
    refine aw_ireturn nd_P_next_30 rfl (by first | rfl | (show Value.int (vp_nar .char _) = _; rw [hs.txt, hch i hlt])) (Nat.le_of_ble_eq_true rfl) (Nat.le_of_ble_eq_true rfl) ?_
    first
      | (unfold nx at hq; rw [if_neg (by have := ei.mp hb11; omega)] at hq; exact hq)
      | (unfold nx at hq; rw [if_pos hlt] at hq; rw [hs.txt]; exact hq)

theorem c_P_take {L : Nat} {xs : Nat → Int32} {d : Nat} {Q : ax_Q} {μ0 μ : nMem} {n i : Nat} {cs : pC} (hH : PH μ0 n) (hs : PSt μ0 μ i cs) (hi : i ≤ n) {c : Int32} (hq1 : nx (μ0.1 (nT 12)) n i = c → ∀ μ', PSt μ0 μ' (i + 1) cs → Q (some (.int 1)) (ns_rep μ')) (hq0 : ¬ nx (μ0.1 (nT 12)) n i = c → Q (some (.int 0)) (ns_rep μ)) : nM L xs (d + 2) 97 [.ref 103, .int c] (ns_rep μ) Q := by
  refine nM.of ns_I_P_take rfl (ls := [_, _]) (Nat.le_of_ble_eq_true rfl) rfl ?_
  refine aw_aload_n (pc' := 1) nd_P_take_0 rfl rfl rfl ?_
  refine aw_callV (pc' := 4) (as := []) (st := []) nd_P_take_1 rfl nC_4_35 ⟨(Nat.le_of_ble_eq_true rfl), rfl, rfl⟩ ns_ioP (Nat.le_of_ble_eq_true rfl) (Nat.le_of_ble_eq_true rfl) (Nat.le_of_ble_eq_true rfl) ?_
  refine c_P_next hH hs hi ?_
  show nW _ _ _ _ _ 4 _ [_] _ _ _
  refine aw_iload_n (pc' := 5) nd_P_take_4 rfl rfl ?_
  refine aw_icmp_eq (pc' := 8) (tg := 10) nd_P_take_5 (by decide) rfl (fun hb5 => ?_) (fun hb5 => ?_)
  · skip
    refine aw_aload_n (pc' := 11) nd_P_take_10 rfl rfl rfl ?_
    refine aw_dup (pc' := 12) nd_P_take_11 rfl rfl ?_
    refine aw_get (pc' := 15) nd_P_take_12 rfl nF_4_15 g_P_at ?_
    refine aw_iconst (pc' := 16) (x := 1) nd_P_take_15 rfl (by decide) ?_
    refine aw_iadd (pc' := 17) nd_P_take_16 rfl ?_
    refine aw_put (pc' := 20) nd_P_take_17 rfl nF_4_15 trivial p_P_at ?_
    refine aw_iconst (pc' := 21) (x := 1) nd_P_take_20 rfl (by decide) ?_
    refine aw_ireturn nd_P_take_21 rfl (by first | rfl | assumption) (Nat.le_of_ble_eq_true rfl) (Nat.le_of_ble_eq_true rfl) ?_
    exact hq1 hb5 _ hs.inc
  · skip
    refine aw_iconst (pc' := 9) (x := 0) nd_P_take_8 rfl (by decide) ?_
    refine aw_ireturn nd_P_take_9 rfl (by first | rfl | assumption) (Nat.le_of_ble_eq_true rfl) (Nat.le_of_ble_eq_true rfl) ?_
    exact hq0 hb5

theorem c_P_add {L : Nat} {xs : Nat → Int32} {d : Nat} {Q : ax_Q} {μ0 μ : nMem} {i : Nat} {cs : pC} {a b : Int32} (hs : PSt μ0 μ i cs) (q : Nat × Nat) (ha : a = nI q.1) (hb : b = nI q.2) (h1 : q.1 ≤ 10) (h2 : q.2 < 10000) (hl : cs.length < 30) (hq : ∀ μ', PSt μ0 μ' i (cs ++ [q]) → Q (some (.int (nI cs.length))) (ns_rep μ')) : nM L xs (d + 1) 82 [.ref (nF 12), .int a, .int b] (ns_rep μ) Q := by
  subst ha; subst hb
  exact c_F_addStep (by decide) hs.2.2.1 hl (hq _ (hs.add rfl h1 h2))
theorem c_P_jmp {L : Nat} {xs : Nat → Int32} {d : Nat} {Q : ax_Q} {μ0 μ : nMem} {i j : Nat} {cs : pC} (hs : PSt μ0 μ i cs) (hj : j < cs.length) (hl : cs.length ≤ 30) (hq : ∀ μ', PSt μ0 μ' i (jmp cs j) → Q none (ns_rep μ')) : nM L xs (d + 2) 83 [.ref (nF 12), .int (nI j)] (ns_rep μ) Q := c_F_jumpToEnd (by decide) (by omega) (hq _ (hs.jm hj hl))
theorem dg_of {c : Int32} (h : isDig c = true) : c - 48 = nI (dg c) ∧ dg c < 10 := by
  unfold isDig at h
  split at h
  · cases h
  · rename_i h0
    split at h
    · cases h
    · rename_i h1
      have hc0 : ¬ c < 0 := fun z => h0 (Int32.lt_trans z (by decide))
      obtain ⟨j, hj, rfl⟩ := nI_of hc0
      have e48 : (48 : Int32) = nI 48 := by decide
      have e57 : (57 : Int32) = nI 57 := by decide
      rw [e48] at h0
      rw [e57] at h1
      have b0 := mt (nI_ltI hj (by decide : 48 < 2 ^ 31)).mpr h0
      have b1 := mt (nI_ltI (by decide : 57 < 2 ^ 31) hj).mpr h1
      have e : nI j - 48 = nI (j - 48) := by rw [e48, pk_sub (by omega)]
      unfold dg
      rw [e, nI_clamp (by omega)]
      exact ⟨rfl, by omega⟩
theorem la_of {c : Int32} (h : isLet c = true) : c - 65 = nI (la c) ∧ la c < 12 := by
  unfold isLet at h
  split at h
  · cases h
  · rename_i h0
    split at h
    · cases h
    · rename_i h1
      have hc0 : ¬ c < 0 := fun z => h0 (Int32.lt_trans z (by decide))
      obtain ⟨j, hj, rfl⟩ := nI_of hc0
      have e65 : (65 : Int32) = nI 65 := by decide
      have e77 : (77 : Int32) = nI 77 := by decide
      rw [e65] at h0
      rw [e77] at h1
      have b0 := mt (nI_ltI hj (by decide : 65 < 2 ^ 31)).mpr h0
      have b1 := mt (nI_leI (by decide : 77 < 2 ^ 31) hj).mpr h1
      have e : nI j - 65 = nI (j - 65) := by rw [e65, pk_sub (by omega)]
      unfold la
      rw [e, nI_clamp (by omega)]
      exact ⟨rfl, by omega⟩
theorem pn_val (t : Nat → Int32) (n : Nat) : ∀ (g i v : Nat), v < 10 ^ (4 - g) → g ≤ 4 → (pn t n g i v).2 < 10000 := by
  intro g
  induction g with
  | zero => intro i v h _; exact h
  | succ g ih =>
    intro i v h hg
    unfold pn
    split
    · rename_i hd
      refine ih _ _ ?_ (by omega)
      have := (dg_of hd).2
      rw [show 4 - g = (4 - (g + 1)) + 1 by omega, Nat.pow_succ]
      omega
    · refine Nat.lt_of_lt_of_le h ?_
      have : 10 ^ (4 - (g + 1)) ≤ 10 ^ 4 := Nat.pow_le_pow_right (by decide) (by omega)
      exact this

theorem l_P_num {L : Nat} {xs : Nat → Int32} {d : Nat} {Q : ax_Q} {μ0 : nMem} {n : Nat} {cs : pC} (hH : PH μ0 n) (hl : cs.length < 30) : ∀ g (μ : nMem) (i v j : Nat), g + j = 4 → i ≤ n → PSt μ0 μ i cs → v < 10 ^ j → (∀ μ', PSt μ0 μ' (pn (μ0.1 (nT 12)) n g i v).1 (cs ++ [(0, (pn (μ0.1 (nT 12)) n g i v).2)]) → Q none (ns_rep μ')) → nW L xs (d + 1) ns_I_P_takeNumber Q 4 [some (.ref 103), some (.int (nI v)), some (.int (nI j))] [] 0 0 (ns_rep μ) := by
  have h12 : 12 < 13 := by omega
  intro g
  induction g with
  | zero =>
    intro μ i v j hg hi hs hv hq
    obtain rfl : j = 4 := by omega
    refine aw_iload_n (pc' := 5) nd_P_takeNumber_4 rfl rfl ?_
    refine aw_iconst (pc' := 6) (x := 4) nd_P_takeNumber_5 rfl (by decide) ?_
    refine aw_icmp_ge (pc' := 9) (tg := 48) nd_P_takeNumber_6 (by decide) rfl (fun _ => ?_) (fun hx => absurd (by decide) hx)
    refine aw_aload_n (pc' := 49) nd_P_takeNumber_48 rfl rfl rfl ?_
    refine aw_get (pc' := 52) nd_P_takeNumber_49 rfl nF_4_9 g_P_formula ?_
    refine aw_iconst (pc' := 53) (x := 0) nd_P_takeNumber_52 rfl (by decide) ?_
    refine aw_iload_n (pc' := 54) nd_P_takeNumber_53 rfl rfl ?_
    refine aw_callV (pc' := 57) (as := [_, _]) (st := []) nd_P_takeNumber_54 rfl nC_4_42 ⟨(Nat.le_of_ble_eq_true rfl), rfl, rfl⟩ (ns_ioF h12) (Nat.le_of_ble_eq_true rfl) (Nat.le_of_ble_eq_true rfl) (Nat.le_of_ble_eq_true rfl) ?_
    refine c_P_add hs (0, v) rfl rfl (Nat.zero_le _) (by exact hv) hl (fun μ' hs' => ?_)
    show nW _ _ _ _ _ 57 _ [_] _ _ _
    refine aw_pop (pc' := 58) nd_P_takeNumber_57 rfl rfl ?_
    refine aw_return nd_P_takeNumber_58 rfl (Nat.le_of_ble_eq_true rfl) (Nat.le_of_ble_eq_true rfl) ?_
    exact hq _ hs'
  | succ g ih =>
    intro μ i v j hg hi hs hv hq
    unfold pn at hq
    refine aw_iload_n (pc' := 5) nd_P_takeNumber_4 rfl rfl ?_
    refine aw_iconst (pc' := 6) (x := 4) nd_P_takeNumber_5 rfl (by decide) ?_
    refine aw_icmp_ge (pc' := 9) (tg := 48) nd_P_takeNumber_6 (by decide) rfl (fun hx => absurd hx (nI_ge (b := 4) (by omega) (by decide))) (fun _ => ?_)
    refine aw_aload_n (pc' := 10) nd_P_takeNumber_9 rfl rfl rfl ?_
    refine aw_callV (pc' := 13) (as := []) (st := []) nd_P_takeNumber_10 rfl nC_4_35 ⟨(Nat.le_of_ble_eq_true rfl), rfl, rfl⟩ ns_ioP (Nat.le_of_ble_eq_true rfl) (Nat.le_of_ble_eq_true rfl) (Nat.le_of_ble_eq_true rfl) ?_
    refine c_P_next hH hs hi ?_
    show nW _ _ _ _ _ 13 _ [_] _ _ _
    refine aw_callS (a := 0) (pc' := 16) (as := [_]) (st := []) nd_P_takeNumber_13 rfl nC_4_66 ⟨(Nat.le_of_ble_eq_true rfl), rfl, rfl⟩ (Nat.le_of_ble_eq_true rfl) (Nat.le_of_ble_eq_true rfl) (Nat.le_of_ble_eq_true rfl) ?_
    refine c_F_isDigit ?_
    show nW _ _ _ _ _ 16 _ [_] _ _ _
    refine aw_if_eq (pc' := 19) (tg := 48) nd_P_takeNumber_16 (by decide) rfl (fun hb16 => ?_) (fun hb16 => ?_)
    · skip
      refine aw_aload_n (pc' := 49) nd_P_takeNumber_48 rfl rfl rfl ?_
      refine aw_get (pc' := 52) nd_P_takeNumber_49 rfl nF_4_9 g_P_formula ?_
      refine aw_iconst (pc' := 53) (x := 0) nd_P_takeNumber_52 rfl (by decide) ?_
      refine aw_iload_n (pc' := 54) nd_P_takeNumber_53 rfl rfl ?_
      refine aw_callV (pc' := 57) (as := [_, _]) (st := []) nd_P_takeNumber_54 rfl nC_4_42 ⟨(Nat.le_of_ble_eq_true rfl), rfl, rfl⟩ (ns_ioF h12) (Nat.le_of_ble_eq_true rfl) (Nat.le_of_ble_eq_true rfl) (Nat.le_of_ble_eq_true rfl) ?_
      refine c_P_add hs (0, v) rfl rfl (Nat.zero_le _) (show v < 10000 from Nat.lt_of_lt_of_le hv (Nat.pow_le_pow_right (n := 10) (i := j) (j := 4) (by decide) (by omega))) hl (fun μ' hs' => ?_)
      show nW _ _ _ _ _ 57 _ [_] _ _ _
      refine aw_pop (pc' := 58) nd_P_takeNumber_57 rfl rfl ?_
      refine aw_return nd_P_takeNumber_58 rfl (Nat.le_of_ble_eq_true rfl) (Nat.le_of_ble_eq_true rfl) ?_
      rw [if_neg (by rw [bi_f hb16]; decide)] at hq
      exact hq _ hs'
    · skip
      have hd := bi_t hb16
      rw [if_pos hd] at hq
      have hi2 := isDig_lt hd
      have e10 : (10 : Int32) = nI 10 := by decide
      have hdg := dg_of hd
      refine aw_iload_n (pc' := 20) nd_P_takeNumber_19 rfl rfl ?_
      refine aw_bipush (pc' := 22) (x := 10) nd_P_takeNumber_20 rfl (by decide) ?_
      refine aw_imul (pc' := 23) nd_P_takeNumber_22 rfl ?_
      refine aw_aload_n (pc' := 24) nd_P_takeNumber_23 rfl rfl rfl ?_
      refine aw_callV (pc' := 27) (as := []) (st := [_]) nd_P_takeNumber_24 rfl nC_4_35 ⟨(Nat.le_of_ble_eq_true rfl), rfl, rfl⟩ ns_ioP (Nat.le_of_ble_eq_true rfl) (Nat.le_of_ble_eq_true rfl) (Nat.le_of_ble_eq_true rfl) ?_
      refine c_P_next hH hs hi ?_
      show nW _ _ _ _ _ 27 _ [_, _] _ _ _
      refine aw_bipush (pc' := 29) (x := 48) nd_P_takeNumber_27 rfl (by decide) ?_
      refine aw_isub (pc' := 30) nd_P_takeNumber_29 rfl ?_
      refine aw_iadd (pc' := 31) nd_P_takeNumber_30 rfl ?_
      rw [e10, pk_mul, hdg.1, nI_add]
      refine aw_istore_n (pc' := 32) (ls' := [_, _, _]) nd_P_takeNumber_31 rfl (Nat.le_of_ble_eq_true rfl) rfl ?_
      refine aw_aload_n (pc' := 33) nd_P_takeNumber_32 rfl rfl rfl ?_
      refine aw_dup (pc' := 34) nd_P_takeNumber_33 rfl rfl ?_
      refine aw_get (pc' := 37) nd_P_takeNumber_34 rfl nF_4_15 g_P_at ?_
      refine aw_iconst (pc' := 38) (x := 1) nd_P_takeNumber_37 rfl (by decide) ?_
      refine aw_iadd (pc' := 39) nd_P_takeNumber_38 rfl ?_
      refine aw_put (pc' := 42) nd_P_takeNumber_39 rfl nF_4_15 trivial p_P_at ?_
      refine aw_iinc (pc' := 45) (ls' := [_, _, _]) nd_P_takeNumber_42 rfl rfl (nI_1 j) rfl ?_
      refine aw_goto (pc' := 4) nd_P_takeNumber_45 (by decide) ?_
      exact ih _ (i + 1) (v * 10 + dg (nx (μ0.1 (nT 12)) n i)) (j + 1) (by omega) (by omega) hs.inc (by rw [Nat.pow_succ]; have := hdg.2; omega) hq

theorem c_P_num {L : Nat} {xs : Nat → Int32} {d : Nat} {Q : ax_Q} {μ0 μ : nMem} {n i : Nat} {cs : pC} (hH : PH μ0 n) (hs : PSt μ0 μ i cs) (hi : i ≤ n) (hl : cs.length < 30) (hq : ∀ μ', PSt μ0 μ' (pn (μ0.1 (nT 12)) n 4 i 0).1 (cs ++ [(0, (pn (μ0.1 (nT 12)) n 4 i 0).2)]) → Q none (ns_rep μ')) : nM L xs (d + 2) 103 [.ref 103] (ns_rep μ) Q := by
  refine nM.of ns_I_P_takeNumber rfl (ls := [_, _, _]) (Nat.le_of_ble_eq_true rfl) rfl ?_
  refine aw_iconst (pc' := 1) (x := 0) nd_P_takeNumber_0 rfl (by decide) ?_
  refine aw_istore_n (pc' := 2) (ls' := [_, _, _]) nd_P_takeNumber_1 rfl (Nat.le_of_ble_eq_true rfl) rfl ?_
  refine aw_iconst (pc' := 3) (x := 0) nd_P_takeNumber_2 rfl (by decide) ?_
  refine aw_istore_n (pc' := 4) (ls' := [_, _, _]) nd_P_takeNumber_3 rfl (Nat.le_of_ble_eq_true rfl) rfl ?_
  exact l_P_num hH hl 4 μ i 0 0 (by omega) hi hs (by decide) hq
