/-! the sheet's face, but for define and ask -/
def ic (x : Int32) : Bool := if x < 0 then false else if 12 ≤ x then false else true
def idr (x : Int32) : Bool := if x < 0 then false else if 2 < x then false else true
theorem ic_t {x : Int32} (h : ic x = true) : ∃ j, j < 12 ∧ x = nI j := by
  unfold ic at h
  split at h
  · cases h
  · rename_i h0
    split at h
    · cases h
    · rename_i h1
      obtain ⟨j, hj, rfl⟩ := nI_of h0
      exact ⟨j, by have := mt (nI_leI (a := 12) (b := j) (by decide) hj).mpr h1; omega, rfl⟩
theorem ic_nI {j : Nat} (h : j < 12) : ic (nI j) = true := by
  unfold ic
  rw [if_neg (nI_pos (by omega)), if_neg (show ¬ (12 : Int32) ≤ nI j from nI_ge (b := 12) h (by decide))]
theorem idr_t {x : Int32} (h : idr x = true) : ∃ j, j < 3 ∧ x = nI j := by
  unfold idr at h
  split at h
  · cases h
  · rename_i h0
    split at h
    · cases h
    · rename_i h1
      obtain ⟨j, hj, rfl⟩ := nI_of h0
      exact ⟨j, by have := mt (nI_ltI (a := 2) (b := j) (by decide) hj).mpr h1; omega, rfl⟩
theorem bi_t {b : Bool} (h : ¬ bi b = 0) : b = true := by cases b <;> simp [bi] at h ⊢
theorem bi_f {b : Bool} (h : bi b = 0) : b = false := by cases b <;> simp [bi] at h ⊢

theorem c_N_count {L : Nat} {xs : Nat → Int32} {d : Nat} {Q : ax_Q} {μ : nMem} {x : Int32} (hq : Q (some (.int (if x = 3 then nI (vcn μ 12) else if x < 0 then -1 else if 2 < x then -1 else μ.1 99 x.toNatClampNeg))) (ns_rep μ)) : nM L xs (d + 2) 9 [.ref 0, .int x] (ns_rep μ) Q := by
  refine nM.of ns_I_N_count rfl (ls := [_, _]) (Nat.le_of_ble_eq_true rfl) rfl ?_
  refine aw_iload_n (pc' := 1) nd_N_count_0 rfl rfl ?_
  refine aw_iconst (pc' := 2) (x := 3) nd_N_count_1 rfl (by decide) ?_
  refine aw_icmp_ne (pc' := 5) (tg := 10) nd_N_count_2 (by decide) rfl (fun hb2 => ?_) (fun hb2 => ?_)
  · skip
    refine aw_iload_n (pc' := 11) nd_N_count_10 rfl rfl ?_
    refine aw_if_lt (pc' := 14) (tg := 28) nd_N_count_11 (by decide) rfl (fun hb11 => ?_) (fun hb11 => ?_)
    · skip
      refine aw_iconst (pc' := 29) (x := -1) nd_N_count_28 rfl (by decide) ?_
      refine aw_ireturn nd_N_count_29 rfl rfl (Nat.le_of_ble_eq_true rfl) (Nat.le_of_ble_eq_true rfl) ?_
      first
        | simpa [*] using hq
        | (rw [if_neg hb2, if_neg hb11, if_neg hb16, nI_clamp (by omega)] at hq; exact hq)
    · skip
      refine aw_iload_n (pc' := 15) nd_N_count_14 rfl rfl ?_
      refine aw_iconst (pc' := 16) (x := 2) nd_N_count_15 rfl (by decide) ?_
      refine aw_icmp_gt (pc' := 19) (tg := 28) nd_N_count_16 (by decide) rfl (fun hb16 => ?_) (fun hb16 => ?_)
      · skip
        refine aw_iconst (pc' := 29) (x := -1) nd_N_count_28 rfl (by decide) ?_
        refine aw_ireturn nd_N_count_29 rfl rfl (Nat.le_of_ble_eq_true rfl) (Nat.le_of_ble_eq_true rfl) ?_
        first
          | simpa [*] using hq
          | (rw [if_neg hb2, if_neg hb11, if_neg hb16, nI_clamp (by omega)] at hq; exact hq)
      · skip
        obtain ⟨j, hj, rfl⟩ := nI_of2 (M := 2) (n := 2) (by decide) hb11 (Int32.not_lt.mp hb16)
        refine aw_aload_n (pc' := 20) nd_N_count_19 rfl rfl rfl ?_
        refine aw_get (pc' := 23) nd_N_count_20 rfl nF_0_33 g_N_latestTally ?_
        refine aw_iload_n (pc' := 24) nd_N_count_23 rfl rfl ?_
        refine aw_iald (pc' := 25) nd_N_count_24 rfl ga_latestTally j rfl (by omega) ?_
        refine aw_goto (pc' := 29) nd_N_count_25 (by decide) ?_
        refine aw_ireturn nd_N_count_29 rfl rfl (Nat.le_of_ble_eq_true rfl) (Nat.le_of_ble_eq_true rfl) ?_
        first
          | simpa [*] using hq
          | (rw [if_neg hb2, if_neg hb11, if_neg hb16, nI_clamp (by omega)] at hq; exact hq)
  · skip
    refine aw_aload_n (pc' := 6) nd_N_count_5 rfl rfl rfl ?_
    refine aw_callV (pc' := 9) (as := []) (st := []) nd_N_count_6 rfl nC_0_134 ⟨(Nat.le_of_ble_eq_true rfl), rfl, rfl⟩ ns_ioN (Nat.le_of_ble_eq_true rfl) (Nat.le_of_ble_eq_true rfl) (Nat.le_of_ble_eq_true rfl) ?_
    refine c_N_valuesInNotes ?_
    show nW _ _ _ _ _ 9 _ [_] _ _ _
    refine aw_ireturn nd_N_count_9 rfl rfl (Nat.le_of_ble_eq_true rfl) (Nat.le_of_ble_eq_true rfl) ?_
    first
      | simpa [*] using hq
      | (rw [if_neg hb2, if_neg hb11, if_neg hb16, nI_clamp (by omega)] at hq; exact hq)

theorem c_N_read {L : Nat} {xs : Nat → Int32} {d : Nat} {Q : ax_Q} {μ : nMem} {x i : Int32} {n : Nat} (hq0 : ic x = false → Q (some (.int (-1))) (ns_rep μ)) (hn : ∀ j, j < 12 → x = nI j → μ.1 (nN j) 1 = nI n ∧ n ≤ 12) (hq1 : ∀ j, j < 12 → x = nI j → (i < 0 ∨ nI n ≤ i) → Q (some (.int (-1))) (ns_rep μ)) (hq2 : ∀ j m, j < 12 → x = nI j → m < n → i = nI m → Q (some (.int (μ.1 (nR j) m))) (ns_rep μ)) : nM L xs (d + 2) 8 [.ref 0, .int x, .int i] (ns_rep μ) Q := by
  refine nM.of ns_I_N_read rfl (ls := [_, _, _]) (Nat.le_of_ble_eq_true rfl) rfl ?_
  refine aw_iload_n (pc' := 1) nd_N_read_0 rfl rfl ?_
  refine aw_callS (a := 0) (pc' := 4) (as := [_]) (st := []) nd_N_read_1 rfl nC_0_62 ⟨(Nat.le_of_ble_eq_true rfl), rfl, rfl⟩ (Nat.le_of_ble_eq_true rfl) (Nat.le_of_ble_eq_true rfl) (Nat.le_of_ble_eq_true rfl) ?_
  refine c_N_isCell ?_
  change nW _ _ _ _ _ _ _ ((some (Value.int (bi (ic x)))).toList ++ _) _ _ _
  show nW _ _ _ _ _ 4 _ [_] _ _ _
  refine aw_if_eq (pc' := 7) (tg := 27) nd_N_read_4 (by decide) rfl (fun hb4 => ?_) (fun hb4 => ?_)
  · skip
    refine aw_iconst (pc' := 28) (x := -1) nd_N_read_27 rfl (by decide) ?_
    refine aw_ireturn nd_N_read_28 rfl rfl (Nat.le_of_ble_eq_true rfl) (Nat.le_of_ble_eq_true rfl) ?_
    first
      | exact hq0 (bi_f hb4)
      | exact hq1 j hj rfl (Or.inl hb8)
      | exact hq1 j hj rfl (Or.inr (Int32.not_lt.mp hb24))
  · skip
    obtain ⟨j, hj, rfl⟩ := ic_t (bi_t hb4)
    obtain ⟨hn1, hn2⟩ := hn j hj rfl
    refine aw_iload_n (pc' := 8) nd_N_read_7 rfl rfl ?_
    refine aw_if_lt (pc' := 11) (tg := 27) nd_N_read_8 (by decide) rfl (fun hb8 => ?_) (fun hb8 => ?_)
    · skip
      refine aw_iconst (pc' := 28) (x := -1) nd_N_read_27 rfl (by decide) ?_
      refine aw_ireturn nd_N_read_28 rfl rfl (Nat.le_of_ble_eq_true rfl) (Nat.le_of_ble_eq_true rfl) ?_
      first
        | exact hq0 (bi_f hb4)
        | exact hq1 j hj rfl (Or.inl hb8)
        | exact hq1 j hj rfl (Or.inr (Int32.not_lt.mp hb24))
    · skip
      refine aw_iload_n (pc' := 12) nd_N_read_11 rfl rfl ?_
      refine aw_aload_n (pc' := 13) nd_N_read_12 rfl rfl rfl ?_
      refine aw_get (pc' := 16) nd_N_read_13 rfl nF_0_24 g_N_cells ?_
      refine aw_iload_n (pc' := 17) nd_N_read_16 rfl rfl ?_
      refine aw_cells (pc' := 18) nd_N_read_17 rfl j rfl hj ?_
      refine aw_get (pc' := 21) nd_N_read_18 rfl nF_0_113 (g_C_note (by assumption)) ?_
      refine aw_get (pc' := 24) nd_N_read_21 rfl nF_0_125 (g_O_readCount (by assumption)) ?_
      rw [hn1]
      refine aw_icmp_lt (pc' := 27) (tg := 29) nd_N_read_24 (by decide) rfl (fun hb24 => ?_) (fun hb24 => ?_)
      · skip
        obtain ⟨m, hm, rfl⟩ := nI_of hb8
        have hmn : m < n := (nI_ltI hm (by omega)).mp hb24
        refine aw_aload_n (pc' := 30) nd_N_read_29 rfl rfl rfl ?_
        refine aw_get (pc' := 33) nd_N_read_30 rfl nF_0_24 g_N_cells ?_
        refine aw_iload_n (pc' := 34) nd_N_read_33 rfl rfl ?_
        refine aw_cells (pc' := 35) nd_N_read_34 rfl j rfl hj ?_
        refine aw_get (pc' := 38) nd_N_read_35 rfl nF_0_113 (g_C_note (by assumption)) ?_
        refine aw_get (pc' := 41) nd_N_read_38 rfl nF_0_131 (g_O_reads (by assumption)) ?_
        refine aw_iload_n (pc' := 42) nd_N_read_41 rfl rfl ?_
        refine aw_iald (pc' := 43) nd_N_read_42 rfl (ga_R (by assumption)) m rfl (by omega) ?_
        refine aw_ireturn nd_N_read_43 rfl rfl (Nat.le_of_ble_eq_true rfl) (Nat.le_of_ble_eq_true rfl) ?_
        exact hq2 j m hj rfl hmn rfl
      · skip
        refine aw_iconst (pc' := 28) (x := -1) nd_N_read_27 rfl (by decide) ?_
        refine aw_ireturn nd_N_read_28 rfl rfl (Nat.le_of_ble_eq_true rfl) (Nat.le_of_ble_eq_true rfl) ?_
        first
          | exact hq0 (bi_f hb4)
          | exact hq1 j hj rfl (Or.inl hb8)
          | exact hq1 j hj rfl (Or.inr (Int32.not_lt.mp hb24))

def ntA (μ : nMem) (j : Nat) (y : Int32) : Int32 := if y = 0 then μ.1 (nY j) 0 else if y = 1 then μ.1 (nY j) 1 else if y = 2 then μ.1 (nY j) 2 else if y = 3 then (if μ.1 (nC j) 4 = 0 then μ.1 (nC j) 8 else μ.1 (nN j) 6) else if y = 4 then μ.1 (nN j) 5 else if y = 5 then (if μ.1 (nC j) 4 = 0 then μ.1 (nC j) 7 else μ.1 (nN j) 7) else if y = 6 then μ.1 (nN j) 1 else if y = 7 then (if μ.1 (nC j) 4 = 0 then 1 else if μ.1 (nN j) 3 = 0 then 0 else 1) else -1

theorem c_N_note {L : Nat} {xs : Nat → Int32} {d : Nat} {Q : ax_Q} {μ : nMem} {x y : Int32} (hq0 : ic x = false → Q (some (.int (-1))) (ns_rep μ)) (hq1 : ∀ j, j < 12 → x = nI j → Q (some (.int (ntA μ j y))) (ns_rep μ)) : nM L xs (d + 2) 7 [.ref 0, .int x, .int y] (ns_rep μ) Q := by
  refine nM.of ns_I_N_note rfl (ls := [_, _, _, _]) (Nat.le_of_ble_eq_true rfl) rfl ?_
  refine aw_iload_n (pc' := 1) nd_N_note_0 rfl rfl ?_
  refine aw_callS (a := 0) (pc' := 4) (as := [_]) (st := []) nd_N_note_1 rfl nC_0_62 ⟨(Nat.le_of_ble_eq_true rfl), rfl, rfl⟩ (Nat.le_of_ble_eq_true rfl) (Nat.le_of_ble_eq_true rfl) (Nat.le_of_ble_eq_true rfl) ?_
  refine c_N_isCell ?_
  change nW _ _ _ _ _ _ _ ((some (Value.int (bi (ic x)))).toList ++ _) _ _ _
  show nW _ _ _ _ _ 4 _ [_] _ _ _
  refine aw_if_ne (pc' := 7) (tg := 9) nd_N_note_4 (by decide) rfl (fun hb4 => ?_) (fun hb4 => ?_)
  · skip
    obtain ⟨j, hj, rfl⟩ := ic_t (bi_t hb4)
    have hq := hq1 j hj rfl
    refine aw_aload_n (pc' := 10) nd_N_note_9 rfl rfl rfl ?_
    refine aw_get (pc' := 13) nd_N_note_10 rfl nF_0_24 g_N_cells ?_
    refine aw_iload_n (pc' := 14) nd_N_note_13 rfl rfl ?_
    refine aw_cells (pc' := 15) nd_N_note_14 rfl j rfl hj ?_
    refine aw_astore_n (pc' := 16) (ls' := [_, _, _, _]) nd_N_note_15 rfl rfl (Nat.le_of_ble_eq_true rfl) rfl ?_
    refine aw_iload_n (pc' := 17) nd_N_note_16 rfl rfl ?_
    by_cases hs0 : y = 0
    · subst hs0
      refine aw_tabIn (tg := 64) (off := 47) nd_N_note_17 (by decide) (by decide) (by decide) ?_
      refine aw_aload_n (pc' := 65) nd_N_note_64 rfl rfl rfl ?_
      refine aw_get (pc' := 68) nd_N_note_65 rfl nF_0_107 (g_C_tally (by assumption)) ?_
      refine aw_iload_n (pc' := 69) nd_N_note_68 rfl rfl ?_
      refine aw_iald (pc' := 70) nd_N_note_69 rfl (ga_Y (by assumption)) 0 (by decide) (by decide) ?_
      refine aw_ireturn nd_N_note_70 rfl rfl (Nat.le_of_ble_eq_true rfl) (Nat.le_of_ble_eq_true rfl) ?_
      first
        | (simpa [ntA] using hq)
        | (simpa [ntA, *] using hq)
        | (simpa [ntA, hb101] using hq)
        | (simpa [ntA, hb101, hb111] using hq)
    by_cases hs1 : y = 1
    · subst hs1
      refine aw_tabIn (tg := 64) (off := 47) nd_N_note_17 (by decide) (by decide) (by decide) ?_
      refine aw_aload_n (pc' := 65) nd_N_note_64 rfl rfl rfl ?_
      refine aw_get (pc' := 68) nd_N_note_65 rfl nF_0_107 (g_C_tally (by assumption)) ?_
      refine aw_iload_n (pc' := 69) nd_N_note_68 rfl rfl ?_
      refine aw_iald (pc' := 70) nd_N_note_69 rfl (ga_Y (by assumption)) 1 (by decide) (by decide) ?_
      refine aw_ireturn nd_N_note_70 rfl rfl (Nat.le_of_ble_eq_true rfl) (Nat.le_of_ble_eq_true rfl) ?_
      first
        | (simpa [ntA] using hq)
        | (simpa [ntA, *] using hq)
        | (simpa [ntA, hb101] using hq)
        | (simpa [ntA, hb101, hb111] using hq)
    by_cases hs2 : y = 2
    · subst hs2
      refine aw_tabIn (tg := 64) (off := 47) nd_N_note_17 (by decide) (by decide) (by decide) ?_
      refine aw_aload_n (pc' := 65) nd_N_note_64 rfl rfl rfl ?_
      refine aw_get (pc' := 68) nd_N_note_65 rfl nF_0_107 (g_C_tally (by assumption)) ?_
      refine aw_iload_n (pc' := 69) nd_N_note_68 rfl rfl ?_
      refine aw_iald (pc' := 70) nd_N_note_69 rfl (ga_Y (by assumption)) 2 (by decide) (by decide) ?_
      refine aw_ireturn nd_N_note_70 rfl rfl (Nat.le_of_ble_eq_true rfl) (Nat.le_of_ble_eq_true rfl) ?_
      first
        | (simpa [ntA] using hq)
        | (simpa [ntA, *] using hq)
        | (simpa [ntA, hb101] using hq)
        | (simpa [ntA, hb101, hb111] using hq)
    by_cases hs3 : y = 3
    · subst hs3
      refine aw_tabIn (tg := 71) (off := 54) nd_N_note_17 (by decide) (by decide) (by decide) ?_
      refine aw_aload_n (pc' := 72) nd_N_note_71 rfl rfl rfl ?_
      refine aw_callV (pc' := 75) (as := []) (st := []) nd_N_note_72 rfl nC_0_110 ⟨(Nat.le_of_ble_eq_true rfl), rfl, rfl⟩ (ns_ioC (by assumption)) (Nat.le_of_ble_eq_true rfl) (Nat.le_of_ble_eq_true rfl) (Nat.le_of_ble_eq_true rfl) ?_
      refine c_C_since hj ?_
      show nW _ _ _ _ _ 75 _ [_] _ _ _
      refine aw_ireturn nd_N_note_75 rfl rfl (Nat.le_of_ble_eq_true rfl) (Nat.le_of_ble_eq_true rfl) ?_
      first
        | (simpa [ntA] using hq)
        | (simpa [ntA, *] using hq)
        | (simpa [ntA, hb101] using hq)
        | (simpa [ntA, hb101, hb111] using hq)
    by_cases hs4 : y = 4
    · subst hs4
      refine aw_tabIn (tg := 76) (off := 59) nd_N_note_17 (by decide) (by decide) (by decide) ?_
      refine aw_aload_n (pc' := 77) nd_N_note_76 rfl rfl rfl ?_
      refine aw_get (pc' := 80) nd_N_note_77 rfl nF_0_113 (g_C_note (by assumption)) ?_
      refine aw_get (pc' := 83) nd_N_note_80 rfl nF_0_117 (g_O_verified (by assumption)) ?_
      refine aw_ireturn nd_N_note_83 rfl rfl (Nat.le_of_ble_eq_true rfl) (Nat.le_of_ble_eq_true rfl) ?_
      first
        | (simpa [ntA] using hq)
        | (simpa [ntA, *] using hq)
        | (simpa [ntA, hb101] using hq)
        | (simpa [ntA, hb101, hb111] using hq)
    by_cases hs5 : y = 5
    · subst hs5
      refine aw_tabIn (tg := 84) (off := 67) nd_N_note_17 (by decide) (by decide) (by decide) ?_
      refine aw_aload_n (pc' := 85) nd_N_note_84 rfl rfl rfl ?_
      refine aw_callV (pc' := 88) (as := []) (st := []) nd_N_note_85 rfl nC_0_122 ⟨(Nat.le_of_ble_eq_true rfl), rfl, rfl⟩ (ns_ioC (by assumption)) (Nat.le_of_ble_eq_true rfl) (Nat.le_of_ble_eq_true rfl) (Nat.le_of_ble_eq_true rfl) ?_
      refine c_C_given hj ?_
      show nW _ _ _ _ _ 88 _ [_] _ _ _
      refine aw_ireturn nd_N_note_88 rfl rfl (Nat.le_of_ble_eq_true rfl) (Nat.le_of_ble_eq_true rfl) ?_
      first
        | (simpa [ntA] using hq)
        | (simpa [ntA, *] using hq)
        | (simpa [ntA, hb101] using hq)
        | (simpa [ntA, hb101, hb111] using hq)
    by_cases hs6 : y = 6
    · subst hs6
      refine aw_tabIn (tg := 89) (off := 72) nd_N_note_17 (by decide) (by decide) (by decide) ?_
      refine aw_aload_n (pc' := 90) nd_N_note_89 rfl rfl rfl ?_
      refine aw_get (pc' := 93) nd_N_note_90 rfl nF_0_113 (g_C_note (by assumption)) ?_
      refine aw_get (pc' := 96) nd_N_note_93 rfl nF_0_125 (g_O_readCount (by assumption)) ?_
      refine aw_ireturn nd_N_note_96 rfl rfl (Nat.le_of_ble_eq_true rfl) (Nat.le_of_ble_eq_true rfl) ?_
      first
        | (simpa [ntA] using hq)
        | (simpa [ntA, *] using hq)
        | (simpa [ntA, hb101] using hq)
        | (simpa [ntA, hb101, hb111] using hq)
    by_cases hs7 : y = 7
    · subst hs7
      refine aw_tabIn (tg := 97) (off := 80) nd_N_note_17 (by decide) (by decide) (by decide) ?_
      refine aw_aload_n (pc' := 98) nd_N_note_97 rfl rfl rfl ?_
      refine aw_get (pc' := 101) nd_N_note_98 rfl nF_0_84 (g_C_hasFormula (by assumption)) ?_
      refine aw_if_eq (pc' := 104) (tg := 114) nd_N_note_101 (by decide) rfl (fun hb101 => ?_) (fun hb101 => ?_)
      · skip
        refine aw_iconst (pc' := 115) (x := 1) nd_N_note_114 rfl (by decide) ?_
        refine aw_goto (pc' := 119) nd_N_note_115 (by decide) ?_
        refine aw_ireturn nd_N_note_119 rfl rfl (Nat.le_of_ble_eq_true rfl) (Nat.le_of_ble_eq_true rfl) ?_
        first
          | (simpa [ntA] using hq)
          | (simpa [ntA, *] using hq)
          | (simpa [ntA, hb101] using hq)
          | (simpa [ntA, hb101, hb111] using hq)
      · skip
        refine aw_aload_n (pc' := 105) nd_N_note_104 rfl rfl rfl ?_
        refine aw_get (pc' := 108) nd_N_note_105 rfl nF_0_113 (g_C_note (by assumption)) ?_
        refine aw_get (pc' := 111) nd_N_note_108 rfl nF_0_128 (g_O_hasValue (by assumption)) ?_
        refine aw_if_eq (pc' := 114) (tg := 118) nd_N_note_111 (by decide) rfl (fun hb111 => ?_) (fun hb111 => ?_)
        · skip
          refine aw_iconst (pc' := 119) (x := 0) nd_N_note_118 rfl (by decide) ?_
          refine aw_ireturn nd_N_note_119 rfl rfl (Nat.le_of_ble_eq_true rfl) (Nat.le_of_ble_eq_true rfl) ?_
          first
            | (simpa [ntA] using hq)
            | (simpa [ntA, *] using hq)
            | (simpa [ntA, hb101] using hq)
            | (simpa [ntA, hb101, hb111] using hq)
        · skip
          refine aw_iconst (pc' := 115) (x := 1) nd_N_note_114 rfl (by decide) ?_
          refine aw_goto (pc' := 119) nd_N_note_115 (by decide) ?_
          refine aw_ireturn nd_N_note_119 rfl rfl (Nat.le_of_ble_eq_true rfl) (Nat.le_of_ble_eq_true rfl) ?_
          first
            | (simpa [ntA] using hq)
            | (simpa [ntA, *] using hq)
            | (simpa [ntA, hb101] using hq)
            | (simpa [ntA, hb101, hb111] using hq)
    have hout : (y : Int32).toInt < 0 ∨ 7 < (y : Int32).toInt := by
      have m0 : ¬ (y : Int32).toInt = 0 := fun z => hs0 (Int32.toInt_inj.mp (by rw [z]; decide))
      have m1 : ¬ (y : Int32).toInt = 1 := fun z => hs1 (Int32.toInt_inj.mp (by rw [z]; decide))
      have m2 : ¬ (y : Int32).toInt = 2 := fun z => hs2 (Int32.toInt_inj.mp (by rw [z]; decide))
      have m3 : ¬ (y : Int32).toInt = 3 := fun z => hs3 (Int32.toInt_inj.mp (by rw [z]; decide))
      have m4 : ¬ (y : Int32).toInt = 4 := fun z => hs4 (Int32.toInt_inj.mp (by rw [z]; decide))
      have m5 : ¬ (y : Int32).toInt = 5 := fun z => hs5 (Int32.toInt_inj.mp (by rw [z]; decide))
      have m6 : ¬ (y : Int32).toInt = 6 := fun z => hs6 (Int32.toInt_inj.mp (by rw [z]; decide))
      have m7 : ¬ (y : Int32).toInt = 7 := fun z => hs7 (Int32.toInt_inj.mp (by rw [z]; decide))
      omega
    refine aw_tabOut (tg := 120) nd_N_note_17 hout (by decide) ?_
    refine aw_iconst (pc' := 121) (x := -1) nd_N_note_120 rfl (by decide) ?_
    refine aw_ireturn nd_N_note_121 rfl rfl (Nat.le_of_ble_eq_true rfl) (Nat.le_of_ble_eq_true rfl) ?_
    first
      | (simpa [ntA] using hq)
      | (simpa [ntA, *] using hq)
      | (simpa [ntA, hb101] using hq)
      | (simpa [ntA, hb101, hb111] using hq)
  · skip
    refine aw_iconst (pc' := 8) (x := -1) nd_N_note_7 rfl (by decide) ?_
    refine aw_ireturn nd_N_note_8 rfl rfl (Nat.le_of_ble_eq_true rfl) (Nat.le_of_ble_eq_true rfl) ?_
    exact hq0 (bi_f hb4)

def oD (μ : nMem) (k : Nat) : Int32 := if μ.1 (nC k) 4 = 0 then μ.1 (nC k) 7 else 2
def clr (μ : nMem) (k : Nat) : nMem := ms (ms (ms (ms (ms (ms μ (nN k) 1 0) (nN k) 2 0) (nN k) 3 0) (nN k) 5 0) (nN k) 6 0) (nN k) 7 0
def mkB (m : nMem) (k : Nat) (v : Int32) : nMem := if m.1 (nC k) 4 = 0 ∧ m.1 (nC k) 6 = v then m else ms m (nC k) 8 (m.1 0 6)
def mkI (μ : nMem) (k o : Nat) (v y : Int32) : nMem := clr (ms (ms (ms (mkB (srv μ o) k v) (nC k) 4 0) (nC k) 6 v) (nC k) 7 y) k

theorem c_N_makeInput {L : Nat} {xs : Nat → Int32} {d : Nat} {Q : ax_Q} {μ : nMem} {k o : Nat} {v y : Int32} (hk : k < 12) (ho : oD μ k = nI o) (ho3 : o < 3) (hq : Q none (ns_rep (mkI μ k o v y))) : nM L xs (d + 2) 13 [.ref 0, .ref (nC k), .int v, .int y] (ns_rep μ) Q := by
  refine nM.of ns_I_N_makeInput rfl (ls := [_, _, _, _]) (Nat.le_of_ble_eq_true rfl) rfl ?_
  refine aw_aload_n (pc' := 1) nd_N_makeInput_0 rfl rfl rfl ?_
  refine aw_aload_n (pc' := 2) nd_N_makeInput_1 rfl rfl rfl ?_
  refine aw_callV (pc' := 5) (as := []) (st := [_]) nd_N_makeInput_2 rfl nC_0_144 ⟨(Nat.le_of_ble_eq_true rfl), rfl, rfl⟩ (ns_ioC (by assumption)) (Nat.le_of_ble_eq_true rfl) (Nat.le_of_ble_eq_true rfl) (Nat.le_of_ble_eq_true rfl) ?_
  refine c_C_own hk ?_
  rw [show (if μ.1 (nC k) 4 = 0 then μ.1 (nC k) 7 else 2) = nI o from ho]
  show nW _ _ _ _ _ 5 _ [_, _] _ _ _
  refine aw_callV (pc' := 8) (as := [_]) (st := []) nd_N_makeInput_5 rfl nC_0_147 ⟨(Nat.le_of_ble_eq_true rfl), rfl, rfl⟩ ns_ioN (Nat.le_of_ble_eq_true rfl) (Nat.le_of_ble_eq_true rfl) (Nat.le_of_ble_eq_true rfl) ?_
  refine c_N_startRevision ho3 ?_
  show nW _ _ _ _ _ 8 _ [] _ _ _
  refine aw_aload_n (pc' := 9) nd_N_makeInput_8 rfl rfl rfl ?_
  refine aw_get (pc' := 12) nd_N_makeInput_9 rfl nF_0_84 (g_C_hasFormula (by assumption)) ?_
  refine aw_if_ne (pc' := 15) (tg := 23) nd_N_makeInput_12 (by decide) rfl (fun hb12 => ?_) (fun hb12 => ?_)
  · skip
    refine aw_aload_n (pc' := 24) nd_N_makeInput_23 rfl rfl rfl ?_
    refine aw_aload_n (pc' := 25) nd_N_makeInput_24 rfl rfl rfl ?_
    refine aw_get (pc' := 28) nd_N_makeInput_25 rfl nF_0_52 g_N_now ?_
    refine aw_put (pc' := 31) nd_N_makeInput_28 rfl nF_0_157 trivial (p_C_inputSince (by assumption)) ?_
    refine aw_aload_n (pc' := 32) nd_N_makeInput_31 rfl rfl rfl ?_
    refine aw_iconst (pc' := 33) (x := 0) nd_N_makeInput_32 rfl (by decide) ?_
    refine aw_put (pc' := 36) nd_N_makeInput_33 rfl nF_0_84 (by first | exact Or.inl rfl | exact Or.inr rfl | assumption) (p_C_hasFormula (by assumption)) ?_
    refine aw_aload_n (pc' := 37) nd_N_makeInput_36 rfl rfl rfl ?_
    refine aw_iload_n (pc' := 38) nd_N_makeInput_37 rfl rfl ?_
    refine aw_put (pc' := 41) nd_N_makeInput_38 rfl nF_0_88 trivial (p_C_number (by assumption)) ?_
    refine aw_aload_n (pc' := 42) nd_N_makeInput_41 rfl rfl rfl ?_
    refine aw_iload_n (pc' := 43) nd_N_makeInput_42 rfl rfl ?_
    refine aw_put (pc' := 46) nd_N_makeInput_43 rfl nF_0_91 trivial (p_C_durability (by assumption)) ?_
    refine aw_aload_n (pc' := 47) nd_N_makeInput_46 rfl rfl rfl ?_
    refine aw_get (pc' := 50) nd_N_makeInput_47 rfl nF_0_113 (g_C_note (by assumption)) ?_
    refine aw_callV (pc' := 53) (as := []) (st := []) nd_N_makeInput_50 rfl nC_0_160 ⟨(Nat.le_of_ble_eq_true rfl), rfl, rfl⟩ (ns_ioO (by assumption)) (Nat.le_of_ble_eq_true rfl) (Nat.le_of_ble_eq_true rfl) (Nat.le_of_ble_eq_true rfl) ?_
    refine c_O_clear hk ?_
    show nW _ _ _ _ _ 53 _ [] _ _ _
    refine aw_return nd_N_makeInput_53 rfl (Nat.le_of_ble_eq_true rfl) (Nat.le_of_ble_eq_true rfl) ?_
    first
      | simpa [mkI, mkB, clr, hb12] using hq
      | simpa [mkI, mkB, clr, hb12, hb20] using hq
  · skip
    refine aw_aload_n (pc' := 16) nd_N_makeInput_15 rfl rfl rfl ?_
    refine aw_get (pc' := 19) nd_N_makeInput_16 rfl nF_0_88 (g_C_number (by assumption)) ?_
    refine aw_iload_n (pc' := 20) nd_N_makeInput_19 rfl rfl ?_
    refine aw_icmp_eq (pc' := 23) (tg := 31) nd_N_makeInput_20 (by decide) rfl (fun hb20 => ?_) (fun hb20 => ?_)
    · skip
      refine aw_aload_n (pc' := 32) nd_N_makeInput_31 rfl rfl rfl ?_
      refine aw_iconst (pc' := 33) (x := 0) nd_N_makeInput_32 rfl (by decide) ?_
      refine aw_put (pc' := 36) nd_N_makeInput_33 rfl nF_0_84 (by first | exact Or.inl rfl | exact Or.inr rfl | assumption) (p_C_hasFormula (by assumption)) ?_
      refine aw_aload_n (pc' := 37) nd_N_makeInput_36 rfl rfl rfl ?_
      refine aw_iload_n (pc' := 38) nd_N_makeInput_37 rfl rfl ?_
      refine aw_put (pc' := 41) nd_N_makeInput_38 rfl nF_0_88 trivial (p_C_number (by assumption)) ?_
      refine aw_aload_n (pc' := 42) nd_N_makeInput_41 rfl rfl rfl ?_
      refine aw_iload_n (pc' := 43) nd_N_makeInput_42 rfl rfl ?_
      refine aw_put (pc' := 46) nd_N_makeInput_43 rfl nF_0_91 trivial (p_C_durability (by assumption)) ?_
      refine aw_aload_n (pc' := 47) nd_N_makeInput_46 rfl rfl rfl ?_
      refine aw_get (pc' := 50) nd_N_makeInput_47 rfl nF_0_113 (g_C_note (by assumption)) ?_
      refine aw_callV (pc' := 53) (as := []) (st := []) nd_N_makeInput_50 rfl nC_0_160 ⟨(Nat.le_of_ble_eq_true rfl), rfl, rfl⟩ (ns_ioO (by assumption)) (Nat.le_of_ble_eq_true rfl) (Nat.le_of_ble_eq_true rfl) (Nat.le_of_ble_eq_true rfl) ?_
      refine c_O_clear hk ?_
      show nW _ _ _ _ _ 53 _ [] _ _ _
      refine aw_return nd_N_makeInput_53 rfl (Nat.le_of_ble_eq_true rfl) (Nat.le_of_ble_eq_true rfl) ?_
      first
        | simpa [mkI, mkB, clr, hb12] using hq
        | simpa [mkI, mkB, clr, hb12, hb20] using hq
    · skip
      refine aw_aload_n (pc' := 24) nd_N_makeInput_23 rfl rfl rfl ?_
      refine aw_aload_n (pc' := 25) nd_N_makeInput_24 rfl rfl rfl ?_
      refine aw_get (pc' := 28) nd_N_makeInput_25 rfl nF_0_52 g_N_now ?_
      refine aw_put (pc' := 31) nd_N_makeInput_28 rfl nF_0_157 trivial (p_C_inputSince (by assumption)) ?_
      refine aw_aload_n (pc' := 32) nd_N_makeInput_31 rfl rfl rfl ?_
      refine aw_iconst (pc' := 33) (x := 0) nd_N_makeInput_32 rfl (by decide) ?_
      refine aw_put (pc' := 36) nd_N_makeInput_33 rfl nF_0_84 (by first | exact Or.inl rfl | exact Or.inr rfl | assumption) (p_C_hasFormula (by assumption)) ?_
      refine aw_aload_n (pc' := 37) nd_N_makeInput_36 rfl rfl rfl ?_
      refine aw_iload_n (pc' := 38) nd_N_makeInput_37 rfl rfl ?_
      refine aw_put (pc' := 41) nd_N_makeInput_38 rfl nF_0_88 trivial (p_C_number (by assumption)) ?_
      refine aw_aload_n (pc' := 42) nd_N_makeInput_41 rfl rfl rfl ?_
      refine aw_iload_n (pc' := 43) nd_N_makeInput_42 rfl rfl ?_
      refine aw_put (pc' := 46) nd_N_makeInput_43 rfl nF_0_91 trivial (p_C_durability (by assumption)) ?_
      refine aw_aload_n (pc' := 47) nd_N_makeInput_46 rfl rfl rfl ?_
      refine aw_get (pc' := 50) nd_N_makeInput_47 rfl nF_0_113 (g_C_note (by assumption)) ?_
      refine aw_callV (pc' := 53) (as := []) (st := []) nd_N_makeInput_50 rfl nC_0_160 ⟨(Nat.le_of_ble_eq_true rfl), rfl, rfl⟩ (ns_ioO (by assumption)) (Nat.le_of_ble_eq_true rfl) (Nat.le_of_ble_eq_true rfl) (Nat.le_of_ble_eq_true rfl) ?_
      refine c_O_clear hk ?_
      show nW _ _ _ _ _ 53 _ [] _ _ _
      refine aw_return nd_N_makeInput_53 rfl (Nat.le_of_ble_eq_true rfl) (Nat.le_of_ble_eq_true rfl) ?_
      first
        | simpa [mkI, mkB, clr, hb12] using hq
        | simpa [mkI, mkB, clr, hb12, hb20] using hq

theorem c_N_set {L : Nat} {xs : Nat → Int32} {d : Nat} {Q : ax_Q} {μ : nMem} {x v y : Int32} (hq0 : (ic x = false ∨ idr y = false) → Q (some (.int 0)) (ns_rep μ)) (hd : ∀ j, j < 12 → ∃ o, oD μ j = nI o ∧ o < 3) (hq1 : ∀ j e, j < 12 → e < 3 → x = nI j → y = nI e → μ.1 (nC j) 4 = 0 → μ.1 (nC j) 6 = v → μ.1 (nC j) 7 = y → Q (some (.int 1)) (ns_rep μ)) (hq2 : ∀ j e o, j < 12 → e < 3 → x = nI j → y = nI e → ¬ (μ.1 (nC j) 4 = 0 ∧ μ.1 (nC j) 6 = v ∧ μ.1 (nC j) 7 = y) → oD μ j = nI o → o < 3 → Q (some (.int 1)) (ns_rep (mkI μ j o v y))) : nM L xs (d + 3) 3 [.ref 0, .int x, .int v, .int y] (ns_rep μ) Q := by
  refine nM.of ns_I_N_set rfl (ls := [_, _, _, _, _]) (Nat.le_of_ble_eq_true rfl) rfl ?_
  refine aw_iload_n (pc' := 1) nd_N_set_0 rfl rfl ?_
  refine aw_callS (a := 0) (pc' := 4) (as := [_]) (st := []) nd_N_set_1 rfl nC_0_62 ⟨(Nat.le_of_ble_eq_true rfl), rfl, rfl⟩ (Nat.le_of_ble_eq_true rfl) (Nat.le_of_ble_eq_true rfl) (Nat.le_of_ble_eq_true rfl) ?_
  refine c_N_isCell ?_
  change nW _ _ _ _ _ _ _ ((some (Value.int (bi (ic x)))).toList ++ _) _ _ _
  show nW _ _ _ _ _ 4 _ [_] _ _ _
  refine aw_if_eq (pc' := 7) (tg := 14) nd_N_set_4 (by decide) rfl (fun hb4 => ?_) (fun hb4 => ?_)
  · skip
    refine aw_iconst (pc' := 15) (x := 0) nd_N_set_14 rfl (by decide) ?_
    refine aw_ireturn nd_N_set_15 rfl (by first | rfl | assumption) (Nat.le_of_ble_eq_true rfl) (Nat.le_of_ble_eq_true rfl) ?_
    first
      | exact hq0 (Or.inl (bi_f hb4))
      | exact hq0 (Or.inr (bi_f hb11))
  · skip
    refine aw_iload_n (pc' := 8) nd_N_set_7 rfl rfl ?_
    refine aw_callS (a := 0) (pc' := 11) (as := [_]) (st := []) nd_N_set_8 rfl nC_0_81 ⟨(Nat.le_of_ble_eq_true rfl), rfl, rfl⟩ (Nat.le_of_ble_eq_true rfl) (Nat.le_of_ble_eq_true rfl) (Nat.le_of_ble_eq_true rfl) ?_
    refine c_N_isDur ?_
    change nW _ _ _ _ _ _ _ ((some (Value.int (bi (idr y)))).toList ++ _) _ _ _
    show nW _ _ _ _ _ 11 _ [_] _ _ _
    refine aw_if_ne (pc' := 14) (tg := 16) nd_N_set_11 (by decide) rfl (fun hb11 => ?_) (fun hb11 => ?_)
    · skip
      obtain ⟨j, hj, rfl⟩ := ic_t (bi_t hb4)
      obtain ⟨e, he, rfl⟩ := idr_t (bi_t hb11)
      obtain ⟨o, ho, ho3⟩ := hd j hj
      refine aw_aload_n (pc' := 17) nd_N_set_16 rfl rfl rfl ?_
      refine aw_get (pc' := 20) nd_N_set_17 rfl nF_0_24 g_N_cells ?_
      refine aw_iload_n (pc' := 21) nd_N_set_20 rfl rfl ?_
      refine aw_cells (pc' := 22) nd_N_set_21 rfl j rfl hj ?_
      refine aw_astore (pc' := 24) (ls' := [_, _, _, _, _]) nd_N_set_22 rfl rfl (Nat.le_of_ble_eq_true rfl) rfl ?_
      refine aw_aload (pc' := 26) nd_N_set_24 rfl rfl rfl ?_
      refine aw_get (pc' := 29) nd_N_set_26 rfl nF_0_84 (g_C_hasFormula (by assumption)) ?_
      refine aw_if_ne (pc' := 32) (tg := 50) nd_N_set_29 (by decide) rfl (fun hb29 => ?_) (fun hb29 => ?_)
      · skip
        refine aw_aload_n (pc' := 51) nd_N_set_50 rfl rfl rfl ?_
        refine aw_aload (pc' := 53) nd_N_set_51 rfl rfl rfl ?_
        refine aw_iload_n (pc' := 54) nd_N_set_53 rfl rfl ?_
        refine aw_iload_n (pc' := 55) nd_N_set_54 rfl rfl ?_
        refine aw_callV (pc' := 58) (as := [_, _, _]) (st := []) nd_N_set_55 rfl nC_0_94 ⟨(Nat.le_of_ble_eq_true rfl), rfl, rfl⟩ ns_ioN (Nat.le_of_ble_eq_true rfl) (Nat.le_of_ble_eq_true rfl) (Nat.le_of_ble_eq_true rfl) ?_
        refine c_N_makeInput hj ho ho3 ?_
        show nW _ _ _ _ _ 58 _ [] _ _ _
        refine aw_iconst (pc' := 59) (x := 1) nd_N_set_58 rfl (by decide) ?_
        refine aw_ireturn nd_N_set_59 rfl (by first | rfl | assumption) (Nat.le_of_ble_eq_true rfl) (Nat.le_of_ble_eq_true rfl) ?_
        first
          | exact hq1 j e hj he rfl rfl hb29 hb38 hb47
          | exact hq2 j e o hj he rfl rfl (fun z => hb29 z.1) ho ho3
          | exact hq2 j e o hj he rfl rfl (fun z => hb38 z.2.1) ho ho3
          | exact hq2 j e o hj he rfl rfl (fun z => hb47 z.2.2) ho ho3
      · skip
        refine aw_aload (pc' := 34) nd_N_set_32 rfl rfl rfl ?_
        refine aw_get (pc' := 37) nd_N_set_34 rfl nF_0_88 (g_C_number (by assumption)) ?_
        refine aw_iload_n (pc' := 38) nd_N_set_37 rfl rfl ?_
        refine aw_icmp_ne (pc' := 41) (tg := 50) nd_N_set_38 (by decide) rfl (fun hb38 => ?_) (fun hb38 => ?_)
        · skip
          refine aw_aload_n (pc' := 51) nd_N_set_50 rfl rfl rfl ?_
          refine aw_aload (pc' := 53) nd_N_set_51 rfl rfl rfl ?_
          refine aw_iload_n (pc' := 54) nd_N_set_53 rfl rfl ?_
          refine aw_iload_n (pc' := 55) nd_N_set_54 rfl rfl ?_
          refine aw_callV (pc' := 58) (as := [_, _, _]) (st := []) nd_N_set_55 rfl nC_0_94 ⟨(Nat.le_of_ble_eq_true rfl), rfl, rfl⟩ ns_ioN (Nat.le_of_ble_eq_true rfl) (Nat.le_of_ble_eq_true rfl) (Nat.le_of_ble_eq_true rfl) ?_
          refine c_N_makeInput hj ho ho3 ?_
          show nW _ _ _ _ _ 58 _ [] _ _ _
          refine aw_iconst (pc' := 59) (x := 1) nd_N_set_58 rfl (by decide) ?_
          refine aw_ireturn nd_N_set_59 rfl (by first | rfl | assumption) (Nat.le_of_ble_eq_true rfl) (Nat.le_of_ble_eq_true rfl) ?_
          first
            | exact hq1 j e hj he rfl rfl hb29 hb38 hb47
            | exact hq2 j e o hj he rfl rfl (fun z => hb29 z.1) ho ho3
            | exact hq2 j e o hj he rfl rfl (fun z => hb38 z.2.1) ho ho3
            | exact hq2 j e o hj he rfl rfl (fun z => hb47 z.2.2) ho ho3
        · skip
          refine aw_aload (pc' := 43) nd_N_set_41 rfl rfl rfl ?_
          refine aw_get (pc' := 46) nd_N_set_43 rfl nF_0_91 (g_C_durability (by assumption)) ?_
          refine aw_iload_n (pc' := 47) nd_N_set_46 rfl rfl ?_
          refine aw_icmp_eq (pc' := 50) (tg := 58) nd_N_set_47 (by decide) rfl (fun hb47 => ?_) (fun hb47 => ?_)
          · skip
            refine aw_iconst (pc' := 59) (x := 1) nd_N_set_58 rfl (by decide) ?_
            refine aw_ireturn nd_N_set_59 rfl (by first | rfl | assumption) (Nat.le_of_ble_eq_true rfl) (Nat.le_of_ble_eq_true rfl) ?_
            first
              | exact hq1 j e hj he rfl rfl hb29 hb38 hb47
              | exact hq2 j e o hj he rfl rfl (fun z => hb29 z.1) ho ho3
              | exact hq2 j e o hj he rfl rfl (fun z => hb38 z.2.1) ho ho3
              | exact hq2 j e o hj he rfl rfl (fun z => hb47 z.2.2) ho ho3
          · skip
            refine aw_aload_n (pc' := 51) nd_N_set_50 rfl rfl rfl ?_
            refine aw_aload (pc' := 53) nd_N_set_51 rfl rfl rfl ?_
            refine aw_iload_n (pc' := 54) nd_N_set_53 rfl rfl ?_
            refine aw_iload_n (pc' := 55) nd_N_set_54 rfl rfl ?_
            refine aw_callV (pc' := 58) (as := [_, _, _]) (st := []) nd_N_set_55 rfl nC_0_94 ⟨(Nat.le_of_ble_eq_true rfl), rfl, rfl⟩ ns_ioN (Nat.le_of_ble_eq_true rfl) (Nat.le_of_ble_eq_true rfl) (Nat.le_of_ble_eq_true rfl) ?_
            refine c_N_makeInput hj ho ho3 ?_
            show nW _ _ _ _ _ 58 _ [] _ _ _
            refine aw_iconst (pc' := 59) (x := 1) nd_N_set_58 rfl (by decide) ?_
            refine aw_ireturn nd_N_set_59 rfl (by first | rfl | assumption) (Nat.le_of_ble_eq_true rfl) (Nat.le_of_ble_eq_true rfl) ?_
            first
              | exact hq1 j e hj he rfl rfl hb29 hb38 hb47
              | exact hq2 j e o hj he rfl rfl (fun z => hb29 z.1) ho ho3
              | exact hq2 j e o hj he rfl rfl (fun z => hb38 z.2.1) ho ho3
              | exact hq2 j e o hj he rfl rfl (fun z => hb47 z.2.2) ho ho3
    · skip
      refine aw_iconst (pc' := 15) (x := 0) nd_N_set_14 rfl (by decide) ?_
      refine aw_ireturn nd_N_set_15 rfl (by first | rfl | assumption) (Nat.le_of_ble_eq_true rfl) (Nat.le_of_ble_eq_true rfl) ?_
      first
        | exact hq0 (Or.inl (bi_f hb4))
        | exact hq0 (Or.inr (bi_f hb11))

def mh (c : Int32) : Bool := isLet c || isDig c || decide (¬ ax_ix c < 0)

theorem c_F_mayHold {L : Nat} {xs : Nat → Int32} {d : Nat} {Q : ax_Q} {c : Int32} {h : ax_H} (hq : Q (some (.int (bi (mh c)))) h) : nM L xs (d + 9) 80 [.int c] h Q := by
  refine nM.of ns_I_F_mayHold rfl (ls := [_]) (Nat.le_of_ble_eq_true rfl) rfl ?_
  refine aw_iload_n (pc' := 1) nd_F_mayHold_0 rfl rfl ?_
  refine aw_callS (a := 0) (pc' := 4) (as := [_]) (st := []) nd_F_mayHold_1 rfl nC_2_19 ⟨(Nat.le_of_ble_eq_true rfl), rfl, rfl⟩ (Nat.le_of_ble_eq_true rfl) (Nat.le_of_ble_eq_true rfl) (Nat.le_of_ble_eq_true rfl) ?_
  refine c_F_isLetter ?_
  show nW _ _ _ _ _ 4 _ [_] _ _ _
  refine aw_if_ne (pc' := 7) (tg := 23) nd_F_mayHold_4 (by decide) rfl (fun hb4 => ?_) (fun hb4 => ?_)
  · skip
    refine aw_iconst (pc' := 24) (x := 1) nd_F_mayHold_23 rfl (by decide) ?_
    refine aw_goto (pc' := 28) nd_F_mayHold_24 (by decide) ?_
    refine aw_ireturn nd_F_mayHold_28 rfl (by first | rfl | assumption) (Nat.le_of_ble_eq_true rfl) (Nat.le_of_ble_eq_true rfl) ?_
    first
      | (simpa [mh, bi_t hb4, bi] using hq)
      | (simpa [mh, bi_f hb4, bi_t hb11, bi] using hq)
      | (simpa [mh, bi_f hb4, bi_f hb11, hb20, bi] using hq)
      | (have h0 := Int32.not_lt.mp hb20; simpa [mh, bi_f hb4, bi_f hb11, h0, hb20, bi] using hq)
  · skip
    refine aw_iload_n (pc' := 8) nd_F_mayHold_7 rfl rfl ?_
    refine aw_callS (a := 0) (pc' := 11) (as := [_]) (st := []) nd_F_mayHold_8 rfl nC_2_23 ⟨(Nat.le_of_ble_eq_true rfl), rfl, rfl⟩ (Nat.le_of_ble_eq_true rfl) (Nat.le_of_ble_eq_true rfl) (Nat.le_of_ble_eq_true rfl) ?_
    refine c_F_isDigit ?_
    show nW _ _ _ _ _ 11 _ [_] _ _ _
    refine aw_if_ne (pc' := 14) (tg := 23) nd_F_mayHold_11 (by decide) rfl (fun hb11 => ?_) (fun hb11 => ?_)
    · skip
      refine aw_iconst (pc' := 24) (x := 1) nd_F_mayHold_23 rfl (by decide) ?_
      refine aw_goto (pc' := 28) nd_F_mayHold_24 (by decide) ?_
      refine aw_ireturn nd_F_mayHold_28 rfl (by first | rfl | assumption) (Nat.le_of_ble_eq_true rfl) (Nat.le_of_ble_eq_true rfl) ?_
      first
        | (simpa [mh, bi_t hb4, bi] using hq)
        | (simpa [mh, bi_f hb4, bi_t hb11, bi] using hq)
        | (simpa [mh, bi_f hb4, bi_f hb11, hb20, bi] using hq)
        | (have h0 := Int32.not_lt.mp hb20; simpa [mh, bi_f hb4, bi_f hb11, h0, hb20, bi] using hq)
    · skip
      refine aw_ldcS (pc' := 16) nd_F_mayHold_14 rfl nK_2_26 ?_
      refine aw_iload_n (pc' := 17) nd_F_mayHold_16 rfl rfl ?_
      refine aw_indexOf (pc' := 20) nd_F_mayHold_17 rfl nC_2_28 (by omega) (Nat.le_of_ble_eq_true rfl) ?_
      refine aw_if_lt (pc' := 23) (tg := 27) nd_F_mayHold_20 (by decide) rfl (fun hb20 => ?_) (fun hb20 => ?_)
      · skip
        refine aw_iconst (pc' := 28) (x := 0) nd_F_mayHold_27 rfl (by decide) ?_
        refine aw_ireturn nd_F_mayHold_28 rfl (by first | rfl | assumption) (Nat.le_of_ble_eq_true rfl) (Nat.le_of_ble_eq_true rfl) ?_
        first
          | (simpa [mh, bi_t hb4, bi] using hq)
          | (simpa [mh, bi_f hb4, bi_t hb11, bi] using hq)
          | (simpa [mh, bi_f hb4, bi_f hb11, hb20, bi] using hq)
          | (have h0 := Int32.not_lt.mp hb20; simpa [mh, bi_f hb4, bi_f hb11, h0, hb20, bi] using hq)
      · skip
        refine aw_iconst (pc' := 24) (x := 1) nd_F_mayHold_23 rfl (by decide) ?_
        refine aw_goto (pc' := 28) nd_F_mayHold_24 (by decide) ?_
        refine aw_ireturn nd_F_mayHold_28 rfl (by first | rfl | assumption) (Nat.le_of_ble_eq_true rfl) (Nat.le_of_ble_eq_true rfl) ?_
        first
          | (simpa [mh, bi_t hb4, bi] using hq)
          | (simpa [mh, bi_f hb4, bi_t hb11, bi] using hq)
          | (simpa [mh, bi_f hb4, bi_f hb11, hb20, bi] using hq)
          | (have h0 := Int32.not_lt.mp hb20; simpa [mh, bi_f hb4, bi_f hb11, h0, hb20, bi] using hq)

theorem c_N_type {L : Nat} {xs : Nat → Int32} {d : Nat} {Q : ax_Q} {μ : nMem} {c : Int32} {n : Nat} (hn : μ.1 (nF 12) 2 = nI n) (hle : n ≤ 30) (hc : vp_nar .char c = c) (hq1 : mh c = true → n < 30 → Q (some (.int 1)) (ns_rep (ms (ms μ (nT 12) n c) (nF 12) 2 (nI (n + 1))))) (hq0 : (mh c = false ∨ n = 30) → Q (some (.int 0)) (ns_rep μ)) : nM L xs (d + 10) 1 [.ref 0, .int c] (ns_rep μ) Q := by
  refine nM.of ns_I_N_type rfl (ls := [_, _]) (Nat.le_of_ble_eq_true rfl) rfl ?_
  refine aw_iload_n (pc' := 1) nd_N_type_0 rfl rfl ?_
  refine aw_callS (a := 0) (pc' := 4) (as := [_]) (st := []) nd_N_type_1 rfl nC_0_55 ⟨(Nat.le_of_ble_eq_true rfl), rfl, rfl⟩ (Nat.le_of_ble_eq_true rfl) (Nat.le_of_ble_eq_true rfl) (Nat.le_of_ble_eq_true rfl) ?_
  refine c_F_mayHold ?_
  show nW _ _ _ _ _ 4 _ [_] _ _ _
  refine aw_if_eq (pc' := 7) (tg := 22) nd_N_type_4 (by decide) rfl (fun hb4 => ?_) (fun hb4 => ?_)
  · skip
    refine aw_iconst (pc' := 23) (x := 0) nd_N_type_22 rfl (by decide) ?_
    refine aw_ireturn nd_N_type_23 rfl (by first | rfl | assumption) (Nat.le_of_ble_eq_true rfl) (Nat.le_of_ble_eq_true rfl) ?_
    exact hq0 (Or.inl (bi_f hb4))
  · skip
    refine aw_aload_n (pc' := 8) nd_N_type_7 rfl rfl rfl ?_
    refine aw_get (pc' := 11) nd_N_type_8 rfl nF_0_39 g_N_pad ?_
    refine aw_iload_n (pc' := 12) nd_N_type_11 rfl rfl ?_
    refine aw_callV (pc' := 15) (as := [_]) (st := []) nd_N_type_12 rfl nC_0_59 ⟨(Nat.le_of_ble_eq_true rfl), rfl, rfl⟩ (ns_ioF (by decide)) (Nat.le_of_ble_eq_true rfl) (Nat.le_of_ble_eq_true rfl) (Nat.le_of_ble_eq_true rfl) ?_
    refine c_F_append (by decide) hn hle hc (fun hlt => ?_) (fun heq => ?_)
    · show nW _ _ _ _ _ 15 _ [_] _ _ _
      refine aw_if_eq (pc' := 18) (tg := 22) nd_N_type_15 (by decide) rfl (fun hx => absurd hx (by decide)) (fun _ => ?_)
      refine aw_iconst (pc' := 19) (x := 1) nd_N_type_18 rfl (by decide) ?_
      refine aw_goto (pc' := 23) nd_N_type_19 (by decide) ?_
      refine aw_ireturn nd_N_type_23 rfl rfl (Nat.le_of_ble_eq_true rfl) (Nat.le_of_ble_eq_true rfl) ?_
      exact hq1 (bi_t hb4) hlt
    · show nW _ _ _ _ _ 15 _ [_] _ _ _
      refine aw_if_eq (pc' := 18) (tg := 22) nd_N_type_15 (by decide) rfl (fun _ => ?_) (fun hx => absurd rfl hx)
      refine aw_iconst (pc' := 23) (x := 0) nd_N_type_22 rfl (by decide) ?_
      refine aw_ireturn nd_N_type_23 rfl rfl (Nat.le_of_ble_eq_true rfl) (Nat.le_of_ble_eq_true rfl) ?_
      exact hq0 (Or.inr heq)
