/-! the model's note and read -/
theorem nI_of0 {x : Int32} (h0 : ¬ x < 0) (h1 : x < 3) : ∃ w, w < 3 ∧ x = nI w := by
  obtain ⟨j, hj, rfl⟩ := nI_of h0
  exact ⟨j, (nI_ltI (a := j) (b := 3) hj (by decide)).mp h1, rfl⟩

theorem c_M_note {L : Nat} {xs : Nat → Int32} {d : Nat} {Q : ax_Q} {μ : nMem} {x y : Int32} (hq0 : ic x = false → Q (some (.int (-1))) (ns_rep μ)) (hq1 : ∀ j, j < 12 → x = nI j → Q (some (.int (ntM μ j y))) (ns_rep μ)) : nM L xs (d + 2) 70 [.ref 104, .int x, .int y] (ns_rep μ) Q := by
  refine nM.of ns_I_M_note rfl (ls := [_, _, _, _]) (Nat.le_of_ble_eq_true rfl) rfl ?_
  refine aw_iload_n (pc' := 1) nd_M_note_0 rfl rfl ?_
  refine aw_callS (a := 0) (pc' := 4) (as := [_]) (st := []) nd_M_note_1 rfl nC_5_185 ⟨(Nat.le_of_ble_eq_true rfl), rfl, rfl⟩ (Nat.le_of_ble_eq_true rfl) (Nat.le_of_ble_eq_true rfl) (Nat.le_of_ble_eq_true rfl) ?_
  refine c_M_isCell ?_
  show nW _ _ _ _ _ 4 _ [_] _ _ _
  refine aw_if_eq (pc' := 7) (tg := 17) nd_M_note_4 (by decide) rfl (fun hb4 => ?_) (fun hb4 => ?_)
  · skip
    refine aw_iconst (pc' := 18) (x := -1) nd_M_note_17 rfl (by decide) ?_
    refine aw_ireturn nd_M_note_18 rfl rfl (Nat.le_of_ble_eq_true rfl) (Nat.le_of_ble_eq_true rfl) ?_
    first
      | exact hq0 (bi_f hb4)
      | (unfold ntM at hq; rw [if_neg hb8, if_pos (Int32.not_le.mp hb14)] at hq; exact hq)
      | (unfold ntM at hq; rw [if_pos hb8] at hq; exact hq)
  · skip
    obtain ⟨j, hj, rfl⟩ := ic_t (bi_t hb4)
    have hq := hq1 j hj rfl
    refine aw_iload_n (pc' := 8) nd_M_note_7 rfl rfl ?_
    refine aw_if_lt (pc' := 11) (tg := 17) nd_M_note_8 (by decide) rfl (fun hb8 => ?_) (fun hb8 => ?_)
    · skip
      refine aw_iconst (pc' := 18) (x := -1) nd_M_note_17 rfl (by decide) ?_
      refine aw_ireturn nd_M_note_18 rfl rfl (Nat.le_of_ble_eq_true rfl) (Nat.le_of_ble_eq_true rfl) ?_
      first
        | exact hq0 (bi_f hb4)
        | (unfold ntM at hq; rw [if_neg hb8, if_pos (Int32.not_le.mp hb14)] at hq; exact hq)
        | (unfold ntM at hq; rw [if_pos hb8] at hq; exact hq)
    · skip
      refine aw_iload_n (pc' := 12) nd_M_note_11 rfl rfl ?_
      refine aw_bipush (pc' := 14) (x := 7) nd_M_note_12 rfl (by decide) ?_
      refine aw_icmp_le (pc' := 17) (tg := 19) nd_M_note_14 (by decide) rfl (fun hb14 => ?_) (fun hb14 => ?_)
      · skip
        refine aw_iload_n (pc' := 20) nd_M_note_19 rfl rfl ?_
        refine aw_iconst (pc' := 21) (x := 3) nd_M_note_20 rfl (by decide) ?_
        refine aw_icmp_ge (pc' := 24) (tg := 35) nd_M_note_21 (by decide) rfl (fun hb21 => ?_) (fun hb21 => ?_)
        · skip
          have h3 : ¬ y < 3 := Int32.not_lt.mpr hb21
          have h7 : ¬ 7 < y := Int32.not_lt.mpr hb14
          refine aw_aload_n (pc' := 36) nd_M_note_35 rfl rfl rfl ?_
          refine aw_get (pc' := 39) nd_M_note_36 rfl nF_5_20 g_M_formula ?_
          refine aw_iload_n (pc' := 40) nd_M_note_39 rfl rfl ?_
          refine aw_bald (pc' := 41) nd_M_note_40 rfl ga_Mformula j rfl hj ?_
          refine aw_istore_n (pc' := 42) (ls' := [_, _, _, _]) nd_M_note_41 rfl (Nat.le_of_ble_eq_true rfl) rfl ?_
          refine aw_iload_n (pc' := 43) nd_M_note_42 rfl rfl ?_
          refine aw_if_eq (pc' := 46) (tg := 57) nd_M_note_43 (by decide) rfl (fun hb43 => ?_) (fun hb43 => ?_)
          · skip
            refine aw_iload_n (pc' := 58) nd_M_note_57 rfl rfl ?_
            by_cases hs3 : y = 3
            · subst hs3
              refine aw_tabIn (tg := 88) (off := 30) nd_M_note_58 (by decide) (by decide) (by decide) ?_
              refine aw_aload_n (pc' := 89) nd_M_note_88 rfl rfl rfl ?_
              refine aw_iload_n (pc' := 90) nd_M_note_89 rfl rfl ?_
              refine aw_callV (pc' := 93) (as := [_]) (st := []) nd_M_note_90 rfl nC_5_225 ⟨(Nat.le_of_ble_eq_true rfl), rfl, rfl⟩ ns_ioM (Nat.le_of_ble_eq_true rfl) (Nat.le_of_ble_eq_true rfl) (Nat.le_of_ble_eq_true rfl) ?_
              refine c_M_sinceOf hj ?_
              show nW _ _ _ _ _ 93 _ [_] _ _ _
              refine aw_ireturn nd_M_note_93 rfl rfl (Nat.le_of_ble_eq_true rfl) (Nat.le_of_ble_eq_true rfl) ?_
              unfold ntM ntU ntV at hq
              first
                | exact absurd hb95 hb43
                | exact absurd hb43 hb95
                | exact absurd hb116 hb43
                | exact absurd hb43 hb116
                | exact absurd hb131 hb43
                | exact absurd hb43 hb131
                | (rw [if_neg hb8, if_neg h7, if_neg h3, if_pos hb43] at hq; simpa [*] using hq)
                | (rw [if_neg hb8, if_neg h7, if_neg h3, if_neg hb43, if_neg hb52] at hq; simpa [*] using hq)
            by_cases hs4 : y = 4
            · subst hs4
              refine aw_tabIn (tg := 94) (off := 36) nd_M_note_58 (by decide) (by decide) (by decide) ?_
              refine aw_iload_n (pc' := 95) nd_M_note_94 rfl rfl ?_
              refine aw_if_eq (pc' := 98) (tg := 107) nd_M_note_95 (by decide) rfl (fun hb95 => ?_) (fun hb95 => ?_)
              · skip
                refine aw_iconst (pc' := 108) (x := 0) nd_M_note_107 rfl (by decide) ?_
                refine aw_ireturn nd_M_note_108 rfl rfl (Nat.le_of_ble_eq_true rfl) (Nat.le_of_ble_eq_true rfl) ?_
                unfold ntM ntU ntV at hq
                first
                  | exact absurd hb95 hb43
                  | exact absurd hb43 hb95
                  | exact absurd hb116 hb43
                  | exact absurd hb43 hb116
                  | exact absurd hb131 hb43
                  | exact absurd hb43 hb131
                  | (rw [if_neg hb8, if_neg h7, if_neg h3, if_pos hb43] at hq; simpa [*] using hq)
                  | (rw [if_neg hb8, if_neg h7, if_neg h3, if_neg hb43, if_neg hb52] at hq; simpa [*] using hq)
              · skip
                refine aw_aload_n (pc' := 99) nd_M_note_98 rfl rfl rfl ?_
                refine aw_get (pc' := 102) nd_M_note_99 rfl nF_5_61 g_M_verified ?_
                refine aw_iload_n (pc' := 103) nd_M_note_102 rfl rfl ?_
                refine aw_iald (pc' := 104) nd_M_note_103 rfl ga_Mverified j rfl hj ?_
                refine aw_goto (pc' := 108) nd_M_note_104 (by decide) ?_
                refine aw_ireturn nd_M_note_108 rfl rfl (Nat.le_of_ble_eq_true rfl) (Nat.le_of_ble_eq_true rfl) ?_
                unfold ntM ntU ntV at hq
                first
                  | exact absurd hb95 hb43
                  | exact absurd hb43 hb95
                  | exact absurd hb116 hb43
                  | exact absurd hb43 hb116
                  | exact absurd hb131 hb43
                  | exact absurd hb43 hb131
                  | (rw [if_neg hb8, if_neg h7, if_neg h3, if_pos hb43] at hq; simpa [*] using hq)
                  | (rw [if_neg hb8, if_neg h7, if_neg h3, if_neg hb43, if_neg hb52] at hq; simpa [*] using hq)
            by_cases hs5 : y = 5
            · subst hs5
              refine aw_tabIn (tg := 109) (off := 51) nd_M_note_58 (by decide) (by decide) (by decide) ?_
              refine aw_aload_n (pc' := 110) nd_M_note_109 rfl rfl rfl ?_
              refine aw_iload_n (pc' := 111) nd_M_note_110 rfl rfl ?_
              refine aw_callV (pc' := 114) (as := [_]) (st := []) nd_M_note_111 rfl nC_5_216 ⟨(Nat.le_of_ble_eq_true rfl), rfl, rfl⟩ ns_ioM (Nat.le_of_ble_eq_true rfl) (Nat.le_of_ble_eq_true rfl) (Nat.le_of_ble_eq_true rfl) ?_
              refine c_M_durabilityOf hj ?_
              show nW _ _ _ _ _ 114 _ [_] _ _ _
              refine aw_ireturn nd_M_note_114 rfl rfl (Nat.le_of_ble_eq_true rfl) (Nat.le_of_ble_eq_true rfl) ?_
              unfold ntM ntU ntV at hq
              first
                | exact absurd hb95 hb43
                | exact absurd hb43 hb95
                | exact absurd hb116 hb43
                | exact absurd hb43 hb116
                | exact absurd hb131 hb43
                | exact absurd hb43 hb131
                | (rw [if_neg hb8, if_neg h7, if_neg h3, if_pos hb43] at hq; simpa [*] using hq)
                | (rw [if_neg hb8, if_neg h7, if_neg h3, if_neg hb43, if_neg hb52] at hq; simpa [*] using hq)
            by_cases hs6 : y = 6
            · subst hs6
              refine aw_tabIn (tg := 115) (off := 57) nd_M_note_58 (by decide) (by decide) (by decide) ?_
              refine aw_iload_n (pc' := 116) nd_M_note_115 rfl rfl ?_
              refine aw_if_eq (pc' := 119) (tg := 128) nd_M_note_116 (by decide) rfl (fun hb116 => ?_) (fun hb116 => ?_)
              · skip
                refine aw_iconst (pc' := 129) (x := 0) nd_M_note_128 rfl (by decide) ?_
                refine aw_ireturn nd_M_note_129 rfl rfl (Nat.le_of_ble_eq_true rfl) (Nat.le_of_ble_eq_true rfl) ?_
                unfold ntM ntU ntV at hq
                first
                  | exact absurd hb95 hb43
                  | exact absurd hb43 hb95
                  | exact absurd hb116 hb43
                  | exact absurd hb43 hb116
                  | exact absurd hb131 hb43
                  | exact absurd hb43 hb131
                  | (rw [if_neg hb8, if_neg h7, if_neg h3, if_pos hb43] at hq; simpa [*] using hq)
                  | (rw [if_neg hb8, if_neg h7, if_neg h3, if_neg hb43, if_neg hb52] at hq; simpa [*] using hq)
              · skip
                refine aw_aload_n (pc' := 120) nd_M_note_119 rfl rfl rfl ?_
                refine aw_get (pc' := 123) nd_M_note_120 rfl nF_5_70 g_M_reads ?_
                refine aw_iload_n (pc' := 124) nd_M_note_123 rfl rfl ?_
                refine aw_iald (pc' := 125) nd_M_note_124 rfl ga_Mreads j rfl hj ?_
                refine aw_goto (pc' := 129) nd_M_note_125 (by decide) ?_
                refine aw_ireturn nd_M_note_129 rfl rfl (Nat.le_of_ble_eq_true rfl) (Nat.le_of_ble_eq_true rfl) ?_
                unfold ntM ntU ntV at hq
                first
                  | exact absurd hb95 hb43
                  | exact absurd hb43 hb95
                  | exact absurd hb116 hb43
                  | exact absurd hb43 hb116
                  | exact absurd hb131 hb43
                  | exact absurd hb43 hb131
                  | (rw [if_neg hb8, if_neg h7, if_neg h3, if_pos hb43] at hq; simpa [*] using hq)
                  | (rw [if_neg hb8, if_neg h7, if_neg h3, if_neg hb43, if_neg hb52] at hq; simpa [*] using hq)
            have hout : (y : Int32).toInt < 3 ∨ 6 < (y : Int32).toInt := by
              have m3 : ¬ (y : Int32).toInt = 3 := fun z => hs3 (Int32.toInt_inj.mp (by rw [z]; decide))
              have m4 : ¬ (y : Int32).toInt = 4 := fun z => hs4 (Int32.toInt_inj.mp (by rw [z]; decide))
              have m5 : ¬ (y : Int32).toInt = 5 := fun z => hs5 (Int32.toInt_inj.mp (by rw [z]; decide))
              have m6 : ¬ (y : Int32).toInt = 6 := fun z => hs6 (Int32.toInt_inj.mp (by rw [z]; decide))
              omega
            refine aw_tabOut (tg := 130) nd_M_note_58 hout (by decide) ?_
            refine aw_iload_n (pc' := 131) nd_M_note_130 rfl rfl ?_
            refine aw_if_eq (pc' := 134) (tg := 143) nd_M_note_131 (by decide) rfl (fun hb131 => ?_) (fun hb131 => ?_)
            · skip
              refine aw_iconst (pc' := 144) (x := 1) nd_M_note_143 rfl (by decide) ?_
              refine aw_goto (pc' := 148) nd_M_note_144 (by decide) ?_
              refine aw_ireturn nd_M_note_148 rfl rfl (Nat.le_of_ble_eq_true rfl) (Nat.le_of_ble_eq_true rfl) ?_
              unfold ntM ntU ntV at hq
              first
                | exact absurd hb95 hb43
                | exact absurd hb43 hb95
                | exact absurd hb116 hb43
                | exact absurd hb43 hb116
                | exact absurd hb131 hb43
                | exact absurd hb43 hb131
                | (rw [if_neg hb8, if_neg h7, if_neg h3, if_pos hb43] at hq; simpa [*] using hq)
                | (rw [if_neg hb8, if_neg h7, if_neg h3, if_neg hb43, if_neg hb52] at hq; simpa [*] using hq)
            · skip
              refine aw_aload_n (pc' := 135) nd_M_note_134 rfl rfl rfl ?_
              refine aw_get (pc' := 138) nd_M_note_135 rfl nF_5_54 g_M_valued ?_
              refine aw_iload_n (pc' := 139) nd_M_note_138 rfl rfl ?_
              refine aw_bald (pc' := 140) nd_M_note_139 rfl ga_Mvalued j rfl hj ?_
              refine aw_if_eq (pc' := 143) (tg := 147) nd_M_note_140 (by decide) rfl (fun hb140 => ?_) (fun hb140 => ?_)
              · skip
                refine aw_iconst (pc' := 148) (x := 0) nd_M_note_147 rfl (by decide) ?_
                refine aw_ireturn nd_M_note_148 rfl rfl (Nat.le_of_ble_eq_true rfl) (Nat.le_of_ble_eq_true rfl) ?_
                unfold ntM ntU ntV at hq
                first
                  | exact absurd hb95 hb43
                  | exact absurd hb43 hb95
                  | exact absurd hb116 hb43
                  | exact absurd hb43 hb116
                  | exact absurd hb131 hb43
                  | exact absurd hb43 hb131
                  | (rw [if_neg hb8, if_neg h7, if_neg h3, if_pos hb43] at hq; simpa [*] using hq)
                  | (rw [if_neg hb8, if_neg h7, if_neg h3, if_neg hb43, if_neg hb52] at hq; simpa [*] using hq)
              · skip
                refine aw_iconst (pc' := 144) (x := 1) nd_M_note_143 rfl (by decide) ?_
                refine aw_goto (pc' := 148) nd_M_note_144 (by decide) ?_
                refine aw_ireturn nd_M_note_148 rfl rfl (Nat.le_of_ble_eq_true rfl) (Nat.le_of_ble_eq_true rfl) ?_
                unfold ntM ntU ntV at hq
                first
                  | exact absurd hb95 hb43
                  | exact absurd hb43 hb95
                  | exact absurd hb116 hb43
                  | exact absurd hb43 hb116
                  | exact absurd hb131 hb43
                  | exact absurd hb43 hb131
                  | (rw [if_neg hb8, if_neg h7, if_neg h3, if_pos hb43] at hq; simpa [*] using hq)
                  | (rw [if_neg hb8, if_neg h7, if_neg h3, if_neg hb43, if_neg hb52] at hq; simpa [*] using hq)
          · skip
            refine aw_aload_n (pc' := 47) nd_M_note_46 rfl rfl rfl ?_
            refine aw_get (pc' := 50) nd_M_note_47 rfl nF_5_51 g_M_noted ?_
            refine aw_iload_n (pc' := 51) nd_M_note_50 rfl rfl ?_
            refine aw_bald (pc' := 52) nd_M_note_51 rfl ga_Mnoted j rfl hj ?_
            refine aw_if_ne (pc' := 55) (tg := 57) nd_M_note_52 (by decide) rfl (fun hb52 => ?_) (fun hb52 => ?_)
            · skip
              refine aw_iload_n (pc' := 58) nd_M_note_57 rfl rfl ?_
              by_cases hs3 : y = 3
              · subst hs3
                refine aw_tabIn (tg := 88) (off := 30) nd_M_note_58 (by decide) (by decide) (by decide) ?_
                refine aw_aload_n (pc' := 89) nd_M_note_88 rfl rfl rfl ?_
                refine aw_iload_n (pc' := 90) nd_M_note_89 rfl rfl ?_
                refine aw_callV (pc' := 93) (as := [_]) (st := []) nd_M_note_90 rfl nC_5_225 ⟨(Nat.le_of_ble_eq_true rfl), rfl, rfl⟩ ns_ioM (Nat.le_of_ble_eq_true rfl) (Nat.le_of_ble_eq_true rfl) (Nat.le_of_ble_eq_true rfl) ?_
                refine c_M_sinceOf hj ?_
                show nW _ _ _ _ _ 93 _ [_] _ _ _
                refine aw_ireturn nd_M_note_93 rfl rfl (Nat.le_of_ble_eq_true rfl) (Nat.le_of_ble_eq_true rfl) ?_
                unfold ntM ntU ntV at hq
                first
                  | exact absurd hb95 hb43
                  | exact absurd hb43 hb95
                  | exact absurd hb116 hb43
                  | exact absurd hb43 hb116
                  | exact absurd hb131 hb43
                  | exact absurd hb43 hb131
                  | (rw [if_neg hb8, if_neg h7, if_neg h3, if_pos hb43] at hq; simpa [*] using hq)
                  | (rw [if_neg hb8, if_neg h7, if_neg h3, if_neg hb43, if_neg hb52] at hq; simpa [*] using hq)
              by_cases hs4 : y = 4
              · subst hs4
                refine aw_tabIn (tg := 94) (off := 36) nd_M_note_58 (by decide) (by decide) (by decide) ?_
                refine aw_iload_n (pc' := 95) nd_M_note_94 rfl rfl ?_
                refine aw_if_eq (pc' := 98) (tg := 107) nd_M_note_95 (by decide) rfl (fun hb95 => ?_) (fun hb95 => ?_)
                · skip
                  refine aw_iconst (pc' := 108) (x := 0) nd_M_note_107 rfl (by decide) ?_
                  refine aw_ireturn nd_M_note_108 rfl rfl (Nat.le_of_ble_eq_true rfl) (Nat.le_of_ble_eq_true rfl) ?_
                  unfold ntM ntU ntV at hq
                  first
                    | exact absurd hb95 hb43
                    | exact absurd hb43 hb95
                    | exact absurd hb116 hb43
                    | exact absurd hb43 hb116
                    | exact absurd hb131 hb43
                    | exact absurd hb43 hb131
                    | (rw [if_neg hb8, if_neg h7, if_neg h3, if_pos hb43] at hq; simpa [*] using hq)
                    | (rw [if_neg hb8, if_neg h7, if_neg h3, if_neg hb43, if_neg hb52] at hq; simpa [*] using hq)
                · skip
                  refine aw_aload_n (pc' := 99) nd_M_note_98 rfl rfl rfl ?_
                  refine aw_get (pc' := 102) nd_M_note_99 rfl nF_5_61 g_M_verified ?_
                  refine aw_iload_n (pc' := 103) nd_M_note_102 rfl rfl ?_
                  refine aw_iald (pc' := 104) nd_M_note_103 rfl ga_Mverified j rfl hj ?_
                  refine aw_goto (pc' := 108) nd_M_note_104 (by decide) ?_
                  refine aw_ireturn nd_M_note_108 rfl rfl (Nat.le_of_ble_eq_true rfl) (Nat.le_of_ble_eq_true rfl) ?_
                  unfold ntM ntU ntV at hq
                  first
                    | exact absurd hb95 hb43
                    | exact absurd hb43 hb95
                    | exact absurd hb116 hb43
                    | exact absurd hb43 hb116
                    | exact absurd hb131 hb43
                    | exact absurd hb43 hb131
                    | (rw [if_neg hb8, if_neg h7, if_neg h3, if_pos hb43] at hq; simpa [*] using hq)
                    | (rw [if_neg hb8, if_neg h7, if_neg h3, if_neg hb43, if_neg hb52] at hq; simpa [*] using hq)
              by_cases hs5 : y = 5
              · subst hs5
                refine aw_tabIn (tg := 109) (off := 51) nd_M_note_58 (by decide) (by decide) (by decide) ?_
                refine aw_aload_n (pc' := 110) nd_M_note_109 rfl rfl rfl ?_
                refine aw_iload_n (pc' := 111) nd_M_note_110 rfl rfl ?_
                refine aw_callV (pc' := 114) (as := [_]) (st := []) nd_M_note_111 rfl nC_5_216 ⟨(Nat.le_of_ble_eq_true rfl), rfl, rfl⟩ ns_ioM (Nat.le_of_ble_eq_true rfl) (Nat.le_of_ble_eq_true rfl) (Nat.le_of_ble_eq_true rfl) ?_
                refine c_M_durabilityOf hj ?_
                show nW _ _ _ _ _ 114 _ [_] _ _ _
                refine aw_ireturn nd_M_note_114 rfl rfl (Nat.le_of_ble_eq_true rfl) (Nat.le_of_ble_eq_true rfl) ?_
                unfold ntM ntU ntV at hq
                first
                  | exact absurd hb95 hb43
                  | exact absurd hb43 hb95
                  | exact absurd hb116 hb43
                  | exact absurd hb43 hb116
                  | exact absurd hb131 hb43
                  | exact absurd hb43 hb131
                  | (rw [if_neg hb8, if_neg h7, if_neg h3, if_pos hb43] at hq; simpa [*] using hq)
                  | (rw [if_neg hb8, if_neg h7, if_neg h3, if_neg hb43, if_neg hb52] at hq; simpa [*] using hq)
              by_cases hs6 : y = 6
              · subst hs6
                refine aw_tabIn (tg := 115) (off := 57) nd_M_note_58 (by decide) (by decide) (by decide) ?_
                refine aw_iload_n (pc' := 116) nd_M_note_115 rfl rfl ?_
                refine aw_if_eq (pc' := 119) (tg := 128) nd_M_note_116 (by decide) rfl (fun hb116 => ?_) (fun hb116 => ?_)
                · skip
                  refine aw_iconst (pc' := 129) (x := 0) nd_M_note_128 rfl (by decide) ?_
                  refine aw_ireturn nd_M_note_129 rfl rfl (Nat.le_of_ble_eq_true rfl) (Nat.le_of_ble_eq_true rfl) ?_
                  unfold ntM ntU ntV at hq
                  first
                    | exact absurd hb95 hb43
                    | exact absurd hb43 hb95
                    | exact absurd hb116 hb43
                    | exact absurd hb43 hb116
                    | exact absurd hb131 hb43
                    | exact absurd hb43 hb131
                    | (rw [if_neg hb8, if_neg h7, if_neg h3, if_pos hb43] at hq; simpa [*] using hq)
                    | (rw [if_neg hb8, if_neg h7, if_neg h3, if_neg hb43, if_neg hb52] at hq; simpa [*] using hq)
                · skip
                  refine aw_aload_n (pc' := 120) nd_M_note_119 rfl rfl rfl ?_
                  refine aw_get (pc' := 123) nd_M_note_120 rfl nF_5_70 g_M_reads ?_
                  refine aw_iload_n (pc' := 124) nd_M_note_123 rfl rfl ?_
                  refine aw_iald (pc' := 125) nd_M_note_124 rfl ga_Mreads j rfl hj ?_
                  refine aw_goto (pc' := 129) nd_M_note_125 (by decide) ?_
                  refine aw_ireturn nd_M_note_129 rfl rfl (Nat.le_of_ble_eq_true rfl) (Nat.le_of_ble_eq_true rfl) ?_
                  unfold ntM ntU ntV at hq
                  first
                    | exact absurd hb95 hb43
                    | exact absurd hb43 hb95
                    | exact absurd hb116 hb43
                    | exact absurd hb43 hb116
                    | exact absurd hb131 hb43
                    | exact absurd hb43 hb131
                    | (rw [if_neg hb8, if_neg h7, if_neg h3, if_pos hb43] at hq; simpa [*] using hq)
                    | (rw [if_neg hb8, if_neg h7, if_neg h3, if_neg hb43, if_neg hb52] at hq; simpa [*] using hq)
              have hout : (y : Int32).toInt < 3 ∨ 6 < (y : Int32).toInt := by
                have m3 : ¬ (y : Int32).toInt = 3 := fun z => hs3 (Int32.toInt_inj.mp (by rw [z]; decide))
                have m4 : ¬ (y : Int32).toInt = 4 := fun z => hs4 (Int32.toInt_inj.mp (by rw [z]; decide))
                have m5 : ¬ (y : Int32).toInt = 5 := fun z => hs5 (Int32.toInt_inj.mp (by rw [z]; decide))
                have m6 : ¬ (y : Int32).toInt = 6 := fun z => hs6 (Int32.toInt_inj.mp (by rw [z]; decide))
                omega
              refine aw_tabOut (tg := 130) nd_M_note_58 hout (by decide) ?_
              refine aw_iload_n (pc' := 131) nd_M_note_130 rfl rfl ?_
              refine aw_if_eq (pc' := 134) (tg := 143) nd_M_note_131 (by decide) rfl (fun hb131 => ?_) (fun hb131 => ?_)
              · skip
                refine aw_iconst (pc' := 144) (x := 1) nd_M_note_143 rfl (by decide) ?_
                refine aw_goto (pc' := 148) nd_M_note_144 (by decide) ?_
                refine aw_ireturn nd_M_note_148 rfl rfl (Nat.le_of_ble_eq_true rfl) (Nat.le_of_ble_eq_true rfl) ?_
                unfold ntM ntU ntV at hq
                first
                  | exact absurd hb95 hb43
                  | exact absurd hb43 hb95
                  | exact absurd hb116 hb43
                  | exact absurd hb43 hb116
                  | exact absurd hb131 hb43
                  | exact absurd hb43 hb131
                  | (rw [if_neg hb8, if_neg h7, if_neg h3, if_pos hb43] at hq; simpa [*] using hq)
                  | (rw [if_neg hb8, if_neg h7, if_neg h3, if_neg hb43, if_neg hb52] at hq; simpa [*] using hq)
              · skip
                refine aw_aload_n (pc' := 135) nd_M_note_134 rfl rfl rfl ?_
                refine aw_get (pc' := 138) nd_M_note_135 rfl nF_5_54 g_M_valued ?_
                refine aw_iload_n (pc' := 139) nd_M_note_138 rfl rfl ?_
                refine aw_bald (pc' := 140) nd_M_note_139 rfl ga_Mvalued j rfl hj ?_
                refine aw_if_eq (pc' := 143) (tg := 147) nd_M_note_140 (by decide) rfl (fun hb140 => ?_) (fun hb140 => ?_)
                · skip
                  refine aw_iconst (pc' := 148) (x := 0) nd_M_note_147 rfl (by decide) ?_
                  refine aw_ireturn nd_M_note_148 rfl rfl (Nat.le_of_ble_eq_true rfl) (Nat.le_of_ble_eq_true rfl) ?_
                  unfold ntM ntU ntV at hq
                  first
                    | exact absurd hb95 hb43
                    | exact absurd hb43 hb95
                    | exact absurd hb116 hb43
                    | exact absurd hb43 hb116
                    | exact absurd hb131 hb43
                    | exact absurd hb43 hb131
                    | (rw [if_neg hb8, if_neg h7, if_neg h3, if_pos hb43] at hq; simpa [*] using hq)
                    | (rw [if_neg hb8, if_neg h7, if_neg h3, if_neg hb43, if_neg hb52] at hq; simpa [*] using hq)
                · skip
                  refine aw_iconst (pc' := 144) (x := 1) nd_M_note_143 rfl (by decide) ?_
                  refine aw_goto (pc' := 148) nd_M_note_144 (by decide) ?_
                  refine aw_ireturn nd_M_note_148 rfl rfl (Nat.le_of_ble_eq_true rfl) (Nat.le_of_ble_eq_true rfl) ?_
                  unfold ntM ntU ntV at hq
                  first
                    | exact absurd hb95 hb43
                    | exact absurd hb43 hb95
                    | exact absurd hb116 hb43
                    | exact absurd hb43 hb116
                    | exact absurd hb131 hb43
                    | exact absurd hb43 hb131
                    | (rw [if_neg hb8, if_neg h7, if_neg h3, if_pos hb43] at hq; simpa [*] using hq)
                    | (rw [if_neg hb8, if_neg h7, if_neg h3, if_neg hb43, if_neg hb52] at hq; simpa [*] using hq)
            · skip
              refine aw_iconst (pc' := 56) (x := 0) nd_M_note_55 rfl (by decide) ?_
              refine aw_ireturn nd_M_note_56 rfl rfl (Nat.le_of_ble_eq_true rfl) (Nat.le_of_ble_eq_true rfl) ?_
              unfold ntM at hq
              rw [if_neg hb8, if_neg h7, if_neg h3, if_neg hb43, if_pos hb52] at hq
              exact hq
        · skip
          have hlt : y < 3 := Int32.not_le.mp hb21
          obtain ⟨w, hw, rfl⟩ := nI_of0 hb8 hlt
          refine aw_aload_n (pc' := 25) nd_M_note_24 rfl rfl rfl ?_
          refine aw_get (pc' := 28) nd_M_note_25 rfl nF_5_79 g_M_often ?_
          refine aw_iconst (pc' := 29) (x := 3) nd_M_note_28 rfl (by decide) ?_
          refine aw_iload_n (pc' := 30) nd_M_note_29 rfl rfl ?_
          refine aw_imul (pc' := 31) nd_M_note_30 rfl ?_
          refine aw_iload_n (pc' := 32) nd_M_note_31 rfl rfl ?_
          refine aw_iadd (pc' := 33) nd_M_note_32 rfl ?_
          refine aw_iald (pc' := 34) nd_M_note_33 rfl ga_Moften (3 * j + w) (nI_lin (c := 3) (by decide)) (by omega) ?_
          refine aw_ireturn nd_M_note_34 rfl rfl (Nat.le_of_ble_eq_true rfl) (Nat.le_of_ble_eq_true rfl) ?_
          unfold ntM at hq
          rw [if_neg hb8, if_neg (Int32.not_lt.mpr hb14), if_pos hlt, nI_clamp (by omega)] at hq
          exact hq
      · skip
        refine aw_iconst (pc' := 18) (x := -1) nd_M_note_17 rfl (by decide) ?_
        refine aw_ireturn nd_M_note_18 rfl rfl (Nat.le_of_ble_eq_true rfl) (Nat.le_of_ble_eq_true rfl) ?_
        first
          | exact hq0 (bi_f hb4)
          | (unfold ntM at hq; rw [if_neg hb8, if_pos (Int32.not_le.mp hb14)] at hq; exact hq)
          | (unfold ntM at hq; rw [if_pos hb8] at hq; exact hq)

theorem c_M_read {L : Nat} {xs : Nat → Int32} {d : Nat} {Q : ax_Q} {μ : nMem} {x i : Int32} {n : Nat} (hq0 : ic x = false → Q (some (.int (-1))) (ns_rep μ)) (hn : ∀ j, j < 12 → x = nI j → ¬ μ.1 107 j = 0 → ¬ μ.1 117 j = 0 → μ.1 123 j = nI n ∧ n ≤ 12) (hq1 : ∀ j, j < 12 → x = nI j → (μ.1 107 j = 0 ∨ μ.1 117 j = 0 ∨ i < 0 ∨ nI n ≤ i) → Q (some (.int (-1))) (ns_rep μ)) (hq2 : ∀ j m, j < 12 → x = nI j → ¬ μ.1 107 j = 0 → ¬ μ.1 117 j = 0 → m < n → i = nI m → Q (some (.int (μ.1 124 (12 * j + m)))) (ns_rep μ)) : nM L xs (d + 2) 71 [.ref 104, .int x, .int i] (ns_rep μ) Q := by
  refine nM.of ns_I_M_read rfl (ls := [_, _, _]) (Nat.le_of_ble_eq_true rfl) rfl ?_
  refine aw_iload_n (pc' := 1) nd_M_read_0 rfl rfl ?_
  refine aw_callS (a := 0) (pc' := 4) (as := [_]) (st := []) nd_M_read_1 rfl nC_5_185 ⟨(Nat.le_of_ble_eq_true rfl), rfl, rfl⟩ (Nat.le_of_ble_eq_true rfl) (Nat.le_of_ble_eq_true rfl) (Nat.le_of_ble_eq_true rfl) ?_
  refine c_M_isCell ?_
  show nW _ _ _ _ _ 4 _ [_] _ _ _
  refine aw_if_eq (pc' := 7) (tg := 86) nd_M_read_4 (by decide) rfl (fun hb4 => ?_) (fun hb4 => ?_)
  · skip
    refine aw_iconst (pc' := 87) (x := -1) nd_M_read_86 rfl (by decide) ?_
    refine aw_ireturn nd_M_read_87 rfl rfl (Nat.le_of_ble_eq_true rfl) (Nat.le_of_ble_eq_true rfl) ?_
    first
      | exact hq2 j m hj rfl hb24 hb44 hmn rfl
      | exact hq1 j hj rfl (Or.inr (Or.inr (Or.inr hb69)))
      | exact hq1 j hj rfl (Or.inr (Or.inr (Or.inl hb48)))
      | exact hq1 j hj rfl (Or.inr (Or.inl hb44))
      | exact hq1 j hj rfl (Or.inl hb24)
      | exact hq0 (bi_f hb4)
  · skip
    obtain ⟨j, hj, rfl⟩ := ic_t (bi_t hb4)
    refine aw_aload_n (pc' := 8) nd_M_read_7 rfl rfl rfl ?_
    refine aw_get (pc' := 11) nd_M_read_8 rfl nF_5_20 g_M_formula ?_
    refine aw_iload_n (pc' := 12) nd_M_read_11 rfl rfl ?_
    refine aw_callS (a := 0) (pc' := 15) (as := [_]) (st := [_]) nd_M_read_12 rfl nC_5_185 ⟨(Nat.le_of_ble_eq_true rfl), rfl, rfl⟩ (Nat.le_of_ble_eq_true rfl) (Nat.le_of_ble_eq_true rfl) (Nat.le_of_ble_eq_true rfl) ?_
    refine c_M_isCell ?_
    show nW _ _ _ _ _ 15 _ [_, _] _ _ _
    refine aw_if_eq (pc' := 18) (tg := 22) nd_M_read_15 (by decide) rfl (fun hx => absurd hx (by rw [ic_nI hj]; decide)) (fun _ => ?_)
    refine aw_iload_n (pc' := 19) nd_M_read_18 rfl rfl ?_
    refine aw_goto (pc' := 23) nd_M_read_19 (by decide) ?_
    refine aw_bald (pc' := 24) nd_M_read_23 rfl ga_Mformula j rfl hj ?_
    refine aw_if_eq (pc' := 27) (tg := 86) nd_M_read_24 (by decide) rfl (fun hb24 => ?_) (fun hb24 => ?_)
    · skip
      refine aw_iconst (pc' := 87) (x := -1) nd_M_read_86 rfl (by decide) ?_
      refine aw_ireturn nd_M_read_87 rfl rfl (Nat.le_of_ble_eq_true rfl) (Nat.le_of_ble_eq_true rfl) ?_
      first
        | exact hq2 j m hj rfl hb24 hb44 hmn rfl
        | exact hq1 j hj rfl (Or.inr (Or.inr (Or.inr hb69)))
        | exact hq1 j hj rfl (Or.inr (Or.inr (Or.inl hb48)))
        | exact hq1 j hj rfl (Or.inr (Or.inl hb44))
        | exact hq1 j hj rfl (Or.inl hb24)
        | exact hq0 (bi_f hb4)
    · skip
      refine aw_aload_n (pc' := 28) nd_M_read_27 rfl rfl rfl ?_
      refine aw_get (pc' := 31) nd_M_read_28 rfl nF_5_51 g_M_noted ?_
      refine aw_iload_n (pc' := 32) nd_M_read_31 rfl rfl ?_
      refine aw_callS (a := 0) (pc' := 35) (as := [_]) (st := [_]) nd_M_read_32 rfl nC_5_185 ⟨(Nat.le_of_ble_eq_true rfl), rfl, rfl⟩ (Nat.le_of_ble_eq_true rfl) (Nat.le_of_ble_eq_true rfl) (Nat.le_of_ble_eq_true rfl) ?_
      refine c_M_isCell ?_
      show nW _ _ _ _ _ 35 _ [_, _] _ _ _
      refine aw_if_eq (pc' := 38) (tg := 42) nd_M_read_35 (by decide) rfl (fun hx => absurd hx (by rw [ic_nI hj]; decide)) (fun _ => ?_)
      refine aw_iload_n (pc' := 39) nd_M_read_38 rfl rfl ?_
      refine aw_goto (pc' := 43) nd_M_read_39 (by decide) ?_
      refine aw_bald (pc' := 44) nd_M_read_43 rfl ga_Mnoted j rfl hj ?_
      refine aw_if_eq (pc' := 47) (tg := 86) nd_M_read_44 (by decide) rfl (fun hb44 => ?_) (fun hb44 => ?_)
      · skip
        refine aw_iconst (pc' := 87) (x := -1) nd_M_read_86 rfl (by decide) ?_
        refine aw_ireturn nd_M_read_87 rfl rfl (Nat.le_of_ble_eq_true rfl) (Nat.le_of_ble_eq_true rfl) ?_
        first
          | exact hq2 j m hj rfl hb24 hb44 hmn rfl
          | exact hq1 j hj rfl (Or.inr (Or.inr (Or.inr hb69)))
          | exact hq1 j hj rfl (Or.inr (Or.inr (Or.inl hb48)))
          | exact hq1 j hj rfl (Or.inr (Or.inl hb44))
          | exact hq1 j hj rfl (Or.inl hb24)
          | exact hq0 (bi_f hb4)
      · skip
        refine aw_iload_n (pc' := 48) nd_M_read_47 rfl rfl ?_
        refine aw_if_lt (pc' := 51) (tg := 86) nd_M_read_48 (by decide) rfl (fun hb48 => ?_) (fun hb48 => ?_)
        · skip
          refine aw_iconst (pc' := 87) (x := -1) nd_M_read_86 rfl (by decide) ?_
          refine aw_ireturn nd_M_read_87 rfl rfl (Nat.le_of_ble_eq_true rfl) (Nat.le_of_ble_eq_true rfl) ?_
          first
            | exact hq2 j m hj rfl hb24 hb44 hmn rfl
            | exact hq1 j hj rfl (Or.inr (Or.inr (Or.inr hb69)))
            | exact hq1 j hj rfl (Or.inr (Or.inr (Or.inl hb48)))
            | exact hq1 j hj rfl (Or.inr (Or.inl hb44))
            | exact hq1 j hj rfl (Or.inl hb24)
            | exact hq0 (bi_f hb4)
        · skip
          refine aw_iload_n (pc' := 52) nd_M_read_51 rfl rfl ?_
          refine aw_aload_n (pc' := 53) nd_M_read_52 rfl rfl rfl ?_
          refine aw_get (pc' := 56) nd_M_read_53 rfl nF_5_70 g_M_reads ?_
          refine aw_iload_n (pc' := 57) nd_M_read_56 rfl rfl ?_
          refine aw_callS (a := 0) (pc' := 60) (as := [_]) (st := [_, _]) nd_M_read_57 rfl nC_5_185 ⟨(Nat.le_of_ble_eq_true rfl), rfl, rfl⟩ (Nat.le_of_ble_eq_true rfl) (Nat.le_of_ble_eq_true rfl) (Nat.le_of_ble_eq_true rfl) ?_
          refine c_M_isCell ?_
          show nW _ _ _ _ _ 60 _ [_, _, _] _ _ _
          refine aw_if_eq (pc' := 63) (tg := 67) nd_M_read_60 (by decide) rfl (fun hx => absurd hx (by rw [ic_nI hj]; decide)) (fun _ => ?_)
          refine aw_iload_n (pc' := 64) nd_M_read_63 rfl rfl ?_
          refine aw_goto (pc' := 68) nd_M_read_64 (by decide) ?_
          refine aw_iald (pc' := 69) nd_M_read_68 rfl ga_Mreads j rfl hj ?_
          obtain ⟨hn1, hn2⟩ := hn j hj rfl hb24 hb44
          rw [hn1]
          refine aw_icmp_ge (pc' := 72) (tg := 86) nd_M_read_69 (by decide) rfl (fun hb69 => ?_) (fun hb69 => ?_)
          · skip
            refine aw_iconst (pc' := 87) (x := -1) nd_M_read_86 rfl (by decide) ?_
            refine aw_ireturn nd_M_read_87 rfl rfl (Nat.le_of_ble_eq_true rfl) (Nat.le_of_ble_eq_true rfl) ?_
            first
              | exact hq2 j m hj rfl hb24 hb44 hmn rfl
              | exact hq1 j hj rfl (Or.inr (Or.inr (Or.inr hb69)))
              | exact hq1 j hj rfl (Or.inr (Or.inr (Or.inl hb48)))
              | exact hq1 j hj rfl (Or.inr (Or.inl hb44))
              | exact hq1 j hj rfl (Or.inl hb24)
              | exact hq0 (bi_f hb4)
          · skip
            obtain ⟨m, hm, rfl⟩ := nI_of hb48
            have hmn : m < n := by
              rcases Nat.lt_or_ge m n with h | h
              · exact h
              · exact absurd (nI_le h hm) hb69
            refine aw_aload_n (pc' := 73) nd_M_read_72 rfl rfl rfl ?_
            refine aw_get (pc' := 76) nd_M_read_73 rfl nF_5_73 g_M_readCell ?_
            refine aw_bipush (pc' := 78) (x := 12) nd_M_read_76 rfl (by decide) ?_
            refine aw_iload_n (pc' := 79) nd_M_read_78 rfl rfl ?_
            refine aw_imul (pc' := 80) nd_M_read_79 rfl ?_
            refine aw_iload_n (pc' := 81) nd_M_read_80 rfl rfl ?_
            refine aw_iadd (pc' := 82) nd_M_read_81 rfl ?_
            refine aw_iald (pc' := 83) nd_M_read_82 rfl ga_MreadCell (12 * j + m) (nI_lin (c := 12) (by decide)) (by omega) ?_
            refine aw_goto (pc' := 87) nd_M_read_83 (by decide) ?_
            refine aw_ireturn nd_M_read_87 rfl rfl (Nat.le_of_ble_eq_true rfl) (Nat.le_of_ble_eq_true rfl) ?_
            first
              | exact hq2 j m hj rfl hb24 hb44 hmn rfl
              | exact hq1 j hj rfl (Or.inr (Or.inr (Or.inr hb69)))
              | exact hq1 j hj rfl (Or.inr (Or.inr (Or.inl hb48)))
              | exact hq1 j hj rfl (Or.inr (Or.inl hb44))
              | exact hq1 j hj rfl (Or.inl hb24)
              | exact hq0 (bi_f hb4)

