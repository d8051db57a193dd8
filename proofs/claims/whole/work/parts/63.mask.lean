/-! the model's ask -/
theorem run_B1 {L : Nat} {xs : Nat → Int32} {d : Nat} {Q : ax_Q} {cd : Nat → pC} {γ μ : nMem} {k : Nat} (hrl : REL γ μ) (hop : μ.1 104 27 = 0) (hk : k < 12) (hst : stM μ k = true) (hq : ∀ μ', REL ((bw cd 12).1 γ k) μ' → μ'.1 104 27 = 0 → LX 0 12 μ μ' → Q none (ns_rep μ')) : rA L xs d Q μ := by
  refine rA_end hop (hq μ ?_ hop LX.rfl)
  rw [bw_I cd 12 (by rcases (st_R hrl hk).mp hst with z | z; exact Or.inl z; exact Or.inr (Or.inr z))]
  exact hrl
theorem run_B0 {L : Nat} {xs : Nat → Int32} {d : Nat} {Q : ax_Q} {cd : Nat → pC} {γ μ : nMem} {k : Nat} (hwf : WF cd γ) (hms : MS cd μ) (hrl : REL γ μ) (hop : μ.1 104 27 = 0) (hk : k < 12) (h9 : γ.1 (nC k) 9 = 0) (hst : stM μ k = false) (hq : ∀ μ', REL ((bw cd 12).1 γ k) μ' → μ'.1 104 27 = 0 → LX 0 12 μ μ' → Q none (ns_rep μ')) : rA L xs d Q (saM μ 0 k 0) := by
  have hns : ¬ (γ.1 (nC k) 4 = 0 ∨ StB γ k) := fun z => by rw [(st_R hrl hk).mpr z] at hst; cases hst
  have h12 := fw_12 γ
  exact (S_all (cd := cd) mr_run 12).1 γ μ k 0 hwf hms hrl hop (by omega) h12 hk (fun z => hns (Or.inl z)) h9 (fun z => hns (Or.inr z)) (fun μ' h1 h2 h3 => rA_end h2 (hq μ' h1 h2 h3))
theorem run_W1 {L : Nat} {xs : Nat → Int32} {d : Nat} {Q : ax_Q} {cd : Nat → pC} {γ μ : nMem} {k : Nat} (hrl : REL γ μ) (hop : μ.1 104 27 = 0) (hk : k < 12) (h3 : ¬ μ.1 118 k = 0) (hq : ∀ μ', REL (if γ.1 (nN k) 3 = 0 then (bw cd 12).2 γ k else γ) μ' → μ'.1 104 27 = 0 → LX 0 12 μ μ' → Q none (ns_rep μ')) : rA L xs d Q μ := by
  rw [(hrl.c k hk).va] at h3
  rw [if_neg h3] at hq
  exact rA_end hop (hq μ hrl hop LX.rfl)
theorem run_W0 {L : Nat} {xs : Nat → Int32} {d : Nat} {Q : ax_Q} {cd : Nat → pC} {γ μ : nMem} {k : Nat} (hwf : WF cd γ) (hms : MS cd μ) (hrl : REL γ μ) (hop : μ.1 104 27 = 0) (hk : k < 12) (h4 : ¬ γ.1 (nC k) 4 = 0) (h9 : γ.1 (nC k) 9 = 0) (h3 : μ.1 118 k = 0) (hq : ∀ μ', REL (if γ.1 (nN k) 3 = 0 then (bw cd 12).2 γ k else γ) μ' → μ'.1 104 27 = 0 → LX 0 12 μ μ' → Q none (ns_rep μ')) : rA L xs d Q (saM μ 0 k 2) := by
  have h135 : μ.1 135 k = 0 := by rw [(hrl.c k hk).aw]; exact h9
  rw [(hrl.c k hk).va] at h3
  rw [if_pos h3] at hq
  have h12 := fw_12 γ
  have hfs := fw_set (x := 1) (by decide) h4 h9 12 (Nat.le_refl _)
  rw [if_pos hk] at hfs
  refine (S_all (cd := cd) mr_run 12).2 γ (saM μ 0 k 2) k 0 hwf (hms.keep (sa_X (f := 0) (k := k))) (hrl.start hk h9) ?_ ?_ ?_ (by omega) (by omega) hk h4 (fun μ' h1 h2 h3' => rA_end h2 (hq μ' h1 h2 ((sa_X.trans h3').toO h135)))
  · unfold saM; rw [ms_r, if_pos ⟨rfl, rfl⟩]
  · unfold saM; rw [ms_o (by decide), ms_o (by decide), ms_o (by decide), ms_r, if_pos ⟨rfl, rfl⟩]
  · unfold saM; rw [ms_o (by decide), ms_o (by decide), ms_r, if_pos ⟨rfl, rfl⟩]

theorem l_M_ask119 {L : Nat} {xs : Nat → Int32} {d : Nat} {Q : ax_Q} {γ μ : nMem} {k : Nat} {v : Int64} (hrl : REL γ μ) (kk : ∀ w, nW L xs d ns_I_M_ask Q 173 [some (.ref 104), some (.int (nI k)), some (.long v), none, some (.int (odI (od γ 12))), w] [] 0 0 (ns_rep μ)) : ∀ z i, z + i = 12 → nW L xs d ns_I_M_ask Q 119 [some (.ref 104), some (.int (nI k)), some (.long v), none, some (.int (odI (od γ i))), some (.int (nI i))] [] 0 0 (ns_rep μ) := by
  intro z
  induction z with
  | zero =>
    intro i hi
    obtain rfl : i = 12 := by omega
    refine aw_iload (pc' := 121) nd_M_ask_119 rfl rfl ?_
    refine aw_bipush (pc' := 123) (x := 12) nd_M_ask_121 rfl (by decide) ?_
    refine aw_icmp_ge (pc' := 126) (tg := 173) nd_M_ask_123 (by decide) rfl (fun _ => ?_) (fun hx => absurd (by decide) hx)
    exact kk _
  | succ z ih =>
    intro i hi
    have hi12 : i < 12 := by omega
    have e := ih (i + 1) (by omega)
    rw [od] at e
    by_cases h3 : γ.1 (nN i) 3 = 0
    · rw [if_pos h3] at e
      refine aw_iload (pc' := 121) nd_M_ask_119 rfl rfl ?_
      refine aw_bipush (pc' := 123) (x := 12) nd_M_ask_121 rfl (by decide) ?_
      refine aw_icmp_ge (pc' := 126) (tg := 173) nd_M_ask_123 (by decide) rfl (fun hx => absurd hx (nI_ge (b := 12) hi12 (by decide))) (fun _ => ?_)
      refine aw_aload_n (pc' := 127) nd_M_ask_126 rfl rfl rfl ?_
      refine aw_get (pc' := 130) nd_M_ask_127 rfl nF_5_54 g_M_valued ?_
      refine aw_iload (pc' := 132) nd_M_ask_130 rfl rfl ?_
      refine aw_bald (pc' := 133) nd_M_ask_132 rfl ga_Mvalued i rfl hi12 ?_
      refine aw_if_eq (pc' := 136) (tg := 163) nd_M_ask_133 (by decide) rfl (fun _ => ?_) (fun hx => absurd (by rw [(hrl.c i hi12).va]; exact h3) hx)
      refine aw_iload (pc' := 165) nd_M_ask_163 rfl rfl ?_
      refine aw_istore (pc' := 167) (ls' := [_, _, _, _, _, _]) nd_M_ask_165 rfl (Nat.le_of_ble_eq_true rfl) rfl ?_
      refine aw_iinc (pc' := 170) (ls' := [_, _, _, _, _, _]) nd_M_ask_167 rfl rfl (nI_1 i) rfl ?_
      refine aw_goto (pc' := 119) nd_M_ask_170 (by decide) ?_
      exact e
    · rw [if_neg h3] at e
      rcases eo : od γ i with _ | oo
      · rw [eo] at e
        show nW _ _ _ _ _ 119 [_, _, _, _, some (.int (-1)), _] _ _ _ _
        refine aw_iload (pc' := 121) nd_M_ask_119 rfl rfl ?_
        refine aw_bipush (pc' := 123) (x := 12) nd_M_ask_121 rfl (by decide) ?_
        refine aw_icmp_ge (pc' := 126) (tg := 173) nd_M_ask_123 (by decide) rfl (fun hx => absurd hx (nI_ge (b := 12) hi12 (by decide))) (fun _ => ?_)
        refine aw_aload_n (pc' := 127) nd_M_ask_126 rfl rfl rfl ?_
        refine aw_get (pc' := 130) nd_M_ask_127 rfl nF_5_54 g_M_valued ?_
        refine aw_iload (pc' := 132) nd_M_ask_130 rfl rfl ?_
        refine aw_bald (pc' := 133) nd_M_ask_132 rfl ga_Mvalued i rfl hi12 ?_
        refine aw_if_eq (pc' := 136) (tg := 163) nd_M_ask_133 (by decide) rfl (fun hx => absurd hx (show ¬ μ.1 118 i = 0 from fun z => h3 (by rw [← (hrl.c i hi12).va]; exact z))) (fun _ => ?_)
        refine aw_iload (pc' := 138) nd_M_ask_136 rfl rfl ?_
        refine aw_if_lt (pc' := 141) (tg := 158) nd_M_ask_138 (by decide) rfl (fun _ => ?_) (fun hx => absurd (by decide) hx)
        refine aw_iload (pc' := 160) nd_M_ask_158 rfl rfl ?_
        refine aw_goto (pc' := 165) nd_M_ask_160 (by decide) ?_
        refine aw_istore (pc' := 167) (ls' := [_, _, _, _, _, _]) nd_M_ask_165 rfl (Nat.le_of_ble_eq_true rfl) rfl ?_
        refine aw_iinc (pc' := 170) (ls' := [_, _, _, _, _, _]) nd_M_ask_167 rfl rfl (nI_1 i) rfl ?_
        refine aw_goto (pc' := 119) nd_M_ask_170 (by decide) ?_
        exact e
      · rw [eo] at e
        have hoo : oo < 12 := by have := (od_val i oo eo).1; omega
        show nW _ _ _ _ _ 119 [_, _, _, _, some (.int (nI oo)), _] _ _ _ _
        by_cases hle : γ.1 (nC oo) 10 ≤ γ.1 (nC i) 10
        · dsimp only at e
          rw [if_pos hle] at e
          refine aw_iload (pc' := 121) nd_M_ask_119 rfl rfl ?_
          refine aw_bipush (pc' := 123) (x := 12) nd_M_ask_121 rfl (by decide) ?_
          refine aw_icmp_ge (pc' := 126) (tg := 173) nd_M_ask_123 (by decide) rfl (fun hx => absurd hx (nI_ge (b := 12) hi12 (by decide))) (fun _ => ?_)
          refine aw_aload_n (pc' := 127) nd_M_ask_126 rfl rfl rfl ?_
          refine aw_get (pc' := 130) nd_M_ask_127 rfl nF_5_54 g_M_valued ?_
          refine aw_iload (pc' := 132) nd_M_ask_130 rfl rfl ?_
          refine aw_bald (pc' := 133) nd_M_ask_132 rfl ga_Mvalued i rfl hi12 ?_
          refine aw_if_eq (pc' := 136) (tg := 163) nd_M_ask_133 (by decide) rfl (fun hx => absurd hx (show ¬ μ.1 118 i = 0 from fun z => h3 (by rw [← (hrl.c i hi12).va]; exact z))) (fun _ => ?_)
          refine aw_iload (pc' := 138) nd_M_ask_136 rfl rfl ?_
          refine aw_if_lt (pc' := 141) (tg := 158) nd_M_ask_138 (by decide) rfl (fun hx => absurd hx (nI_pos (by omega))) (fun _ => ?_)
          refine aw_aload_n (pc' := 142) nd_M_ask_141 rfl rfl rfl ?_
          refine aw_get (pc' := 145) nd_M_ask_142 rfl nF_5_76 g_M_used ?_
          refine aw_iload (pc' := 147) nd_M_ask_145 rfl rfl ?_
          refine aw_iald (pc' := 148) nd_M_ask_147 rfl ga_Mused i rfl hi12 ?_
          refine aw_aload_n (pc' := 149) nd_M_ask_148 rfl rfl rfl ?_
          refine aw_get (pc' := 152) nd_M_ask_149 rfl nF_5_76 g_M_used ?_
          refine aw_iload (pc' := 154) nd_M_ask_152 rfl rfl ?_
          refine aw_iald (pc' := 155) nd_M_ask_154 rfl ga_Mused oo rfl hoo ?_
          refine aw_icmp_ge (pc' := 158) (tg := 163) nd_M_ask_155 (by decide) rfl (fun _ => ?_) (fun hx => absurd (by rw [(hrl.c i hi12).us, (hrl.c oo hoo).us]; exact hle) hx)
          refine aw_iload (pc' := 165) nd_M_ask_163 rfl rfl ?_
          refine aw_istore (pc' := 167) (ls' := [_, _, _, _, _, _]) nd_M_ask_165 rfl (Nat.le_of_ble_eq_true rfl) rfl ?_
          refine aw_iinc (pc' := 170) (ls' := [_, _, _, _, _, _]) nd_M_ask_167 rfl rfl (nI_1 i) rfl ?_
          refine aw_goto (pc' := 119) nd_M_ask_170 (by decide) ?_
          exact e
        · dsimp only at e
          rw [if_neg hle] at e
          refine aw_iload (pc' := 121) nd_M_ask_119 rfl rfl ?_
          refine aw_bipush (pc' := 123) (x := 12) nd_M_ask_121 rfl (by decide) ?_
          refine aw_icmp_ge (pc' := 126) (tg := 173) nd_M_ask_123 (by decide) rfl (fun hx => absurd hx (nI_ge (b := 12) hi12 (by decide))) (fun _ => ?_)
          refine aw_aload_n (pc' := 127) nd_M_ask_126 rfl rfl rfl ?_
          refine aw_get (pc' := 130) nd_M_ask_127 rfl nF_5_54 g_M_valued ?_
          refine aw_iload (pc' := 132) nd_M_ask_130 rfl rfl ?_
          refine aw_bald (pc' := 133) nd_M_ask_132 rfl ga_Mvalued i rfl hi12 ?_
          refine aw_if_eq (pc' := 136) (tg := 163) nd_M_ask_133 (by decide) rfl (fun hx => absurd hx (show ¬ μ.1 118 i = 0 from fun z => h3 (by rw [← (hrl.c i hi12).va]; exact z))) (fun _ => ?_)
          refine aw_iload (pc' := 138) nd_M_ask_136 rfl rfl ?_
          refine aw_if_lt (pc' := 141) (tg := 158) nd_M_ask_138 (by decide) rfl (fun hx => absurd hx (nI_pos (by omega))) (fun _ => ?_)
          refine aw_aload_n (pc' := 142) nd_M_ask_141 rfl rfl rfl ?_
          refine aw_get (pc' := 145) nd_M_ask_142 rfl nF_5_76 g_M_used ?_
          refine aw_iload (pc' := 147) nd_M_ask_145 rfl rfl ?_
          refine aw_iald (pc' := 148) nd_M_ask_147 rfl ga_Mused i rfl hi12 ?_
          refine aw_aload_n (pc' := 149) nd_M_ask_148 rfl rfl rfl ?_
          refine aw_get (pc' := 152) nd_M_ask_149 rfl nF_5_76 g_M_used ?_
          refine aw_iload (pc' := 154) nd_M_ask_152 rfl rfl ?_
          refine aw_iald (pc' := 155) nd_M_ask_154 rfl ga_Mused oo rfl hoo ?_
          refine aw_icmp_ge (pc' := 158) (tg := 163) nd_M_ask_155 (by decide) rfl (fun hx => absurd hx (by rw [(hrl.c i hi12).us, (hrl.c oo hoo).us]; exact hle)) (fun _ => ?_)
          refine aw_iload (pc' := 160) nd_M_ask_158 rfl rfl ?_
          refine aw_goto (pc' := 165) nd_M_ask_160 (by decide) ?_
          refine aw_istore (pc' := 167) (ls' := [_, _, _, _, _, _]) nd_M_ask_165 rfl (Nat.le_of_ble_eq_true rfl) rfl ?_
          refine aw_iinc (pc' := 170) (ls' := [_, _, _, _, _, _]) nd_M_ask_167 rfl rfl (nI_1 i) rfl ?_
          refine aw_goto (pc' := 119) nd_M_ask_170 (by decide) ?_
          exact e

theorem dl_some {γ : nMem} {o : Nat} (h : od γ 12 = some o) : dl γ = ms γ (nN o) 3 0 := by unfold dl; rw [h]

theorem l_M_ask102 {L : Nat} {xs : Nat → Int32} {d : Nat} {Q : ax_Q} {k kp : Nat} {v : Int64} (hkp : kp ≤ 12) : ∀ (z : Nat) (γ μ : nMem) (w4 w5 : Option Value), vcn γ 12 - kp = z → REL γ μ → μ.1 104 0 = nI kp → (∀ μ', REL (dk z γ) μ' → LX 0 12 μ μ' → Q (some (.long v)) (ns_rep μ')) → nW L xs (d + 1) ns_I_M_ask Q 102 [some (.ref 104), some (.int (nI k)), some (.long v), none, w4, w5] [] 0 0 (ns_rep μ) := by
  intro z
  induction z with
  | zero =>
    intro γ μ w4 w5 hz hrl hm hq
    have hv := vcn_eq hrl 12 (Nat.le_refl _)
    have hv12 : vcn γ 12 ≤ 12 := vcn_le γ 12
    refine aw_aload_n (pc' := 103) nd_M_ask_102 rfl rfl rfl ?_
    refine aw_callV (pc' := 106) (as := []) (st := []) nd_M_ask_103 rfl nC_5_253 ⟨(Nat.le_of_ble_eq_true rfl), rfl, rfl⟩ ns_ioM (Nat.le_of_ble_eq_true rfl) (Nat.le_of_ble_eq_true rfl) (Nat.le_of_ble_eq_true rfl) ?_
    refine c_M_values ?_
    show nW _ _ _ _ _ 106 _ [_] _ _ _
    refine aw_aload_n (pc' := 107) nd_M_ask_106 rfl rfl rfl ?_
    refine aw_get (pc' := 110) nd_M_ask_107 rfl nF_5_124 g_M_most ?_
    rw [hm, hv]
    refine aw_icmp_le (pc' := 113) (tg := 184) nd_M_ask_110 (by decide) rfl (fun _ => ?_) (fun hx => absurd (nI_le (by omega) (by omega)) hx)
    refine aw_lload_n (pc' := 185) nd_M_ask_184 rfl rfl ?_
    refine aw_lreturn nd_M_ask_185 rfl (Nat.le_of_ble_eq_true rfl) (Nat.le_of_ble_eq_true rfl) ?_
    exact hq μ hrl LX.rfl
  | succ z ih =>
    intro γ μ w4 w5 hz hrl hm hq
    have hv := vcn_eq hrl 12 (Nat.le_refl _)
    have hv12 : vcn γ 12 ≤ 12 := vcn_le γ 12
    obtain ⟨oo, ho⟩ : ∃ oo, od γ 12 = some oo := by
      rcases e : od γ 12 with _ | oo
      · have := od_none 12 e; omega
      · exact ⟨oo, rfl⟩
    have hoo := od_val 12 oo ho
    have hd := vcn_drop hoo.2 12
    rw [if_pos hoo.1] at hd
    have hdl : dl γ = ms γ (nN oo) 3 0 := dl_some ho
    refine aw_aload_n (pc' := 103) nd_M_ask_102 rfl rfl rfl ?_
    refine aw_callV (pc' := 106) (as := []) (st := []) nd_M_ask_103 rfl nC_5_253 ⟨(Nat.le_of_ble_eq_true rfl), rfl, rfl⟩ ns_ioM (Nat.le_of_ble_eq_true rfl) (Nat.le_of_ble_eq_true rfl) (Nat.le_of_ble_eq_true rfl) ?_
    refine c_M_values ?_
    show nW _ _ _ _ _ 106 _ [_] _ _ _
    refine aw_aload_n (pc' := 107) nd_M_ask_106 rfl rfl rfl ?_
    refine aw_get (pc' := 110) nd_M_ask_107 rfl nF_5_124 g_M_most ?_
    rw [hm, hv]
    refine aw_icmp_le (pc' := 113) (tg := 184) nd_M_ask_110 (by decide) rfl (fun hx => absurd hx (nI_ge (by omega) (by omega))) (fun _ => ?_)
    refine aw_iconst (pc' := 114) (x := -1) nd_M_ask_113 rfl (by decide) ?_
    refine aw_istore (pc' := 116) (ls' := [_, _, _, _, _, _]) nd_M_ask_114 rfl (Nat.le_of_ble_eq_true rfl) rfl ?_
    refine aw_iconst (pc' := 117) (x := 0) nd_M_ask_116 rfl (by decide) ?_
    refine aw_istore (pc' := 119) (ls' := [_, _, _, _, _, _]) nd_M_ask_117 rfl (Nat.le_of_ble_eq_true rfl) rfl ?_
    refine l_M_ask119 hrl (fun w => ?_) 12 0 (by omega)
    have hod : odI (od γ 12) = nI oo := by rw [ho]; rfl
    rw [hod]
    refine aw_aload_n (pc' := 174) nd_M_ask_173 rfl rfl rfl ?_
    refine aw_get (pc' := 177) nd_M_ask_174 rfl nF_5_54 g_M_valued ?_
    refine aw_iload (pc' := 179) nd_M_ask_177 rfl rfl ?_
    refine aw_iconst (pc' := 180) (x := 0) nd_M_ask_179 rfl (by decide) ?_
    refine aw_bast (pc' := 181) nd_M_ask_180 rfl nz0 oo rfl hoo.1 pa_Mvalued ?_
    refine aw_goto (pc' := 102) nd_M_ask_181 (by decide) ?_
    refine ih (ms γ (nN oo) 3 0) _ _ _ (by omega) hrl.drop (by rw [ms_o (by decide)]; exact hm) (fun μ' h1 h2 => hq μ' ?_ ((LX.st (by omega)).trans h2))
    rw [dk, hdl]
    exact h1

theorem l_M_ask13 {L : Nat} {xs : Nat → Int32} {d : Nat} {Q : ax_Q} {μ : nMem} {k : Nat} (kk : nW L xs d ns_I_M_ask Q 31 [some (.ref 104), some (.int (nI k)), some (.int (nI 3)), none, none, none] [] 0 0 (ns_rep (lzM 3 μ))) : ∀ z i, z + i = 3 → nW L xs d ns_I_M_ask Q 13 [some (.ref 104), some (.int (nI k)), some (.int (nI i)), none, none, none] [] 0 0 (ns_rep (lzM i μ)) := by
  intro z
  induction z with
  | zero =>
    intro i hi
    obtain rfl : i = 3 := by omega
    refine aw_iload_n (pc' := 14) nd_M_ask_13 rfl rfl ?_
    refine aw_iconst (pc' := 15) (x := 3) nd_M_ask_14 rfl (by decide) ?_
    refine aw_icmp_ge (pc' := 18) (tg := 31) nd_M_ask_15 (by decide) rfl (fun _ => ?_) (fun hx => absurd (by decide) hx)
    exact kk
  | succ z ih =>
    intro i hi
    refine aw_iload_n (pc' := 14) nd_M_ask_13 rfl rfl ?_
    refine aw_iconst (pc' := 15) (x := 3) nd_M_ask_14 rfl (by decide) ?_
    refine aw_icmp_ge (pc' := 18) (tg := 31) nd_M_ask_15 (by decide) rfl (fun hx => absurd hx (nI_ge (b := 3) (by omega) (by decide))) (fun _ => ?_)
    refine aw_aload_n (pc' := 19) nd_M_ask_18 rfl rfl rfl ?_
    refine aw_get (pc' := 22) nd_M_ask_19 rfl nF_5_82 g_M_lately ?_
    refine aw_iload_n (pc' := 23) nd_M_ask_22 rfl rfl ?_
    refine aw_iconst (pc' := 24) (x := 0) nd_M_ask_23 rfl (by decide) ?_
    refine aw_iast (pc' := 25) nd_M_ask_24 rfl rfl i rfl (by omega) pa_Mlately ?_
    refine aw_iinc (pc' := 28) (ls' := [_, _, _, _, _, _]) nd_M_ask_25 rfl rfl (nI_1 i) rfl ?_
    refine aw_goto (pc' := 13) nd_M_ask_28 (by decide) ?_
    exact ih (i + 1) (by omega)

theorem vcn_lz {γ : nMem} {i : Nat} : ∀ j, vcn (lz i γ) j = vcn γ j := by
  intro j
  induction j with
  | zero => rfl
  | succ j ih => rw [vcn, vcn, ih, lz_o (by unfold nN; omega)]

theorem l_M_ask90 {L : Nat} {xs : Nat → Int32} {d : Nat} {Q : ax_Q} {γ μ : nMem} {k kp : Nat} (hkp : kp ≤ 12) (hm : μ.1 104 0 = nI kp) (hrl : REL γ μ) (hk : k < 12) (h3 : ¬ γ.1 (nN k) 3 = 0) (hq : ∀ μ', REL (dk (vcn (mU γ k) 12 - kp) (mU γ k)) μ' → LX 0 12 μ μ' → Q (some (.long (γ.2 (nN k) 4))) (ns_rep μ')) : nW L xs (d + 2) ns_I_M_ask Q 90 [some (.ref 104), some (.int (nI k)), some (.int (nI 3)), none, none, none] [] 0 0 (ns_rep μ) := by
  refine aw_aload_n (pc' := 91) nd_M_ask_90 rfl rfl rfl ?_
  refine aw_iload_n (pc' := 92) nd_M_ask_91 rfl rfl ?_
  refine aw_callV (pc' := 95) (as := [_]) (st := []) nd_M_ask_92 rfl nC_5_228 ⟨(Nat.le_of_ble_eq_true rfl), rfl, rfl⟩ ns_ioM (Nat.le_of_ble_eq_true rfl) (Nat.le_of_ble_eq_true rfl) (Nat.le_of_ble_eq_true rfl) ?_
  refine c_M_use hk ?_
  change nW _ _ _ _ _ _ _ _ _ _ (ns_rep (usM μ k))
  show nW _ _ _ _ _ 95 _ [] _ _ _
  refine aw_aload_n (pc' := 96) nd_M_ask_95 rfl rfl rfl ?_
  refine aw_get (pc' := 99) nd_M_ask_96 rfl nF_5_57 g_M_value ?_
  refine aw_iload_n (pc' := 100) nd_M_ask_99 rfl rfl ?_
  refine aw_lald (pc' := 101) nd_M_ask_100 rfl ga_Mvalue k rfl hk ?_
  rw [show (usM μ k).2 119 k = γ.2 (nN k) 4 from ((hrl.c k hk).vl h3).1]
  refine aw_lstore_n (pc' := 102) (ls' := [_, _, _, _, _, _]) nd_M_ask_101 rfl (Nat.le_of_ble_eq_true rfl) rfl ?_
  exact l_M_ask102 hkp _ (mU γ k) (usM μ k) _ _ rfl (hrl.use hk) (by unfold usM; rw [ms_o (by decide), ms_r, if_neg (by omega)]; exact hm) (fun μ' h1 h2 => hq μ' h1 (us_X.trans h2))

theorem l_M_ask71 {L : Nat} {xs : Nat → Int32} {d : Nat} {Q : ax_Q} {cd : Nat → pC} {γ μ : nMem} {k kp : Nat} (hms : MS cd μ) (hkp : kp ≤ 12) (hm : μ.1 104 0 = nI kp) (hwf : WF cd γ) (h9 : ∀ j, j < 12 → γ.1 (nC j) 9 = 0) (hk : k < 12) (h4 : ¬ γ.1 (nC k) 4 = 0) (hrl : REL ((bw cd 12).1 γ k) μ) (hop : μ.1 104 27 = 0) (hq : ∀ μ', REL (dk (vcn (uF (bw cd 12).1 (bw cd 12).2 γ k).2 12 - kp) (uF (bw cd 12).1 (bw cd 12).2 γ k).2) μ' → LX 0 12 μ μ' → Q (some (.long (uF (bw cd 12).1 (bw cd 12).2 γ k).1)) (ns_rep μ')) : nW L xs (d + 6) ns_I_M_ask Q 71 [some (.ref 104), some (.int (nI k)), some (.int (nI 3)), none, none, none] [] 0 0 (ns_rep μ) := by
  have hPB := (bw_P cd 12).1 γ k hwf hk (fw_12 γ)
  have h4' : ¬ ((bw cd 12).1 γ k).1 (nC k) 4 = 0 := by rw [(hPB.2 k hk).1]; exact h4
  have h9' : ((bw cd 12).1 γ k).1 (nC k) 9 = 0 := by rw [(hPB.2 k hk).2]; exact h9 k hk
  have hfs := fw_set (x := 1) (by decide) h4' h9' 12 (Nat.le_refl _)
  rw [if_pos hk] at hfs
  have h12 := fw_12 ((bw cd 12).1 γ k)
  have hv3 : ¬ (if ((bw cd 12).1 γ k).1 (nN k) 3 = 0 then (bw cd 12).2 ((bw cd 12).1 γ k) k else (bw cd 12).1 γ k).1 (nN k) 3 = 0 := by
    split
    · exact ((bw_S cd 12).2 ((bw cd 12).1 γ k) k (by omega)).2
    · assumption
  have hask : (uF (bw cd 12).1 (bw cd 12).2 γ k).2 = mU (if ((bw cd 12).1 γ k).1 (nN k) 3 = 0 then (bw cd 12).2 ((bw cd 12).1 γ k) k else (bw cd 12).1 γ k) k := by
    unfold uF; rw [if_neg h4]
  have hval : (uF (bw cd 12).1 (bw cd 12).2 γ k).1 = (if ((bw cd 12).1 γ k).1 (nN k) 3 = 0 then (bw cd 12).2 ((bw cd 12).1 γ k) k else (bw cd 12).1 γ k).2 (nN k) 4 := by
    unfold uF; rw [if_neg h4]; rfl
  rw [hval] at hq
  refine aw_aload_n (pc' := 72) nd_M_ask_71 rfl rfl rfl ?_
  refine aw_get (pc' := 75) nd_M_ask_72 rfl nF_5_54 g_M_valued ?_
  refine aw_iload_n (pc' := 76) nd_M_ask_75 rfl rfl ?_
  refine aw_bald (pc' := 77) nd_M_ask_76 rfl ga_Mvalued k rfl hk ?_
  refine aw_if_ne (pc' := 80) (tg := 86) nd_M_ask_77 (by decide) rfl (fun hb77 => ?_) (fun hb77 => ?_)
  · skip
    refine aw_aload_n (pc' := 87) nd_M_ask_86 rfl rfl rfl ?_
    refine aw_callV (pc' := 90) (as := []) (st := []) nd_M_ask_87 rfl nC_5_250 ⟨(Nat.le_of_ble_eq_true rfl), rfl, rfl⟩ ns_ioM (Nat.le_of_ble_eq_true rfl) (Nat.le_of_ble_eq_true rfl) (Nat.le_of_ble_eq_true rfl) ?_
    refine c_M_runAll ?_
    refine run_W1 (cd := cd) hrl hop hk hb77 (fun μ' p1 p2 p3 => ?_)
    show nW _ _ _ _ _ 90 _ [] _ _ _
    refine l_M_ask90 hkp (by rw [p3.2.1 0 (by decide) (by decide)]; exact hm) p1 hk hv3 (fun μ2 q1 q2 => hq μ2 ?_ (p3.trans q2))
    rw [hask]
    exact q1
  · skip
    refine aw_aload_n (pc' := 81) nd_M_ask_80 rfl rfl rfl ?_
    refine aw_iload_n (pc' := 82) nd_M_ask_81 rfl rfl ?_
    refine aw_iconst (pc' := 83) (x := 2) nd_M_ask_82 rfl (by decide) ?_
    refine aw_callV (pc' := 86) (as := [_, _]) (st := []) nd_M_ask_83 rfl nC_5_222 ⟨(Nat.le_of_ble_eq_true rfl), rfl, rfl⟩ ns_ioM (Nat.le_of_ble_eq_true rfl) (Nat.le_of_ble_eq_true rfl) (Nat.le_of_ble_eq_true rfl) ?_
    refine c_M_start (n := 0) hop (by decide) hk ?_
    show nW _ _ _ _ _ 86 _ [] _ _ _
    refine aw_aload_n (pc' := 87) nd_M_ask_86 rfl rfl rfl ?_
    refine aw_callV (pc' := 90) (as := []) (st := []) nd_M_ask_87 rfl nC_5_250 ⟨(Nat.le_of_ble_eq_true rfl), rfl, rfl⟩ ns_ioM (Nat.le_of_ble_eq_true rfl) (Nat.le_of_ble_eq_true rfl) (Nat.le_of_ble_eq_true rfl) ?_
    refine c_M_runAll ?_
    refine run_W0 (cd := cd) hPB.1 hms hrl hop hk h4' h9' hb77 (fun μ' p1 p2 p3 => ?_)
    show nW _ _ _ _ _ 90 _ [] _ _ _
    refine l_M_ask90 hkp (by rw [p3.2.1 0 (by decide) (by decide)]; exact hm) p1 hk hv3 (fun μ2 q1 q2 => hq μ2 ?_ (p3.trans q2))
    rw [hask]
    exact q1

theorem c_M_ask {L : Nat} {xs : Nat → Int32} {d : Nat} {Q : ax_Q} {cd : Nat → pC} {γ μ : nMem} {x : Int32} {kp : Nat} (hwf : WF cd γ) (hms : MS cd μ) (hrl : REL γ μ) (h9 : ∀ j, j < 12 → γ.1 (nC j) 9 = 0) (hkp : kp ≤ 12) (hm : μ.1 104 0 = nI kp) (hvk : vcn γ 12 ≤ kp) (hq0 : ic x = false → Q (some (.long (-1))) (ns_rep μ)) (hq : ∀ k, k < 12 → x = nI k → ∀ μ', REL (askF cd kp γ k).2 μ' → LX 0 12 μ μ' → Q (some (.long (askF cd kp γ k).1)) (ns_rep μ')) : nM L xs (d + 7) 67 [.ref 104, .int x] (ns_rep μ) Q := by
  refine nM.of ns_I_M_ask rfl (ls := [_, _, _, _, _, _]) (Nat.le_of_ble_eq_true rfl) rfl ?_
  refine aw_iload_n (pc' := 1) nd_M_ask_0 rfl rfl ?_
  refine aw_callS (a := 0) (pc' := 4) (as := [_]) (st := []) nd_M_ask_1 rfl nC_5_185 ⟨(Nat.le_of_ble_eq_true rfl), rfl, rfl⟩ (Nat.le_of_ble_eq_true rfl) (Nat.le_of_ble_eq_true rfl) (Nat.le_of_ble_eq_true rfl) ?_
  refine c_M_isCell ?_
  show nW _ _ _ _ _ 4 _ [_] _ _ _
  refine aw_if_ne (pc' := 7) (tg := 11) nd_M_ask_4 (by decide) rfl (fun hb4 => ?_) (fun hb4 => ?_)
  · skip
    obtain ⟨k, hk, rfl⟩ := ic_t (bi_t hb4)
    have h90 : ∀ j, j < 12 → (lz 3 γ).1 (nC j) 9 = 0 := fun j hj => by rw [lz_o (by unfold nC; omega)]; exact h9 j hj
    have hwf0 : WF cd (lz 3 γ) := hwf.cong lz_E
    have hrl0 : REL (lz 3 γ) (lzM 3 μ) := hrl.lzz
    refine aw_iconst (pc' := 12) (x := 0) nd_M_ask_11 rfl (by decide) ?_
    refine aw_istore_n (pc' := 13) (ls' := [_, _, _, _, _, _]) nd_M_ask_12 rfl (Nat.le_of_ble_eq_true rfl) rfl ?_
    refine l_M_ask13 ?_ 3 0 (by omega)
    refine aw_aload_n (pc' := 32) nd_M_ask_31 rfl rfl rfl ?_
    refine aw_get (pc' := 35) nd_M_ask_32 rfl nF_5_20 g_M_formula ?_
    refine aw_iload_n (pc' := 36) nd_M_ask_35 rfl rfl ?_
    refine aw_bald (pc' := 37) nd_M_ask_36 rfl ga_Mformula k rfl hk ?_
    refine aw_if_ne (pc' := 40) (tg := 48) nd_M_ask_37 (by decide) rfl (fun hb37 => ?_) (fun hb37 => ?_)
    · skip
      have h4 : ¬ (lz 3 γ).1 (nC k) 4 = 0 := by rw [← (hrl0.c k hk).fm]; exact hb37
      have hrl2 : REL (lz 3 γ) (ms (lzM 3 μ) 104 27 0) := hrl0.fs (by omega)
      refine aw_aload_n (pc' := 49) nd_M_ask_48 rfl rfl rfl ?_
      refine aw_iconst (pc' := 50) (x := 0) nd_M_ask_49 rfl (by decide) ?_
      refine aw_put (pc' := 53) nd_M_ask_50 rfl nF_5_191 trivial p_M_opened ?_
      refine aw_aload_n (pc' := 54) nd_M_ask_53 rfl rfl rfl ?_
      refine aw_iload_n (pc' := 55) nd_M_ask_54 rfl rfl ?_
      refine aw_callV (pc' := 58) (as := [_]) (st := []) nd_M_ask_55 rfl nC_5_219 ⟨(Nat.le_of_ble_eq_true rfl), rfl, rfl⟩ ns_ioM (Nat.le_of_ble_eq_true rfl) (Nat.le_of_ble_eq_true rfl) (Nat.le_of_ble_eq_true rfl) ?_
      refine c_M_settled hk ?_
      show nW _ _ _ _ _ 58 _ [_] _ _ _
      refine aw_if_ne (pc' := 61) (tg := 67) nd_M_ask_58 (by decide) rfl (fun hb58 => ?_) (fun hb58 => ?_)
      · skip
        refine aw_aload_n (pc' := 68) nd_M_ask_67 rfl rfl rfl ?_
        refine aw_callV (pc' := 71) (as := []) (st := []) nd_M_ask_68 rfl nC_5_250 ⟨(Nat.le_of_ble_eq_true rfl), rfl, rfl⟩ ns_ioM (Nat.le_of_ble_eq_true rfl) (Nat.le_of_ble_eq_true rfl) (Nat.le_of_ble_eq_true rfl) ?_
        refine c_M_runAll ?_
        refine run_B1 (cd := cd) hrl2 (by rw [ms_r, if_pos ⟨rfl, rfl⟩]) hk (bi_t hb58) (fun μ' h1 h2 h3 => ?_)
        show nW _ _ _ _ _ 71 _ [] _ _ _
        exact l_M_ask71 (hms.keep (((lzM_X (f := 0) (k := 12)).trans (LX.st (by omega))).trans h3)) hkp (by rw [h3.2.1 0 (by decide) (by decide), ms_r, if_neg (by omega), lzM_o (by decide)]; exact hm) hwf0 h90 hk h4 h1 h2 (fun μ2 p1 p2 => hq k hk rfl μ2 p1 (((lzM_X (f := 0) (k := 12)).trans (LX.st (by omega))).trans (h3.trans p2)))
      · skip
        refine aw_aload_n (pc' := 62) nd_M_ask_61 rfl rfl rfl ?_
        refine aw_iload_n (pc' := 63) nd_M_ask_62 rfl rfl ?_
        refine aw_iconst (pc' := 64) (x := 0) nd_M_ask_63 rfl (by decide) ?_
        refine aw_callV (pc' := 67) (as := [_, _]) (st := []) nd_M_ask_64 rfl nC_5_222 ⟨(Nat.le_of_ble_eq_true rfl), rfl, rfl⟩ ns_ioM (Nat.le_of_ble_eq_true rfl) (Nat.le_of_ble_eq_true rfl) (Nat.le_of_ble_eq_true rfl) ?_
        refine c_M_start (n := 0) (by rw [ms_r, if_pos ⟨rfl, rfl⟩]; rfl) (by decide) hk ?_
        show nW _ _ _ _ _ 67 _ [] _ _ _
        refine aw_aload_n (pc' := 68) nd_M_ask_67 rfl rfl rfl ?_
        refine aw_callV (pc' := 71) (as := []) (st := []) nd_M_ask_68 rfl nC_5_250 ⟨(Nat.le_of_ble_eq_true rfl), rfl, rfl⟩ ns_ioM (Nat.le_of_ble_eq_true rfl) (Nat.le_of_ble_eq_true rfl) (Nat.le_of_ble_eq_true rfl) ?_
        refine c_M_runAll ?_
        refine run_B0 (cd := cd) hwf0 (hms.keep ((lzM_X (f := 0) (k := 12)).trans (LX.st (by omega)))) hrl2 (by rw [ms_r, if_pos ⟨rfl, rfl⟩]) hk (h90 k hk) (bi_f hb58) (fun μ' h1 h2 h3 => ?_)
        show nW _ _ _ _ _ 71 _ [] _ _ _
        exact l_M_ask71 (hms.keep (((lzM_X (f := 0) (k := 12)).trans (LX.st (by omega))).trans h3)) hkp (by rw [h3.2.1 0 (by decide) (by decide), ms_r, if_neg (by omega), lzM_o (by decide)]; exact hm) hwf0 h90 hk h4 h1 h2 (fun μ2 p1 p2 => hq k hk rfl μ2 p1 (((lzM_X (f := 0) (k := 12)).trans (LX.st (by omega))).trans (h3.trans p2)))
    · skip
      refine aw_aload_n (pc' := 41) nd_M_ask_40 rfl rfl rfl ?_
      refine aw_get (pc' := 44) nd_M_ask_41 rfl nF_5_42 g_M_number ?_
      refine aw_iload_n (pc' := 45) nd_M_ask_44 rfl rfl ?_
      refine aw_iald (pc' := 46) nd_M_ask_45 rfl ga_Mnumber k rfl hk ?_
      refine aw_i2l (pc' := 47) nd_M_ask_46 rfl ?_
      refine aw_lreturn nd_M_ask_47 rfl (Nat.le_of_ble_eq_true rfl) (Nat.le_of_ble_eq_true rfl) ?_
      have h4 : (lz 3 γ).1 (nC k) 4 = 0 := by rw [← (hrl0.c k hk).fm]; exact hb37
      have hv0 : vcn (lz 3 γ) 12 - kp = 0 := by rw [vcn_lz]; omega
      have e : askF cd kp γ k = (((lz 3 γ).1 (nC k) 6).toInt64, lz 3 γ) := by
        unfold askF uF
        rw [if_pos h4]
        dsimp only
        rw [hv0, dk]
      have hh := hq k hk rfl (lzM 3 μ) (by rw [e]; exact hrl0) lzM_X
      rw [e, ← (hrl0.c k hk).nu] at hh
      exact hh
  · skip
    refine aw_ldc2 (pc' := 10) nd_M_ask_7 rfl nK_5_248 ?_
    refine aw_lreturn nd_M_ask_10 rfl (Nat.le_of_ble_eq_true rfl) (Nat.le_of_ble_eq_true rfl) ?_
    exact hq0 (bi_f hb4)

