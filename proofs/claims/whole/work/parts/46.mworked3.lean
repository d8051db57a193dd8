/-! the model's asking: worked, whole -/
theorem l_M_worked103 {L : Nat} {xs : Nat → Int32} {d : Nat} {Q : ax_Q} {m : nMem} {f k : Nat} {v : Int64} {le : Int32} {w6 w7 : Option Value} (hf : f < 12) (hk : k < 12) (ho : m.1 104 27 = nI (f + 1)) (hp : m.1 128 f = nI k) (hq : Q none (ns_rep (fiM (usM (wkN m f k (if syM m k v = true then m.1 121 k else m.1 104 3) v le) k) f k))) : nW L xs (d + 1) ns_I_M_worked Q 103 [some (.ref 104), some (.int (nI f)), some (.int (nI k)), some (.long v), none, some (.int le), w6, w7] [] 0 0 (ns_rep m) := by
  refine aw_aload_n (pc' := 104) nd_M_worked_103 rfl rfl rfl ?_
  refine aw_get (pc' := 107) nd_M_worked_104 rfl nF_5_51 g_M_noted ?_
  refine aw_iload_n (pc' := 108) nd_M_worked_107 rfl rfl ?_
  refine aw_bald (pc' := 109) nd_M_worked_108 rfl ga_Mnoted k rfl hk ?_
  refine aw_if_eq (pc' := 112) (tg := 149) nd_M_worked_109 (by decide) rfl (fun hb109 => ?_) (fun hb109 => ?_)
  · skip
    refine aw_iconst (pc' := 150) (x := 0) nd_M_worked_149 rfl (by decide) ?_
    have e : syM m k v = false := by
      unfold syM
      rw [if_pos hb109]
    rw [e] at hq
    exact l_M_worked150 hf hk ho hp false hq
  · skip
    refine aw_aload_n (pc' := 113) nd_M_worked_112 rfl rfl rfl ?_
    refine aw_get (pc' := 116) nd_M_worked_113 rfl nF_5_54 g_M_valued ?_
    refine aw_iload_n (pc' := 117) nd_M_worked_116 rfl rfl ?_
    refine aw_bald (pc' := 118) nd_M_worked_117 rfl ga_Mvalued k rfl hk ?_
    refine aw_if_eq (pc' := 121) (tg := 132) nd_M_worked_118 (by decide) rfl (fun hb118 => ?_) (fun hb118 => ?_)
    · skip
      refine aw_aload_n (pc' := 133) nd_M_worked_132 rfl rfl rfl ?_
      refine aw_get (pc' := 136) nd_M_worked_133 rfl nF_5_61 g_M_verified ?_
      refine aw_iload_n (pc' := 137) nd_M_worked_136 rfl rfl ?_
      refine aw_iald (pc' := 138) nd_M_worked_137 rfl ga_Mverified k rfl hk ?_
      refine aw_aload_n (pc' := 139) nd_M_worked_138 rfl rfl rfl ?_
      refine aw_get (pc' := 142) nd_M_worked_139 rfl nF_5_13 g_M_revision ?_
      refine aw_icmp_ne (pc' := 145) (tg := 149) nd_M_worked_142 (by decide) rfl (fun hb142 => ?_) (fun hb142 => ?_)
      · skip
        refine aw_iconst (pc' := 150) (x := 0) nd_M_worked_149 rfl (by decide) ?_
        have e : syM m k v = false := by
          unfold syM
          rw [if_neg hb109, if_neg (fun z => z.1 hb118), if_neg hb142]
        rw [e] at hq
        exact l_M_worked150 hf hk ho hp false hq
      · skip
        refine aw_iconst (pc' := 146) (x := 1) nd_M_worked_145 rfl (by decide) ?_
        refine aw_goto (pc' := 150) nd_M_worked_146 (by decide) ?_
        have e : syM m k v = true := by
          unfold syM
          rw [if_neg hb109, if_neg (fun z => z.1 hb118), if_pos hb142]
        rw [e] at hq
        exact l_M_worked150 hf hk ho hp true hq
    · skip
      refine aw_aload_n (pc' := 122) nd_M_worked_121 rfl rfl rfl ?_
      refine aw_get (pc' := 125) nd_M_worked_122 rfl nF_5_57 g_M_value ?_
      refine aw_iload_n (pc' := 126) nd_M_worked_125 rfl rfl ?_
      refine aw_lald (pc' := 127) nd_M_worked_126 rfl ga_Mvalue k rfl hk ?_
      refine aw_lload_n (pc' := 128) nd_M_worked_127 rfl rfl ?_
      refine aw_lcmp (pc' := 129) nd_M_worked_128 rfl ?_
      refine aw_if_eq (pc' := 132) (tg := 145) nd_M_worked_129 (by decide) rfl (fun hb129 => ?_) (fun hb129 => ?_)
      · skip
        refine aw_iconst (pc' := 146) (x := 1) nd_M_worked_145 rfl (by decide) ?_
        refine aw_goto (pc' := 150) nd_M_worked_146 (by decide) ?_
        have e : syM m k v = true := by
          unfold syM
          rw [if_neg hb109, if_pos ⟨hb118, (lg_cmp_eq _ _).mp hb129⟩]
        rw [e] at hq
        exact l_M_worked150 hf hk ho hp true hq
      · skip
        refine aw_aload_n (pc' := 133) nd_M_worked_132 rfl rfl rfl ?_
        refine aw_get (pc' := 136) nd_M_worked_133 rfl nF_5_61 g_M_verified ?_
        refine aw_iload_n (pc' := 137) nd_M_worked_136 rfl rfl ?_
        refine aw_iald (pc' := 138) nd_M_worked_137 rfl ga_Mverified k rfl hk ?_
        refine aw_aload_n (pc' := 139) nd_M_worked_138 rfl rfl rfl ?_
        refine aw_get (pc' := 142) nd_M_worked_139 rfl nF_5_13 g_M_revision ?_
        refine aw_icmp_ne (pc' := 145) (tg := 149) nd_M_worked_142 (by decide) rfl (fun hb142 => ?_) (fun hb142 => ?_)
        · skip
          refine aw_iconst (pc' := 150) (x := 0) nd_M_worked_149 rfl (by decide) ?_
          have e : syM m k v = false := by
            unfold syM
            rw [if_neg hb109, if_neg (fun z => hb129 ((lg_cmp_eq _ _).mpr z.2)), if_neg hb142]
          rw [e] at hq
          exact l_M_worked150 hf hk ho hp false hq
        · skip
          refine aw_iconst (pc' := 146) (x := 1) nd_M_worked_145 rfl (by decide) ?_
          refine aw_goto (pc' := 150) nd_M_worked_146 (by decide) ?_
          have e : syM m k v = true := by
            unfold syM
            rw [if_neg hb109, if_neg (fun z => hb129 ((lg_cmp_eq _ _).mpr z.2)), if_pos hb142]
          rw [e] at hq
          exact l_M_worked150 hf hk ho hp true hq
