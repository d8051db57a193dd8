/-! the model's asking: look, the cell found -/
def thM (m : nMem) (f s : Nat) : Nat → Bool
  | 0 => false
  | i + 1 => if thM m f s i = true then true else if m.1 134 (12 * f + i) = nI s then true else false
def afM (m : nMem) (f s r : Nat) : nMem := if thM m f s r = true then m else ms (ms m 134 (12 * f + r) (nI s)) 133 f (nI (r + 1))

theorem l_M_look51 {L : Nat} {xs : Nat → Int32} {d : Nat} {Q : ax_Q} {m : nMem} {f k s r : Nat} {w : Option Value} (hf : f < 12) (hr : m.1 133 f = nI r) (hr12 : thM m f s r = true ∨ r < 12) (kk : ∀ w5, nW L xs d ns_I_M_look Q 83 [some (.ref 104), some (.int (nI f)), some (.int (nI k)), some (.int (nI s)), w5, some (.int (nI r)), w] [] 0 0 (ns_rep (afM m f s r))) : nW L xs d ns_I_M_look Q 51 [some (.ref 104), some (.int (nI f)), some (.int (nI k)), some (.int (nI s)), some (.int (bi (thM m f s r))), some (.int (nI r)), w] [] 0 0 (ns_rep m) := by
  unfold afM at kk
  refine aw_iload (pc' := 53) nd_M_look_51 rfl rfl ?_
  refine aw_if_ne (pc' := 56) (tg := 83) nd_M_look_53 (by decide) rfl (fun hb53 => ?_) (fun hb53 => ?_)
  · skip
    first
      | (rw [if_pos (bi_t hb53)] at kk; exact kk _)
      | (rw [if_neg (by rw [bi_f hb53]; decide)] at kk; exact kk _)
  · skip
    have hlt : r < 12 := by
      rcases hr12 with z | z
      · rw [bi_f hb53] at z; cases z
      · exact z
    refine aw_aload_n (pc' := 57) nd_M_look_56 rfl rfl rfl ?_
    refine aw_get (pc' := 60) nd_M_look_57 rfl nF_5_103 g_M_foundCell ?_
    refine aw_bipush (pc' := 62) (x := 12) nd_M_look_60 rfl (by decide) ?_
    refine aw_iload_n (pc' := 63) nd_M_look_62 rfl rfl ?_
    refine aw_imul (pc' := 64) nd_M_look_63 rfl ?_
    refine aw_aload_n (pc' := 65) nd_M_look_64 rfl rfl rfl ?_
    refine aw_get (pc' := 68) nd_M_look_65 rfl nF_5_100 g_M_found ?_
    refine aw_iload_n (pc' := 69) nd_M_look_68 rfl rfl ?_
    refine aw_iald (pc' := 70) nd_M_look_69 rfl ga_Mfound f rfl hf ?_
    refine aw_iadd (pc' := 71) nd_M_look_70 rfl ?_
    refine aw_iload_n (pc' := 72) nd_M_look_71 rfl rfl ?_
    refine aw_iast (pc' := 73) nd_M_look_72 rfl rfl (12 * f + r) (by rw [hr]; exact nI_lin (c := 12) (by decide)) (by omega) pa_MfoundCell ?_
    refine aw_aload_n (pc' := 74) nd_M_look_73 rfl rfl rfl ?_
    refine aw_get (pc' := 77) nd_M_look_74 rfl nF_5_100 g_M_found ?_
    refine aw_iload_n (pc' := 78) nd_M_look_77 rfl rfl ?_
    refine aw_dup2 (pc' := 79) nd_M_look_78 rfl rfl rfl ?_
    refine aw_iald (pc' := 80) nd_M_look_79 rfl ga_Mfound f rfl hf ?_
    refine aw_iconst (pc' := 81) (x := 1) nd_M_look_80 rfl (by decide) ?_
    refine aw_iadd (pc' := 82) nd_M_look_81 rfl ?_
    rw [ms_o (by decide), hr, nI_1]
    refine aw_iast (pc' := 83) nd_M_look_82 rfl rfl f rfl hf pa_Mfound ?_
    first
      | (rw [if_pos (bi_t hb53)] at kk; exact kk _)
      | (rw [if_neg (by rw [bi_f hb53]; decide)] at kk; exact kk _)

theorem l_M_look6 {L : Nat} {xs : Nat → Int32} {d : Nat} {Q : ax_Q} {m : nMem} {f k s r : Nat} {w : Option Value} (hf : f < 12) (hr : m.1 133 f = nI r) (hr12 : r ≤ 12) (kk : nW L xs d ns_I_M_look Q 51 [some (.ref 104), some (.int (nI f)), some (.int (nI k)), some (.int (nI s)), some (.int (bi (thM m f s r))), some (.int (nI r)), w] [] 0 0 (ns_rep m)) : ∀ z i, z + i = r → nW L xs d ns_I_M_look Q 6 [some (.ref 104), some (.int (nI f)), some (.int (nI k)), some (.int (nI s)), some (.int (bi (thM m f s i))), some (.int (nI i)), w] [] 0 0 (ns_rep m) := by
  intro z
  induction z with
  | zero =>
    intro i hi
    obtain rfl : i = r := by omega
    refine aw_iload (pc' := 8) nd_M_look_6 rfl rfl ?_
    refine aw_aload_n (pc' := 9) nd_M_look_8 rfl rfl rfl ?_
    refine aw_get (pc' := 12) nd_M_look_9 rfl nF_5_100 g_M_found ?_
    refine aw_iload_n (pc' := 13) nd_M_look_12 rfl rfl ?_
    refine aw_iald (pc' := 14) nd_M_look_13 rfl ga_Mfound f rfl hf ?_
    refine aw_icmp_ge (pc' := 17) (tg := 51) nd_M_look_14 (by decide) rfl (fun _ => ?_) (fun hx => absurd (by rw [hr]; exact nI_le (Nat.le_refl _) (by omega)) hx)
    exact kk
  | succ z ih =>
    intro i hi
    have hin : i < r := by omega
    have e := ih (i + 1) (by omega)
    rw [thM] at e
    refine aw_iload (pc' := 8) nd_M_look_6 rfl rfl ?_
    refine aw_aload_n (pc' := 9) nd_M_look_8 rfl rfl rfl ?_
    refine aw_get (pc' := 12) nd_M_look_9 rfl nF_5_100 g_M_found ?_
    refine aw_iload_n (pc' := 13) nd_M_look_12 rfl rfl ?_
    refine aw_iald (pc' := 14) nd_M_look_13 rfl ga_Mfound f rfl hf ?_
    refine aw_icmp_ge (pc' := 17) (tg := 51) nd_M_look_14 (by decide) rfl (fun hx => absurd hx (by rw [hr]; exact nI_ge hin (by omega))) (fun _ => ?_)
    refine aw_iload (pc' := 19) nd_M_look_17 rfl rfl ?_
    refine aw_if_ne (pc' := 22) (tg := 38) nd_M_look_19 (by decide) rfl (fun hb19 => ?_) (fun hb19 => ?_)
    · skip
      refine aw_iconst (pc' := 39) (x := 1) nd_M_look_38 rfl (by decide) ?_
      refine aw_goto (pc' := 43) nd_M_look_39 (by decide) ?_
      refine aw_istore (pc' := 45) (ls' := [_, _, _, _, _, _, _]) nd_M_look_43 rfl (Nat.le_of_ble_eq_true rfl) rfl ?_
      refine aw_iinc (pc' := 48) (ls' := [_, _, _, _, _, _, _]) nd_M_look_45 rfl rfl (nI_1 i) rfl ?_
      refine aw_goto (pc' := 6) nd_M_look_48 (by decide) ?_
      first
        | (rw [if_pos (bi_t hb19)] at e; exact e)
        | (rw [if_neg (by rw [bi_f hb19]; decide), if_pos hb35] at e; exact e)
        | (rw [if_neg (by rw [bi_f hb19]; decide), if_neg hb35] at e; exact e)
    · skip
      refine aw_aload_n (pc' := 23) nd_M_look_22 rfl rfl rfl ?_
      refine aw_get (pc' := 26) nd_M_look_23 rfl nF_5_103 g_M_foundCell ?_
      refine aw_bipush (pc' := 28) (x := 12) nd_M_look_26 rfl (by decide) ?_
      refine aw_iload_n (pc' := 29) nd_M_look_28 rfl rfl ?_
      refine aw_imul (pc' := 30) nd_M_look_29 rfl ?_
      refine aw_iload (pc' := 32) nd_M_look_30 rfl rfl ?_
      refine aw_iadd (pc' := 33) nd_M_look_32 rfl ?_
      refine aw_iald (pc' := 34) nd_M_look_33 rfl ga_MfoundCell (12 * f + i) (nI_lin (c := 12) (by decide)) (by omega) ?_
      refine aw_iload_n (pc' := 35) nd_M_look_34 rfl rfl ?_
      refine aw_icmp_ne (pc' := 38) (tg := 42) nd_M_look_35 (by decide) rfl (fun hb35 => ?_) (fun hb35 => ?_)
      · skip
        refine aw_iconst (pc' := 43) (x := 0) nd_M_look_42 rfl (by decide) ?_
        refine aw_istore (pc' := 45) (ls' := [_, _, _, _, _, _, _]) nd_M_look_43 rfl (Nat.le_of_ble_eq_true rfl) rfl ?_
        refine aw_iinc (pc' := 48) (ls' := [_, _, _, _, _, _, _]) nd_M_look_45 rfl rfl (nI_1 i) rfl ?_
        refine aw_goto (pc' := 6) nd_M_look_48 (by decide) ?_
        first
          | (rw [if_pos (bi_t hb19)] at e; exact e)
          | (rw [if_neg (by rw [bi_f hb19]; decide), if_pos hb35] at e; exact e)
          | (rw [if_neg (by rw [bi_f hb19]; decide), if_neg hb35] at e; exact e)
      · skip
        refine aw_iconst (pc' := 39) (x := 1) nd_M_look_38 rfl (by decide) ?_
        refine aw_goto (pc' := 43) nd_M_look_39 (by decide) ?_
        refine aw_istore (pc' := 45) (ls' := [_, _, _, _, _, _, _]) nd_M_look_43 rfl (Nat.le_of_ble_eq_true rfl) rfl ?_
        refine aw_iinc (pc' := 48) (ls' := [_, _, _, _, _, _, _]) nd_M_look_45 rfl rfl (nI_1 i) rfl ?_
        refine aw_goto (pc' := 6) nd_M_look_48 (by decide) ?_
        first
          | (rw [if_pos (bi_t hb19)] at e; exact e)
          | (rw [if_neg (by rw [bi_f hb19]; decide), if_pos hb35] at e; exact e)
          | (rw [if_neg (by rw [bi_f hb19]; decide), if_neg hb35] at e; exact e)

