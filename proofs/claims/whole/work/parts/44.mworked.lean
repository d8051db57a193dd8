/-! the model's asking: worked -/
/-- the first i cells found, kept as reads -/
def wcM (m : nMem) (k : Nat) (fc : Nat → Nat) : Nat → nMem
  | 0 => m
  | i + 1 => ms (wcM m k fc i) 124 (12 * k + i) (nI (fc i))
theorem wcM_o {m : nMem} {k : Nat} {fc : Nat → Nat} {b : Nat} (h : ¬ b = 124) : ∀ i, (wcM m k fc i).1 b = m.1 b := by
  intro i
  induction i with
  | zero => rfl
  | succ i ih => rw [wcM, ms_o h, ih]
theorem wcM_2 {m : nMem} {k : Nat} {fc : Nat → Nat} : ∀ i, (wcM m k fc i).2 = m.2 := by
  intro i
  induction i with
  | zero => rfl
  | succ i ih => rw [wcM, ms_2, ih]
def lrM (m : nMem) (f : Nat) (fc : Nat → Nat) (i : Nat) : Int32 := if m.1 136 f = 0 then ldM m fc i else 0
theorem dOf_wc {m : nMem} {k : Nat} {fc : Nat → Nat} (i s : Nat) : dOf (ms (wcM m k fc i) 124 (12 * k + i) (nI (fc i))) s = dOf m s := by
  unfold dOf
  rw [ms_o (by decide), ms_o (by decide), ms_o (by decide), wcM_o (by decide), wcM_o (by decide), wcM_o (by decide)]

theorem l_M_worked25 {L : Nat} {xs : Nat → Int32} {d : Nat} {Q : ax_Q} {m : nMem} {f k : Nat} {v : Int64} (hf : f < 12) (hk : k < 12) {fc : Nat → Nat} {r : Nat} (hr : m.1 133 f = nI r) (hr12 : r ≤ 12) (hfc : ∀ i, i < r → m.1 134 (12 * f + i) = nI (fc i) ∧ fc i < 12) (kk : ∀ w, nW L xs (d + 1) ns_I_M_worked Q 103 [some (.ref 104), some (.int (nI f)), some (.int (nI k)), some (.long v), none, some (.int (lrM m f fc r)), some (.int (nI r)), w] [] 0 0 (ns_rep (wcM m k fc r))) : ∀ z i w, z + i = r → nW L xs (d + 1) ns_I_M_worked Q 25 [some (.ref 104), some (.int (nI f)), some (.int (nI k)), some (.long v), none, some (.int (lrM m f fc i)), some (.int (nI i)), w] [] 0 0 (ns_rep (wcM m k fc i)) := by
  intro z
  induction z with
  | zero =>
    intro i w hi
    obtain rfl : i = r := by omega
    refine aw_iload (pc' := 27) nd_M_worked_25 rfl rfl ?_
    refine aw_aload_n (pc' := 28) nd_M_worked_27 rfl rfl rfl ?_
    refine aw_get (pc' := 31) nd_M_worked_28 rfl nF_5_100 g_M_found ?_
    refine aw_iload_n (pc' := 32) nd_M_worked_31 rfl rfl ?_
    refine aw_iald (pc' := 33) nd_M_worked_32 rfl ga_Mfound f rfl hf ?_
    refine aw_icmp_ge (pc' := 36) (tg := 103) nd_M_worked_33 (by decide) rfl (fun _ => ?_) (fun hx => absurd (by rw [wcM_o (by decide), hr]; exact nI_le (Nat.le_refl _) (by omega)) hx)
    exact kk w
  | succ z ih =>
    intro i w hi
    have hin : i < r := by omega
    obtain ⟨hv, hs⟩ := hfc i hin
    have e := fun w => ih (i + 1) w (by omega)
    simp only [wcM, lrM, ldM] at e
    refine aw_iload (pc' := 27) nd_M_worked_25 rfl rfl ?_
    refine aw_aload_n (pc' := 28) nd_M_worked_27 rfl rfl rfl ?_
    refine aw_get (pc' := 31) nd_M_worked_28 rfl nF_5_100 g_M_found ?_
    refine aw_iload_n (pc' := 32) nd_M_worked_31 rfl rfl ?_
    refine aw_iald (pc' := 33) nd_M_worked_32 rfl ga_Mfound f rfl hf ?_
    refine aw_icmp_ge (pc' := 36) (tg := 103) nd_M_worked_33 (by decide) rfl (fun hx => absurd hx (by rw [wcM_o (by decide), hr]; exact nI_ge hin (by omega))) (fun _ => ?_)
    refine aw_aload_n (pc' := 37) nd_M_worked_36 rfl rfl rfl ?_
    refine aw_get (pc' := 40) nd_M_worked_37 rfl nF_5_103 g_M_foundCell ?_
    refine aw_bipush (pc' := 42) (x := 12) nd_M_worked_40 rfl (by decide) ?_
    refine aw_iload_n (pc' := 43) nd_M_worked_42 rfl rfl ?_
    refine aw_imul (pc' := 44) nd_M_worked_43 rfl ?_
    refine aw_iload (pc' := 46) nd_M_worked_44 rfl rfl ?_
    refine aw_iadd (pc' := 47) nd_M_worked_46 rfl ?_
    refine aw_iald (pc' := 48) nd_M_worked_47 rfl ga_MfoundCell (12 * f + i) (nI_lin (c := 12) (by decide)) (by omega) ?_
    rw [wcM_o (by decide), hv]
    refine aw_istore (pc' := 50) (ls' := [_, _, _, _, _, _, _, _]) nd_M_worked_48 rfl (Nat.le_of_ble_eq_true rfl) rfl ?_
    refine aw_aload_n (pc' := 51) nd_M_worked_50 rfl rfl rfl ?_
    refine aw_get (pc' := 54) nd_M_worked_51 rfl nF_5_73 g_M_readCell ?_
    refine aw_bipush (pc' := 56) (x := 12) nd_M_worked_54 rfl (by decide) ?_
    refine aw_iload_n (pc' := 57) nd_M_worked_56 rfl rfl ?_
    refine aw_imul (pc' := 58) nd_M_worked_57 rfl ?_
    refine aw_iload (pc' := 60) nd_M_worked_58 rfl rfl ?_
    refine aw_iadd (pc' := 61) nd_M_worked_60 rfl ?_
    refine aw_iload (pc' := 63) nd_M_worked_61 rfl rfl ?_
    refine aw_iast (pc' := 64) nd_M_worked_63 rfl rfl (12 * k + i) (nI_lin (c := 12) (by decide)) (by omega) pa_MreadCell ?_
    refine aw_aload_n (pc' := 65) nd_M_worked_64 rfl rfl rfl ?_
    refine aw_get (pc' := 68) nd_M_worked_65 rfl nF_5_109 g_M_ring ?_
    refine aw_iload_n (pc' := 69) nd_M_worked_68 rfl rfl ?_
    refine aw_bald (pc' := 70) nd_M_worked_69 rfl ga_Mring f rfl hf ?_
    refine aw_if_ne (pc' := 73) (tg := 93) nd_M_worked_70 (by decide) rfl (fun hb70 => ?_) (fun hb70 => ?_)
    · skip
      refine aw_iload (pc' := 95) nd_M_worked_93 rfl rfl ?_
      refine aw_istore (pc' := 97) (ls' := [_, _, _, _, _, _, _, _]) nd_M_worked_95 rfl (Nat.le_of_ble_eq_true rfl) rfl ?_
      refine aw_iinc (pc' := 100) (ls' := [_, _, _, _, _, _, _, _]) nd_M_worked_97 rfl rfl (nI_1 i) rfl ?_
      refine aw_goto (pc' := 25) nd_M_worked_100 (by decide) ?_
      first
        | (rw [ms_o (by decide), wcM_o (by decide)] at hb70
           simp only [lrM]
           first
             | (rw [if_neg hb70]; have e2 := e (some (.int (nI (fc i)))); rw [if_neg hb70] at e2; exact e2)
             | (simp only [lrM] at hb81; rw [if_pos hb70] at hb81 ⊢; have e2 := e (some (.int (nI (fc i)))); rw [if_pos hb70, if_neg (Int32.not_lt.mpr hb81)] at e2; exact e2)
             | (simp only [lrM] at hb81; rw [if_pos hb70] at hb81; have e2 := e (some (.int (nI (fc i)))); rw [if_pos hb70, if_pos (Int32.not_le.mp hb81)] at e2; exact e2))
        | (rw [ms_o (by decide), wcM_o (by decide)] at hb70
           simp only [lrM] at hb81
           rw [if_pos hb70] at hb81
           have e2 := e (some (.int (nI (fc i))))
           rw [if_pos hb70, if_pos (Int32.not_le.mp hb81)] at e2
           exact e2)
    · skip
      refine aw_aload_n (pc' := 74) nd_M_worked_73 rfl rfl rfl ?_
      refine aw_iload (pc' := 76) nd_M_worked_74 rfl rfl ?_
      refine aw_callV (pc' := 79) (as := [_]) (st := []) nd_M_worked_76 rfl nC_5_216 ⟨(Nat.le_of_ble_eq_true rfl), rfl, rfl⟩ ns_ioM (Nat.le_of_ble_eq_true rfl) (Nat.le_of_ble_eq_true rfl) (Nat.le_of_ble_eq_true rfl) ?_
      refine c_M_durabilityOf hs ?_
      rw [show (if (ms (wcM m k fc i) 124 (12 * k + i) (nI (fc i))).1 107 (fc i) = 0 then (ms (wcM m k fc i) 124 (12 * k + i) (nI (fc i))).1 115 (fc i) else (ms (wcM m k fc i) 124 (12 * k + i) (nI (fc i))).1 122 (fc i)) = dOf m (fc i) from dOf_wc i (fc i)]
      show nW _ _ _ _ _ 79 _ [_] _ _ _
      refine aw_iload (pc' := 81) nd_M_worked_79 rfl rfl ?_
      refine aw_icmp_ge (pc' := 84) (tg := 93) nd_M_worked_81 (by decide) rfl (fun hb81 => ?_) (fun hb81 => ?_)
      · skip
        refine aw_iload (pc' := 95) nd_M_worked_93 rfl rfl ?_
        refine aw_istore (pc' := 97) (ls' := [_, _, _, _, _, _, _, _]) nd_M_worked_95 rfl (Nat.le_of_ble_eq_true rfl) rfl ?_
        refine aw_iinc (pc' := 100) (ls' := [_, _, _, _, _, _, _, _]) nd_M_worked_97 rfl rfl (nI_1 i) rfl ?_
        refine aw_goto (pc' := 25) nd_M_worked_100 (by decide) ?_
        first
          | (rw [ms_o (by decide), wcM_o (by decide)] at hb70
             simp only [lrM]
             first
               | (rw [if_neg hb70]; have e2 := e (some (.int (nI (fc i)))); rw [if_neg hb70] at e2; exact e2)
               | (simp only [lrM] at hb81; rw [if_pos hb70] at hb81 ⊢; have e2 := e (some (.int (nI (fc i)))); rw [if_pos hb70, if_neg (Int32.not_lt.mpr hb81)] at e2; exact e2)
               | (simp only [lrM] at hb81; rw [if_pos hb70] at hb81; have e2 := e (some (.int (nI (fc i)))); rw [if_pos hb70, if_pos (Int32.not_le.mp hb81)] at e2; exact e2))
          | (rw [ms_o (by decide), wcM_o (by decide)] at hb70
             simp only [lrM] at hb81
             rw [if_pos hb70] at hb81
             have e2 := e (some (.int (nI (fc i))))
             rw [if_pos hb70, if_pos (Int32.not_le.mp hb81)] at e2
             exact e2)
      · skip
        refine aw_aload_n (pc' := 85) nd_M_worked_84 rfl rfl rfl ?_
        refine aw_iload (pc' := 87) nd_M_worked_85 rfl rfl ?_
        refine aw_callV (pc' := 90) (as := [_]) (st := []) nd_M_worked_87 rfl nC_5_216 ⟨(Nat.le_of_ble_eq_true rfl), rfl, rfl⟩ ns_ioM (Nat.le_of_ble_eq_true rfl) (Nat.le_of_ble_eq_true rfl) (Nat.le_of_ble_eq_true rfl) ?_
        refine c_M_durabilityOf hs ?_
        rw [show (if (ms (wcM m k fc i) 124 (12 * k + i) (nI (fc i))).1 107 (fc i) = 0 then (ms (wcM m k fc i) 124 (12 * k + i) (nI (fc i))).1 115 (fc i) else (ms (wcM m k fc i) 124 (12 * k + i) (nI (fc i))).1 122 (fc i)) = dOf m (fc i) from dOf_wc i (fc i)]
        show nW _ _ _ _ _ 90 _ [_] _ _ _
        refine aw_goto (pc' := 95) nd_M_worked_90 (by decide) ?_
        refine aw_istore (pc' := 97) (ls' := [_, _, _, _, _, _, _, _]) nd_M_worked_95 rfl (Nat.le_of_ble_eq_true rfl) rfl ?_
        refine aw_iinc (pc' := 100) (ls' := [_, _, _, _, _, _, _, _]) nd_M_worked_97 rfl rfl (nI_1 i) rfl ?_
        refine aw_goto (pc' := 25) nd_M_worked_100 (by decide) ?_
        first
          | (rw [ms_o (by decide), wcM_o (by decide)] at hb70
             simp only [lrM]
             first
               | (rw [if_neg hb70]; have e2 := e (some (.int (nI (fc i)))); rw [if_neg hb70] at e2; exact e2)
               | (simp only [lrM] at hb81; rw [if_pos hb70] at hb81 ⊢; have e2 := e (some (.int (nI (fc i)))); rw [if_pos hb70, if_neg (Int32.not_lt.mpr hb81)] at e2; exact e2)
               | (simp only [lrM] at hb81; rw [if_pos hb70] at hb81; have e2 := e (some (.int (nI (fc i)))); rw [if_pos hb70, if_pos (Int32.not_le.mp hb81)] at e2; exact e2))
          | (rw [ms_o (by decide), wcM_o (by decide)] at hb70
             simp only [lrM] at hb81
             rw [if_pos hb70] at hb81
             have e2 := e (some (.int (nI (fc i))))
             rw [if_pos hb70, if_pos (Int32.not_le.mp hb81)] at e2
             exact e2)

