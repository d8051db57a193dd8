/-! asking: workOut, bringUpToDate, the recursion, ask -/
def KE (L : Nat) (xs : Nat → Int32) (cd : Nat → pC) (d : Nat) (B W : nMem → Nat → nMem) (dep : Nat) : Prop := ∀ (dd : Nat) (Q : ax_Q) (μ : nMem) (k : Nat), WF cd μ → k < 12 → ¬ μ.1 (nC k) 4 = 0 → fw μ 12 ≤ d → Q (some (.long (evl (fun m s => gF B W m k s) (cd k) k 30 μ 0 0).1)) (ns_rep (evl (fun m s => gF B W m k s) (cd k) k 30 μ 0 0).2) → nM L xs (dd + dep) 22 [.ref 0, .ref (nC k)] (ns_rep μ) Q
def KR (L : Nat) (xs : Nat → Int32) (cd : Nat → pC) (d : Nat) (B : nMem → Nat → nMem) (dep : Nat) : Prop := ∀ (dd : Nat) (Q : ax_Q) (μ : nMem) (k : Nat), WF cd μ → k < 12 → fw μ 12 ≤ d → Q (some (.int (bi (ruF B μ k).1))) (ns_rep (ruF B μ k).2) → nM L xs (dd + dep) 18 [.ref 0, .ref (nC k)] (ns_rep μ) Q
theorem KB.up {L : Nat} {xs : Nat → Int32} {cd : Nat → pC} {d dep dep' : Nat} {B : nMem → Nat → nMem} (h : KB L xs cd d B dep) (hd : dep ≤ dep') : KB L xs cd d B dep' := by
  intro dd Q μ k h1 h2 h3 hq
  have e := h (dd + (dep' - dep)) Q μ k h1 h2 h3 hq
  rw [show dd + (dep' - dep) + dep = dd + dep' by omega] at e
  exact e
theorem KW.up {L : Nat} {xs : Nat → Int32} {cd : Nat → pC} {d dep dep' : Nat} {W : nMem → Nat → nMem} (h : KW L xs cd d W dep) (hd : dep ≤ dep') : KW L xs cd d W dep' := by
  intro dd Q μ k h1 h2 h3 h4 hq
  have e := h (dd + (dep' - dep)) Q μ k h1 h2 h3 h4 hq
  rw [show dd + (dep' - dep) + dep = dd + dep' by omega] at e
  exact e
theorem KR.up {L : Nat} {xs : Nat → Int32} {cd : Nat → pC} {d dep dep' : Nat} {B : nMem → Nat → nMem} (h : KR L xs cd d B dep) (hd : dep ≤ dep') : KR L xs cd d B dep' := by
  intro dd Q μ k h1 h2 h3 hq
  have e := h (dd + (dep' - dep)) Q μ k h1 h2 h3 hq
  rw [show dd + (dep' - dep) + dep = dd + dep' by omega] at e
  exact e

theorem k_eval {L : Nat} {xs : Nat → Int32} {cd : Nat → pC} {d e : Nat} {B W : nMem → Nat → nMem} (hG : KG L xs cd d B W (e + 2)) (pB : PB cd d B) (pW : PW cd d W) : KE L xs cd d B W (e + 3) := by
  intro dd Q μ k h hk h4 hf hq
  obtain ⟨⟨ht, h00, h01, h15, hT⟩, -⟩ := (h k hk).2.2 h4
  show nM L xs ((dd + e + 2) + 1) _ _ _ _
  refine nM.of ns_I_N_evaluate rfl (ls := [_, _, _, _, _, _, _, _, _, _, _, _]) (Nat.le_of_ble_eq_true rfl) rfl ?_
  refine aw_aload_n (pc' := 1) nd_N_evaluate_0 rfl rfl rfl ?_
  refine aw_get (pc' := 4) nd_N_evaluate_1 rfl nF_0_137 (g_C_formula (by assumption)) ?_
  refine aw_astore_n (pc' := 5) (ls' := [_, _, _, _, _, _, _, _, _, _, _, _]) nd_N_evaluate_4 rfl rfl (Nat.le_of_ble_eq_true rfl) rfl ?_
  refine aw_aload_n (pc' := 6) nd_N_evaluate_5 rfl rfl rfl ?_
  refine aw_get (pc' := 9) nd_N_evaluate_6 rfl nF_0_211 (g_C_stack (by assumption)) ?_
  refine aw_astore_n (pc' := 10) (ls' := [_, _, _, _, _, _, _, _, _, _, _, _]) nd_N_evaluate_9 rfl rfl (Nat.le_of_ble_eq_true rfl) rfl ?_
  refine aw_iconst (pc' := 11) (x := 0) nd_N_evaluate_10 rfl (by decide) ?_
  refine aw_istore (pc' := 13) (ls' := [_, _, _, _, _, _, _, _, _, _, _, _]) nd_N_evaluate_11 rfl (Nat.le_of_ble_eq_true rfl) rfl ?_
  refine aw_iconst (pc' := 14) (x := 0) nd_N_evaluate_13 rfl (by decide) ?_
  refine aw_istore (pc' := 16) (ls' := [_, _, _, _, _, _, _, _, _, _, _, _]) nd_N_evaluate_14 rfl (Nat.le_of_ble_eq_true rfl) rfl ?_
  refine aw_iconst (pc' := 17) (x := 0) nd_N_evaluate_16 rfl (by decide) ?_
  refine aw_istore (pc' := 19) (ls' := [_, _, _, _, _, _, _, _, _, _, _, _]) nd_N_evaluate_17 rfl (Nat.le_of_ble_eq_true rfl) rfl ?_
  exact l_eval hk hG (fun m s w hs f => gF_P pB pW w hk hs f) h15 hT 30 0 dd Q μ 0 0 none none none none none (by omega) h h4 hf h00.symm (Nat.zero_le _) hq

theorem k_work {L : Nat} {xs : Nat → Int32} {cd : Nat → pC} {d e : Nat} {B W : nMem → Nat → nMem} (hE : KE L xs cd d B W (e + 2)) (pB : PB cd d B) (pW : PW cd d W) : KW L xs cd (d + 1) (wF cd B W) (e + 3) := by
  intro dd Q μ k h hk h4 hf hq
  show nM L xs ((dd + e + 2) + 1) _ _ _ _
  refine nM.of ns_I_N_workOut rfl (ls := [_, _, _, _]) (Nat.le_of_ble_eq_true rfl) rfl ?_
  refine aw_aload_n (pc' := 1) nd_N_workOut_0 rfl rfl rfl ?_
  refine aw_iconst (pc' := 2) (x := 1) nd_N_workOut_1 rfl (by decide) ?_
  refine aw_put (pc' := 5) nd_N_workOut_2 rfl nF_0_176 (by first | exact Or.inl rfl | exact Or.inr rfl | assumption) (p_C_atWork (by assumption)) ?_
  refine aw_aload_n (pc' := 6) nd_N_workOut_5 rfl rfl rfl ?_
  refine aw_get (pc' := 9) nd_N_workOut_6 rfl nF_0_113 (g_C_note (by assumption)) ?_
  refine aw_iconst (pc' := 10) (x := 0) nd_N_workOut_9 rfl (by decide) ?_
  refine aw_put (pc' := 13) nd_N_workOut_10 rfl nF_0_125 trivial (p_O_readCount (by assumption)) ?_
  refine aw_aload_n (pc' := 14) nd_N_workOut_13 rfl rfl rfl ?_
  refine aw_aload_n (pc' := 15) nd_N_workOut_14 rfl rfl rfl ?_
  refine aw_callV (pc' := 18) (as := [_]) (st := []) nd_N_workOut_15 rfl nC_0_204 ⟨(Nat.le_of_ble_eq_true rfl), rfl, rfl⟩ ns_ioN (Nat.le_of_ble_eq_true rfl) (Nat.le_of_ble_eq_true rfl) (Nat.le_of_ble_eq_true rfl) ?_
  have l2 : FL (ms μ (nC k) 9 1) (ms (ms μ (nC k) 9 1) (nN k) 1 0) := FL.ms fl_N
  have w2 : WF cd (ms (ms μ (nC k) 9 1) (nN k) 1 0) := (h.cong (WE.ms (μ := μ) (a := nC k) (j := 9) (x := 1) (free_C hk (by decide)))).n0 hk
  have e4 : (ms (ms μ (nC k) 9 1) (nN k) 1 0).1 (nC k) 4 = μ.1 (nC k) 4 := by rw [(l2 k hk).1, ms_r, if_neg (fun z => by omega)]
  have hf2 : fw (ms (ms μ (nC k) 9 1) (nN k) 1 0) 12 ≤ d := by rw [fw_FL l2 12 (by omega)]; omega
  refine hE dd _ (ms (ms μ (nC k) 9 1) (nN k) 1 0) k w2 hk (by rw [e4]; exact h4) hf2 ?_
  have pe := evl_P (cd := cd) (d := d) (k := k) (G := fun m s => gF B W m k s) hk (fun m s wm hs hfm => gF_P pB pW wm hk hs hfm) ((h k hk).2.2 h4).1.a1 30 (ms (ms μ (nC k) 9 1) (nN k) 1 0) 0 0 w2 hf2
  unfold wF at hq
  rcases he : evl (fun m s => gF B W m k s) (cd k) k 30 (ms (ms μ (nC k) 9 1) (nN k) 1 0) 0 0 with ⟨v, μ1⟩
  rw [he] at hq pe
  dsimp only at hq pe ⊢
  obtain ⟨n1, n2, n3⟩ := (pe.1 k hk).1.n
  show nW _ _ _ _ _ 18 _ [_] _ _ _
  refine aw_lstore_n (pc' := 19) (ls' := [_, _, _, _]) nd_N_workOut_18 rfl (Nat.le_of_ble_eq_true rfl) rfl ?_
  refine aw_aload_n (pc' := 20) nd_N_workOut_19 rfl rfl rfl ?_
  refine aw_get (pc' := 23) nd_N_workOut_20 rfl nF_0_113 (g_C_note (by assumption)) ?_
  refine aw_aload_n (pc' := 24) nd_N_workOut_23 rfl rfl rfl ?_
  refine aw_aload_n (pc' := 25) nd_N_workOut_24 rfl rfl rfl ?_
  refine aw_get (pc' := 28) nd_N_workOut_25 rfl nF_0_113 (g_C_note (by assumption)) ?_
  refine aw_callV (pc' := 31) (as := [_]) (st := [_]) nd_N_workOut_28 rfl nC_0_194 ⟨(Nat.le_of_ble_eq_true rfl), rfl, rfl⟩ ns_ioN (Nat.le_of_ble_eq_true rfl) (Nat.le_of_ble_eq_true rfl) (Nat.le_of_ble_eq_true rfl) ?_
  refine c_N_least hk n1 n2 n3 ?_
  show nW _ _ _ _ _ 31 _ [_, _] _ _ _
  refine aw_put (pc' := 34) nd_N_workOut_31 rfl nF_0_198 trivial (p_O_durability (by assumption)) ?_
  refine aw_aload_n (pc' := 35) nd_N_workOut_34 rfl rfl rfl ?_
  refine aw_get (pc' := 38) nd_N_workOut_35 rfl nF_0_113 (g_C_note (by assumption)) ?_
  refine aw_lload_n (pc' := 39) nd_N_workOut_38 rfl rfl ?_
  refine aw_aload_n (pc' := 40) nd_N_workOut_39 rfl rfl rfl ?_
  refine aw_get (pc' := 43) nd_N_workOut_40 rfl nF_0_52 g_N_now ?_
  refine aw_callV (pc' := 46) (as := [_, _]) (st := []) nd_N_workOut_43 rfl nC_0_207 ⟨(Nat.le_of_ble_eq_true rfl), rfl, rfl⟩ (ns_ioO (by assumption)) (Nat.le_of_ble_eq_true rfl) (Nat.le_of_ble_eq_true rfl) (Nat.le_of_ble_eq_true rfl) ?_
  rw [show (ms μ1 (nN k) 7 (ldn μ1 k (μ1.1 (nN k) 1).toNatClampNeg)).1 0 6 = μ1.1 0 6 from by rw [ms_o (by unfold nN; omega)]]
  refine c_O_keep hk ?_
  show nW _ _ _ _ _ 46 _ [] _ _ _
  refine aw_aload_n (pc' := 47) nd_N_workOut_46 rfl rfl rfl ?_
  refine aw_aload_n (pc' := 48) nd_N_workOut_47 rfl rfl rfl ?_
  refine aw_callV (pc' := 51) (as := [_]) (st := []) nd_N_workOut_48 rfl nC_0_169 ⟨(Nat.le_of_ble_eq_true rfl), rfl, rfl⟩ ns_ioN (Nat.le_of_ble_eq_true rfl) (Nat.le_of_ble_eq_true rfl) (Nat.le_of_ble_eq_true rfl) ?_
  refine c_N_markUsed hk ?_
  show nW _ _ _ _ _ 51 _ [] _ _ _
  refine aw_aload_n (pc' := 52) nd_N_workOut_51 rfl rfl rfl ?_
  refine aw_aload_n (pc' := 53) nd_N_workOut_52 rfl rfl rfl ?_
  refine aw_iconst (pc' := 54) (x := 0) nd_N_workOut_53 rfl (by decide) ?_
  refine aw_callV (pc' := 57) (as := [_, _]) (st := []) nd_N_workOut_54 rfl nC_0_202 ⟨(Nat.le_of_ble_eq_true rfl), rfl, rfl⟩ ns_ioN (Nat.le_of_ble_eq_true rfl) (Nat.le_of_ble_eq_true rfl) (Nat.le_of_ble_eq_true rfl) ?_
  refine c_N_tally hk (j := 0) (by decide) ?_
  show nW _ _ _ _ _ 57 _ [] _ _ _
  refine aw_aload_n (pc' := 58) nd_N_workOut_57 rfl rfl rfl ?_
  refine aw_iconst (pc' := 59) (x := 0) nd_N_workOut_58 rfl (by decide) ?_
  refine aw_put (pc' := 62) nd_N_workOut_59 rfl nF_0_176 (by first | exact Or.inl rfl | exact Or.inr rfl | assumption) (p_C_atWork (by assumption)) ?_
  refine aw_return nd_N_workOut_62 rfl (Nat.le_of_ble_eq_true rfl) (Nat.le_of_ble_eq_true rfl) ?_
  exact hq

theorem l_ru {L : Nat} {xs : Nat → Int32} {cd : Nat → pC} {d e : Nat} {B : nMem → Nat → nMem} {k : Nat} (hk : k < 12) (hB : KB L xs cd d B (e + 2)) (pB : PB cd d B) : ∀ (g i dd : Nat) (Q : ax_Q) (μ : nMem) (o : Option Value), g + i = 13 → WF cd μ → fw μ 12 ≤ d → Q (some (.int (bi (ruL B k g μ i).1))) (ns_rep (ruL B k g μ i).2) → nW L xs (dd + e + 2) ns_I_N_readsAreUnchanged Q 27 [some (.ref 0), some (.ref (nC k)), some (.ref (nN k)), some (.int (nI i)), o] [] 0 0 (ns_rep μ) := by
  intro g
  induction g with
  | zero =>
    intro i dd Q μ o hg h hf hq
    obtain ⟨n1, n2, n3⟩ := (h k hk).1.n
    refine aw_iload_n (pc' := 28) nd_N_readsAreUnchanged_27 rfl rfl ?_
    refine aw_aload_n (pc' := 29) nd_N_readsAreUnchanged_28 rfl rfl rfl ?_
    refine aw_get (pc' := 32) nd_N_readsAreUnchanged_29 rfl nF_0_125 (g_O_readCount (by assumption)) ?_
    refine aw_icmp_ge (pc' := 35) (tg := 82) nd_N_readsAreUnchanged_32 (by decide) rfl (fun _ => ?_) (fun hx => absurd (by rw [n1]; exact nI_le (by omega) (by omega)) hx)
    refine aw_iconst (pc' := 83) (x := 1) nd_N_readsAreUnchanged_82 rfl (by decide) ?_
    refine aw_ireturn nd_N_readsAreUnchanged_83 rfl (by first | rfl | assumption) (Nat.le_of_ble_eq_true rfl) (Nat.le_of_ble_eq_true rfl) ?_
    exact hq
  | succ g ih =>
    intro i dd Q μ o hg h hf hq
    obtain ⟨n1, n2, n3⟩ := (h k hk).1.n
    unfold ruL at hq
    by_cases hi : i < (μ.1 (nN k) 1).toNatClampNeg
    · rw [if_pos hi] at hq
      obtain ⟨r1, r2⟩ := n3 i hi
      obtain ⟨b1, b2⟩ := pB μ (rN μ k i) h r2 hf
      refine aw_iload_n (pc' := 28) nd_N_readsAreUnchanged_27 rfl rfl ?_
      refine aw_aload_n (pc' := 29) nd_N_readsAreUnchanged_28 rfl rfl rfl ?_
      refine aw_get (pc' := 32) nd_N_readsAreUnchanged_29 rfl nF_0_125 (g_O_readCount (by assumption)) ?_
      refine aw_icmp_ge (pc' := 35) (tg := 82) nd_N_readsAreUnchanged_32 (by decide) rfl (fun hx => absurd hx (by rw [n1]; exact nI_ge hi (by omega))) (fun _ => ?_)
      refine aw_aload_n (pc' := 36) nd_N_readsAreUnchanged_35 rfl rfl rfl ?_
      refine aw_get (pc' := 39) nd_N_readsAreUnchanged_36 rfl nF_0_24 g_N_cells ?_
      refine aw_aload_n (pc' := 40) nd_N_readsAreUnchanged_39 rfl rfl rfl ?_
      refine aw_get (pc' := 43) nd_N_readsAreUnchanged_40 rfl nF_0_131 (g_O_reads (by assumption)) ?_
      refine aw_iload_n (pc' := 44) nd_N_readsAreUnchanged_43 rfl rfl ?_
      refine aw_iald (pc' := 45) nd_N_readsAreUnchanged_44 rfl (ga_R hk) i rfl (by omega) ?_
      refine aw_cells (pc' := 46) nd_N_readsAreUnchanged_45 rfl (rN μ k i) r1 r2 ?_
      refine aw_astore (pc' := 48) (ls' := [_, _, _, _, _]) nd_N_readsAreUnchanged_46 rfl rfl (Nat.le_of_ble_eq_true rfl) rfl ?_
      refine aw_aload_n (pc' := 49) nd_N_readsAreUnchanged_48 rfl rfl rfl ?_
      refine aw_aload (pc' := 51) nd_N_readsAreUnchanged_49 rfl rfl rfl ?_
      refine aw_callV (pc' := 54) (as := [_]) (st := []) nd_N_readsAreUnchanged_51 rfl nC_0_163 ⟨(Nat.le_of_ble_eq_true rfl), rfl, rfl⟩ ns_ioN (Nat.le_of_ble_eq_true rfl) (Nat.le_of_ble_eq_true rfl) (Nat.le_of_ble_eq_true rfl) ?_
      refine hB dd _ μ (rN μ k i) h r2 hf ?_
      show nW _ _ _ _ _ 54 _ [] _ _ _
      refine aw_aload (pc' := 56) nd_N_readsAreUnchanged_54 rfl rfl rfl ?_
      refine aw_get (pc' := 59) nd_N_readsAreUnchanged_56 rfl nF_0_176 (g_C_atWork (by assumption)) ?_
      refine aw_if_ne (pc' := 62) (tg := 74) nd_N_readsAreUnchanged_59 (by decide) rfl (fun hb59 => ?_) (fun hb59 => ?_)
      · skip
        refine aw_iconst (pc' := 75) (x := 0) nd_N_readsAreUnchanged_74 rfl (by decide) ?_
        refine aw_ireturn nd_N_readsAreUnchanged_75 rfl (by first | rfl | assumption) (Nat.le_of_ble_eq_true rfl) (Nat.le_of_ble_eq_true rfl) ?_
        first
          | (rw [if_neg hb59] at hq; exact hq)
          | (rw [if_pos hb59, if_neg hb71] at hq; exact hq)
      · skip
        refine aw_aload (pc' := 64) nd_N_readsAreUnchanged_62 rfl rfl rfl ?_
        refine aw_callV (pc' := 67) (as := []) (st := []) nd_N_readsAreUnchanged_64 rfl nC_0_110 ⟨(Nat.le_of_ble_eq_true rfl), rfl, rfl⟩ (ns_ioC (by assumption)) (Nat.le_of_ble_eq_true rfl) (Nat.le_of_ble_eq_true rfl) (Nat.le_of_ble_eq_true rfl) ?_
        refine c_C_since r2 ?_
        show nW _ _ _ _ _ 67 _ [_] _ _ _
        refine aw_aload_n (pc' := 68) nd_N_readsAreUnchanged_67 rfl rfl rfl ?_
        refine aw_get (pc' := 71) nd_N_readsAreUnchanged_68 rfl nF_0_117 (g_O_verified (by assumption)) ?_
        refine aw_icmp_le (pc' := 74) (tg := 76) nd_N_readsAreUnchanged_71 (by decide) rfl (fun hb71 => ?_) (fun hb71 => ?_)
        · skip
          refine aw_iinc (pc' := 79) (ls' := [_, _, _, _, _]) nd_N_readsAreUnchanged_76 rfl rfl (nI_1 i) rfl ?_
          refine aw_goto (pc' := 27) nd_N_readsAreUnchanged_79 (by decide) ?_
          rw [if_pos hb59, if_pos hb71] at hq
          exact ih (i + 1) dd Q _ _ (by omega) b1 (by rw [fw_FL b2 12 (by omega)]; exact hf) hq
        · skip
          refine aw_iconst (pc' := 75) (x := 0) nd_N_readsAreUnchanged_74 rfl (by decide) ?_
          refine aw_ireturn nd_N_readsAreUnchanged_75 rfl (by first | rfl | assumption) (Nat.le_of_ble_eq_true rfl) (Nat.le_of_ble_eq_true rfl) ?_
          first
            | (rw [if_neg hb59] at hq; exact hq)
            | (rw [if_pos hb59, if_neg hb71] at hq; exact hq)
    · rw [if_neg hi] at hq
      refine aw_iload_n (pc' := 28) nd_N_readsAreUnchanged_27 rfl rfl ?_
      refine aw_aload_n (pc' := 29) nd_N_readsAreUnchanged_28 rfl rfl rfl ?_
      refine aw_get (pc' := 32) nd_N_readsAreUnchanged_29 rfl nF_0_125 (g_O_readCount (by assumption)) ?_
      refine aw_icmp_ge (pc' := 35) (tg := 82) nd_N_readsAreUnchanged_32 (by decide) rfl (fun _ => ?_) (fun hx => absurd (by rw [n1]; exact nI_le (by omega) (by omega)) hx)
      refine aw_iconst (pc' := 83) (x := 1) nd_N_readsAreUnchanged_82 rfl (by decide) ?_
      refine aw_ireturn nd_N_readsAreUnchanged_83 rfl (by first | rfl | assumption) (Nat.le_of_ble_eq_true rfl) (Nat.le_of_ble_eq_true rfl) ?_
      exact hq

theorem k_ru {L : Nat} {xs : Nat → Int32} {cd : Nat → pC} {d e : Nat} {B : nMem → Nat → nMem} (hB : KB L xs cd d B (e + 2)) (pB : PB cd d B) : KR L xs cd d B (e + 3) := by
  intro dd Q μ k h hk hf hq
  show nM L xs ((dd + e + 2) + 1) _ _ _ _
  refine nM.of ns_I_N_readsAreUnchanged rfl (ls := [_, _, _, _, _]) (Nat.le_of_ble_eq_true rfl) rfl ?_
  refine aw_aload_n (pc' := 1) nd_N_readsAreUnchanged_0 rfl rfl rfl ?_
  refine aw_get (pc' := 4) nd_N_readsAreUnchanged_1 rfl nF_0_113 (g_C_note (by assumption)) ?_
  refine aw_astore_n (pc' := 5) (ls' := [_, _, _, _, _]) nd_N_readsAreUnchanged_4 rfl rfl (Nat.le_of_ble_eq_true rfl) rfl ?_
  refine aw_aload_n (pc' := 6) nd_N_readsAreUnchanged_5 rfl rfl rfl ?_
  refine aw_get (pc' := 9) nd_N_readsAreUnchanged_6 rfl nF_0_199 (g_O_exists (by assumption)) ?_
  refine aw_if_eq (pc' := 12) (tg := 23) nd_N_readsAreUnchanged_9 (by decide) rfl (fun hb9 => ?_) (fun hb9 => ?_)
  · skip
    refine aw_iconst (pc' := 24) (x := 0) nd_N_readsAreUnchanged_23 rfl (by decide) ?_
    refine aw_ireturn nd_N_readsAreUnchanged_24 rfl (by first | rfl | assumption) (Nat.le_of_ble_eq_true rfl) (Nat.le_of_ble_eq_true rfl) ?_
    unfold ruF at hq
    first
      | (rw [if_pos hb9] at hq; exact hq)
      | (rw [if_neg hb9, if_neg hb20] at hq; exact hq)
  · skip
    refine aw_aload_n (pc' := 13) nd_N_readsAreUnchanged_12 rfl rfl rfl ?_
    refine aw_get (pc' := 16) nd_N_readsAreUnchanged_13 rfl nF_0_154 (g_C_formulaChanged (by assumption)) ?_
    refine aw_aload_n (pc' := 17) nd_N_readsAreUnchanged_16 rfl rfl rfl ?_
    refine aw_get (pc' := 20) nd_N_readsAreUnchanged_17 rfl nF_0_117 (g_O_verified (by assumption)) ?_
    refine aw_icmp_le (pc' := 23) (tg := 25) nd_N_readsAreUnchanged_20 (by decide) rfl (fun hb20 => ?_) (fun hb20 => ?_)
    · skip
      refine aw_iconst (pc' := 26) (x := 0) nd_N_readsAreUnchanged_25 rfl (by decide) ?_
      refine aw_istore_n (pc' := 27) (ls' := [_, _, _, _, _]) nd_N_readsAreUnchanged_26 rfl (Nat.le_of_ble_eq_true rfl) rfl ?_
      unfold ruF at hq
      rw [if_neg hb9, if_pos hb20] at hq
      exact l_ru hk hB pB 13 0 dd Q μ none (by omega) h hf hq
    · skip
      refine aw_iconst (pc' := 24) (x := 0) nd_N_readsAreUnchanged_23 rfl (by decide) ?_
      refine aw_ireturn nd_N_readsAreUnchanged_24 rfl (by first | rfl | assumption) (Nat.le_of_ble_eq_true rfl) (Nat.le_of_ble_eq_true rfl) ?_
      unfold ruF at hq
      first
        | (rw [if_pos hb9] at hq; exact hq)
        | (rw [if_neg hb9, if_neg hb20] at hq; exact hq)

theorem k_bring {L : Nat} {xs : Nat → Int32} {cd : Nat → pC} {d e : Nat} {B W : nMem → Nat → nMem} (hR : KR L xs cd d B (e + 2)) (hW : KW L xs cd (d + 1) (wF cd B W) (e + 2)) (pB : PB cd d B) : KB L xs cd (d + 1) (bF cd B W) (e + 3) := by
  intro dd Q μ k h hk hf hq
  unfold bF at hq
  show nM L xs ((dd + e + 2) + 1) _ _ _ _
  refine nM.of ns_I_N_bringUpToDate rfl (ls := [_, _]) (Nat.le_of_ble_eq_true rfl) rfl ?_
  refine aw_aload_n (pc' := 1) nd_N_bringUpToDate_0 rfl rfl rfl ?_
  refine aw_get (pc' := 4) nd_N_bringUpToDate_1 rfl nF_0_84 (g_C_hasFormula (by assumption)) ?_
  refine aw_if_eq (pc' := 7) (tg := 28) nd_N_bringUpToDate_4 (by decide) rfl (fun hb4 => ?_) (fun hb4 => ?_)
  · skip
    refine aw_return nd_N_bringUpToDate_28 rfl (Nat.le_of_ble_eq_true rfl) (Nat.le_of_ble_eq_true rfl) ?_
    first
      | (rw [if_pos hb4] at hq; exact hq)
      | (rw [if_neg hb4, if_pos hb11] at hq; exact hq)
      | (rw [if_neg hb4, if_neg (fun z => z hb11), if_pos (Classical.not_not.mp (mt hvv.mpr hb25))] at hq; exact hq)
  · skip
    refine aw_aload_n (pc' := 8) nd_N_bringUpToDate_7 rfl rfl rfl ?_
    refine aw_get (pc' := 11) nd_N_bringUpToDate_8 rfl nF_0_176 (g_C_atWork (by assumption)) ?_
    refine aw_if_ne (pc' := 14) (tg := 28) nd_N_bringUpToDate_11 (by decide) rfl (fun hb11 => ?_) (fun hb11 => ?_)
    · skip
      refine aw_return nd_N_bringUpToDate_28 rfl (Nat.le_of_ble_eq_true rfl) (Nat.le_of_ble_eq_true rfl) ?_
      first
        | (rw [if_pos hb4] at hq; exact hq)
        | (rw [if_neg hb4, if_pos hb11] at hq; exact hq)
        | (rw [if_neg hb4, if_neg (fun z => z hb11), if_pos (Classical.not_not.mp (mt hvv.mpr hb25))] at hq; exact hq)
    · skip
      refine aw_aload_n (pc' := 15) nd_N_bringUpToDate_14 rfl rfl rfl ?_
      refine aw_get (pc' := 18) nd_N_bringUpToDate_15 rfl nF_0_113 (g_C_note (by assumption)) ?_
      refine aw_aload_n (pc' := 19) nd_N_bringUpToDate_18 rfl rfl rfl ?_
      refine aw_get (pc' := 22) nd_N_bringUpToDate_19 rfl nF_0_52 g_N_now ?_
      refine aw_callV (pc' := 25) (as := [_]) (st := []) nd_N_bringUpToDate_22 rfl nC_0_179 ⟨(Nat.le_of_ble_eq_true rfl), rfl, rfl⟩ (ns_ioO (by assumption)) (Nat.le_of_ble_eq_true rfl) (Nat.le_of_ble_eq_true rfl) (Nat.le_of_ble_eq_true rfl) ?_
      refine c_O_ver hk ?_
      have hvv : bi (if μ.1 (nN k) 2 = 0 then false else decide (μ.1 (nN k) 5 = μ.1 0 6)) = 0 ↔ ¬ (¬ μ.1 (nN k) 2 = 0 ∧ μ.1 (nN k) 5 = μ.1 0 6) := by
        rw [bi_0]
        by_cases z1 : μ.1 (nN k) 2 = 0 <;> by_cases z2 : μ.1 (nN k) 5 = μ.1 0 6 <;> simp [z1, z2]
      show nW _ _ _ _ _ 25 _ [_] _ _ _
      refine aw_if_eq (pc' := 28) (tg := 29) nd_N_bringUpToDate_25 (by decide) rfl (fun hb25 => ?_) (fun hb25 => ?_)
      · skip
        refine aw_aload_n (pc' := 30) nd_N_bringUpToDate_29 rfl rfl rfl ?_
        refine aw_iconst (pc' := 31) (x := 1) nd_N_bringUpToDate_30 rfl (by decide) ?_
        refine aw_put (pc' := 34) nd_N_bringUpToDate_31 rfl nF_0_176 (by first | exact Or.inl rfl | exact Or.inr rfl | assumption) (p_C_atWork (by assumption)) ?_
        rw [if_neg hb4, if_neg (fun z => z hb11), if_neg (hvv.mp hb25)] at hq
        generalize hm : ms μ (nC k) 9 1 = m at hq ⊢
        have l9 : FL m m := FL.rfl
        have wm : WF cd m := by rw [← hm]; exact h.cong (WE.ms (free_C hk (by decide)))
        have hfw := fw_set (μ := μ) (k := k) (x := 1) (by decide) hb4 hb11 12 (by omega)
        rw [if_pos hk, hm] at hfw
        have e4 : ¬ m.1 (nC k) 4 = 0 := by rw [← hm, ms_r, if_neg (fun z => by omega)]; exact hb4
        have e9 : m.1 (nC k) 9 = 1 := by rw [← hm, ms_s, pk_us]
        obtain ⟨jd, hjd, hj3⟩ := (wm k hk).2.1.1
        have hpp : bi (if m.1 (nN k) 2 = 0 then false else decide (m.1 98 jd ≤ m.1 (nN k) 5)) = 0 ↔ (m.1 (nN k) 2 = 0 ∨ ¬ m.1 98 (m.1 (nN k) 7).toNatClampNeg ≤ m.1 (nN k) 5) := by
          rw [bi_0, hjd, nI_clamp (by omega)]
          by_cases z1 : m.1 (nN k) 2 = 0 <;> by_cases z2 : m.1 98 jd ≤ m.1 (nN k) 5 <;> simp [z1, z2]
        unfold bIn at hq
        refine aw_aload_n (pc' := 35) nd_N_bringUpToDate_34 rfl rfl rfl ?_
        refine aw_aload_n (pc' := 36) nd_N_bringUpToDate_35 rfl rfl rfl ?_
        refine aw_get (pc' := 39) nd_N_bringUpToDate_36 rfl nF_0_113 (g_C_note (by assumption)) ?_
        refine aw_callV (pc' := 42) (as := [_]) (st := []) nd_N_bringUpToDate_39 rfl nC_0_182 ⟨(Nat.le_of_ble_eq_true rfl), rfl, rfl⟩ ns_ioN (Nat.le_of_ble_eq_true rfl) (Nat.le_of_ble_eq_true rfl) (Nat.le_of_ble_eq_true rfl) ?_
        refine c_N_passes hk hjd hj3 ?_
        show nW _ _ _ _ _ 42 _ [_] _ _ _
        refine aw_if_eq (pc' := 45) (tg := 54) nd_N_bringUpToDate_42 (by decide) rfl (fun hb42 => ?_) (fun hb42 => ?_)
        · skip
          refine aw_aload_n (pc' := 55) nd_N_bringUpToDate_54 rfl rfl rfl ?_
          refine aw_aload_n (pc' := 56) nd_N_bringUpToDate_55 rfl rfl rfl ?_
          refine aw_callV (pc' := 59) (as := [_]) (st := []) nd_N_bringUpToDate_56 rfl nC_0_190 ⟨(Nat.le_of_ble_eq_true rfl), rfl, rfl⟩ ns_ioN (Nat.le_of_ble_eq_true rfl) (Nat.le_of_ble_eq_true rfl) (Nat.le_of_ble_eq_true rfl) ?_
          rw [if_pos (hpp.mp hb42)] at hq
          obtain ⟨p1, p2⟩ := ruF_P pB wm hk (by omega)
          refine hR dd _ m k wm hk (by omega) ?_
          rcases hr : ruF B m k with ⟨ok, μ1⟩
          rw [hr] at hq p1 p2
          dsimp only at hq p1 p2 ⊢
          cases ok with
          | false =>
            dsimp only at hq
            show nW _ _ _ _ _ 59 _ [_] _ _ _
            refine aw_if_eq (pc' := 62) (tg := 86) nd_N_bringUpToDate_59 (by decide) rfl (fun _ => ?_) (fun hx => absurd (by decide) hx)
            refine aw_aload_n (pc' := 87) nd_N_bringUpToDate_86 rfl rfl rfl ?_
            refine aw_aload_n (pc' := 88) nd_N_bringUpToDate_87 rfl rfl rfl ?_
            refine aw_callV (pc' := 91) (as := [_]) (st := []) nd_N_bringUpToDate_88 rfl nC_0_166 ⟨(Nat.le_of_ble_eq_true rfl), rfl, rfl⟩ ns_ioN (Nat.le_of_ble_eq_true rfl) (Nat.le_of_ble_eq_true rfl) (Nat.le_of_ble_eq_true rfl) ?_
            have efw : fw (ms μ1 (nC k) 9 1) 12 = fw μ1 12 := fw_FL (fun j hj => by
              refine ⟨by rw [ms_r, if_neg (fun z => by omega)], ?_⟩
              rw [ms_r]
              split
              · rename_i z
                rw [z.1, (p2 k hk).2, e9]
              · rfl) 12 (by omega)
            refine hW dd _ μ1 k p1 hk (by rw [(p2 k hk).1]; exact e4) (by rw [efw, fw_FL p2 12 (by omega)]; omega) ?_
            show nW _ _ _ _ _ 91 _ [] _ _ _
            refine aw_aload_n (pc' := 92) nd_N_bringUpToDate_91 rfl rfl rfl ?_
            refine aw_iconst (pc' := 93) (x := 0) nd_N_bringUpToDate_92 rfl (by decide) ?_
            refine aw_put (pc' := 96) nd_N_bringUpToDate_93 rfl nF_0_176 (by first | exact Or.inl rfl | exact Or.inr rfl | assumption) (p_C_atWork (by assumption)) ?_
            refine aw_return nd_N_bringUpToDate_96 rfl (Nat.le_of_ble_eq_true rfl) (Nat.le_of_ble_eq_true rfl) ?_
            exact hq
          | true =>
            dsimp only at hq
            show nW _ _ _ _ _ 59 _ [_] _ _ _
            obtain ⟨n1, n2, n3⟩ := (p1 k hk).1.n
            refine aw_if_eq (pc' := 62) (tg := 86) nd_N_bringUpToDate_59 (by decide) rfl (fun hx => absurd hx (by decide)) (fun _ => ?_)
            refine aw_aload_n (pc' := 63) nd_N_bringUpToDate_62 rfl rfl rfl ?_
            refine aw_get (pc' := 66) nd_N_bringUpToDate_63 rfl nF_0_113 (g_C_note (by assumption)) ?_
            refine aw_aload_n (pc' := 67) nd_N_bringUpToDate_66 rfl rfl rfl ?_
            refine aw_aload_n (pc' := 68) nd_N_bringUpToDate_67 rfl rfl rfl ?_
            refine aw_get (pc' := 71) nd_N_bringUpToDate_68 rfl nF_0_113 (g_C_note (by assumption)) ?_
            refine aw_callV (pc' := 74) (as := [_]) (st := [_]) nd_N_bringUpToDate_71 rfl nC_0_194 ⟨(Nat.le_of_ble_eq_true rfl), rfl, rfl⟩ ns_ioN (Nat.le_of_ble_eq_true rfl) (Nat.le_of_ble_eq_true rfl) (Nat.le_of_ble_eq_true rfl) ?_
            refine c_N_least hk n1 n2 n3 ?_
            show nW _ _ _ _ _ 74 _ [_, _] _ _ _
            refine aw_put (pc' := 77) nd_N_bringUpToDate_74 rfl nF_0_198 trivial (p_O_durability (by assumption)) ?_
            refine aw_aload_n (pc' := 78) nd_N_bringUpToDate_77 rfl rfl rfl ?_
            refine aw_aload_n (pc' := 79) nd_N_bringUpToDate_78 rfl rfl rfl ?_
            refine aw_iconst (pc' := 80) (x := 1) nd_N_bringUpToDate_79 rfl (by decide) ?_
            refine aw_callV (pc' := 83) (as := [_, _]) (st := []) nd_N_bringUpToDate_80 rfl nC_0_186 ⟨(Nat.le_of_ble_eq_true rfl), rfl, rfl⟩ ns_ioN (Nat.le_of_ble_eq_true rfl) (Nat.le_of_ble_eq_true rfl) (Nat.le_of_ble_eq_true rfl) ?_
            refine c_N_verify hk (j := 1) (by decide) ?_
            show nW _ _ _ _ _ 83 _ [] _ _ _
            refine aw_goto (pc' := 91) nd_N_bringUpToDate_83 (by decide) ?_
            refine aw_aload_n (pc' := 92) nd_N_bringUpToDate_91 rfl rfl rfl ?_
            refine aw_iconst (pc' := 93) (x := 0) nd_N_bringUpToDate_92 rfl (by decide) ?_
            refine aw_put (pc' := 96) nd_N_bringUpToDate_93 rfl nF_0_176 (by first | exact Or.inl rfl | exact Or.inr rfl | assumption) (p_C_atWork (by assumption)) ?_
            refine aw_return nd_N_bringUpToDate_96 rfl (Nat.le_of_ble_eq_true rfl) (Nat.le_of_ble_eq_true rfl) ?_
            exact hq
        · skip
          refine aw_aload_n (pc' := 46) nd_N_bringUpToDate_45 rfl rfl rfl ?_
          refine aw_aload_n (pc' := 47) nd_N_bringUpToDate_46 rfl rfl rfl ?_
          refine aw_iconst (pc' := 48) (x := 2) nd_N_bringUpToDate_47 rfl (by decide) ?_
          refine aw_callV (pc' := 51) (as := [_, _]) (st := []) nd_N_bringUpToDate_48 rfl nC_0_186 ⟨(Nat.le_of_ble_eq_true rfl), rfl, rfl⟩ ns_ioN (Nat.le_of_ble_eq_true rfl) (Nat.le_of_ble_eq_true rfl) (Nat.le_of_ble_eq_true rfl) ?_
          rw [if_neg (fun z => hb42 (hpp.mpr z))] at hq
          refine c_N_verify hk (j := 2) (by decide) ?_
          show nW _ _ _ _ _ 51 _ [] _ _ _
          refine aw_goto (pc' := 91) nd_N_bringUpToDate_51 (by decide) ?_
          refine aw_aload_n (pc' := 92) nd_N_bringUpToDate_91 rfl rfl rfl ?_
          refine aw_iconst (pc' := 93) (x := 0) nd_N_bringUpToDate_92 rfl (by decide) ?_
          refine aw_put (pc' := 96) nd_N_bringUpToDate_93 rfl nF_0_176 (by first | exact Or.inl rfl | exact Or.inr rfl | assumption) (p_C_atWork (by assumption)) ?_
          refine aw_return nd_N_bringUpToDate_96 rfl (Nat.le_of_ble_eq_true rfl) (Nat.le_of_ble_eq_true rfl) ?_
          exact hq
      · skip
        refine aw_return nd_N_bringUpToDate_28 rfl (Nat.le_of_ble_eq_true rfl) (Nat.le_of_ble_eq_true rfl) ?_
        first
          | (rw [if_pos hb4] at hq; exact hq)
          | (rw [if_neg hb4, if_pos hb11] at hq; exact hq)
          | (rw [if_neg hb4, if_neg (fun z => z hb11), if_pos (Classical.not_not.mp (mt hvv.mpr hb25))] at hq; exact hq)

theorem k_bw {L : Nat} {xs : Nat → Int32} (cd : Nat → pC) : ∀ d, KB L xs cd d (bw cd d).1 (5 * d + 4) ∧ KW L xs cd d (bw cd d).2 (5 * d + 3) := by
  intro d
  induction d with
  | zero =>
    refine ⟨?_, fun _ _ _ _ _ _ _ h => absurd h (by omega)⟩
    intro dd Q μ k h hk hf hq
    have h9 : μ.1 (nC k) 4 = 0 ∨ ¬ μ.1 (nC k) 9 = 0 := by
      by_cases z4 : μ.1 (nC k) 4 = 0
      · exact Or.inl z4
      · refine Or.inr (fun z9 => ?_)
        have := fw_pos z4 z9 12 hk
        omega
    show nM L xs ((dd + 3) + 1) _ _ _ _
    refine nM.of ns_I_N_bringUpToDate rfl (ls := [_, _]) (Nat.le_of_ble_eq_true rfl) rfl ?_
    refine aw_aload_n (pc' := 1) nd_N_bringUpToDate_0 rfl rfl rfl ?_
    refine aw_get (pc' := 4) nd_N_bringUpToDate_1 rfl nF_0_84 (g_C_hasFormula hk) ?_
    refine aw_if_eq (pc' := 7) (tg := 28) nd_N_bringUpToDate_4 (by decide) rfl (fun _ => ?_) (fun z4 => ?_)
    · exact aw_return nd_N_bringUpToDate_28 rfl (Nat.le_of_ble_eq_true rfl) (Nat.le_of_ble_eq_true rfl) hq
    · refine aw_aload_n (pc' := 8) nd_N_bringUpToDate_7 rfl rfl rfl ?_
      refine aw_get (pc' := 11) nd_N_bringUpToDate_8 rfl nF_0_176 (g_C_atWork hk) ?_
      refine aw_if_ne (pc' := 14) (tg := 28) nd_N_bringUpToDate_11 (by decide) rfl (fun _ => ?_) (fun z9 => absurd z9 (h9.resolve_left z4))
      exact aw_return nd_N_bringUpToDate_28 rfl (Nat.le_of_ble_eq_true rfl) (Nat.le_of_ble_eq_true rfl) hq
  | succ d ih =>
    obtain ⟨hB, hW⟩ := ih
    obtain ⟨pB, pW⟩ := bw_P cd d
    have u1 := k_up (e := 5 * d + 2) (hB.up (by omega)) (hW.up (by omega)) pB
    have g1 := k_give (e := 5 * d + 3) u1
    have e1 := k_eval (e := 5 * d + 4) g1 pB pW
    have w1 := k_work (e := 5 * d + 5) e1 pB pW
    have r1 := k_ru (e := 5 * d + 2) (hB.up (by omega)) pB
    have b1 := k_bring (e := 5 * d + 6) (W := (bw cd d).2) (r1.up (by omega)) w1 pB
    exact ⟨b1.up (by omega), w1.up (by omega)⟩

def lz : Nat → nMem → nMem
  | 0, m => m
  | i + 1, m => ms (lz i m) 99 i 0
theorem lz_o {i : Nat} {m : nMem} {b : Nat} (h : ¬ b = 99) : (lz i m).1 b = m.1 b := by
  induction i with
  | zero => rfl
  | succ i ih => rw [lz, ms_o h, ih]
theorem lz_E {i : Nat} {m : nMem} : WE m (lz i m) := by
  induction i with
  | zero => exact WE.rfl
  | succ i ih => exact ih.trans (WE.ms free_99)
theorem lz_L {i : Nat} {m : nMem} : FL m (lz i m) := by
  induction i with
  | zero => exact FL.rfl
  | succ i ih => exact ih.trans (FL.ms fl_99)
/-- ask of cell k: what the class answers, and its memory behind it -/
def askF (cd : Nat → pC) (kp : Nat) (μ : nMem) (k : Nat) : Int64 × nMem := match uF (bw cd 12).1 (bw cd 12).2 (lz 3 μ) k with
  | (v, μ1) => (v, dk (vcn μ1 12 - kp) μ1)

theorem l_ask {L : Nat} {xs : Nat → Int32} {d : Nat} {Q : ax_Q} {μ : nMem} {x : Int32} : ∀ z i, z + i = 3 → nW L xs d ns_I_N_ask Q 35 [some (.ref 0), some (.int x), some (.int (nI 3)), none] [] 0 0 (ns_rep (lz 3 μ)) → nW L xs d ns_I_N_ask Q 13 [some (.ref 0), some (.int x), some (.int (nI i)), none] [] 0 0 (ns_rep (lz i μ)) := by
  intro z
  induction z with
  | zero =>
    intro i hi kk
    obtain rfl : i = 3 := by omega
    refine aw_iload_n (pc' := 14) nd_N_ask_13 rfl rfl ?_
    refine aw_aload_n (pc' := 15) nd_N_ask_14 rfl rfl rfl ?_
    refine aw_get (pc' := 18) nd_N_ask_15 rfl nF_0_33 g_N_latestTally ?_
    refine aw_alen (pc' := 19) nd_N_ask_18 rfl ga_latestTally.1 ?_
    refine aw_icmp_ge (pc' := 22) (tg := 35) nd_N_ask_19 (by decide) rfl (fun _ => ?_) (fun hx => absurd (by decide) hx)
    exact kk
  | succ z ih =>
    intro i hi kk
    refine aw_iload_n (pc' := 14) nd_N_ask_13 rfl rfl ?_
    refine aw_aload_n (pc' := 15) nd_N_ask_14 rfl rfl rfl ?_
    refine aw_get (pc' := 18) nd_N_ask_15 rfl nF_0_33 g_N_latestTally ?_
    refine aw_alen (pc' := 19) nd_N_ask_18 rfl ga_latestTally.1 ?_
    refine aw_icmp_ge (pc' := 22) (tg := 35) nd_N_ask_19 (by decide) rfl (fun hx => absurd hx (nI_ge (b := 3) (by omega) (by decide))) (fun _ => ?_)
    refine aw_aload_n (pc' := 23) nd_N_ask_22 rfl rfl rfl ?_
    refine aw_get (pc' := 26) nd_N_ask_23 rfl nF_0_33 g_N_latestTally ?_
    refine aw_iload_n (pc' := 27) nd_N_ask_26 rfl rfl ?_
    refine aw_iconst (pc' := 28) (x := 0) nd_N_ask_27 rfl (by decide) ?_
    refine aw_iast (pc' := 29) nd_N_ask_28 rfl rfl i rfl (by omega) pa_latestTally ?_
    refine aw_iinc (pc' := 32) (ls' := [_, _, _, _]) nd_N_ask_29 rfl rfl (nI_1 i) rfl ?_
    refine aw_goto (pc' := 13) nd_N_ask_32 (by decide) ?_
    exact ih (i + 1) (by omega) kk

theorem fw_le (μ : nMem) (i : Nat) : fw μ i ≤ i := by
  induction i with
  | zero => exact Nat.le_refl _
  | succ i ih => unfold fw; (repeat' split) <;> omega
theorem fw_12 (μ : nMem) : fw μ 12 ≤ 12 := fw_le μ 12

theorem c_N_ask {L : Nat} {xs : Nat → Int32} {d : Nat} {Q : ax_Q} {cd : Nat → pC} {μ : nMem} {x : Int32} {kp : Nat} (h : WF cd μ) (h9 : ∀ j, j < 12 → μ.1 (nC j) 9 = 0) (hk12 : kp ≤ 12) (hkp : ∀ k, k < 12 → x = nI k → (uF (bw cd 12).1 (bw cd 12).2 (lz 3 μ) k).2.1 0 5 = nI kp) (hq0 : ic x = false → Q (some (.long (-1))) (ns_rep μ)) (hq1 : ∀ k, k < 12 → x = nI k → Q (some (.long (askF cd kp μ k).1)) (ns_rep (askF cd kp μ k).2)) : nM L xs (d + 66) 4 [.ref 0, .int x] (ns_rep μ) Q := by
  refine nM.of ns_I_N_ask rfl (ls := [_, _, _, _]) (Nat.le_of_ble_eq_true rfl) rfl ?_
  refine aw_iload_n (pc' := 1) nd_N_ask_0 rfl rfl ?_
  refine aw_callS (a := 0) (pc' := 4) (as := [_]) (st := []) nd_N_ask_1 rfl nC_0_62 ⟨(Nat.le_of_ble_eq_true rfl), rfl, rfl⟩ (Nat.le_of_ble_eq_true rfl) (Nat.le_of_ble_eq_true rfl) (Nat.le_of_ble_eq_true rfl) ?_
  refine c_N_isCell ?_
  change nW _ _ _ _ _ _ _ ((some (Value.int (bi (ic x)))).toList ++ _) _ _ _
  show nW _ _ _ _ _ 4 _ [_] _ _ _
  refine aw_if_ne (pc' := 7) (tg := 11) nd_N_ask_4 (by decide) rfl (fun hb4 => ?_) (fun hb4 => ?_)
  · skip
    obtain ⟨k, hk, rfl⟩ := ic_t (bi_t hb4)
    refine aw_iconst (pc' := 12) (x := 0) nd_N_ask_11 rfl (by decide) ?_
    refine aw_istore_n (pc' := 13) (ls' := [_, _, _, _]) nd_N_ask_12 rfl (Nat.le_of_ble_eq_true rfl) rfl ?_
    refine l_ask 3 0 (by omega) ?_
    refine aw_aload_n (pc' := 36) nd_N_ask_35 rfl rfl rfl ?_
    refine aw_aload_n (pc' := 37) nd_N_ask_36 rfl rfl rfl ?_
    refine aw_get (pc' := 40) nd_N_ask_37 rfl nF_0_24 g_N_cells ?_
    refine aw_iload_n (pc' := 41) nd_N_ask_40 rfl rfl ?_
    refine aw_cells (pc' := 42) nd_N_ask_41 rfl k rfl hk ?_
    refine aw_callV (pc' := 45) (as := [_]) (st := []) nd_N_ask_42 rfl nC_0_100 ⟨(Nat.le_of_ble_eq_true rfl), rfl, rfl⟩ ns_ioN (Nat.le_of_ble_eq_true rfl) (Nat.le_of_ble_eq_true rfl) (Nat.le_of_ble_eq_true rfl) ?_
    have wl : WF cd (lz 3 μ) := h.cong lz_E
    have u1 := k_up (e := 62) ((k_bw (L := L) (xs := xs) cd 12).1.up (by omega)) ((k_bw (L := L) (xs := xs) cd 12).2.up (by omega)) (bw_P cd 12).1
    refine u1 d _ (lz 3 μ) k wl hk (by rw [lz_o (by unfold nC; omega)]; exact h9 k hk) (fw_12 _) ?_
    have pu := hkp k hk rfl
    unfold askF at hq1
    rcases hu : uF (bw cd 12).1 (bw cd 12).2 (lz 3 μ) k with ⟨v, μ1⟩
    have hq := hq1 k hk rfl
    rw [hu] at hq pu
    dsimp only at hq pu ⊢
    show nW _ _ _ _ _ 45 _ [_] _ _ _
    refine aw_lstore_n (pc' := 46) (ls' := [_, _, _, _]) nd_N_ask_45 rfl (Nat.le_of_ble_eq_true rfl) rfl ?_
    refine aw_aload_n (pc' := 47) nd_N_ask_46 rfl rfl rfl ?_
    refine aw_callV (pc' := 50) (as := []) (st := []) nd_N_ask_47 rfl nC_0_104 ⟨(Nat.le_of_ble_eq_true rfl), rfl, rfl⟩ ns_ioN (Nat.le_of_ble_eq_true rfl) (Nat.le_of_ble_eq_true rfl) (Nat.le_of_ble_eq_true rfl) ?_
    refine c_N_dropK hk12 pu ?_
    show nW _ _ _ _ _ 50 _ [] _ _ _
    refine aw_lload_n (pc' := 51) nd_N_ask_50 rfl rfl ?_
    refine aw_lreturn nd_N_ask_51 rfl (Nat.le_of_ble_eq_true rfl) (Nat.le_of_ble_eq_true rfl) ?_
    exact hq
  · skip
    refine aw_ldc2 (pc' := 10) nd_N_ask_7 rfl nK_0_98 ?_
    refine aw_lreturn nd_N_ask_10 rfl (Nat.le_of_ble_eq_true rfl) (Nat.le_of_ble_eq_true rfl) ?_
    exact hq0 (bi_f hb4)
