/-! the parser's contracts -/
/-- a part of the parser that answers as G does, with fuel f -/
def CU (L : Nat) (xs : Nat → Int32) (μ0 : nMem) (n f : Nat) (G : Nat → Nat → pC → pR) (id dep : Nat) : Prop := ∀ (d : Nat) (Q : ax_Q) (μ : nMem) (dp i : Nat) (cs : pC), PSt μ0 μ i cs → dp ≤ 5 → i ≤ n → n - i < f → cs.length ≤ i → (∀ μ', PSt μ0 μ' (G dp i cs).2.1 (G dp i cs).2.2 → Q (some (.int (bi (G dp i cs).1))) (ns_rep μ')) → nM L xs (d + dep) id [.ref 103, .int (nI dp)] (ns_rep μ) Q

theorem l_P_prod {L : Nat} {xs : Nat → Int32} {μ0 : nMem} {n f : Nat} (hH : PH μ0 n) {U : Nat → Nat → pC → pR} {e : Nat} (hU : CU L xs μ0 n f U 102 (e + 2)) (hUo : pAll n U f) : ∀ (g j d : Nat) (Q : ax_Q) (μ : nMem) (dp i : Nat) (cs : pC), g + j = 30 → PSt μ0 μ i cs → dp ≤ 5 → i ≤ n → n - i < f → cs.length ≤ i → (∀ μ', PSt μ0 μ' (pPl (μ0.1 (nT 12)) n U g dp i cs).2.1 (pPl (μ0.1 (nT 12)) n U g dp i cs).2.2 → Q (some (.int (bi (pPl (μ0.1 (nT 12)) n U g dp i cs).1))) (ns_rep μ')) → nW L xs (d + e + 2) ns_I_P_takeProduct Q 12 [some (.ref 103), some (.int (nI dp)), some (.int (nI j))] [] 0 0 (ns_rep μ) := by
  have h12 : 12 < 13 := by omega
  have hn30 := hH.2.1
  intro g
  induction g with
  | zero =>
    intro j d Q μ dp i cs hg hs hdp hi hf hcs hq
    obtain rfl : j = 30 := by omega
    refine aw_iload_n (pc' := 13) nd_P_takeProduct_12 rfl rfl ?_
    refine aw_bipush (pc' := 15) (x := 30) nd_P_takeProduct_13 rfl (by decide) ?_
    refine aw_icmp_ge (pc' := 18) (tg := 54) nd_P_takeProduct_15 (by decide) rfl (fun _ => ?_) (fun hx => absurd (by decide) hx)
    refine aw_iconst (pc' := 55) (x := 1) nd_P_takeProduct_54 rfl (by decide) ?_
    refine aw_ireturn nd_P_takeProduct_55 rfl (by first | rfl | assumption) (Nat.le_of_ble_eq_true rfl) (Nat.le_of_ble_eq_true rfl) ?_
    exact hq _ hs
  | succ g ih =>
    intro j d Q μ dp i cs hg hs hdp hi hf hcs hq
    refine aw_iload_n (pc' := 13) nd_P_takeProduct_12 rfl rfl ?_
    refine aw_bipush (pc' := 15) (x := 30) nd_P_takeProduct_13 rfl (by decide) ?_
    refine aw_icmp_ge (pc' := 18) (tg := 54) nd_P_takeProduct_15 (by decide) rfl (fun hx => absurd hx (nI_ge (b := 30) (by omega) (by decide))) (fun _ => ?_)
    refine aw_aload_n (pc' := 19) nd_P_takeProduct_18 rfl rfl rfl ?_
    refine aw_bipush (pc' := 21) (x := 42) nd_P_takeProduct_19 rfl (by decide) ?_
    refine aw_callV (pc' := 24) (as := [_]) (st := []) nd_P_takeProduct_21 rfl nC_4_46 ⟨(Nat.le_of_ble_eq_true rfl), rfl, rfl⟩ ns_ioP (Nat.le_of_ble_eq_true rfl) (Nat.le_of_ble_eq_true rfl) (Nat.le_of_ble_eq_true rfl) ?_
    refine c_P_take hH hs hi (c := 42) (fun ht1 μ1 hs1 => ?_) (fun ht1 => ?_)
    · skip
      have hlt1 := nx_lt ht1 (by decide)
      show nW _ _ _ _ _ 24 _ [_] _ _ _
      refine aw_if_eq (pc' := 27) (tg := 54) nd_P_takeProduct_24 (by decide) rfl (fun hx => absurd hx (by decide)) (fun _ => ?_)
      refine aw_aload_n (pc' := 28) nd_P_takeProduct_27 rfl rfl rfl ?_
      refine aw_iload_n (pc' := 29) nd_P_takeProduct_28 rfl rfl ?_
      refine aw_callV (pc' := 32) (as := [_]) (st := []) nd_P_takeProduct_29 rfl nC_4_60 ⟨(Nat.le_of_ble_eq_true rfl), rfl, rfl⟩ ns_ioP (Nat.le_of_ble_eq_true rfl) (Nat.le_of_ble_eq_true rfl) (Nat.le_of_ble_eq_true rfl) ?_
      have ho2 := hUo dp (i + 1) cs (by omega) (by omega)
      refine hU d _ _ dp (i + 1) cs hs1 hdp (by omega) (by omega) (by omega) ?_
      rcases hr2 : U dp (i + 1) cs with ⟨ok2, i2, cs2⟩
      rw [hr2] at ho2
      obtain ⟨oa2, ob2, oc2, od2⟩ := ho2
      dsimp only at oa2 ob2 oc2 od2
      dsimp only
      intro μ2 hs2
      cases ok2 with
      | false =>
        show nW _ _ _ _ _ 32 _ [_] _ _ _
        refine aw_if_ne (pc' := 35) (tg := 37) nd_P_takeProduct_32 (by decide) rfl (fun hx => absurd (by decide) hx) (fun _ => ?_)
        refine aw_iconst (pc' := 36) (x := 0) nd_P_takeProduct_35 rfl (by decide) ?_
        refine aw_ireturn nd_P_takeProduct_36 rfl (by first | rfl | assumption) (Nat.le_of_ble_eq_true rfl) (Nat.le_of_ble_eq_true rfl) ?_
        simp only [pPl, ht1, hr2, if_true, if_false] at hq
        exact hq _ hs2
      | true =>
        show nW _ _ _ _ _ 32 _ [_] _ _ _
        refine aw_if_ne (pc' := 35) (tg := 37) nd_P_takeProduct_32 (by decide) rfl (fun _ => ?_) (fun hx => absurd hx (by decide))
        refine aw_aload_n (pc' := 38) nd_P_takeProduct_37 rfl rfl rfl ?_
        refine aw_get (pc' := 41) nd_P_takeProduct_38 rfl nF_4_9 g_P_formula ?_
        refine aw_bipush (pc' := 43) (x := 8) nd_P_takeProduct_41 rfl (by decide) ?_
        refine aw_iconst (pc' := 44) (x := 0) nd_P_takeProduct_43 rfl (by decide) ?_
        refine aw_callV (pc' := 47) (as := [_, _]) (st := []) nd_P_takeProduct_44 rfl nC_4_42 ⟨(Nat.le_of_ble_eq_true rfl), rfl, rfl⟩ (ns_ioF h12) (Nat.le_of_ble_eq_true rfl) (Nat.le_of_ble_eq_true rfl) (Nat.le_of_ble_eq_true rfl) ?_
        refine c_P_add hs2 (8, 0) rfl rfl (by decide) (by decide) (by omega) (fun μ3 hs3 => ?_)
        show nW _ _ _ _ _ 47 _ [_] _ _ _
        refine aw_pop (pc' := 48) nd_P_takeProduct_47 rfl rfl ?_
        refine aw_iinc (pc' := 51) (ls' := [_, _, _]) nd_P_takeProduct_48 rfl rfl (nI_1 j) rfl ?_
        refine aw_goto (pc' := 12) nd_P_takeProduct_51 (by decide) ?_
        have hq2 := hq
        simp only [pPl, ht1, hr2, if_true] at hq2
        exact ih (j + 1) _ _ _ dp i2 (cs2 ++ [(8, 0)]) (by omega) hs3 hdp ob2 (by omega) (by simp only [List.length_append, List.length_singleton]; omega) hq2
    · skip
      show nW _ _ _ _ _ 24 _ [_] _ _ _
      refine aw_if_eq (pc' := 27) (tg := 54) nd_P_takeProduct_24 (by decide) rfl (fun _ => ?_) (fun hx => absurd (by decide) hx)
      refine aw_iconst (pc' := 55) (x := 1) nd_P_takeProduct_54 rfl (by decide) ?_
      refine aw_ireturn nd_P_takeProduct_55 rfl (by first | rfl | assumption) (Nat.le_of_ble_eq_true rfl) (Nat.le_of_ble_eq_true rfl) ?_
      simp only [pPl, ht1, if_true, if_false] at hq
      exact hq _ hs

theorem c_P_prod {L : Nat} {xs : Nat → Int32} {μ0 : nMem} {n f : Nat} (hH : PH μ0 n) {U : Nat → Nat → pC → pR} {e : Nat} (hU : CU L xs μ0 n f U 102 (e + 2)) (hUo : pAll n U f) : CU L xs μ0 n f (pP (μ0.1 (nT 12)) n U) 101 (e + 3) := by
  intro d Q μ dp i cs hs hdp hi hf hcs hq
  show nM L xs ((d + e + 2) + 1) _ _ _ _
  refine nM.of ns_I_P_takeProduct rfl (ls := [_, _, _]) (Nat.le_of_ble_eq_true rfl) rfl ?_
  refine aw_aload_n (pc' := 1) nd_P_takeProduct_0 rfl rfl rfl ?_
  refine aw_iload_n (pc' := 2) nd_P_takeProduct_1 rfl rfl ?_
  refine aw_callV (pc' := 5) (as := [_]) (st := []) nd_P_takeProduct_2 rfl nC_4_60 ⟨(Nat.le_of_ble_eq_true rfl), rfl, rfl⟩ ns_ioP (Nat.le_of_ble_eq_true rfl) (Nat.le_of_ble_eq_true rfl) (Nat.le_of_ble_eq_true rfl) ?_
  have ho4 := hUo dp i cs hi hf
  refine hU d _ _ dp i cs hs hdp hi hf hcs ?_
  rcases hr4 : U dp i cs with ⟨ok4, i4, cs4⟩
  rw [hr4] at ho4
  obtain ⟨oa4, ob4, oc4, od4⟩ := ho4
  dsimp only at oa4 ob4 oc4 od4
  dsimp only
  intro μ4 hs4
  cases ok4 with
  | false =>
    show nW _ _ _ _ _ 5 _ [_] _ _ _
    refine aw_if_ne (pc' := 8) (tg := 10) nd_P_takeProduct_5 (by decide) rfl (fun hx => absurd (by decide) hx) (fun _ => ?_)
    refine aw_iconst (pc' := 9) (x := 0) nd_P_takeProduct_8 rfl (by decide) ?_
    refine aw_ireturn nd_P_takeProduct_9 rfl (by first | rfl | assumption) (Nat.le_of_ble_eq_true rfl) (Nat.le_of_ble_eq_true rfl) ?_
    simp only [pP, hr4] at hq
    exact hq _ hs4
  | true =>
    show nW _ _ _ _ _ 5 _ [_] _ _ _
    refine aw_if_ne (pc' := 8) (tg := 10) nd_P_takeProduct_5 (by decide) rfl (fun _ => ?_) (fun hx => absurd hx (by decide))
    refine aw_iconst (pc' := 11) (x := 0) nd_P_takeProduct_10 rfl (by decide) ?_
    refine aw_istore_n (pc' := 12) (ls' := [_, _, _]) nd_P_takeProduct_11 rfl (Nat.le_of_ble_eq_true rfl) rfl ?_
    refine l_P_prod hH hU hUo 30 0 d Q _ dp i4 cs4 (by omega) hs4 hdp ob4 (by omega) (by omega) ?_
    simp only [pP, hr4] at hq
    exact hq
