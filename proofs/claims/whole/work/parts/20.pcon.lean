/-! the parser's contracts -/
/-- a part of the parser that answers as G does, with fuel f -/
def CU (L : Nat) (xs : Nat → Int32) (μ0 : nMem) (n f : Nat) (G : Nat → Nat → pC → pR) (id dep : Nat) : Prop := ∀ (d : Nat) (Q : ax_Q) (μ : nMem) (dp i : Nat) (cs : pC), PSt μ0 μ i cs → dp ≤ 5 → i ≤ n → n - i < f → cs.length ≤ i → (∀ μ', PSt μ0 μ' (G dp i cs).2.1 (G dp i cs).2.2 → Q (some (.int (bi (G dp i cs).1))) (ns_rep μ')) → nM L xs (d + dep) id [.ref 103, .int (nI dp)] (ns_rep μ) Q

theorem l_P_prod {L : Nat} {xs : Nat → Int32} {μ0 : nMem} {n f : Nat} (hH : PH μ0 n) {U : Nat → Nat → pC → pR} {e : Nat} (hU : CU L xs μ0 n f U 102 (e + 2)) (hUo : pAll n U f) : ∀ (g j d : Nat) (Q : ax_Q) (μ : nMem) (dp i : Nat) (cs : pC), g + j = 30 → PSt μ0 μ i cs → dp ≤ 5 → i ≤ n → n - i < f → cs.length ≤ i → (∀ μ', PSt μ0 μ' (pPl (μ0.1 (nT 12)) n U g dp i cs).2.1 (pPl (μ0.1 (nT 12)) n U g dp i cs).2.2 → Q (some (.int (bi (pPl (μ0.1 (nT 12)) n U g dp i cs).1))) (ns_rep μ')) → nW L xs (d + e + 2) ns_I_P_takeProduct Q 12 [some (.ref 103), some (.int (nI dp)), some (.int (nI j))] [] 0 0 (ns_rep μ) := by
  have h12 : 12 < 13 := by omega
  have hn30 := hH.2.1
  intro g
  induction g with
  | zero =>
    intro j d Q μ dp i cs hg hs hdp hi hf hcs hq
    obtain rfl : j = 30 := by omega
    refine aw_iload_n (pc' := 13) nd_P_takeProduct_12 rfl rfl ?_
    refine aw_bipush (pc' := 15) (x := 30) nd_P_takeProduct_13 rfl (by decide) ?_
    refine aw_icmp_ge (pc' := 18) (tg := 54) nd_P_takeProduct_15 (by decide) rfl (fun _ => ?_) (fun hx => absurd (by decide) hx)
    refine aw_iconst (pc' := 55) (x := 1) nd_P_takeProduct_54 rfl (by decide) ?_
    refine aw_ireturn nd_P_takeProduct_55 rfl (by first | rfl | assumption) (Nat.le_of_ble_eq_true rfl) (Nat.le_of_ble_eq_true rfl) ?_
    exact hq _ hs
  | succ g ih =>
    intro j d Q μ dp i cs hg hs hdp hi hf hcs hq
    refine aw_iload_n (pc' := 13) nd_P_takeProduct_12 rfl rfl ?_
    refine aw_bipush (pc' := 15) (x := 30) nd_P_takeProduct_13 rfl (by decide) ?_
    refine aw_icmp_ge (pc' := 18) (tg := 54) nd_P_takeProduct_15 (by decide) rfl (fun hx => absurd hx (nI_ge (b := 30) (by omega) (by decide))) (fun _ => ?_)
    refine aw_aload_n (pc' := 19) nd_P_takeProduct_18 rfl rfl rfl ?_
    refine aw_bipush (pc' := 21) (x := 42) nd_P_takeProduct_19 rfl (by decide) ?_
    refine aw_callV (pc' := 24) (as := [_]) (st := []) nd_P_takeProduct_21 rfl nC_4_46 ⟨(Nat.le_of_ble_eq_true rfl), rfl, rfl⟩ ns_ioP (Nat.le_of_ble_eq_true rfl) (Nat.le_of_ble_eq_true rfl) (Nat.le_of_ble_eq_true rfl) ?_
    refine c_P_take hH hs hi (c := 42) (fun ht1 μ1 hs1 => ?_) (fun ht1 => ?_)
    · skip
      have hlt1 := nx_lt ht1 (by decide)
      show nW _ _ _ _ _ 24 _ [_] _ _ _
      refine aw_if_eq (pc' := 27) (tg := 54) nd_P_takeProduct_24 (by decide) rfl (fun hx => absurd hx (by decide)) (fun _ => ?_)
      refine aw_aload_n (pc' := 28) nd_P_takeProduct_27 rfl rfl rfl ?_
      refine aw_iload_n (pc' := 29) nd_P_takeProduct_28 rfl rfl ?_
      refine aw_callV (pc' := 32) (as := [_]) (st := []) nd_P_takeProduct_29 rfl nC_4_60 ⟨(Nat.le_of_ble_eq_true rfl), rfl, rfl⟩ ns_ioP (Nat.le_of_ble_eq_true rfl) (Nat.le_of_ble_eq_true rfl) (Nat.le_of_ble_eq_true rfl) ?_
      have ho2 := hUo dp (i + 1) cs (by omega) (by omega)
      refine hU d _ _ dp (i + 1) cs hs1 hdp (by omega) (by omega) (by omega) ?_
      rcases hr2 : U dp (i + 1) cs with ⟨ok2, i2, cs2⟩
      rw [hr2] at ho2
      obtain ⟨oa2, ob2, oc2, od2⟩ := ho2
      dsimp only at oa2 ob2 oc2 od2
      dsimp only
      intro μ2 hs2
      cases ok2 with
      | false =>
        show nW _ _ _ _ _ 32 _ [_] _ _ _
        refine aw_if_ne (pc' := 35) (tg := 37) nd_P_takeProduct_32 (by decide) rfl (fun hx => absurd (by decide) hx) (fun _ => ?_)
        refine aw_iconst (pc' := 36) (x := 0) nd_P_takeProduct_35 rfl (by decide) ?_
        refine aw_ireturn nd_P_takeProduct_36 rfl (by first | rfl | assumption) (Nat.le_of_ble_eq_true rfl) (Nat.le_of_ble_eq_true rfl) ?_
        simp only [pPl, ht1, hr2, if_true, if_false] at hq
        exact hq _ hs2
      | true =>
        show nW _ _ _ _ _ 32 _ [_] _ _ _
        refine aw_if_ne (pc' := 35) (tg := 37) nd_P_takeProduct_32 (by decide) rfl (fun _ => ?_) (fun hx => absurd hx (by decide))
        refine aw_aload_n (pc' := 38) nd_P_takeProduct_37 rfl rfl rfl ?_
        refine aw_get (pc' := 41) nd_P_takeProduct_38 rfl nF_4_9 g_P_formula ?_
        refine aw_bipush (pc' := 43) (x := 8) nd_P_takeProduct_41 rfl (by decide) ?_
        refine aw_iconst (pc' := 44) (x := 0) nd_P_takeProduct_43 rfl (by decide) ?_
        refine aw_callV (pc' := 47) (as := [_, _]) (st := []) nd_P_takeProduct_44 rfl nC_4_42 ⟨(Nat.le_of_ble_eq_true rfl), rfl, rfl⟩ (ns_ioF h12) (Nat.le_of_ble_eq_true rfl) (Nat.le_of_ble_eq_true rfl) (Nat.le_of_ble_eq_true rfl) ?_
        refine c_P_add hs2 (8, 0) rfl rfl (by decide) (by decide) (by omega) (fun μ3 hs3 => ?_)
        show nW _ _ _ _ _ 47 _ [_] _ _ _
        refine aw_pop (pc' := 48) nd_P_takeProduct_47 rfl rfl ?_
        refine aw_iinc (pc' := 51) (ls' := [_, _, _]) nd_P_takeProduct_48 rfl rfl (nI_1 j) rfl ?_
        refine aw_goto (pc' := 12) nd_P_takeProduct_51 (by decide) ?_
        have hq2 := hq
        simp only [pPl, ht1, hr2, if_true] at hq2
        exact ih (j + 1) _ _ _ dp i2 (cs2 ++ [(8, 0)]) (by omega) hs3 hdp ob2 (by omega) (by simp only [List.length_append, List.length_singleton]; omega) hq2
    · skip
      show nW _ _ _ _ _ 24 _ [_] _ _ _
      refine aw_if_eq (pc' := 27) (tg := 54) nd_P_takeProduct_24 (by decide) rfl (fun _ => ?_) (fun hx => absurd (by decide) hx)
      refine aw_iconst (pc' := 55) (x := 1) nd_P_takeProduct_54 rfl (by decide) ?_
      refine aw_ireturn nd_P_takeProduct_55 rfl (by first | rfl | assumption) (Nat.le_of_ble_eq_true rfl) (Nat.le_of_ble_eq_true rfl) ?_
      simp only [pPl, ht1, if_true, if_false] at hq
      exact hq _ hs

theorem c_P_prod {L : Nat} {xs : Nat → Int32} {μ0 : nMem} {n f : Nat} (hH : PH μ0 n) {U : Nat → Nat → pC → pR} {e : Nat} (hU : CU L xs μ0 n f U 102 (e + 2)) (hUo : pAll n U f) : CU L xs μ0 n f (pP (μ0.1 (nT 12)) n U) 101 (e + 3) := by
  intro d Q μ dp i cs hs hdp hi hf hcs hq
  show nM L xs ((d + e + 2) + 1) _ _ _ _
  refine nM.of ns_I_P_takeProduct rfl (ls := [_, _, _]) (Nat.le_of_ble_eq_true rfl) rfl ?_
  refine aw_aload_n (pc' := 1) nd_P_takeProduct_0 rfl rfl rfl ?_
  refine aw_iload_n (pc' := 2) nd_P_takeProduct_1 rfl rfl ?_
  refine aw_callV (pc' := 5) (as := [_]) (st := []) nd_P_takeProduct_2 rfl nC_4_60 ⟨(Nat.le_of_ble_eq_true rfl), rfl, rfl⟩ ns_ioP (Nat.le_of_ble_eq_true rfl) (Nat.le_of_ble_eq_true rfl) (Nat.le_of_ble_eq_true rfl) ?_
  have ho4 := hUo dp i cs hi hf
  refine hU d _ _ dp i cs hs hdp hi hf hcs ?_
  rcases hr4 : U dp i cs with ⟨ok4, i4, cs4⟩
  rw [hr4] at ho4
  obtain ⟨oa4, ob4, oc4, od4⟩ := ho4
  dsimp only at oa4 ob4 oc4 od4
  dsimp only
  intro μ4 hs4
  cases ok4 with
  | false =>
    show nW _ _ _ _ _ 5 _ [_] _ _ _
    refine aw_if_ne (pc' := 8) (tg := 10) nd_P_takeProduct_5 (by decide) rfl (fun hx => absurd (by decide) hx) (fun _ => ?_)
    refine aw_iconst (pc' := 9) (x := 0) nd_P_takeProduct_8 rfl (by decide) ?_
    refine aw_ireturn nd_P_takeProduct_9 rfl (by first | rfl | assumption) (Nat.le_of_ble_eq_true rfl) (Nat.le_of_ble_eq_true rfl) ?_
    simp only [pP, hr4] at hq
    exact hq _ hs4
  | true =>
    show nW _ _ _ _ _ 5 _ [_] _ _ _
    refine aw_if_ne (pc' := 8) (tg := 10) nd_P_takeProduct_5 (by decide) rfl (fun _ => ?_) (fun hx => absurd hx (by decide))
    refine aw_iconst (pc' := 11) (x := 0) nd_P_takeProduct_10 rfl (by decide) ?_
    refine aw_istore_n (pc' := 12) (ls' := [_, _, _]) nd_P_takeProduct_11 rfl (Nat.le_of_ble_eq_true rfl) rfl ?_
    refine l_P_prod hH hU hUo 30 0 d Q _ dp i4 cs4 (by omega) hs4 hdp ob4 (by omega) (by omega) ?_
    simp only [pP, hr4] at hq
    exact hq

theorem l_P_sum {L : Nat} {xs : Nat → Int32} {μ0 : nMem} {n f : Nat} (hH : PH μ0 n) {U : Nat → Nat → pC → pR} {e : Nat} (hP : CU L xs μ0 n f (pP (μ0.1 (nT 12)) n U) 101 (e + 2)) (hPo : pAll n (pP (μ0.1 (nT 12)) n U) f) : ∀ (g j d : Nat) (o : Option Value) (Q : ax_Q) (μ : nMem) (dp i : Nat) (cs : pC), g + j = 30 → PSt μ0 μ i cs → dp ≤ 5 → i ≤ n → n - i < f → cs.length ≤ i → (∀ μ', PSt μ0 μ' (pSl (μ0.1 (nT 12)) n U g dp i cs).2.1 (pSl (μ0.1 (nT 12)) n U g dp i cs).2.2 → Q (some (.int (bi (pSl (μ0.1 (nT 12)) n U g dp i cs).1))) (ns_rep μ')) → nW L xs (d + e + 2) ns_I_P_takeSum Q 12 [some (.ref 103), some (.int (nI dp)), some (.int (nI j)), o] [] 0 0 (ns_rep μ) := by
  have h12 : 12 < 13 := by omega
  have hn30 := hH.2.1
  intro g
  induction g with
  | zero =>
    intro j d o Q μ dp i cs hg hs hdp hi hf hcs hq
    obtain rfl : j = 30 := by omega
    refine aw_iload_n (pc' := 13) nd_P_takeSum_12 rfl rfl ?_
    refine aw_bipush (pc' := 15) (x := 30) nd_P_takeSum_13 rfl (by decide) ?_
    refine aw_icmp_ge (pc' := 18) (tg := 85) nd_P_takeSum_15 (by decide) rfl (fun _ => ?_) (fun hx => absurd (by decide) hx)
    refine aw_iconst (pc' := 86) (x := 1) nd_P_takeSum_85 rfl (by decide) ?_
    refine aw_ireturn nd_P_takeSum_86 rfl (by first | rfl | assumption) (Nat.le_of_ble_eq_true rfl) (Nat.le_of_ble_eq_true rfl) ?_
    exact hq _ hs
  | succ g ih =>
    intro j d o Q μ dp i cs hg hs hdp hi hf hcs hq
    refine aw_iload_n (pc' := 13) nd_P_takeSum_12 rfl rfl ?_
    refine aw_bipush (pc' := 15) (x := 30) nd_P_takeSum_13 rfl (by decide) ?_
    refine aw_icmp_ge (pc' := 18) (tg := 85) nd_P_takeSum_15 (by decide) rfl (fun hx => absurd hx (nI_ge (b := 30) (by omega) (by decide))) (fun _ => ?_)
    refine aw_aload_n (pc' := 19) nd_P_takeSum_18 rfl rfl rfl ?_
    refine aw_callV (pc' := 22) (as := []) (st := []) nd_P_takeSum_19 rfl nC_4_35 ⟨(Nat.le_of_ble_eq_true rfl), rfl, rfl⟩ ns_ioP (Nat.le_of_ble_eq_true rfl) (Nat.le_of_ble_eq_true rfl) (Nat.le_of_ble_eq_true rfl) ?_
    refine c_P_next hH hs hi ?_
    show nW _ _ _ _ _ 22 _ [_] _ _ _
    refine aw_istore_n (pc' := 23) (ls' := [_, _, _, _]) nd_P_takeSum_22 rfl (Nat.le_of_ble_eq_true rfl) rfl ?_
    refine aw_iload_n (pc' := 24) nd_P_takeSum_23 rfl rfl ?_
    refine aw_bipush (pc' := 26) (x := 43) nd_P_takeSum_24 rfl (by decide) ?_
    refine aw_icmp_eq (pc' := 29) (tg := 37) nd_P_takeSum_26 (by decide) rfl (fun hb26 => ?_) (fun hb26 => ?_)
    · skip
      have hor : nx (μ0.1 (nT 12)) n i = 43 ∨ nx (μ0.1 (nT 12)) n i = 45 := by first | exact Or.inl hb26 | exact Or.inr hb32
      have hlt : i < n := by rcases hor with z | z <;> exact nx_lt z (by decide)
      refine aw_aload_n (pc' := 38) nd_P_takeSum_37 rfl rfl rfl ?_
      refine aw_dup (pc' := 39) nd_P_takeSum_38 rfl rfl ?_
      refine aw_get (pc' := 42) nd_P_takeSum_39 rfl nF_4_15 g_P_at ?_
      refine aw_iconst (pc' := 43) (x := 1) nd_P_takeSum_42 rfl (by decide) ?_
      refine aw_iadd (pc' := 44) nd_P_takeSum_43 rfl ?_
      refine aw_put (pc' := 47) nd_P_takeSum_44 rfl nF_4_15 trivial p_P_at ?_
      refine aw_aload_n (pc' := 48) nd_P_takeSum_47 rfl rfl rfl ?_
      refine aw_iload_n (pc' := 49) nd_P_takeSum_48 rfl rfl ?_
      refine aw_callV (pc' := 52) (as := [_]) (st := []) nd_P_takeSum_49 rfl nC_4_57 ⟨(Nat.le_of_ble_eq_true rfl), rfl, rfl⟩ ns_ioP (Nat.le_of_ble_eq_true rfl) (Nat.le_of_ble_eq_true rfl) (Nat.le_of_ble_eq_true rfl) ?_
      have ho5 := hPo dp (i + 1) cs (by omega) (by omega)
      refine hP d _ _ dp (i + 1) cs hs.inc hdp (by omega) (by omega) (by omega) ?_
      rcases hr5 : pP (μ0.1 (nT 12)) n U dp (i + 1) cs with ⟨ok5, i5, cs5⟩
      rw [hr5] at ho5
      obtain ⟨oa5, ob5, oc5, od5⟩ := ho5
      dsimp only at oa5 ob5 oc5 od5
      dsimp only
      intro μ5 hs5
      cases ok5 with
      | false =>
        show nW _ _ _ _ _ 52 _ [_] _ _ _
        refine aw_if_ne (pc' := 55) (tg := 57) nd_P_takeSum_52 (by decide) rfl (fun hx => absurd (by decide) hx) (fun _ => ?_)
        refine aw_iconst (pc' := 56) (x := 0) nd_P_takeSum_55 rfl (by decide) ?_
        refine aw_ireturn nd_P_takeSum_56 rfl (by first | rfl | assumption) (Nat.le_of_ble_eq_true rfl) (Nat.le_of_ble_eq_true rfl) ?_
        unfold pSl at hq
        rw [if_pos hor] at hq
        rw [hr5] at hq
        dsimp only at hq
        (try dsimp only at hq)
        exact hq _ hs5
      | true =>
        show nW _ _ _ _ _ 52 _ [_] _ _ _
        refine aw_if_ne (pc' := 55) (tg := 57) nd_P_takeSum_52 (by decide) rfl (fun _ => ?_) (fun hx => absurd hx (by decide))
        refine aw_aload_n (pc' := 58) nd_P_takeSum_57 rfl rfl rfl ?_
        refine aw_get (pc' := 61) nd_P_takeSum_58 rfl nF_4_9 g_P_formula ?_
        refine aw_iload_n (pc' := 62) nd_P_takeSum_61 rfl rfl ?_
        refine aw_bipush (pc' := 64) (x := 43) nd_P_takeSum_62 rfl (by decide) ?_
        refine aw_icmp_ne (pc' := 67) (tg := 72) nd_P_takeSum_64 (by decide) rfl (fun hx => absurd hb26 hx) (fun _ => ?_)
        refine aw_bipush (pc' := 69) (x := 6) nd_P_takeSum_67 rfl (by decide) ?_
        refine aw_goto (pc' := 74) nd_P_takeSum_69 (by decide) ?_
        refine aw_iconst (pc' := 75) (x := 0) nd_P_takeSum_74 rfl (by decide) ?_
        refine aw_callV (pc' := 78) (as := [_, _]) (st := []) nd_P_takeSum_75 rfl nC_4_42 ⟨(Nat.le_of_ble_eq_true rfl), rfl, rfl⟩ (ns_ioF h12) (Nat.le_of_ble_eq_true rfl) (Nat.le_of_ble_eq_true rfl) (Nat.le_of_ble_eq_true rfl) ?_
        refine c_P_add hs5 ((if nx (μ0.1 (nT 12)) n i = 43 then 6 else 7), 0) (by rw [if_pos hb26]; rfl) rfl (by dsimp only; split <;> decide) (Nat.le_of_ble_eq_true rfl) (by omega) (fun μ6 hs6 => ?_)
        show nW _ _ _ _ _ 78 _ [_] _ _ _
        refine aw_pop (pc' := 79) nd_P_takeSum_78 rfl rfl ?_
        refine aw_iinc (pc' := 82) (ls' := [_, _, _, _]) nd_P_takeSum_79 rfl rfl (nI_1 j) rfl ?_
        refine aw_goto (pc' := 12) nd_P_takeSum_82 (by decide) ?_
        unfold pSl at hq
        rw [if_pos hor] at hq
        rw [hr5] at hq
        dsimp only at hq
        exact ih (j + 1) d _ _ _ dp i5 (cs5 ++ [((if nx (μ0.1 (nT 12)) n i = 43 then 6 else 7), 0)]) (by omega) hs6 hdp ob5 (by omega) (by simp only [List.length_append, List.length_singleton]; omega) hq
    · skip
      refine aw_iload_n (pc' := 30) nd_P_takeSum_29 rfl rfl ?_
      refine aw_bipush (pc' := 32) (x := 45) nd_P_takeSum_30 rfl (by decide) ?_
      refine aw_icmp_eq (pc' := 35) (tg := 37) nd_P_takeSum_32 (by decide) rfl (fun hb32 => ?_) (fun hb32 => ?_)
      · skip
        have hor : nx (μ0.1 (nT 12)) n i = 43 ∨ nx (μ0.1 (nT 12)) n i = 45 := by first | exact Or.inl hb26 | exact Or.inr hb32
        have hlt : i < n := by rcases hor with z | z <;> exact nx_lt z (by decide)
        refine aw_aload_n (pc' := 38) nd_P_takeSum_37 rfl rfl rfl ?_
        refine aw_dup (pc' := 39) nd_P_takeSum_38 rfl rfl ?_
        refine aw_get (pc' := 42) nd_P_takeSum_39 rfl nF_4_15 g_P_at ?_
        refine aw_iconst (pc' := 43) (x := 1) nd_P_takeSum_42 rfl (by decide) ?_
        refine aw_iadd (pc' := 44) nd_P_takeSum_43 rfl ?_
        refine aw_put (pc' := 47) nd_P_takeSum_44 rfl nF_4_15 trivial p_P_at ?_
        refine aw_aload_n (pc' := 48) nd_P_takeSum_47 rfl rfl rfl ?_
        refine aw_iload_n (pc' := 49) nd_P_takeSum_48 rfl rfl ?_
        refine aw_callV (pc' := 52) (as := [_]) (st := []) nd_P_takeSum_49 rfl nC_4_57 ⟨(Nat.le_of_ble_eq_true rfl), rfl, rfl⟩ ns_ioP (Nat.le_of_ble_eq_true rfl) (Nat.le_of_ble_eq_true rfl) (Nat.le_of_ble_eq_true rfl) ?_
        have ho7 := hPo dp (i + 1) cs (by omega) (by omega)
        refine hP d _ _ dp (i + 1) cs hs.inc hdp (by omega) (by omega) (by omega) ?_
        rcases hr7 : pP (μ0.1 (nT 12)) n U dp (i + 1) cs with ⟨ok7, i7, cs7⟩
        rw [hr7] at ho7
        obtain ⟨oa7, ob7, oc7, od7⟩ := ho7
        dsimp only at oa7 ob7 oc7 od7
        dsimp only
        intro μ7 hs7
        cases ok7 with
        | false =>
          show nW _ _ _ _ _ 52 _ [_] _ _ _
          refine aw_if_ne (pc' := 55) (tg := 57) nd_P_takeSum_52 (by decide) rfl (fun hx => absurd (by decide) hx) (fun _ => ?_)
          refine aw_iconst (pc' := 56) (x := 0) nd_P_takeSum_55 rfl (by decide) ?_
          refine aw_ireturn nd_P_takeSum_56 rfl (by first | rfl | assumption) (Nat.le_of_ble_eq_true rfl) (Nat.le_of_ble_eq_true rfl) ?_
          unfold pSl at hq
          rw [if_pos hor] at hq
          rw [hr7] at hq
          dsimp only at hq
          (try dsimp only at hq)
          exact hq _ hs7
        | true =>
          show nW _ _ _ _ _ 52 _ [_] _ _ _
          refine aw_if_ne (pc' := 55) (tg := 57) nd_P_takeSum_52 (by decide) rfl (fun _ => ?_) (fun hx => absurd hx (by decide))
          refine aw_aload_n (pc' := 58) nd_P_takeSum_57 rfl rfl rfl ?_
          refine aw_get (pc' := 61) nd_P_takeSum_58 rfl nF_4_9 g_P_formula ?_
          refine aw_iload_n (pc' := 62) nd_P_takeSum_61 rfl rfl ?_
          refine aw_bipush (pc' := 64) (x := 43) nd_P_takeSum_62 rfl (by decide) ?_
          refine aw_icmp_ne (pc' := 67) (tg := 72) nd_P_takeSum_64 (by decide) rfl (fun _ => ?_) (fun hx => absurd hx hb26)
          refine aw_bipush (pc' := 74) (x := 7) nd_P_takeSum_72 rfl (by decide) ?_
          refine aw_iconst (pc' := 75) (x := 0) nd_P_takeSum_74 rfl (by decide) ?_
          refine aw_callV (pc' := 78) (as := [_, _]) (st := []) nd_P_takeSum_75 rfl nC_4_42 ⟨(Nat.le_of_ble_eq_true rfl), rfl, rfl⟩ (ns_ioF h12) (Nat.le_of_ble_eq_true rfl) (Nat.le_of_ble_eq_true rfl) (Nat.le_of_ble_eq_true rfl) ?_
          refine c_P_add hs7 ((if nx (μ0.1 (nT 12)) n i = 43 then 6 else 7), 0) (by rw [if_neg hb26]; rfl) rfl (by dsimp only; split <;> decide) (Nat.le_of_ble_eq_true rfl) (by omega) (fun μ8 hs8 => ?_)
          show nW _ _ _ _ _ 78 _ [_] _ _ _
          refine aw_pop (pc' := 79) nd_P_takeSum_78 rfl rfl ?_
          refine aw_iinc (pc' := 82) (ls' := [_, _, _, _]) nd_P_takeSum_79 rfl rfl (nI_1 j) rfl ?_
          refine aw_goto (pc' := 12) nd_P_takeSum_82 (by decide) ?_
          unfold pSl at hq
          rw [if_pos hor] at hq
          rw [hr7] at hq
          dsimp only at hq
          exact ih (j + 1) d _ _ _ dp i7 (cs7 ++ [((if nx (μ0.1 (nT 12)) n i = 43 then 6 else 7), 0)]) (by omega) hs8 hdp ob7 (by omega) (by simp only [List.length_append, List.length_singleton]; omega) hq
      · skip
        have hor : ¬ (nx (μ0.1 (nT 12)) n i = 43 ∨ nx (μ0.1 (nT 12)) n i = 45) := fun z => z.elim hb26 hb32
        refine aw_iconst (pc' := 36) (x := 1) nd_P_takeSum_35 rfl (by decide) ?_
        refine aw_ireturn nd_P_takeSum_36 rfl (by first | rfl | assumption) (Nat.le_of_ble_eq_true rfl) (Nat.le_of_ble_eq_true rfl) ?_
        unfold pSl at hq
        rw [if_neg hor] at hq
        (try dsimp only at hq)
        exact hq _ hs

theorem c_P_sum {L : Nat} {xs : Nat → Int32} {μ0 : nMem} {n f : Nat} (hH : PH μ0 n) {U : Nat → Nat → pC → pR} {e : Nat} (hP : CU L xs μ0 n f (pP (μ0.1 (nT 12)) n U) 101 (e + 2)) (hPo : pAll n (pP (μ0.1 (nT 12)) n U) f) : CU L xs μ0 n f (pS (μ0.1 (nT 12)) n U) 100 (e + 3) := by
  intro d Q μ dp i cs hs hdp hi hf hcs hq
  show nM L xs ((d + e + 2) + 1) _ _ _ _
  refine nM.of ns_I_P_takeSum rfl (ls := [_, _, _, _]) (Nat.le_of_ble_eq_true rfl) rfl ?_
  refine aw_aload_n (pc' := 1) nd_P_takeSum_0 rfl rfl rfl ?_
  refine aw_iload_n (pc' := 2) nd_P_takeSum_1 rfl rfl ?_
  refine aw_callV (pc' := 5) (as := [_]) (st := []) nd_P_takeSum_2 rfl nC_4_57 ⟨(Nat.le_of_ble_eq_true rfl), rfl, rfl⟩ ns_ioP (Nat.le_of_ble_eq_true rfl) (Nat.le_of_ble_eq_true rfl) (Nat.le_of_ble_eq_true rfl) ?_
  have ho9 := hPo dp i cs hi hf
  refine hP d _ _ dp i cs hs hdp hi hf hcs ?_
  rcases hr9 : pP (μ0.1 (nT 12)) n U dp i cs with ⟨ok9, i9, cs9⟩
  rw [hr9] at ho9
  obtain ⟨oa9, ob9, oc9, od9⟩ := ho9
  dsimp only at oa9 ob9 oc9 od9
  dsimp only
  intro μ9 hs9
  cases ok9 with
  | false =>
    show nW _ _ _ _ _ 5 _ [_] _ _ _
    refine aw_if_ne (pc' := 8) (tg := 10) nd_P_takeSum_5 (by decide) rfl (fun hx => absurd (by decide) hx) (fun _ => ?_)
    refine aw_iconst (pc' := 9) (x := 0) nd_P_takeSum_8 rfl (by decide) ?_
    refine aw_ireturn nd_P_takeSum_9 rfl (by first | rfl | assumption) (Nat.le_of_ble_eq_true rfl) (Nat.le_of_ble_eq_true rfl) ?_
    unfold pS at hq
    rw [hr9] at hq
    dsimp only at hq
    (try dsimp only at hq)
    exact hq _ hs9
  | true =>
    show nW _ _ _ _ _ 5 _ [_] _ _ _
    refine aw_if_ne (pc' := 8) (tg := 10) nd_P_takeSum_5 (by decide) rfl (fun _ => ?_) (fun hx => absurd hx (by decide))
    refine aw_iconst (pc' := 11) (x := 0) nd_P_takeSum_10 rfl (by decide) ?_
    refine aw_istore_n (pc' := 12) (ls' := [_, _, _, _]) nd_P_takeSum_11 rfl (Nat.le_of_ble_eq_true rfl) rfl ?_
    unfold pS at hq
    rw [hr9] at hq
    dsimp only at hq
    exact l_P_sum hH hP hPo 30 0 d none Q _ dp i9 cs9 (by omega) hs9 hdp ob9 (by omega) (by omega) hq

def CB (L : Nat) (xs : Nat → Int32) (μ0 : nMem) (n f : Nat) (G : Nat → Nat → pC → pR) (id dep : Nat) : Prop := ∀ (d : Nat) (Q : ax_Q) (μ : nMem) (dp i : Nat) (cs : pC), PSt μ0 μ i cs → dp ≤ 5 → i ≤ n → n - i < f → cs.length + 1 ≤ i → (∀ μ', PSt μ0 μ' (G dp i cs).2.1 (G dp i cs).2.2 → Q (some (.int (bi (G dp i cs).1))) (ns_rep μ')) → nM L xs (d + dep) id [.ref 103, .int (nI dp)] (ns_rep μ) Q

theorem c_P_bra {L : Nat} {xs : Nat → Int32} {μ0 : nMem} {n f : Nat} (hH : PH μ0 n) {F : Nat → Nat → pC → pR} {e : Nat} (hF : CU L xs μ0 n f F 98 (e + 2)) (hFo : pAll n F f) : CB L xs μ0 n f (pB (μ0.1 (nT 12)) n F) 99 (e + 3) := by
  have h12 : 12 < 13 := by omega
  have hn30 := hH.2.1
  intro d Q μ dp i cs hs hdp hi hf hcs hq
  show nM L xs ((d + e + 2) + 1) _ _ _ _
  refine nM.of ns_I_P_takeBranches rfl (ls := [_, _, _, _]) (Nat.le_of_ble_eq_true rfl) rfl ?_
  refine aw_aload_n (pc' := 1) nd_P_takeBranches_0 rfl rfl rfl ?_
  refine aw_get (pc' := 4) nd_P_takeBranches_1 rfl nF_4_9 g_P_formula ?_
  refine aw_iconst (pc' := 5) (x := 4) nd_P_takeBranches_4 rfl (by decide) ?_
  refine aw_iconst (pc' := 6) (x := 0) nd_P_takeBranches_5 rfl (by decide) ?_
  refine aw_callV (pc' := 9) (as := [_, _]) (st := []) nd_P_takeBranches_6 rfl nC_4_42 ⟨(Nat.le_of_ble_eq_true rfl), rfl, rfl⟩ (ns_ioF h12) (Nat.le_of_ble_eq_true rfl) (Nat.le_of_ble_eq_true rfl) (Nat.le_of_ble_eq_true rfl) ?_
  refine c_P_add hs (4, 0) rfl rfl (by decide) (by decide) (by omega) (fun μ10 hs10 => ?_)
  have hl4 : (cs ++ [(4, 0)] : pC).length = cs.length + 1 := by simp
  show nW _ _ _ _ _ 9 _ [_] _ _ _
  refine aw_istore_n (pc' := 10) (ls' := [_, _, _, _]) nd_P_takeBranches_9 rfl (Nat.le_of_ble_eq_true rfl) rfl ?_
  refine aw_aload_n (pc' := 11) nd_P_takeBranches_10 rfl rfl rfl ?_
  refine aw_iload_n (pc' := 12) nd_P_takeBranches_11 rfl rfl ?_
  refine aw_callV (pc' := 15) (as := [_]) (st := []) nd_P_takeBranches_12 rfl nC_4_24 ⟨(Nat.le_of_ble_eq_true rfl), rfl, rfl⟩ ns_ioP (Nat.le_of_ble_eq_true rfl) (Nat.le_of_ble_eq_true rfl) (Nat.le_of_ble_eq_true rfl) ?_
  have ho11 := hFo dp i (cs ++ [(4, 0)]) hi hf
  refine hF d _ _ dp i (cs ++ [(4, 0)]) hs10 hdp hi hf (by omega) ?_
  rcases hr11 : F dp i (cs ++ [(4, 0)]) with ⟨ok11, i11, cs11⟩
  rw [hr11] at ho11
  obtain ⟨oa11, ob11, oc11, od11⟩ := ho11
  dsimp only at oa11 ob11 oc11 od11
  dsimp only
  intro μ11 hs11
  cases ok11 with
  | false =>
    show nW _ _ _ _ _ 15 _ [_] _ _ _
    refine aw_if_eq (pc' := 18) (tg := 27) nd_P_takeBranches_15 (by decide) rfl (fun _ => ?_) (fun hx => absurd (by decide) hx)
    refine aw_iconst (pc' := 28) (x := 0) nd_P_takeBranches_27 rfl (by decide) ?_
    refine aw_ireturn nd_P_takeBranches_28 rfl (by first | rfl | assumption) (Nat.le_of_ble_eq_true rfl) (Nat.le_of_ble_eq_true rfl) ?_
    unfold pB at hq
    rw [hr11] at hq
    dsimp only at hq
    (try dsimp only at hq)
    exact hq _ hs11
  | true =>
    show nW _ _ _ _ _ 15 _ [_] _ _ _
    refine aw_if_eq (pc' := 18) (tg := 27) nd_P_takeBranches_15 (by decide) rfl (fun hx => absurd hx (by decide)) (fun _ => ?_)
    refine aw_aload_n (pc' := 19) nd_P_takeBranches_18 rfl rfl rfl ?_
    refine aw_bipush (pc' := 21) (x := 58) nd_P_takeBranches_19 rfl (by decide) ?_
    refine aw_callV (pc' := 24) (as := [_]) (st := []) nd_P_takeBranches_21 rfl nC_4_46 ⟨(Nat.le_of_ble_eq_true rfl), rfl, rfl⟩ ns_ioP (Nat.le_of_ble_eq_true rfl) (Nat.le_of_ble_eq_true rfl) (Nat.le_of_ble_eq_true rfl) ?_
    refine c_P_take hH hs11 ob11 (c := 58) (fun ht12 μ12 hs12 => ?_) (fun ht12 => ?_)
    · skip
      have hlt12 := nx_lt ht12 (by decide)
      show nW _ _ _ _ _ 24 _ [_] _ _ _
      refine aw_if_ne (pc' := 27) (tg := 29) nd_P_takeBranches_24 (by decide) rfl (fun _ => ?_) (fun hx => absurd hx (by decide))
      refine aw_aload_n (pc' := 30) nd_P_takeBranches_29 rfl rfl rfl ?_
      refine aw_get (pc' := 33) nd_P_takeBranches_30 rfl nF_4_9 g_P_formula ?_
      refine aw_iconst (pc' := 34) (x := 5) nd_P_takeBranches_33 rfl (by decide) ?_
      refine aw_iconst (pc' := 35) (x := 0) nd_P_takeBranches_34 rfl (by decide) ?_
      refine aw_callV (pc' := 38) (as := [_, _]) (st := []) nd_P_takeBranches_35 rfl nC_4_42 ⟨(Nat.le_of_ble_eq_true rfl), rfl, rfl⟩ (ns_ioF h12) (Nat.le_of_ble_eq_true rfl) (Nat.le_of_ble_eq_true rfl) (Nat.le_of_ble_eq_true rfl) ?_
      refine c_P_add hs12 (5, 0) rfl rfl (by decide) (by decide) (by omega) (fun μ13 hs13 => ?_)
      have hl5 : (cs11 ++ [(5, 0)] : pC).length = cs11.length + 1 := by simp
      show nW _ _ _ _ _ 38 _ [_] _ _ _
      refine aw_istore_n (pc' := 39) (ls' := [_, _, _, _]) nd_P_takeBranches_38 rfl (Nat.le_of_ble_eq_true rfl) rfl ?_
      refine aw_aload_n (pc' := 40) nd_P_takeBranches_39 rfl rfl rfl ?_
      refine aw_get (pc' := 43) nd_P_takeBranches_40 rfl nF_4_9 g_P_formula ?_
      refine aw_iload_n (pc' := 44) nd_P_takeBranches_43 rfl rfl ?_
      refine aw_callV (pc' := 47) (as := [_]) (st := []) nd_P_takeBranches_44 rfl nC_4_53 ⟨(Nat.le_of_ble_eq_true rfl), rfl, rfl⟩ (ns_ioF h12) (Nat.le_of_ble_eq_true rfl) (Nat.le_of_ble_eq_true rfl) (Nat.le_of_ble_eq_true rfl) ?_
      have hj14 := jmp_len (cs11 ++ [(5, 0)]) cs.length
      refine c_P_jmp hs13 (j := cs.length) (by omega) (by omega) (fun μ14 hs14 => ?_)
      show nW _ _ _ _ _ 47 _ [] _ _ _
      refine aw_aload_n (pc' := 48) nd_P_takeBranches_47 rfl rfl rfl ?_
      refine aw_iload_n (pc' := 49) nd_P_takeBranches_48 rfl rfl ?_
      refine aw_callV (pc' := 52) (as := [_]) (st := []) nd_P_takeBranches_49 rfl nC_4_24 ⟨(Nat.le_of_ble_eq_true rfl), rfl, rfl⟩ ns_ioP (Nat.le_of_ble_eq_true rfl) (Nat.le_of_ble_eq_true rfl) (Nat.le_of_ble_eq_true rfl) ?_
      have ho15 := hFo dp (i11 + 1) (jmp (cs11 ++ [(5, 0)]) cs.length) (by omega) (by omega)
      refine hF d _ _ dp (i11 + 1) (jmp (cs11 ++ [(5, 0)]) cs.length) hs14 hdp (by omega) (by omega) (by omega) ?_
      rcases hr15 : F dp (i11 + 1) (jmp (cs11 ++ [(5, 0)]) cs.length) with ⟨ok15, i15, cs15⟩
      rw [hr15] at ho15
      obtain ⟨oa15, ob15, oc15, od15⟩ := ho15
      dsimp only at oa15 ob15 oc15 od15
      dsimp only
      intro μ15 hs15
      cases ok15 with
      | false =>
        show nW _ _ _ _ _ 52 _ [_] _ _ _
        refine aw_if_ne (pc' := 55) (tg := 57) nd_P_takeBranches_52 (by decide) rfl (fun hx => absurd (by decide) hx) (fun _ => ?_)
        refine aw_iconst (pc' := 56) (x := 0) nd_P_takeBranches_55 rfl (by decide) ?_
        refine aw_ireturn nd_P_takeBranches_56 rfl (by first | rfl | assumption) (Nat.le_of_ble_eq_true rfl) (Nat.le_of_ble_eq_true rfl) ?_
        unfold pB at hq
        rw [hr11] at hq
        dsimp only at hq
        rw [if_pos ht12] at hq
        rw [hr15] at hq
        dsimp only at hq
        (try dsimp only at hq)
        exact hq _ hs15
      | true =>
        show nW _ _ _ _ _ 52 _ [_] _ _ _
        refine aw_if_ne (pc' := 55) (tg := 57) nd_P_takeBranches_52 (by decide) rfl (fun _ => ?_) (fun hx => absurd hx (by decide))
        refine aw_aload_n (pc' := 58) nd_P_takeBranches_57 rfl rfl rfl ?_
        refine aw_get (pc' := 61) nd_P_takeBranches_58 rfl nF_4_9 g_P_formula ?_
        refine aw_iload_n (pc' := 62) nd_P_takeBranches_61 rfl rfl ?_
        refine aw_callV (pc' := 65) (as := [_]) (st := []) nd_P_takeBranches_62 rfl nC_4_53 ⟨(Nat.le_of_ble_eq_true rfl), rfl, rfl⟩ (ns_ioF h12) (Nat.le_of_ble_eq_true rfl) (Nat.le_of_ble_eq_true rfl) (Nat.le_of_ble_eq_true rfl) ?_
        have hj16 := jmp_len cs15 cs11.length
        refine c_P_jmp hs15 (j := cs11.length) (by omega) (by omega) (fun μ16 hs16 => ?_)
        show nW _ _ _ _ _ 65 _ [] _ _ _
        refine aw_iconst (pc' := 66) (x := 1) nd_P_takeBranches_65 rfl (by decide) ?_
        refine aw_ireturn nd_P_takeBranches_66 rfl (by first | rfl | assumption) (Nat.le_of_ble_eq_true rfl) (Nat.le_of_ble_eq_true rfl) ?_
        unfold pB at hq
        rw [hr11] at hq
        dsimp only at hq
        rw [if_pos ht12] at hq
        rw [hr15] at hq
        dsimp only at hq
        (try dsimp only at hq)
        exact hq _ hs16
    · skip
      show nW _ _ _ _ _ 24 _ [_] _ _ _
      refine aw_if_ne (pc' := 27) (tg := 29) nd_P_takeBranches_24 (by decide) rfl (fun hx => absurd (by decide) hx) (fun _ => ?_)
      refine aw_iconst (pc' := 28) (x := 0) nd_P_takeBranches_27 rfl (by decide) ?_
      refine aw_ireturn nd_P_takeBranches_28 rfl (by first | rfl | assumption) (Nat.le_of_ble_eq_true rfl) (Nat.le_of_ble_eq_true rfl) ?_
      unfold pB at hq
      rw [hr11] at hq
      dsimp only at hq
      rw [if_neg ht12] at hq
      (try dsimp only at hq)
      exact hq _ hs11

theorem c_P_for {L : Nat} {xs : Nat → Int32} {μ0 : nMem} {n f : Nat} (hH : PH μ0 n) {U F : Nat → Nat → pC → pR} {e : Nat} (hS : CU L xs μ0 n (f + 1) (pS (μ0.1 (nT 12)) n U) 100 (e + 2)) (hSo : pAll n (pS (μ0.1 (nT 12)) n U) (f + 1)) (hB : CB L xs μ0 n f (pB (μ0.1 (nT 12)) n F) 99 (e + 2)) : CU L xs μ0 n (f + 1) (pFf (μ0.1 (nT 12)) n U F) 98 (e + 3) := by
  have h12 : 12 < 13 := by omega
  have hn30 := hH.2.1
  intro d Q μ dp i cs hs hdp hi hf hcs hq
  show nM L xs ((d + e + 2) + 1) _ _ _ _
  refine nM.of ns_I_P_takeFormula rfl (ls := [_, _, _]) (Nat.le_of_ble_eq_true rfl) rfl ?_
  refine aw_aload_n (pc' := 1) nd_P_takeFormula_0 rfl rfl rfl ?_
  refine aw_iload_n (pc' := 2) nd_P_takeFormula_1 rfl rfl ?_
  refine aw_callV (pc' := 5) (as := [_]) (st := []) nd_P_takeFormula_2 rfl nC_4_39 ⟨(Nat.le_of_ble_eq_true rfl), rfl, rfl⟩ ns_ioP (Nat.le_of_ble_eq_true rfl) (Nat.le_of_ble_eq_true rfl) (Nat.le_of_ble_eq_true rfl) ?_
  have ho17 := hSo dp i cs hi hf
  refine hS d _ _ dp i cs hs hdp hi hf hcs ?_
  rcases hr17 : pS (μ0.1 (nT 12)) n U dp i cs with ⟨ok17, i17, cs17⟩
  rw [hr17] at ho17
  obtain ⟨oa17, ob17, oc17, od17⟩ := ho17
  dsimp only at oa17 ob17 oc17 od17
  dsimp only
  intro μ17 hs17
  cases ok17 with
  | false =>
    show nW _ _ _ _ _ 5 _ [_] _ _ _
    refine aw_if_ne (pc' := 8) (tg := 10) nd_P_takeFormula_5 (by decide) rfl (fun hx => absurd (by decide) hx) (fun _ => ?_)
    refine aw_iconst (pc' := 9) (x := 0) nd_P_takeFormula_8 rfl (by decide) ?_
    refine aw_ireturn nd_P_takeFormula_9 rfl (by first | rfl | assumption) (Nat.le_of_ble_eq_true rfl) (Nat.le_of_ble_eq_true rfl) ?_
    unfold pFf at hq
    rw [hr17] at hq
    dsimp only at hq
    (try dsimp only at hq)
    exact hq _ hs17
  | true =>
    show nW _ _ _ _ _ 5 _ [_] _ _ _
    refine aw_if_ne (pc' := 8) (tg := 10) nd_P_takeFormula_5 (by decide) rfl (fun _ => ?_) (fun hx => absurd hx (by decide))
    refine aw_aload_n (pc' := 11) nd_P_takeFormula_10 rfl rfl rfl ?_
    refine aw_callV (pc' := 14) (as := []) (st := []) nd_P_takeFormula_11 rfl nC_4_35 ⟨(Nat.le_of_ble_eq_true rfl), rfl, rfl⟩ ns_ioP (Nat.le_of_ble_eq_true rfl) (Nat.le_of_ble_eq_true rfl) (Nat.le_of_ble_eq_true rfl) ?_
    refine c_P_next hH hs17 ob17 ?_
    show nW _ _ _ _ _ 14 _ [_] _ _ _
    refine aw_istore_n (pc' := 15) (ls' := [_, _, _]) nd_P_takeFormula_14 rfl (Nat.le_of_ble_eq_true rfl) rfl ?_
    refine aw_iload_n (pc' := 16) nd_P_takeFormula_15 rfl rfl ?_
    refine aw_bipush (pc' := 18) (x := 60) nd_P_takeFormula_16 rfl (by decide) ?_
    refine aw_icmp_eq (pc' := 21) (tg := 27) nd_P_takeFormula_18 (by decide) rfl (fun hb18 => ?_) (fun hb18 => ?_)
    · skip
      have hor : nx (μ0.1 (nT 12)) n i17 = 60 ∨ nx (μ0.1 (nT 12)) n i17 = 61 := by first | exact Or.inl hb18 | exact Or.inr hb24
      have hlt : i17 < n := by rcases hor with z | z <;> exact nx_lt z (by decide)
      refine aw_aload_n (pc' := 28) nd_P_takeFormula_27 rfl rfl rfl ?_
      refine aw_dup (pc' := 29) nd_P_takeFormula_28 rfl rfl ?_
      refine aw_get (pc' := 32) nd_P_takeFormula_29 rfl nF_4_15 g_P_at ?_
      refine aw_iconst (pc' := 33) (x := 1) nd_P_takeFormula_32 rfl (by decide) ?_
      refine aw_iadd (pc' := 34) nd_P_takeFormula_33 rfl ?_
      refine aw_put (pc' := 37) nd_P_takeFormula_34 rfl nF_4_15 trivial p_P_at ?_
      refine aw_aload_n (pc' := 38) nd_P_takeFormula_37 rfl rfl rfl ?_
      refine aw_iload_n (pc' := 39) nd_P_takeFormula_38 rfl rfl ?_
      refine aw_callV (pc' := 42) (as := [_]) (st := []) nd_P_takeFormula_39 rfl nC_4_39 ⟨(Nat.le_of_ble_eq_true rfl), rfl, rfl⟩ ns_ioP (Nat.le_of_ble_eq_true rfl) (Nat.le_of_ble_eq_true rfl) (Nat.le_of_ble_eq_true rfl) ?_
      have ho18 := hSo dp (i17 + 1) cs17 (by omega) (by omega)
      refine hS d _ _ dp (i17 + 1) cs17 hs17.inc hdp (by omega) (by omega) (by omega) ?_
      rcases hr18 : pS (μ0.1 (nT 12)) n U dp (i17 + 1) cs17 with ⟨ok18, i18, cs18⟩
      rw [hr18] at ho18
      obtain ⟨oa18, ob18, oc18, od18⟩ := ho18
      dsimp only at oa18 ob18 oc18 od18
      dsimp only
      intro μ18 hs18
      cases ok18 with
      | false =>
        show nW _ _ _ _ _ 42 _ [_] _ _ _
        refine aw_if_ne (pc' := 45) (tg := 47) nd_P_takeFormula_42 (by decide) rfl (fun hx => absurd (by decide) hx) (fun _ => ?_)
        refine aw_iconst (pc' := 46) (x := 0) nd_P_takeFormula_45 rfl (by decide) ?_
        refine aw_ireturn nd_P_takeFormula_46 rfl (by first | rfl | assumption) (Nat.le_of_ble_eq_true rfl) (Nat.le_of_ble_eq_true rfl) ?_
        unfold pFf at hq
        rw [hr17] at hq
        dsimp only at hq
        rw [if_pos hor] at hq
        rw [hr18] at hq
        dsimp only at hq
        (try dsimp only at hq)
        exact hq _ hs18
      | true =>
        show nW _ _ _ _ _ 42 _ [_] _ _ _
        refine aw_if_ne (pc' := 45) (tg := 47) nd_P_takeFormula_42 (by decide) rfl (fun _ => ?_) (fun hx => absurd hx (by decide))
        refine aw_aload_n (pc' := 48) nd_P_takeFormula_47 rfl rfl rfl ?_
        refine aw_get (pc' := 51) nd_P_takeFormula_48 rfl nF_4_9 g_P_formula ?_
        refine aw_iload_n (pc' := 52) nd_P_takeFormula_51 rfl rfl ?_
        refine aw_bipush (pc' := 54) (x := 60) nd_P_takeFormula_52 rfl (by decide) ?_
        refine aw_icmp_ne (pc' := 57) (tg := 62) nd_P_takeFormula_54 (by decide) rfl (fun hx => absurd hb18 hx) (fun _ => ?_)
        refine aw_bipush (pc' := 59) (x := 9) nd_P_takeFormula_57 rfl (by decide) ?_
        refine aw_goto (pc' := 64) nd_P_takeFormula_59 (by decide) ?_
        refine aw_iconst (pc' := 65) (x := 0) nd_P_takeFormula_64 rfl (by decide) ?_
        refine aw_callV (pc' := 68) (as := [_, _]) (st := []) nd_P_takeFormula_65 rfl nC_4_42 ⟨(Nat.le_of_ble_eq_true rfl), rfl, rfl⟩ (ns_ioF h12) (Nat.le_of_ble_eq_true rfl) (Nat.le_of_ble_eq_true rfl) (Nat.le_of_ble_eq_true rfl) ?_
        refine c_P_add hs18 ((if nx (μ0.1 (nT 12)) n i17 = 60 then 9 else 10), 0) (by rw [if_pos hb18]; rfl) rfl (by dsimp only; split <;> decide) (Nat.le_of_ble_eq_true rfl) (by omega) (fun μ19 hs19 => ?_)
        have hla19 : (cs18 ++ [((if nx (μ0.1 (nT 12)) n i17 = 60 then 9 else 10), 0)] : pC).length = cs18.length + 1 := by simp
        show nW _ _ _ _ _ 68 _ [_] _ _ _
        refine aw_pop (pc' := 69) nd_P_takeFormula_68 rfl rfl ?_
        refine aw_aload_n (pc' := 70) nd_P_takeFormula_69 rfl rfl rfl ?_
        refine aw_bipush (pc' := 72) (x := 63) nd_P_takeFormula_70 rfl (by decide) ?_
        refine aw_callV (pc' := 75) (as := [_]) (st := []) nd_P_takeFormula_72 rfl nC_4_46 ⟨(Nat.le_of_ble_eq_true rfl), rfl, rfl⟩ ns_ioP (Nat.le_of_ble_eq_true rfl) (Nat.le_of_ble_eq_true rfl) (Nat.le_of_ble_eq_true rfl) ?_
        refine c_P_take hH hs19 ob18 (c := 63) (fun ht20 μ20 hs20 => ?_) (fun ht20 => ?_)
        · skip
          have hlt20 := nx_lt ht20 (by decide)
          show nW _ _ _ _ _ 75 _ [_] _ _ _
          refine aw_if_eq (pc' := 78) (tg := 86) nd_P_takeFormula_75 (by decide) rfl (fun hx => absurd hx (by decide)) (fun _ => ?_)
          refine aw_aload_n (pc' := 79) nd_P_takeFormula_78 rfl rfl rfl ?_
          refine aw_iload_n (pc' := 80) nd_P_takeFormula_79 rfl rfl ?_
          refine aw_callV (pc' := 83) (as := [_]) (st := []) nd_P_takeFormula_80 rfl nC_4_50 ⟨(Nat.le_of_ble_eq_true rfl), rfl, rfl⟩ ns_ioP (Nat.le_of_ble_eq_true rfl) (Nat.le_of_ble_eq_true rfl) (Nat.le_of_ble_eq_true rfl) ?_
          refine hB d _ _ dp (i18 + 1) (cs18 ++ [((if nx (μ0.1 (nT 12)) n i17 = 60 then 9 else 10), 0)]) hs20 hdp (by omega) (by omega) (by omega) ?_
          rcases hr21 : pB (μ0.1 (nT 12)) n F dp (i18 + 1) (cs18 ++ [((if nx (μ0.1 (nT 12)) n i17 = 60 then 9 else 10), 0)]) with ⟨ok21, i21, cs21⟩
          dsimp only
          intro μ21 hs21
          cases ok21 with
          | false =>
            show nW _ _ _ _ _ 83 _ [_] _ _ _
            refine aw_if_eq (pc' := 86) (tg := 90) nd_P_takeFormula_83 (by decide) rfl (fun _ => ?_) (fun hx => absurd (by decide) hx)
            refine aw_iconst (pc' := 91) (x := 0) nd_P_takeFormula_90 rfl (by decide) ?_
            refine aw_ireturn nd_P_takeFormula_91 rfl (by first | rfl | assumption) (Nat.le_of_ble_eq_true rfl) (Nat.le_of_ble_eq_true rfl) ?_
            unfold pFf at hq
            rw [hr17] at hq
            dsimp only at hq
            rw [if_pos hor] at hq
            rw [hr18] at hq
            dsimp only at hq
            unfold pQ at hq
            rw [if_pos ht20] at hq
            rw [hr21] at hq
            dsimp only at hq
            (try dsimp only at hq)
            exact hq _ hs21
          | true =>
            show nW _ _ _ _ _ 83 _ [_] _ _ _
            refine aw_if_eq (pc' := 86) (tg := 90) nd_P_takeFormula_83 (by decide) rfl (fun hx => absurd hx (by decide)) (fun _ => ?_)
            refine aw_iconst (pc' := 87) (x := 1) nd_P_takeFormula_86 rfl (by decide) ?_
            refine aw_goto (pc' := 91) nd_P_takeFormula_87 (by decide) ?_
            refine aw_ireturn nd_P_takeFormula_91 rfl (by first | rfl | assumption) (Nat.le_of_ble_eq_true rfl) (Nat.le_of_ble_eq_true rfl) ?_
            unfold pFf at hq
            rw [hr17] at hq
            dsimp only at hq
            rw [if_pos hor] at hq
            rw [hr18] at hq
            dsimp only at hq
            unfold pQ at hq
            rw [if_pos ht20] at hq
            rw [hr21] at hq
            dsimp only at hq
            (try dsimp only at hq)
            exact hq _ hs21
        · skip
          show nW _ _ _ _ _ 75 _ [_] _ _ _
          refine aw_if_eq (pc' := 78) (tg := 86) nd_P_takeFormula_75 (by decide) rfl (fun _ => ?_) (fun hx => absurd (by decide) hx)
          refine aw_iconst (pc' := 87) (x := 1) nd_P_takeFormula_86 rfl (by decide) ?_
          refine aw_goto (pc' := 91) nd_P_takeFormula_87 (by decide) ?_
          refine aw_ireturn nd_P_takeFormula_91 rfl (by first | rfl | assumption) (Nat.le_of_ble_eq_true rfl) (Nat.le_of_ble_eq_true rfl) ?_
          unfold pFf at hq
          rw [hr17] at hq
          dsimp only at hq
          rw [if_pos hor] at hq
          rw [hr18] at hq
          dsimp only at hq
          unfold pQ at hq
          rw [if_neg ht20] at hq
          (try dsimp only at hq)
          exact hq _ hs19
    · skip
      refine aw_iload_n (pc' := 22) nd_P_takeFormula_21 rfl rfl ?_
      refine aw_bipush (pc' := 24) (x := 61) nd_P_takeFormula_22 rfl (by decide) ?_
      refine aw_icmp_ne (pc' := 27) (tg := 69) nd_P_takeFormula_24 (by decide) rfl (fun hb24 => ?_) (fun hb24 => ?_)
      · skip
        have hor : ¬ (nx (μ0.1 (nT 12)) n i17 = 60 ∨ nx (μ0.1 (nT 12)) n i17 = 61) := fun z => z.elim hb18 hb24
        refine aw_aload_n (pc' := 70) nd_P_takeFormula_69 rfl rfl rfl ?_
        refine aw_bipush (pc' := 72) (x := 63) nd_P_takeFormula_70 rfl (by decide) ?_
        refine aw_callV (pc' := 75) (as := [_]) (st := []) nd_P_takeFormula_72 rfl nC_4_46 ⟨(Nat.le_of_ble_eq_true rfl), rfl, rfl⟩ ns_ioP (Nat.le_of_ble_eq_true rfl) (Nat.le_of_ble_eq_true rfl) (Nat.le_of_ble_eq_true rfl) ?_
        refine c_P_take hH hs17 ob17 (c := 63) (fun ht22 μ22 hs22 => ?_) (fun ht22 => ?_)
        · skip
          have hlt22 := nx_lt ht22 (by decide)
          show nW _ _ _ _ _ 75 _ [_] _ _ _
          refine aw_if_eq (pc' := 78) (tg := 86) nd_P_takeFormula_75 (by decide) rfl (fun hx => absurd hx (by decide)) (fun _ => ?_)
          refine aw_aload_n (pc' := 79) nd_P_takeFormula_78 rfl rfl rfl ?_
          refine aw_iload_n (pc' := 80) nd_P_takeFormula_79 rfl rfl ?_
          refine aw_callV (pc' := 83) (as := [_]) (st := []) nd_P_takeFormula_80 rfl nC_4_50 ⟨(Nat.le_of_ble_eq_true rfl), rfl, rfl⟩ ns_ioP (Nat.le_of_ble_eq_true rfl) (Nat.le_of_ble_eq_true rfl) (Nat.le_of_ble_eq_true rfl) ?_
          refine hB d _ _ dp (i17 + 1) cs17 hs22 hdp (by omega) (by omega) (by omega) ?_
          rcases hr23 : pB (μ0.1 (nT 12)) n F dp (i17 + 1) cs17 with ⟨ok23, i23, cs23⟩
          dsimp only
          intro μ23 hs23
          cases ok23 with
          | false =>
            show nW _ _ _ _ _ 83 _ [_] _ _ _
            refine aw_if_eq (pc' := 86) (tg := 90) nd_P_takeFormula_83 (by decide) rfl (fun _ => ?_) (fun hx => absurd (by decide) hx)
            refine aw_iconst (pc' := 91) (x := 0) nd_P_takeFormula_90 rfl (by decide) ?_
            refine aw_ireturn nd_P_takeFormula_91 rfl (by first | rfl | assumption) (Nat.le_of_ble_eq_true rfl) (Nat.le_of_ble_eq_true rfl) ?_
            unfold pFf at hq
            rw [hr17] at hq
            dsimp only at hq
            rw [if_neg hor] at hq
            unfold pQ at hq
            rw [if_pos ht22] at hq
            rw [hr23] at hq
            dsimp only at hq
            (try dsimp only at hq)
            exact hq _ hs23
          | true =>
            show nW _ _ _ _ _ 83 _ [_] _ _ _
            refine aw_if_eq (pc' := 86) (tg := 90) nd_P_takeFormula_83 (by decide) rfl (fun hx => absurd hx (by decide)) (fun _ => ?_)
            refine aw_iconst (pc' := 87) (x := 1) nd_P_takeFormula_86 rfl (by decide) ?_
            refine aw_goto (pc' := 91) nd_P_takeFormula_87 (by decide) ?_
            refine aw_ireturn nd_P_takeFormula_91 rfl (by first | rfl | assumption) (Nat.le_of_ble_eq_true rfl) (Nat.le_of_ble_eq_true rfl) ?_
            unfold pFf at hq
            rw [hr17] at hq
            dsimp only at hq
            rw [if_neg hor] at hq
            unfold pQ at hq
            rw [if_pos ht22] at hq
            rw [hr23] at hq
            dsimp only at hq
            (try dsimp only at hq)
            exact hq _ hs23
        · skip
          show nW _ _ _ _ _ 75 _ [_] _ _ _
          refine aw_if_eq (pc' := 78) (tg := 86) nd_P_takeFormula_75 (by decide) rfl (fun _ => ?_) (fun hx => absurd (by decide) hx)
          refine aw_iconst (pc' := 87) (x := 1) nd_P_takeFormula_86 rfl (by decide) ?_
          refine aw_goto (pc' := 91) nd_P_takeFormula_87 (by decide) ?_
          refine aw_ireturn nd_P_takeFormula_91 rfl (by first | rfl | assumption) (Nat.le_of_ble_eq_true rfl) (Nat.le_of_ble_eq_true rfl) ?_
          unfold pFf at hq
          rw [hr17] at hq
          dsimp only at hq
          rw [if_neg hor] at hq
          unfold pQ at hq
          rw [if_neg ht22] at hq
          (try dsimp only at hq)
          exact hq _ hs17
      · skip
        have hor : nx (μ0.1 (nT 12)) n i17 = 60 ∨ nx (μ0.1 (nT 12)) n i17 = 61 := by first | exact Or.inl hb18 | exact Or.inr hb24
        have hlt : i17 < n := by rcases hor with z | z <;> exact nx_lt z (by decide)
        refine aw_aload_n (pc' := 28) nd_P_takeFormula_27 rfl rfl rfl ?_
        refine aw_dup (pc' := 29) nd_P_takeFormula_28 rfl rfl ?_
        refine aw_get (pc' := 32) nd_P_takeFormula_29 rfl nF_4_15 g_P_at ?_
        refine aw_iconst (pc' := 33) (x := 1) nd_P_takeFormula_32 rfl (by decide) ?_
        refine aw_iadd (pc' := 34) nd_P_takeFormula_33 rfl ?_
        refine aw_put (pc' := 37) nd_P_takeFormula_34 rfl nF_4_15 trivial p_P_at ?_
        refine aw_aload_n (pc' := 38) nd_P_takeFormula_37 rfl rfl rfl ?_
        refine aw_iload_n (pc' := 39) nd_P_takeFormula_38 rfl rfl ?_
        refine aw_callV (pc' := 42) (as := [_]) (st := []) nd_P_takeFormula_39 rfl nC_4_39 ⟨(Nat.le_of_ble_eq_true rfl), rfl, rfl⟩ ns_ioP (Nat.le_of_ble_eq_true rfl) (Nat.le_of_ble_eq_true rfl) (Nat.le_of_ble_eq_true rfl) ?_
        have ho24 := hSo dp (i17 + 1) cs17 (by omega) (by omega)
        refine hS d _ _ dp (i17 + 1) cs17 hs17.inc hdp (by omega) (by omega) (by omega) ?_
        rcases hr24 : pS (μ0.1 (nT 12)) n U dp (i17 + 1) cs17 with ⟨ok24, i24, cs24⟩
        rw [hr24] at ho24
        obtain ⟨oa24, ob24, oc24, od24⟩ := ho24
        dsimp only at oa24 ob24 oc24 od24
        dsimp only
        intro μ24 hs24
        cases ok24 with
        | false =>
          show nW _ _ _ _ _ 42 _ [_] _ _ _
          refine aw_if_ne (pc' := 45) (tg := 47) nd_P_takeFormula_42 (by decide) rfl (fun hx => absurd (by decide) hx) (fun _ => ?_)
          refine aw_iconst (pc' := 46) (x := 0) nd_P_takeFormula_45 rfl (by decide) ?_
          refine aw_ireturn nd_P_takeFormula_46 rfl (by first | rfl | assumption) (Nat.le_of_ble_eq_true rfl) (Nat.le_of_ble_eq_true rfl) ?_
          unfold pFf at hq
          rw [hr17] at hq
          dsimp only at hq
          rw [if_pos hor] at hq
          rw [hr24] at hq
          dsimp only at hq
          (try dsimp only at hq)
          exact hq _ hs24
        | true =>
          show nW _ _ _ _ _ 42 _ [_] _ _ _
          refine aw_if_ne (pc' := 45) (tg := 47) nd_P_takeFormula_42 (by decide) rfl (fun _ => ?_) (fun hx => absurd hx (by decide))
          refine aw_aload_n (pc' := 48) nd_P_takeFormula_47 rfl rfl rfl ?_
          refine aw_get (pc' := 51) nd_P_takeFormula_48 rfl nF_4_9 g_P_formula ?_
          refine aw_iload_n (pc' := 52) nd_P_takeFormula_51 rfl rfl ?_
          refine aw_bipush (pc' := 54) (x := 60) nd_P_takeFormula_52 rfl (by decide) ?_
          refine aw_icmp_ne (pc' := 57) (tg := 62) nd_P_takeFormula_54 (by decide) rfl (fun _ => ?_) (fun hx => absurd hx hb18)
          refine aw_bipush (pc' := 64) (x := 10) nd_P_takeFormula_62 rfl (by decide) ?_
          refine aw_iconst (pc' := 65) (x := 0) nd_P_takeFormula_64 rfl (by decide) ?_
          refine aw_callV (pc' := 68) (as := [_, _]) (st := []) nd_P_takeFormula_65 rfl nC_4_42 ⟨(Nat.le_of_ble_eq_true rfl), rfl, rfl⟩ (ns_ioF h12) (Nat.le_of_ble_eq_true rfl) (Nat.le_of_ble_eq_true rfl) (Nat.le_of_ble_eq_true rfl) ?_
          refine c_P_add hs24 ((if nx (μ0.1 (nT 12)) n i17 = 60 then 9 else 10), 0) (by rw [if_neg hb18]; rfl) rfl (by dsimp only; split <;> decide) (Nat.le_of_ble_eq_true rfl) (by omega) (fun μ25 hs25 => ?_)
          have hla25 : (cs24 ++ [((if nx (μ0.1 (nT 12)) n i17 = 60 then 9 else 10), 0)] : pC).length = cs24.length + 1 := by simp
          show nW _ _ _ _ _ 68 _ [_] _ _ _
          refine aw_pop (pc' := 69) nd_P_takeFormula_68 rfl rfl ?_
          refine aw_aload_n (pc' := 70) nd_P_takeFormula_69 rfl rfl rfl ?_
          refine aw_bipush (pc' := 72) (x := 63) nd_P_takeFormula_70 rfl (by decide) ?_
          refine aw_callV (pc' := 75) (as := [_]) (st := []) nd_P_takeFormula_72 rfl nC_4_46 ⟨(Nat.le_of_ble_eq_true rfl), rfl, rfl⟩ ns_ioP (Nat.le_of_ble_eq_true rfl) (Nat.le_of_ble_eq_true rfl) (Nat.le_of_ble_eq_true rfl) ?_
          refine c_P_take hH hs25 ob24 (c := 63) (fun ht26 μ26 hs26 => ?_) (fun ht26 => ?_)
          · skip
            have hlt26 := nx_lt ht26 (by decide)
            show nW _ _ _ _ _ 75 _ [_] _ _ _
            refine aw_if_eq (pc' := 78) (tg := 86) nd_P_takeFormula_75 (by decide) rfl (fun hx => absurd hx (by decide)) (fun _ => ?_)
            refine aw_aload_n (pc' := 79) nd_P_takeFormula_78 rfl rfl rfl ?_
            refine aw_iload_n (pc' := 80) nd_P_takeFormula_79 rfl rfl ?_
            refine aw_callV (pc' := 83) (as := [_]) (st := []) nd_P_takeFormula_80 rfl nC_4_50 ⟨(Nat.le_of_ble_eq_true rfl), rfl, rfl⟩ ns_ioP (Nat.le_of_ble_eq_true rfl) (Nat.le_of_ble_eq_true rfl) (Nat.le_of_ble_eq_true rfl) ?_
            refine hB d _ _ dp (i24 + 1) (cs24 ++ [((if nx (μ0.1 (nT 12)) n i17 = 60 then 9 else 10), 0)]) hs26 hdp (by omega) (by omega) (by omega) ?_
            rcases hr27 : pB (μ0.1 (nT 12)) n F dp (i24 + 1) (cs24 ++ [((if nx (μ0.1 (nT 12)) n i17 = 60 then 9 else 10), 0)]) with ⟨ok27, i27, cs27⟩
            dsimp only
            intro μ27 hs27
            cases ok27 with
            | false =>
              show nW _ _ _ _ _ 83 _ [_] _ _ _
              refine aw_if_eq (pc' := 86) (tg := 90) nd_P_takeFormula_83 (by decide) rfl (fun _ => ?_) (fun hx => absurd (by decide) hx)
              refine aw_iconst (pc' := 91) (x := 0) nd_P_takeFormula_90 rfl (by decide) ?_
              refine aw_ireturn nd_P_takeFormula_91 rfl (by first | rfl | assumption) (Nat.le_of_ble_eq_true rfl) (Nat.le_of_ble_eq_true rfl) ?_
              unfold pFf at hq
              rw [hr17] at hq
              dsimp only at hq
              rw [if_pos hor] at hq
              rw [hr24] at hq
              dsimp only at hq
              unfold pQ at hq
              rw [if_pos ht26] at hq
              rw [hr27] at hq
              dsimp only at hq
              (try dsimp only at hq)
              exact hq _ hs27
            | true =>
              show nW _ _ _ _ _ 83 _ [_] _ _ _
              refine aw_if_eq (pc' := 86) (tg := 90) nd_P_takeFormula_83 (by decide) rfl (fun hx => absurd hx (by decide)) (fun _ => ?_)
              refine aw_iconst (pc' := 87) (x := 1) nd_P_takeFormula_86 rfl (by decide) ?_
              refine aw_goto (pc' := 91) nd_P_takeFormula_87 (by decide) ?_
              refine aw_ireturn nd_P_takeFormula_91 rfl (by first | rfl | assumption) (Nat.le_of_ble_eq_true rfl) (Nat.le_of_ble_eq_true rfl) ?_
              unfold pFf at hq
              rw [hr17] at hq
              dsimp only at hq
              rw [if_pos hor] at hq
              rw [hr24] at hq
              dsimp only at hq
              unfold pQ at hq
              rw [if_pos ht26] at hq
              rw [hr27] at hq
              dsimp only at hq
              (try dsimp only at hq)
              exact hq _ hs27
          · skip
            show nW _ _ _ _ _ 75 _ [_] _ _ _
            refine aw_if_eq (pc' := 78) (tg := 86) nd_P_takeFormula_75 (by decide) rfl (fun _ => ?_) (fun hx => absurd (by decide) hx)
            refine aw_iconst (pc' := 87) (x := 1) nd_P_takeFormula_86 rfl (by decide) ?_
            refine aw_goto (pc' := 91) nd_P_takeFormula_87 (by decide) ?_
            refine aw_ireturn nd_P_takeFormula_91 rfl (by first | rfl | assumption) (Nat.le_of_ble_eq_true rfl) (Nat.le_of_ble_eq_true rfl) ?_
            unfold pFf at hq
            rw [hr17] at hq
            dsimp only at hq
            rw [if_pos hor] at hq
            rw [hr24] at hq
            dsimp only at hq
            unfold pQ at hq
            rw [if_neg ht26] at hq
            (try dsimp only at hq)
            exact hq _ hs25

theorem c_P_unit {L : Nat} {xs : Nat → Int32} {μ0 : nMem} {n f : Nat} (hH : PH μ0 n) {U F : Nat → Nat → pC → pR} {e : Nat} (hU : CU L xs μ0 n f U 102 (e + 2)) (hUo : pAll n U f) (hF : CU L xs μ0 n f F 98 (e + 2)) (hFo : pAll n F f) : CU L xs μ0 n (f + 1) (pUf (μ0.1 (nT 12)) n U F) 102 (e + 3) := by
  have h12 : 12 < 13 := by omega
  have hn30 := hH.2.1
  intro d Q μ dp i cs hs hdp hi hf hcs hq
  show nM L xs ((d + e + 2) + 1) _ _ _ _
  refine nM.of ns_I_P_takeUnit rfl (ls := [_, _, _]) (Nat.le_of_ble_eq_true rfl) rfl ?_
  refine aw_aload_n (pc' := 1) nd_P_takeUnit_0 rfl rfl rfl ?_
  refine aw_callV (pc' := 4) (as := []) (st := []) nd_P_takeUnit_1 rfl nC_4_35 ⟨(Nat.le_of_ble_eq_true rfl), rfl, rfl⟩ ns_ioP (Nat.le_of_ble_eq_true rfl) (Nat.le_of_ble_eq_true rfl) (Nat.le_of_ble_eq_true rfl) ?_
  refine c_P_next hH hs hi ?_
  show nW _ _ _ _ _ 4 _ [_] _ _ _
  refine aw_istore_n (pc' := 5) (ls' := [_, _, _]) nd_P_takeUnit_4 rfl (Nat.le_of_ble_eq_true rfl) rfl ?_
  refine aw_iload_n (pc' := 6) nd_P_takeUnit_5 rfl rfl ?_
  refine aw_callS (a := 0) (pc' := 9) (as := [_]) (st := []) nd_P_takeUnit_6 rfl nC_4_63 ⟨(Nat.le_of_ble_eq_true rfl), rfl, rfl⟩ (Nat.le_of_ble_eq_true rfl) (Nat.le_of_ble_eq_true rfl) (Nat.le_of_ble_eq_true rfl) ?_
  refine c_F_isLetter ?_
  show nW _ _ _ _ _ 9 _ [_] _ _ _
  refine aw_if_eq (pc' := 12) (tg := 37) nd_P_takeUnit_9 (by decide) rfl (fun hb9 => ?_) (fun hb9 => ?_)
  · skip
    have hl9 := bi_f hb9
    refine aw_iload_n (pc' := 38) nd_P_takeUnit_37 rfl rfl ?_
    refine aw_callS (a := 0) (pc' := 41) (as := [_]) (st := []) nd_P_takeUnit_38 rfl nC_4_66 ⟨(Nat.le_of_ble_eq_true rfl), rfl, rfl⟩ (Nat.le_of_ble_eq_true rfl) (Nat.le_of_ble_eq_true rfl) (Nat.le_of_ble_eq_true rfl) ?_
    refine c_F_isDigit ?_
    show nW _ _ _ _ _ 41 _ [_] _ _ _
    refine aw_if_eq (pc' := 44) (tg := 50) nd_P_takeUnit_41 (by decide) rfl (fun hb41 => ?_) (fun hb41 => ?_)
    · skip
      have hl41 := bi_f hb41
      have e5 : nI dp < (5 : Int32) ↔ dp < 5 := nI_ltI (b := 5) (by omega) (by decide)
      refine aw_iload_n (pc' := 51) nd_P_takeUnit_50 rfl rfl ?_
      refine aw_iconst (pc' := 52) (x := 5) nd_P_takeUnit_51 rfl (by decide) ?_
      refine aw_icmp_lt (pc' := 55) (tg := 57) nd_P_takeUnit_52 (by decide) rfl (fun hb52 => ?_) (fun hb52 => ?_)
      · skip
        have h5 : ¬ 5 ≤ dp := by have := e5.mp hb52; omega
        refine aw_aload_n (pc' := 58) nd_P_takeUnit_57 rfl rfl rfl ?_
        refine aw_bipush (pc' := 60) (x := 40) nd_P_takeUnit_58 rfl (by decide) ?_
        refine aw_callV (pc' := 63) (as := [_]) (st := []) nd_P_takeUnit_60 rfl nC_4_46 ⟨(Nat.le_of_ble_eq_true rfl), rfl, rfl⟩ ns_ioP (Nat.le_of_ble_eq_true rfl) (Nat.le_of_ble_eq_true rfl) (Nat.le_of_ble_eq_true rfl) ?_
        refine c_P_take hH hs hi (c := 40) (fun ht28 μ28 hs28 => ?_) (fun ht28 => ?_)
        · skip
          have hlt28 := nx_lt ht28 (by decide)
          show nW _ _ _ _ _ 63 _ [_] _ _ _
          refine aw_if_eq (pc' := 66) (tg := 91) nd_P_takeUnit_63 (by decide) rfl (fun hx => absurd hx (by decide)) (fun _ => ?_)
          refine aw_aload_n (pc' := 67) nd_P_takeUnit_66 rfl rfl rfl ?_
          refine aw_iload_n (pc' := 68) nd_P_takeUnit_67 rfl rfl ?_
          refine aw_iconst (pc' := 69) (x := 1) nd_P_takeUnit_68 rfl (by decide) ?_
          refine aw_iadd (pc' := 70) nd_P_takeUnit_69 rfl ?_
          rw [nI_1]
          refine aw_callV (pc' := 73) (as := [_]) (st := []) nd_P_takeUnit_70 rfl nC_4_24 ⟨(Nat.le_of_ble_eq_true rfl), rfl, rfl⟩ ns_ioP (Nat.le_of_ble_eq_true rfl) (Nat.le_of_ble_eq_true rfl) (Nat.le_of_ble_eq_true rfl) ?_
          have ho29 := hFo (dp + 1) (i + 1) cs (by omega) (by omega)
          refine hF d _ _ (dp + 1) (i + 1) cs hs28 (by omega) (by omega) (by omega) (by omega) ?_
          rcases hr29 : F (dp + 1) (i + 1) cs with ⟨ok29, i29, cs29⟩
          rw [hr29] at ho29
          obtain ⟨oa29, ob29, oc29, od29⟩ := ho29
          dsimp only at oa29 ob29 oc29 od29
          dsimp only
          intro μ29 hs29
          cases ok29 with
          | false =>
            show nW _ _ _ _ _ 73 _ [_] _ _ _
            refine aw_if_eq (pc' := 76) (tg := 89) nd_P_takeUnit_73 (by decide) rfl (fun _ => ?_) (fun hx => absurd (by decide) hx)
            refine aw_iconst (pc' := 90) (x := 0) nd_P_takeUnit_89 rfl (by decide) ?_
            refine aw_ireturn nd_P_takeUnit_90 rfl (by first | rfl | assumption) (Nat.le_of_ble_eq_true rfl) (Nat.le_of_ble_eq_true rfl) ?_
            unfold pUf at hq
            rw [if_neg (by rw [hl9]; decide)] at hq
            rw [if_neg (by rw [hl41]; decide)] at hq
            rw [if_neg h5] at hq
            rw [if_pos ht28] at hq
            rw [hr29] at hq
            dsimp only at hq
            (try dsimp only at hq)
            exact hq _ hs29
          | true =>
            show nW _ _ _ _ _ 73 _ [_] _ _ _
            refine aw_if_eq (pc' := 76) (tg := 89) nd_P_takeUnit_73 (by decide) rfl (fun hx => absurd hx (by decide)) (fun _ => ?_)
            refine aw_aload_n (pc' := 77) nd_P_takeUnit_76 rfl rfl rfl ?_
            refine aw_bipush (pc' := 79) (x := 41) nd_P_takeUnit_77 rfl (by decide) ?_
            refine aw_callV (pc' := 82) (as := [_]) (st := []) nd_P_takeUnit_79 rfl nC_4_46 ⟨(Nat.le_of_ble_eq_true rfl), rfl, rfl⟩ ns_ioP (Nat.le_of_ble_eq_true rfl) (Nat.le_of_ble_eq_true rfl) (Nat.le_of_ble_eq_true rfl) ?_
            refine c_P_take hH hs29 ob29 (c := 41) (fun ht30 μ30 hs30 => ?_) (fun ht30 => ?_)
            · skip
              have hlt30 := nx_lt ht30 (by decide)
              show nW _ _ _ _ _ 82 _ [_] _ _ _
              refine aw_if_eq (pc' := 85) (tg := 89) nd_P_takeUnit_82 (by decide) rfl (fun hx => absurd hx (by decide)) (fun _ => ?_)
              refine aw_iconst (pc' := 86) (x := 1) nd_P_takeUnit_85 rfl (by decide) ?_
              refine aw_goto (pc' := 90) nd_P_takeUnit_86 (by decide) ?_
              refine aw_ireturn nd_P_takeUnit_90 rfl (by first | rfl | assumption) (Nat.le_of_ble_eq_true rfl) (Nat.le_of_ble_eq_true rfl) ?_
              unfold pUf at hq
              rw [if_neg (by rw [hl9]; decide)] at hq
              rw [if_neg (by rw [hl41]; decide)] at hq
              rw [if_neg h5] at hq
              rw [if_pos ht28] at hq
              rw [hr29] at hq
              dsimp only at hq
              rw [if_pos ht30] at hq
              (try dsimp only at hq)
              exact hq _ hs30
            · skip
              show nW _ _ _ _ _ 82 _ [_] _ _ _
              refine aw_if_eq (pc' := 85) (tg := 89) nd_P_takeUnit_82 (by decide) rfl (fun _ => ?_) (fun hx => absurd (by decide) hx)
              refine aw_iconst (pc' := 90) (x := 0) nd_P_takeUnit_89 rfl (by decide) ?_
              refine aw_ireturn nd_P_takeUnit_90 rfl (by first | rfl | assumption) (Nat.le_of_ble_eq_true rfl) (Nat.le_of_ble_eq_true rfl) ?_
              unfold pUf at hq
              rw [if_neg (by rw [hl9]; decide)] at hq
              rw [if_neg (by rw [hl41]; decide)] at hq
              rw [if_neg h5] at hq
              rw [if_pos ht28] at hq
              rw [hr29] at hq
              dsimp only at hq
              rw [if_neg ht30] at hq
              (try dsimp only at hq)
              exact hq _ hs29
        · skip
          show nW _ _ _ _ _ 63 _ [_] _ _ _
          refine aw_if_eq (pc' := 66) (tg := 91) nd_P_takeUnit_63 (by decide) rfl (fun _ => ?_) (fun hx => absurd (by decide) hx)
          refine aw_aload_n (pc' := 92) nd_P_takeUnit_91 rfl rfl rfl ?_
          refine aw_bipush (pc' := 94) (x := 45) nd_P_takeUnit_92 rfl (by decide) ?_
          refine aw_callV (pc' := 97) (as := [_]) (st := []) nd_P_takeUnit_94 rfl nC_4_46 ⟨(Nat.le_of_ble_eq_true rfl), rfl, rfl⟩ ns_ioP (Nat.le_of_ble_eq_true rfl) (Nat.le_of_ble_eq_true rfl) (Nat.le_of_ble_eq_true rfl) ?_
          refine c_P_take hH hs hi (c := 45) (fun ht31 μ31 hs31 => ?_) (fun ht31 => ?_)
          · skip
            have hlt31 := nx_lt ht31 (by decide)
            show nW _ _ _ _ _ 97 _ [_] _ _ _
            refine aw_if_ne (pc' := 100) (tg := 111) nd_P_takeUnit_97 (by decide) rfl (fun _ => ?_) (fun hx => absurd hx (by decide))
            refine aw_aload_n (pc' := 112) nd_P_takeUnit_111 rfl rfl rfl ?_
            refine aw_iload_n (pc' := 113) nd_P_takeUnit_112 rfl rfl ?_
            refine aw_iconst (pc' := 114) (x := 1) nd_P_takeUnit_113 rfl (by decide) ?_
            refine aw_iadd (pc' := 115) nd_P_takeUnit_114 rfl ?_
            rw [nI_1]
            refine aw_callV (pc' := 118) (as := [_]) (st := []) nd_P_takeUnit_115 rfl nC_4_60 ⟨(Nat.le_of_ble_eq_true rfl), rfl, rfl⟩ ns_ioP (Nat.le_of_ble_eq_true rfl) (Nat.le_of_ble_eq_true rfl) (Nat.le_of_ble_eq_true rfl) ?_
            have ho32 := hUo (dp + 1) (i + 1) cs (by omega) (by omega)
            refine hU d _ _ (dp + 1) (i + 1) cs hs31 (by omega) (by omega) (by omega) (by omega) ?_
            rcases hr32 : U (dp + 1) (i + 1) cs with ⟨ok32, i32, cs32⟩
            rw [hr32] at ho32
            obtain ⟨oa32, ob32, oc32, od32⟩ := ho32
            dsimp only at oa32 ob32 oc32 od32
            dsimp only
            intro μ32 hs32
            cases ok32 with
            | false =>
              show nW _ _ _ _ _ 118 _ [_] _ _ _
              refine aw_if_ne (pc' := 121) (tg := 123) nd_P_takeUnit_118 (by decide) rfl (fun hx => absurd (by decide) hx) (fun _ => ?_)
              refine aw_iconst (pc' := 122) (x := 0) nd_P_takeUnit_121 rfl (by decide) ?_
              refine aw_ireturn nd_P_takeUnit_122 rfl (by first | rfl | assumption) (Nat.le_of_ble_eq_true rfl) (Nat.le_of_ble_eq_true rfl) ?_
              unfold pUf at hq
              rw [if_neg (by rw [hl9]; decide)] at hq
              rw [if_neg (by rw [hl41]; decide)] at hq
              rw [if_neg h5] at hq
              rw [if_neg ht28] at hq
              rw [if_pos (Or.inl ht31)] at hq
              rw [hr32] at hq
              dsimp only at hq
              (try dsimp only at hq)
              exact hq _ hs32
            | true =>
              show nW _ _ _ _ _ 118 _ [_] _ _ _
              refine aw_if_ne (pc' := 121) (tg := 123) nd_P_takeUnit_118 (by decide) rfl (fun _ => ?_) (fun hx => absurd hx (by decide))
              refine aw_aload_n (pc' := 124) nd_P_takeUnit_123 rfl rfl rfl ?_
              refine aw_get (pc' := 127) nd_P_takeUnit_124 rfl nF_4_9 g_P_formula ?_
              refine aw_iload_n (pc' := 128) nd_P_takeUnit_127 rfl rfl ?_
              refine aw_bipush (pc' := 130) (x := 45) nd_P_takeUnit_128 rfl (by decide) ?_
              refine aw_icmp_ne (pc' := 133) (tg := 137) nd_P_takeUnit_130 (by decide) rfl (fun hx => absurd ht31 hx) (fun _ => ?_)
              refine aw_iconst (pc' := 134) (x := 3) nd_P_takeUnit_133 rfl (by decide) ?_
              refine aw_goto (pc' := 138) nd_P_takeUnit_134 (by decide) ?_
              refine aw_iconst (pc' := 139) (x := 0) nd_P_takeUnit_138 rfl (by decide) ?_
              refine aw_callV (pc' := 142) (as := [_, _]) (st := []) nd_P_takeUnit_139 rfl nC_4_42 ⟨(Nat.le_of_ble_eq_true rfl), rfl, rfl⟩ (ns_ioF h12) (Nat.le_of_ble_eq_true rfl) (Nat.le_of_ble_eq_true rfl) (Nat.le_of_ble_eq_true rfl) ?_
              refine c_P_add hs32 ((if nx (μ0.1 (nT 12)) n i = 45 then 3 else 2), 0) (by rw [if_pos ht31]; rfl) rfl (by dsimp only; split <;> decide) (Nat.le_of_ble_eq_true rfl) (by omega) (fun μ33 hs33 => ?_)
              show nW _ _ _ _ _ 142 _ [_] _ _ _
              refine aw_pop (pc' := 143) nd_P_takeUnit_142 rfl rfl ?_
              refine aw_iconst (pc' := 144) (x := 1) nd_P_takeUnit_143 rfl (by decide) ?_
              refine aw_ireturn nd_P_takeUnit_144 rfl (by first | rfl | assumption) (Nat.le_of_ble_eq_true rfl) (Nat.le_of_ble_eq_true rfl) ?_
              unfold pUf at hq
              rw [if_neg (by rw [hl9]; decide)] at hq
              rw [if_neg (by rw [hl41]; decide)] at hq
              rw [if_neg h5] at hq
              rw [if_neg ht28] at hq
              rw [if_pos (Or.inl ht31)] at hq
              rw [hr32] at hq
              dsimp only at hq
              (try dsimp only at hq)
              exact hq _ hs33
          · skip
            show nW _ _ _ _ _ 97 _ [_] _ _ _
            refine aw_if_ne (pc' := 100) (tg := 111) nd_P_takeUnit_97 (by decide) rfl (fun hx => absurd (by decide) hx) (fun _ => ?_)
            refine aw_aload_n (pc' := 101) nd_P_takeUnit_100 rfl rfl rfl ?_
            refine aw_bipush (pc' := 103) (x := 64) nd_P_takeUnit_101 rfl (by decide) ?_
            refine aw_callV (pc' := 106) (as := [_]) (st := []) nd_P_takeUnit_103 rfl nC_4_46 ⟨(Nat.le_of_ble_eq_true rfl), rfl, rfl⟩ ns_ioP (Nat.le_of_ble_eq_true rfl) (Nat.le_of_ble_eq_true rfl) (Nat.le_of_ble_eq_true rfl) ?_
            refine c_P_take hH hs hi (c := 64) (fun ht34 μ34 hs34 => ?_) (fun ht34 => ?_)
            · skip
              have hlt34 := nx_lt ht34 (by decide)
              show nW _ _ _ _ _ 106 _ [_] _ _ _
              refine aw_if_ne (pc' := 109) (tg := 111) nd_P_takeUnit_106 (by decide) rfl (fun _ => ?_) (fun hx => absurd hx (by decide))
              refine aw_aload_n (pc' := 112) nd_P_takeUnit_111 rfl rfl rfl ?_
              refine aw_iload_n (pc' := 113) nd_P_takeUnit_112 rfl rfl ?_
              refine aw_iconst (pc' := 114) (x := 1) nd_P_takeUnit_113 rfl (by decide) ?_
              refine aw_iadd (pc' := 115) nd_P_takeUnit_114 rfl ?_
              rw [nI_1]
              refine aw_callV (pc' := 118) (as := [_]) (st := []) nd_P_takeUnit_115 rfl nC_4_60 ⟨(Nat.le_of_ble_eq_true rfl), rfl, rfl⟩ ns_ioP (Nat.le_of_ble_eq_true rfl) (Nat.le_of_ble_eq_true rfl) (Nat.le_of_ble_eq_true rfl) ?_
              have ho35 := hUo (dp + 1) (i + 1) cs (by omega) (by omega)
              refine hU d _ _ (dp + 1) (i + 1) cs hs34 (by omega) (by omega) (by omega) (by omega) ?_
              rcases hr35 : U (dp + 1) (i + 1) cs with ⟨ok35, i35, cs35⟩
              rw [hr35] at ho35
              obtain ⟨oa35, ob35, oc35, od35⟩ := ho35
              dsimp only at oa35 ob35 oc35 od35
              dsimp only
              intro μ35 hs35
              cases ok35 with
              | false =>
                show nW _ _ _ _ _ 118 _ [_] _ _ _
                refine aw_if_ne (pc' := 121) (tg := 123) nd_P_takeUnit_118 (by decide) rfl (fun hx => absurd (by decide) hx) (fun _ => ?_)
                refine aw_iconst (pc' := 122) (x := 0) nd_P_takeUnit_121 rfl (by decide) ?_
                refine aw_ireturn nd_P_takeUnit_122 rfl (by first | rfl | assumption) (Nat.le_of_ble_eq_true rfl) (Nat.le_of_ble_eq_true rfl) ?_
                unfold pUf at hq
                rw [if_neg (by rw [hl9]; decide)] at hq
                rw [if_neg (by rw [hl41]; decide)] at hq
                rw [if_neg h5] at hq
                rw [if_neg ht28] at hq
                rw [if_pos (Or.inr ht34)] at hq
                rw [hr35] at hq
                dsimp only at hq
                (try dsimp only at hq)
                exact hq _ hs35
              | true =>
                show nW _ _ _ _ _ 118 _ [_] _ _ _
                refine aw_if_ne (pc' := 121) (tg := 123) nd_P_takeUnit_118 (by decide) rfl (fun _ => ?_) (fun hx => absurd hx (by decide))
                refine aw_aload_n (pc' := 124) nd_P_takeUnit_123 rfl rfl rfl ?_
                refine aw_get (pc' := 127) nd_P_takeUnit_124 rfl nF_4_9 g_P_formula ?_
                refine aw_iload_n (pc' := 128) nd_P_takeUnit_127 rfl rfl ?_
                refine aw_bipush (pc' := 130) (x := 45) nd_P_takeUnit_128 rfl (by decide) ?_
                refine aw_icmp_ne (pc' := 133) (tg := 137) nd_P_takeUnit_130 (by decide) rfl (fun _ => ?_) (fun hx => absurd hx ht31)
                refine aw_iconst (pc' := 138) (x := 2) nd_P_takeUnit_137 rfl (by decide) ?_
                refine aw_iconst (pc' := 139) (x := 0) nd_P_takeUnit_138 rfl (by decide) ?_
                refine aw_callV (pc' := 142) (as := [_, _]) (st := []) nd_P_takeUnit_139 rfl nC_4_42 ⟨(Nat.le_of_ble_eq_true rfl), rfl, rfl⟩ (ns_ioF h12) (Nat.le_of_ble_eq_true rfl) (Nat.le_of_ble_eq_true rfl) (Nat.le_of_ble_eq_true rfl) ?_
                refine c_P_add hs35 ((if nx (μ0.1 (nT 12)) n i = 45 then 3 else 2), 0) (by rw [if_neg ht31]; rfl) rfl (by dsimp only; split <;> decide) (Nat.le_of_ble_eq_true rfl) (by omega) (fun μ36 hs36 => ?_)
                show nW _ _ _ _ _ 142 _ [_] _ _ _
                refine aw_pop (pc' := 143) nd_P_takeUnit_142 rfl rfl ?_
                refine aw_iconst (pc' := 144) (x := 1) nd_P_takeUnit_143 rfl (by decide) ?_
                refine aw_ireturn nd_P_takeUnit_144 rfl (by first | rfl | assumption) (Nat.le_of_ble_eq_true rfl) (Nat.le_of_ble_eq_true rfl) ?_
                unfold pUf at hq
                rw [if_neg (by rw [hl9]; decide)] at hq
                rw [if_neg (by rw [hl41]; decide)] at hq
                rw [if_neg h5] at hq
                rw [if_neg ht28] at hq
                rw [if_pos (Or.inr ht34)] at hq
                rw [hr35] at hq
                dsimp only at hq
                (try dsimp only at hq)
                exact hq _ hs36
            · skip
              show nW _ _ _ _ _ 106 _ [_] _ _ _
              refine aw_if_ne (pc' := 109) (tg := 111) nd_P_takeUnit_106 (by decide) rfl (fun hx => absurd (by decide) hx) (fun _ => ?_)
              refine aw_iconst (pc' := 110) (x := 0) nd_P_takeUnit_109 rfl (by decide) ?_
              refine aw_ireturn nd_P_takeUnit_110 rfl (by first | rfl | assumption) (Nat.le_of_ble_eq_true rfl) (Nat.le_of_ble_eq_true rfl) ?_
              unfold pUf at hq
              rw [if_neg (by rw [hl9]; decide)] at hq
              rw [if_neg (by rw [hl41]; decide)] at hq
              rw [if_neg h5] at hq
              rw [if_neg ht28] at hq
              rw [if_neg (fun z => z.elim ht31 ht34)] at hq
              (try dsimp only at hq)
              exact hq _ hs
      · skip
        have h5 : 5 ≤ dp := by have := mt e5.mpr hb52; omega
        refine aw_iconst (pc' := 56) (x := 0) nd_P_takeUnit_55 rfl (by decide) ?_
        refine aw_ireturn nd_P_takeUnit_56 rfl (by first | rfl | assumption) (Nat.le_of_ble_eq_true rfl) (Nat.le_of_ble_eq_true rfl) ?_
        unfold pUf at hq
        rw [if_neg (by rw [hl9]; decide)] at hq
        rw [if_neg (by rw [hl41]; decide)] at hq
        rw [if_pos h5] at hq
        (try dsimp only at hq)
        exact hq _ hs
    · skip
      have hl41 := bi_t hb41
      have hlt41 := isDig_lt hl41
      refine aw_aload_n (pc' := 45) nd_P_takeUnit_44 rfl rfl rfl ?_
      refine aw_callV (pc' := 48) (as := []) (st := []) nd_P_takeUnit_45 rfl nC_4_69 ⟨(Nat.le_of_ble_eq_true rfl), rfl, rfl⟩ ns_ioP (Nat.le_of_ble_eq_true rfl) (Nat.le_of_ble_eq_true rfl) (Nat.le_of_ble_eq_true rfl) ?_
      refine c_P_num hH hs hi (by omega) (fun μ37 hs37 => ?_)
      show nW _ _ _ _ _ 48 _ [] _ _ _
      refine aw_iconst (pc' := 49) (x := 1) nd_P_takeUnit_48 rfl (by decide) ?_
      refine aw_ireturn nd_P_takeUnit_49 rfl (by first | rfl | assumption) (Nat.le_of_ble_eq_true rfl) (Nat.le_of_ble_eq_true rfl) ?_
      unfold pUf at hq
      rw [if_neg (by rw [hl9]; decide)] at hq
      rw [if_pos hl41] at hq
      (try dsimp only at hq)
      exact hq _ hs37
  · skip
    have hl9 := bi_t hb9
    have hlt9 := isLet_lt hl9
    refine aw_aload_n (pc' := 13) nd_P_takeUnit_12 rfl rfl rfl ?_
    refine aw_dup (pc' := 14) nd_P_takeUnit_13 rfl rfl ?_
    refine aw_get (pc' := 17) nd_P_takeUnit_14 rfl nF_4_15 g_P_at ?_
    refine aw_iconst (pc' := 18) (x := 1) nd_P_takeUnit_17 rfl (by decide) ?_
    refine aw_iadd (pc' := 19) nd_P_takeUnit_18 rfl ?_
    refine aw_put (pc' := 22) nd_P_takeUnit_19 rfl nF_4_15 trivial p_P_at ?_
    refine aw_aload_n (pc' := 23) nd_P_takeUnit_22 rfl rfl rfl ?_
    refine aw_get (pc' := 26) nd_P_takeUnit_23 rfl nF_4_9 g_P_formula ?_
    refine aw_iconst (pc' := 27) (x := 1) nd_P_takeUnit_26 rfl (by decide) ?_
    refine aw_iload_n (pc' := 28) nd_P_takeUnit_27 rfl rfl ?_
    refine aw_bipush (pc' := 30) (x := 65) nd_P_takeUnit_28 rfl (by decide) ?_
    refine aw_isub (pc' := 31) nd_P_takeUnit_30 rfl ?_
    refine aw_callV (pc' := 34) (as := [_, _]) (st := []) nd_P_takeUnit_31 rfl nC_4_42 ⟨(Nat.le_of_ble_eq_true rfl), rfl, rfl⟩ (ns_ioF h12) (Nat.le_of_ble_eq_true rfl) (Nat.le_of_ble_eq_true rfl) (Nat.le_of_ble_eq_true rfl) ?_
    refine c_P_add hs.inc (1, la (nx (μ0.1 (nT 12)) n i)) rfl (la_of hl9).1 (by dsimp only; omega) (by have := (la_of hl9).2; dsimp only; omega) (by omega) (fun μ38 hs38 => ?_)
    show nW _ _ _ _ _ 34 _ [_] _ _ _
    refine aw_pop (pc' := 35) nd_P_takeUnit_34 rfl rfl ?_
    refine aw_iconst (pc' := 36) (x := 1) nd_P_takeUnit_35 rfl (by decide) ?_
    refine aw_ireturn nd_P_takeUnit_36 rfl (by first | rfl | assumption) (Nat.le_of_ble_eq_true rfl) (Nat.le_of_ble_eq_true rfl) ?_
    unfold pUf at hq
    rw [if_pos hl9] at hq
    (try dsimp only at hq)
    exact hq _ hs38
