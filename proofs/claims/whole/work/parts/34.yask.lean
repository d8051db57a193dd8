/-! the model's parser: what it asks of its signs -/
def RG (μ : nMem) (sg : yG) : Prop := ∀ i q, sg.reverse[i]? = some q → μ.1 137 i = q.1
theorem RG.tail {μ : nMem} {q : Int32 × Int32} {sg : yG} (h : RG μ (q :: sg)) : RG μ sg := fun i p hp => h i p (by rw [List.reverse_cons, List.getElem?_append_left (List.getElem?_eq_some_iff.mp hp).1]; exact hp)
theorem RG.top {μ : nMem} {c m : Int32} {sg : yG} (h : RG μ ((c, m) :: sg)) : μ.1 137 sg.length = c := h sg.length (c, m) (by rw [List.reverse_cons, List.getElem?_append_right (by rw [List.length_reverse]; exact Nat.le_refl _), List.length_reverse, Nat.sub_self]; rfl)
theorem YS.rg {μ0 μ : nMem} {sg cd : yG} (h : YS μ0 μ sg cd) : RG μ sg := fun i q hq => (h.2.1.2 i q hq).1
theorem nI_m1 (n : Nat) : nI n + Int32.ofInt (-1) = nI n - 1 := by rw [Int32.sub_eq_add_neg]; rfl
def yDp (q : Int32 × Int32) : Bool := decide (q.1 = 40) || decide (rkM q.1 = 3)
def yD (sg : yG) : Nat := sg.countP yDp
def yCm : yG → Bool → Bool
  | [], b => b
  | (c, _) :: sg, b => if rkM c < 0 then b else yCm sg (b || decide (rkM c = 0))
def yIn : yG → yG
  | [] => []
  | (c, m) :: sg => if rkM c < 0 then (c, m) :: sg else yIn sg
def yAw : yG → Int32
  | [] => 0
  | (c, _) :: sg => if c = 58 then yAw sg else if rkM c < 0 then c else yAw sg
theorem yIn_len : ∀ sg : yG, (yIn sg).length ≤ sg.length := by
  intro sg
  induction sg with
  | nil => exact Nat.le_refl _
  | cons q sg ih =>
    obtain ⟨c, m⟩ := q
    unfold yIn
    split
    · exact Nat.le_refl _
    · rw [List.length_cons]; omega
theorem yIn_rg {μ : nMem} : ∀ {sg : yG}, RG μ sg → RG μ (yIn sg) := by
  intro sg
  induction sg with
  | nil => intro h; exact h
  | cons q sg ih =>
    intro h
    obtain ⟨c, m⟩ := q
    unfold yIn
    split
    · exact h
    · exact ih h.tail
theorem yAw_in : ∀ sg : yG, yAw (yIn sg) = yAw sg := by
  intro sg
  induction sg with
  | nil => rfl
  | cons q sg ih =>
    obtain ⟨c, m⟩ := q
    unfold yIn
    split
    · rfl
    · rename_i h
      rw [ih]
      by_cases hc : c = 58
      · rw [yAw, if_pos hc]
      · rw [yAw, if_neg hc, if_neg h]
theorem yD_take (R : yG) {i : Nat} {q : Int32 × Int32} (h : R[i]? = some q) : (R.take (i + 1)).countP yDp = (R.take i).countP yDp + if yDp q = true then 1 else 0 := by
  rw [List.take_succ, h, List.countP_append]
  simp [List.countP_cons]

theorem l_M_deepness {L : Nat} {xs : Nat → Int32} {d : Nat} {Q : ax_Q} {μ : nMem} {sg : yG} (h37 : μ.1 104 37 = nI sg.length) (h : RG μ sg) (hs : sg.length ≤ 64) (hq : Q (some (.int (nI (yD sg)))) (ns_rep μ)) : ∀ z i, z + i = sg.length → nW L xs (d + 1) ns_I_M_deepness Q 4 [some (.ref 104), some (.int (nI ((sg.reverse.take i).countP yDp))), some (.int (nI i))] [] 0 0 (ns_rep μ) := by
  intro z
  induction z with
  | zero =>
    intro i hi
    obtain rfl : i = sg.length := by omega
    refine aw_iload_n (pc' := 5) nd_M_deepness_4 rfl rfl ?_
    refine aw_aload_n (pc' := 6) nd_M_deepness_5 rfl rfl rfl ?_
    refine aw_get (pc' := 9) nd_M_deepness_6 rfl nF_5_140 g_M_signs ?_
    refine aw_icmp_ge (pc' := 12) (tg := 50) nd_M_deepness_9 (by decide) rfl (fun _ => ?_) (fun hx => absurd (by rw [h37]; exact nI_le (Nat.le_refl _) (by omega)) hx)
    refine aw_iload_n (pc' := 51) nd_M_deepness_50 rfl rfl ?_
    refine aw_ireturn nd_M_deepness_51 rfl rfl (Nat.le_of_ble_eq_true rfl) (Nat.le_of_ble_eq_true rfl) ?_
    rw [List.take_of_length_le (by rw [List.length_reverse]; exact Nat.le_refl _), List.countP_reverse]
    exact hq
  | succ z ih =>
    intro i hi
    have hin : i < sg.length := by omega
    have hr : sg.reverse[i]? = some (sg.reverse[i]'(by rw [List.length_reverse]; exact hin)) := List.getElem?_eq_getElem _
    generalize (sg.reverse[i]'(by rw [List.length_reverse]; exact hin)) = q at hr
    have hv := h i q hr
    have e := ih (i + 1) (by omega)
    rw [yD_take _ hr] at e
    unfold yDp at e
    refine aw_iload_n (pc' := 5) nd_M_deepness_4 rfl rfl ?_
    refine aw_aload_n (pc' := 6) nd_M_deepness_5 rfl rfl rfl ?_
    refine aw_get (pc' := 9) nd_M_deepness_6 rfl nF_5_140 g_M_signs ?_
    refine aw_icmp_ge (pc' := 12) (tg := 50) nd_M_deepness_9 (by decide) rfl (fun hx => absurd hx (by rw [h37]; exact nI_ge hin (by omega))) (fun _ => ?_)
    refine aw_aload_n (pc' := 13) nd_M_deepness_12 rfl rfl rfl ?_
    refine aw_get (pc' := 16) nd_M_deepness_13 rfl nF_5_112 g_M_sign ?_
    refine aw_iload_n (pc' := 17) nd_M_deepness_16 rfl rfl ?_
    refine aw_iald (pc' := 18) nd_M_deepness_17 rfl ga_Msign i rfl (by omega) ?_
    rw [hv]
    refine aw_bipush (pc' := 20) (x := 40) nd_M_deepness_18 rfl (by decide) ?_
    refine aw_icmp_eq (pc' := 23) (tg := 36) nd_M_deepness_20 (by decide) rfl (fun hb20 => ?_) (fun hb20 => ?_)
    · skip
      refine aw_iload_n (pc' := 37) nd_M_deepness_36 rfl rfl ?_
      refine aw_iconst (pc' := 38) (x := 1) nd_M_deepness_37 rfl (by decide) ?_
      refine aw_iadd (pc' := 39) nd_M_deepness_38 rfl ?_
      refine aw_goto (pc' := 43) nd_M_deepness_39 (by decide) ?_
      refine aw_istore_n (pc' := 44) (ls' := [_, _, _]) nd_M_deepness_43 rfl (Nat.le_of_ble_eq_true rfl) rfl ?_
      refine aw_iinc (pc' := 47) (ls' := [_, _, _]) nd_M_deepness_44 rfl rfl (nI_1 i) rfl ?_
      refine aw_goto (pc' := 4) nd_M_deepness_47 (by decide) ?_
      first
        | (simp only [hb20, decide_true, Bool.true_or, if_true] at e; rw [← nI_1] at e; exact e)
        | (simp only [hb20, hb33, decide_true, decide_false, Bool.or_true, Bool.false_or, if_true] at e; rw [← nI_1] at e; exact e)
        | (simp only [hb20, hb33, decide_false, Bool.or_self, Bool.false_eq_true, if_false, Nat.add_zero] at e; exact e)
    · skip
      refine aw_aload_n (pc' := 24) nd_M_deepness_23 rfl rfl rfl ?_
      refine aw_get (pc' := 27) nd_M_deepness_24 rfl nF_5_112 g_M_sign ?_
      refine aw_iload_n (pc' := 28) nd_M_deepness_27 rfl rfl ?_
      refine aw_iald (pc' := 29) nd_M_deepness_28 rfl ga_Msign i rfl (by omega) ?_
      rw [hv]
      refine aw_callS (a := 0) (pc' := 32) (as := [_]) (st := []) nd_M_deepness_29 rfl nC_5_143 ⟨(Nat.le_of_ble_eq_true rfl), rfl, rfl⟩ (Nat.le_of_ble_eq_true rfl) (Nat.le_of_ble_eq_true rfl) (Nat.le_of_ble_eq_true rfl) ?_
      refine c_M_rank ?_
      show nW _ _ _ _ _ 32 _ [_] _ _ _
      refine aw_iconst (pc' := 33) (x := 3) nd_M_deepness_32 rfl (by decide) ?_
      refine aw_icmp_ne (pc' := 36) (tg := 42) nd_M_deepness_33 (by decide) rfl (fun hb33 => ?_) (fun hb33 => ?_)
      · skip
        refine aw_iload_n (pc' := 43) nd_M_deepness_42 rfl rfl ?_
        refine aw_istore_n (pc' := 44) (ls' := [_, _, _]) nd_M_deepness_43 rfl (Nat.le_of_ble_eq_true rfl) rfl ?_
        refine aw_iinc (pc' := 47) (ls' := [_, _, _]) nd_M_deepness_44 rfl rfl (nI_1 i) rfl ?_
        refine aw_goto (pc' := 4) nd_M_deepness_47 (by decide) ?_
        first
          | (simp only [hb20, decide_true, Bool.true_or, if_true] at e; rw [← nI_1] at e; exact e)
          | (simp only [hb20, hb33, decide_true, decide_false, Bool.or_true, Bool.false_or, if_true] at e; rw [← nI_1] at e; exact e)
          | (simp only [hb20, hb33, decide_false, Bool.or_self, Bool.false_eq_true, if_false, Nat.add_zero] at e; exact e)
      · skip
        refine aw_iload_n (pc' := 37) nd_M_deepness_36 rfl rfl ?_
        refine aw_iconst (pc' := 38) (x := 1) nd_M_deepness_37 rfl (by decide) ?_
        refine aw_iadd (pc' := 39) nd_M_deepness_38 rfl ?_
        refine aw_goto (pc' := 43) nd_M_deepness_39 (by decide) ?_
        refine aw_istore_n (pc' := 44) (ls' := [_, _, _]) nd_M_deepness_43 rfl (Nat.le_of_ble_eq_true rfl) rfl ?_
        refine aw_iinc (pc' := 47) (ls' := [_, _, _]) nd_M_deepness_44 rfl rfl (nI_1 i) rfl ?_
        refine aw_goto (pc' := 4) nd_M_deepness_47 (by decide) ?_
        first
          | (simp only [hb20, decide_true, Bool.true_or, if_true] at e; rw [← nI_1] at e; exact e)
          | (simp only [hb20, hb33, decide_true, decide_false, Bool.or_true, Bool.false_or, if_true] at e; rw [← nI_1] at e; exact e)
          | (simp only [hb20, hb33, decide_false, Bool.or_self, Bool.false_eq_true, if_false, Nat.add_zero] at e; exact e)

theorem c_M_deepness {L : Nat} {xs : Nat → Int32} {d : Nat} {Q : ax_Q} {μ : nMem} {sg : yG} (h37 : μ.1 104 37 = nI sg.length) (h : RG μ sg) (hs : sg.length ≤ 64) (hq : Q (some (.int (nI (yD sg)))) (ns_rep μ)) : nM L xs (d + 2) 39 [.ref 104] (ns_rep μ) Q := by
  refine nM.of ns_I_M_deepness rfl (ls := [_, _, _]) (Nat.le_of_ble_eq_true rfl) rfl ?_
  refine aw_iconst (pc' := 1) (x := 0) nd_M_deepness_0 rfl (by decide) ?_
  refine aw_istore_n (pc' := 2) (ls' := [_, _, _]) nd_M_deepness_1 rfl (Nat.le_of_ble_eq_true rfl) rfl ?_
  refine aw_iconst (pc' := 3) (x := 0) nd_M_deepness_2 rfl (by decide) ?_
  refine aw_istore_n (pc' := 4) (ls' := [_, _, _]) nd_M_deepness_3 rfl (Nat.le_of_ble_eq_true rfl) rfl ?_
  exact l_M_deepness h37 h hs hq sg.length 0 (by omega)

theorem l_M_compared {L : Nat} {xs : Nat → Int32} {d : Nat} {Q : ax_Q} {μ : nMem} : ∀ (sg : yG) (b : Bool), RG μ sg → sg.length ≤ 64 → Q (some (.int (bi (yCm sg b)))) (ns_rep μ) → nW L xs (d + 1) ns_I_M_compared Q 9 [some (.ref 104), some (.int (bi b)), some (.int (nI sg.length - 1))] [] 0 0 (ns_rep μ) := by
  intro sg
  induction sg with
  | nil =>
    intro b h hs hq
    refine aw_iload_n (pc' := 10) nd_M_compared_9 rfl rfl ?_
    refine aw_if_lt (pc' := 13) (tg := 53) nd_M_compared_10 (by decide) rfl (fun _ => ?_) (fun hx => absurd (by decide) hx)
    refine aw_iload_n (pc' := 54) nd_M_compared_53 rfl rfl ?_
    refine aw_ireturn nd_M_compared_54 rfl (bi_narrow _) (Nat.le_of_ble_eq_true rfl) (Nat.le_of_ble_eq_true rfl) ?_
    exact hq
  | cons q sg ih =>
    obtain ⟨c, m⟩ := q
    intro b h hs hq
    rw [List.length_cons] at hs
    rw [show nI ((c, m) :: sg).length - 1 = nI sg.length from nI_pred _]
    have htop := h.top
    refine aw_iload_n (pc' := 10) nd_M_compared_9 rfl rfl ?_
    refine aw_if_lt (pc' := 13) (tg := 53) nd_M_compared_10 (by decide) rfl (fun hx => absurd hx (nI_pos (by omega))) (fun _ => ?_)
    refine aw_aload_n (pc' := 14) nd_M_compared_13 rfl rfl rfl ?_
    refine aw_get (pc' := 17) nd_M_compared_14 rfl nF_5_112 g_M_sign ?_
    refine aw_iload_n (pc' := 18) nd_M_compared_17 rfl rfl ?_
    refine aw_iald (pc' := 19) nd_M_compared_18 rfl ga_Msign sg.length rfl (by omega) ?_
    rw [htop]
    refine aw_callS (a := 0) (pc' := 22) (as := [_]) (st := []) nd_M_compared_19 rfl nC_5_143 ⟨(Nat.le_of_ble_eq_true rfl), rfl, rfl⟩ (Nat.le_of_ble_eq_true rfl) (Nat.le_of_ble_eq_true rfl) (Nat.le_of_ble_eq_true rfl) ?_
    refine c_M_rank ?_
    show nW _ _ _ _ _ 22 _ [_] _ _ _
    refine aw_if_lt (pc' := 25) (tg := 53) nd_M_compared_22 (by decide) rfl (fun hb22 => ?_) (fun hb22 => ?_)
    · skip
      refine aw_iload_n (pc' := 54) nd_M_compared_53 rfl rfl ?_
      refine aw_ireturn nd_M_compared_54 rfl (bi_narrow _) (Nat.le_of_ble_eq_true rfl) (Nat.le_of_ble_eq_true rfl) ?_
      rw [yCm, if_pos hb22] at hq
      exact hq
    · skip
      refine aw_iload_n (pc' := 26) nd_M_compared_25 rfl rfl ?_
      refine aw_if_ne (pc' := 29) (tg := 41) nd_M_compared_26 (by decide) rfl (fun hb26 => ?_) (fun hb26 => ?_)
      · skip
        refine aw_iconst (pc' := 42) (x := 1) nd_M_compared_41 rfl (by decide) ?_
        refine aw_goto (pc' := 46) nd_M_compared_42 (by decide) ?_
        refine aw_istore_n (pc' := 47) (ls' := [_, _, _]) nd_M_compared_46 rfl (Nat.le_of_ble_eq_true rfl) rfl ?_
        refine aw_iinc (pc' := 50) (ls' := [_, _, _]) nd_M_compared_47 rfl rfl (nI_m1 sg.length) rfl ?_
        refine aw_goto (pc' := 9) nd_M_compared_50 (by decide) ?_
        rw [yCm, if_neg hb22] at hq
        first
          | (rw [bi_t hb26] at hq; exact ih true h.tail (by omega) hq)
          | (rw [bi_f hb26, decide_eq_true hb38] at hq; exact ih true h.tail (by omega) hq)
          | (rw [bi_f hb26, decide_eq_false hb38] at hq; exact ih false h.tail (by omega) hq)
      · skip
        refine aw_aload_n (pc' := 30) nd_M_compared_29 rfl rfl rfl ?_
        refine aw_get (pc' := 33) nd_M_compared_30 rfl nF_5_112 g_M_sign ?_
        refine aw_iload_n (pc' := 34) nd_M_compared_33 rfl rfl ?_
        refine aw_iald (pc' := 35) nd_M_compared_34 rfl ga_Msign sg.length rfl (by omega) ?_
        rw [htop]
        refine aw_callS (a := 0) (pc' := 38) (as := [_]) (st := []) nd_M_compared_35 rfl nC_5_143 ⟨(Nat.le_of_ble_eq_true rfl), rfl, rfl⟩ (Nat.le_of_ble_eq_true rfl) (Nat.le_of_ble_eq_true rfl) (Nat.le_of_ble_eq_true rfl) ?_
        refine c_M_rank ?_
        show nW _ _ _ _ _ 38 _ [_] _ _ _
        refine aw_if_ne (pc' := 41) (tg := 45) nd_M_compared_38 (by decide) rfl (fun hb38 => ?_) (fun hb38 => ?_)
        · skip
          refine aw_iconst (pc' := 46) (x := 0) nd_M_compared_45 rfl (by decide) ?_
          refine aw_istore_n (pc' := 47) (ls' := [_, _, _]) nd_M_compared_46 rfl (Nat.le_of_ble_eq_true rfl) rfl ?_
          refine aw_iinc (pc' := 50) (ls' := [_, _, _]) nd_M_compared_47 rfl rfl (nI_m1 sg.length) rfl ?_
          refine aw_goto (pc' := 9) nd_M_compared_50 (by decide) ?_
          rw [yCm, if_neg hb22] at hq
          first
            | (rw [bi_t hb26] at hq; exact ih true h.tail (by omega) hq)
            | (rw [bi_f hb26, decide_eq_true hb38] at hq; exact ih true h.tail (by omega) hq)
            | (rw [bi_f hb26, decide_eq_false hb38] at hq; exact ih false h.tail (by omega) hq)
        · skip
          refine aw_iconst (pc' := 42) (x := 1) nd_M_compared_41 rfl (by decide) ?_
          refine aw_goto (pc' := 46) nd_M_compared_42 (by decide) ?_
          refine aw_istore_n (pc' := 47) (ls' := [_, _, _]) nd_M_compared_46 rfl (Nat.le_of_ble_eq_true rfl) rfl ?_
          refine aw_iinc (pc' := 50) (ls' := [_, _, _]) nd_M_compared_47 rfl rfl (nI_m1 sg.length) rfl ?_
          refine aw_goto (pc' := 9) nd_M_compared_50 (by decide) ?_
          rw [yCm, if_neg hb22] at hq
          first
            | (rw [bi_t hb26] at hq; exact ih true h.tail (by omega) hq)
            | (rw [bi_f hb26, decide_eq_true hb38] at hq; exact ih true h.tail (by omega) hq)
            | (rw [bi_f hb26, decide_eq_false hb38] at hq; exact ih false h.tail (by omega) hq)

theorem c_M_compared {L : Nat} {xs : Nat → Int32} {d : Nat} {Q : ax_Q} {μ : nMem} {sg : yG} (h37 : μ.1 104 37 = nI sg.length) (h : RG μ sg) (hs : sg.length ≤ 64) (hq : Q (some (.int (bi (yCm sg false)))) (ns_rep μ)) : nM L xs (d + 2) 41 [.ref 104] (ns_rep μ) Q := by
  refine nM.of ns_I_M_compared rfl (ls := [_, _, _]) (Nat.le_of_ble_eq_true rfl) rfl ?_
  refine aw_iconst (pc' := 1) (x := 0) nd_M_compared_0 rfl (by decide) ?_
  refine aw_istore_n (pc' := 2) (ls' := [_, _, _]) nd_M_compared_1 rfl (Nat.le_of_ble_eq_true rfl) rfl ?_
  refine aw_aload_n (pc' := 3) nd_M_compared_2 rfl rfl rfl ?_
  refine aw_get (pc' := 6) nd_M_compared_3 rfl nF_5_140 g_M_signs ?_
  refine aw_iconst (pc' := 7) (x := 1) nd_M_compared_6 rfl (by decide) ?_
  refine aw_isub (pc' := 8) nd_M_compared_7 rfl ?_
  rw [h37]
  refine aw_istore_n (pc' := 9) (ls' := [_, _, _]) nd_M_compared_8 rfl (Nat.le_of_ble_eq_true rfl) rfl ?_
  exact l_M_compared sg false h hs hq

theorem l_M_inner {L : Nat} {xs : Nat → Int32} {d : Nat} {Q : ax_Q} {μ : nMem} : ∀ (sg : yG), RG μ sg → sg.length ≤ 64 → Q (some (.int (nI (yIn sg).length - 1))) (ns_rep μ) → nW L xs (d + 1) ns_I_M_inner Q 7 [some (.ref 104), some (.int (nI sg.length - 1))] [] 0 0 (ns_rep μ) := by
  intro sg
  induction sg with
  | nil =>
    intro h hs hq
    refine aw_iload_n (pc' := 8) nd_M_inner_7 rfl rfl ?_
    refine aw_if_lt (pc' := 11) (tg := 29) nd_M_inner_8 (by decide) rfl (fun _ => ?_) (fun hx => absurd (by decide) hx)
    refine aw_iload_n (pc' := 30) nd_M_inner_29 rfl rfl ?_
    refine aw_ireturn nd_M_inner_30 rfl rfl (Nat.le_of_ble_eq_true rfl) (Nat.le_of_ble_eq_true rfl) ?_
    exact hq
  | cons q sg ih =>
    obtain ⟨c, m⟩ := q
    intro h hs hq
    rw [List.length_cons] at hs
    rw [show nI ((c, m) :: sg).length - 1 = nI sg.length from nI_pred _]
    have htop := h.top
    refine aw_iload_n (pc' := 8) nd_M_inner_7 rfl rfl ?_
    refine aw_if_lt (pc' := 11) (tg := 29) nd_M_inner_8 (by decide) rfl (fun hx => absurd hx (nI_pos (by omega))) (fun _ => ?_)
    refine aw_aload_n (pc' := 12) nd_M_inner_11 rfl rfl rfl ?_
    refine aw_get (pc' := 15) nd_M_inner_12 rfl nF_5_112 g_M_sign ?_
    refine aw_iload_n (pc' := 16) nd_M_inner_15 rfl rfl ?_
    refine aw_iald (pc' := 17) nd_M_inner_16 rfl ga_Msign sg.length rfl (by omega) ?_
    rw [htop]
    refine aw_callS (a := 0) (pc' := 20) (as := [_]) (st := []) nd_M_inner_17 rfl nC_5_143 ⟨(Nat.le_of_ble_eq_true rfl), rfl, rfl⟩ (Nat.le_of_ble_eq_true rfl) (Nat.le_of_ble_eq_true rfl) (Nat.le_of_ble_eq_true rfl) ?_
    refine c_M_rank ?_
    show nW _ _ _ _ _ 20 _ [_] _ _ _
    refine aw_if_lt (pc' := 23) (tg := 29) nd_M_inner_20 (by decide) rfl (fun hb20 => ?_) (fun hb20 => ?_)
    · skip
      refine aw_iload_n (pc' := 30) nd_M_inner_29 rfl rfl ?_
      refine aw_ireturn nd_M_inner_30 rfl rfl (Nat.le_of_ble_eq_true rfl) (Nat.le_of_ble_eq_true rfl) ?_
      rw [yIn, if_pos hb20, show nI ((c, m) :: sg).length - 1 = nI sg.length from nI_pred _] at hq
      exact hq
    · skip
      refine aw_iinc (pc' := 26) (ls' := [_, _]) nd_M_inner_23 rfl rfl (nI_m1 sg.length) rfl ?_
      refine aw_goto (pc' := 7) nd_M_inner_26 (by decide) ?_
      rw [yIn, if_neg hb20] at hq
      exact ih h.tail (by omega) hq

theorem c_M_inner {L : Nat} {xs : Nat → Int32} {d : Nat} {Q : ax_Q} {μ : nMem} {sg : yG} (h37 : μ.1 104 37 = nI sg.length) (h : RG μ sg) (hs : sg.length ≤ 64) (hq : Q (some (.int (nI (yIn sg).length - 1))) (ns_rep μ)) : nM L xs (d + 2) 42 [.ref 104] (ns_rep μ) Q := by
  refine nM.of ns_I_M_inner rfl (ls := [_, _]) (Nat.le_of_ble_eq_true rfl) rfl ?_
  refine aw_aload_n (pc' := 1) nd_M_inner_0 rfl rfl rfl ?_
  refine aw_get (pc' := 4) nd_M_inner_1 rfl nF_5_140 g_M_signs ?_
  refine aw_iconst (pc' := 5) (x := 1) nd_M_inner_4 rfl (by decide) ?_
  refine aw_isub (pc' := 6) nd_M_inner_5 rfl ?_
  rw [h37]
  refine aw_istore_n (pc' := 7) (ls' := [_, _]) nd_M_inner_6 rfl (Nat.le_of_ble_eq_true rfl) rfl ?_
  exact l_M_inner sg h hs hq

theorem l_M_awaits {L : Nat} {xs : Nat → Int32} {d : Nat} {Q : ax_Q} {μ : nMem} : ∀ (sg : yG), RG μ sg → sg.length ≤ 64 → Q (some (.int (yAw sg))) (ns_rep μ) → nW L xs (d + 2) ns_I_M_awaits Q 5 [some (.ref 104), some (.int (nI sg.length - 1))] [] 0 0 (ns_rep μ) := by
  intro sg
  induction sg with
  | nil =>
    intro h hs hq
    refine aw_iload_n (pc' := 6) nd_M_awaits_5 rfl rfl ?_
    refine aw_if_lt (pc' := 9) (tg := 38) nd_M_awaits_6 (by decide) rfl (fun _ => ?_) (fun hx => absurd (by decide) hx)
    refine aw_iload_n (pc' := 39) nd_M_awaits_38 rfl rfl ?_
    refine aw_if_ge (pc' := 42) (tg := 46) nd_M_awaits_39 (by decide) rfl (fun hx => absurd hx (by decide)) (fun _ => ?_)
    refine aw_iconst (pc' := 43) (x := 0) nd_M_awaits_42 rfl (by decide) ?_
    refine aw_goto (pc' := 52) nd_M_awaits_43 (by decide) ?_
    refine aw_ireturn nd_M_awaits_52 rfl rfl (Nat.le_of_ble_eq_true rfl) (Nat.le_of_ble_eq_true rfl) ?_
    exact hq
  | cons q sg ih =>
    obtain ⟨c, m⟩ := q
    intro h hs hq
    rw [List.length_cons] at hs
    rw [show nI ((c, m) :: sg).length - 1 = nI sg.length from nI_pred _]
    have htop := h.top
    refine aw_iload_n (pc' := 6) nd_M_awaits_5 rfl rfl ?_
    refine aw_if_lt (pc' := 9) (tg := 38) nd_M_awaits_6 (by decide) rfl (fun hx => absurd hx (nI_pos (by omega))) (fun _ => ?_)
    refine aw_aload_n (pc' := 10) nd_M_awaits_9 rfl rfl rfl ?_
    refine aw_get (pc' := 13) nd_M_awaits_10 rfl nF_5_112 g_M_sign ?_
    refine aw_iload_n (pc' := 14) nd_M_awaits_13 rfl rfl ?_
    refine aw_iald (pc' := 15) nd_M_awaits_14 rfl ga_Msign sg.length rfl (by omega) ?_
    rw [htop]
    refine aw_bipush (pc' := 17) (x := 58) nd_M_awaits_15 rfl (by decide) ?_
    refine aw_icmp_eq (pc' := 20) (tg := 32) nd_M_awaits_17 (by decide) rfl (fun hb17 => ?_) (fun hb17 => ?_)
    · skip
      refine aw_iinc (pc' := 35) (ls' := [_, _]) nd_M_awaits_32 rfl rfl (nI_m1 sg.length) rfl ?_
      refine aw_goto (pc' := 5) nd_M_awaits_35 (by decide) ?_
      first
        | (rw [yAw, if_pos hb17] at hq; exact ih h.tail (by omega) hq)
        | (rw [yAw, if_neg hb17, if_neg hb29] at hq; exact ih h.tail (by omega) hq)
    · skip
      refine aw_aload_n (pc' := 21) nd_M_awaits_20 rfl rfl rfl ?_
      refine aw_get (pc' := 24) nd_M_awaits_21 rfl nF_5_112 g_M_sign ?_
      refine aw_iload_n (pc' := 25) nd_M_awaits_24 rfl rfl ?_
      refine aw_iald (pc' := 26) nd_M_awaits_25 rfl ga_Msign sg.length rfl (by omega) ?_
      rw [htop]
      refine aw_callS (a := 0) (pc' := 29) (as := [_]) (st := []) nd_M_awaits_26 rfl nC_5_143 ⟨(Nat.le_of_ble_eq_true rfl), rfl, rfl⟩ (Nat.le_of_ble_eq_true rfl) (Nat.le_of_ble_eq_true rfl) (Nat.le_of_ble_eq_true rfl) ?_
      refine c_M_rank ?_
      show nW _ _ _ _ _ 29 _ [_] _ _ _
      refine aw_if_lt (pc' := 32) (tg := 38) nd_M_awaits_29 (by decide) rfl (fun hb29 => ?_) (fun hb29 => ?_)
      · skip
        refine aw_iload_n (pc' := 39) nd_M_awaits_38 rfl rfl ?_
        refine aw_if_ge (pc' := 42) (tg := 46) nd_M_awaits_39 (by decide) rfl (fun _ => ?_) (fun hx => absurd (nI_pos' (by omega)) hx)
        refine aw_aload_n (pc' := 47) nd_M_awaits_46 rfl rfl rfl ?_
        refine aw_get (pc' := 50) nd_M_awaits_47 rfl nF_5_112 g_M_sign ?_
        refine aw_iload_n (pc' := 51) nd_M_awaits_50 rfl rfl ?_
        refine aw_iald (pc' := 52) nd_M_awaits_51 rfl ga_Msign sg.length rfl (by omega) ?_
        rw [htop]
        refine aw_ireturn nd_M_awaits_52 rfl rfl (Nat.le_of_ble_eq_true rfl) (Nat.le_of_ble_eq_true rfl) ?_
        rw [yAw, if_neg hb17, if_pos hb29] at hq
        exact hq
      · skip
        refine aw_iinc (pc' := 35) (ls' := [_, _]) nd_M_awaits_32 rfl rfl (nI_m1 sg.length) rfl ?_
        refine aw_goto (pc' := 5) nd_M_awaits_35 (by decide) ?_
        first
          | (rw [yAw, if_pos hb17] at hq; exact ih h.tail (by omega) hq)
          | (rw [yAw, if_neg hb17, if_neg hb29] at hq; exact ih h.tail (by omega) hq)

theorem c_M_awaits {L : Nat} {xs : Nat → Int32} {d : Nat} {Q : ax_Q} {μ : nMem} {sg : yG} (h37 : μ.1 104 37 = nI sg.length) (h : RG μ sg) (hs : sg.length ≤ 64) (hq : Q (some (.int (yAw sg))) (ns_rep μ)) : nM L xs (d + 3) 44 [.ref 104] (ns_rep μ) Q := by
  refine nM.of ns_I_M_awaits rfl (ls := [_, _]) (Nat.le_of_ble_eq_true rfl) rfl ?_
  refine aw_aload_n (pc' := 1) nd_M_awaits_0 rfl rfl rfl ?_
  refine aw_callV (pc' := 4) (as := []) (st := []) nd_M_awaits_1 rfl nC_5_162 ⟨(Nat.le_of_ble_eq_true rfl), rfl, rfl⟩ ns_ioM (Nat.le_of_ble_eq_true rfl) (Nat.le_of_ble_eq_true rfl) (Nat.le_of_ble_eq_true rfl) ?_
  refine c_M_inner h37 h hs ?_
  show nW _ _ _ _ _ 4 _ [_] _ _ _
  refine aw_istore_n (pc' := 5) (ls' := [_, _]) nd_M_awaits_4 rfl (Nat.le_of_ble_eq_true rfl) rfl ?_
  exact l_M_awaits (yIn sg) (yIn_rg h) (Nat.le_trans (yIn_len sg) hs) (by rw [yAw_in]; exact hq)

