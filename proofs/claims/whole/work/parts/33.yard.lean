/-! the model's parser: its two stacks in the memory (signs: the top first) -/
abbrev yG : Type := List (Int32 × Int32)
def YS (μ0 μ : nMem) (sg cd : yG) : Prop :=
  ((∀ b, ¬ b = 104 → ¬ b = 137 → ¬ b = 138 → ¬ b = 139 → ¬ b = 140 → μ.1 b = μ0.1 b) ∧ (∀ j, ¬ j = 37 → ¬ j = 40 → μ.1 104 j = μ0.1 104 j) ∧ μ.2 = μ0.2) ∧
  (μ.1 104 37 = nI sg.length ∧ ∀ i q, sg.reverse[i]? = some q → μ.1 137 i = q.1 ∧ μ.1 138 i = q.2) ∧
  (μ.1 104 40 = nI cd.length ∧ ∀ i q, cd[i]? = some q → μ.1 139 i = q.1 ∧ μ.1 140 i = q.2)
theorem ap_at {α : Type} {l : List α} {x q : α} {i : Nat} (h : (l ++ [x])[i]? = some q) : (i = l.length ∧ q = x) ∨ (i < l.length ∧ l[i]? = some q) := by
  rcases Nat.lt_trichotomy i l.length with hi | hi | hi
  · rw [List.getElem?_append_left hi] at h
    exact Or.inr ⟨hi, h⟩
  · subst hi
    simp at h
    exact Or.inl ⟨rfl, h.symm⟩
  · rw [List.getElem?_eq_none (by simp; omega)] at h
    cases h
theorem YS.make {μ0 μ : nMem} {sg cd : yG} {a b : Int32} (h : YS μ0 μ sg cd) : YS μ0 (ms (ms (ms μ 139 cd.length a) 140 cd.length b) 104 40 (nI (cd.length + 1))) sg (cd ++ [(a, b)]) := by
  obtain ⟨⟨f1, f2, f3⟩, ⟨s1, s2⟩, c1, c2⟩ := h
  refine ⟨⟨fun x h1 h2 h3 h4 h5 => ?_, fun j h1 h2 => ?_, f3⟩, ⟨?_, fun i q hq => ?_⟩, ?_, fun i q hq => ?_⟩
  · rw [ms_o h1, ms_o h5, ms_o h4]; exact f1 x h1 h2 h3 h4 h5
  · rw [ms_s, pk_un h2, ms_o (by decide), ms_o (by decide)]; exact f2 j h1 h2
  · rw [ms_s, pk_un (by decide), ms_o (by decide), ms_o (by decide)]; exact s1
  · rw [ms_o (by decide), ms_o (by decide), ms_o (by decide), ms_o (by decide), ms_o (by decide), ms_o (by decide)]; exact s2 i q hq
  · rw [ms_s, pk_us, List.length_append, List.length_singleton]
  · rw [ms_o (by decide), ms_o (by decide), ms_s, ms_o (by decide), ms_s, ms_o (by decide)]
    rcases ap_at hq with ⟨rfl, rfl⟩ | ⟨hi, hq⟩
    · exact ⟨by rw [pk_us], by rw [pk_us]⟩
    · rw [pk_un (by omega), pk_un (by omega)]; exact c2 i q hq
theorem YS.put {μ0 μ : nMem} {sg cd : yG} {a b : Int32} (h : YS μ0 μ sg cd) : YS μ0 (ms (ms (ms μ 137 sg.length a) 138 sg.length b) 104 37 (nI (sg.length + 1))) ((a, b) :: sg) cd := by
  obtain ⟨⟨f1, f2, f3⟩, ⟨s1, s2⟩, c1, c2⟩ := h
  refine ⟨⟨fun x h1 h2 h3 h4 h5 => ?_, fun j h1 h2 => ?_, f3⟩, ⟨?_, fun i q hq => ?_⟩, ?_, fun i q hq => ?_⟩
  · rw [ms_o h1, ms_o h3, ms_o h2]; exact f1 x h1 h2 h3 h4 h5
  · rw [ms_s, pk_un h1, ms_o (by decide), ms_o (by decide)]; exact f2 j h1 h2
  · rw [ms_s, pk_us, List.length_cons]
  · rw [List.reverse_cons] at hq
    rw [ms_o (by decide), ms_o (by decide), ms_s, ms_o (by decide), ms_s, ms_o (by decide)]
    rcases ap_at hq with ⟨hi, rfl⟩ | ⟨hi, hq⟩
    · rw [List.length_reverse] at hi
      subst hi
      exact ⟨by rw [pk_us], by rw [pk_us]⟩
    · rw [List.length_reverse] at hi
      rw [pk_un (by omega), pk_un (by omega)]; exact s2 i q hq
  · rw [ms_s, pk_un (by decide), ms_o (by decide), ms_o (by decide)]; exact c1
  · rw [ms_o (by decide), ms_o (by decide), ms_o (by decide), ms_o (by decide), ms_o (by decide), ms_o (by decide)]; exact c2 i q hq
theorem YS.top {μ0 μ : nMem} {sg cd : yG} {c m : Int32} (h : YS μ0 μ ((c, m) :: sg) cd) : μ.1 137 sg.length = c ∧ μ.1 138 sg.length = m :=
  h.2.1.2 sg.length (c, m) (by rw [List.reverse_cons, List.getElem?_append_right (by rw [List.length_reverse]; exact Nat.le_refl _), List.length_reverse, Nat.sub_self]; rfl)
theorem YS.pop {μ0 μ : nMem} {sg cd : yG} {c m : Int32} (h : YS μ0 μ ((c, m) :: sg) cd) : YS μ0 (ms μ 104 37 (nI sg.length)) sg cd := by
  obtain ⟨⟨f1, f2, f3⟩, ⟨s1, s2⟩, c1, c2⟩ := h
  refine ⟨⟨fun x h1 h2 h3 h4 h5 => ?_, fun j h1 h2 => ?_, f3⟩, ⟨?_, fun i q hq => ?_⟩, ?_, fun i q hq => ?_⟩
  · rw [ms_o h1]; exact f1 x h1 h2 h3 h4 h5
  · rw [ms_s, pk_un h1]; exact f2 j h1 h2
  · rw [ms_s, pk_us]
  · rw [ms_o (by decide), ms_o (by decide)]
    refine s2 i q ?_
    rw [List.reverse_cons, List.getElem?_append_left (List.getElem?_eq_some_iff.mp hq).1]
    exact hq
  · rw [ms_s, pk_un (by decide)]; exact c1
  · rw [ms_o (by decide), ms_o (by decide)]; exact c2 i q hq
def opM (c : Int32) : Int32 := if c = 200 then 3 else if c = 64 then 2 else if c = 42 then 4 else if c = 43 then 5 else if c = 45 then 6 else if c = 60 then 7 else 8
def yS (least : Int32) : yG → yG → yG × yG
  | [], cd => ([], cd)
  | (c, m) :: sg, cd => if rkM c < least then ((c, m) :: sg, cd) else yS least sg (cd ++ [(opM c, 0)])
theorem yS_len (least : Int32) : ∀ (sg cd : yG), cd.length ≤ (yS least sg cd).2.length ∧ (yS least sg cd).1.length ≤ sg.length := by
  intro sg
  induction sg with
  | nil => intro cd; exact ⟨Nat.le_refl _, Nat.le_refl _⟩
  | cons q sg ih =>
    intro cd
    obtain ⟨c, m⟩ := q
    unfold yS
    split
    · exact ⟨Nat.le_refl _, Nat.le_refl _⟩
    · have h := ih (cd ++ [(opM c, 0)])
      rw [List.length_append, List.length_singleton] at h
      exact ⟨by omega, by rw [List.length_cons]; omega⟩

theorem l_M_settle111 {L : Nat} {xs : Nat → Int32} {d : Nat} {Q : ax_Q} {μ0 m : nMem} {sg cd : yG} {least c a : Int32} (h1 : YS μ0 m sg cd) (hlt : cd.length < 40) (ha : a = opM c) (kk : ∀ μ', YS μ0 μ' sg (cd ++ [(opM c, 0)]) → nW L xs (d + 1) ns_I_M_settle Q 0 [some (.ref 104), some (.int least), some (.int c)] [] 0 0 (ns_rep μ')) : nW L xs (d + 1) ns_I_M_settle Q 111 [some (.ref 104), some (.int least), some (.int c)] [.int a, .ref 104] 0 0 (ns_rep m) := by
  refine aw_iconst (pc' := 112) (x := 0) nd_M_settle_111 rfl (by decide) ?_
  refine aw_callV (pc' := 115) (as := [_, _]) (st := []) nd_M_settle_112 rfl nC_5_147 ⟨(Nat.le_of_ble_eq_true rfl), rfl, rfl⟩ ns_ioM (Nat.le_of_ble_eq_true rfl) (Nat.le_of_ble_eq_true rfl) (Nat.le_of_ble_eq_true rfl) ?_
  refine c_M_make h1.2.2.1 hlt ?_
  show nW _ _ _ _ _ 115 _ [] _ _ _
  refine aw_goto (pc' := 0) nd_M_settle_115 (by decide) ?_
  subst ha
  exact kk _ (YS.make h1)

theorem l_M_settle {L : Nat} {xs : Nat → Int32} {d : Nat} {Q : ax_Q} {μ0 : nMem} {least : Int32} : ∀ (sg cd : yG) (μ : nMem) (w : Option Value), YS μ0 μ sg cd → (yS least sg cd).2.length ≤ 40 → sg.length ≤ 64 → (∀ μ', YS μ0 μ' (yS least sg cd).1 (yS least sg cd).2 → Q none (ns_rep μ')) → nW L xs (d + 1) ns_I_M_settle Q 0 [some (.ref 104), some (.int least), w] [] 0 0 (ns_rep μ) := by
  intro sg
  induction sg with
  | nil =>
    intro cd μ w h hb hs hq
    refine aw_aload_n (pc' := 1) nd_M_settle_0 rfl rfl rfl ?_
    refine aw_get (pc' := 4) nd_M_settle_1 rfl nF_5_140 g_M_signs ?_
    refine aw_if_le (pc' := 7) (tg := 118) nd_M_settle_4 (by decide) rfl (fun _ => ?_) (fun hx => absurd (by rw [h.2.1.1]; decide) hx)
    refine aw_return nd_M_settle_118 rfl (Nat.le_of_ble_eq_true rfl) (Nat.le_of_ble_eq_true rfl) ?_
    exact hq μ h
  | cons q sg ih =>
    obtain ⟨c, m⟩ := q
    intro cd μ w h hb hs hq
    rw [List.length_cons] at hs
    have htop := h.top.1
    refine aw_aload_n (pc' := 1) nd_M_settle_0 rfl rfl rfl ?_
    refine aw_get (pc' := 4) nd_M_settle_1 rfl nF_5_140 g_M_signs ?_
    refine aw_if_le (pc' := 7) (tg := 118) nd_M_settle_4 (by decide) rfl (fun hx => absurd hx (by rw [h.2.1.1]; exact nI_nle (by rw [List.length_cons]; omega) (by rw [List.length_cons]; omega))) (fun _ => ?_)
    refine aw_aload_n (pc' := 8) nd_M_settle_7 rfl rfl rfl ?_
    refine aw_get (pc' := 11) nd_M_settle_8 rfl nF_5_112 g_M_sign ?_
    refine aw_aload_n (pc' := 12) nd_M_settle_11 rfl rfl rfl ?_
    refine aw_get (pc' := 15) nd_M_settle_12 rfl nF_5_140 g_M_signs ?_
    refine aw_iconst (pc' := 16) (x := 1) nd_M_settle_15 rfl (by decide) ?_
    refine aw_isub (pc' := 17) nd_M_settle_16 rfl ?_
    refine aw_iald (pc' := 18) nd_M_settle_17 rfl ga_Msign sg.length (by rw [h.2.1.1]; exact nI_pred _) (by omega) ?_
    rw [htop]
    refine aw_callS (a := 0) (pc' := 21) (as := [_]) (st := []) nd_M_settle_18 rfl nC_5_143 ⟨(Nat.le_of_ble_eq_true rfl), rfl, rfl⟩ (Nat.le_of_ble_eq_true rfl) (Nat.le_of_ble_eq_true rfl) (Nat.le_of_ble_eq_true rfl) ?_
    refine c_M_rank ?_
    show nW _ _ _ _ _ 21 _ [_] _ _ _
    refine aw_iload_n (pc' := 22) nd_M_settle_21 rfl rfl ?_
    refine aw_icmp_lt (pc' := 25) (tg := 118) nd_M_settle_22 (by decide) rfl (fun hb22 => ?_) (fun hb22 => ?_)
    · skip
      refine aw_return nd_M_settle_118 rfl (Nat.le_of_ble_eq_true rfl) (Nat.le_of_ble_eq_true rfl) ?_
      refine hq μ ?_
      rw [yS, if_pos hb22]
      exact h
    · skip
      have e : yS least ((c, m) :: sg) cd = yS least sg (cd ++ [(opM c, 0)]) := by
        rw [yS, if_neg hb22]
      rw [e] at hb hq
      have hlen := (yS_len least sg (cd ++ [(opM c, 0)])).1
      rw [List.length_append, List.length_singleton] at hlen
      refine aw_aload_n (pc' := 26) nd_M_settle_25 rfl rfl rfl ?_
      refine aw_dup (pc' := 27) nd_M_settle_26 rfl rfl ?_
      refine aw_get (pc' := 30) nd_M_settle_27 rfl nF_5_140 g_M_signs ?_
      refine aw_iconst (pc' := 31) (x := 1) nd_M_settle_30 rfl (by decide) ?_
      refine aw_isub (pc' := 32) nd_M_settle_31 rfl ?_
      rw [show μ.1 104 37 - 1 = nI sg.length by rw [h.2.1.1]; exact nI_pred _]
      refine aw_put (pc' := 35) nd_M_settle_32 rfl nF_5_140 trivial p_M_signs ?_
      refine aw_aload_n (pc' := 36) nd_M_settle_35 rfl rfl rfl ?_
      refine aw_get (pc' := 39) nd_M_settle_36 rfl nF_5_112 g_M_sign ?_
      refine aw_aload_n (pc' := 40) nd_M_settle_39 rfl rfl rfl ?_
      refine aw_get (pc' := 43) nd_M_settle_40 rfl nF_5_140 g_M_signs ?_
      refine aw_iald (pc' := 44) nd_M_settle_43 rfl ga_Msign sg.length (by rw [ms_s, pk_us]) (by omega) ?_
      rw [ms_o (by decide), htop]
      refine aw_istore_n (pc' := 45) (ls' := [_, _, _]) nd_M_settle_44 rfl (Nat.le_of_ble_eq_true rfl) rfl ?_
      refine aw_aload_n (pc' := 46) nd_M_settle_45 rfl rfl rfl ?_
      refine aw_iload_n (pc' := 47) nd_M_settle_46 rfl rfl ?_
      refine aw_sipush (pc' := 50) (x := 200) nd_M_settle_47 rfl (by decide) ?_
      refine aw_icmp_ne (pc' := 53) (tg := 57) nd_M_settle_50 (by decide) rfl (fun hb50 => ?_) (fun hb50 => ?_)
      · skip
        refine aw_iload_n (pc' := 58) nd_M_settle_57 rfl rfl ?_
        refine aw_bipush (pc' := 60) (x := 64) nd_M_settle_58 rfl (by decide) ?_
        refine aw_icmp_ne (pc' := 63) (tg := 67) nd_M_settle_60 (by decide) rfl (fun hb60 => ?_) (fun hb60 => ?_)
        · skip
          refine aw_iload_n (pc' := 68) nd_M_settle_67 rfl rfl ?_
          refine aw_bipush (pc' := 70) (x := 42) nd_M_settle_68 rfl (by decide) ?_
          refine aw_icmp_ne (pc' := 73) (tg := 77) nd_M_settle_70 (by decide) rfl (fun hb70 => ?_) (fun hb70 => ?_)
          · skip
            refine aw_iload_n (pc' := 78) nd_M_settle_77 rfl rfl ?_
            refine aw_bipush (pc' := 80) (x := 43) nd_M_settle_78 rfl (by decide) ?_
            refine aw_icmp_ne (pc' := 83) (tg := 87) nd_M_settle_80 (by decide) rfl (fun hb80 => ?_) (fun hb80 => ?_)
            · skip
              refine aw_iload_n (pc' := 88) nd_M_settle_87 rfl rfl ?_
              refine aw_bipush (pc' := 90) (x := 45) nd_M_settle_88 rfl (by decide) ?_
              refine aw_icmp_ne (pc' := 93) (tg := 98) nd_M_settle_90 (by decide) rfl (fun hb90 => ?_) (fun hb90 => ?_)
              · skip
                refine aw_iload_n (pc' := 99) nd_M_settle_98 rfl rfl ?_
                refine aw_bipush (pc' := 101) (x := 60) nd_M_settle_99 rfl (by decide) ?_
                refine aw_icmp_ne (pc' := 104) (tg := 109) nd_M_settle_101 (by decide) rfl (fun hb101 => ?_) (fun hb101 => ?_)
                · skip
                  refine aw_bipush (pc' := 111) (x := 8) nd_M_settle_109 rfl (by decide) ?_
                  exact l_M_settle111 h.pop (by omega) (by simp [opM, *]) (fun μ' h' => ih _ _ _ h' hb (by omega) hq)
                · skip
                  refine aw_bipush (pc' := 106) (x := 7) nd_M_settle_104 rfl (by decide) ?_
                  refine aw_goto (pc' := 111) nd_M_settle_106 (by decide) ?_
                  exact l_M_settle111 h.pop (by omega) (by simp [opM, *]) (fun μ' h' => ih _ _ _ h' hb (by omega) hq)
              · skip
                refine aw_bipush (pc' := 95) (x := 6) nd_M_settle_93 rfl (by decide) ?_
                refine aw_goto (pc' := 111) nd_M_settle_95 (by decide) ?_
                exact l_M_settle111 h.pop (by omega) (by simp [opM, *]) (fun μ' h' => ih _ _ _ h' hb (by omega) hq)
            · skip
              refine aw_iconst (pc' := 84) (x := 5) nd_M_settle_83 rfl (by decide) ?_
              refine aw_goto (pc' := 111) nd_M_settle_84 (by decide) ?_
              exact l_M_settle111 h.pop (by omega) (by simp [opM, *]) (fun μ' h' => ih _ _ _ h' hb (by omega) hq)
          · skip
            refine aw_iconst (pc' := 74) (x := 4) nd_M_settle_73 rfl (by decide) ?_
            refine aw_goto (pc' := 111) nd_M_settle_74 (by decide) ?_
            exact l_M_settle111 h.pop (by omega) (by simp [opM, *]) (fun μ' h' => ih _ _ _ h' hb (by omega) hq)
        · skip
          refine aw_iconst (pc' := 64) (x := 2) nd_M_settle_63 rfl (by decide) ?_
          refine aw_goto (pc' := 111) nd_M_settle_64 (by decide) ?_
          exact l_M_settle111 h.pop (by omega) (by simp [opM, *]) (fun μ' h' => ih _ _ _ h' hb (by omega) hq)
      · skip
        refine aw_iconst (pc' := 54) (x := 3) nd_M_settle_53 rfl (by decide) ?_
        refine aw_goto (pc' := 111) nd_M_settle_54 (by decide) ?_
        exact l_M_settle111 h.pop (by omega) (by simp [opM, *]) (fun μ' h' => ih _ _ _ h' hb (by omega) hq)

theorem c_M_settle {L : Nat} {xs : Nat → Int32} {d : Nat} {Q : ax_Q} {μ0 μ : nMem} {sg cd : yG} {least : Int32} (h : YS μ0 μ sg cd) (hb : (yS least sg cd).2.length ≤ 40) (hs : sg.length ≤ 64) (hq : ∀ μ', YS μ0 μ' (yS least sg cd).1 (yS least sg cd).2 → Q none (ns_rep μ')) : nM L xs (d + 2) 38 [.ref 104, .int least] (ns_rep μ) Q := by
  refine nM.of ns_I_M_settle rfl (ls := [_, _, _]) (Nat.le_of_ble_eq_true rfl) rfl ?_
  exact l_M_settle sg cd μ none h hb hs hq

