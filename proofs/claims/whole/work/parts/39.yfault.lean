/-! the model's parser: its whole run -/
def ynd (t : Nat → Int32) (n : Nat) : Nat → Nat → Nat
  | 0, i => i
  | g + 1, i => if i < n then (if isDig (t i) = true then ynd t n g (i + 1) else i) else i
theorem ynd_le (t : Nat → Int32) (n : Nat) : ∀ g i, i ≤ n → i ≤ ynd t n g i ∧ ynd t n g i ≤ n := by
  intro g
  induction g with
  | zero => intro i h; exact ⟨Nat.le_refl _, h⟩
  | succ g ih =>
    intro i h
    rw [ynd]
    split
    · split
      · have := ih (i + 1) (by omega); omega
      · exact ⟨Nat.le_refl _, h⟩
    · exact ⟨Nat.le_refl _, h⟩
def yOpn (c : Int32) : Bool := if c = 40 then true else if c = 45 then true else if c = 64 then true else false
def yNx (t : Nat → Int32) (n : Nat) (u : Bool) (c : Int32) (i : Nat) : Nat := if u = true ∧ isDig c = true then ynd t n 3 i else i
def yRun (t : Nat → Int32) (n : Nat) : Nat → Bool → Nat → yG → yG → Nat ⊕ yG
  | 0, _, _, _, _ => .inl n
  | f + 1, u, k, sg, cd => if k < n then (match (if u = true then yBeg t n (t k) k sg cd else yGo (t k) sg cd) with
      | none => .inl k
      | some r => yRun t n f (if u = true then yOpn (t k) else if t k = 41 then false else true) (yNx t n u (t k) (k + 1)) r.1 r.2)
    else if u = true then .inl n else if yAw sg = 0 then .inr (yCl sg cd).2 else .inl n
theorem YS.start {μ : nMem} : YS μ (ms (ms μ 104 37 0) 104 40 0) [] [] := by
  refine ⟨⟨fun x h1 h2 h3 h4 h5 => ?_, fun j h1 h2 => ?_, rfl⟩, ⟨?_, fun i q hq => ?_⟩, ?_, fun i q hq => ?_⟩
  · rw [ms_o h1, ms_o h1]
  · rw [ms_s, pk_un h2, ms_s, pk_un h1]
  · rw [ms_s, pk_un (by decide), ms_s, pk_us]; rfl
  · simp at hq
  · rw [ms_s, pk_us]; rfl
  · simp at hq

theorem l_M_fault90n {L : Nat} {xs : Nat → Int32} {d : Nat} {Q : ax_Q} {μ : nMem} {u op : Bool} {c : Int32} {n : Nat} {i : Nat} {w : Option Value} (hno : ¬ (u = true ∧ isDig c = true)) (kk : nW L xs (d + 4) ns_I_M_fault Q 136 [some (.ref 104), some (.int (bi u)), some (.int (nI i)), some (.int c), some (.int (bi op)), w] [] 0 0 (ns_rep μ)) : nW L xs (d + 4) ns_I_M_fault Q 90 [some (.ref 104), some (.int (bi u)), some (.int (nI i)), some (.int c), some (.int (bi op)), w] [] 0 0 (ns_rep μ) := by
  refine aw_iload_n (pc' := 91) nd_M_fault_90 rfl rfl ?_
  refine aw_if_eq (pc' := 94) (tg := 136) nd_M_fault_91 (by decide) rfl (fun hb91 => ?_) (fun hb91 => ?_)
  · skip
    exact kk
  · skip
    refine aw_iload_n (pc' := 95) nd_M_fault_94 rfl rfl ?_
    refine aw_callS (a := 0) (pc' := 98) (as := [_]) (st := []) nd_M_fault_95 rfl nC_5_131 ⟨(Nat.le_of_ble_eq_true rfl), rfl, rfl⟩ (Nat.le_of_ble_eq_true rfl) (Nat.le_of_ble_eq_true rfl) (Nat.le_of_ble_eq_true rfl) ?_
    refine c_M_isDigit ?_
    show nW _ _ _ _ _ 98 _ [_] _ _ _
    refine aw_if_eq (pc' := 101) (tg := 136) nd_M_fault_98 (by decide) rfl (fun hb98 => ?_) (fun hb98 => ?_)
    · skip
      exact kk
    · skip
      exact absurd ⟨bi_t hb91, bi_t hb98⟩ hno

theorem l_M_fault90 {L : Nat} {xs : Nat → Int32} {d : Nat} {Q : ax_Q} {μ : nMem} {u op : Bool} {c : Int32} {n : Nat} (hn : μ.1 104 2 = nI n) (hn30 : n ≤ 30) (hu : u = true) (hc : isDig c = true) : ∀ (g i dg : Nat), dg + g = 4 → i ≤ n → (∀ w, nW L xs (d + 4) ns_I_M_fault Q 136 [some (.ref 104), some (.int (bi u)), some (.int (nI (ynd (μ.1 105) n g i))), some (.int c), some (.int (bi op)), w] [] 0 0 (ns_rep μ)) → nW L xs (d + 4) ns_I_M_fault Q 90 [some (.ref 104), some (.int (bi u)), some (.int (nI i)), some (.int c), some (.int (bi op)), some (.int (nI dg))] [] 0 0 (ns_rep μ) := by
  intro g
  induction g with
  | zero =>
    intro i dg hd hi kk
    obtain rfl : dg = 4 := by omega
    by_cases hin : i < n
    · skip
      refine aw_iload_n (pc' := 91) nd_M_fault_90 rfl rfl ?_
      refine aw_if_eq (pc' := 94) (tg := 136) nd_M_fault_91 (by decide) rfl (fun hx => absurd hx (by rw [hu]; decide)) (fun _ => ?_)
      refine aw_iload_n (pc' := 95) nd_M_fault_94 rfl rfl ?_
      refine aw_callS (a := 0) (pc' := 98) (as := [_]) (st := []) nd_M_fault_95 rfl nC_5_131 ⟨(Nat.le_of_ble_eq_true rfl), rfl, rfl⟩ (Nat.le_of_ble_eq_true rfl) (Nat.le_of_ble_eq_true rfl) (Nat.le_of_ble_eq_true rfl) ?_
      refine c_M_isDigit ?_
      show nW _ _ _ _ _ 98 _ [_] _ _ _
      refine aw_if_eq (pc' := 101) (tg := 136) nd_M_fault_98 (by decide) rfl (fun hx => absurd hx (by rw [hc]; decide)) (fun _ => ?_)
      refine aw_iload_n (pc' := 102) nd_M_fault_101 rfl rfl ?_
      refine aw_aload_n (pc' := 103) nd_M_fault_102 rfl rfl rfl ?_
      refine aw_get (pc' := 106) nd_M_fault_103 rfl nF_5_134 g_M_length ?_
      refine aw_icmp_ge (pc' := 109) (tg := 136) nd_M_fault_106 (by decide) rfl (fun hx => absurd hx (by rw [hn]; exact nI_ge hin (by omega))) (fun _ => ?_)
      refine aw_aload_n (pc' := 110) nd_M_fault_109 rfl rfl rfl ?_
      refine aw_get (pc' := 113) nd_M_fault_110 rfl nF_5_7 g_M_pad ?_
      refine aw_iload_n (pc' := 114) nd_M_fault_113 rfl rfl ?_
      refine aw_iald (pc' := 115) nd_M_fault_114 rfl ga_Mpad i rfl (by omega) ?_
      refine aw_callS (a := 0) (pc' := 118) (as := [_]) (st := []) nd_M_fault_115 rfl nC_5_131 ⟨(Nat.le_of_ble_eq_true rfl), rfl, rfl⟩ (Nat.le_of_ble_eq_true rfl) (Nat.le_of_ble_eq_true rfl) (Nat.le_of_ble_eq_true rfl) ?_
      refine c_M_isDigit ?_
      show nW _ _ _ _ _ 118 _ [_] _ _ _
      refine aw_if_eq (pc' := 121) (tg := 136) nd_M_fault_118 (by decide) rfl (fun hb118 => ?_) (fun hb118 => ?_)
      · skip
        exact kk _
      · skip
        refine aw_iload (pc' := 123) nd_M_fault_121 rfl rfl ?_
        refine aw_iconst (pc' := 124) (x := 4) nd_M_fault_123 rfl (by decide) ?_
        refine aw_icmp_ge (pc' := 127) (tg := 136) nd_M_fault_124 (by decide) rfl (fun _ => ?_) (fun hx => absurd (by decide) hx)
        exact kk _
    · skip
      refine aw_iload_n (pc' := 91) nd_M_fault_90 rfl rfl ?_
      refine aw_if_eq (pc' := 94) (tg := 136) nd_M_fault_91 (by decide) rfl (fun hx => absurd hx (by rw [hu]; decide)) (fun _ => ?_)
      refine aw_iload_n (pc' := 95) nd_M_fault_94 rfl rfl ?_
      refine aw_callS (a := 0) (pc' := 98) (as := [_]) (st := []) nd_M_fault_95 rfl nC_5_131 ⟨(Nat.le_of_ble_eq_true rfl), rfl, rfl⟩ (Nat.le_of_ble_eq_true rfl) (Nat.le_of_ble_eq_true rfl) (Nat.le_of_ble_eq_true rfl) ?_
      refine c_M_isDigit ?_
      show nW _ _ _ _ _ 98 _ [_] _ _ _
      refine aw_if_eq (pc' := 101) (tg := 136) nd_M_fault_98 (by decide) rfl (fun hx => absurd hx (by rw [hc]; decide)) (fun _ => ?_)
      refine aw_iload_n (pc' := 102) nd_M_fault_101 rfl rfl ?_
      refine aw_aload_n (pc' := 103) nd_M_fault_102 rfl rfl rfl ?_
      refine aw_get (pc' := 106) nd_M_fault_103 rfl nF_5_134 g_M_length ?_
      refine aw_icmp_ge (pc' := 109) (tg := 136) nd_M_fault_106 (by decide) rfl (fun _ => ?_) (fun hx => absurd (by rw [hn]; exact nI_le (by omega) (by omega)) hx)
      exact kk _
  | succ g ih =>
    intro i dg hd hi kk
    by_cases hin : i < n
    · rw [ynd, if_pos hin] at kk
      refine aw_iload_n (pc' := 91) nd_M_fault_90 rfl rfl ?_
      refine aw_if_eq (pc' := 94) (tg := 136) nd_M_fault_91 (by decide) rfl (fun hx => absurd hx (by rw [hu]; decide)) (fun _ => ?_)
      refine aw_iload_n (pc' := 95) nd_M_fault_94 rfl rfl ?_
      refine aw_callS (a := 0) (pc' := 98) (as := [_]) (st := []) nd_M_fault_95 rfl nC_5_131 ⟨(Nat.le_of_ble_eq_true rfl), rfl, rfl⟩ (Nat.le_of_ble_eq_true rfl) (Nat.le_of_ble_eq_true rfl) (Nat.le_of_ble_eq_true rfl) ?_
      refine c_M_isDigit ?_
      show nW _ _ _ _ _ 98 _ [_] _ _ _
      refine aw_if_eq (pc' := 101) (tg := 136) nd_M_fault_98 (by decide) rfl (fun hx => absurd hx (by rw [hc]; decide)) (fun _ => ?_)
      refine aw_iload_n (pc' := 102) nd_M_fault_101 rfl rfl ?_
      refine aw_aload_n (pc' := 103) nd_M_fault_102 rfl rfl rfl ?_
      refine aw_get (pc' := 106) nd_M_fault_103 rfl nF_5_134 g_M_length ?_
      refine aw_icmp_ge (pc' := 109) (tg := 136) nd_M_fault_106 (by decide) rfl (fun hx => absurd hx (by rw [hn]; exact nI_ge hin (by omega))) (fun _ => ?_)
      refine aw_aload_n (pc' := 110) nd_M_fault_109 rfl rfl rfl ?_
      refine aw_get (pc' := 113) nd_M_fault_110 rfl nF_5_7 g_M_pad ?_
      refine aw_iload_n (pc' := 114) nd_M_fault_113 rfl rfl ?_
      refine aw_iald (pc' := 115) nd_M_fault_114 rfl ga_Mpad i rfl (by omega) ?_
      refine aw_callS (a := 0) (pc' := 118) (as := [_]) (st := []) nd_M_fault_115 rfl nC_5_131 ⟨(Nat.le_of_ble_eq_true rfl), rfl, rfl⟩ (Nat.le_of_ble_eq_true rfl) (Nat.le_of_ble_eq_true rfl) (Nat.le_of_ble_eq_true rfl) ?_
      refine c_M_isDigit ?_
      show nW _ _ _ _ _ 118 _ [_] _ _ _
      refine aw_if_eq (pc' := 121) (tg := 136) nd_M_fault_118 (by decide) rfl (fun hb118 => ?_) (fun hb118 => ?_)
      · skip
        rw [if_neg (by rw [bi_f hb118]; decide)] at kk
        exact kk _
      · skip
        refine aw_iload (pc' := 123) nd_M_fault_121 rfl rfl ?_
        refine aw_iconst (pc' := 124) (x := 4) nd_M_fault_123 rfl (by decide) ?_
        refine aw_icmp_ge (pc' := 127) (tg := 136) nd_M_fault_124 (by decide) rfl (fun hx => absurd hx (show ¬ nI 4 ≤ nI dg from nI_ge (by omega) (by decide))) (fun _ => ?_)
        refine aw_iinc (pc' := 130) (ls' := [_, _, _, _, _, _]) nd_M_fault_127 rfl rfl (nI_1 i) rfl ?_
        refine aw_iinc (pc' := 133) (ls' := [_, _, _, _, _, _]) nd_M_fault_130 rfl rfl (nI_1 dg) rfl ?_
        refine aw_goto (pc' := 90) nd_M_fault_133 (by decide) ?_
        rw [if_pos (bi_t hb118)] at kk
        exact ih (i + 1) (dg + 1) (by omega) (by omega) kk
    · rw [ynd, if_neg hin] at kk
      refine aw_iload_n (pc' := 91) nd_M_fault_90 rfl rfl ?_
      refine aw_if_eq (pc' := 94) (tg := 136) nd_M_fault_91 (by decide) rfl (fun hx => absurd hx (by rw [hu]; decide)) (fun _ => ?_)
      refine aw_iload_n (pc' := 95) nd_M_fault_94 rfl rfl ?_
      refine aw_callS (a := 0) (pc' := 98) (as := [_]) (st := []) nd_M_fault_95 rfl nC_5_131 ⟨(Nat.le_of_ble_eq_true rfl), rfl, rfl⟩ (Nat.le_of_ble_eq_true rfl) (Nat.le_of_ble_eq_true rfl) (Nat.le_of_ble_eq_true rfl) ?_
      refine c_M_isDigit ?_
      show nW _ _ _ _ _ 98 _ [_] _ _ _
      refine aw_if_eq (pc' := 101) (tg := 136) nd_M_fault_98 (by decide) rfl (fun hx => absurd hx (by rw [hc]; decide)) (fun _ => ?_)
      refine aw_iload_n (pc' := 102) nd_M_fault_101 rfl rfl ?_
      refine aw_aload_n (pc' := 103) nd_M_fault_102 rfl rfl rfl ?_
      refine aw_get (pc' := 106) nd_M_fault_103 rfl nF_5_134 g_M_length ?_
      refine aw_icmp_ge (pc' := 109) (tg := 136) nd_M_fault_106 (by decide) rfl (fun _ => ?_) (fun hx => absurd (by rw [hn]; exact nI_le (by omega) (by omega)) hx)
      exact kk _

