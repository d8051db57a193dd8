/-! the model's parser: begin -/
/-- the number that begins here, of at most g digits more -/
def yn (t : Nat → Int32) (n : Nat) : Nat → Nat → Int32 → Int32
  | 0, _, v => v
  | g + 1, i, v => if i < n then (if isDig (t i) = true then yn t n g (i + 1) (10 * v + t i - 48) else v) else v
def yBeg (t : Nat → Int32) (n : Nat) (c : Int32) (k : Nat) (sg cd : yG) : Option (yG × yG) :=
  if isLetM c = true then some (yS 3 sg (cd ++ [(1, c - 65)]))
  else if isDig c = true then some (yS 3 sg (cd ++ [(0, yn t n 4 k 0)]))
  else if c = 40 ∨ c = 45 ∨ c = 64 then (if nI (yD sg) = 5 then none else some ((if c = 45 then 200 else c, 0) :: sg, cd))
  else none

theorem l_M_begin87 {L : Nat} {xs : Nat → Int32} {d : Nat} {Q : ax_Q} {μ0 μ : nMem} {sg cd : yG} {c : Int32} {k n : Nat} (h : YS μ0 μ sg cd) (hlt : cd.length < 40) (hs : sg.length < 64) (hb : ∀ x, (yS 3 sg (cd ++ [x])).2.length ≤ 40) {v w : Int32} (hq : ∀ μ', YS μ0 μ' (yS 3 sg (cd ++ [(0, v)])).1 (yS 3 sg (cd ++ [(0, v)])).2 → Q (some (.int 1)) (ns_rep μ')) : nW L xs (d + 2) ns_I_M_begin Q 87 [some (.ref 104), some (.int c), some (.int (nI k)), some (.int v), some (.int w)] [] 0 0 (ns_rep μ) := by
  refine aw_aload_n (pc' := 88) nd_M_begin_87 rfl rfl rfl ?_
  refine aw_iconst (pc' := 89) (x := 0) nd_M_begin_88 rfl (by decide) ?_
  refine aw_iload_n (pc' := 90) nd_M_begin_89 rfl rfl ?_
  refine aw_callV (pc' := 93) (as := [_, _]) (st := []) nd_M_begin_90 rfl nC_5_147 ⟨(Nat.le_of_ble_eq_true rfl), rfl, rfl⟩ ns_ioM (Nat.le_of_ble_eq_true rfl) (Nat.le_of_ble_eq_true rfl) (Nat.le_of_ble_eq_true rfl) ?_
  refine c_M_make h.2.2.1 hlt ?_
  show nW _ _ _ _ _ 93 _ [] _ _ _
  refine aw_aload_n (pc' := 94) nd_M_begin_93 rfl rfl rfl ?_
  refine aw_iconst (pc' := 95) (x := 3) nd_M_begin_94 rfl (by decide) ?_
  refine aw_callV (pc' := 98) (as := [_]) (st := []) nd_M_begin_95 rfl nC_5_151 ⟨(Nat.le_of_ble_eq_true rfl), rfl, rfl⟩ ns_ioM (Nat.le_of_ble_eq_true rfl) (Nat.le_of_ble_eq_true rfl) (Nat.le_of_ble_eq_true rfl) ?_
  refine c_M_settle (YS.make h) (hb _) (by omega) ?_
  intro μ' h'
  show nW _ _ _ _ _ 98 _ [] _ _ _
  refine aw_iconst (pc' := 99) (x := 1) nd_M_begin_98 rfl (by decide) ?_
  refine aw_ireturn nd_M_begin_99 rfl (by first | rfl | assumption) (Nat.le_of_ble_eq_true rfl) (Nat.le_of_ble_eq_true rfl) ?_
  exact hq μ' h'

theorem l_M_begin35 {L : Nat} {xs : Nat → Int32} {d : Nat} {Q : ax_Q} {μ0 μ : nMem} {sg cd : yG} {c : Int32} {k n : Nat} (h : YS μ0 μ sg cd) (hlt : cd.length < 40) (hs : sg.length < 64) (hb : ∀ x, (yS 3 sg (cd ++ [x])).2.length ≤ 40) (hn : μ.1 104 2 = nI n) (hn30 : n ≤ 30) (hk : k < n) : ∀ (g i : Nat) (v : Int32), g + i = k + 4 → (∀ μ', YS μ0 μ' (yS 3 sg (cd ++ [(0, yn (μ.1 105) n g i v)])).1 (yS 3 sg (cd ++ [(0, yn (μ.1 105) n g i v)])).2 → Q (some (.int 1)) (ns_rep μ')) → nW L xs (d + 2) ns_I_M_begin Q 35 [some (.ref 104), some (.int c), some (.int (nI k)), some (.int v), some (.int (nI i))] [] 0 0 (ns_rep μ) := by
  have e4 : nI k + 4 = nI (k + 4) := nI_add k 4
  intro g
  induction g with
  | zero =>
    intro i v hi hq
    obtain rfl : i = k + 4 := by omega
    by_cases hin : k + 4 < n
    · skip
      refine aw_iload (pc' := 37) nd_M_begin_35 rfl rfl ?_
      refine aw_aload_n (pc' := 38) nd_M_begin_37 rfl rfl rfl ?_
      refine aw_get (pc' := 41) nd_M_begin_38 rfl nF_5_134 g_M_length ?_
      refine aw_icmp_ge (pc' := 44) (tg := 87) nd_M_begin_41 (by decide) rfl (fun hx => absurd hx (by rw [hn]; exact nI_ge hin (by omega))) (fun _ => ?_)
      refine aw_iload (pc' := 46) nd_M_begin_44 rfl rfl ?_
      refine aw_iload_n (pc' := 47) nd_M_begin_46 rfl rfl ?_
      refine aw_iconst (pc' := 48) (x := 4) nd_M_begin_47 rfl (by decide) ?_
      refine aw_iadd (pc' := 49) nd_M_begin_48 rfl ?_
      refine aw_icmp_ge (pc' := 52) (tg := 87) nd_M_begin_49 (by decide) rfl (fun _ => ?_) (fun hx => absurd (by rw [e4]; exact nI_le (Nat.le_refl _) (by omega)) hx)
      exact l_M_begin87 (n := n) h hlt hs hb hq
    · skip
      refine aw_iload (pc' := 37) nd_M_begin_35 rfl rfl ?_
      refine aw_aload_n (pc' := 38) nd_M_begin_37 rfl rfl rfl ?_
      refine aw_get (pc' := 41) nd_M_begin_38 rfl nF_5_134 g_M_length ?_
      refine aw_icmp_ge (pc' := 44) (tg := 87) nd_M_begin_41 (by decide) rfl (fun _ => ?_) (fun hx => absurd (by rw [hn]; exact nI_le (by omega) (by omega)) hx)
      exact l_M_begin87 (n := n) h hlt hs hb hq
  | succ g ih =>
    intro i v hi hq
    by_cases hin : i < n
    · rw [yn, if_pos hin] at hq
      refine aw_iload (pc' := 37) nd_M_begin_35 rfl rfl ?_
      refine aw_aload_n (pc' := 38) nd_M_begin_37 rfl rfl rfl ?_
      refine aw_get (pc' := 41) nd_M_begin_38 rfl nF_5_134 g_M_length ?_
      refine aw_icmp_ge (pc' := 44) (tg := 87) nd_M_begin_41 (by decide) rfl (fun hx => absurd hx (by rw [hn]; exact nI_ge hin (by omega))) (fun _ => ?_)
      refine aw_iload (pc' := 46) nd_M_begin_44 rfl rfl ?_
      refine aw_iload_n (pc' := 47) nd_M_begin_46 rfl rfl ?_
      refine aw_iconst (pc' := 48) (x := 4) nd_M_begin_47 rfl (by decide) ?_
      refine aw_iadd (pc' := 49) nd_M_begin_48 rfl ?_
      refine aw_icmp_ge (pc' := 52) (tg := 87) nd_M_begin_49 (by decide) rfl (fun hx => absurd hx (by rw [e4]; exact nI_ge (by omega) (by omega))) (fun _ => ?_)
      refine aw_aload_n (pc' := 53) nd_M_begin_52 rfl rfl rfl ?_
      refine aw_get (pc' := 56) nd_M_begin_53 rfl nF_5_7 g_M_pad ?_
      refine aw_iload (pc' := 58) nd_M_begin_56 rfl rfl ?_
      refine aw_iald (pc' := 59) nd_M_begin_58 rfl ga_Mpad i rfl (by omega) ?_
      refine aw_callS (a := 0) (pc' := 62) (as := [_]) (st := []) nd_M_begin_59 rfl nC_5_131 ⟨(Nat.le_of_ble_eq_true rfl), rfl, rfl⟩ (Nat.le_of_ble_eq_true rfl) (Nat.le_of_ble_eq_true rfl) (Nat.le_of_ble_eq_true rfl) ?_
      refine c_M_isDigit ?_
      show nW _ _ _ _ _ 62 _ [_] _ _ _
      refine aw_if_eq (pc' := 65) (tg := 87) nd_M_begin_62 (by decide) rfl (fun hb62 => ?_) (fun hb62 => ?_)
      · skip
        rw [if_neg (by rw [bi_f hb62]; decide)] at hq
        exact l_M_begin87 (n := n) h hlt hs hb hq
      · skip
        refine aw_bipush (pc' := 67) (x := 10) nd_M_begin_65 rfl (by decide) ?_
        refine aw_iload_n (pc' := 68) nd_M_begin_67 rfl rfl ?_
        refine aw_imul (pc' := 69) nd_M_begin_68 rfl ?_
        refine aw_aload_n (pc' := 70) nd_M_begin_69 rfl rfl rfl ?_
        refine aw_get (pc' := 73) nd_M_begin_70 rfl nF_5_7 g_M_pad ?_
        refine aw_iload (pc' := 75) nd_M_begin_73 rfl rfl ?_
        refine aw_iald (pc' := 76) nd_M_begin_75 rfl ga_Mpad i rfl (by omega) ?_
        refine aw_iadd (pc' := 77) nd_M_begin_76 rfl ?_
        refine aw_bipush (pc' := 79) (x := 48) nd_M_begin_77 rfl (by decide) ?_
        refine aw_isub (pc' := 80) nd_M_begin_79 rfl ?_
        refine aw_istore_n (pc' := 81) (ls' := [_, _, _, _, _]) nd_M_begin_80 rfl (Nat.le_of_ble_eq_true rfl) rfl ?_
        refine aw_iinc (pc' := 84) (ls' := [_, _, _, _, _]) nd_M_begin_81 rfl rfl (nI_1 i) rfl ?_
        refine aw_goto (pc' := 35) nd_M_begin_84 (by decide) ?_
        rw [if_pos (bi_t hb62)] at hq
        exact ih (i + 1) _ (by omega) hq
    · rw [yn, if_neg hin] at hq
      refine aw_iload (pc' := 37) nd_M_begin_35 rfl rfl ?_
      refine aw_aload_n (pc' := 38) nd_M_begin_37 rfl rfl rfl ?_
      refine aw_get (pc' := 41) nd_M_begin_38 rfl nF_5_134 g_M_length ?_
      refine aw_icmp_ge (pc' := 44) (tg := 87) nd_M_begin_41 (by decide) rfl (fun _ => ?_) (fun hx => absurd (by rw [hn]; exact nI_le (by omega) (by omega)) hx)
      exact l_M_begin87 (n := n) h hlt hs hb hq

theorem l_M_begin142 {L : Nat} {xs : Nat → Int32} {d : Nat} {Q : ax_Q} {μ0 μ : nMem} {sg cd : yG} {c : Int32} {k n : Nat} (h : YS μ0 μ sg cd) (hlt : cd.length < 40) (hs : sg.length < 64) (hb : ∀ x, (yS 3 sg (cd ++ [x])).2.length ≤ 40) {a : Int32} {v w : Option Value} (hq : ∀ μ', YS μ0 μ' ((a, 0) :: sg) cd → Q (some (.int 1)) (ns_rep μ')) : nW L xs (d + 2) ns_I_M_begin Q 142 [some (.ref 104), some (.int c), some (.int (nI k)), v, w] [.int a, .ref 104] 0 0 (ns_rep μ) := by
  refine aw_iconst (pc' := 143) (x := 0) nd_M_begin_142 rfl (by decide) ?_
  refine aw_callV (pc' := 146) (as := [_, _]) (st := []) nd_M_begin_143 rfl nC_5_159 ⟨(Nat.le_of_ble_eq_true rfl), rfl, rfl⟩ ns_ioM (Nat.le_of_ble_eq_true rfl) (Nat.le_of_ble_eq_true rfl) (Nat.le_of_ble_eq_true rfl) ?_
  refine c_M_put h.2.1.1 (by omega) ?_
  show nW _ _ _ _ _ 146 _ [] _ _ _
  refine aw_iconst (pc' := 147) (x := 1) nd_M_begin_146 rfl (by decide) ?_
  refine aw_ireturn nd_M_begin_147 rfl (by first | rfl | assumption) (Nat.le_of_ble_eq_true rfl) (Nat.le_of_ble_eq_true rfl) ?_
  exact hq _ (YS.put h)

theorem l_M_begin118 {L : Nat} {xs : Nat → Int32} {d : Nat} {Q : ax_Q} {μ0 μ : nMem} {sg cd : yG} {c : Int32} {k n : Nat} (h : YS μ0 μ sg cd) (hlt : cd.length < 40) (hs : sg.length < 64) (hb : ∀ x, (yS 3 sg (cd ++ [x])).2.length ≤ 40) {v w : Option Value} (hc : c = 40 ∨ c = 45 ∨ c = 64) (hq1 : ¬ nI (yD sg) = 5 → ∀ μ', YS μ0 μ' ((if c = 45 then 200 else c, 0) :: sg) cd → Q (some (.int 1)) (ns_rep μ')) (hq0 : nI (yD sg) = 5 → Q (some (.int 0)) (ns_rep μ)) : nW L xs (d + 2) ns_I_M_begin Q 118 [some (.ref 104), some (.int c), some (.int (nI k)), v, w] [] 0 0 (ns_rep μ) := by
  refine aw_aload_n (pc' := 119) nd_M_begin_118 rfl rfl rfl ?_
  refine aw_callV (pc' := 122) (as := []) (st := []) nd_M_begin_119 rfl nC_5_155 ⟨(Nat.le_of_ble_eq_true rfl), rfl, rfl⟩ ns_ioM (Nat.le_of_ble_eq_true rfl) (Nat.le_of_ble_eq_true rfl) (Nat.le_of_ble_eq_true rfl) ?_
  refine c_M_deepness h.2.1.1 h.rg (by omega) ?_
  show nW _ _ _ _ _ 122 _ [_] _ _ _
  refine aw_iconst (pc' := 123) (x := 5) nd_M_begin_122 rfl (by decide) ?_
  refine aw_icmp_ne (pc' := 126) (tg := 128) nd_M_begin_123 (by decide) rfl (fun hb123 => ?_) (fun hb123 => ?_)
  · skip
    refine aw_aload_n (pc' := 129) nd_M_begin_128 rfl rfl rfl ?_
    refine aw_iload_n (pc' := 130) nd_M_begin_129 rfl rfl ?_
    refine aw_bipush (pc' := 132) (x := 45) nd_M_begin_130 rfl (by decide) ?_
    refine aw_icmp_ne (pc' := 135) (tg := 141) nd_M_begin_132 (by decide) rfl (fun hb132 => ?_) (fun hb132 => ?_)
    · skip
      refine aw_iload_n (pc' := 142) nd_M_begin_141 rfl rfl ?_
      first
        | (refine l_M_begin142 (n := n) h hlt hs hb ?_; have e := hq1 hb123; rw [if_neg hb132] at e; exact e)
        | (refine l_M_begin142 (n := n) h hlt hs hb ?_; have e := hq1 hb123; rw [if_pos hb132] at e; exact e)
    · skip
      refine aw_sipush (pc' := 138) (x := 200) nd_M_begin_135 rfl (by decide) ?_
      refine aw_goto (pc' := 142) nd_M_begin_138 (by decide) ?_
      first
        | (refine l_M_begin142 (n := n) h hlt hs hb ?_; have e := hq1 hb123; rw [if_neg hb132] at e; exact e)
        | (refine l_M_begin142 (n := n) h hlt hs hb ?_; have e := hq1 hb123; rw [if_pos hb132] at e; exact e)
  · skip
    refine aw_iconst (pc' := 127) (x := 0) nd_M_begin_126 rfl (by decide) ?_
    refine aw_ireturn nd_M_begin_127 rfl (by first | rfl | assumption) (Nat.le_of_ble_eq_true rfl) (Nat.le_of_ble_eq_true rfl) ?_
    exact hq0 hb123

theorem c_M_begin {L : Nat} {xs : Nat → Int32} {d : Nat} {Q : ax_Q} {μ0 μ : nMem} {sg cd : yG} {c : Int32} {k n : Nat} (h : YS μ0 μ sg cd) (hlt : cd.length < 40) (hs : sg.length < 64) (hb : ∀ x, (yS 3 sg (cd ++ [x])).2.length ≤ 40) (hn : μ.1 104 2 = nI n) (hn30 : n ≤ 30) (hk : k < n) (hq1 : ∀ μ' r, yBeg (μ.1 105) n c k sg cd = some r → YS μ0 μ' r.1 r.2 → Q (some (.int 1)) (ns_rep μ')) (hq0 : yBeg (μ.1 105) n c k sg cd = none → Q (some (.int 0)) (ns_rep μ)) : nM L xs (d + 3) 40 [.ref 104, .int c, .int (nI k)] (ns_rep μ) Q := by
  refine nM.of ns_I_M_begin rfl (ls := [_, _, _, _, _]) (Nat.le_of_ble_eq_true rfl) rfl ?_
  refine aw_iload_n (pc' := 1) nd_M_begin_0 rfl rfl ?_
  refine aw_callS (a := 0) (pc' := 4) (as := [_]) (st := []) nd_M_begin_1 rfl nC_5_127 ⟨(Nat.le_of_ble_eq_true rfl), rfl, rfl⟩ (Nat.le_of_ble_eq_true rfl) (Nat.le_of_ble_eq_true rfl) (Nat.le_of_ble_eq_true rfl) ?_
  refine c_M_isLetter ?_
  show nW _ _ _ _ _ 4 _ [_] _ _ _
  refine aw_if_eq (pc' := 7) (tg := 23) nd_M_begin_4 (by decide) rfl (fun hb4 => ?_) (fun hb4 => ?_)
  · skip
    have hl : ¬ isLetM c = true := by rw [bi_f hb4]; decide
    refine aw_iload_n (pc' := 24) nd_M_begin_23 rfl rfl ?_
    refine aw_callS (a := 0) (pc' := 27) (as := [_]) (st := []) nd_M_begin_24 rfl nC_5_131 ⟨(Nat.le_of_ble_eq_true rfl), rfl, rfl⟩ (Nat.le_of_ble_eq_true rfl) (Nat.le_of_ble_eq_true rfl) (Nat.le_of_ble_eq_true rfl) ?_
    refine c_M_isDigit ?_
    show nW _ _ _ _ _ 27 _ [_] _ _ _
    refine aw_if_eq (pc' := 30) (tg := 100) nd_M_begin_27 (by decide) rfl (fun hb27 => ?_) (fun hb27 => ?_)
    · skip
      have hd : ¬ isDig c = true := by rw [bi_f hb27]; decide
      refine aw_iload_n (pc' := 101) nd_M_begin_100 rfl rfl ?_
      refine aw_bipush (pc' := 103) (x := 40) nd_M_begin_101 rfl (by decide) ?_
      refine aw_icmp_eq (pc' := 106) (tg := 118) nd_M_begin_103 (by decide) rfl (fun hb103 => ?_) (fun hb103 => ?_)
      · skip
        have hc : c = 40 ∨ c = 45 ∨ c = 64 := by
          first
            | exact Or.inl hb103
            | exact Or.inr (Or.inl hb109)
            | exact Or.inr (Or.inr hb115)
        refine l_M_begin118 (n := n) h hlt hs hb hc (fun h5 μ' h' => hq1 μ' (((if c = 45 then 200 else c, 0) :: sg), cd) ?_ h') (fun h5 => hq0 ?_)
        · unfold yBeg
          rw [if_neg hl, if_neg hd, if_pos hc, if_neg h5]
        · unfold yBeg
          rw [if_neg hl, if_neg hd, if_pos hc, if_pos h5]
      · skip
        refine aw_iload_n (pc' := 107) nd_M_begin_106 rfl rfl ?_
        refine aw_bipush (pc' := 109) (x := 45) nd_M_begin_107 rfl (by decide) ?_
        refine aw_icmp_eq (pc' := 112) (tg := 118) nd_M_begin_109 (by decide) rfl (fun hb109 => ?_) (fun hb109 => ?_)
        · skip
          have hc : c = 40 ∨ c = 45 ∨ c = 64 := by
            first
              | exact Or.inl hb103
              | exact Or.inr (Or.inl hb109)
              | exact Or.inr (Or.inr hb115)
          refine l_M_begin118 (n := n) h hlt hs hb hc (fun h5 μ' h' => hq1 μ' (((if c = 45 then 200 else c, 0) :: sg), cd) ?_ h') (fun h5 => hq0 ?_)
          · unfold yBeg
            rw [if_neg hl, if_neg hd, if_pos hc, if_neg h5]
          · unfold yBeg
            rw [if_neg hl, if_neg hd, if_pos hc, if_pos h5]
        · skip
          refine aw_iload_n (pc' := 113) nd_M_begin_112 rfl rfl ?_
          refine aw_bipush (pc' := 115) (x := 64) nd_M_begin_113 rfl (by decide) ?_
          refine aw_icmp_ne (pc' := 118) (tg := 126) nd_M_begin_115 (by decide) rfl (fun hb115 => ?_) (fun hb115 => ?_)
          · skip
            refine aw_iconst (pc' := 127) (x := 0) nd_M_begin_126 rfl (by decide) ?_
            refine aw_ireturn nd_M_begin_127 rfl (by first | rfl | assumption) (Nat.le_of_ble_eq_true rfl) (Nat.le_of_ble_eq_true rfl) ?_
            refine hq0 ?_
            unfold yBeg
            rw [if_neg hl, if_neg hd, if_neg (fun z => by rcases z with z | z | z; exact hb103 z; exact hb109 z; exact hb115 z)]
          · skip
            have hc : c = 40 ∨ c = 45 ∨ c = 64 := by
              first
                | exact Or.inl hb103
                | exact Or.inr (Or.inl hb109)
                | exact Or.inr (Or.inr hb115)
            refine l_M_begin118 (n := n) h hlt hs hb hc (fun h5 μ' h' => hq1 μ' (((if c = 45 then 200 else c, 0) :: sg), cd) ?_ h') (fun h5 => hq0 ?_)
            · unfold yBeg
              rw [if_neg hl, if_neg hd, if_pos hc, if_neg h5]
            · unfold yBeg
              rw [if_neg hl, if_neg hd, if_pos hc, if_pos h5]
    · skip
      refine aw_iconst (pc' := 31) (x := 0) nd_M_begin_30 rfl (by decide) ?_
      refine aw_istore_n (pc' := 32) (ls' := [_, _, _, _, _]) nd_M_begin_31 rfl (Nat.le_of_ble_eq_true rfl) rfl ?_
      refine aw_iload_n (pc' := 33) nd_M_begin_32 rfl rfl ?_
      refine aw_istore (pc' := 35) (ls' := [_, _, _, _, _]) nd_M_begin_33 rfl (Nat.le_of_ble_eq_true rfl) rfl ?_
      refine l_M_begin35 h hlt hs hb hn hn30 hk 4 k 0 (by omega) (fun μ' h' => hq1 μ' _ ?_ h')
      unfold yBeg
      rw [if_neg hl, if_pos (bi_t hb27)]
  · skip
    refine aw_aload_n (pc' := 8) nd_M_begin_7 rfl rfl rfl ?_
    refine aw_iconst (pc' := 9) (x := 1) nd_M_begin_8 rfl (by decide) ?_
    refine aw_iload_n (pc' := 10) nd_M_begin_9 rfl rfl ?_
    refine aw_bipush (pc' := 12) (x := 65) nd_M_begin_10 rfl (by decide) ?_
    refine aw_isub (pc' := 13) nd_M_begin_12 rfl ?_
    refine aw_callV (pc' := 16) (as := [_, _]) (st := []) nd_M_begin_13 rfl nC_5_147 ⟨(Nat.le_of_ble_eq_true rfl), rfl, rfl⟩ ns_ioM (Nat.le_of_ble_eq_true rfl) (Nat.le_of_ble_eq_true rfl) (Nat.le_of_ble_eq_true rfl) ?_
    refine c_M_make h.2.2.1 hlt ?_
    show nW _ _ _ _ _ 16 _ [] _ _ _
    refine aw_aload_n (pc' := 17) nd_M_begin_16 rfl rfl rfl ?_
    refine aw_iconst (pc' := 18) (x := 3) nd_M_begin_17 rfl (by decide) ?_
    refine aw_callV (pc' := 21) (as := [_]) (st := []) nd_M_begin_18 rfl nC_5_151 ⟨(Nat.le_of_ble_eq_true rfl), rfl, rfl⟩ ns_ioM (Nat.le_of_ble_eq_true rfl) (Nat.le_of_ble_eq_true rfl) (Nat.le_of_ble_eq_true rfl) ?_
    refine c_M_settle (YS.make h) (hb _) (by omega) ?_
    intro μ' h'
    show nW _ _ _ _ _ 21 _ [] _ _ _
    refine aw_iconst (pc' := 22) (x := 1) nd_M_begin_21 rfl (by decide) ?_
    refine aw_ireturn nd_M_begin_22 rfl (by first | rfl | assumption) (Nat.le_of_ble_eq_true rfl) (Nat.le_of_ble_eq_true rfl) ?_
    refine hq1 μ' _ ?_ h'
    unfold yBeg
    rw [if_pos (bi_t hb4)]

