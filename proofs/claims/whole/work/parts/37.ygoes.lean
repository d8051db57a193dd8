/-! the model's parser: goesOn -/
theorem yAw_S : ∀ (sg cd : yG), yAw (yS 0 sg cd).1 = yAw sg := by
  intro sg
  induction sg with
  | nil => intro cd; rfl
  | cons q sg ih =>
    intro cd
    obtain ⟨c, m⟩ := q
    rw [yS]
    split
    · rfl
    · rename_i h
      rw [ih]
      by_cases hc : c = 58
      · rw [yAw, if_pos hc]
      · rw [yAw, if_neg hc, if_neg h]
theorem yAw_K : ∀ (f : Nat) (sg cd : yG), yAw (yK f sg cd).1 = yAw sg := by
  intro f
  induction f with
  | zero => intro sg cd; rfl
  | succ f ih =>
    intro sg cd
    cases sg with
    | nil => rfl
    | cons q sg =>
      obtain ⟨c, m⟩ := q
      rw [yK]
      split
      · rename_i hc
        rw [ih, yAw_S, yAw, if_pos hc]
      · rfl
theorem yAw_Cl (sg cd : yG) : yAw (yCl sg cd).1 = yAw sg := by unfold yCl; rw [yAw_K, yAw_S]
/-- on top lies no sign that settling at 0 would take -/
def yT0 : yG → Prop
  | [] => True
  | (c, _) :: _ => rkM c < 0
theorem yS_T0 : ∀ (sg cd : yG), yT0 (yS 0 sg cd).1 := by
  intro sg
  induction sg with
  | nil => intro cd; trivial
  | cons q sg ih =>
    intro cd
    obtain ⟨c, m⟩ := q
    rw [yS]
    split
    · assumption
    · exact ih _
theorem yK_T : ∀ (f : Nat) (sg cd : yG), sg.length ≤ f → yT0 sg → yT0 (yK f sg cd).1 ∧ ∀ x m sg1, (yK f sg cd).1 = (x, m) :: sg1 → ¬ x = 58 := by
  intro f
  induction f with
  | zero =>
    intro sg cd hf ht
    obtain rfl : sg = [] := List.length_eq_zero_iff.mp (by omega)
    exact ⟨trivial, fun x m sg1 e => by cases e⟩
  | succ f ih =>
    intro sg cd hf ht
    cases sg with
    | nil => exact ⟨trivial, fun x m sg1 e => by cases e⟩
    | cons q sg =>
      obtain ⟨c, m⟩ := q
      rw [List.length_cons] at hf
      rw [yK]
      split
      · exact ih _ _ (Nat.le_trans (yS_len 0 sg _).2 (by omega)) (yS_T0 _ _)
      · rename_i hc
        exact ⟨ht, fun x m2 sg1 e => by cases e; exact hc⟩
theorem yCl_top {sg cd : yG} (hs : sg.length ≤ 64) {x m : Int32} {sg1 : yG} (e : (yCl sg cd).1 = (x, m) :: sg1) : x = yAw sg := by
  have h := yK_T 64 (yS 0 sg cd).1 (yS 0 sg cd).2 (Nat.le_trans (yS_len 0 sg cd).2 hs) (yS_T0 _ _)
  have e' : (yK 64 (yS 0 sg cd).1 (yS 0 sg cd).2).1 = (x, m) :: sg1 := e
  have h1 := h.1
  rw [e'] at h1
  have h2 := yAw_Cl sg cd
  rw [e, yAw, if_neg (h.2 x m sg1 e'), if_pos (show rkM x < 0 from h1)] at h2
  exact h2
theorem yK_mem : ∀ (f : Nat) (sg cd : yG), ∀ q ∈ (yK f sg cd).1, q ∈ sg := by
  intro f
  induction f with
  | zero => intro sg cd q hq; exact hq
  | succ f ih =>
    intro sg cd q hq
    cases sg with
    | nil => exact hq
    | cons p sg =>
      obtain ⟨c, m⟩ := p
      rw [yK] at hq
      split at hq
      · exact List.mem_cons_of_mem _ (yS_mem 0 sg _ q (ih _ _ q hq))
      · exact hq
theorem yCl_mem (sg cd : yG) : ∀ q ∈ (yCl sg cd).1, q ∈ sg := fun q hq => yS_mem 0 sg cd q (yK_mem 64 _ _ q hq)
theorem yCl_len (sg cd : yG) : cd.length ≤ (yCl sg cd).2.length ∧ (yCl sg cd).1.length ≤ sg.length := by
  have h1 := yS_len 0 sg cd
  have h2 := yK_len 64 (yS 0 sg cd).1 (yS 0 sg cd).2
  unfold yCl
  omega
def yGo (c : Int32) (sg cd : yG) : Option (yG × yG) :=
  if rkM c = 0 ∧ yCm sg false = true then none
  else if rkM c = 3 then none else if c = 40 then none else if isLetM c = true then none else if isDig c = true then none
  else if rkM c < 0 then
    (if c = 63 then some ((63, nI (yS 0 sg cd).2.length) :: (yS 0 sg cd).1, (yS 0 sg cd).2 ++ [(10, 0)])
     else if yAw sg = (if c = 58 then 63 else 40) then
       (match (yCl sg cd).1 with
        | [] => none
        | (_, m) :: sg1 => if c = 58 then some ((58, nI (yCl sg cd).2.length) :: sg1, jmpM ((yCl sg cd).2 ++ [(9, 0)]) m.toNatClampNeg)
           else some (yS 3 sg1 (yCl sg cd).2))
     else none)
  else some ((c, 0) :: (yS (if rkM c = 0 then 1 else rkM c) sg cd).1, (yS (if rkM c = 0 then 1 else rkM c) sg cd).2)

theorem l_M_goesOn67 {L : Nat} {xs : Nat → Int32} {d : Nat} {Q : ax_Q} {μ0 μ : nMem} {sg cd : yG} {c least : Int32} (h : YS μ0 μ sg cd) (hs : sg.length < 64) (hb : (yS least sg cd).2.length ≤ 40) (hq : ∀ μ', YS μ0 μ' ((c, 0) :: (yS least sg cd).1) (yS least sg cd).2 → Q (some (.int 1)) (ns_rep μ')) : nW L xs (d + 3) ns_I_M_goesOn Q 67 [some (.ref 104), some (.int c)] [.int least, .ref 104] 0 0 (ns_rep μ) := by
  refine aw_callV (pc' := 70) (as := [_]) (st := []) nd_M_goesOn_67 rfl nC_5_151 ⟨(Nat.le_of_ble_eq_true rfl), rfl, rfl⟩ ns_ioM (Nat.le_of_ble_eq_true rfl) (Nat.le_of_ble_eq_true rfl) (Nat.le_of_ble_eq_true rfl) ?_
  have hl := yS_len least sg cd
  refine c_M_settle h hb (by omega) ?_
  intro μ' h'
  show nW _ _ _ _ _ 70 _ [] _ _ _
  refine aw_aload_n (pc' := 71) nd_M_goesOn_70 rfl rfl rfl ?_
  refine aw_iload_n (pc' := 72) nd_M_goesOn_71 rfl rfl ?_
  refine aw_iconst (pc' := 73) (x := 0) nd_M_goesOn_72 rfl (by decide) ?_
  refine aw_callV (pc' := 76) (as := [_, _]) (st := []) nd_M_goesOn_73 rfl nC_5_159 ⟨(Nat.le_of_ble_eq_true rfl), rfl, rfl⟩ ns_ioM (Nat.le_of_ble_eq_true rfl) (Nat.le_of_ble_eq_true rfl) (Nat.le_of_ble_eq_true rfl) ?_
  refine c_M_put h'.2.1.1 (by omega) ?_
  show nW _ _ _ _ _ 76 _ [] _ _ _
  refine aw_iconst (pc' := 77) (x := 1) nd_M_goesOn_76 rfl (by decide) ?_
  refine aw_ireturn nd_M_goesOn_77 rfl (by first | rfl | assumption) (Nat.le_of_ble_eq_true rfl) (Nat.le_of_ble_eq_true rfl) ?_
  exact hq _ (YS.put h')

theorem l_M_goesOn84 {L : Nat} {xs : Nat → Int32} {d : Nat} {Q : ax_Q} {μ0 μ : nMem} {sg cd : yG} {c : Int32} (h : YS μ0 μ sg cd) (hs : sg.length < 64) (hb : (yS 0 sg cd).2.length < 40) (hq : ∀ μ', YS μ0 μ' ((63, nI (yS 0 sg cd).2.length) :: (yS 0 sg cd).1) ((yS 0 sg cd).2 ++ [(10, 0)]) → Q (some (.int 1)) (ns_rep μ')) : nW L xs (d + 3) ns_I_M_goesOn Q 84 [some (.ref 104), some (.int c)] [] 0 0 (ns_rep μ) := by
  refine aw_aload_n (pc' := 85) nd_M_goesOn_84 rfl rfl rfl ?_
  refine aw_iconst (pc' := 86) (x := 0) nd_M_goesOn_85 rfl (by decide) ?_
  refine aw_callV (pc' := 89) (as := [_]) (st := []) nd_M_goesOn_86 rfl nC_5_151 ⟨(Nat.le_of_ble_eq_true rfl), rfl, rfl⟩ ns_ioM (Nat.le_of_ble_eq_true rfl) (Nat.le_of_ble_eq_true rfl) (Nat.le_of_ble_eq_true rfl) ?_
  have hl := yS_len 0 sg cd
  refine c_M_settle h (by omega) (by omega) ?_
  intro μ' h'
  show nW _ _ _ _ _ 89 _ [] _ _ _
  refine aw_aload_n (pc' := 90) nd_M_goesOn_89 rfl rfl rfl ?_
  refine aw_bipush (pc' := 92) (x := 10) nd_M_goesOn_90 rfl (by decide) ?_
  refine aw_iconst (pc' := 93) (x := 0) nd_M_goesOn_92 rfl (by decide) ?_
  refine aw_callV (pc' := 96) (as := [_, _]) (st := []) nd_M_goesOn_93 rfl nC_5_147 ⟨(Nat.le_of_ble_eq_true rfl), rfl, rfl⟩ ns_ioM (Nat.le_of_ble_eq_true rfl) (Nat.le_of_ble_eq_true rfl) (Nat.le_of_ble_eq_true rfl) ?_
  refine c_M_make h'.2.2.1 hb ?_
  have h2 := YS.make (a := 10) (b := 0) h'
  show nW _ _ _ _ _ 96 _ [] _ _ _
  refine aw_aload_n (pc' := 97) nd_M_goesOn_96 rfl rfl rfl ?_
  refine aw_bipush (pc' := 99) (x := 63) nd_M_goesOn_97 rfl (by decide) ?_
  refine aw_aload_n (pc' := 100) nd_M_goesOn_99 rfl rfl rfl ?_
  refine aw_get (pc' := 103) nd_M_goesOn_100 rfl nF_5_137 g_M_made ?_
  refine aw_iconst (pc' := 104) (x := 1) nd_M_goesOn_103 rfl (by decide) ?_
  refine aw_isub (pc' := 105) nd_M_goesOn_104 rfl ?_
  rw [h2.2.2.1, List.length_append, List.length_singleton, nI_pred]
  refine aw_callV (pc' := 108) (as := [_, _]) (st := []) nd_M_goesOn_105 rfl nC_5_159 ⟨(Nat.le_of_ble_eq_true rfl), rfl, rfl⟩ ns_ioM (Nat.le_of_ble_eq_true rfl) (Nat.le_of_ble_eq_true rfl) (Nat.le_of_ble_eq_true rfl) ?_
  refine c_M_put h2.2.1.1 (by omega) ?_
  show nW _ _ _ _ _ 108 _ [] _ _ _
  refine aw_iconst (pc' := 109) (x := 1) nd_M_goesOn_108 rfl (by decide) ?_
  refine aw_ireturn nd_M_goesOn_109 rfl (by first | rfl | assumption) (Nat.le_of_ble_eq_true rfl) (Nat.le_of_ble_eq_true rfl) ?_
  exact hq _ (YS.put h2)

theorem l_M_goesOn132 {L : Nat} {xs : Nat → Int32} {d : Nat} {Q : ax_Q} {μ0 μ : nMem} {sg cd : yG} {c : Int32} (h : YS μ0 μ sg cd) (hy : YB sg cd.length) (hs : sg.length < 64) (hb1 : ∀ l : Int32, ¬ l < 0 → (yS l sg cd).2.length < 40) (hb2 : (yCl sg cd).2.length < 40) (hb3 : ∀ x m sg1, (yCl sg cd).1 = (x, m) :: sg1 → (yS 3 sg1 (yCl sg cd).2).2.length ≤ 40) {x m : Int32} {sg1 : yG} (e : (yCl sg cd).1 = (x, m) :: sg1) (hx : c = 58 → x = 63) (hq1 : ¬ c = 58 → ∀ μ', YS μ0 μ' (yS 3 sg1 (yCl sg cd).2).1 (yS 3 sg1 (yCl sg cd).2).2 → Q (some (.int 1)) (ns_rep μ')) (hq2 : c = 58 → ∀ μ', YS μ0 μ' ((58, nI (yCl sg cd).2.length) :: sg1) (jmpM ((yCl sg cd).2 ++ [(9, 0)]) m.toNatClampNeg) → Q (some (.int 1)) (ns_rep μ')) : nW L xs (d + 3) ns_I_M_goesOn Q 132 [some (.ref 104), some (.int c)] [] 0 0 (ns_rep μ) := by
  refine aw_aload_n (pc' := 133) nd_M_goesOn_132 rfl rfl rfl ?_
  refine aw_callV (pc' := 136) (as := []) (st := []) nd_M_goesOn_133 rfl nC_5_172 ⟨(Nat.le_of_ble_eq_true rfl), rfl, rfl⟩ ns_ioM (Nat.le_of_ble_eq_true rfl) (Nat.le_of_ble_eq_true rfl) (Nat.le_of_ble_eq_true rfl) ?_
  have hl := yCl_len sg cd
  refine c_M_close h hy (by omega) (by omega) ?_
  intro μ' h'
  rw [e] at h' hl
  rw [List.length_cons] at hl
  have htop := h'.top.2
  show nW _ _ _ _ _ 136 _ [] _ _ _
  refine aw_aload_n (pc' := 137) nd_M_goesOn_136 rfl rfl rfl ?_
  refine aw_dup (pc' := 138) nd_M_goesOn_137 rfl rfl ?_
  refine aw_get (pc' := 141) nd_M_goesOn_138 rfl nF_5_140 g_M_signs ?_
  refine aw_iconst (pc' := 142) (x := 1) nd_M_goesOn_141 rfl (by decide) ?_
  refine aw_isub (pc' := 143) nd_M_goesOn_142 rfl ?_
  rw [show μ'.1 104 37 - 1 = nI sg1.length by rw [h'.2.1.1]; exact nI_pred _]
  refine aw_put (pc' := 146) nd_M_goesOn_143 rfl nF_5_140 trivial p_M_signs ?_
  refine aw_iload_n (pc' := 147) nd_M_goesOn_146 rfl rfl ?_
  refine aw_bipush (pc' := 149) (x := 58) nd_M_goesOn_147 rfl (by decide) ?_
  refine aw_icmp_ne (pc' := 152) (tg := 192) nd_M_goesOn_149 (by decide) rfl (fun hb149 => ?_) (fun hb149 => ?_)
  · skip
    refine aw_aload_n (pc' := 193) nd_M_goesOn_192 rfl rfl rfl ?_
    refine aw_iconst (pc' := 194) (x := 3) nd_M_goesOn_193 rfl (by decide) ?_
    refine aw_callV (pc' := 197) (as := [_]) (st := []) nd_M_goesOn_194 rfl nC_5_151 ⟨(Nat.le_of_ble_eq_true rfl), rfl, rfl⟩ ns_ioM (Nat.le_of_ble_eq_true rfl) (Nat.le_of_ble_eq_true rfl) (Nat.le_of_ble_eq_true rfl) ?_
    refine c_M_settle h'.pop (hb3 x m sg1 e) (by omega) ?_
    intro μ2 h2
    show nW _ _ _ _ _ 197 _ [] _ _ _
    refine aw_iconst (pc' := 198) (x := 1) nd_M_goesOn_197 rfl (by decide) ?_
    refine aw_ireturn nd_M_goesOn_198 rfl (by first | rfl | assumption) (Nat.le_of_ble_eq_true rfl) (Nat.le_of_ble_eq_true rfl) ?_
    first
      | exact hq1 hb149 μ2 h2
      | (refine hq2 hb149 _ ?_; rw [hmj]; rw [List.length_append, List.length_singleton] at h3; exact YS.put h3)
  · skip
    refine aw_aload_n (pc' := 153) nd_M_goesOn_152 rfl rfl rfl ?_
    refine aw_bipush (pc' := 155) (x := 9) nd_M_goesOn_153 rfl (by decide) ?_
    refine aw_iconst (pc' := 156) (x := 0) nd_M_goesOn_155 rfl (by decide) ?_
    refine aw_callV (pc' := 159) (as := [_, _]) (st := []) nd_M_goesOn_156 rfl nC_5_147 ⟨(Nat.le_of_ble_eq_true rfl), rfl, rfl⟩ ns_ioM (Nat.le_of_ble_eq_true rfl) (Nat.le_of_ble_eq_true rfl) (Nat.le_of_ble_eq_true rfl) ?_
    refine c_M_make h'.pop.2.2.1 hb2 ?_
    have h2 := YS.make (a := 9) (b := 0) h'.pop
    obtain ⟨j, hj, hjm⟩ := hy (x, m) (yCl_mem sg cd _ (by rw [e]; exact List.mem_cons_self)) (Or.inr (hx hb149))
    have hjm : m = nI j := hjm
    have hmj : m.toNatClampNeg = j := by rw [hjm]; exact nI_clamp (by omega)
    have hj2 : j < ((yCl sg cd).2 ++ [((9 : Int32), (0 : Int32))]).length := by rw [List.length_append]; omega
    have h3 := h2.fix hj2
    show nW _ _ _ _ _ 159 _ [] _ _ _
    refine aw_aload_n (pc' := 160) nd_M_goesOn_159 rfl rfl rfl ?_
    refine aw_get (pc' := 163) nd_M_goesOn_160 rfl nF_5_121 g_M_newWith ?_
    refine aw_aload_n (pc' := 164) nd_M_goesOn_163 rfl rfl rfl ?_
    refine aw_get (pc' := 167) nd_M_goesOn_164 rfl nF_5_115 g_M_mend ?_
    refine aw_aload_n (pc' := 168) nd_M_goesOn_167 rfl rfl rfl ?_
    refine aw_get (pc' := 171) nd_M_goesOn_168 rfl nF_5_140 g_M_signs ?_
    refine aw_iald (pc' := 172) nd_M_goesOn_171 rfl ga_Mmend sg1.length h2.2.1.1 (by omega) ?_
    refine aw_aload_n (pc' := 173) nd_M_goesOn_172 rfl rfl rfl ?_
    refine aw_get (pc' := 176) nd_M_goesOn_173 rfl nF_5_137 g_M_made ?_
    rw [h2.2.2.1]
    refine aw_iast (pc' := 177) nd_M_goesOn_176 rfl rfl j (by rw [ms_o (by decide), ms_o (by decide), ms_o (by decide), ms_o (by decide), htop, hjm]) (by omega) pa_MnewWith ?_
    refine aw_aload_n (pc' := 178) nd_M_goesOn_177 rfl rfl rfl ?_
    refine aw_bipush (pc' := 180) (x := 58) nd_M_goesOn_178 rfl (by decide) ?_
    refine aw_aload_n (pc' := 181) nd_M_goesOn_180 rfl rfl rfl ?_
    refine aw_get (pc' := 184) nd_M_goesOn_181 rfl nF_5_137 g_M_made ?_
    refine aw_iconst (pc' := 185) (x := 1) nd_M_goesOn_184 rfl (by decide) ?_
    refine aw_isub (pc' := 186) nd_M_goesOn_185 rfl ?_
    rw [h3.2.2.1, jmpM_len, List.length_append, List.length_singleton, nI_pred]
    refine aw_callV (pc' := 189) (as := [_, _]) (st := []) nd_M_goesOn_186 rfl nC_5_159 ⟨(Nat.le_of_ble_eq_true rfl), rfl, rfl⟩ ns_ioM (Nat.le_of_ble_eq_true rfl) (Nat.le_of_ble_eq_true rfl) (Nat.le_of_ble_eq_true rfl) ?_
    refine c_M_put h3.2.1.1 (by omega) ?_
    show nW _ _ _ _ _ 189 _ [] _ _ _
    refine aw_goto (pc' := 197) nd_M_goesOn_189 (by decide) ?_
    refine aw_iconst (pc' := 198) (x := 1) nd_M_goesOn_197 rfl (by decide) ?_
    refine aw_ireturn nd_M_goesOn_198 rfl (by first | rfl | assumption) (Nat.le_of_ble_eq_true rfl) (Nat.le_of_ble_eq_true rfl) ?_
    first
      | exact hq1 hb149 μ2 h2
      | (refine hq2 hb149 _ ?_; rw [hmj]; rw [List.length_append, List.length_singleton] at h3; exact YS.put h3)

theorem l_M_goesOn44 {L : Nat} {xs : Nat → Int32} {d : Nat} {Q : ax_Q} {μ0 μ : nMem} {sg cd : yG} {c : Int32} (h : YS μ0 μ sg cd) (hy : YB sg cd.length) (hs : sg.length < 64) (hb1 : ∀ l : Int32, ¬ l < 0 → (yS l sg cd).2.length < 40) (hb2 : (yCl sg cd).2.length < 40) (hb3 : ∀ x m sg1, (yCl sg cd).1 = (x, m) :: sg1 → (yS 3 sg1 (yCl sg cd).2).2.length ≤ 40) (h1 : ¬ (rkM c = 0 ∧ yCm sg false = true)) (h2 : ¬ rkM c = 3) (h3 : ¬ c = 40) (h4 : ¬ isLetM c = true) (h5 : ¬ isDig c = true) (hq1 : ∀ μ' r, yGo c sg cd = some r → YS μ0 μ' r.1 r.2 → Q (some (.int 1)) (ns_rep μ')) (hq0 : yGo c sg cd = none → Q (some (.int 0)) (ns_rep μ)) : nW L xs (d + 3) ns_I_M_goesOn Q 44 [some (.ref 104), some (.int c)] [] 0 0 (ns_rep μ) := by
  unfold yGo at hq1 hq0
  rw [if_neg h1, if_neg h2, if_neg h3, if_neg h4, if_neg h5] at hq1 hq0
  refine aw_iload_n (pc' := 45) nd_M_goesOn_44 rfl rfl ?_
  refine aw_callS (a := 0) (pc' := 48) (as := [_]) (st := []) nd_M_goesOn_45 rfl nC_5_143 ⟨(Nat.le_of_ble_eq_true rfl), rfl, rfl⟩ (Nat.le_of_ble_eq_true rfl) (Nat.le_of_ble_eq_true rfl) (Nat.le_of_ble_eq_true rfl) ?_
  refine c_M_rank ?_
  show nW _ _ _ _ _ 48 _ [_] _ _ _
  refine aw_if_lt (pc' := 51) (tg := 78) nd_M_goesOn_48 (by decide) rfl (fun hb48 => ?_) (fun hb48 => ?_)
  · skip
    refine aw_iload_n (pc' := 79) nd_M_goesOn_78 rfl rfl ?_
    refine aw_bipush (pc' := 81) (x := 63) nd_M_goesOn_79 rfl (by decide) ?_
    refine aw_icmp_ne (pc' := 84) (tg := 110) nd_M_goesOn_81 (by decide) rfl (fun hb81 => ?_) (fun hb81 => ?_)
    · skip
      refine aw_aload_n (pc' := 111) nd_M_goesOn_110 rfl rfl rfl ?_
      refine aw_callV (pc' := 114) (as := []) (st := []) nd_M_goesOn_111 rfl nC_5_169 ⟨(Nat.le_of_ble_eq_true rfl), rfl, rfl⟩ ns_ioM (Nat.le_of_ble_eq_true rfl) (Nat.le_of_ble_eq_true rfl) (Nat.le_of_ble_eq_true rfl) ?_
      refine c_M_awaits h.2.1.1 h.rg (by omega) ?_
      show nW _ _ _ _ _ 114 _ [_] _ _ _
      refine aw_iload_n (pc' := 115) nd_M_goesOn_114 rfl rfl ?_
      refine aw_bipush (pc' := 117) (x := 58) nd_M_goesOn_115 rfl (by decide) ?_
      refine aw_icmp_ne (pc' := 120) (tg := 125) nd_M_goesOn_117 (by decide) rfl (fun hb117 => ?_) (fun hb117 => ?_)
      · skip
        refine aw_bipush (pc' := 127) (x := 40) nd_M_goesOn_125 rfl (by decide) ?_
        refine aw_icmp_eq (pc' := 130) (tg := 132) nd_M_goesOn_127 (by decide) rfl (fun hb127 => ?_) (fun hb127 => ?_)
        · skip
          have haw : yAw sg = (if c = 58 then 63 else 40) := by
            first
              | (rw [if_neg hb117]; exact hb127)
              | (rw [if_pos hb117]; exact hb127)
          rw [if_pos hb48, if_neg hb81, if_pos haw] at hq1
          rcases e : (yCl sg cd).1 with _ | ⟨⟨x, m⟩, sg1⟩
          · have z := yAw_Cl sg cd
            rw [e, haw] at z
            by_cases h58 : c = 58
            · rw [if_pos h58] at z; exact absurd z (by decide)
            · rw [if_neg h58] at z; exact absurd z (by decide)
          · rw [e] at hq1
            have hx := yCl_top (Nat.le_of_lt hs) e
            refine l_M_goesOn132 h hy hs hb1 hb2 hb3 e (fun h58 => by rw [hx, haw, if_pos h58]) (fun h58 μ' h' => hq1 μ' _ (if_neg h58) h') (fun h58 μ' h' => hq1 μ' _ (if_pos h58) h')
        · skip
          refine aw_iconst (pc' := 131) (x := 0) nd_M_goesOn_130 rfl (by decide) ?_
          refine aw_ireturn nd_M_goesOn_131 rfl (by first | rfl | assumption) (Nat.le_of_ble_eq_true rfl) (Nat.le_of_ble_eq_true rfl) ?_
          have haw : ¬ yAw sg = (if c = 58 then 63 else 40) := by
            first
              | (rw [if_neg hb117]; exact hb127)
              | (rw [if_pos hb117]; exact hb127)
          rw [if_pos hb48, if_neg hb81, if_neg haw] at hq0
          exact hq0 rfl
      · skip
        refine aw_bipush (pc' := 122) (x := 63) nd_M_goesOn_120 rfl (by decide) ?_
        refine aw_goto (pc' := 127) nd_M_goesOn_122 (by decide) ?_
        refine aw_icmp_eq (pc' := 130) (tg := 132) nd_M_goesOn_127 (by decide) rfl (fun hb127 => ?_) (fun hb127 => ?_)
        · skip
          have haw : yAw sg = (if c = 58 then 63 else 40) := by
            first
              | (rw [if_neg hb117]; exact hb127)
              | (rw [if_pos hb117]; exact hb127)
          rw [if_pos hb48, if_neg hb81, if_pos haw] at hq1
          rcases e : (yCl sg cd).1 with _ | ⟨⟨x, m⟩, sg1⟩
          · have z := yAw_Cl sg cd
            rw [e, haw] at z
            by_cases h58 : c = 58
            · rw [if_pos h58] at z; exact absurd z (by decide)
            · rw [if_neg h58] at z; exact absurd z (by decide)
          · rw [e] at hq1
            have hx := yCl_top (Nat.le_of_lt hs) e
            refine l_M_goesOn132 h hy hs hb1 hb2 hb3 e (fun h58 => by rw [hx, haw, if_pos h58]) (fun h58 μ' h' => hq1 μ' _ (if_neg h58) h') (fun h58 μ' h' => hq1 μ' _ (if_pos h58) h')
        · skip
          refine aw_iconst (pc' := 131) (x := 0) nd_M_goesOn_130 rfl (by decide) ?_
          refine aw_ireturn nd_M_goesOn_131 rfl (by first | rfl | assumption) (Nat.le_of_ble_eq_true rfl) (Nat.le_of_ble_eq_true rfl) ?_
          have haw : ¬ yAw sg = (if c = 58 then 63 else 40) := by
            first
              | (rw [if_neg hb117]; exact hb127)
              | (rw [if_pos hb117]; exact hb127)
          rw [if_pos hb48, if_neg hb81, if_neg haw] at hq0
          exact hq0 rfl
    · skip
      rw [if_pos hb48, if_pos hb81] at hq1
      exact l_M_goesOn84 h hs (hb1 0 (by decide)) (fun μ' h' => hq1 μ' _ rfl h')
  · skip
    refine aw_aload_n (pc' := 52) nd_M_goesOn_51 rfl rfl rfl ?_
    refine aw_iload_n (pc' := 53) nd_M_goesOn_52 rfl rfl ?_
    refine aw_callS (a := 0) (pc' := 56) (as := [_]) (st := [_]) nd_M_goesOn_53 rfl nC_5_143 ⟨(Nat.le_of_ble_eq_true rfl), rfl, rfl⟩ (Nat.le_of_ble_eq_true rfl) (Nat.le_of_ble_eq_true rfl) (Nat.le_of_ble_eq_true rfl) ?_
    refine c_M_rank ?_
    show nW _ _ _ _ _ 56 _ [_, _] _ _ _
    refine aw_if_ne (pc' := 59) (tg := 63) nd_M_goesOn_56 (by decide) rfl (fun hb56 => ?_) (fun hb56 => ?_)
    · skip
      refine aw_iload_n (pc' := 64) nd_M_goesOn_63 rfl rfl ?_
      refine aw_callS (a := 0) (pc' := 67) (as := [_]) (st := [_]) nd_M_goesOn_64 rfl nC_5_143 ⟨(Nat.le_of_ble_eq_true rfl), rfl, rfl⟩ (Nat.le_of_ble_eq_true rfl) (Nat.le_of_ble_eq_true rfl) (Nat.le_of_ble_eq_true rfl) ?_
      refine c_M_rank ?_
      show nW _ _ _ _ _ 67 _ [_, _] _ _ _
      rw [if_neg hb48] at hq1
      first
        | (rw [if_neg hb56] at hq1; exact l_M_goesOn67 h hs (Nat.le_of_lt (hb1 _ hb48)) (fun μ' h' => hq1 μ' _ rfl h'))
        | (rw [if_pos hb56] at hq1; exact l_M_goesOn67 h hs (Nat.le_of_lt (hb1 _ (by decide))) (fun μ' h' => hq1 μ' _ rfl h'))
    · skip
      refine aw_iconst (pc' := 60) (x := 1) nd_M_goesOn_59 rfl (by decide) ?_
      refine aw_goto (pc' := 67) nd_M_goesOn_60 (by decide) ?_
      rw [if_neg hb48] at hq1
      first
        | (rw [if_neg hb56] at hq1; exact l_M_goesOn67 h hs (Nat.le_of_lt (hb1 _ hb48)) (fun μ' h' => hq1 μ' _ rfl h'))
        | (rw [if_pos hb56] at hq1; exact l_M_goesOn67 h hs (Nat.le_of_lt (hb1 _ (by decide))) (fun μ' h' => hq1 μ' _ rfl h'))

theorem l_M_goesOn14 {L : Nat} {xs : Nat → Int32} {d : Nat} {Q : ax_Q} {μ0 μ : nMem} {sg cd : yG} {c : Int32} (h : YS μ0 μ sg cd) (hy : YB sg cd.length) (hs : sg.length < 64) (hb1 : ∀ l : Int32, ¬ l < 0 → (yS l sg cd).2.length < 40) (hb2 : (yCl sg cd).2.length < 40) (hb3 : ∀ x m sg1, (yCl sg cd).1 = (x, m) :: sg1 → (yS 3 sg1 (yCl sg cd).2).2.length ≤ 40) (h1 : ¬ (rkM c = 0 ∧ yCm sg false = true)) (hq1 : ∀ μ' r, yGo c sg cd = some r → YS μ0 μ' r.1 r.2 → Q (some (.int 1)) (ns_rep μ')) (hq0 : yGo c sg cd = none → Q (some (.int 0)) (ns_rep μ)) : nW L xs (d + 3) ns_I_M_goesOn Q 14 [some (.ref 104), some (.int c)] [] 0 0 (ns_rep μ) := by
  refine aw_iload_n (pc' := 15) nd_M_goesOn_14 rfl rfl ?_
  refine aw_callS (a := 0) (pc' := 18) (as := [_]) (st := []) nd_M_goesOn_15 rfl nC_5_143 ⟨(Nat.le_of_ble_eq_true rfl), rfl, rfl⟩ (Nat.le_of_ble_eq_true rfl) (Nat.le_of_ble_eq_true rfl) (Nat.le_of_ble_eq_true rfl) ?_
  refine c_M_rank ?_
  show nW _ _ _ _ _ 18 _ [_] _ _ _
  refine aw_iconst (pc' := 19) (x := 3) nd_M_goesOn_18 rfl (by decide) ?_
  refine aw_icmp_eq (pc' := 22) (tg := 42) nd_M_goesOn_19 (by decide) rfl (fun hb19 => ?_) (fun hb19 => ?_)
  · skip
    refine aw_iconst (pc' := 43) (x := 0) nd_M_goesOn_42 rfl (by decide) ?_
    refine aw_ireturn nd_M_goesOn_43 rfl (by first | rfl | assumption) (Nat.le_of_ble_eq_true rfl) (Nat.le_of_ble_eq_true rfl) ?_
    refine hq0 ?_
    unfold yGo
    rw [if_neg h1]
    first
      | (rw [if_neg hb19, if_neg hb25, if_neg (by rw [bi_f hb32]; decide), if_pos (bi_t hb39)])
      | (rw [if_neg hb19, if_neg hb25, if_pos (bi_t hb32)])
      | (rw [if_neg hb19, if_pos hb25])
      | (rw [if_pos hb19])
  · skip
    refine aw_iload_n (pc' := 23) nd_M_goesOn_22 rfl rfl ?_
    refine aw_bipush (pc' := 25) (x := 40) nd_M_goesOn_23 rfl (by decide) ?_
    refine aw_icmp_eq (pc' := 28) (tg := 42) nd_M_goesOn_25 (by decide) rfl (fun hb25 => ?_) (fun hb25 => ?_)
    · skip
      refine aw_iconst (pc' := 43) (x := 0) nd_M_goesOn_42 rfl (by decide) ?_
      refine aw_ireturn nd_M_goesOn_43 rfl (by first | rfl | assumption) (Nat.le_of_ble_eq_true rfl) (Nat.le_of_ble_eq_true rfl) ?_
      refine hq0 ?_
      unfold yGo
      rw [if_neg h1]
      first
        | (rw [if_neg hb19, if_neg hb25, if_neg (by rw [bi_f hb32]; decide), if_pos (bi_t hb39)])
        | (rw [if_neg hb19, if_neg hb25, if_pos (bi_t hb32)])
        | (rw [if_neg hb19, if_pos hb25])
        | (rw [if_pos hb19])
    · skip
      refine aw_iload_n (pc' := 29) nd_M_goesOn_28 rfl rfl ?_
      refine aw_callS (a := 0) (pc' := 32) (as := [_]) (st := []) nd_M_goesOn_29 rfl nC_5_127 ⟨(Nat.le_of_ble_eq_true rfl), rfl, rfl⟩ (Nat.le_of_ble_eq_true rfl) (Nat.le_of_ble_eq_true rfl) (Nat.le_of_ble_eq_true rfl) ?_
      refine c_M_isLetter ?_
      show nW _ _ _ _ _ 32 _ [_] _ _ _
      refine aw_if_ne (pc' := 35) (tg := 42) nd_M_goesOn_32 (by decide) rfl (fun hb32 => ?_) (fun hb32 => ?_)
      · skip
        refine aw_iconst (pc' := 43) (x := 0) nd_M_goesOn_42 rfl (by decide) ?_
        refine aw_ireturn nd_M_goesOn_43 rfl (by first | rfl | assumption) (Nat.le_of_ble_eq_true rfl) (Nat.le_of_ble_eq_true rfl) ?_
        refine hq0 ?_
        unfold yGo
        rw [if_neg h1]
        first
          | (rw [if_neg hb19, if_neg hb25, if_neg (by rw [bi_f hb32]; decide), if_pos (bi_t hb39)])
          | (rw [if_neg hb19, if_neg hb25, if_pos (bi_t hb32)])
          | (rw [if_neg hb19, if_pos hb25])
          | (rw [if_pos hb19])
      · skip
        refine aw_iload_n (pc' := 36) nd_M_goesOn_35 rfl rfl ?_
        refine aw_callS (a := 0) (pc' := 39) (as := [_]) (st := []) nd_M_goesOn_36 rfl nC_5_131 ⟨(Nat.le_of_ble_eq_true rfl), rfl, rfl⟩ (Nat.le_of_ble_eq_true rfl) (Nat.le_of_ble_eq_true rfl) (Nat.le_of_ble_eq_true rfl) ?_
        refine c_M_isDigit ?_
        show nW _ _ _ _ _ 39 _ [_] _ _ _
        refine aw_if_eq (pc' := 42) (tg := 44) nd_M_goesOn_39 (by decide) rfl (fun hb39 => ?_) (fun hb39 => ?_)
        · skip
          exact l_M_goesOn44 h hy hs hb1 hb2 hb3 h1 hb19 hb25 (by rw [bi_f hb32]; decide) (by rw [bi_f hb39]; decide) hq1 hq0
        · skip
          refine aw_iconst (pc' := 43) (x := 0) nd_M_goesOn_42 rfl (by decide) ?_
          refine aw_ireturn nd_M_goesOn_43 rfl (by first | rfl | assumption) (Nat.le_of_ble_eq_true rfl) (Nat.le_of_ble_eq_true rfl) ?_
          refine hq0 ?_
          unfold yGo
          rw [if_neg h1]
          first
            | (rw [if_neg hb19, if_neg hb25, if_neg (by rw [bi_f hb32]; decide), if_pos (bi_t hb39)])
            | (rw [if_neg hb19, if_neg hb25, if_pos (bi_t hb32)])
            | (rw [if_neg hb19, if_pos hb25])
            | (rw [if_pos hb19])

theorem c_M_goesOn {L : Nat} {xs : Nat → Int32} {d : Nat} {Q : ax_Q} {μ0 μ : nMem} {sg cd : yG} {c : Int32} (h : YS μ0 μ sg cd) (hy : YB sg cd.length) (hs : sg.length < 64) (hb1 : ∀ l : Int32, ¬ l < 0 → (yS l sg cd).2.length < 40) (hb2 : (yCl sg cd).2.length < 40) (hb3 : ∀ x m sg1, (yCl sg cd).1 = (x, m) :: sg1 → (yS 3 sg1 (yCl sg cd).2).2.length ≤ 40) (hq1 : ∀ μ' r, yGo c sg cd = some r → YS μ0 μ' r.1 r.2 → Q (some (.int 1)) (ns_rep μ')) (hq0 : yGo c sg cd = none → Q (some (.int 0)) (ns_rep μ)) : nM L xs (d + 4) 45 [.ref 104, .int c] (ns_rep μ) Q := by
  refine nM.of ns_I_M_goesOn rfl (ls := [_, _]) (Nat.le_of_ble_eq_true rfl) rfl ?_
  refine aw_iload_n (pc' := 1) nd_M_goesOn_0 rfl rfl ?_
  refine aw_callS (a := 0) (pc' := 4) (as := [_]) (st := []) nd_M_goesOn_1 rfl nC_5_143 ⟨(Nat.le_of_ble_eq_true rfl), rfl, rfl⟩ (Nat.le_of_ble_eq_true rfl) (Nat.le_of_ble_eq_true rfl) (Nat.le_of_ble_eq_true rfl) ?_
  refine c_M_rank ?_
  show nW _ _ _ _ _ 4 _ [_] _ _ _
  refine aw_if_ne (pc' := 7) (tg := 14) nd_M_goesOn_4 (by decide) rfl (fun hb4 => ?_) (fun hb4 => ?_)
  · skip
    first
      | exact l_M_goesOn14 h hy hs hb1 hb2 hb3 (fun z => hb4 z.1) hq1 hq0
      | exact l_M_goesOn14 h hy hs hb1 hb2 hb3 (fun z => by rw [bi_f hb11] at z; exact absurd z.2 (by decide)) hq1 hq0
  · skip
    refine aw_aload_n (pc' := 8) nd_M_goesOn_7 rfl rfl rfl ?_
    refine aw_callV (pc' := 11) (as := []) (st := []) nd_M_goesOn_8 rfl nC_5_165 ⟨(Nat.le_of_ble_eq_true rfl), rfl, rfl⟩ ns_ioM (Nat.le_of_ble_eq_true rfl) (Nat.le_of_ble_eq_true rfl) (Nat.le_of_ble_eq_true rfl) ?_
    refine c_M_compared h.2.1.1 h.rg (by omega) ?_
    show nW _ _ _ _ _ 11 _ [_] _ _ _
    refine aw_if_ne (pc' := 14) (tg := 42) nd_M_goesOn_11 (by decide) rfl (fun hb11 => ?_) (fun hb11 => ?_)
    · skip
      refine aw_iconst (pc' := 43) (x := 0) nd_M_goesOn_42 rfl (by decide) ?_
      refine aw_ireturn nd_M_goesOn_43 rfl (by first | rfl | assumption) (Nat.le_of_ble_eq_true rfl) (Nat.le_of_ble_eq_true rfl) ?_
      refine hq0 ?_
      unfold yGo
      rw [if_pos ⟨hb4, bi_t hb11⟩]
    · skip
      first
        | exact l_M_goesOn14 h hy hs hb1 hb2 hb3 (fun z => hb4 z.1) hq1 hq0
        | exact l_M_goesOn14 h hy hs hb1 hb2 hb3 (fun z => by rw [bi_f hb11] at z; exact absurd z.2 (by decide)) hq1 hq0

