/-! the model's parser: fault's loop -/
theorem l_M_fault136 {L : Nat} {xs : Nat → Int32} {d : Nat} {Q : ax_Q} {μ : nMem} {u op : Bool} {c : Int32} {n k : Nat} {w : Option Value} (kk : nW L xs (d + 4) ns_I_M_fault Q 14 [some (.ref 104), some (.int (bi (if u = true then op else if c = 41 then false else true))), some (.int (nI k)), some (.int c), some (.int (bi op)), w] [] 0 0 (ns_rep μ)) : nW L xs (d + 4) ns_I_M_fault Q 136 [some (.ref 104), some (.int (bi u)), some (.int (nI k)), some (.int c), some (.int (bi op)), w] [] 0 0 (ns_rep μ) := by
  refine aw_iload_n (pc' := 137) nd_M_fault_136 rfl rfl ?_
  refine aw_if_eq (pc' := 140) (tg := 145) nd_M_fault_137 (by decide) rfl (fun hb137 => ?_) (fun hb137 => ?_)
  · skip
    refine aw_iload_n (pc' := 146) nd_M_fault_145 rfl rfl ?_
    refine aw_bipush (pc' := 148) (x := 41) nd_M_fault_146 rfl (by decide) ?_
    refine aw_icmp_eq (pc' := 151) (tg := 155) nd_M_fault_148 (by decide) rfl (fun hb148 => ?_) (fun hb148 => ?_)
    · skip
      refine aw_iconst (pc' := 156) (x := 0) nd_M_fault_155 rfl (by decide) ?_
      refine aw_istore_n (pc' := 157) (ls' := [_, _, _, _, _, _]) nd_M_fault_156 rfl (Nat.le_of_ble_eq_true rfl) rfl ?_
      refine aw_goto (pc' := 14) nd_M_fault_157 (by decide) ?_
      first
        | (rw [if_pos (bi_t hb137)] at kk; exact kk)
        | (rw [if_neg (by rw [bi_f hb137]; decide), if_pos hb148] at kk; exact kk)
        | (rw [if_neg (by rw [bi_f hb137]; decide), if_neg hb148] at kk; exact kk)
    · skip
      refine aw_iconst (pc' := 152) (x := 1) nd_M_fault_151 rfl (by decide) ?_
      refine aw_goto (pc' := 156) nd_M_fault_152 (by decide) ?_
      refine aw_istore_n (pc' := 157) (ls' := [_, _, _, _, _, _]) nd_M_fault_156 rfl (Nat.le_of_ble_eq_true rfl) rfl ?_
      refine aw_goto (pc' := 14) nd_M_fault_157 (by decide) ?_
      first
        | (rw [if_pos (bi_t hb137)] at kk; exact kk)
        | (rw [if_neg (by rw [bi_f hb137]; decide), if_pos hb148] at kk; exact kk)
        | (rw [if_neg (by rw [bi_f hb137]; decide), if_neg hb148] at kk; exact kk)
  · skip
    refine aw_iload (pc' := 142) nd_M_fault_140 rfl rfl ?_
    refine aw_goto (pc' := 156) nd_M_fault_142 (by decide) ?_
    refine aw_istore_n (pc' := 157) (ls' := [_, _, _, _, _, _]) nd_M_fault_156 rfl (Nat.le_of_ble_eq_true rfl) rfl ?_
    refine aw_goto (pc' := 14) nd_M_fault_157 (by decide) ?_
    first
      | (rw [if_pos (bi_t hb137)] at kk; exact kk)
      | (rw [if_neg (by rw [bi_f hb137]; decide), if_pos hb148] at kk; exact kk)
      | (rw [if_neg (by rw [bi_f hb137]; decide), if_neg hb148] at kk; exact kk)

theorem l_M_fault84 {L : Nat} {xs : Nat → Int32} {d : Nat} {Q : ax_Q} {μ : nMem} {u op : Bool} {c : Int32} {n k : Nat} {w : Option Value} (hn : μ.1 104 2 = nI n) (hn30 : n ≤ 30) (hk : k < n) (kk : ∀ w, nW L xs (d + 4) ns_I_M_fault Q 136 [some (.ref 104), some (.int (bi u)), some (.int (nI (yNx (μ.1 105) n u c (k + 1)))), some (.int c), some (.int (bi op)), w] [] 0 0 (ns_rep μ)) : nW L xs (d + 4) ns_I_M_fault Q 84 [some (.ref 104), some (.int (bi u)), some (.int (nI k)), some (.int c), some (.int (bi op)), w] [] 0 0 (ns_rep μ) := by
  unfold yNx at kk
  refine aw_iinc (pc' := 87) (ls' := [_, _, _, _, _, _]) nd_M_fault_84 rfl rfl (nI_1 k) rfl ?_
  refine aw_iconst (pc' := 88) (x := 1) nd_M_fault_87 rfl (by decide) ?_
  refine aw_istore (pc' := 90) (ls' := [_, _, _, _, _, _]) nd_M_fault_88 rfl (Nat.le_of_ble_eq_true rfl) rfl ?_
  by_cases hcc : u = true ∧ isDig c = true
  · rw [if_pos hcc] at kk
    exact l_M_fault90 hn hn30 hcc.1 hcc.2 3 (k + 1) 1 (by omega) (by omega) kk
  · rw [if_neg hcc] at kk
    exact l_M_fault90n (n := n) hcc (kk _)

theorem l_M_fault58 {L : Nat} {xs : Nat → Int32} {d : Nat} {Q : ax_Q} {μ0 μ : nMem} {u op : Bool} {c : Int32} {n k : Nat} {sg cd : yG} (h : YS μ0 μ sg cd) (hI : YI k sg cd) (hn : μ.1 104 2 = nI n) (hn30 : n ≤ 30) (hk : k < n) {w : Option Value} (hq0 : (if u = true then yBeg (μ.1 105) n c k sg cd else yGo c sg cd) = none → Q (some (.int (nI k))) (ns_rep μ)) (kk : ∀ r μ', (if u = true then yBeg (μ.1 105) n c k sg cd else yGo c sg cd) = some r → YS μ0 μ' r.1 r.2 → ∀ w, nW L xs (d + 4) ns_I_M_fault Q 84 [some (.ref 104), some (.int (bi u)), some (.int (nI k)), some (.int c), some (.int (bi op)), w] [] 0 0 (ns_rep μ')) : nW L xs (d + 4) ns_I_M_fault Q 58 [some (.ref 104), some (.int (bi u)), some (.int (nI k)), some (.int c), some (.int (bi op)), w] [] 0 0 (ns_rep μ) := by
  refine aw_iload_n (pc' := 59) nd_M_fault_58 rfl rfl ?_
  refine aw_if_eq (pc' := 62) (tg := 74) nd_M_fault_59 (by decide) rfl (fun hb59 => ?_) (fun hb59 => ?_)
  · skip
    refine aw_aload_n (pc' := 75) nd_M_fault_74 rfl rfl rfl ?_
    refine aw_iload_n (pc' := 76) nd_M_fault_75 rfl rfl ?_
    refine aw_callV (pc' := 79) (as := [_]) (st := []) nd_M_fault_76 rfl nC_5_179 ⟨(Nat.le_of_ble_eq_true rfl), rfl, rfl⟩ ns_ioM (Nat.le_of_ble_eq_true rfl) (Nat.le_of_ble_eq_true rfl) (Nat.le_of_ble_eq_true rfl) ?_
    refine c_M_goesOn h hI.2.2 (by have := hI.1; omega) (fun l hl => by have := yS_sum hl sg cd; have := hI.2.1; omega) (by have := yCl_sum sg cd; have := hI.2.1; omega) (fun x m sg1 e => by have h1 := hI.close; rw [e] at h1; have h2 := yS_sum (l := 3) (by decide) sg1 (yCl sg cd).2; have h3 := h1.2.1; rw [yO_cons] at h3; omega) (fun μ' r e h' => ?_) (fun e => ?_)
    · show nW _ _ _ _ _ 79 _ [_] _ _ _
      refine aw_if_ne (pc' := 82) (tg := 84) nd_M_fault_79 (by decide) rfl (fun _ => ?_) (fun hx => absurd hx (by decide))
      first
        | exact kk r μ' (by rw [if_pos (bi_t hb59)]; exact e) h' _
        | exact kk r μ' (by rw [if_neg (by rw [bi_f hb59]; decide)]; exact e) h' _
    · show nW _ _ _ _ _ 79 _ [_] _ _ _
      refine aw_if_ne (pc' := 82) (tg := 84) nd_M_fault_79 (by decide) rfl (fun hx => absurd rfl hx) (fun _ => ?_)
      refine aw_iload_n (pc' := 83) nd_M_fault_82 rfl rfl ?_
      refine aw_ireturn nd_M_fault_83 rfl rfl (Nat.le_of_ble_eq_true rfl) (Nat.le_of_ble_eq_true rfl) ?_
      first
        | exact hq0 (by rw [if_pos (bi_t hb59)]; exact e)
        | exact hq0 (by rw [if_neg (by rw [bi_f hb59]; decide)]; exact e)
  · skip
    refine aw_aload_n (pc' := 63) nd_M_fault_62 rfl rfl rfl ?_
    refine aw_iload_n (pc' := 64) nd_M_fault_63 rfl rfl ?_
    refine aw_iload_n (pc' := 65) nd_M_fault_64 rfl rfl ?_
    refine aw_callV (pc' := 68) (as := [_, _]) (st := []) nd_M_fault_65 rfl nC_5_175 ⟨(Nat.le_of_ble_eq_true rfl), rfl, rfl⟩ ns_ioM (Nat.le_of_ble_eq_true rfl) (Nat.le_of_ble_eq_true rfl) (Nat.le_of_ble_eq_true rfl) ?_
    refine c_M_begin (n := n) h (by have := hI.2.1; omega) (by have := hI.1; omega) (fun x => by have := yS_sum (l := 3) (by decide) sg (cd ++ [x]); rw [List.length_append, List.length_singleton] at this; have := hI.2.1; omega) hn hn30 hk (fun μ' r e h' => ?_) (fun e => ?_)
    · show nW _ _ _ _ _ 68 _ [_] _ _ _
      refine aw_if_ne (pc' := 71) (tg := 84) nd_M_fault_68 (by decide) rfl (fun _ => ?_) (fun hx => absurd hx (by decide))
      first
        | exact kk r μ' (by rw [if_pos (bi_t hb59)]; exact e) h' _
        | exact kk r μ' (by rw [if_neg (by rw [bi_f hb59]; decide)]; exact e) h' _
    · show nW _ _ _ _ _ 68 _ [_] _ _ _
      refine aw_if_ne (pc' := 71) (tg := 84) nd_M_fault_68 (by decide) rfl (fun hx => absurd rfl hx) (fun _ => ?_)
      refine aw_goto (pc' := 82) nd_M_fault_71 (by decide) ?_
      refine aw_iload_n (pc' := 83) nd_M_fault_82 rfl rfl ?_
      refine aw_ireturn nd_M_fault_83 rfl rfl (Nat.le_of_ble_eq_true rfl) (Nat.le_of_ble_eq_true rfl) ?_
      first
        | exact hq0 (by rw [if_pos (bi_t hb59)]; exact e)
        | exact hq0 (by rw [if_neg (by rw [bi_f hb59]; decide)]; exact e)

theorem YI.le {k k' : Nat} {sg cd : yG} (h : YI k sg cd) (hk : k ≤ k') : YI k' sg cd := ⟨Nat.le_trans h.1 hk, Nat.le_trans h.2.1 hk, h.2.2⟩
theorem YS.fr {μ0 μ : nMem} {sg cd : yG} (h : YS μ0 μ sg cd) : μ.1 104 2 = μ0.1 104 2 ∧ μ.1 105 = μ0.1 105 := ⟨h.1.2.1 2 (by decide) (by decide), h.1.1 105 (by decide) (by decide) (by decide) (by decide) (by decide)⟩
theorem yNx_le (t : Nat → Int32) {n i : Nat} (u : Bool) (c : Int32) (h : i ≤ n) : i ≤ yNx t n u c i ∧ yNx t n u c i ≤ n := by
  unfold yNx
  split
  · exact ynd_le t n 3 i h
  · exact ⟨Nat.le_refl _, h⟩
theorem l_M_fault58b {L : Nat} {xs : Nat → Int32} {d : Nat} {Q : ax_Q} {μ0 μ : nMem} {u op : Bool} {c : Int32} {n k : Nat} {sg cd : yG} (h : YS μ0 μ sg cd) (hI : YI k sg cd) (hn : μ.1 104 2 = nI n) (hn30 : n ≤ 30) (hk : k < n) {w : Option Value} (hop : u = true → op = yOpn c) (hq0 : (if u = true then yBeg (μ.1 105) n c k sg cd else yGo c sg cd) = none → Q (some (.int (nI k))) (ns_rep μ)) (kk : ∀ r μ' w3 w4 w5, (if u = true then yBeg (μ.1 105) n c k sg cd else yGo c sg cd) = some r → YS μ0 μ' r.1 r.2 → nW L xs (d + 4) ns_I_M_fault Q 14 [some (.ref 104), some (.int (bi (if u = true then yOpn c else if c = 41 then false else true))), some (.int (nI (yNx (μ.1 105) n u c (k + 1)))), w3, w4, w5] [] 0 0 (ns_rep μ')) : nW L xs (d + 4) ns_I_M_fault Q 58 [some (.ref 104), some (.int (bi u)), some (.int (nI k)), some (.int c), some (.int (bi op)), w] [] 0 0 (ns_rep μ) := by
  refine l_M_fault58 h hI hn hn30 hk hq0 (fun r μ' e h' w => ?_)
  have f0 := h.fr
  have f1 := h'.fr
  refine l_M_fault84 (n := n) (by rw [f1.1, ← f0.1]; exact hn) hn30 hk (fun w => l_M_fault136 (n := n) ?_)
  have z := kk r μ' (some (.int c)) (some (.int (bi op))) w e h'
  rw [f1.2, ← f0.2]
  have eq : (if u = true then op else if c = 41 then false else true) = (if u = true then yOpn c else if c = 41 then false else true) := by
    by_cases hu : u = true
    · rw [if_pos hu, if_pos hu, hop hu]
    · rw [if_neg hu, if_neg hu]
  rw [eq]
  exact z

theorem l_M_fault14 {L : Nat} {xs : Nat → Int32} {d : Nat} {Q : ax_Q} {μ0 : nMem} {n : Nat} (hn0 : μ0.1 104 2 = nI n) (hn30 : n ≤ 30) : ∀ (f : Nat) (u : Bool) (k : Nat) (sg cd : yG) (μ : nMem) (w3 w4 w5 : Option Value), n - k < f → k ≤ n → YI k sg cd → YS μ0 μ sg cd → (∀ μ' j sg' cd', yRun (μ0.1 105) n f u k sg cd = .inl j → YS μ0 μ' sg' cd' → Q (some (.int (nI j))) (ns_rep μ')) → (∀ μ' sg' cd', yRun (μ0.1 105) n f u k sg cd = .inr cd' → YS μ0 μ' sg' cd' → Q (some (.int (-1))) (ns_rep μ')) → nW L xs (d + 4) ns_I_M_fault Q 14 [some (.ref 104), some (.int (bi u)), some (.int (nI k)), w3, w4, w5] [] 0 0 (ns_rep μ) := by
  intro f
  induction f with
  | zero => intro u k sg cd μ w3 w4 w5 hf; omega
  | succ f ih =>
    intro u k sg cd μ w3 w4 w5 hf hkn0 hI h hq1 hq2
    have fr := h.fr
    have hn : μ.1 104 2 = nI n := fr.1.trans hn0
    by_cases hkn : k < n
    · skip
      refine aw_iload_n (pc' := 15) nd_M_fault_14 rfl rfl ?_
      refine aw_aload_n (pc' := 16) nd_M_fault_15 rfl rfl rfl ?_
      refine aw_get (pc' := 19) nd_M_fault_16 rfl nF_5_134 g_M_length ?_
      refine aw_icmp_ge (pc' := 22) (tg := 160) nd_M_fault_19 (by decide) rfl (fun hx => absurd hx (by rw [hn]; exact nI_ge hkn (by omega))) (fun _ => ?_)
      refine aw_aload_n (pc' := 23) nd_M_fault_22 rfl rfl rfl ?_
      refine aw_get (pc' := 26) nd_M_fault_23 rfl nF_5_7 g_M_pad ?_
      refine aw_iload_n (pc' := 27) nd_M_fault_26 rfl rfl ?_
      refine aw_iald (pc' := 28) nd_M_fault_27 rfl ga_Mpad k rfl (by omega) ?_
      refine aw_istore_n (pc' := 29) (ls' := [_, _, _, _, _, _]) nd_M_fault_28 rfl (Nat.le_of_ble_eq_true rfl) rfl ?_
      refine aw_iload_n (pc' := 30) nd_M_fault_29 rfl rfl ?_
      refine aw_if_eq (pc' := 33) (tg := 55) nd_M_fault_30 (by decide) rfl (fun hb30 => ?_) (fun hb30 => ?_)
      · skip
        refine aw_iconst (pc' := 56) (x := 0) nd_M_fault_55 rfl (by decide) ?_
        refine aw_istore (pc' := 58) (ls' := [_, _, _, _, _, _]) nd_M_fault_56 rfl (Nat.le_of_ble_eq_true rfl) rfl ?_
        refine l_M_fault58b (op := false) h hI hn hn30 hkn (fun z => by rw [bi_f hb30] at z; cases z) (fun e => hq1 μ k sg cd ?_ h) (fun r μ' w3 w4 w5 e h' => ?_)
        · rw [yRun, if_pos hkn, ← fr.2, e]
        · have hx := yNx_le (μ.1 105) u (μ.1 105 k) (show k + 1 ≤ n by omega)
          have hI1 : YI (k + 1) r.1 r.2 := by
            by_cases hu : u = true
            · rw [if_pos hu] at e; exact hI.beg e
            · rw [if_neg hu] at e; exact hI.go e
          have hR : yRun (μ0.1 105) n (f + 1) u k sg cd = yRun (μ0.1 105) n f (if u = true then yOpn (μ.1 105 k) else if μ.1 105 k = 41 then false else true) (yNx (μ.1 105) n u (μ.1 105 k) (k + 1)) r.1 r.2 := by
            rw [yRun, if_pos hkn, ← fr.2, e]
          rw [hR] at hq1 hq2
          exact ih _ _ _ _ _ _ _ _ (by omega) hx.2 (hI1.le hx.1) h' hq1 hq2
      · skip
        refine aw_iload_n (pc' := 34) nd_M_fault_33 rfl rfl ?_
        refine aw_bipush (pc' := 36) (x := 40) nd_M_fault_34 rfl (by decide) ?_
        refine aw_icmp_eq (pc' := 39) (tg := 51) nd_M_fault_36 (by decide) rfl (fun hb36 => ?_) (fun hb36 => ?_)
        · skip
          refine aw_iconst (pc' := 52) (x := 1) nd_M_fault_51 rfl (by decide) ?_
          refine aw_goto (pc' := 56) nd_M_fault_52 (by decide) ?_
          refine aw_istore (pc' := 58) (ls' := [_, _, _, _, _, _]) nd_M_fault_56 rfl (Nat.le_of_ble_eq_true rfl) rfl ?_
          refine l_M_fault58b (op := true) h hI hn hn30 hkn (fun _ => (by rw [yOpn, if_pos hb36])) (fun e => hq1 μ k sg cd ?_ h) (fun r μ' w3 w4 w5 e h' => ?_)
          · rw [yRun, if_pos hkn, ← fr.2, e]
          · have hx := yNx_le (μ.1 105) u (μ.1 105 k) (show k + 1 ≤ n by omega)
            have hI1 : YI (k + 1) r.1 r.2 := by
              by_cases hu : u = true
              · rw [if_pos hu] at e; exact hI.beg e
              · rw [if_neg hu] at e; exact hI.go e
            have hR : yRun (μ0.1 105) n (f + 1) u k sg cd = yRun (μ0.1 105) n f (if u = true then yOpn (μ.1 105 k) else if μ.1 105 k = 41 then false else true) (yNx (μ.1 105) n u (μ.1 105 k) (k + 1)) r.1 r.2 := by
              rw [yRun, if_pos hkn, ← fr.2, e]
            rw [hR] at hq1 hq2
            exact ih _ _ _ _ _ _ _ _ (by omega) hx.2 (hI1.le hx.1) h' hq1 hq2
        · skip
          refine aw_iload_n (pc' := 40) nd_M_fault_39 rfl rfl ?_
          refine aw_bipush (pc' := 42) (x := 45) nd_M_fault_40 rfl (by decide) ?_
          refine aw_icmp_eq (pc' := 45) (tg := 51) nd_M_fault_42 (by decide) rfl (fun hb42 => ?_) (fun hb42 => ?_)
          · skip
            refine aw_iconst (pc' := 52) (x := 1) nd_M_fault_51 rfl (by decide) ?_
            refine aw_goto (pc' := 56) nd_M_fault_52 (by decide) ?_
            refine aw_istore (pc' := 58) (ls' := [_, _, _, _, _, _]) nd_M_fault_56 rfl (Nat.le_of_ble_eq_true rfl) rfl ?_
            refine l_M_fault58b (op := true) h hI hn hn30 hkn (fun _ => (by rw [yOpn, if_neg hb36, if_pos hb42])) (fun e => hq1 μ k sg cd ?_ h) (fun r μ' w3 w4 w5 e h' => ?_)
            · rw [yRun, if_pos hkn, ← fr.2, e]
            · have hx := yNx_le (μ.1 105) u (μ.1 105 k) (show k + 1 ≤ n by omega)
              have hI1 : YI (k + 1) r.1 r.2 := by
                by_cases hu : u = true
                · rw [if_pos hu] at e; exact hI.beg e
                · rw [if_neg hu] at e; exact hI.go e
              have hR : yRun (μ0.1 105) n (f + 1) u k sg cd = yRun (μ0.1 105) n f (if u = true then yOpn (μ.1 105 k) else if μ.1 105 k = 41 then false else true) (yNx (μ.1 105) n u (μ.1 105 k) (k + 1)) r.1 r.2 := by
                rw [yRun, if_pos hkn, ← fr.2, e]
              rw [hR] at hq1 hq2
              exact ih _ _ _ _ _ _ _ _ (by omega) hx.2 (hI1.le hx.1) h' hq1 hq2
          · skip
            refine aw_iload_n (pc' := 46) nd_M_fault_45 rfl rfl ?_
            refine aw_bipush (pc' := 48) (x := 64) nd_M_fault_46 rfl (by decide) ?_
            refine aw_icmp_ne (pc' := 51) (tg := 55) nd_M_fault_48 (by decide) rfl (fun hb48 => ?_) (fun hb48 => ?_)
            · skip
              refine aw_iconst (pc' := 56) (x := 0) nd_M_fault_55 rfl (by decide) ?_
              refine aw_istore (pc' := 58) (ls' := [_, _, _, _, _, _]) nd_M_fault_56 rfl (Nat.le_of_ble_eq_true rfl) rfl ?_
              refine l_M_fault58b (op := false) h hI hn hn30 hkn (fun _ => (by rw [yOpn, if_neg hb36, if_neg hb42, if_neg hb48])) (fun e => hq1 μ k sg cd ?_ h) (fun r μ' w3 w4 w5 e h' => ?_)
              · rw [yRun, if_pos hkn, ← fr.2, e]
              · have hx := yNx_le (μ.1 105) u (μ.1 105 k) (show k + 1 ≤ n by omega)
                have hI1 : YI (k + 1) r.1 r.2 := by
                  by_cases hu : u = true
                  · rw [if_pos hu] at e; exact hI.beg e
                  · rw [if_neg hu] at e; exact hI.go e
                have hR : yRun (μ0.1 105) n (f + 1) u k sg cd = yRun (μ0.1 105) n f (if u = true then yOpn (μ.1 105 k) else if μ.1 105 k = 41 then false else true) (yNx (μ.1 105) n u (μ.1 105 k) (k + 1)) r.1 r.2 := by
                  rw [yRun, if_pos hkn, ← fr.2, e]
                rw [hR] at hq1 hq2
                exact ih _ _ _ _ _ _ _ _ (by omega) hx.2 (hI1.le hx.1) h' hq1 hq2
            · skip
              refine aw_iconst (pc' := 52) (x := 1) nd_M_fault_51 rfl (by decide) ?_
              refine aw_goto (pc' := 56) nd_M_fault_52 (by decide) ?_
              refine aw_istore (pc' := 58) (ls' := [_, _, _, _, _, _]) nd_M_fault_56 rfl (Nat.le_of_ble_eq_true rfl) rfl ?_
              refine l_M_fault58b (op := true) h hI hn hn30 hkn (fun _ => (by rw [yOpn, if_neg hb36, if_neg hb42, if_pos hb48])) (fun e => hq1 μ k sg cd ?_ h) (fun r μ' w3 w4 w5 e h' => ?_)
              · rw [yRun, if_pos hkn, ← fr.2, e]
              · have hx := yNx_le (μ.1 105) u (μ.1 105 k) (show k + 1 ≤ n by omega)
                have hI1 : YI (k + 1) r.1 r.2 := by
                  by_cases hu : u = true
                  · rw [if_pos hu] at e; exact hI.beg e
                  · rw [if_neg hu] at e; exact hI.go e
                have hR : yRun (μ0.1 105) n (f + 1) u k sg cd = yRun (μ0.1 105) n f (if u = true then yOpn (μ.1 105 k) else if μ.1 105 k = 41 then false else true) (yNx (μ.1 105) n u (μ.1 105 k) (k + 1)) r.1 r.2 := by
                  rw [yRun, if_pos hkn, ← fr.2, e]
                rw [hR] at hq1 hq2
                exact ih _ _ _ _ _ _ _ _ (by omega) hx.2 (hI1.le hx.1) h' hq1 hq2
    · skip
      refine aw_iload_n (pc' := 15) nd_M_fault_14 rfl rfl ?_
      refine aw_aload_n (pc' := 16) nd_M_fault_15 rfl rfl rfl ?_
      refine aw_get (pc' := 19) nd_M_fault_16 rfl nF_5_134 g_M_length ?_
      refine aw_icmp_ge (pc' := 22) (tg := 160) nd_M_fault_19 (by decide) rfl (fun _ => ?_) (fun hx => absurd (by rw [hn]; exact nI_le (by omega) (by omega)) hx)
      refine aw_iload_n (pc' := 161) nd_M_fault_160 rfl rfl ?_
      refine aw_if_ne (pc' := 164) (tg := 171) nd_M_fault_161 (by decide) rfl (fun hb161 => ?_) (fun hb161 => ?_)
      · skip
        refine aw_aload_n (pc' := 172) nd_M_fault_171 rfl rfl rfl ?_
        refine aw_get (pc' := 175) nd_M_fault_172 rfl nF_5_134 g_M_length ?_
        rw [hn]
        refine aw_ireturn nd_M_fault_175 rfl rfl (Nat.le_of_ble_eq_true rfl) (Nat.le_of_ble_eq_true rfl) ?_
        first
          | exact hq1 μ n sg cd (by rw [yRun, if_neg hkn, if_neg (by rw [bi_f hb161]; decide), if_neg hb168]) h
          | exact hq1 μ n sg cd (by rw [yRun, if_neg hkn, if_pos (bi_t hb161)]) h
      · skip
        refine aw_aload_n (pc' := 165) nd_M_fault_164 rfl rfl rfl ?_
        refine aw_callV (pc' := 168) (as := []) (st := []) nd_M_fault_165 rfl nC_5_169 ⟨(Nat.le_of_ble_eq_true rfl), rfl, rfl⟩ ns_ioM (Nat.le_of_ble_eq_true rfl) (Nat.le_of_ble_eq_true rfl) (Nat.le_of_ble_eq_true rfl) ?_
        refine c_M_awaits h.2.1.1 h.rg (by have := hI.1; omega) ?_
        show nW _ _ _ _ _ 168 _ [_] _ _ _
        refine aw_if_eq (pc' := 171) (tg := 176) nd_M_fault_168 (by decide) rfl (fun hb168 => ?_) (fun hb168 => ?_)
        · skip
          refine aw_aload_n (pc' := 177) nd_M_fault_176 rfl rfl rfl ?_
          refine aw_callV (pc' := 180) (as := []) (st := []) nd_M_fault_177 rfl nC_5_172 ⟨(Nat.le_of_ble_eq_true rfl), rfl, rfl⟩ ns_ioM (Nat.le_of_ble_eq_true rfl) (Nat.le_of_ble_eq_true rfl) (Nat.le_of_ble_eq_true rfl) ?_
          refine c_M_close h hI.2.2 (by have := yCl_sum sg cd; have := hI.2.1; omega) (by have := hI.1; omega) ?_
          intro μ' h'
          show nW _ _ _ _ _ 180 _ [] _ _ _
          refine aw_iconst (pc' := 181) (x := -1) nd_M_fault_180 rfl (by decide) ?_
          refine aw_ireturn nd_M_fault_181 rfl rfl (Nat.le_of_ble_eq_true rfl) (Nat.le_of_ble_eq_true rfl) ?_
          exact hq2 μ' _ _ (by rw [yRun, if_neg hkn, if_neg (by rw [bi_f hb161]; decide), if_pos hb168]) h'
        · skip
          refine aw_aload_n (pc' := 172) nd_M_fault_171 rfl rfl rfl ?_
          refine aw_get (pc' := 175) nd_M_fault_172 rfl nF_5_134 g_M_length ?_
          rw [hn]
          refine aw_ireturn nd_M_fault_175 rfl rfl (Nat.le_of_ble_eq_true rfl) (Nat.le_of_ble_eq_true rfl) ?_
          first
            | exact hq1 μ n sg cd (by rw [yRun, if_neg hkn, if_neg (by rw [bi_f hb161]; decide), if_neg hb168]) h
            | exact hq1 μ n sg cd (by rw [yRun, if_neg hkn, if_pos (bi_t hb161)]) h
theorem c_M_fault {L : Nat} {xs : Nat → Int32} {d : Nat} {Q : ax_Q} {μ : nMem} {n : Nat} (hn : μ.1 104 2 = nI n) (hn30 : n ≤ 30) (hq1 : ∀ μ' j sg' cd', yRun (μ.1 105) n 31 true 0 [] [] = .inl j → YS μ μ' sg' cd' → Q (some (.int (nI j))) (ns_rep μ')) (hq2 : ∀ μ' sg' cd', yRun (μ.1 105) n 31 true 0 [] [] = .inr cd' → YS μ μ' sg' cd' → Q (some (.int (-1))) (ns_rep μ')) : nM L xs (d + 5) 46 [.ref 104] (ns_rep μ) Q := by
  refine nM.of ns_I_M_fault rfl (ls := [_, _, _, _, _, _]) (Nat.le_of_ble_eq_true rfl) rfl ?_
  refine aw_aload_n (pc' := 1) nd_M_fault_0 rfl rfl rfl ?_
  refine aw_iconst (pc' := 2) (x := 0) nd_M_fault_1 rfl (by decide) ?_
  refine aw_put (pc' := 5) nd_M_fault_2 rfl nF_5_140 trivial p_M_signs ?_
  refine aw_aload_n (pc' := 6) nd_M_fault_5 rfl rfl rfl ?_
  refine aw_iconst (pc' := 7) (x := 0) nd_M_fault_6 rfl (by decide) ?_
  refine aw_put (pc' := 10) nd_M_fault_7 rfl nF_5_137 trivial p_M_made ?_
  refine aw_iconst (pc' := 11) (x := 1) nd_M_fault_10 rfl (by decide) ?_
  refine aw_istore_n (pc' := 12) (ls' := [_, _, _, _, _, _]) nd_M_fault_11 rfl (Nat.le_of_ble_eq_true rfl) rfl ?_
  refine aw_iconst (pc' := 13) (x := 0) nd_M_fault_12 rfl (by decide) ?_
  refine aw_istore_n (pc' := 14) (ls' := [_, _, _, _, _, _]) nd_M_fault_13 rfl (Nat.le_of_ble_eq_true rfl) rfl ?_
  exact l_M_fault14 hn hn30 31 true 0 [] [] _ none none none (by omega) (by omega) ⟨Nat.le_refl _, Nat.le_refl _, fun q hq => by cases hq⟩ YS.start hq1 hq2

