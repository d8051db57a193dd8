/-! the model's small methods -/
theorem nI_mul (a b : Nat) : nI a * nI b = nI (a * b) := (Int32.ofNat_mul a b).symm
theorem nI_lin {c k w : Nat} {x : Int32} (hx : x = nI c) : x * nI k + nI w = nI (c * k + w) := by rw [hx, nI_mul, nI_add]
theorem nz1 : vp_nar .boolean 1 = 1 := by decide
theorem nz0 : vp_nar .boolean 0 = 0 := by decide
def isLetM (x : Int32) : Bool := if x < 65 then false else if 76 < x then false else true
theorem isLetM_eq (x : Int32) : isLetM x = isLet x := by
  have e : (76 < x) = (77 ≤ x) := propext (by
    rw [Int32.lt_iff_toInt_lt, Int32.le_iff_toInt_le]
    show (76 : Int) < _ ↔ (77 : Int) ≤ _
    omega)
  unfold isLetM isLet
  simp only [e]
def rkM (c : Int32) : Int32 := if c = 200 then 3 else if c = 64 then 3 else if c = 42 then 2 else if c = 43 then 1 else if c = 45 then 1 else if c = 60 then 0 else if c = 61 then 0 else -1
def stM (μ : nMem) (k : Nat) : Bool := if μ.1 107 k = 0 then true else if μ.1 117 k = 0 then false else if μ.1 120 k = μ.1 104 3 then true else false
def vcm (μ : nMem) : Nat → Nat
  | 0 => 0
  | i + 1 => vcm μ i + if μ.1 118 i = 0 then 0 else 1
theorem vcm_le (μ : nMem) (i : Nat) : vcm μ i ≤ i := by
  induction i with
  | zero => exact Nat.le_refl _
  | succ i ih => unfold vcm; split <;> omega
/-- the first i places of changes set to v -/
def srm : Nat → nMem → Int32 → nMem
  | 0, m, _ => m
  | i + 1, m, v => ms (srm i m v) 106 i v
theorem srm_o {i : Nat} {m : nMem} {v : Int32} {b : Nat} (h : ¬ b = 106) : (srm i m v).1 b = m.1 b := by
  induction i with
  | zero => rfl
  | succ i ih => rw [srm, ms_o h, ih]
theorem srm_2 {i : Nat} {m : nMem} {v : Int32} : (srm i m v).2 = m.2 := by
  induction i with
  | zero => rfl
  | succ i ih => rw [srm, ms_2, ih]
def srmv (μ : nMem) (j : Nat) : nMem := srm (j + 1) (ms μ 104 3 (μ.1 104 3 + 1)) (μ.1 104 3 + 1)

theorem c_M_isCell {L : Nat} {xs : Nat → Int32} {d : Nat} {Q : ax_Q} {x : Int32} {h : ax_H} (hq : Q (some (.int (bi (ic x)))) h) : nM L xs (d + 1) 31 [.int x] h Q := by
  refine nM.of ns_I_M_isCell rfl (ls := [_]) (Nat.le_of_ble_eq_true rfl) rfl ?_
  refine aw_iload_n (pc' := 1) nd_M_isCell_0 rfl rfl ?_
  refine aw_if_lt (pc' := 4) (tg := 14) nd_M_isCell_1 (by decide) rfl (fun hb1 => ?_) (fun hb1 => ?_)
  · skip
    refine aw_iconst (pc' := 15) (x := 0) nd_M_isCell_14 rfl (by decide) ?_
    refine aw_ireturn nd_M_isCell_15 rfl (by first | rfl | assumption) (Nat.le_of_ble_eq_true rfl) (Nat.le_of_ble_eq_true rfl) ?_
    simpa [ic, bi, *] using hq
  · skip
    refine aw_iload_n (pc' := 5) nd_M_isCell_4 rfl rfl ?_
    refine aw_bipush (pc' := 7) (x := 12) nd_M_isCell_5 rfl (by decide) ?_
    refine aw_icmp_ge (pc' := 10) (tg := 14) nd_M_isCell_7 (by decide) rfl (fun hb7 => ?_) (fun hb7 => ?_)
    · skip
      refine aw_iconst (pc' := 15) (x := 0) nd_M_isCell_14 rfl (by decide) ?_
      refine aw_ireturn nd_M_isCell_15 rfl (by first | rfl | assumption) (Nat.le_of_ble_eq_true rfl) (Nat.le_of_ble_eq_true rfl) ?_
      simpa [ic, bi, *] using hq
    · skip
      refine aw_iconst (pc' := 11) (x := 1) nd_M_isCell_10 rfl (by decide) ?_
      refine aw_goto (pc' := 15) nd_M_isCell_11 (by decide) ?_
      refine aw_ireturn nd_M_isCell_15 rfl (by first | rfl | assumption) (Nat.le_of_ble_eq_true rfl) (Nat.le_of_ble_eq_true rfl) ?_
      simpa [ic, bi, *] using hq

theorem c_M_isLetter {L : Nat} {xs : Nat → Int32} {d : Nat} {Q : ax_Q} {x : Int32} {h : ax_H} (hq : Q (some (.int (bi (isLetM x)))) h) : nM L xs (d + 1) 32 [.int x] h Q := by
  refine nM.of ns_I_M_isLetter rfl (ls := [_]) (Nat.le_of_ble_eq_true rfl) rfl ?_
  refine aw_iload_n (pc' := 1) nd_M_isLetter_0 rfl rfl ?_
  refine aw_bipush (pc' := 3) (x := 65) nd_M_isLetter_1 rfl (by decide) ?_
  refine aw_icmp_lt (pc' := 6) (tg := 16) nd_M_isLetter_3 (by decide) rfl (fun hb3 => ?_) (fun hb3 => ?_)
  · skip
    refine aw_iconst (pc' := 17) (x := 0) nd_M_isLetter_16 rfl (by decide) ?_
    refine aw_ireturn nd_M_isLetter_17 rfl (by first | rfl | assumption) (Nat.le_of_ble_eq_true rfl) (Nat.le_of_ble_eq_true rfl) ?_
    simpa [isLetM, bi, *] using hq
  · skip
    refine aw_iload_n (pc' := 7) nd_M_isLetter_6 rfl rfl ?_
    refine aw_bipush (pc' := 9) (x := 76) nd_M_isLetter_7 rfl (by decide) ?_
    refine aw_icmp_gt (pc' := 12) (tg := 16) nd_M_isLetter_9 (by decide) rfl (fun hb9 => ?_) (fun hb9 => ?_)
    · skip
      refine aw_iconst (pc' := 17) (x := 0) nd_M_isLetter_16 rfl (by decide) ?_
      refine aw_ireturn nd_M_isLetter_17 rfl (by first | rfl | assumption) (Nat.le_of_ble_eq_true rfl) (Nat.le_of_ble_eq_true rfl) ?_
      simpa [isLetM, bi, *] using hq
    · skip
      refine aw_iconst (pc' := 13) (x := 1) nd_M_isLetter_12 rfl (by decide) ?_
      refine aw_goto (pc' := 17) nd_M_isLetter_13 (by decide) ?_
      refine aw_ireturn nd_M_isLetter_17 rfl (by first | rfl | assumption) (Nat.le_of_ble_eq_true rfl) (Nat.le_of_ble_eq_true rfl) ?_
      simpa [isLetM, bi, *] using hq

theorem c_M_isDigit {L : Nat} {xs : Nat → Int32} {d : Nat} {Q : ax_Q} {x : Int32} {h : ax_H} (hq : Q (some (.int (bi (isDig x)))) h) : nM L xs (d + 1) 33 [.int x] h Q := by
  refine nM.of ns_I_M_isDigit rfl (ls := [_]) (Nat.le_of_ble_eq_true rfl) rfl ?_
  refine aw_iload_n (pc' := 1) nd_M_isDigit_0 rfl rfl ?_
  refine aw_bipush (pc' := 3) (x := 48) nd_M_isDigit_1 rfl (by decide) ?_
  refine aw_icmp_lt (pc' := 6) (tg := 16) nd_M_isDigit_3 (by decide) rfl (fun hb3 => ?_) (fun hb3 => ?_)
  · skip
    refine aw_iconst (pc' := 17) (x := 0) nd_M_isDigit_16 rfl (by decide) ?_
    refine aw_ireturn nd_M_isDigit_17 rfl (by first | rfl | assumption) (Nat.le_of_ble_eq_true rfl) (Nat.le_of_ble_eq_true rfl) ?_
    simpa [isDig, bi, *] using hq
  · skip
    refine aw_iload_n (pc' := 7) nd_M_isDigit_6 rfl rfl ?_
    refine aw_bipush (pc' := 9) (x := 57) nd_M_isDigit_7 rfl (by decide) ?_
    refine aw_icmp_gt (pc' := 12) (tg := 16) nd_M_isDigit_9 (by decide) rfl (fun hb9 => ?_) (fun hb9 => ?_)
    · skip
      refine aw_iconst (pc' := 17) (x := 0) nd_M_isDigit_16 rfl (by decide) ?_
      refine aw_ireturn nd_M_isDigit_17 rfl (by first | rfl | assumption) (Nat.le_of_ble_eq_true rfl) (Nat.le_of_ble_eq_true rfl) ?_
      simpa [isDig, bi, *] using hq
    · skip
      refine aw_iconst (pc' := 13) (x := 1) nd_M_isDigit_12 rfl (by decide) ?_
      refine aw_goto (pc' := 17) nd_M_isDigit_13 (by decide) ?_
      refine aw_ireturn nd_M_isDigit_17 rfl (by first | rfl | assumption) (Nat.le_of_ble_eq_true rfl) (Nat.le_of_ble_eq_true rfl) ?_
      simpa [isDig, bi, *] using hq

theorem c_M_rank {L : Nat} {xs : Nat → Int32} {d : Nat} {Q : ax_Q} {x : Int32} {h : ax_H} (hq : Q (some (.int (rkM x))) h) : nM L xs (d + 1) 37 [.int x] h Q := by
  refine nM.of ns_I_M_rank rfl (ls := [_]) (Nat.le_of_ble_eq_true rfl) rfl ?_
  refine aw_iload_n (pc' := 1) nd_M_rank_0 rfl rfl ?_
  refine aw_sipush (pc' := 4) (x := 200) nd_M_rank_1 rfl (by decide) ?_
  refine aw_icmp_eq (pc' := 7) (tg := 13) nd_M_rank_4 (by decide) rfl (fun hb4 => ?_) (fun hb4 => ?_)
  · skip
    refine aw_iconst (pc' := 14) (x := 3) nd_M_rank_13 rfl (by decide) ?_
    refine aw_goto (pc' := 60) nd_M_rank_14 (by decide) ?_
    refine aw_ireturn nd_M_rank_60 rfl rfl (Nat.le_of_ble_eq_true rfl) (Nat.le_of_ble_eq_true rfl) ?_
    simpa [rkM, *] using hq
  · skip
    refine aw_iload_n (pc' := 8) nd_M_rank_7 rfl rfl ?_
    refine aw_bipush (pc' := 10) (x := 64) nd_M_rank_8 rfl (by decide) ?_
    refine aw_icmp_ne (pc' := 13) (tg := 17) nd_M_rank_10 (by decide) rfl (fun hb10 => ?_) (fun hb10 => ?_)
    · skip
      refine aw_iload_n (pc' := 18) nd_M_rank_17 rfl rfl ?_
      refine aw_bipush (pc' := 20) (x := 42) nd_M_rank_18 rfl (by decide) ?_
      refine aw_icmp_ne (pc' := 23) (tg := 27) nd_M_rank_20 (by decide) rfl (fun hb20 => ?_) (fun hb20 => ?_)
      · skip
        refine aw_iload_n (pc' := 28) nd_M_rank_27 rfl rfl ?_
        refine aw_bipush (pc' := 30) (x := 43) nd_M_rank_28 rfl (by decide) ?_
        refine aw_icmp_eq (pc' := 33) (tg := 39) nd_M_rank_30 (by decide) rfl (fun hb30 => ?_) (fun hb30 => ?_)
        · skip
          refine aw_iconst (pc' := 40) (x := 1) nd_M_rank_39 rfl (by decide) ?_
          refine aw_goto (pc' := 60) nd_M_rank_40 (by decide) ?_
          refine aw_ireturn nd_M_rank_60 rfl rfl (Nat.le_of_ble_eq_true rfl) (Nat.le_of_ble_eq_true rfl) ?_
          simpa [rkM, *] using hq
        · skip
          refine aw_iload_n (pc' := 34) nd_M_rank_33 rfl rfl ?_
          refine aw_bipush (pc' := 36) (x := 45) nd_M_rank_34 rfl (by decide) ?_
          refine aw_icmp_ne (pc' := 39) (tg := 43) nd_M_rank_36 (by decide) rfl (fun hb36 => ?_) (fun hb36 => ?_)
          · skip
            refine aw_iload_n (pc' := 44) nd_M_rank_43 rfl rfl ?_
            refine aw_bipush (pc' := 46) (x := 60) nd_M_rank_44 rfl (by decide) ?_
            refine aw_icmp_eq (pc' := 49) (tg := 55) nd_M_rank_46 (by decide) rfl (fun hb46 => ?_) (fun hb46 => ?_)
            · skip
              refine aw_iconst (pc' := 56) (x := 0) nd_M_rank_55 rfl (by decide) ?_
              refine aw_goto (pc' := 60) nd_M_rank_56 (by decide) ?_
              refine aw_ireturn nd_M_rank_60 rfl rfl (Nat.le_of_ble_eq_true rfl) (Nat.le_of_ble_eq_true rfl) ?_
              simpa [rkM, *] using hq
            · skip
              refine aw_iload_n (pc' := 50) nd_M_rank_49 rfl rfl ?_
              refine aw_bipush (pc' := 52) (x := 61) nd_M_rank_50 rfl (by decide) ?_
              refine aw_icmp_ne (pc' := 55) (tg := 59) nd_M_rank_52 (by decide) rfl (fun hb52 => ?_) (fun hb52 => ?_)
              · skip
                refine aw_iconst (pc' := 60) (x := -1) nd_M_rank_59 rfl (by decide) ?_
                refine aw_ireturn nd_M_rank_60 rfl rfl (Nat.le_of_ble_eq_true rfl) (Nat.le_of_ble_eq_true rfl) ?_
                simpa [rkM, *] using hq
              · skip
                refine aw_iconst (pc' := 56) (x := 0) nd_M_rank_55 rfl (by decide) ?_
                refine aw_goto (pc' := 60) nd_M_rank_56 (by decide) ?_
                refine aw_ireturn nd_M_rank_60 rfl rfl (Nat.le_of_ble_eq_true rfl) (Nat.le_of_ble_eq_true rfl) ?_
                simpa [rkM, *] using hq
          · skip
            refine aw_iconst (pc' := 40) (x := 1) nd_M_rank_39 rfl (by decide) ?_
            refine aw_goto (pc' := 60) nd_M_rank_40 (by decide) ?_
            refine aw_ireturn nd_M_rank_60 rfl rfl (Nat.le_of_ble_eq_true rfl) (Nat.le_of_ble_eq_true rfl) ?_
            simpa [rkM, *] using hq
      · skip
        refine aw_iconst (pc' := 24) (x := 2) nd_M_rank_23 rfl (by decide) ?_
        refine aw_goto (pc' := 60) nd_M_rank_24 (by decide) ?_
        refine aw_ireturn nd_M_rank_60 rfl rfl (Nat.le_of_ble_eq_true rfl) (Nat.le_of_ble_eq_true rfl) ?_
        simpa [rkM, *] using hq
    · skip
      refine aw_iconst (pc' := 14) (x := 3) nd_M_rank_13 rfl (by decide) ?_
      refine aw_goto (pc' := 60) nd_M_rank_14 (by decide) ?_
      refine aw_ireturn nd_M_rank_60 rfl rfl (Nat.le_of_ble_eq_true rfl) (Nat.le_of_ble_eq_true rfl) ?_
      simpa [rkM, *] using hq

theorem c_M_revision {L : Nat} {xs : Nat → Int32} {d : Nat} {Q : ax_Q} {μ : nMem} (hq : Q (some (.int (μ.1 104 3))) (ns_rep μ)) : nM L xs (d + 1) 68 [.ref 104] (ns_rep μ) Q := by
  refine nM.of ns_I_M_revision rfl (ls := [_]) (Nat.le_of_ble_eq_true rfl) rfl ?_
  refine aw_aload_n (pc' := 1) nd_M_revision_0 rfl rfl rfl ?_
  refine aw_get (pc' := 4) nd_M_revision_1 rfl nF_5_13 g_M_revision ?_
  refine aw_ireturn nd_M_revision_4 rfl rfl (Nat.le_of_ble_eq_true rfl) (Nat.le_of_ble_eq_true rfl) ?_
  exact hq

theorem c_M_changed {L : Nat} {xs : Nat → Int32} {d : Nat} {Q : ax_Q} {μ : nMem} {x : Int32} (hq0 : idr x = false → Q (some (.int (-1))) (ns_rep μ)) (hq1 : ∀ j, j < 3 → x = nI j → Q (some (.int (μ.1 106 j))) (ns_rep μ)) : nM L xs (d + 1) 69 [.ref 104, .int x] (ns_rep μ) Q := by
  refine nM.of ns_I_M_changed rfl (ls := [_, _]) (Nat.le_of_ble_eq_true rfl) rfl ?_
  refine aw_iload_n (pc' := 1) nd_M_changed_0 rfl rfl ?_
  refine aw_if_lt (pc' := 4) (tg := 9) nd_M_changed_1 (by decide) rfl (fun hb1 => ?_) (fun hb1 => ?_)
  · skip
    refine aw_iconst (pc' := 10) (x := -1) nd_M_changed_9 rfl (by decide) ?_
    refine aw_goto (pc' := 19) nd_M_changed_10 (by decide) ?_
    refine aw_ireturn nd_M_changed_19 rfl rfl (Nat.le_of_ble_eq_true rfl) (Nat.le_of_ble_eq_true rfl) ?_
    first
      | exact hq1 j hj rfl
      | exact hq0 (by unfold idr; rw [if_neg hb1, if_pos (Int32.not_le.mp hb6)])
      | exact hq0 (by unfold idr; rw [if_pos hb1])
  · skip
    refine aw_iload_n (pc' := 5) nd_M_changed_4 rfl rfl ?_
    refine aw_iconst (pc' := 6) (x := 2) nd_M_changed_5 rfl (by decide) ?_
    refine aw_icmp_le (pc' := 9) (tg := 13) nd_M_changed_6 (by decide) rfl (fun hb6 => ?_) (fun hb6 => ?_)
    · skip
      obtain ⟨j, hj, rfl⟩ := idr_t (x := x) (by unfold idr; rw [if_neg hb1, if_neg (Int32.not_lt.mpr hb6)])
      refine aw_aload_n (pc' := 14) nd_M_changed_13 rfl rfl rfl ?_
      refine aw_get (pc' := 17) nd_M_changed_14 rfl nF_5_17 g_M_changes ?_
      refine aw_iload_n (pc' := 18) nd_M_changed_17 rfl rfl ?_
      refine aw_iald (pc' := 19) nd_M_changed_18 rfl ga_Mchanges j rfl hj ?_
      refine aw_ireturn nd_M_changed_19 rfl rfl (Nat.le_of_ble_eq_true rfl) (Nat.le_of_ble_eq_true rfl) ?_
      first
        | exact hq1 j hj rfl
        | exact hq0 (by unfold idr; rw [if_neg hb1, if_pos (Int32.not_le.mp hb6)])
        | exact hq0 (by unfold idr; rw [if_pos hb1])
    · skip
      refine aw_iconst (pc' := 10) (x := -1) nd_M_changed_9 rfl (by decide) ?_
      refine aw_goto (pc' := 19) nd_M_changed_10 (by decide) ?_
      refine aw_ireturn nd_M_changed_19 rfl rfl (Nat.le_of_ble_eq_true rfl) (Nat.le_of_ble_eq_true rfl) ?_
      first
        | exact hq1 j hj rfl
        | exact hq0 (by unfold idr; rw [if_neg hb1, if_pos (Int32.not_le.mp hb6)])
        | exact hq0 (by unfold idr; rw [if_pos hb1])

theorem c_M_durabilityOf {L : Nat} {xs : Nat → Int32} {d : Nat} {Q : ax_Q} {μ : nMem} {k : Nat} (hk : k < 12) (hq : Q (some (.int (if μ.1 107 k = 0 then μ.1 115 k else μ.1 122 k))) (ns_rep μ)) : nM L xs (d + 1) 51 [.ref 104, .int (nI k)] (ns_rep μ) Q := by
  refine nM.of ns_I_M_durabilityOf rfl (ls := [_, _]) (Nat.le_of_ble_eq_true rfl) rfl ?_
  refine aw_aload_n (pc' := 1) nd_M_durabilityOf_0 rfl rfl rfl ?_
  refine aw_get (pc' := 4) nd_M_durabilityOf_1 rfl nF_5_20 g_M_formula ?_
  refine aw_iload_n (pc' := 5) nd_M_durabilityOf_4 rfl rfl ?_
  refine aw_bald (pc' := 6) nd_M_durabilityOf_5 rfl ga_Mformula k rfl hk ?_
  refine aw_if_eq (pc' := 9) (tg := 18) nd_M_durabilityOf_6 (by decide) rfl (fun hb6 => ?_) (fun hb6 => ?_)
  · skip
    refine aw_aload_n (pc' := 19) nd_M_durabilityOf_18 rfl rfl rfl ?_
    refine aw_get (pc' := 22) nd_M_durabilityOf_19 rfl nF_5_45 g_M_durable ?_
    refine aw_iload_n (pc' := 23) nd_M_durabilityOf_22 rfl rfl ?_
    refine aw_iald (pc' := 24) nd_M_durabilityOf_23 rfl ga_Mdurable k rfl hk ?_
    refine aw_ireturn nd_M_durabilityOf_24 rfl rfl (Nat.le_of_ble_eq_true rfl) (Nat.le_of_ble_eq_true rfl) ?_
    simpa [*] using hq
  · skip
    refine aw_aload_n (pc' := 10) nd_M_durabilityOf_9 rfl rfl rfl ?_
    refine aw_get (pc' := 13) nd_M_durabilityOf_10 rfl nF_5_67 g_M_noteDurable ?_
    refine aw_iload_n (pc' := 14) nd_M_durabilityOf_13 rfl rfl ?_
    refine aw_iald (pc' := 15) nd_M_durabilityOf_14 rfl ga_MnoteDurable k rfl hk ?_
    refine aw_goto (pc' := 24) nd_M_durabilityOf_15 (by decide) ?_
    refine aw_ireturn nd_M_durabilityOf_24 rfl rfl (Nat.le_of_ble_eq_true rfl) (Nat.le_of_ble_eq_true rfl) ?_
    simpa [*] using hq

theorem c_M_sinceOf {L : Nat} {xs : Nat → Int32} {d : Nat} {Q : ax_Q} {μ : nMem} {k : Nat} (hk : k < 12) (hq : Q (some (.int (if μ.1 107 k = 0 then μ.1 116 k else μ.1 121 k))) (ns_rep μ)) : nM L xs (d + 1) 52 [.ref 104, .int (nI k)] (ns_rep μ) Q := by
  refine nM.of ns_I_M_sinceOf rfl (ls := [_, _]) (Nat.le_of_ble_eq_true rfl) rfl ?_
  refine aw_aload_n (pc' := 1) nd_M_sinceOf_0 rfl rfl rfl ?_
  refine aw_get (pc' := 4) nd_M_sinceOf_1 rfl nF_5_20 g_M_formula ?_
  refine aw_iload_n (pc' := 5) nd_M_sinceOf_4 rfl rfl ?_
  refine aw_bald (pc' := 6) nd_M_sinceOf_5 rfl ga_Mformula k rfl hk ?_
  refine aw_if_eq (pc' := 9) (tg := 18) nd_M_sinceOf_6 (by decide) rfl (fun hb6 => ?_) (fun hb6 => ?_)
  · skip
    refine aw_aload_n (pc' := 19) nd_M_sinceOf_18 rfl rfl rfl ?_
    refine aw_get (pc' := 22) nd_M_sinceOf_19 rfl nF_5_48 g_M_born ?_
    refine aw_iload_n (pc' := 23) nd_M_sinceOf_22 rfl rfl ?_
    refine aw_iald (pc' := 24) nd_M_sinceOf_23 rfl ga_Mborn k rfl hk ?_
    refine aw_ireturn nd_M_sinceOf_24 rfl rfl (Nat.le_of_ble_eq_true rfl) (Nat.le_of_ble_eq_true rfl) ?_
    simpa [*] using hq
  · skip
    refine aw_aload_n (pc' := 10) nd_M_sinceOf_9 rfl rfl rfl ?_
    refine aw_get (pc' := 13) nd_M_sinceOf_10 rfl nF_5_64 g_M_since ?_
    refine aw_iload_n (pc' := 14) nd_M_sinceOf_13 rfl rfl ?_
    refine aw_iald (pc' := 15) nd_M_sinceOf_14 rfl ga_Msince k rfl hk ?_
    refine aw_goto (pc' := 24) nd_M_sinceOf_15 (by decide) ?_
    refine aw_ireturn nd_M_sinceOf_24 rfl rfl (Nat.le_of_ble_eq_true rfl) (Nat.le_of_ble_eq_true rfl) ?_
    simpa [*] using hq

theorem c_M_settled {L : Nat} {xs : Nat → Int32} {d : Nat} {Q : ax_Q} {μ : nMem} {k : Nat} (hk : k < 12) (hq : Q (some (.int (bi (stM μ k)))) (ns_rep μ)) : nM L xs (d + 1) 50 [.ref 104, .int (nI k)] (ns_rep μ) Q := by
  refine nM.of ns_I_M_settled rfl (ls := [_, _]) (Nat.le_of_ble_eq_true rfl) rfl ?_
  refine aw_aload_n (pc' := 1) nd_M_settled_0 rfl rfl rfl ?_
  refine aw_get (pc' := 4) nd_M_settled_1 rfl nF_5_20 g_M_formula ?_
  refine aw_iload_n (pc' := 5) nd_M_settled_4 rfl rfl ?_
  refine aw_bald (pc' := 6) nd_M_settled_5 rfl ga_Mformula k rfl hk ?_
  refine aw_if_eq (pc' := 9) (tg := 31) nd_M_settled_6 (by decide) rfl (fun hb6 => ?_) (fun hb6 => ?_)
  · skip
    refine aw_iconst (pc' := 32) (x := 1) nd_M_settled_31 rfl (by decide) ?_
    refine aw_goto (pc' := 36) nd_M_settled_32 (by decide) ?_
    refine aw_ireturn nd_M_settled_36 rfl (by first | rfl | assumption) (Nat.le_of_ble_eq_true rfl) (Nat.le_of_ble_eq_true rfl) ?_
    simpa [stM, bi, *] using hq
  · skip
    refine aw_aload_n (pc' := 10) nd_M_settled_9 rfl rfl rfl ?_
    refine aw_get (pc' := 13) nd_M_settled_10 rfl nF_5_51 g_M_noted ?_
    refine aw_iload_n (pc' := 14) nd_M_settled_13 rfl rfl ?_
    refine aw_bald (pc' := 15) nd_M_settled_14 rfl ga_Mnoted k rfl hk ?_
    refine aw_if_eq (pc' := 18) (tg := 35) nd_M_settled_15 (by decide) rfl (fun hb15 => ?_) (fun hb15 => ?_)
    · skip
      refine aw_iconst (pc' := 36) (x := 0) nd_M_settled_35 rfl (by decide) ?_
      refine aw_ireturn nd_M_settled_36 rfl (by first | rfl | assumption) (Nat.le_of_ble_eq_true rfl) (Nat.le_of_ble_eq_true rfl) ?_
      simpa [stM, bi, *] using hq
    · skip
      refine aw_aload_n (pc' := 19) nd_M_settled_18 rfl rfl rfl ?_
      refine aw_get (pc' := 22) nd_M_settled_19 rfl nF_5_61 g_M_verified ?_
      refine aw_iload_n (pc' := 23) nd_M_settled_22 rfl rfl ?_
      refine aw_iald (pc' := 24) nd_M_settled_23 rfl ga_Mverified k rfl hk ?_
      refine aw_aload_n (pc' := 25) nd_M_settled_24 rfl rfl rfl ?_
      refine aw_get (pc' := 28) nd_M_settled_25 rfl nF_5_13 g_M_revision ?_
      refine aw_icmp_ne (pc' := 31) (tg := 35) nd_M_settled_28 (by decide) rfl (fun hb28 => ?_) (fun hb28 => ?_)
      · skip
        refine aw_iconst (pc' := 36) (x := 0) nd_M_settled_35 rfl (by decide) ?_
        refine aw_ireturn nd_M_settled_36 rfl (by first | rfl | assumption) (Nat.le_of_ble_eq_true rfl) (Nat.le_of_ble_eq_true rfl) ?_
        simpa [stM, bi, *] using hq
      · skip
        refine aw_iconst (pc' := 32) (x := 1) nd_M_settled_31 rfl (by decide) ?_
        refine aw_goto (pc' := 36) nd_M_settled_32 (by decide) ?_
        refine aw_ireturn nd_M_settled_36 rfl (by first | rfl | assumption) (Nat.le_of_ble_eq_true rfl) (Nat.le_of_ble_eq_true rfl) ?_
        simpa [stM, bi, *] using hq

theorem c_M_make {L : Nat} {xs : Nat → Int32} {d : Nat} {Q : ax_Q} {μ : nMem} {n : Nat} {a b : Int32} (hn : μ.1 104 40 = nI n) (hlt : n < 40) (hq : Q none (ns_rep (ms (ms (ms μ 139 n a) 140 n b) 104 40 (nI (n + 1))))) : nM L xs (d + 1) 35 [.ref 104, .int a, .int b] (ns_rep μ) Q := by
  refine nM.of ns_I_M_make rfl (ls := [_, _, _]) (Nat.le_of_ble_eq_true rfl) rfl ?_
  refine aw_aload_n (pc' := 1) nd_M_make_0 rfl rfl rfl ?_
  refine aw_get (pc' := 4) nd_M_make_1 rfl nF_5_118 g_M_newStep ?_
  refine aw_aload_n (pc' := 5) nd_M_make_4 rfl rfl rfl ?_
  refine aw_get (pc' := 8) nd_M_make_5 rfl nF_5_137 g_M_made ?_
  refine aw_iload_n (pc' := 9) nd_M_make_8 rfl rfl ?_
  refine aw_iast (pc' := 10) nd_M_make_9 rfl rfl n hn hlt pa_MnewStep ?_
  refine aw_aload_n (pc' := 11) nd_M_make_10 rfl rfl rfl ?_
  refine aw_get (pc' := 14) nd_M_make_11 rfl nF_5_121 g_M_newWith ?_
  refine aw_aload_n (pc' := 15) nd_M_make_14 rfl rfl rfl ?_
  refine aw_get (pc' := 18) nd_M_make_15 rfl nF_5_137 g_M_made ?_
  refine aw_iload_n (pc' := 19) nd_M_make_18 rfl rfl ?_
  refine aw_iast (pc' := 20) nd_M_make_19 rfl rfl n (by rw [ms_o (by decide)]; exact hn) hlt pa_MnewWith ?_
  refine aw_aload_n (pc' := 21) nd_M_make_20 rfl rfl rfl ?_
  refine aw_dup (pc' := 22) nd_M_make_21 rfl rfl ?_
  refine aw_get (pc' := 25) nd_M_make_22 rfl nF_5_137 g_M_made ?_
  refine aw_iconst (pc' := 26) (x := 1) nd_M_make_25 rfl (by decide) ?_
  refine aw_iadd (pc' := 27) nd_M_make_26 rfl ?_
  refine aw_put (pc' := 30) nd_M_make_27 rfl nF_5_137 trivial p_M_made ?_
  refine aw_return nd_M_make_30 rfl (Nat.le_of_ble_eq_true rfl) (Nat.le_of_ble_eq_true rfl) ?_
  rw [ms_o (by decide), ms_o (by decide), hn, nI_1]
  exact hq

theorem c_M_put {L : Nat} {xs : Nat → Int32} {d : Nat} {Q : ax_Q} {μ : nMem} {n : Nat} {a b : Int32} (hn : μ.1 104 37 = nI n) (hlt : n < 64) (hq : Q none (ns_rep (ms (ms (ms μ 137 n a) 138 n b) 104 37 (nI (n + 1))))) : nM L xs (d + 1) 36 [.ref 104, .int a, .int b] (ns_rep μ) Q := by
  refine nM.of ns_I_M_put rfl (ls := [_, _, _]) (Nat.le_of_ble_eq_true rfl) rfl ?_
  refine aw_aload_n (pc' := 1) nd_M_put_0 rfl rfl rfl ?_
  refine aw_get (pc' := 4) nd_M_put_1 rfl nF_5_112 g_M_sign ?_
  refine aw_aload_n (pc' := 5) nd_M_put_4 rfl rfl rfl ?_
  refine aw_get (pc' := 8) nd_M_put_5 rfl nF_5_140 g_M_signs ?_
  refine aw_iload_n (pc' := 9) nd_M_put_8 rfl rfl ?_
  refine aw_iast (pc' := 10) nd_M_put_9 rfl rfl n hn hlt pa_Msign ?_
  refine aw_aload_n (pc' := 11) nd_M_put_10 rfl rfl rfl ?_
  refine aw_get (pc' := 14) nd_M_put_11 rfl nF_5_115 g_M_mend ?_
  refine aw_aload_n (pc' := 15) nd_M_put_14 rfl rfl rfl ?_
  refine aw_get (pc' := 18) nd_M_put_15 rfl nF_5_140 g_M_signs ?_
  refine aw_iload_n (pc' := 19) nd_M_put_18 rfl rfl ?_
  refine aw_iast (pc' := 20) nd_M_put_19 rfl rfl n (by rw [ms_o (by decide)]; exact hn) hlt pa_Mmend ?_
  refine aw_aload_n (pc' := 21) nd_M_put_20 rfl rfl rfl ?_
  refine aw_dup (pc' := 22) nd_M_put_21 rfl rfl ?_
  refine aw_get (pc' := 25) nd_M_put_22 rfl nF_5_140 g_M_signs ?_
  refine aw_iconst (pc' := 26) (x := 1) nd_M_put_25 rfl (by decide) ?_
  refine aw_iadd (pc' := 27) nd_M_put_26 rfl ?_
  refine aw_put (pc' := 30) nd_M_put_27 rfl nF_5_140 trivial p_M_signs ?_
  refine aw_return nd_M_put_30 rfl (Nat.le_of_ble_eq_true rfl) (Nat.le_of_ble_eq_true rfl) ?_
  rw [ms_o (by decide), ms_o (by decide), hn, nI_1]
  exact hq

theorem c_M_use {L : Nat} {xs : Nat → Int32} {d : Nat} {Q : ax_Q} {μ : nMem} {k : Nat} (hk : k < 12) (hq : Q none (ns_rep (ms (ms μ 104 24 (μ.1 104 24 + 1)) 125 k (μ.1 104 24 + 1)))) : nM L xs (d + 1) 56 [.ref 104, .int (nI k)] (ns_rep μ) Q := by
  refine nM.of ns_I_M_use rfl (ls := [_, _]) (Nat.le_of_ble_eq_true rfl) rfl ?_
  refine aw_aload_n (pc' := 1) nd_M_use_0 rfl rfl rfl ?_
  refine aw_dup (pc' := 2) nd_M_use_1 rfl rfl ?_
  refine aw_get (pc' := 5) nd_M_use_2 rfl nF_5_194 g_M_clock ?_
  refine aw_iconst (pc' := 6) (x := 1) nd_M_use_5 rfl (by decide) ?_
  refine aw_iadd (pc' := 7) nd_M_use_6 rfl ?_
  refine aw_put (pc' := 10) nd_M_use_7 rfl nF_5_194 trivial p_M_clock ?_
  refine aw_aload_n (pc' := 11) nd_M_use_10 rfl rfl rfl ?_
  refine aw_get (pc' := 14) nd_M_use_11 rfl nF_5_76 g_M_used ?_
  refine aw_iload_n (pc' := 15) nd_M_use_14 rfl rfl ?_
  refine aw_aload_n (pc' := 16) nd_M_use_15 rfl rfl rfl ?_
  refine aw_get (pc' := 19) nd_M_use_16 rfl nF_5_194 g_M_clock ?_
  refine aw_iast (pc' := 20) nd_M_use_19 rfl rfl k rfl hk pa_Mused ?_
  refine aw_return nd_M_use_20 rfl (Nat.le_of_ble_eq_true rfl) (Nat.le_of_ble_eq_true rfl) ?_
  rw [ms_s, pk_us]
  exact hq

theorem c_M_counts {L : Nat} {xs : Nat → Int32} {d : Nat} {Q : ax_Q} {μ : nMem} {k w : Nat} (hk : k < 12) (hw : w < 3) (hq : Q none (ns_rep (ms (ms μ 126 (3 * k + w) (μ.1 126 (3 * k + w) + 1)) 127 w (μ.1 127 w + 1)))) : nM L xs (d + 1) 54 [.ref 104, .int (nI k), .int (nI w)] (ns_rep μ) Q := by
  refine nM.of ns_I_M_counts rfl (ls := [_, _, _]) (Nat.le_of_ble_eq_true rfl) rfl ?_
  refine aw_aload_n (pc' := 1) nd_M_counts_0 rfl rfl rfl ?_
  refine aw_get (pc' := 4) nd_M_counts_1 rfl nF_5_79 g_M_often ?_
  refine aw_iconst (pc' := 5) (x := 3) nd_M_counts_4 rfl (by decide) ?_
  refine aw_iload_n (pc' := 6) nd_M_counts_5 rfl rfl ?_
  refine aw_imul (pc' := 7) nd_M_counts_6 rfl ?_
  refine aw_iload_n (pc' := 8) nd_M_counts_7 rfl rfl ?_
  refine aw_iadd (pc' := 9) nd_M_counts_8 rfl ?_
  refine aw_dup2 (pc' := 10) nd_M_counts_9 rfl rfl rfl ?_
  refine aw_iald (pc' := 11) nd_M_counts_10 rfl ga_Moften (3 * k + w) (nI_lin (c := 3) (by decide)) (by omega) ?_
  refine aw_iconst (pc' := 12) (x := 1) nd_M_counts_11 rfl (by decide) ?_
  refine aw_iadd (pc' := 13) nd_M_counts_12 rfl ?_
  refine aw_iast (pc' := 14) nd_M_counts_13 rfl rfl (3 * k + w) (nI_lin (c := 3) (by decide)) (by omega) pa_Moften ?_
  refine aw_aload_n (pc' := 15) nd_M_counts_14 rfl rfl rfl ?_
  refine aw_get (pc' := 18) nd_M_counts_15 rfl nF_5_82 g_M_lately ?_
  refine aw_iload_n (pc' := 19) nd_M_counts_18 rfl rfl ?_
  refine aw_dup2 (pc' := 20) nd_M_counts_19 rfl rfl rfl ?_
  refine aw_iald (pc' := 21) nd_M_counts_20 rfl ga_Mlately w rfl hw ?_
  refine aw_iconst (pc' := 22) (x := 1) nd_M_counts_21 rfl (by decide) ?_
  refine aw_iadd (pc' := 23) nd_M_counts_22 rfl ?_
  refine aw_iast (pc' := 24) nd_M_counts_23 rfl rfl w rfl hw pa_Mlately ?_
  refine aw_return nd_M_counts_24 rfl (Nat.le_of_ble_eq_true rfl) (Nat.le_of_ble_eq_true rfl) ?_
  first
    | exact hq
    | (rw [ms_o (by decide)]; exact hq)

theorem c_M_start {L : Nat} {xs : Nat → Int32} {d : Nat} {Q : ax_Q} {μ : nMem} {n k : Nat} {w : Int32} (hn : μ.1 104 27 = nI n) (hlt : n < 12) (hk : k < 12) (hq : Q none (ns_rep (ms (ms (ms (ms μ 128 n (nI k)) 129 n w) 135 k 1) 104 27 (nI (n + 1))))) : nM L xs (d + 1) 53 [.ref 104, .int (nI k), .int w] (ns_rep μ) Q := by
  refine nM.of ns_I_M_start rfl (ls := [_, _, _]) (Nat.le_of_ble_eq_true rfl) rfl ?_
  refine aw_aload_n (pc' := 1) nd_M_start_0 rfl rfl rfl ?_
  refine aw_get (pc' := 4) nd_M_start_1 rfl nF_5_85 g_M_open ?_
  refine aw_aload_n (pc' := 5) nd_M_start_4 rfl rfl rfl ?_
  refine aw_get (pc' := 8) nd_M_start_5 rfl nF_5_191 g_M_opened ?_
  refine aw_iload_n (pc' := 9) nd_M_start_8 rfl rfl ?_
  refine aw_iast (pc' := 10) nd_M_start_9 rfl rfl n hn hlt pa_Mopen ?_
  refine aw_aload_n (pc' := 11) nd_M_start_10 rfl rfl rfl ?_
  refine aw_get (pc' := 14) nd_M_start_11 rfl nF_5_88 g_M_mode ?_
  refine aw_aload_n (pc' := 15) nd_M_start_14 rfl rfl rfl ?_
  refine aw_get (pc' := 18) nd_M_start_15 rfl nF_5_191 g_M_opened ?_
  refine aw_iload_n (pc' := 19) nd_M_start_18 rfl rfl ?_
  refine aw_iast (pc' := 20) nd_M_start_19 rfl rfl n (by rw [ms_o (by decide)]; exact hn) hlt pa_Mmode ?_
  refine aw_aload_n (pc' := 21) nd_M_start_20 rfl rfl rfl ?_
  refine aw_get (pc' := 24) nd_M_start_21 rfl nF_5_106 g_M_atWork ?_
  refine aw_iload_n (pc' := 25) nd_M_start_24 rfl rfl ?_
  refine aw_iconst (pc' := 26) (x := 1) nd_M_start_25 rfl (by decide) ?_
  refine aw_bast (pc' := 27) nd_M_start_26 rfl nz1 k rfl hk pa_MatWork ?_
  refine aw_aload_n (pc' := 28) nd_M_start_27 rfl rfl rfl ?_
  refine aw_dup (pc' := 29) nd_M_start_28 rfl rfl ?_
  refine aw_get (pc' := 32) nd_M_start_29 rfl nF_5_191 g_M_opened ?_
  refine aw_iconst (pc' := 33) (x := 1) nd_M_start_32 rfl (by decide) ?_
  refine aw_iadd (pc' := 34) nd_M_start_33 rfl ?_
  refine aw_put (pc' := 37) nd_M_start_34 rfl nF_5_191 trivial p_M_opened ?_
  refine aw_return nd_M_start_37 rfl (Nat.le_of_ble_eq_true rfl) (Nat.le_of_ble_eq_true rfl) ?_
  rw [ms_o (by decide), ms_o (by decide), ms_o (by decide), hn, nI_1]
  exact hq

theorem c_M_finish {L : Nat} {xs : Nat → Int32} {d : Nat} {Q : ax_Q} {μ : nMem} {n k : Nat} (hn : μ.1 104 27 = nI (n + 1)) (hlt : n < 12) (hk : k < 12) (ho : μ.1 128 n = nI k) (hq : Q none (ns_rep (ms (ms μ 104 27 (nI n)) 135 k 0))) : nM L xs (d + 1) 55 [.ref 104] (ns_rep μ) Q := by
  refine nM.of ns_I_M_finish rfl (ls := [_]) (Nat.le_of_ble_eq_true rfl) rfl ?_
  refine aw_aload_n (pc' := 1) nd_M_finish_0 rfl rfl rfl ?_
  refine aw_dup (pc' := 2) nd_M_finish_1 rfl rfl ?_
  refine aw_get (pc' := 5) nd_M_finish_2 rfl nF_5_191 g_M_opened ?_
  refine aw_iconst (pc' := 6) (x := 1) nd_M_finish_5 rfl (by decide) ?_
  refine aw_isub (pc' := 7) nd_M_finish_6 rfl ?_
  rw [hn, nI_pred]
  refine aw_put (pc' := 10) nd_M_finish_7 rfl nF_5_191 trivial p_M_opened ?_
  refine aw_aload_n (pc' := 11) nd_M_finish_10 rfl rfl rfl ?_
  refine aw_get (pc' := 14) nd_M_finish_11 rfl nF_5_106 g_M_atWork ?_
  refine aw_aload_n (pc' := 15) nd_M_finish_14 rfl rfl rfl ?_
  refine aw_get (pc' := 18) nd_M_finish_15 rfl nF_5_85 g_M_open ?_
  refine aw_aload_n (pc' := 19) nd_M_finish_18 rfl rfl rfl ?_
  refine aw_get (pc' := 22) nd_M_finish_19 rfl nF_5_191 g_M_opened ?_
  refine aw_iald (pc' := 23) nd_M_finish_22 rfl ga_Mopen n (by rw [ms_s, pk_us]) hlt ?_
  refine aw_iconst (pc' := 24) (x := 0) nd_M_finish_23 rfl (by decide) ?_
  refine aw_bast (pc' := 25) nd_M_finish_24 rfl nz0 k (by rw [ms_o (by decide)]; exact ho) hk pa_MatWork ?_
  refine aw_return nd_M_finish_25 rfl (Nat.le_of_ble_eq_true rfl) (Nat.le_of_ble_eq_true rfl) ?_
  exact hq

theorem c_M_push {L : Nat} {xs : Nat → Int32} {d : Nat} {Q : ax_Q} {μ : nMem} {f t : Nat} {v : Int64} (hf : f < 12) (ht : μ.1 131 f = nI t) (hlt : t < 16) (hq : Q none (ns_rep (ms (ml μ 132 (16 * f + t) v) 131 f (nI (t + 1))))) : nM L xs (d + 1) 61 [.ref 104, .int (nI f), .long v] (ns_rep μ) Q := by
  refine nM.of ns_I_M_push rfl (ls := [_, _, _, _]) (Nat.le_of_ble_eq_true rfl) rfl ?_
  refine aw_aload_n (pc' := 1) nd_M_push_0 rfl rfl rfl ?_
  refine aw_get (pc' := 4) nd_M_push_1 rfl nF_5_97 g_M_stack ?_
  refine aw_bipush (pc' := 6) (x := 16) nd_M_push_4 rfl (by decide) ?_
  refine aw_iload_n (pc' := 7) nd_M_push_6 rfl rfl ?_
  refine aw_imul (pc' := 8) nd_M_push_7 rfl ?_
  refine aw_aload_n (pc' := 9) nd_M_push_8 rfl rfl rfl ?_
  refine aw_get (pc' := 12) nd_M_push_9 rfl nF_5_94 g_M_depth ?_
  refine aw_iload_n (pc' := 13) nd_M_push_12 rfl rfl ?_
  refine aw_iald (pc' := 14) nd_M_push_13 rfl ga_Mdepth f rfl hf ?_
  refine aw_iadd (pc' := 15) nd_M_push_14 rfl ?_
  refine aw_lload_n (pc' := 16) nd_M_push_15 rfl rfl ?_
  refine aw_last (pc' := 17) nd_M_push_16 rfl (16 * f + t) (by rw [ht]; exact nI_lin (c := 16) (by decide)) (by omega) pa_Mstack ?_
  refine aw_aload_n (pc' := 18) nd_M_push_17 rfl rfl rfl ?_
  refine aw_get (pc' := 21) nd_M_push_18 rfl nF_5_94 g_M_depth ?_
  refine aw_iload_n (pc' := 22) nd_M_push_21 rfl rfl ?_
  refine aw_dup2 (pc' := 23) nd_M_push_22 rfl rfl rfl ?_
  refine aw_iald (pc' := 24) nd_M_push_23 rfl ga_Mdepth f rfl hf ?_
  refine aw_iconst (pc' := 25) (x := 1) nd_M_push_24 rfl (by decide) ?_
  refine aw_iadd (pc' := 26) nd_M_push_25 rfl ?_
  refine aw_iast (pc' := 27) nd_M_push_26 rfl rfl f rfl hf pa_Mdepth ?_
  refine aw_return nd_M_push_27 rfl (Nat.le_of_ble_eq_true rfl) (Nat.le_of_ble_eq_true rfl) ?_
  rw [ml_1, ht, nI_1]
  exact hq

theorem c_M_pop {L : Nat} {xs : Nat → Int32} {d : Nat} {Q : ax_Q} {μ : nMem} {f t : Nat} (hf : f < 12) (ht : μ.1 131 f = nI (t + 1)) (hlt : t < 16) (hq : Q (some (.long (μ.2 132 (16 * f + t)))) (ns_rep (ms μ 131 f (nI t)))) : nM L xs (d + 1) 62 [.ref 104, .int (nI f)] (ns_rep μ) Q := by
  refine nM.of ns_I_M_pop rfl (ls := [_, _]) (Nat.le_of_ble_eq_true rfl) rfl ?_
  refine aw_aload_n (pc' := 1) nd_M_pop_0 rfl rfl rfl ?_
  refine aw_get (pc' := 4) nd_M_pop_1 rfl nF_5_94 g_M_depth ?_
  refine aw_iload_n (pc' := 5) nd_M_pop_4 rfl rfl ?_
  refine aw_dup2 (pc' := 6) nd_M_pop_5 rfl rfl rfl ?_
  refine aw_iald (pc' := 7) nd_M_pop_6 rfl ga_Mdepth f rfl hf ?_
  refine aw_iconst (pc' := 8) (x := 1) nd_M_pop_7 rfl (by decide) ?_
  refine aw_isub (pc' := 9) nd_M_pop_8 rfl ?_
  rw [ht, nI_pred]
  refine aw_iast (pc' := 10) nd_M_pop_9 rfl rfl f rfl hf pa_Mdepth ?_
  refine aw_aload_n (pc' := 11) nd_M_pop_10 rfl rfl rfl ?_
  refine aw_get (pc' := 14) nd_M_pop_11 rfl nF_5_97 g_M_stack ?_
  refine aw_bipush (pc' := 16) (x := 16) nd_M_pop_14 rfl (by decide) ?_
  refine aw_iload_n (pc' := 17) nd_M_pop_16 rfl rfl ?_
  refine aw_imul (pc' := 18) nd_M_pop_17 rfl ?_
  refine aw_aload_n (pc' := 19) nd_M_pop_18 rfl rfl rfl ?_
  refine aw_get (pc' := 22) nd_M_pop_19 rfl nF_5_94 g_M_depth ?_
  refine aw_iload_n (pc' := 23) nd_M_pop_22 rfl rfl ?_
  refine aw_iald (pc' := 24) nd_M_pop_23 rfl ga_Mdepth f rfl hf ?_
  refine aw_iadd (pc' := 25) nd_M_pop_24 rfl ?_
  refine aw_lald (pc' := 26) nd_M_pop_25 rfl ga_Mstack (16 * f + t) (by rw [ms_s, pk_us]; exact nI_lin (c := 16) (by decide)) (by omega) ?_
  refine aw_lreturn nd_M_pop_26 rfl (Nat.le_of_ble_eq_true rfl) (Nat.le_of_ble_eq_true rfl) ?_
  exact hq

theorem l_M_values {L : Nat} {xs : Nat → Int32} {d : Nat} {Q : ax_Q} {μ : nMem} (hq : Q (some (.int (nI (vcm μ 12)))) (ns_rep μ)) : ∀ z i, z + i = 12 → nW L xs d ns_I_M_values Q 4 [some (.ref 104), some (.int (nI (vcm μ i))), some (.int (nI i))] [] 0 0 (ns_rep μ) := by
  intro z
  induction z with
  | zero =>
    intro i hi
    obtain rfl : i = 12 := by omega
    refine aw_iload_n (pc' := 5) nd_M_values_4 rfl rfl ?_
    refine aw_bipush (pc' := 7) (x := 12) nd_M_values_5 rfl (by decide) ?_
    refine aw_icmp_ge (pc' := 10) (tg := 33) nd_M_values_7 (by decide) rfl (fun _ => ?_) (fun hx => absurd (by decide) hx)
    refine aw_iload_n (pc' := 34) nd_M_values_33 rfl rfl ?_
    refine aw_ireturn nd_M_values_34 rfl rfl (Nat.le_of_ble_eq_true rfl) (Nat.le_of_ble_eq_true rfl) ?_
    exact hq
  | succ z ih =>
    intro i hi
    have hi12 : i < 12 := by omega
    refine aw_iload_n (pc' := 5) nd_M_values_4 rfl rfl ?_
    refine aw_bipush (pc' := 7) (x := 12) nd_M_values_5 rfl (by decide) ?_
    refine aw_icmp_ge (pc' := 10) (tg := 33) nd_M_values_7 (by decide) rfl (fun hx => absurd hx (nI_ge (b := 12) hi12 (by decide))) (fun _ => ?_)
    refine aw_aload_n (pc' := 11) nd_M_values_10 rfl rfl rfl ?_
    refine aw_get (pc' := 14) nd_M_values_11 rfl nF_5_54 g_M_valued ?_
    refine aw_iload_n (pc' := 15) nd_M_values_14 rfl rfl ?_
    refine aw_bald (pc' := 16) nd_M_values_15 rfl ga_Mvalued i rfl hi12 ?_
    refine aw_if_eq (pc' := 19) (tg := 25) nd_M_values_16 (by decide) rfl (fun hb16 => ?_) (fun hb16 => ?_)
    · skip
      refine aw_iload_n (pc' := 26) nd_M_values_25 rfl rfl ?_
      refine aw_istore_n (pc' := 27) (ls' := [_, _, _]) nd_M_values_26 rfl (Nat.le_of_ble_eq_true rfl) rfl ?_
      refine aw_iinc (pc' := 30) (ls' := [_, _, _]) nd_M_values_27 rfl rfl (nI_1 i) rfl ?_
      refine aw_goto (pc' := 4) nd_M_values_30 (by decide) ?_
      have e := ih (i + 1) (by omega)
      simp only [vcm, hb16, if_true, if_false, Nat.add_zero] at e
      first
        | exact e
        | (rw [← nI_1] at e; exact e)
    · skip
      refine aw_iload_n (pc' := 20) nd_M_values_19 rfl rfl ?_
      refine aw_iconst (pc' := 21) (x := 1) nd_M_values_20 rfl (by decide) ?_
      refine aw_iadd (pc' := 22) nd_M_values_21 rfl ?_
      refine aw_goto (pc' := 26) nd_M_values_22 (by decide) ?_
      refine aw_istore_n (pc' := 27) (ls' := [_, _, _]) nd_M_values_26 rfl (Nat.le_of_ble_eq_true rfl) rfl ?_
      refine aw_iinc (pc' := 30) (ls' := [_, _, _]) nd_M_values_27 rfl rfl (nI_1 i) rfl ?_
      refine aw_goto (pc' := 4) nd_M_values_30 (by decide) ?_
      have e := ih (i + 1) (by omega)
      simp only [vcm, hb16, if_true, if_false, Nat.add_zero] at e
      first
        | exact e
        | (rw [← nI_1] at e; exact e)

theorem c_M_values {L : Nat} {xs : Nat → Int32} {d : Nat} {Q : ax_Q} {μ : nMem} (hq : Q (some (.int (nI (vcm μ 12)))) (ns_rep μ)) : nM L xs (d + 1) 66 [.ref 104] (ns_rep μ) Q := by
  refine nM.of ns_I_M_values rfl (ls := [_, _, _]) (Nat.le_of_ble_eq_true rfl) rfl ?_
  refine aw_iconst (pc' := 1) (x := 0) nd_M_values_0 rfl (by decide) ?_
  refine aw_istore_n (pc' := 2) (ls' := [_, _, _]) nd_M_values_1 rfl (Nat.le_of_ble_eq_true rfl) rfl ?_
  refine aw_iconst (pc' := 3) (x := 0) nd_M_values_2 rfl (by decide) ?_
  refine aw_istore_n (pc' := 4) (ls' := [_, _, _]) nd_M_values_3 rfl (Nat.le_of_ble_eq_true rfl) rfl ?_
  exact l_M_values hq 12 0 (by omega)

theorem c_M_count {L : Nat} {xs : Nat → Int32} {d : Nat} {Q : ax_Q} {μ : nMem} {x : Int32} (hq1 : ∀ j, j < 3 → x = nI j → Q (some (.int (μ.1 127 j))) (ns_rep μ)) (hq2 : x = 3 → Q (some (.int (nI (vcm μ 12)))) (ns_rep μ)) (hq0 : idr x = false → ¬ x = 3 → Q (some (.int (-1))) (ns_rep μ)) : nM L xs (d + 2) 72 [.ref 104, .int x] (ns_rep μ) Q := by
  refine nM.of ns_I_M_count rfl (ls := [_, _]) (Nat.le_of_ble_eq_true rfl) rfl ?_
  refine aw_iload_n (pc' := 1) nd_M_count_0 rfl rfl ?_
  refine aw_if_lt (pc' := 4) (tg := 18) nd_M_count_1 (by decide) rfl (fun hb1 => ?_) (fun hb1 => ?_)
  · skip
    skip
    refine aw_iload_n (pc' := 19) nd_M_count_18 rfl rfl ?_
    refine aw_iconst (pc' := 20) (x := 3) nd_M_count_19 rfl (by decide) ?_
    refine aw_icmp_ne (pc' := 23) (tg := 30) nd_M_count_20 (by decide) rfl (fun hb20 => ?_) (fun hb20 => ?_)
    · skip
      refine aw_iconst (pc' := 31) (x := -1) nd_M_count_30 rfl (by decide) ?_
      refine aw_ireturn nd_M_count_31 rfl rfl (Nat.le_of_ble_eq_true rfl) (Nat.le_of_ble_eq_true rfl) ?_
      first
        | exact hq1 j hj rfl
        | exact hq2 hb20
        | exact hq0 (by unfold idr; rw [if_neg hb1, if_pos (Int32.lt_of_lt_of_le (by decide) hb6)]) hb20
        | exact hq0 (by unfold idr; rw [if_pos hb1]) hb20
    · skip
      refine aw_aload_n (pc' := 24) nd_M_count_23 rfl rfl rfl ?_
      refine aw_callV (pc' := 27) (as := []) (st := []) nd_M_count_24 rfl nC_5_253 ⟨(Nat.le_of_ble_eq_true rfl), rfl, rfl⟩ ns_ioM (Nat.le_of_ble_eq_true rfl) (Nat.le_of_ble_eq_true rfl) (Nat.le_of_ble_eq_true rfl) ?_
      refine c_M_values ?_
      show nW _ _ _ _ _ 27 _ [_] _ _ _
      refine aw_goto (pc' := 31) nd_M_count_27 (by decide) ?_
      refine aw_ireturn nd_M_count_31 rfl rfl (Nat.le_of_ble_eq_true rfl) (Nat.le_of_ble_eq_true rfl) ?_
      first
        | exact hq1 j hj rfl
        | exact hq2 hb20
        | exact hq0 (by unfold idr; rw [if_neg hb1, if_pos (Int32.lt_of_lt_of_le (by decide) hb6)]) hb20
        | exact hq0 (by unfold idr; rw [if_pos hb1]) hb20
  · skip
    refine aw_iload_n (pc' := 5) nd_M_count_4 rfl rfl ?_
    refine aw_iconst (pc' := 6) (x := 3) nd_M_count_5 rfl (by decide) ?_
    refine aw_icmp_ge (pc' := 9) (tg := 18) nd_M_count_6 (by decide) rfl (fun hb6 => ?_) (fun hb6 => ?_)
    · skip
      skip
      refine aw_iload_n (pc' := 19) nd_M_count_18 rfl rfl ?_
      refine aw_iconst (pc' := 20) (x := 3) nd_M_count_19 rfl (by decide) ?_
      refine aw_icmp_ne (pc' := 23) (tg := 30) nd_M_count_20 (by decide) rfl (fun hb20 => ?_) (fun hb20 => ?_)
      · skip
        refine aw_iconst (pc' := 31) (x := -1) nd_M_count_30 rfl (by decide) ?_
        refine aw_ireturn nd_M_count_31 rfl rfl (Nat.le_of_ble_eq_true rfl) (Nat.le_of_ble_eq_true rfl) ?_
        first
          | exact hq1 j hj rfl
          | exact hq2 hb20
          | exact hq0 (by unfold idr; rw [if_neg hb1, if_pos (Int32.lt_of_lt_of_le (by decide) hb6)]) hb20
          | exact hq0 (by unfold idr; rw [if_pos hb1]) hb20
      · skip
        refine aw_aload_n (pc' := 24) nd_M_count_23 rfl rfl rfl ?_
        refine aw_callV (pc' := 27) (as := []) (st := []) nd_M_count_24 rfl nC_5_253 ⟨(Nat.le_of_ble_eq_true rfl), rfl, rfl⟩ ns_ioM (Nat.le_of_ble_eq_true rfl) (Nat.le_of_ble_eq_true rfl) (Nat.le_of_ble_eq_true rfl) ?_
        refine c_M_values ?_
        show nW _ _ _ _ _ 27 _ [_] _ _ _
        refine aw_goto (pc' := 31) nd_M_count_27 (by decide) ?_
        refine aw_ireturn nd_M_count_31 rfl rfl (Nat.le_of_ble_eq_true rfl) (Nat.le_of_ble_eq_true rfl) ?_
        first
          | exact hq1 j hj rfl
          | exact hq2 hb20
          | exact hq0 (by unfold idr; rw [if_neg hb1, if_pos (Int32.lt_of_lt_of_le (by decide) hb6)]) hb20
          | exact hq0 (by unfold idr; rw [if_pos hb1]) hb20
    · skip
      have hid : idr x = true := by
        have e : ¬ 2 < x := fun z => hb6 (by rw [Int32.le_iff_toInt_le]; have := Int32.lt_iff_toInt_lt.mp z; show (3 : Int) ≤ _; have e2 : (2 : Int32).toInt = 2 := rfl; omega)
        unfold idr; rw [if_neg hb1, if_neg e]
      obtain ⟨j, hj, rfl⟩ := idr_t hid
      refine aw_aload_n (pc' := 10) nd_M_count_9 rfl rfl rfl ?_
      refine aw_get (pc' := 13) nd_M_count_10 rfl nF_5_82 g_M_lately ?_
      refine aw_iload_n (pc' := 14) nd_M_count_13 rfl rfl ?_
      refine aw_iald (pc' := 15) nd_M_count_14 rfl ga_Mlately j rfl hj ?_
      refine aw_goto (pc' := 31) nd_M_count_15 (by decide) ?_
      refine aw_ireturn nd_M_count_31 rfl rfl (Nat.le_of_ble_eq_true rfl) (Nat.le_of_ble_eq_true rfl) ?_
      first
        | exact hq1 j hj rfl
        | exact hq2 hb20
        | exact hq0 (by unfold idr; rw [if_neg hb1, if_pos (Int32.lt_of_lt_of_le (by decide) hb6)]) hb20
        | exact hq0 (by unfold idr; rw [if_pos hb1]) hb20

