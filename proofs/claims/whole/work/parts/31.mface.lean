/-! the model's face, but for define and ask -/
def sgM (c : Int32) : Bool := if c = 40 then true else if c = 41 then true else if c = 42 then true else if c = 43 then true else if c = 45 then true else if c = 58 then true else if c = 60 then true else if c = 61 then true else if c = 63 then true else if c = 64 then true else false
def mhM (c : Int32) : Bool := sgM c || isLetM c || isDig c
def mD (μ : nMem) (k : Nat) : Int32 := if μ.1 107 k = 0 then μ.1 115 k else 2
def bS (μ m : nMem) (k : Nat) (v : Int32) : Int32 := if μ.1 107 k = 0 ∧ μ.1 114 k = v then μ.1 116 k else m.1 104 3
def mkS (μ : nMem) (k o : Nat) (v y : Int32) : nMem := ms (ms (ms (ms (ms (ms (srmv μ o) 116 k (bS μ (srmv μ o) k v)) 107 k 0) 117 k 0) 118 k 0) 114 k v) 115 k y
def ntU (μ : nMem) (j : Nat) (y : Int32) : Int32 := if y = 3 then μ.1 116 j else if y = 4 then 0 else if y = 5 then μ.1 115 j else if y = 6 then 0 else 1
def ntV (μ : nMem) (j : Nat) (y : Int32) : Int32 := if y = 3 then μ.1 121 j else if y = 4 then μ.1 120 j else if y = 5 then μ.1 122 j else if y = 6 then μ.1 123 j else if μ.1 118 j = 0 then 0 else 1
def ntM (μ : nMem) (j : Nat) (y : Int32) : Int32 := if y < 0 then -1 else if 7 < y then -1 else if y < 3 then μ.1 126 (3 * j + y.toNatClampNeg) else if μ.1 107 j = 0 then ntU μ j y else if μ.1 117 j = 0 then 0 else ntV μ j y
theorem srmv_o {μ : nMem} {j b : Nat} (h1 : ¬ b = 106) (h2 : ¬ b = 104) : (srmv μ j).1 b = μ.1 b := by unfold srmv; rw [srm_o h1, ms_o h2]
theorem srmv_2 {μ : nMem} {j : Nat} : (srmv μ j).2 = μ.2 := by unfold srmv; rw [srm_2, ms_2]
theorem srmv_r {μ : nMem} {j : Nat} : (srmv μ j).1 104 = upd (μ.1 104) 3 (μ.1 104 3 + 1) := by unfold srmv; rw [srm_o (by decide), ms_s]

theorem l_M_type84 {L : Nat} {xs : Nat → Int32} {d : Nat} {Q : ax_Q} {μ : nMem} {c : Int32} {n : Nat} (hn : μ.1 104 2 = nI n) (hle : n ≤ 30) (hq1 : mhM c = true → n < 30 → Q (some (.int 1)) (ns_rep (ms (ms μ 105 n c) 104 2 (nI (n + 1))))) (hq0 : (mhM c = false ∨ n = 30) → Q (some (.int 0)) (ns_rep μ)) {w : Int32} (hm : mhM c = true) : nW L xs d ns_I_M_type Q 84 [some (.ref 104), some (.int c), some (.int w)] [] 0 0 (ns_rep μ) := by
  have hx30 : (30 : Int32) = nI 30 := by decide
  refine aw_aload_n (pc' := 85) nd_M_type_84 rfl rfl rfl ?_
  refine aw_get (pc' := 88) nd_M_type_85 rfl nF_5_134 g_M_length ?_
  refine aw_bipush (pc' := 90) (x := 30) nd_M_type_88 rfl (by decide) ?_
  rw [hn, hx30]
  refine aw_icmp_ne (pc' := 93) (tg := 95) nd_M_type_90 (by decide) rfl (fun hb90 => ?_) (fun hb90 => ?_)
  · skip
    have hlt : n < 30 := by
      rcases Nat.lt_or_ge n 30 with h | h
      · exact h
      · exact absurd (congrArg nI (show n = 30 by omega)) hb90
    refine aw_aload_n (pc' := 96) nd_M_type_95 rfl rfl rfl ?_
    refine aw_get (pc' := 99) nd_M_type_96 rfl nF_5_7 g_M_pad ?_
    refine aw_aload_n (pc' := 100) nd_M_type_99 rfl rfl rfl ?_
    refine aw_get (pc' := 103) nd_M_type_100 rfl nF_5_134 g_M_length ?_
    refine aw_iload_n (pc' := 104) nd_M_type_103 rfl rfl ?_
    refine aw_iast (pc' := 105) nd_M_type_104 rfl rfl n hn hlt pa_Mpad ?_
    refine aw_aload_n (pc' := 106) nd_M_type_105 rfl rfl rfl ?_
    refine aw_dup (pc' := 107) nd_M_type_106 rfl rfl ?_
    refine aw_get (pc' := 110) nd_M_type_107 rfl nF_5_134 g_M_length ?_
    refine aw_iconst (pc' := 111) (x := 1) nd_M_type_110 rfl (by decide) ?_
    refine aw_iadd (pc' := 112) nd_M_type_111 rfl ?_
    refine aw_put (pc' := 115) nd_M_type_112 rfl nF_5_134 trivial p_M_length ?_
    refine aw_iconst (pc' := 116) (x := 1) nd_M_type_115 rfl (by decide) ?_
    refine aw_ireturn nd_M_type_116 rfl (by first | rfl | assumption) (Nat.le_of_ble_eq_true rfl) (Nat.le_of_ble_eq_true rfl) ?_
    rw [ms_o (by decide), hn, nI_1]
    exact hq1 hm hlt
  · skip
    refine aw_iconst (pc' := 94) (x := 0) nd_M_type_93 rfl (by decide) ?_
    refine aw_ireturn nd_M_type_94 rfl (by first | rfl | assumption) (Nat.le_of_ble_eq_true rfl) (Nat.le_of_ble_eq_true rfl) ?_
    refine hq0 (Or.inr ?_)
    have e := congrArg Int32.toNatClampNeg hb90
    rw [nI_clamp (by omega), nI_clamp (by decide)] at e
    exact e

theorem l_M_type65 {L : Nat} {xs : Nat → Int32} {d : Nat} {Q : ax_Q} {μ : nMem} {c : Int32} {n : Nat} (hn : μ.1 104 2 = nI n) (hle : n ≤ 30) (hq1 : mhM c = true → n < 30 → Q (some (.int 1)) (ns_rep (ms (ms μ 105 n c) 104 2 (nI (n + 1))))) (hq0 : (mhM c = false ∨ n = 30) → Q (some (.int 0)) (ns_rep μ)) {w : Option Value} (b : Bool) (hb : b = sgM c) : nW L xs (d + 1) ns_I_M_type Q 65 [some (.ref 104), some (.int c), w] [.int (bi b)] 0 0 (ns_rep μ) := by
  refine aw_istore_n (pc' := 66) (ls' := [_, _, _]) nd_M_type_65 rfl (Nat.le_of_ble_eq_true rfl) rfl ?_
  refine aw_iload_n (pc' := 67) nd_M_type_66 rfl rfl ?_
  refine aw_if_ne (pc' := 70) (tg := 84) nd_M_type_67 (by decide) rfl (fun hb67 => ?_) (fun hb67 => ?_)
  · skip
    refine l_M_type84 hn hle hq1 hq0 ?_
    unfold mhM
    rw [← hb]
    first
      | (rw [bi_t hb67]; rfl)
      | (rw [bi_t hb74]; simp)
      | (rw [bi_t hb81]; simp)
  · skip
    refine aw_iload_n (pc' := 71) nd_M_type_70 rfl rfl ?_
    refine aw_callS (a := 0) (pc' := 74) (as := [_]) (st := []) nd_M_type_71 rfl nC_5_127 ⟨(Nat.le_of_ble_eq_true rfl), rfl, rfl⟩ (Nat.le_of_ble_eq_true rfl) (Nat.le_of_ble_eq_true rfl) (Nat.le_of_ble_eq_true rfl) ?_
    refine c_M_isLetter ?_
    show nW _ _ _ _ _ 74 _ [_] _ _ _
    refine aw_if_ne (pc' := 77) (tg := 84) nd_M_type_74 (by decide) rfl (fun hb74 => ?_) (fun hb74 => ?_)
    · skip
      refine l_M_type84 hn hle hq1 hq0 ?_
      unfold mhM
      rw [← hb]
      first
        | (rw [bi_t hb67]; rfl)
        | (rw [bi_t hb74]; simp)
        | (rw [bi_t hb81]; simp)
    · skip
      refine aw_iload_n (pc' := 78) nd_M_type_77 rfl rfl ?_
      refine aw_callS (a := 0) (pc' := 81) (as := [_]) (st := []) nd_M_type_78 rfl nC_5_131 ⟨(Nat.le_of_ble_eq_true rfl), rfl, rfl⟩ (Nat.le_of_ble_eq_true rfl) (Nat.le_of_ble_eq_true rfl) (Nat.le_of_ble_eq_true rfl) ?_
      refine c_M_isDigit ?_
      show nW _ _ _ _ _ 81 _ [_] _ _ _
      refine aw_if_eq (pc' := 84) (tg := 93) nd_M_type_81 (by decide) rfl (fun hb81 => ?_) (fun hb81 => ?_)
      · skip
        refine aw_iconst (pc' := 94) (x := 0) nd_M_type_93 rfl (by decide) ?_
        refine aw_ireturn nd_M_type_94 rfl (by first | rfl | assumption) (Nat.le_of_ble_eq_true rfl) (Nat.le_of_ble_eq_true rfl) ?_
        refine hq0 (Or.inl ?_)
        unfold mhM
        rw [← hb, bi_f hb67, bi_f hb74, bi_f hb81]
        rfl
      · skip
        refine l_M_type84 hn hle hq1 hq0 ?_
        unfold mhM
        rw [← hb]
        first
          | (rw [bi_t hb67]; rfl)
          | (rw [bi_t hb74]; simp)
          | (rw [bi_t hb81]; simp)

theorem c_M_type {L : Nat} {xs : Nat → Int32} {d : Nat} {Q : ax_Q} {μ : nMem} {c : Int32} {n : Nat} (hn : μ.1 104 2 = nI n) (hle : n ≤ 30) (hq1 : mhM c = true → n < 30 → Q (some (.int 1)) (ns_rep (ms (ms μ 105 n c) 104 2 (nI (n + 1))))) (hq0 : (mhM c = false ∨ n = 30) → Q (some (.int 0)) (ns_rep μ)) : nM L xs (d + 2) 34 [.ref 104, .int c] (ns_rep μ) Q := by
  refine nM.of ns_I_M_type rfl (ls := [_, _, _]) (Nat.le_of_ble_eq_true rfl) rfl ?_
  refine aw_iload_n (pc' := 1) nd_M_type_0 rfl rfl ?_
  refine aw_bipush (pc' := 3) (x := 40) nd_M_type_1 rfl (by decide) ?_
  refine aw_icmp_eq (pc' := 6) (tg := 60) nd_M_type_3 (by decide) rfl (fun hb3 => ?_) (fun hb3 => ?_)
  · skip
    refine aw_iconst (pc' := 61) (x := 1) nd_M_type_60 rfl (by decide) ?_
    refine aw_goto (pc' := 65) nd_M_type_61 (by decide) ?_
    first
      | exact l_M_type65 hn hle hq1 hq0 true (by simp [sgM, *])
      | exact l_M_type65 hn hle hq1 hq0 false (by simp [sgM, *])
  · skip
    refine aw_iload_n (pc' := 7) nd_M_type_6 rfl rfl ?_
    refine aw_bipush (pc' := 9) (x := 41) nd_M_type_7 rfl (by decide) ?_
    refine aw_icmp_eq (pc' := 12) (tg := 60) nd_M_type_9 (by decide) rfl (fun hb9 => ?_) (fun hb9 => ?_)
    · skip
      refine aw_iconst (pc' := 61) (x := 1) nd_M_type_60 rfl (by decide) ?_
      refine aw_goto (pc' := 65) nd_M_type_61 (by decide) ?_
      first
        | exact l_M_type65 hn hle hq1 hq0 true (by simp [sgM, *])
        | exact l_M_type65 hn hle hq1 hq0 false (by simp [sgM, *])
    · skip
      refine aw_iload_n (pc' := 13) nd_M_type_12 rfl rfl ?_
      refine aw_bipush (pc' := 15) (x := 42) nd_M_type_13 rfl (by decide) ?_
      refine aw_icmp_eq (pc' := 18) (tg := 60) nd_M_type_15 (by decide) rfl (fun hb15 => ?_) (fun hb15 => ?_)
      · skip
        refine aw_iconst (pc' := 61) (x := 1) nd_M_type_60 rfl (by decide) ?_
        refine aw_goto (pc' := 65) nd_M_type_61 (by decide) ?_
        first
          | exact l_M_type65 hn hle hq1 hq0 true (by simp [sgM, *])
          | exact l_M_type65 hn hle hq1 hq0 false (by simp [sgM, *])
      · skip
        refine aw_iload_n (pc' := 19) nd_M_type_18 rfl rfl ?_
        refine aw_bipush (pc' := 21) (x := 43) nd_M_type_19 rfl (by decide) ?_
        refine aw_icmp_eq (pc' := 24) (tg := 60) nd_M_type_21 (by decide) rfl (fun hb21 => ?_) (fun hb21 => ?_)
        · skip
          refine aw_iconst (pc' := 61) (x := 1) nd_M_type_60 rfl (by decide) ?_
          refine aw_goto (pc' := 65) nd_M_type_61 (by decide) ?_
          first
            | exact l_M_type65 hn hle hq1 hq0 true (by simp [sgM, *])
            | exact l_M_type65 hn hle hq1 hq0 false (by simp [sgM, *])
        · skip
          refine aw_iload_n (pc' := 25) nd_M_type_24 rfl rfl ?_
          refine aw_bipush (pc' := 27) (x := 45) nd_M_type_25 rfl (by decide) ?_
          refine aw_icmp_eq (pc' := 30) (tg := 60) nd_M_type_27 (by decide) rfl (fun hb27 => ?_) (fun hb27 => ?_)
          · skip
            refine aw_iconst (pc' := 61) (x := 1) nd_M_type_60 rfl (by decide) ?_
            refine aw_goto (pc' := 65) nd_M_type_61 (by decide) ?_
            first
              | exact l_M_type65 hn hle hq1 hq0 true (by simp [sgM, *])
              | exact l_M_type65 hn hle hq1 hq0 false (by simp [sgM, *])
          · skip
            refine aw_iload_n (pc' := 31) nd_M_type_30 rfl rfl ?_
            refine aw_bipush (pc' := 33) (x := 58) nd_M_type_31 rfl (by decide) ?_
            refine aw_icmp_eq (pc' := 36) (tg := 60) nd_M_type_33 (by decide) rfl (fun hb33 => ?_) (fun hb33 => ?_)
            · skip
              refine aw_iconst (pc' := 61) (x := 1) nd_M_type_60 rfl (by decide) ?_
              refine aw_goto (pc' := 65) nd_M_type_61 (by decide) ?_
              first
                | exact l_M_type65 hn hle hq1 hq0 true (by simp [sgM, *])
                | exact l_M_type65 hn hle hq1 hq0 false (by simp [sgM, *])
            · skip
              refine aw_iload_n (pc' := 37) nd_M_type_36 rfl rfl ?_
              refine aw_bipush (pc' := 39) (x := 60) nd_M_type_37 rfl (by decide) ?_
              refine aw_icmp_eq (pc' := 42) (tg := 60) nd_M_type_39 (by decide) rfl (fun hb39 => ?_) (fun hb39 => ?_)
              · skip
                refine aw_iconst (pc' := 61) (x := 1) nd_M_type_60 rfl (by decide) ?_
                refine aw_goto (pc' := 65) nd_M_type_61 (by decide) ?_
                first
                  | exact l_M_type65 hn hle hq1 hq0 true (by simp [sgM, *])
                  | exact l_M_type65 hn hle hq1 hq0 false (by simp [sgM, *])
              · skip
                refine aw_iload_n (pc' := 43) nd_M_type_42 rfl rfl ?_
                refine aw_bipush (pc' := 45) (x := 61) nd_M_type_43 rfl (by decide) ?_
                refine aw_icmp_eq (pc' := 48) (tg := 60) nd_M_type_45 (by decide) rfl (fun hb45 => ?_) (fun hb45 => ?_)
                · skip
                  refine aw_iconst (pc' := 61) (x := 1) nd_M_type_60 rfl (by decide) ?_
                  refine aw_goto (pc' := 65) nd_M_type_61 (by decide) ?_
                  first
                    | exact l_M_type65 hn hle hq1 hq0 true (by simp [sgM, *])
                    | exact l_M_type65 hn hle hq1 hq0 false (by simp [sgM, *])
                · skip
                  refine aw_iload_n (pc' := 49) nd_M_type_48 rfl rfl ?_
                  refine aw_bipush (pc' := 51) (x := 63) nd_M_type_49 rfl (by decide) ?_
                  refine aw_icmp_eq (pc' := 54) (tg := 60) nd_M_type_51 (by decide) rfl (fun hb51 => ?_) (fun hb51 => ?_)
                  · skip
                    refine aw_iconst (pc' := 61) (x := 1) nd_M_type_60 rfl (by decide) ?_
                    refine aw_goto (pc' := 65) nd_M_type_61 (by decide) ?_
                    first
                      | exact l_M_type65 hn hle hq1 hq0 true (by simp [sgM, *])
                      | exact l_M_type65 hn hle hq1 hq0 false (by simp [sgM, *])
                  · skip
                    refine aw_iload_n (pc' := 55) nd_M_type_54 rfl rfl ?_
                    refine aw_bipush (pc' := 57) (x := 64) nd_M_type_55 rfl (by decide) ?_
                    refine aw_icmp_ne (pc' := 60) (tg := 64) nd_M_type_57 (by decide) rfl (fun hb57 => ?_) (fun hb57 => ?_)
                    · skip
                      refine aw_iconst (pc' := 65) (x := 0) nd_M_type_64 rfl (by decide) ?_
                      first
                        | exact l_M_type65 hn hle hq1 hq0 true (by simp [sgM, *])
                        | exact l_M_type65 hn hle hq1 hq0 false (by simp [sgM, *])
                    · skip
                      refine aw_iconst (pc' := 61) (x := 1) nd_M_type_60 rfl (by decide) ?_
                      refine aw_goto (pc' := 65) nd_M_type_61 (by decide) ?_
                      first
                        | exact l_M_type65 hn hle hq1 hq0 true (by simp [sgM, *])
                        | exact l_M_type65 hn hle hq1 hq0 false (by simp [sgM, *])

theorem l_M_change {L : Nat} {xs : Nat → Int32} {d : Nat} {Q : ax_Q} {m : nMem} {v : Int32} {j : Nat} (hj : j < 3) (hv : m.1 104 3 = v) (hq : Q none (ns_rep (srm (j + 1) m v))) : ∀ z i, z + i = j + 1 → nW L xs d ns_I_M_change Q 12 [some (.ref 104), some (.int (nI j)), some (.int (nI i))] [] 0 0 (ns_rep (srm i m v)) := by
  intro z
  induction z with
  | zero =>
    intro i hi
    obtain rfl : i = j + 1 := by omega
    refine aw_iload_n (pc' := 13) nd_M_change_12 rfl rfl ?_
    refine aw_iload_n (pc' := 14) nd_M_change_13 rfl rfl ?_
    refine aw_icmp_gt (pc' := 17) (tg := 33) nd_M_change_14 (by decide) rfl (fun _ => ?_) (fun hx => absurd (nI_lt (by omega) (by omega)) hx)
    refine aw_return nd_M_change_33 rfl (Nat.le_of_ble_eq_true rfl) (Nat.le_of_ble_eq_true rfl) ?_
    exact hq
  | succ z ih =>
    intro i hi
    refine aw_iload_n (pc' := 13) nd_M_change_12 rfl rfl ?_
    refine aw_iload_n (pc' := 14) nd_M_change_13 rfl rfl ?_
    refine aw_icmp_gt (pc' := 17) (tg := 33) nd_M_change_14 (by decide) rfl (fun hx => absurd hx (nI_nlt (by omega) (by omega))) (fun _ => ?_)
    refine aw_aload_n (pc' := 18) nd_M_change_17 rfl rfl rfl ?_
    refine aw_get (pc' := 21) nd_M_change_18 rfl nF_5_17 g_M_changes ?_
    refine aw_iload_n (pc' := 22) nd_M_change_21 rfl rfl ?_
    refine aw_aload_n (pc' := 23) nd_M_change_22 rfl rfl rfl ?_
    refine aw_get (pc' := 26) nd_M_change_23 rfl nF_5_13 g_M_revision ?_
    refine aw_iast (pc' := 27) nd_M_change_26 rfl rfl i rfl (by omega) pa_Mchanges ?_
    refine aw_iinc (pc' := 30) (ls' := [_, _, _]) nd_M_change_27 rfl rfl (nI_1 i) rfl ?_
    refine aw_goto (pc' := 12) nd_M_change_30 (by decide) ?_
    rw [show (srm i m v).1 104 3 = v from by rw [srm_o (by decide)]; exact hv]
    exact ih (i + 1) (by omega)

theorem c_M_change {L : Nat} {xs : Nat → Int32} {d : Nat} {Q : ax_Q} {μ : nMem} {j : Nat} (hj : j < 3) (hq : Q none (ns_rep (srmv μ j))) : nM L xs (d + 1) 48 [.ref 104, .int (nI j)] (ns_rep μ) Q := by
  refine nM.of ns_I_M_change rfl (ls := [_, _, _]) (Nat.le_of_ble_eq_true rfl) rfl ?_
  refine aw_aload_n (pc' := 1) nd_M_change_0 rfl rfl rfl ?_
  refine aw_dup (pc' := 2) nd_M_change_1 rfl rfl ?_
  refine aw_get (pc' := 5) nd_M_change_2 rfl nF_5_13 g_M_revision ?_
  refine aw_iconst (pc' := 6) (x := 1) nd_M_change_5 rfl (by decide) ?_
  refine aw_iadd (pc' := 7) nd_M_change_6 rfl ?_
  refine aw_put (pc' := 10) nd_M_change_7 rfl nF_5_13 trivial p_M_revision ?_
  refine aw_iconst (pc' := 11) (x := 0) nd_M_change_10 rfl (by decide) ?_
  refine aw_istore_n (pc' := 12) (ls' := [_, _, _]) nd_M_change_11 rfl (Nat.le_of_ble_eq_true rfl) rfl ?_
  exact l_M_change hj (by rw [ms_s, pk_us]) hq (j + 1) 0 (by omega)

theorem l_M_set105 {L : Nat} {xs : Nat → Int32} {d : Nat} {Q : ax_Q} {μ m : nMem} {v y w : Int32} {j : Nat} (hj : j < 12) {b : Int32} (hq : Q (some (.int 1)) (ns_rep (ms (ms (ms (ms (ms (ms m 116 j b) 107 j 0) 117 j 0) 118 j 0) 114 j v) 115 j y))) : nW L xs d ns_I_M_set Q 105 [some (.ref 104), some (.int (nI j)), some (.int v), some (.int y), some (.int w)] [.int b, .int (nI j), .ref 116] 0 0 (ns_rep m) := by
  refine aw_iast (pc' := 106) nd_M_set_105 rfl rfl j rfl hj pa_Mborn ?_
  refine aw_aload_n (pc' := 107) nd_M_set_106 rfl rfl rfl ?_
  refine aw_get (pc' := 110) nd_M_set_107 rfl nF_5_20 g_M_formula ?_
  refine aw_iload_n (pc' := 111) nd_M_set_110 rfl rfl ?_
  refine aw_iconst (pc' := 112) (x := 0) nd_M_set_111 rfl (by decide) ?_
  refine aw_bast (pc' := 113) nd_M_set_112 rfl nz0 j rfl hj pa_Mformula ?_
  refine aw_aload_n (pc' := 114) nd_M_set_113 rfl rfl rfl ?_
  refine aw_get (pc' := 117) nd_M_set_114 rfl nF_5_51 g_M_noted ?_
  refine aw_iload_n (pc' := 118) nd_M_set_117 rfl rfl ?_
  refine aw_iconst (pc' := 119) (x := 0) nd_M_set_118 rfl (by decide) ?_
  refine aw_bast (pc' := 120) nd_M_set_119 rfl nz0 j rfl hj pa_Mnoted ?_
  refine aw_aload_n (pc' := 121) nd_M_set_120 rfl rfl rfl ?_
  refine aw_get (pc' := 124) nd_M_set_121 rfl nF_5_54 g_M_valued ?_
  refine aw_iload_n (pc' := 125) nd_M_set_124 rfl rfl ?_
  refine aw_iconst (pc' := 126) (x := 0) nd_M_set_125 rfl (by decide) ?_
  refine aw_bast (pc' := 127) nd_M_set_126 rfl nz0 j rfl hj pa_Mvalued ?_
  refine aw_aload_n (pc' := 128) nd_M_set_127 rfl rfl rfl ?_
  refine aw_get (pc' := 131) nd_M_set_128 rfl nF_5_42 g_M_number ?_
  refine aw_iload_n (pc' := 132) nd_M_set_131 rfl rfl ?_
  refine aw_iload_n (pc' := 133) nd_M_set_132 rfl rfl ?_
  refine aw_iast (pc' := 134) nd_M_set_133 rfl rfl j rfl hj pa_Mnumber ?_
  refine aw_aload_n (pc' := 135) nd_M_set_134 rfl rfl rfl ?_
  refine aw_get (pc' := 138) nd_M_set_135 rfl nF_5_45 g_M_durable ?_
  refine aw_iload_n (pc' := 139) nd_M_set_138 rfl rfl ?_
  refine aw_iload_n (pc' := 140) nd_M_set_139 rfl rfl ?_
  refine aw_iast (pc' := 141) nd_M_set_140 rfl rfl j rfl hj pa_Mdurable ?_
  refine aw_iconst (pc' := 142) (x := 1) nd_M_set_141 rfl (by decide) ?_
  refine aw_ireturn nd_M_set_142 rfl (by first | rfl | assumption) (Nat.le_of_ble_eq_true rfl) (Nat.le_of_ble_eq_true rfl) ?_
  exact hq

theorem l_M_set69 {L : Nat} {xs : Nat → Int32} {d : Nat} {Q : ax_Q} {μ : nMem} {v y : Int32} {j : Nat} (hj : j < 12) {o : Nat} (ho : o < 3) (hq : Q (some (.int 1)) (ns_rep (mkS μ j o v y))) : nW L xs (d + 1) ns_I_M_set Q 69 [some (.ref 104), some (.int (nI j)), some (.int v), some (.int y), some (.int (μ.1 107 j))] [.int (nI o), .ref 104] 0 0 (ns_rep μ) := by
  refine aw_callV (pc' := 72) (as := [_]) (st := []) nd_M_set_69 rfl nC_5_188 ⟨(Nat.le_of_ble_eq_true rfl), rfl, rfl⟩ ns_ioM (Nat.le_of_ble_eq_true rfl) (Nat.le_of_ble_eq_true rfl) (Nat.le_of_ble_eq_true rfl) ?_
  refine c_M_change ho ?_
  show nW _ _ _ _ _ 72 _ [] _ _ _
  refine aw_aload_n (pc' := 73) nd_M_set_72 rfl rfl rfl ?_
  refine aw_get (pc' := 76) nd_M_set_73 rfl nF_5_48 g_M_born ?_
  refine aw_iload_n (pc' := 77) nd_M_set_76 rfl rfl ?_
  refine aw_iload (pc' := 79) nd_M_set_77 rfl rfl ?_
  refine aw_if_ne (pc' := 82) (tg := 92) nd_M_set_79 (by decide) rfl (fun hb79 => ?_) (fun hb79 => ?_)
  · skip
    refine aw_aload_n (pc' := 93) nd_M_set_92 rfl rfl rfl ?_
    refine aw_get (pc' := 96) nd_M_set_93 rfl nF_5_13 g_M_revision ?_
    refine aw_goto (pc' := 105) nd_M_set_96 (by decide) ?_
    refine l_M_set105 (μ := μ) hj ?_
    have hS := hq
    unfold mkS bS at hS
    first
      | (rw [if_neg (fun z => hb79 z.1)] at hS; exact hS)
      | (rw [srmv_o (by decide) (by decide)] at hb89; rw [if_neg (fun z => hb89 z.2)] at hS; exact hS)
      | (rw [srmv_o (by decide) (by decide)] at hb89; rw [if_pos ⟨hb79, hb89⟩] at hS; rw [srmv_o (by decide) (by decide)]; exact hS)
  · skip
    refine aw_aload_n (pc' := 83) nd_M_set_82 rfl rfl rfl ?_
    refine aw_get (pc' := 86) nd_M_set_83 rfl nF_5_42 g_M_number ?_
    refine aw_iload_n (pc' := 87) nd_M_set_86 rfl rfl ?_
    refine aw_iald (pc' := 88) nd_M_set_87 rfl ga_Mnumber j rfl hj ?_
    refine aw_iload_n (pc' := 89) nd_M_set_88 rfl rfl ?_
    refine aw_icmp_eq (pc' := 92) (tg := 99) nd_M_set_89 (by decide) rfl (fun hb89 => ?_) (fun hb89 => ?_)
    · skip
      refine aw_aload_n (pc' := 100) nd_M_set_99 rfl rfl rfl ?_
      refine aw_get (pc' := 103) nd_M_set_100 rfl nF_5_48 g_M_born ?_
      refine aw_iload_n (pc' := 104) nd_M_set_103 rfl rfl ?_
      refine aw_iald (pc' := 105) nd_M_set_104 rfl ga_Mborn j rfl hj ?_
      refine l_M_set105 (μ := μ) hj ?_
      have hS := hq
      unfold mkS bS at hS
      first
        | (rw [if_neg (fun z => hb79 z.1)] at hS; exact hS)
        | (rw [srmv_o (by decide) (by decide)] at hb89; rw [if_neg (fun z => hb89 z.2)] at hS; exact hS)
        | (rw [srmv_o (by decide) (by decide)] at hb89; rw [if_pos ⟨hb79, hb89⟩] at hS; rw [srmv_o (by decide) (by decide)]; exact hS)
    · skip
      refine aw_aload_n (pc' := 93) nd_M_set_92 rfl rfl rfl ?_
      refine aw_get (pc' := 96) nd_M_set_93 rfl nF_5_13 g_M_revision ?_
      refine aw_goto (pc' := 105) nd_M_set_96 (by decide) ?_
      refine l_M_set105 (μ := μ) hj ?_
      have hS := hq
      unfold mkS bS at hS
      first
        | (rw [if_neg (fun z => hb79 z.1)] at hS; exact hS)
        | (rw [srmv_o (by decide) (by decide)] at hb89; rw [if_neg (fun z => hb89 z.2)] at hS; exact hS)
        | (rw [srmv_o (by decide) (by decide)] at hb89; rw [if_pos ⟨hb79, hb89⟩] at hS; rw [srmv_o (by decide) (by decide)]; exact hS)

theorem l_M_set53 {L : Nat} {xs : Nat → Int32} {d : Nat} {Q : ax_Q} {μ : nMem} {v y : Int32} {j : Nat} (hj : j < 12) {o : Nat} (hm : mD μ j = nI o) (ho : o < 3) (hq : Q (some (.int 1)) (ns_rep (mkS μ j o v y))) : nW L xs (d + 1) ns_I_M_set Q 53 [some (.ref 104), some (.int (nI j)), some (.int v), some (.int y), some (.int (μ.1 107 j))] [] 0 0 (ns_rep μ) := by
  refine aw_aload_n (pc' := 54) nd_M_set_53 rfl rfl rfl ?_
  refine aw_iload (pc' := 56) nd_M_set_54 rfl rfl ?_
  refine aw_if_eq (pc' := 59) (tg := 63) nd_M_set_56 (by decide) rfl (fun hb56 => ?_) (fun hb56 => ?_)
  · skip
    refine aw_aload_n (pc' := 64) nd_M_set_63 rfl rfl rfl ?_
    refine aw_get (pc' := 67) nd_M_set_64 rfl nF_5_45 g_M_durable ?_
    refine aw_iload_n (pc' := 68) nd_M_set_67 rfl rfl ?_
    refine aw_iald (pc' := 69) nd_M_set_68 rfl ga_Mdurable j rfl hj ?_
    have e := hm
    unfold mD at e
    first
      | (rw [if_pos hb56] at e; rw [e]; exact l_M_set69 hj ho hq)
      | (rw [if_neg hb56] at e; rw [e]; exact l_M_set69 hj ho hq)
  · skip
    refine aw_iconst (pc' := 60) (x := 2) nd_M_set_59 rfl (by decide) ?_
    refine aw_goto (pc' := 69) nd_M_set_60 (by decide) ?_
    have e := hm
    unfold mD at e
    first
      | (rw [if_pos hb56] at e; rw [e]; exact l_M_set69 hj ho hq)
      | (rw [if_neg hb56] at e; rw [e]; exact l_M_set69 hj ho hq)

theorem c_M_set {L : Nat} {xs : Nat → Int32} {d : Nat} {Q : ax_Q} {μ : nMem} {x v y : Int32} (hq0 : (ic x = false ∨ idr y = false) → Q (some (.int 0)) (ns_rep μ)) (hd : ∀ j, j < 12 → ∃ o, mD μ j = nI o ∧ o < 3) (hq1 : ∀ j e, j < 12 → e < 3 → x = nI j → y = nI e → μ.1 107 j = 0 → μ.1 114 j = v → μ.1 115 j = y → Q (some (.int 1)) (ns_rep μ)) (hq2 : ∀ j e o, j < 12 → e < 3 → x = nI j → y = nI e → ¬ (μ.1 107 j = 0 ∧ μ.1 114 j = v ∧ μ.1 115 j = y) → mD μ j = nI o → o < 3 → Q (some (.int 1)) (ns_rep (mkS μ j o v y))) : nM L xs (d + 2) 49 [.ref 104, .int x, .int v, .int y] (ns_rep μ) Q := by
  refine nM.of ns_I_M_set rfl (ls := [_, _, _, _, _]) (Nat.le_of_ble_eq_true rfl) rfl ?_
  refine aw_iload_n (pc' := 1) nd_M_set_0 rfl rfl ?_
  refine aw_callS (a := 0) (pc' := 4) (as := [_]) (st := []) nd_M_set_1 rfl nC_5_185 ⟨(Nat.le_of_ble_eq_true rfl), rfl, rfl⟩ (Nat.le_of_ble_eq_true rfl) (Nat.le_of_ble_eq_true rfl) (Nat.le_of_ble_eq_true rfl) ?_
  refine c_M_isCell ?_
  show nW _ _ _ _ _ 4 _ [_] _ _ _
  refine aw_if_eq (pc' := 7) (tg := 16) nd_M_set_4 (by decide) rfl (fun hb4 => ?_) (fun hb4 => ?_)
  · skip
    refine aw_iconst (pc' := 17) (x := 0) nd_M_set_16 rfl (by decide) ?_
    refine aw_ireturn nd_M_set_17 rfl (by first | rfl | assumption) (Nat.le_of_ble_eq_true rfl) (Nat.le_of_ble_eq_true rfl) ?_
    first
      | exact hq0 (Or.inl (bi_f hb4))
      | exact hq0 (Or.inr (by unfold idr; rw [if_neg hb8, if_pos (Int32.not_le.mp hb13)]))
      | exact hq0 (Or.inr (by unfold idr; rw [if_pos hb8]))
  · skip
    refine aw_iload_n (pc' := 8) nd_M_set_7 rfl rfl ?_
    refine aw_if_lt (pc' := 11) (tg := 16) nd_M_set_8 (by decide) rfl (fun hb8 => ?_) (fun hb8 => ?_)
    · skip
      refine aw_iconst (pc' := 17) (x := 0) nd_M_set_16 rfl (by decide) ?_
      refine aw_ireturn nd_M_set_17 rfl (by first | rfl | assumption) (Nat.le_of_ble_eq_true rfl) (Nat.le_of_ble_eq_true rfl) ?_
      first
        | exact hq0 (Or.inl (bi_f hb4))
        | exact hq0 (Or.inr (by unfold idr; rw [if_neg hb8, if_pos (Int32.not_le.mp hb13)]))
        | exact hq0 (Or.inr (by unfold idr; rw [if_pos hb8]))
    · skip
      refine aw_iload_n (pc' := 12) nd_M_set_11 rfl rfl ?_
      refine aw_iconst (pc' := 13) (x := 2) nd_M_set_12 rfl (by decide) ?_
      refine aw_icmp_le (pc' := 16) (tg := 18) nd_M_set_13 (by decide) rfl (fun hb13 => ?_) (fun hb13 => ?_)
      · skip
        obtain ⟨j, hj, rfl⟩ := ic_t (bi_t hb4)
        obtain ⟨e, he, rfl⟩ := idr_t (x := y) (by unfold idr; rw [if_neg hb8, if_neg (Int32.not_lt.mpr hb13)])
        obtain ⟨o, hm, ho⟩ := hd j hj
        refine aw_aload_n (pc' := 19) nd_M_set_18 rfl rfl rfl ?_
        refine aw_get (pc' := 22) nd_M_set_19 rfl nF_5_20 g_M_formula ?_
        refine aw_iload_n (pc' := 23) nd_M_set_22 rfl rfl ?_
        refine aw_bald (pc' := 24) nd_M_set_23 rfl ga_Mformula j rfl hj ?_
        refine aw_istore (pc' := 26) (ls' := [_, _, _, _, _]) nd_M_set_24 rfl (Nat.le_of_ble_eq_true rfl) rfl ?_
        refine aw_iload (pc' := 28) nd_M_set_26 rfl rfl ?_
        refine aw_if_ne (pc' := 31) (tg := 53) nd_M_set_28 (by decide) rfl (fun hb28 => ?_) (fun hb28 => ?_)
        · skip
          first
            | exact l_M_set53 hj hm ho (hq2 j e o hj he rfl rfl (fun z => hb28 z.1) hm ho)
            | exact l_M_set53 hj hm ho (hq2 j e o hj he rfl rfl (fun z => hb38 z.2.1) hm ho)
            | exact l_M_set53 hj hm ho (hq2 j e o hj he rfl rfl (fun z => hb48 z.2.2) hm ho)
        · skip
          refine aw_aload_n (pc' := 32) nd_M_set_31 rfl rfl rfl ?_
          refine aw_get (pc' := 35) nd_M_set_32 rfl nF_5_42 g_M_number ?_
          refine aw_iload_n (pc' := 36) nd_M_set_35 rfl rfl ?_
          refine aw_iald (pc' := 37) nd_M_set_36 rfl ga_Mnumber j rfl hj ?_
          refine aw_iload_n (pc' := 38) nd_M_set_37 rfl rfl ?_
          refine aw_icmp_ne (pc' := 41) (tg := 53) nd_M_set_38 (by decide) rfl (fun hb38 => ?_) (fun hb38 => ?_)
          · skip
            first
              | exact l_M_set53 hj hm ho (hq2 j e o hj he rfl rfl (fun z => hb28 z.1) hm ho)
              | exact l_M_set53 hj hm ho (hq2 j e o hj he rfl rfl (fun z => hb38 z.2.1) hm ho)
              | exact l_M_set53 hj hm ho (hq2 j e o hj he rfl rfl (fun z => hb48 z.2.2) hm ho)
          · skip
            refine aw_aload_n (pc' := 42) nd_M_set_41 rfl rfl rfl ?_
            refine aw_get (pc' := 45) nd_M_set_42 rfl nF_5_45 g_M_durable ?_
            refine aw_iload_n (pc' := 46) nd_M_set_45 rfl rfl ?_
            refine aw_iald (pc' := 47) nd_M_set_46 rfl ga_Mdurable j rfl hj ?_
            refine aw_iload_n (pc' := 48) nd_M_set_47 rfl rfl ?_
            refine aw_icmp_ne (pc' := 51) (tg := 53) nd_M_set_48 (by decide) rfl (fun hb48 => ?_) (fun hb48 => ?_)
            · skip
              first
                | exact l_M_set53 hj hm ho (hq2 j e o hj he rfl rfl (fun z => hb28 z.1) hm ho)
                | exact l_M_set53 hj hm ho (hq2 j e o hj he rfl rfl (fun z => hb38 z.2.1) hm ho)
                | exact l_M_set53 hj hm ho (hq2 j e o hj he rfl rfl (fun z => hb48 z.2.2) hm ho)
            · skip
              refine aw_iconst (pc' := 52) (x := 1) nd_M_set_51 rfl (by decide) ?_
              refine aw_ireturn nd_M_set_52 rfl (by first | rfl | assumption) (Nat.le_of_ble_eq_true rfl) (Nat.le_of_ble_eq_true rfl) ?_
              exact hq1 j e hj he rfl rfl hb28 hb38 hb48
      · skip
        refine aw_iconst (pc' := 17) (x := 0) nd_M_set_16 rfl (by decide) ?_
        refine aw_ireturn nd_M_set_17 rfl (by first | rfl | assumption) (Nat.le_of_ble_eq_true rfl) (Nat.le_of_ble_eq_true rfl) ?_
        first
          | exact hq0 (Or.inl (bi_f hb4))
          | exact hq0 (Or.inr (by unfold idr; rw [if_neg hb8, if_pos (Int32.not_le.mp hb13)]))
          | exact hq0 (Or.inr (by unfold idr; rw [if_pos hb8]))

