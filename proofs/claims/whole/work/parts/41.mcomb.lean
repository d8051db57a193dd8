/-! the model's asking: combine, enter -/
def cbM (w x y : Int32) : Int64 := if w = 4 then (x * y).toInt64 else if w = 5 then (x + y).toInt64 else if w = 6 then (x - y).toInt64 else if w = 7 then (if x < y then 1 else 0) else if x = y then 1 else 0
def psM (μ : nMem) (f t : Nat) (v : Int64) : nMem := ms (ml μ 132 (16 * f + t) v) 131 f (nI (t + 1))

theorem l_M_combine89 {L : Nat} {xs : Nat → Int32} {d : Nat} {Q : ax_Q} {m : nMem} {f t : Nat} {v : Int64} (hf : f < 12) (ht : m.1 131 f = nI t) (hlt : t < 16) {ls : List (Option Value)} (hq : Q none (ns_rep (psM m f t v))) : nW L xs (d + 1) ns_I_M_combine Q 89 ls [.long v, .int (nI f), .ref 104] 0 0 (ns_rep m) := by
  refine aw_callV (pc' := 92) (as := [_, _]) (st := []) nd_M_combine_89 rfl nC_5_235 ⟨(Nat.le_of_ble_eq_true rfl), rfl, rfl⟩ ns_ioM (Nat.le_of_ble_eq_true rfl) (Nat.le_of_ble_eq_true rfl) (Nat.le_of_ble_eq_true rfl) ?_
  refine c_M_push hf ht hlt ?_
  show nW _ _ _ _ _ 92 _ [] _ _ _
  refine aw_return nd_M_combine_92 rfl (Nat.le_of_ble_eq_true rfl) (Nat.le_of_ble_eq_true rfl) ?_
  exact hq

theorem c_M_combine {L : Nat} {xs : Nat → Int32} {d : Nat} {Q : ax_Q} {μ : nMem} {f t : Nat} {w : Int32} (hf : f < 12) (ht : μ.1 131 f = nI (t + 2)) (hlt : t + 1 < 16) (hq : Q none (ns_rep (psM (ms μ 131 f (nI t)) f t (cbM w (μ.2 132 (16 * f + t)).toInt32 (μ.2 132 (16 * f + (t + 1))).toInt32)))) : nM L xs (d + 2) 64 [.ref 104, .int (nI f), .int w] (ns_rep μ) Q := by
  refine nM.of ns_I_M_combine rfl (ls := [_, _, _, _, _]) (Nat.le_of_ble_eq_true rfl) rfl ?_
  refine aw_aload_n (pc' := 1) nd_M_combine_0 rfl rfl rfl ?_
  refine aw_iload_n (pc' := 2) nd_M_combine_1 rfl rfl ?_
  refine aw_callV (pc' := 5) (as := [_]) (st := []) nd_M_combine_2 rfl nC_5_239 ⟨(Nat.le_of_ble_eq_true rfl), rfl, rfl⟩ ns_ioM (Nat.le_of_ble_eq_true rfl) (Nat.le_of_ble_eq_true rfl) (Nat.le_of_ble_eq_true rfl) ?_
  refine c_M_pop (t := t + 1) hf ht hlt ?_
  show nW _ _ _ _ _ 5 _ [_] _ _ _
  refine aw_l2i (pc' := 6) nd_M_combine_5 rfl ?_
  refine aw_istore_n (pc' := 7) (ls' := [_, _, _, _, _]) nd_M_combine_6 rfl (Nat.le_of_ble_eq_true rfl) rfl ?_
  refine aw_aload_n (pc' := 8) nd_M_combine_7 rfl rfl rfl ?_
  refine aw_iload_n (pc' := 9) nd_M_combine_8 rfl rfl ?_
  refine aw_callV (pc' := 12) (as := [_]) (st := []) nd_M_combine_9 rfl nC_5_239 ⟨(Nat.le_of_ble_eq_true rfl), rfl, rfl⟩ ns_ioM (Nat.le_of_ble_eq_true rfl) (Nat.le_of_ble_eq_true rfl) (Nat.le_of_ble_eq_true rfl) ?_
  refine c_M_pop (t := t) hf (by rw [ms_s, pk_us]) (by omega) ?_
  rw [ms_ms, ms_2]
  show nW _ _ _ _ _ 12 _ [_] _ _ _
  refine aw_l2i (pc' := 13) nd_M_combine_12 rfl ?_
  refine aw_istore (pc' := 15) (ls' := [_, _, _, _, _]) nd_M_combine_13 rfl (Nat.le_of_ble_eq_true rfl) rfl ?_
  refine aw_aload_n (pc' := 16) nd_M_combine_15 rfl rfl rfl ?_
  refine aw_iload_n (pc' := 17) nd_M_combine_16 rfl rfl ?_
  refine aw_iload_n (pc' := 18) nd_M_combine_17 rfl rfl ?_
  refine aw_iconst (pc' := 19) (x := 4) nd_M_combine_18 rfl (by decide) ?_
  refine aw_icmp_ne (pc' := 22) (tg := 30) nd_M_combine_19 (by decide) rfl (fun hb19 => ?_) (fun hb19 => ?_)
  · skip
    refine aw_iload_n (pc' := 31) nd_M_combine_30 rfl rfl ?_
    refine aw_iconst (pc' := 32) (x := 5) nd_M_combine_31 rfl (by decide) ?_
    refine aw_icmp_ne (pc' := 35) (tg := 43) nd_M_combine_32 (by decide) rfl (fun hb32 => ?_) (fun hb32 => ?_)
    · skip
      refine aw_iload_n (pc' := 44) nd_M_combine_43 rfl rfl ?_
      refine aw_bipush (pc' := 46) (x := 6) nd_M_combine_44 rfl (by decide) ?_
      refine aw_icmp_ne (pc' := 49) (tg := 57) nd_M_combine_46 (by decide) rfl (fun hb46 => ?_) (fun hb46 => ?_)
      · skip
        refine aw_iload_n (pc' := 58) nd_M_combine_57 rfl rfl ?_
        refine aw_bipush (pc' := 60) (x := 7) nd_M_combine_58 rfl (by decide) ?_
        refine aw_icmp_ne (pc' := 63) (tg := 78) nd_M_combine_60 (by decide) rfl (fun hb60 => ?_) (fun hb60 => ?_)
        · skip
          refine aw_iload (pc' := 80) nd_M_combine_78 rfl rfl ?_
          refine aw_iload_n (pc' := 81) nd_M_combine_80 rfl rfl ?_
          refine aw_icmp_ne (pc' := 84) (tg := 88) nd_M_combine_81 (by decide) rfl (fun hb81 => ?_) (fun hb81 => ?_)
          · skip
            refine aw_lconst (pc' := 89) (x := 0) nd_M_combine_88 rfl (by decide) ?_
            refine l_M_combine89 hf (by rw [ms_s, pk_us]) (by omega) ?_
            unfold cbM at hq
            first
              | (rw [if_pos hb19] at hq; exact hq)
              | (rw [if_neg hb19, if_pos hb32] at hq; exact hq)
              | (rw [if_neg hb19, if_neg hb32, if_pos hb46] at hq; exact hq)
              | (rw [if_neg hb19, if_neg hb32, if_neg hb46, if_pos hb60, if_pos (Int32.not_le.mp hb66)] at hq; exact hq)
              | (rw [if_neg hb19, if_neg hb32, if_neg hb46, if_pos hb60, if_neg (Int32.not_lt.mpr hb66)] at hq; exact hq)
              | (rw [if_neg hb19, if_neg hb32, if_neg hb46, if_neg hb60, if_pos hb81] at hq; exact hq)
              | (rw [if_neg hb19, if_neg hb32, if_neg hb46, if_neg hb60, if_neg hb81] at hq; exact hq)
          · skip
            refine aw_lconst (pc' := 85) (x := 1) nd_M_combine_84 rfl (by decide) ?_
            refine aw_goto (pc' := 89) nd_M_combine_85 (by decide) ?_
            refine l_M_combine89 hf (by rw [ms_s, pk_us]) (by omega) ?_
            unfold cbM at hq
            first
              | (rw [if_pos hb19] at hq; exact hq)
              | (rw [if_neg hb19, if_pos hb32] at hq; exact hq)
              | (rw [if_neg hb19, if_neg hb32, if_pos hb46] at hq; exact hq)
              | (rw [if_neg hb19, if_neg hb32, if_neg hb46, if_pos hb60, if_pos (Int32.not_le.mp hb66)] at hq; exact hq)
              | (rw [if_neg hb19, if_neg hb32, if_neg hb46, if_pos hb60, if_neg (Int32.not_lt.mpr hb66)] at hq; exact hq)
              | (rw [if_neg hb19, if_neg hb32, if_neg hb46, if_neg hb60, if_pos hb81] at hq; exact hq)
              | (rw [if_neg hb19, if_neg hb32, if_neg hb46, if_neg hb60, if_neg hb81] at hq; exact hq)
        · skip
          refine aw_iload (pc' := 65) nd_M_combine_63 rfl rfl ?_
          refine aw_iload_n (pc' := 66) nd_M_combine_65 rfl rfl ?_
          refine aw_icmp_ge (pc' := 69) (tg := 73) nd_M_combine_66 (by decide) rfl (fun hb66 => ?_) (fun hb66 => ?_)
          · skip
            refine aw_iconst (pc' := 74) (x := 0) nd_M_combine_73 rfl (by decide) ?_
            refine aw_i2l (pc' := 75) nd_M_combine_74 rfl ?_
            refine aw_goto (pc' := 89) nd_M_combine_75 (by decide) ?_
            refine l_M_combine89 hf (by rw [ms_s, pk_us]) (by omega) ?_
            unfold cbM at hq
            first
              | (rw [if_pos hb19] at hq; exact hq)
              | (rw [if_neg hb19, if_pos hb32] at hq; exact hq)
              | (rw [if_neg hb19, if_neg hb32, if_pos hb46] at hq; exact hq)
              | (rw [if_neg hb19, if_neg hb32, if_neg hb46, if_pos hb60, if_pos (Int32.not_le.mp hb66)] at hq; exact hq)
              | (rw [if_neg hb19, if_neg hb32, if_neg hb46, if_pos hb60, if_neg (Int32.not_lt.mpr hb66)] at hq; exact hq)
              | (rw [if_neg hb19, if_neg hb32, if_neg hb46, if_neg hb60, if_pos hb81] at hq; exact hq)
              | (rw [if_neg hb19, if_neg hb32, if_neg hb46, if_neg hb60, if_neg hb81] at hq; exact hq)
          · skip
            refine aw_iconst (pc' := 70) (x := 1) nd_M_combine_69 rfl (by decide) ?_
            refine aw_goto (pc' := 74) nd_M_combine_70 (by decide) ?_
            refine aw_i2l (pc' := 75) nd_M_combine_74 rfl ?_
            refine aw_goto (pc' := 89) nd_M_combine_75 (by decide) ?_
            refine l_M_combine89 hf (by rw [ms_s, pk_us]) (by omega) ?_
            unfold cbM at hq
            first
              | (rw [if_pos hb19] at hq; exact hq)
              | (rw [if_neg hb19, if_pos hb32] at hq; exact hq)
              | (rw [if_neg hb19, if_neg hb32, if_pos hb46] at hq; exact hq)
              | (rw [if_neg hb19, if_neg hb32, if_neg hb46, if_pos hb60, if_pos (Int32.not_le.mp hb66)] at hq; exact hq)
              | (rw [if_neg hb19, if_neg hb32, if_neg hb46, if_pos hb60, if_neg (Int32.not_lt.mpr hb66)] at hq; exact hq)
              | (rw [if_neg hb19, if_neg hb32, if_neg hb46, if_neg hb60, if_pos hb81] at hq; exact hq)
              | (rw [if_neg hb19, if_neg hb32, if_neg hb46, if_neg hb60, if_neg hb81] at hq; exact hq)
      · skip
        refine aw_iload (pc' := 51) nd_M_combine_49 rfl rfl ?_
        refine aw_iload_n (pc' := 52) nd_M_combine_51 rfl rfl ?_
        refine aw_isub (pc' := 53) nd_M_combine_52 rfl ?_
        refine aw_i2l (pc' := 54) nd_M_combine_53 rfl ?_
        refine aw_goto (pc' := 89) nd_M_combine_54 (by decide) ?_
        refine l_M_combine89 hf (by rw [ms_s, pk_us]) (by omega) ?_
        unfold cbM at hq
        first
          | (rw [if_pos hb19] at hq; exact hq)
          | (rw [if_neg hb19, if_pos hb32] at hq; exact hq)
          | (rw [if_neg hb19, if_neg hb32, if_pos hb46] at hq; exact hq)
          | (rw [if_neg hb19, if_neg hb32, if_neg hb46, if_pos hb60, if_pos (Int32.not_le.mp hb66)] at hq; exact hq)
          | (rw [if_neg hb19, if_neg hb32, if_neg hb46, if_pos hb60, if_neg (Int32.not_lt.mpr hb66)] at hq; exact hq)
          | (rw [if_neg hb19, if_neg hb32, if_neg hb46, if_neg hb60, if_pos hb81] at hq; exact hq)
          | (rw [if_neg hb19, if_neg hb32, if_neg hb46, if_neg hb60, if_neg hb81] at hq; exact hq)
    · skip
      refine aw_iload (pc' := 37) nd_M_combine_35 rfl rfl ?_
      refine aw_iload_n (pc' := 38) nd_M_combine_37 rfl rfl ?_
      refine aw_iadd (pc' := 39) nd_M_combine_38 rfl ?_
      refine aw_i2l (pc' := 40) nd_M_combine_39 rfl ?_
      refine aw_goto (pc' := 89) nd_M_combine_40 (by decide) ?_
      refine l_M_combine89 hf (by rw [ms_s, pk_us]) (by omega) ?_
      unfold cbM at hq
      first
        | (rw [if_pos hb19] at hq; exact hq)
        | (rw [if_neg hb19, if_pos hb32] at hq; exact hq)
        | (rw [if_neg hb19, if_neg hb32, if_pos hb46] at hq; exact hq)
        | (rw [if_neg hb19, if_neg hb32, if_neg hb46, if_pos hb60, if_pos (Int32.not_le.mp hb66)] at hq; exact hq)
        | (rw [if_neg hb19, if_neg hb32, if_neg hb46, if_pos hb60, if_neg (Int32.not_lt.mpr hb66)] at hq; exact hq)
        | (rw [if_neg hb19, if_neg hb32, if_neg hb46, if_neg hb60, if_pos hb81] at hq; exact hq)
        | (rw [if_neg hb19, if_neg hb32, if_neg hb46, if_neg hb60, if_neg hb81] at hq; exact hq)
  · skip
    refine aw_iload (pc' := 24) nd_M_combine_22 rfl rfl ?_
    refine aw_iload_n (pc' := 25) nd_M_combine_24 rfl rfl ?_
    refine aw_imul (pc' := 26) nd_M_combine_25 rfl ?_
    refine aw_i2l (pc' := 27) nd_M_combine_26 rfl ?_
    refine aw_goto (pc' := 89) nd_M_combine_27 (by decide) ?_
    refine l_M_combine89 hf (by rw [ms_s, pk_us]) (by omega) ?_
    unfold cbM at hq
    first
      | (rw [if_pos hb19] at hq; exact hq)
      | (rw [if_neg hb19, if_pos hb32] at hq; exact hq)
      | (rw [if_neg hb19, if_neg hb32, if_pos hb46] at hq; exact hq)
      | (rw [if_neg hb19, if_neg hb32, if_neg hb46, if_pos hb60, if_pos (Int32.not_le.mp hb66)] at hq; exact hq)
      | (rw [if_neg hb19, if_neg hb32, if_neg hb46, if_pos hb60, if_neg (Int32.not_lt.mpr hb66)] at hq; exact hq)
      | (rw [if_neg hb19, if_neg hb32, if_neg hb46, if_neg hb60, if_pos hb81] at hq; exact hq)
      | (rw [if_neg hb19, if_neg hb32, if_neg hb46, if_neg hb60, if_neg hb81] at hq; exact hq)

