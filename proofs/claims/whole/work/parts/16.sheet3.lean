/-! dropping values; texts; keepValue -/
/-- among the first i cells the one with a value that was used longest ago -/
def od (μ : nMem) : Nat → Option Nat
  | 0 => none
  | i + 1 => if μ.1 (nN i) 3 = 0 then od μ i else match od μ i with
    | none => some i
    | some o => if μ.1 (nC o) 10 ≤ μ.1 (nC i) 10 then some o else some i
theorem od_lt {μ : nMem} : ∀ {i o : Nat}, od μ i = some o → o < i := by
  intro i
  induction i with
  | zero => intro o h; cases h
  | succ i ih =>
    intro o h
    unfold od at h
    split at h
    · exact Nat.lt_succ_of_lt (ih h)
    · split at h
      · cases h; exact Nat.lt_succ_self _
      · rename_i o' he
        split at h
        · cases h; exact Nat.lt_succ_of_lt (ih he)
        · cases h; exact Nat.lt_succ_self _
def dl (μ : nMem) : nMem := match od μ 12 with
  | none => μ
  | some o => ms μ (nN o) 3 0
def dk : Nat → nMem → nMem
  | 0, μ => μ
  | z + 1, μ => dk z (dl μ)
theorem dl_0 {μ : nMem} : (dl μ).1 0 = μ.1 0 := by
  unfold dl
  split
  · rfl
  · exact ms_o (by unfold nN; omega)
def orf (o : Option Nat) : Value := match o with
  | none => .null
  | some o => .ref (nC o)

theorem l_N_drop {L : Nat} {xs : Nat → Int32} {d : Nat} {Q : ax_Q} {μ : nMem} (hq : Q none (ns_rep (dl μ))) : ∀ z i (o : Option Value), z + i = 12 → nW L xs d ns_I_N_dropLongestUnused Q 4 [some (.ref 0), some (orf (od μ i)), some (.int (nI i)), o] [] 0 0 (ns_rep μ) := by
  intro z
  induction z with
  | zero =>
    intro i o hi
    obtain rfl : i = 12 := by omega
    cases hod : od μ 12 with
    | none =>
      refine aw_iload_n (pc' := 5) nd_N_dropLongestUnused_4 rfl rfl ?_
      refine aw_bipush (pc' := 7) (x := 12) nd_N_dropLongestUnused_5 rfl (by decide) ?_
      refine aw_icmp_ge (pc' := 10) (tg := 50) nd_N_dropLongestUnused_7 (by decide) rfl (fun _ => ?_) (fun hx => absurd (by decide) hx)
      refine aw_aload_n (pc' := 51) nd_N_dropLongestUnused_50 rfl rfl rfl ?_
      refine aw_ifnullN (tg := 62) nd_N_dropLongestUnused_51 (by decide) ?_
      refine aw_return nd_N_dropLongestUnused_62 rfl (Nat.le_of_ble_eq_true rfl) (Nat.le_of_ble_eq_true rfl) ?_
      simpa [dl, hod] using hq
    | some w =>
      have hw := od_lt hod
      refine aw_iload_n (pc' := 5) nd_N_dropLongestUnused_4 rfl rfl ?_
      refine aw_bipush (pc' := 7) (x := 12) nd_N_dropLongestUnused_5 rfl (by decide) ?_
      refine aw_icmp_ge (pc' := 10) (tg := 50) nd_N_dropLongestUnused_7 (by decide) rfl (fun _ => ?_) (fun hx => absurd (by decide) hx)
      refine aw_aload_n (pc' := 51) nd_N_dropLongestUnused_50 rfl rfl rfl ?_
      refine aw_ifnull (pc' := 54) (tg := 62) nd_N_dropLongestUnused_51 (by decide) rfl ?_
      refine aw_aload_n (pc' := 55) nd_N_dropLongestUnused_54 rfl rfl rfl ?_
      refine aw_get (pc' := 58) nd_N_dropLongestUnused_55 rfl nF_0_113 (g_C_note (by assumption)) ?_
      refine aw_iconst (pc' := 59) (x := 0) nd_N_dropLongestUnused_58 rfl (by decide) ?_
      refine aw_put (pc' := 62) nd_N_dropLongestUnused_59 rfl nF_0_128 (by first | exact Or.inl rfl | exact Or.inr rfl | assumption) (p_O_hasValue (by assumption)) ?_
      refine aw_return nd_N_dropLongestUnused_62 rfl (Nat.le_of_ble_eq_true rfl) (Nat.le_of_ble_eq_true rfl) ?_
      simpa [dl, hod] using hq
  | succ z ih =>
    intro i o hi
    have hi12 : i < 12 := by omega
    cases hod : od μ i with
    | none =>
      refine aw_iload_n (pc' := 5) nd_N_dropLongestUnused_4 rfl rfl ?_
      refine aw_bipush (pc' := 7) (x := 12) nd_N_dropLongestUnused_5 rfl (by decide) ?_
      refine aw_icmp_ge (pc' := 10) (tg := 50) nd_N_dropLongestUnused_7 (by decide) rfl (fun hx => absurd hx (nI_ge (b := 12) hi12 (by decide))) (fun _ => ?_)
      refine aw_aload_n (pc' := 11) nd_N_dropLongestUnused_10 rfl rfl rfl ?_
      refine aw_get (pc' := 14) nd_N_dropLongestUnused_11 rfl nF_0_24 g_N_cells ?_
      refine aw_iload_n (pc' := 15) nd_N_dropLongestUnused_14 rfl rfl ?_
      refine aw_cells (pc' := 16) nd_N_dropLongestUnused_15 rfl i rfl hi12 ?_
      refine aw_astore_n (pc' := 17) (ls' := [_, _, _, _]) nd_N_dropLongestUnused_16 rfl rfl (Nat.le_of_ble_eq_true rfl) rfl ?_
      refine aw_aload_n (pc' := 18) nd_N_dropLongestUnused_17 rfl rfl rfl ?_
      refine aw_get (pc' := 21) nd_N_dropLongestUnused_18 rfl nF_0_113 (g_C_note (by assumption)) ?_
      refine aw_get (pc' := 24) nd_N_dropLongestUnused_21 rfl nF_0_128 (g_O_hasValue (by assumption)) ?_
      refine aw_if_eq (pc' := 27) (tg := 44) nd_N_dropLongestUnused_24 (by decide) rfl (fun hb24 => ?_) (fun hb24 => ?_)
      · skip
        refine aw_iinc (pc' := 47) (ls' := [_, _, _, _]) nd_N_dropLongestUnused_44 rfl rfl (nI_1 i) rfl ?_
        refine aw_goto (pc' := 4) nd_N_dropLongestUnused_47 (by decide) ?_
        have e := ih (i + 1) (some (.ref (nC i))) (by omega)
        simp only [od, hod, orf, hb24, if_true, if_false] at e
        exact e
      · skip
        refine aw_aload_n (pc' := 28) nd_N_dropLongestUnused_27 rfl rfl rfl ?_
        refine aw_ifnullN (tg := 42) nd_N_dropLongestUnused_28 (by decide) ?_
        refine aw_aload_n (pc' := 43) nd_N_dropLongestUnused_42 rfl rfl rfl ?_
        refine aw_astore_n (pc' := 44) (ls' := [_, _, _, _]) nd_N_dropLongestUnused_43 rfl rfl (Nat.le_of_ble_eq_true rfl) rfl ?_
        refine aw_iinc (pc' := 47) (ls' := [_, _, _, _]) nd_N_dropLongestUnused_44 rfl rfl (nI_1 i) rfl ?_
        refine aw_goto (pc' := 4) nd_N_dropLongestUnused_47 (by decide) ?_
        have e := ih (i + 1) (some (.ref (nC i))) (by omega)
        simp only [od, hod, orf, hb24, if_true, if_false] at e
        exact e
    | some w =>
      have hw := od_lt hod
      have hw12 : w < 12 := by omega
      refine aw_iload_n (pc' := 5) nd_N_dropLongestUnused_4 rfl rfl ?_
      refine aw_bipush (pc' := 7) (x := 12) nd_N_dropLongestUnused_5 rfl (by decide) ?_
      refine aw_icmp_ge (pc' := 10) (tg := 50) nd_N_dropLongestUnused_7 (by decide) rfl (fun hx => absurd hx (nI_ge (b := 12) hi12 (by decide))) (fun _ => ?_)
      refine aw_aload_n (pc' := 11) nd_N_dropLongestUnused_10 rfl rfl rfl ?_
      refine aw_get (pc' := 14) nd_N_dropLongestUnused_11 rfl nF_0_24 g_N_cells ?_
      refine aw_iload_n (pc' := 15) nd_N_dropLongestUnused_14 rfl rfl ?_
      refine aw_cells (pc' := 16) nd_N_dropLongestUnused_15 rfl i rfl hi12 ?_
      refine aw_astore_n (pc' := 17) (ls' := [_, _, _, _]) nd_N_dropLongestUnused_16 rfl rfl (Nat.le_of_ble_eq_true rfl) rfl ?_
      refine aw_aload_n (pc' := 18) nd_N_dropLongestUnused_17 rfl rfl rfl ?_
      refine aw_get (pc' := 21) nd_N_dropLongestUnused_18 rfl nF_0_113 (g_C_note (by assumption)) ?_
      refine aw_get (pc' := 24) nd_N_dropLongestUnused_21 rfl nF_0_128 (g_O_hasValue (by assumption)) ?_
      refine aw_if_eq (pc' := 27) (tg := 44) nd_N_dropLongestUnused_24 (by decide) rfl (fun hb24 => ?_) (fun hb24 => ?_)
      · skip
        refine aw_iinc (pc' := 47) (ls' := [_, _, _, _]) nd_N_dropLongestUnused_44 rfl rfl (nI_1 i) rfl ?_
        refine aw_goto (pc' := 4) nd_N_dropLongestUnused_47 (by decide) ?_
        have e := ih (i + 1) (some (.ref (nC i))) (by omega)
        first
          | (simp only [od, hod, orf, hb24, if_true, if_false] at e; exact e)
          | (simp only [od, hod, orf, hb24, hb39, if_true, if_false] at e; exact e)
      · skip
        refine aw_aload_n (pc' := 28) nd_N_dropLongestUnused_27 rfl rfl rfl ?_
        refine aw_ifnull (pc' := 31) (tg := 42) nd_N_dropLongestUnused_28 (by decide) rfl ?_
        refine aw_aload_n (pc' := 32) nd_N_dropLongestUnused_31 rfl rfl rfl ?_
        refine aw_get (pc' := 35) nd_N_dropLongestUnused_32 rfl nF_0_243 (g_C_lastUse (by assumption)) ?_
        refine aw_aload_n (pc' := 36) nd_N_dropLongestUnused_35 rfl rfl rfl ?_
        refine aw_get (pc' := 39) nd_N_dropLongestUnused_36 rfl nF_0_243 (g_C_lastUse (by assumption)) ?_
        refine aw_icmp_ge (pc' := 42) (tg := 44) nd_N_dropLongestUnused_39 (by decide) rfl (fun hb39 => ?_) (fun hb39 => ?_)
        · skip
          refine aw_iinc (pc' := 47) (ls' := [_, _, _, _]) nd_N_dropLongestUnused_44 rfl rfl (nI_1 i) rfl ?_
          refine aw_goto (pc' := 4) nd_N_dropLongestUnused_47 (by decide) ?_
          have e := ih (i + 1) (some (.ref (nC i))) (by omega)
          first
            | (simp only [od, hod, orf, hb24, if_true, if_false] at e; exact e)
            | (simp only [od, hod, orf, hb24, hb39, if_true, if_false] at e; exact e)
        · skip
          refine aw_aload_n (pc' := 43) nd_N_dropLongestUnused_42 rfl rfl rfl ?_
          refine aw_astore_n (pc' := 44) (ls' := [_, _, _, _]) nd_N_dropLongestUnused_43 rfl rfl (Nat.le_of_ble_eq_true rfl) rfl ?_
          refine aw_iinc (pc' := 47) (ls' := [_, _, _, _]) nd_N_dropLongestUnused_44 rfl rfl (nI_1 i) rfl ?_
          refine aw_goto (pc' := 4) nd_N_dropLongestUnused_47 (by decide) ?_
          have e := ih (i + 1) (some (.ref (nC i))) (by omega)
          first
            | (simp only [od, hod, orf, hb24, if_true, if_false] at e; exact e)
            | (simp only [od, hod, orf, hb24, hb39, if_true, if_false] at e; exact e)

theorem c_N_drop {L : Nat} {xs : Nat → Int32} {d : Nat} {Q : ax_Q} {μ : nMem} (hq : Q none (ns_rep (dl μ))) : nM L xs (d + 1) 29 [.ref 0] (ns_rep μ) Q := by
  refine nM.of ns_I_N_dropLongestUnused rfl (ls := [_, _, _, _]) (Nat.le_of_ble_eq_true rfl) rfl ?_
  refine aw_null (pc' := 1) nd_N_dropLongestUnused_0 rfl ?_
  refine aw_astore_n (pc' := 2) (ls' := [_, _, _, _]) nd_N_dropLongestUnused_1 rfl rfl (Nat.le_of_ble_eq_true rfl) rfl ?_
  refine aw_iconst (pc' := 3) (x := 0) nd_N_dropLongestUnused_2 rfl (by decide) ?_
  refine aw_istore_n (pc' := 4) (ls' := [_, _, _, _]) nd_N_dropLongestUnused_3 rfl (Nat.le_of_ble_eq_true rfl) rfl ?_
  exact l_N_drop hq 12 0 none (by omega)

theorem l_N_dropK {L : Nat} {xs : Nat → Int32} {d : Nat} {Q : ax_Q} {kp : Nat} (hkp : kp ≤ 12) : ∀ z (μ : nMem), z + kp ≤ 12 → μ.1 0 5 = nI kp → Q none (ns_rep (dk z μ)) → nW L xs (d + 1) ns_I_N_dropValuesBeyondKept Q 5 [some (.ref 0), some (.int (nI (z + kp)))] [] 0 0 (ns_rep μ) := by
  intro z
  induction z with
  | zero =>
    intro μ hz hk0 hq
    rw [Nat.zero_add]
    refine aw_iload_n (pc' := 6) nd_N_dropValuesBeyondKept_5 rfl rfl ?_
    refine aw_aload_n (pc' := 7) nd_N_dropValuesBeyondKept_6 rfl rfl rfl ?_
    refine aw_get (pc' := 10) nd_N_dropValuesBeyondKept_7 rfl nF_0_18 g_N_kept ?_
    refine aw_icmp_le (pc' := 13) (tg := 23) nd_N_dropValuesBeyondKept_10 (by decide) rfl (fun _ => ?_) (fun hx => absurd (by rw [hk0]; exact nI_le (Nat.le_refl _) (by omega)) hx)
    refine aw_return nd_N_dropValuesBeyondKept_23 rfl (Nat.le_of_ble_eq_true rfl) (Nat.le_of_ble_eq_true rfl) ?_
    exact hq
  | succ z ih =>
    intro μ hz hk0 hq
    refine aw_iload_n (pc' := 6) nd_N_dropValuesBeyondKept_5 rfl rfl ?_
    refine aw_aload_n (pc' := 7) nd_N_dropValuesBeyondKept_6 rfl rfl rfl ?_
    refine aw_get (pc' := 10) nd_N_dropValuesBeyondKept_7 rfl nF_0_18 g_N_kept ?_
    refine aw_icmp_le (pc' := 13) (tg := 23) nd_N_dropValuesBeyondKept_10 (by decide) rfl (fun hx => absurd hx (by rw [hk0]; exact nI_ge (by omega) (by omega))) (fun _ => ?_)
    refine aw_aload_n (pc' := 14) nd_N_dropValuesBeyondKept_13 rfl rfl rfl ?_
    refine aw_callV (pc' := 17) (as := []) (st := []) nd_N_dropValuesBeyondKept_14 rfl nC_0_246 ⟨(Nat.le_of_ble_eq_true rfl), rfl, rfl⟩ ns_ioN (Nat.le_of_ble_eq_true rfl) (Nat.le_of_ble_eq_true rfl) (Nat.le_of_ble_eq_true rfl) ?_
    refine c_N_drop ?_
    show nW _ _ _ _ _ 17 _ [] _ _ _
    refine aw_iinc (pc' := 20) (ls' := [_, _]) nd_N_dropValuesBeyondKept_17 rfl rfl (show nI (z + 1 + kp) + Int32.ofInt (-1) = nI (z + kp) by rw [show z + 1 + kp = (z + kp) + 1 by omega]; exact pk_m1 _) rfl ?_
    refine aw_goto (pc' := 5) nd_N_dropValuesBeyondKept_20 (by decide) ?_
    exact ih (dl μ) (by omega) (by rw [dl_0]; exact hk0) hq

theorem l_N_dropK0 {L : Nat} {xs : Nat → Int32} {d : Nat} {Q : ax_Q} {kp v : Nat} {μ : nMem} (hkp : kp ≤ 12) (hv : v ≤ kp) (hk0 : μ.1 0 5 = nI kp) (hq : Q none (ns_rep μ)) : nW L xs (d + 1) ns_I_N_dropValuesBeyondKept Q 5 [some (.ref 0), some (.int (nI v))] [] 0 0 (ns_rep μ) := by
  skip
  refine aw_iload_n (pc' := 6) nd_N_dropValuesBeyondKept_5 rfl rfl ?_
  refine aw_aload_n (pc' := 7) nd_N_dropValuesBeyondKept_6 rfl rfl rfl ?_
  refine aw_get (pc' := 10) nd_N_dropValuesBeyondKept_7 rfl nF_0_18 g_N_kept ?_
  refine aw_icmp_le (pc' := 13) (tg := 23) nd_N_dropValuesBeyondKept_10 (by decide) rfl (fun _ => ?_) (fun hx => absurd (by rw [hk0]; exact nI_le hv (by omega)) hx)
  refine aw_return nd_N_dropValuesBeyondKept_23 rfl (Nat.le_of_ble_eq_true rfl) (Nat.le_of_ble_eq_true rfl) ?_
  exact hq

theorem c_N_dropK {L : Nat} {xs : Nat → Int32} {d : Nat} {Q : ax_Q} {μ : nMem} {kp : Nat} (hkp : kp ≤ 12) (hk0 : μ.1 0 5 = nI kp) (hq : Q none (ns_rep (dk (vcn μ 12 - kp) μ))) : nM L xs (d + 2) 28 [.ref 0] (ns_rep μ) Q := by
  refine nM.of ns_I_N_dropValuesBeyondKept rfl (ls := [_, _]) (Nat.le_of_ble_eq_true rfl) rfl ?_
  refine aw_aload_n (pc' := 1) nd_N_dropValuesBeyondKept_0 rfl rfl rfl ?_
  refine aw_callV (pc' := 4) (as := []) (st := []) nd_N_dropValuesBeyondKept_1 rfl nC_0_134 ⟨(Nat.le_of_ble_eq_true rfl), rfl, rfl⟩ ns_ioN (Nat.le_of_ble_eq_true rfl) (Nat.le_of_ble_eq_true rfl) (Nat.le_of_ble_eq_true rfl) ?_
  refine c_N_valuesInNotes ?_
  show nW _ _ _ _ _ 4 _ [_] _ _ _
  refine aw_istore_n (pc' := 5) (ls' := [_, _]) nd_N_dropValuesBeyondKept_4 rfl (Nat.le_of_ble_eq_true rfl) rfl ?_
  have hv := vcn_le μ 12
  by_cases hc : vcn μ 12 ≤ kp
  · exact l_N_dropK0 hkp hc hk0 (by rw [Nat.sub_eq_zero_of_le hc] at hq; exact hq)
  · have e := l_N_dropK (L := L) (xs := xs) (d := d) (Q := Q) hkp (vcn μ 12 - kp) μ (by omega) hk0 hq
    rw [show vcn μ 12 - kp + kp = vcn μ 12 by omega] at e
    exact e

theorem l_F_hasText {L : Nat} {xs : Nat → Int32} {d : Nat} {Q : ax_Q} {μ : nMem} {k n : Nat} (hk : k < 12) (hn : μ.1 (nF k) 2 = nI n) (hle : n ≤ 30) (hq1 : (∀ i, i < n → μ.1 (nT k) i = μ.1 (nT 12) i) → Q (some (.int 1)) (ns_rep μ)) (hq0 : (¬ ∀ i, i < n → μ.1 (nT k) i = μ.1 (nT 12) i) → Q (some (.int 0)) (ns_rep μ)) : ∀ z i, z + i = n → (∀ a, a < i → μ.1 (nT k) a = μ.1 (nT 12) a) → nW L xs d ns_I_F_hasTextOf Q 15 [some (.ref (nF k)), some (.ref (nF 12)), some (.int (nI i))] [] 0 0 (ns_rep μ) := by
  have hk13 : k < 13 := by omega
  have hp13 : 12 < 13 := by omega
  intro z
  induction z with
  | zero =>
    intro i hi hall
    obtain rfl : i = n := by omega
    refine aw_iload_n (pc' := 16) nd_F_hasTextOf_15 rfl rfl ?_
    refine aw_aload_n (pc' := 17) nd_F_hasTextOf_16 rfl rfl rfl ?_
    refine aw_get (pc' := 20) nd_F_hasTextOf_17 rfl nF_2_34 (g_F_length (by assumption)) ?_
    refine aw_icmp_ge (pc' := 23) (tg := 46) nd_F_hasTextOf_20 (by decide) rfl (fun _ => ?_) (fun hx => absurd (by rw [hn]; exact nI_le (Nat.le_refl _) (by omega)) hx)
    refine aw_iconst (pc' := 47) (x := 1) nd_F_hasTextOf_46 rfl (by decide) ?_
    refine aw_ireturn nd_F_hasTextOf_47 rfl (by first | rfl | assumption) (Nat.le_of_ble_eq_true rfl) (Nat.le_of_ble_eq_true rfl) ?_
    exact hq1 hall
  | succ z ih =>
    intro i hi hall
    refine aw_iload_n (pc' := 16) nd_F_hasTextOf_15 rfl rfl ?_
    refine aw_aload_n (pc' := 17) nd_F_hasTextOf_16 rfl rfl rfl ?_
    refine aw_get (pc' := 20) nd_F_hasTextOf_17 rfl nF_2_34 (g_F_length (by assumption)) ?_
    refine aw_icmp_ge (pc' := 23) (tg := 46) nd_F_hasTextOf_20 (by decide) rfl (fun hx => absurd hx (by rw [hn]; exact nI_ge (by omega) (by omega))) (fun _ => ?_)
    refine aw_aload_n (pc' := 24) nd_F_hasTextOf_23 rfl rfl rfl ?_
    refine aw_get (pc' := 27) nd_F_hasTextOf_24 rfl nF_2_9 (g_F_text (by assumption)) ?_
    refine aw_iload_n (pc' := 28) nd_F_hasTextOf_27 rfl rfl ?_
    refine aw_cald (pc' := 29) nd_F_hasTextOf_28 rfl (ga_T hk13) i rfl (by omega) ?_
    refine aw_aload_n (pc' := 30) nd_F_hasTextOf_29 rfl rfl rfl ?_
    refine aw_get (pc' := 33) nd_F_hasTextOf_30 rfl nF_2_9 (g_F_text (by assumption)) ?_
    refine aw_iload_n (pc' := 34) nd_F_hasTextOf_33 rfl rfl ?_
    refine aw_cald (pc' := 35) nd_F_hasTextOf_34 rfl (ga_T hp13) i rfl (by omega) ?_
    refine aw_icmp_eq (pc' := 38) (tg := 40) nd_F_hasTextOf_35 (by decide) rfl (fun hb35 => ?_) (fun hb35 => ?_)
    · skip
      refine aw_iinc (pc' := 43) (ls' := [_, _, _]) nd_F_hasTextOf_40 rfl rfl (nI_1 i) rfl ?_
      refine aw_goto (pc' := 15) nd_F_hasTextOf_43 (by decide) ?_
      refine ih (i + 1) (by omega) ?_
      intro a ha
      by_cases e : a = i
      · rw [e]; exact hb35
      · exact hall a (by omega)
    · skip
      refine aw_iconst (pc' := 39) (x := 0) nd_F_hasTextOf_38 rfl (by decide) ?_
      refine aw_ireturn nd_F_hasTextOf_39 rfl (by first | rfl | assumption) (Nat.le_of_ble_eq_true rfl) (Nat.le_of_ble_eq_true rfl) ?_
      exact hq0 (fun h => hb35 (h i (by omega)))

theorem c_F_hasText {L : Nat} {xs : Nat → Int32} {d : Nat} {Q : ax_Q} {μ : nMem} {k n m : Nat} (hk : k < 12) (hn : μ.1 (nF k) 2 = nI n) (hle : n ≤ 30) (hm : μ.1 (nF 12) 2 = nI m) (hme : m ≤ 30) (hq1 : n = m → (∀ i, i < n → μ.1 (nT k) i = μ.1 (nT 12) i) → Q (some (.int 1)) (ns_rep μ)) (hq0 : (n = m → ¬ ∀ i, i < n → μ.1 (nT k) i = μ.1 (nT 12) i) → Q (some (.int 0)) (ns_rep μ)) : nM L xs (d + 1) 86 [.ref (nF k), .ref (nF 12)] (ns_rep μ) Q := by
  have hk13 : k < 13 := by omega
  have hp13 : 12 < 13 := by omega
  have e8 : nI n = nI m ↔ n = m := nI_eq (by omega) (by omega)
  refine nM.of ns_I_F_hasTextOf rfl (ls := [_, _, _]) (Nat.le_of_ble_eq_true rfl) rfl ?_
  refine aw_aload_n (pc' := 1) nd_F_hasTextOf_0 rfl rfl rfl ?_
  refine aw_get (pc' := 4) nd_F_hasTextOf_1 rfl nF_2_34 (g_F_length (by assumption)) ?_
  refine aw_aload_n (pc' := 5) nd_F_hasTextOf_4 rfl rfl rfl ?_
  refine aw_get (pc' := 8) nd_F_hasTextOf_5 rfl nF_2_34 (g_F_length (by assumption)) ?_
  rw [hn, hm]
  refine aw_icmp_eq (pc' := 11) (tg := 13) nd_F_hasTextOf_8 (by decide) rfl (fun hb8 => ?_) (fun hb8 => ?_)
  · skip
    refine aw_iconst (pc' := 14) (x := 0) nd_F_hasTextOf_13 rfl (by decide) ?_
    refine aw_istore_n (pc' := 15) (ls' := [_, _, _]) nd_F_hasTextOf_14 rfl (Nat.le_of_ble_eq_true rfl) rfl ?_
    exact l_F_hasText hk hn hle (hq1 (e8.mp hb8)) (fun h => hq0 (fun _ => h)) n 0 (by omega) (fun a ha => absurd ha (by omega))
  · skip
    refine aw_iconst (pc' := 12) (x := 0) nd_F_hasTextOf_11 rfl (by decide) ?_
    refine aw_ireturn nd_F_hasTextOf_12 rfl (by first | rfl | assumption) (Nat.le_of_ble_eq_true rfl) (Nat.le_of_ble_eq_true rfl) ?_
    exact hq0 (fun h => absurd (e8.mpr h) hb8)

theorem c_F_copyFrom {L : Nat} {xs : Nat → Int32} {d : Nat} {Q : ax_Q} {μ : nMem} {k : Nat} (hk : k < 12) (hf : ∀ i, i < 30 → fits .char (.int (μ.1 (nT 12) i)) = true) (hq : Q none (ns_rep (ms (ms (mw (mw μ (nT k) (va_cpy (μ.1 (nT 12)) (μ.1 (nT k)) 0 0 30)) (nS k) (va_cpy (μ.1 (nS 12)) (μ.1 (nS k)) 0 0 30)) (nF k) 2 (μ.1 (nF 12) 2)) (nF k) 3 (μ.1 (nF 12) 3)))) : nM L xs (d + 1) 87 [.ref (nF k), .ref (nF 12)] (ns_rep μ) Q := by
  have hk13 : k < 13 := by omega
  have hp13 : 12 < 13 := by omega
  have hne : ¬ nF 12 = nF k := by unfold nF; simp; omega
  refine nM.of ns_I_F_copyFrom rfl (ls := [_, _]) (Nat.le_of_ble_eq_true rfl) rfl ?_
  refine aw_aload_n (pc' := 1) nd_F_copyFrom_0 rfl rfl rfl ?_
  refine aw_get (pc' := 4) nd_F_copyFrom_1 rfl nF_2_9 (g_F_text (by assumption)) ?_
  refine aw_iconst (pc' := 5) (x := 0) nd_F_copyFrom_4 rfl (by decide) ?_
  refine aw_aload_n (pc' := 6) nd_F_copyFrom_5 rfl rfl rfl ?_
  refine aw_get (pc' := 9) nd_F_copyFrom_6 rfl nF_2_9 (g_F_text (by assumption)) ?_
  refine aw_iconst (pc' := 10) (x := 0) nd_F_copyFrom_9 rfl (by decide) ?_
  refine aw_bipush (pc' := 12) (x := 30) nd_F_copyFrom_10 rfl (by decide) ?_
  refine aw_acopy (pc' := 15) nd_F_copyFrom_12 rfl nC_2_44 (Nat.le_of_ble_eq_true rfl) (nT_lt hk13) (nT_lt hp13) (ns_eT hk13) (ns_eT hp13) rfl hf ?_
  refine aw_aload_n (pc' := 16) nd_F_copyFrom_15 rfl rfl rfl ?_
  refine aw_get (pc' := 19) nd_F_copyFrom_16 rfl nF_2_15 (g_F_steps (by assumption)) ?_
  refine aw_iconst (pc' := 20) (x := 0) nd_F_copyFrom_19 rfl (by decide) ?_
  refine aw_aload_n (pc' := 21) nd_F_copyFrom_20 rfl rfl rfl ?_
  refine aw_get (pc' := 24) nd_F_copyFrom_21 rfl nF_2_15 (g_F_steps (by assumption)) ?_
  refine aw_iconst (pc' := 25) (x := 0) nd_F_copyFrom_24 rfl (by decide) ?_
  refine aw_bipush (pc' := 27) (x := 30) nd_F_copyFrom_25 rfl (by decide) ?_
  refine aw_acopy (pc' := 30) nd_F_copyFrom_27 rfl nC_2_44 (Nat.le_of_ble_eq_true rfl) (nS_lt hk13) (nS_lt hp13) (ns_eS hk13) (ns_eS hp13) rfl (fun _ _ => rfl) ?_
  refine aw_aload_n (pc' := 31) nd_F_copyFrom_30 rfl rfl rfl ?_
  refine aw_aload_n (pc' := 32) nd_F_copyFrom_31 rfl rfl rfl ?_
  refine aw_get (pc' := 35) nd_F_copyFrom_32 rfl nF_2_34 (g_F_length (by assumption)) ?_
  refine aw_put (pc' := 38) nd_F_copyFrom_35 rfl nF_2_34 trivial (p_F_length (by assumption)) ?_
  refine aw_aload_n (pc' := 39) nd_F_copyFrom_38 rfl rfl rfl ?_
  refine aw_aload_n (pc' := 40) nd_F_copyFrom_39 rfl rfl rfl ?_
  refine aw_get (pc' := 43) nd_F_copyFrom_40 rfl nF_2_38 (g_F_stepCount (by assumption)) ?_
  refine aw_put (pc' := 46) nd_F_copyFrom_43 rfl nF_2_38 trivial (p_F_stepCount (by assumption)) ?_
  refine aw_return nd_F_copyFrom_46 rfl (Nat.le_of_ble_eq_true rfl) (Nat.le_of_ble_eq_true rfl) ?_
  have e1 : (mw μ (nT k) (va_cpy (μ.1 (nT 12)) (μ.1 (nT k)) 0 0 30)).1 (nS 12) = μ.1 (nS 12) := mw_o (ne_ST 12 k)
  have e2 : (mw μ (nT k) (va_cpy (μ.1 (nT 12)) (μ.1 (nT k)) 0 0 30)).1 (nS k) = μ.1 (nS k) := mw_o (ne_ST k k)
  rw [e1, e2]
  have e3 : (mw (mw μ (nT k) (va_cpy (μ.1 (nT 12)) (μ.1 (nT k)) 0 0 30)) (nS k) (va_cpy (μ.1 (nS 12)) (μ.1 (nS k)) 0 0 30)).1 (nF 12) = μ.1 (nF 12) := by rw [mw_o (ne_FS 12 k), mw_o (ne_FT 12 k)]
  rw [ms_o hne, e3]
  exact hq

def kvs (μ : nMem) (k : Nat) (v : Int64) (r : Int32) : nMem := if μ.1 (nN k) 3 = 0 ∨ ¬ μ.2 (nN k) 4 = v then (if μ.1 (nN k) 2 = 0 ∨ ¬ μ.1 (nN k) 5 = r then ms μ (nN k) 6 r else μ) else μ
def kv (μ : nMem) (k : Nat) (v : Int64) (r : Int32) : nMem := ms (ml (ms (ms (kvs μ k v r) (nN k) 2 1) (nN k) 3 1) (nN k) 4 v) (nN k) 5 r

theorem c_O_keep {L : Nat} {xs : Nat → Int32} {d : Nat} {Q : ax_Q} {μ : nMem} {k : Nat} {v : Int64} {r : Int32} (hk : k < 12) (hq : Q none (ns_rep (kv μ k v r))) : nM L xs (d + 2) 91 [.ref (nN k), .long v, .int r] (ns_rep μ) Q := by
  refine nM.of ns_I_O_keepValue rfl (ls := [_, _, _, _, _]) (Nat.le_of_ble_eq_true rfl) rfl ?_
  refine aw_aload_n (pc' := 1) nd_O_keepValue_0 rfl rfl rfl ?_
  refine aw_get (pc' := 4) nd_O_keepValue_1 rfl nF_3_23 (g_O_hasValue (by assumption)) ?_
  refine aw_if_eq (pc' := 7) (tg := 20) nd_O_keepValue_4 (by decide) rfl (fun hb4 => ?_) (fun hb4 => ?_)
  · skip
    refine aw_iconst (pc' := 21) (x := 0) nd_O_keepValue_20 rfl (by decide) ?_
    refine aw_istore (pc' := 23) (ls' := [_, _, _, _, _]) nd_O_keepValue_21 rfl (Nat.le_of_ble_eq_true rfl) rfl ?_
    refine aw_iload (pc' := 25) nd_O_keepValue_23 rfl rfl ?_
    refine aw_if_ne (pc' := 28) (tg := 41) nd_O_keepValue_25 (by decide) rfl (fun hb25 => ?_) (fun hb25 => ?_)
    · skip
      refine aw_aload_n (pc' := 42) nd_O_keepValue_41 rfl rfl rfl ?_
      refine aw_iconst (pc' := 43) (x := 1) nd_O_keepValue_42 rfl (by decide) ?_
      refine aw_put (pc' := 46) nd_O_keepValue_43 rfl nF_3_19 (by first | exact Or.inl rfl | exact Or.inr rfl | assumption) (p_O_exists (by assumption)) ?_
      refine aw_aload_n (pc' := 47) nd_O_keepValue_46 rfl rfl rfl ?_
      refine aw_iconst (pc' := 48) (x := 1) nd_O_keepValue_47 rfl (by decide) ?_
      refine aw_put (pc' := 51) nd_O_keepValue_48 rfl nF_3_23 (by first | exact Or.inl rfl | exact Or.inr rfl | assumption) (p_O_hasValue (by assumption)) ?_
      refine aw_aload_n (pc' := 52) nd_O_keepValue_51 rfl rfl rfl ?_
      refine aw_lload_n (pc' := 53) nd_O_keepValue_52 rfl rfl ?_
      refine aw_put (pc' := 56) nd_O_keepValue_53 rfl nF_3_35 trivial (p_O_value (by assumption)) ?_
      refine aw_aload_n (pc' := 57) nd_O_keepValue_56 rfl rfl rfl ?_
      refine aw_iload_n (pc' := 58) nd_O_keepValue_57 rfl rfl ?_
      refine aw_put (pc' := 61) nd_O_keepValue_58 rfl nF_3_26 trivial (p_O_verified (by assumption)) ?_
      refine aw_return nd_O_keepValue_61 rfl (Nat.le_of_ble_eq_true rfl) (Nat.le_of_ble_eq_true rfl) ?_
      (try simp only [hcm] at hb13)
      (try simp only [bi_0] at hb33)
      by_cases z1 : μ.1 (nN k) 2 = 0 <;> by_cases z2 : μ.1 (nN k) 5 = r <;> simp_all [kv, kvs]
    · skip
      refine aw_aload_n (pc' := 29) nd_O_keepValue_28 rfl rfl rfl ?_
      refine aw_iload_n (pc' := 30) nd_O_keepValue_29 rfl rfl ?_
      refine aw_callV (pc' := 33) (as := [_]) (st := []) nd_O_keepValue_30 rfl nC_3_39 ⟨(Nat.le_of_ble_eq_true rfl), rfl, rfl⟩ (ns_ioO (by assumption)) (Nat.le_of_ble_eq_true rfl) (Nat.le_of_ble_eq_true rfl) (Nat.le_of_ble_eq_true rfl) ?_
      refine c_O_ver hk ?_
      show nW _ _ _ _ _ 33 _ [_] _ _ _
      refine aw_if_ne (pc' := 36) (tg := 41) nd_O_keepValue_33 (by decide) rfl (fun hb33 => ?_) (fun hb33 => ?_)
      · skip
        refine aw_aload_n (pc' := 42) nd_O_keepValue_41 rfl rfl rfl ?_
        refine aw_iconst (pc' := 43) (x := 1) nd_O_keepValue_42 rfl (by decide) ?_
        refine aw_put (pc' := 46) nd_O_keepValue_43 rfl nF_3_19 (by first | exact Or.inl rfl | exact Or.inr rfl | assumption) (p_O_exists (by assumption)) ?_
        refine aw_aload_n (pc' := 47) nd_O_keepValue_46 rfl rfl rfl ?_
        refine aw_iconst (pc' := 48) (x := 1) nd_O_keepValue_47 rfl (by decide) ?_
        refine aw_put (pc' := 51) nd_O_keepValue_48 rfl nF_3_23 (by first | exact Or.inl rfl | exact Or.inr rfl | assumption) (p_O_hasValue (by assumption)) ?_
        refine aw_aload_n (pc' := 52) nd_O_keepValue_51 rfl rfl rfl ?_
        refine aw_lload_n (pc' := 53) nd_O_keepValue_52 rfl rfl ?_
        refine aw_put (pc' := 56) nd_O_keepValue_53 rfl nF_3_35 trivial (p_O_value (by assumption)) ?_
        refine aw_aload_n (pc' := 57) nd_O_keepValue_56 rfl rfl rfl ?_
        refine aw_iload_n (pc' := 58) nd_O_keepValue_57 rfl rfl ?_
        refine aw_put (pc' := 61) nd_O_keepValue_58 rfl nF_3_26 trivial (p_O_verified (by assumption)) ?_
        refine aw_return nd_O_keepValue_61 rfl (Nat.le_of_ble_eq_true rfl) (Nat.le_of_ble_eq_true rfl) ?_
        (try simp only [hcm] at hb13)
        (try simp only [bi_0] at hb33)
        by_cases z1 : μ.1 (nN k) 2 = 0 <;> by_cases z2 : μ.1 (nN k) 5 = r <;> simp_all [kv, kvs]
      · skip
        refine aw_aload_n (pc' := 37) nd_O_keepValue_36 rfl rfl rfl ?_
        refine aw_iload_n (pc' := 38) nd_O_keepValue_37 rfl rfl ?_
        refine aw_put (pc' := 41) nd_O_keepValue_38 rfl nF_3_29 trivial (p_O_since (by assumption)) ?_
        refine aw_aload_n (pc' := 42) nd_O_keepValue_41 rfl rfl rfl ?_
        refine aw_iconst (pc' := 43) (x := 1) nd_O_keepValue_42 rfl (by decide) ?_
        refine aw_put (pc' := 46) nd_O_keepValue_43 rfl nF_3_19 (by first | exact Or.inl rfl | exact Or.inr rfl | assumption) (p_O_exists (by assumption)) ?_
        refine aw_aload_n (pc' := 47) nd_O_keepValue_46 rfl rfl rfl ?_
        refine aw_iconst (pc' := 48) (x := 1) nd_O_keepValue_47 rfl (by decide) ?_
        refine aw_put (pc' := 51) nd_O_keepValue_48 rfl nF_3_23 (by first | exact Or.inl rfl | exact Or.inr rfl | assumption) (p_O_hasValue (by assumption)) ?_
        refine aw_aload_n (pc' := 52) nd_O_keepValue_51 rfl rfl rfl ?_
        refine aw_lload_n (pc' := 53) nd_O_keepValue_52 rfl rfl ?_
        refine aw_put (pc' := 56) nd_O_keepValue_53 rfl nF_3_35 trivial (p_O_value (by assumption)) ?_
        refine aw_aload_n (pc' := 57) nd_O_keepValue_56 rfl rfl rfl ?_
        refine aw_iload_n (pc' := 58) nd_O_keepValue_57 rfl rfl ?_
        refine aw_put (pc' := 61) nd_O_keepValue_58 rfl nF_3_26 trivial (p_O_verified (by assumption)) ?_
        refine aw_return nd_O_keepValue_61 rfl (Nat.le_of_ble_eq_true rfl) (Nat.le_of_ble_eq_true rfl) ?_
        (try simp only [hcm] at hb13)
        (try simp only [bi_0] at hb33)
        by_cases z1 : μ.1 (nN k) 2 = 0 <;> by_cases z2 : μ.1 (nN k) 5 = r <;> simp_all [kv, kvs]
  · skip
    refine aw_aload_n (pc' := 8) nd_O_keepValue_7 rfl rfl rfl ?_
    refine aw_get (pc' := 11) nd_O_keepValue_8 rfl nF_3_35 (g_O_value (by assumption)) ?_
    refine aw_lload_n (pc' := 12) nd_O_keepValue_11 rfl rfl ?_
    refine aw_lcmp (pc' := 13) nd_O_keepValue_12 rfl ?_
    have hcm : lg_cmp (μ.2 (nN k) 4) v = 0 ↔ μ.2 (nN k) 4 = v := lg_cmp_eq _ _
    refine aw_if_ne (pc' := 16) (tg := 20) nd_O_keepValue_13 (by decide) rfl (fun hb13 => ?_) (fun hb13 => ?_)
    · skip
      refine aw_iconst (pc' := 21) (x := 0) nd_O_keepValue_20 rfl (by decide) ?_
      refine aw_istore (pc' := 23) (ls' := [_, _, _, _, _]) nd_O_keepValue_21 rfl (Nat.le_of_ble_eq_true rfl) rfl ?_
      refine aw_iload (pc' := 25) nd_O_keepValue_23 rfl rfl ?_
      refine aw_if_ne (pc' := 28) (tg := 41) nd_O_keepValue_25 (by decide) rfl (fun hb25 => ?_) (fun hb25 => ?_)
      · skip
        refine aw_aload_n (pc' := 42) nd_O_keepValue_41 rfl rfl rfl ?_
        refine aw_iconst (pc' := 43) (x := 1) nd_O_keepValue_42 rfl (by decide) ?_
        refine aw_put (pc' := 46) nd_O_keepValue_43 rfl nF_3_19 (by first | exact Or.inl rfl | exact Or.inr rfl | assumption) (p_O_exists (by assumption)) ?_
        refine aw_aload_n (pc' := 47) nd_O_keepValue_46 rfl rfl rfl ?_
        refine aw_iconst (pc' := 48) (x := 1) nd_O_keepValue_47 rfl (by decide) ?_
        refine aw_put (pc' := 51) nd_O_keepValue_48 rfl nF_3_23 (by first | exact Or.inl rfl | exact Or.inr rfl | assumption) (p_O_hasValue (by assumption)) ?_
        refine aw_aload_n (pc' := 52) nd_O_keepValue_51 rfl rfl rfl ?_
        refine aw_lload_n (pc' := 53) nd_O_keepValue_52 rfl rfl ?_
        refine aw_put (pc' := 56) nd_O_keepValue_53 rfl nF_3_35 trivial (p_O_value (by assumption)) ?_
        refine aw_aload_n (pc' := 57) nd_O_keepValue_56 rfl rfl rfl ?_
        refine aw_iload_n (pc' := 58) nd_O_keepValue_57 rfl rfl ?_
        refine aw_put (pc' := 61) nd_O_keepValue_58 rfl nF_3_26 trivial (p_O_verified (by assumption)) ?_
        refine aw_return nd_O_keepValue_61 rfl (Nat.le_of_ble_eq_true rfl) (Nat.le_of_ble_eq_true rfl) ?_
        (try simp only [hcm] at hb13)
        (try simp only [bi_0] at hb33)
        by_cases z1 : μ.1 (nN k) 2 = 0 <;> by_cases z2 : μ.1 (nN k) 5 = r <;> simp_all [kv, kvs]
      · skip
        refine aw_aload_n (pc' := 29) nd_O_keepValue_28 rfl rfl rfl ?_
        refine aw_iload_n (pc' := 30) nd_O_keepValue_29 rfl rfl ?_
        refine aw_callV (pc' := 33) (as := [_]) (st := []) nd_O_keepValue_30 rfl nC_3_39 ⟨(Nat.le_of_ble_eq_true rfl), rfl, rfl⟩ (ns_ioO (by assumption)) (Nat.le_of_ble_eq_true rfl) (Nat.le_of_ble_eq_true rfl) (Nat.le_of_ble_eq_true rfl) ?_
        refine c_O_ver hk ?_
        show nW _ _ _ _ _ 33 _ [_] _ _ _
        refine aw_if_ne (pc' := 36) (tg := 41) nd_O_keepValue_33 (by decide) rfl (fun hb33 => ?_) (fun hb33 => ?_)
        · skip
          refine aw_aload_n (pc' := 42) nd_O_keepValue_41 rfl rfl rfl ?_
          refine aw_iconst (pc' := 43) (x := 1) nd_O_keepValue_42 rfl (by decide) ?_
          refine aw_put (pc' := 46) nd_O_keepValue_43 rfl nF_3_19 (by first | exact Or.inl rfl | exact Or.inr rfl | assumption) (p_O_exists (by assumption)) ?_
          refine aw_aload_n (pc' := 47) nd_O_keepValue_46 rfl rfl rfl ?_
          refine aw_iconst (pc' := 48) (x := 1) nd_O_keepValue_47 rfl (by decide) ?_
          refine aw_put (pc' := 51) nd_O_keepValue_48 rfl nF_3_23 (by first | exact Or.inl rfl | exact Or.inr rfl | assumption) (p_O_hasValue (by assumption)) ?_
          refine aw_aload_n (pc' := 52) nd_O_keepValue_51 rfl rfl rfl ?_
          refine aw_lload_n (pc' := 53) nd_O_keepValue_52 rfl rfl ?_
          refine aw_put (pc' := 56) nd_O_keepValue_53 rfl nF_3_35 trivial (p_O_value (by assumption)) ?_
          refine aw_aload_n (pc' := 57) nd_O_keepValue_56 rfl rfl rfl ?_
          refine aw_iload_n (pc' := 58) nd_O_keepValue_57 rfl rfl ?_
          refine aw_put (pc' := 61) nd_O_keepValue_58 rfl nF_3_26 trivial (p_O_verified (by assumption)) ?_
          refine aw_return nd_O_keepValue_61 rfl (Nat.le_of_ble_eq_true rfl) (Nat.le_of_ble_eq_true rfl) ?_
          (try simp only [hcm] at hb13)
          (try simp only [bi_0] at hb33)
          by_cases z1 : μ.1 (nN k) 2 = 0 <;> by_cases z2 : μ.1 (nN k) 5 = r <;> simp_all [kv, kvs]
        · skip
          refine aw_aload_n (pc' := 37) nd_O_keepValue_36 rfl rfl rfl ?_
          refine aw_iload_n (pc' := 38) nd_O_keepValue_37 rfl rfl ?_
          refine aw_put (pc' := 41) nd_O_keepValue_38 rfl nF_3_29 trivial (p_O_since (by assumption)) ?_
          refine aw_aload_n (pc' := 42) nd_O_keepValue_41 rfl rfl rfl ?_
          refine aw_iconst (pc' := 43) (x := 1) nd_O_keepValue_42 rfl (by decide) ?_
          refine aw_put (pc' := 46) nd_O_keepValue_43 rfl nF_3_19 (by first | exact Or.inl rfl | exact Or.inr rfl | assumption) (p_O_exists (by assumption)) ?_
          refine aw_aload_n (pc' := 47) nd_O_keepValue_46 rfl rfl rfl ?_
          refine aw_iconst (pc' := 48) (x := 1) nd_O_keepValue_47 rfl (by decide) ?_
          refine aw_put (pc' := 51) nd_O_keepValue_48 rfl nF_3_23 (by first | exact Or.inl rfl | exact Or.inr rfl | assumption) (p_O_hasValue (by assumption)) ?_
          refine aw_aload_n (pc' := 52) nd_O_keepValue_51 rfl rfl rfl ?_
          refine aw_lload_n (pc' := 53) nd_O_keepValue_52 rfl rfl ?_
          refine aw_put (pc' := 56) nd_O_keepValue_53 rfl nF_3_35 trivial (p_O_value (by assumption)) ?_
          refine aw_aload_n (pc' := 57) nd_O_keepValue_56 rfl rfl rfl ?_
          refine aw_iload_n (pc' := 58) nd_O_keepValue_57 rfl rfl ?_
          refine aw_put (pc' := 61) nd_O_keepValue_58 rfl nF_3_26 trivial (p_O_verified (by assumption)) ?_
          refine aw_return nd_O_keepValue_61 rfl (Nat.le_of_ble_eq_true rfl) (Nat.le_of_ble_eq_true rfl) ?_
          (try simp only [hcm] at hb13)
          (try simp only [bi_0] at hb33)
          by_cases z1 : μ.1 (nN k) 2 = 0 <;> by_cases z2 : μ.1 (nN k) 5 = r <;> simp_all [kv, kvs]
    · skip
      refine aw_iconst (pc' := 17) (x := 1) nd_O_keepValue_16 rfl (by decide) ?_
      refine aw_goto (pc' := 21) nd_O_keepValue_17 (by decide) ?_
      refine aw_istore (pc' := 23) (ls' := [_, _, _, _, _]) nd_O_keepValue_21 rfl (Nat.le_of_ble_eq_true rfl) rfl ?_
      refine aw_iload (pc' := 25) nd_O_keepValue_23 rfl rfl ?_
      refine aw_if_ne (pc' := 28) (tg := 41) nd_O_keepValue_25 (by decide) rfl (fun hb25 => ?_) (fun hb25 => ?_)
      · skip
        refine aw_aload_n (pc' := 42) nd_O_keepValue_41 rfl rfl rfl ?_
        refine aw_iconst (pc' := 43) (x := 1) nd_O_keepValue_42 rfl (by decide) ?_
        refine aw_put (pc' := 46) nd_O_keepValue_43 rfl nF_3_19 (by first | exact Or.inl rfl | exact Or.inr rfl | assumption) (p_O_exists (by assumption)) ?_
        refine aw_aload_n (pc' := 47) nd_O_keepValue_46 rfl rfl rfl ?_
        refine aw_iconst (pc' := 48) (x := 1) nd_O_keepValue_47 rfl (by decide) ?_
        refine aw_put (pc' := 51) nd_O_keepValue_48 rfl nF_3_23 (by first | exact Or.inl rfl | exact Or.inr rfl | assumption) (p_O_hasValue (by assumption)) ?_
        refine aw_aload_n (pc' := 52) nd_O_keepValue_51 rfl rfl rfl ?_
        refine aw_lload_n (pc' := 53) nd_O_keepValue_52 rfl rfl ?_
        refine aw_put (pc' := 56) nd_O_keepValue_53 rfl nF_3_35 trivial (p_O_value (by assumption)) ?_
        refine aw_aload_n (pc' := 57) nd_O_keepValue_56 rfl rfl rfl ?_
        refine aw_iload_n (pc' := 58) nd_O_keepValue_57 rfl rfl ?_
        refine aw_put (pc' := 61) nd_O_keepValue_58 rfl nF_3_26 trivial (p_O_verified (by assumption)) ?_
        refine aw_return nd_O_keepValue_61 rfl (Nat.le_of_ble_eq_true rfl) (Nat.le_of_ble_eq_true rfl) ?_
        (try simp only [hcm] at hb13)
        (try simp only [bi_0] at hb33)
        by_cases z1 : μ.1 (nN k) 2 = 0 <;> by_cases z2 : μ.1 (nN k) 5 = r <;> simp_all [kv, kvs]
      · skip
        refine aw_aload_n (pc' := 29) nd_O_keepValue_28 rfl rfl rfl ?_
        refine aw_iload_n (pc' := 30) nd_O_keepValue_29 rfl rfl ?_
        refine aw_callV (pc' := 33) (as := [_]) (st := []) nd_O_keepValue_30 rfl nC_3_39 ⟨(Nat.le_of_ble_eq_true rfl), rfl, rfl⟩ (ns_ioO (by assumption)) (Nat.le_of_ble_eq_true rfl) (Nat.le_of_ble_eq_true rfl) (Nat.le_of_ble_eq_true rfl) ?_
        refine c_O_ver hk ?_
        show nW _ _ _ _ _ 33 _ [_] _ _ _
        refine aw_if_ne (pc' := 36) (tg := 41) nd_O_keepValue_33 (by decide) rfl (fun hb33 => ?_) (fun hb33 => ?_)
        · skip
          refine aw_aload_n (pc' := 42) nd_O_keepValue_41 rfl rfl rfl ?_
          refine aw_iconst (pc' := 43) (x := 1) nd_O_keepValue_42 rfl (by decide) ?_
          refine aw_put (pc' := 46) nd_O_keepValue_43 rfl nF_3_19 (by first | exact Or.inl rfl | exact Or.inr rfl | assumption) (p_O_exists (by assumption)) ?_
          refine aw_aload_n (pc' := 47) nd_O_keepValue_46 rfl rfl rfl ?_
          refine aw_iconst (pc' := 48) (x := 1) nd_O_keepValue_47 rfl (by decide) ?_
          refine aw_put (pc' := 51) nd_O_keepValue_48 rfl nF_3_23 (by first | exact Or.inl rfl | exact Or.inr rfl | assumption) (p_O_hasValue (by assumption)) ?_
          refine aw_aload_n (pc' := 52) nd_O_keepValue_51 rfl rfl rfl ?_
          refine aw_lload_n (pc' := 53) nd_O_keepValue_52 rfl rfl ?_
          refine aw_put (pc' := 56) nd_O_keepValue_53 rfl nF_3_35 trivial (p_O_value (by assumption)) ?_
          refine aw_aload_n (pc' := 57) nd_O_keepValue_56 rfl rfl rfl ?_
          refine aw_iload_n (pc' := 58) nd_O_keepValue_57 rfl rfl ?_
          refine aw_put (pc' := 61) nd_O_keepValue_58 rfl nF_3_26 trivial (p_O_verified (by assumption)) ?_
          refine aw_return nd_O_keepValue_61 rfl (Nat.le_of_ble_eq_true rfl) (Nat.le_of_ble_eq_true rfl) ?_
          (try simp only [hcm] at hb13)
          (try simp only [bi_0] at hb33)
          by_cases z1 : μ.1 (nN k) 2 = 0 <;> by_cases z2 : μ.1 (nN k) 5 = r <;> simp_all [kv, kvs]
        · skip
          refine aw_aload_n (pc' := 37) nd_O_keepValue_36 rfl rfl rfl ?_
          refine aw_iload_n (pc' := 38) nd_O_keepValue_37 rfl rfl ?_
          refine aw_put (pc' := 41) nd_O_keepValue_38 rfl nF_3_29 trivial (p_O_since (by assumption)) ?_
          refine aw_aload_n (pc' := 42) nd_O_keepValue_41 rfl rfl rfl ?_
          refine aw_iconst (pc' := 43) (x := 1) nd_O_keepValue_42 rfl (by decide) ?_
          refine aw_put (pc' := 46) nd_O_keepValue_43 rfl nF_3_19 (by first | exact Or.inl rfl | exact Or.inr rfl | assumption) (p_O_exists (by assumption)) ?_
          refine aw_aload_n (pc' := 47) nd_O_keepValue_46 rfl rfl rfl ?_
          refine aw_iconst (pc' := 48) (x := 1) nd_O_keepValue_47 rfl (by decide) ?_
          refine aw_put (pc' := 51) nd_O_keepValue_48 rfl nF_3_23 (by first | exact Or.inl rfl | exact Or.inr rfl | assumption) (p_O_hasValue (by assumption)) ?_
          refine aw_aload_n (pc' := 52) nd_O_keepValue_51 rfl rfl rfl ?_
          refine aw_lload_n (pc' := 53) nd_O_keepValue_52 rfl rfl ?_
          refine aw_put (pc' := 56) nd_O_keepValue_53 rfl nF_3_35 trivial (p_O_value (by assumption)) ?_
          refine aw_aload_n (pc' := 57) nd_O_keepValue_56 rfl rfl rfl ?_
          refine aw_iload_n (pc' := 58) nd_O_keepValue_57 rfl rfl ?_
          refine aw_put (pc' := 61) nd_O_keepValue_58 rfl nF_3_26 trivial (p_O_verified (by assumption)) ?_
          refine aw_return nd_O_keepValue_61 rfl (Nat.le_of_ble_eq_true rfl) (Nat.le_of_ble_eq_true rfl) ?_
          (try simp only [hcm] at hb13)
          (try simp only [bi_0] at hb33)
          by_cases z1 : μ.1 (nN k) 2 = 0 <;> by_cases z2 : μ.1 (nN k) 5 = r <;> simp_all [kv, kvs]
