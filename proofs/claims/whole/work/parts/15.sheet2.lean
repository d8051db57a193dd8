/-! more of the sheet: cells by index, whole rows copied -/
theorem aw_cells {L : Nat} {xs : Nat → Int32} {d : Nat} {Q : ax_Q} {pc pc' : Nat} {ls : List (Option Value)} {st : List Value} {k n : Nat} {μ : nMem} {I : ax_MI} {i : Int32} (hd : decode I.1 pc = .ok (.aaload, 1)) (hpc : pc + 1 = pc') (j : Nat) (hi : i = nI j) (hj : j < 12) (kk : nW L xs d I Q pc' ls (.ref (nC j) :: st) k n (ns_rep μ)) : nW L xs d I Q pc ls (.int i :: .ref 1 :: st) k n (ns_rep μ) := by
  refine aw_aald hd hpc ns_cells (by decide) j hi hj ?_
  rw [if_pos hj]
  exact kk
def mw (μ : nMem) (a : Nat) (f : Nat → Int32) : nMem := (fun b => if b = a then f else μ.1 b, μ.2)
theorem mw_s {μ : nMem} {a : Nat} {f : Nat → Int32} : (mw μ a f).1 a = f := if_pos rfl
theorem mw_o {μ : nMem} {a b : Nat} {f : Nat → Int32} (h : ¬ b = a) : (mw μ a f).1 b = μ.1 b := if_neg h
theorem ns_rp_uw {N : Nat} {μ : nMem} {a : Nat} {f : Nat → Int32} {e : ax_E} (h : a < N) (he : ns_en a f (μ.2 a) = some e) : ns_rp N (mw μ a f) = ax_up (ns_rp N μ) a e := by
  refine Prod.ext rfl (funext fun id => ?_)
  by_cases hid : id = a
  · subst hid
    show (if id < N then ns_en id ((mw μ id f).1 id) (μ.2 id) else none) = if id = id then some e else _
    rw [if_pos h, if_pos rfl, mw_s, he]
  · show (if id < N then ns_en id ((mw μ a f).1 id) (μ.2 id) else none) = if id = a then some e else (if id < N then ns_en id (μ.1 id) (μ.2 id) else none)
    rw [if_neg hid, mw_o hid]
theorem aw_acopy {L : Nat} {xs : Nat → Int32} {d : Nat} {Q : ax_Q} {pc pc' : Nat} {ls : List (Option Value)} {st : List Value} {k n : Nat} {μ : nMem} {I : ax_MI} {idx np mc' ms' ci a b : Nat} {ty : FieldType} (hd : decode I.1 pc = .ok (.invokestatic idx, 3)) (hpc : pc + 3 = pc') (hc : ns_tC I.2.1 idx = some (.inr 5, np, mc', ms', ci, 0)) (hw : ax_w8 st) (ha : a < 141) (hb : b < 141) (hea : ∀ f g, ns_en a f g = some (.inl (ty, 30, .inl f))) (heb : ∀ f g, ns_en b f g = some (.inl (ty, 30, .inl f))) (ht : refKind ty = false) (hf : ∀ i, i < 30 → fits ty (.int (μ.1 b i)) = true) (kk : nW L xs d I Q pc' ls st k n (ns_rep (mw μ a (va_cpy (μ.1 b) (μ.1 a) 0 0 30)))) : nW L xs d I Q pc ls (.int 30 :: .int 0 :: .ref a :: .int 0 :: .ref b :: st) k n (ns_rep μ) := by
  subst hpc
  refine aw_of hd (Or.inl rfl) ?_
  show ax_op (ns_tC I.2.1 idx) _
  rw [hc]
  refine ⟨rfl, ?_⟩
  show ax_cp (ns_rep μ) (.int 30 :: .int 0 :: .ref a :: .int 0 :: .ref b :: st) (fun st h => nW L xs d I Q (pc + 3) ls st k n h)
  unfold ax_cp
  have e1 : (ns_rep μ).2 b = some (.inl (ty, 30, .inl (μ.1 b))) := ns_rp_at hb (heb _ _)
  have e2 : (ns_rep μ).2 a = some (.inl (ty, 30, .inl (μ.1 a))) := ns_rp_at ha (hea _ _)
  have z0 : (0 : Int32).toNatClampNeg = 0 := by decide
  have z30 : (30 : Int32).toNatClampNeg = 30 := by decide
  simp only [e1, e2, z0, z30]
  refine ⟨trivial, ht, by decide, by decide, by decide, by decide, by decide, (fun i hi => by rw [Nat.zero_add]; exact hf i hi), hw, ?_⟩
  rw [← ns_rp_uw ha (hea _ _)]
  exact kk
theorem ne_SF (k j : Nat) : ¬ nS k = nF j := fun h => ne_FS j k h.symm
theorem ne_ST (k j : Nat) : ¬ nS k = nT j := fun h => ne_TS j k h.symm
theorem ne_TF (k j : Nat) : ¬ nT k = nF j := fun h => ne_FT j k h.symm
/-- the first i places of lastChanges set to v -/
def sr : Nat → nMem → Int32 → nMem
  | 0, m, _ => m
  | i + 1, m, v => ms (sr i m v) 98 i v
theorem sr_o {i : Nat} {m : nMem} {v : Int32} {b : Nat} (h : ¬ b = 98) : (sr i m v).1 b = m.1 b := by
  induction i with
  | zero => rfl
  | succ i ih => rw [sr, ms_o h, ih]
theorem sr_2 {i : Nat} {m : nMem} {v : Int32} : (sr i m v).2 = m.2 := by
  induction i with
  | zero => rfl
  | succ i ih => rw [sr, ms_2, ih]
def srv (μ : nMem) (j : Nat) : nMem := sr (j + 1) (ms μ 0 6 (μ.1 0 6 + 1)) (μ.1 0 6 + 1)
/-- how many of the first i cells have a value in their notes -/
def vcn (μ : nMem) : Nat → Nat
  | 0 => 0
  | i + 1 => vcn μ i + if μ.1 (nN i) 3 = 0 then 0 else 1
theorem vcn_le (μ : nMem) (i : Nat) : vcn μ i ≤ i := by
  induction i with
  | zero => exact Nat.le_refl _
  | succ i ih => unfold vcn; split <;> omega
/-- read i of cell k's note, as a number -/
def rN (μ : nMem) (k i : Nat) : Nat := (μ.1 (nR k) i).toNatClampNeg
/-- the durability that cell s gives -/
def gd (μ : nMem) (s : Nat) : Int32 := if μ.1 (nC s) 9 = 0 then (if μ.1 (nC s) 4 = 0 then μ.1 (nC s) 7 else μ.1 (nN s) 7) else 0
def ldn (μ : nMem) (k : Nat) : Nat → Int32
  | 0 => 2
  | i + 1 => if gd μ (rN μ k i) < ldn μ k i then gd μ (rN μ k i) else ldn μ k i

theorem l_N_startRevision {L : Nat} {xs : Nat → Int32} {d : Nat} {Q : ax_Q} {m : nMem} {v : Int32} {j : Nat} (hj : j < 3) (hv : m.1 0 6 = v) (hq : Q none (ns_rep (sr (j + 1) m v))) : ∀ z i, z + i = j + 1 → nW L xs d ns_I_N_startRevision Q 12 [some (.ref 0), some (.int (nI j)), some (.int (nI i))] [] 0 0 (ns_rep (sr i m v)) := by
  intro z
  induction z with
  | zero =>
    intro i hi
    obtain rfl : i = j + 1 := by omega
    refine aw_iload_n (pc' := 13) nd_N_startRevision_12 rfl rfl ?_
    refine aw_iload_n (pc' := 14) nd_N_startRevision_13 rfl rfl ?_
    refine aw_icmp_gt (pc' := 17) (tg := 33) nd_N_startRevision_14 (by decide) rfl (fun _ => ?_) (fun hx => absurd (nI_lt (by omega) (by omega)) hx)
    refine aw_return nd_N_startRevision_33 rfl (Nat.le_of_ble_eq_true rfl) (Nat.le_of_ble_eq_true rfl) ?_
    exact hq
  | succ z ih =>
    intro i hi
    refine aw_iload_n (pc' := 13) nd_N_startRevision_12 rfl rfl ?_
    refine aw_iload_n (pc' := 14) nd_N_startRevision_13 rfl rfl ?_
    refine aw_icmp_gt (pc' := 17) (tg := 33) nd_N_startRevision_14 (by decide) rfl (fun hx => absurd hx (nI_nlt (by omega) (by omega))) (fun _ => ?_)
    refine aw_aload_n (pc' := 18) nd_N_startRevision_17 rfl rfl rfl ?_
    refine aw_get (pc' := 21) nd_N_startRevision_18 rfl nF_0_29 g_N_lastChanges ?_
    refine aw_iload_n (pc' := 22) nd_N_startRevision_21 rfl rfl ?_
    refine aw_aload_n (pc' := 23) nd_N_startRevision_22 rfl rfl rfl ?_
    refine aw_get (pc' := 26) nd_N_startRevision_23 rfl nF_0_52 g_N_now ?_
    refine aw_iast (pc' := 27) nd_N_startRevision_26 rfl rfl i rfl (by omega) pa_lastChanges ?_
    refine aw_iinc (pc' := 30) (ls' := [_, _, _]) nd_N_startRevision_27 rfl rfl (nI_1 i) rfl ?_
    refine aw_goto (pc' := 12) nd_N_startRevision_30 (by decide) ?_
    rw [show (sr i m v).1 0 6 = v from by rw [sr_o (by decide)]; exact hv]
    exact ih (i + 1) (by omega)

theorem c_N_startRevision {L : Nat} {xs : Nat → Int32} {d : Nat} {Q : ax_Q} {μ : nMem} {j : Nat} (hj : j < 3) (hq : Q none (ns_rep (srv μ j))) : nM L xs (d + 1) 14 [.ref 0, .int (nI j)] (ns_rep μ) Q := by
  refine nM.of ns_I_N_startRevision rfl (ls := [_, _, _]) (Nat.le_of_ble_eq_true rfl) rfl ?_
  refine aw_aload_n (pc' := 1) nd_N_startRevision_0 rfl rfl rfl ?_
  refine aw_dup (pc' := 2) nd_N_startRevision_1 rfl rfl ?_
  refine aw_get (pc' := 5) nd_N_startRevision_2 rfl nF_0_52 g_N_now ?_
  refine aw_iconst (pc' := 6) (x := 1) nd_N_startRevision_5 rfl (by decide) ?_
  refine aw_iadd (pc' := 7) nd_N_startRevision_6 rfl ?_
  refine aw_put (pc' := 10) nd_N_startRevision_7 rfl nF_0_52 trivial p_N_now ?_
  refine aw_iconst (pc' := 11) (x := 0) nd_N_startRevision_10 rfl (by decide) ?_
  refine aw_istore_n (pc' := 12) (ls' := [_, _, _]) nd_N_startRevision_11 rfl (Nat.le_of_ble_eq_true rfl) rfl ?_
  exact l_N_startRevision hj (by rw [ms_s, pk_us]) hq (j + 1) 0 (by omega)

theorem l_N_valuesInNotes {L : Nat} {xs : Nat → Int32} {d : Nat} {Q : ax_Q} {μ : nMem} (hq : Q (some (.int (nI (vcn μ 12)))) (ns_rep μ)) : ∀ z i, z + i = 12 → nW L xs d ns_I_N_valuesInNotes Q 4 [some (.ref 0), some (.int (nI (vcn μ i))), some (.int (nI i))] [] 0 0 (ns_rep μ) := by
  intro z
  induction z with
  | zero =>
    intro i hi
    obtain rfl : i = 12 := by omega
    refine aw_iload_n (pc' := 5) nd_N_valuesInNotes_4 rfl rfl ?_
    refine aw_bipush (pc' := 7) (x := 12) nd_N_valuesInNotes_5 rfl (by decide) ?_
    refine aw_icmp_ge (pc' := 10) (tg := 39) nd_N_valuesInNotes_7 (by decide) rfl (fun _ => ?_) (fun hx => absurd (by decide) hx)
    refine aw_iload_n (pc' := 40) nd_N_valuesInNotes_39 rfl rfl ?_
    refine aw_ireturn nd_N_valuesInNotes_40 rfl rfl (Nat.le_of_ble_eq_true rfl) (Nat.le_of_ble_eq_true rfl) ?_
    exact hq
  | succ z ih =>
    intro i hi
    have hi12 : i < 12 := by omega
    refine aw_iload_n (pc' := 5) nd_N_valuesInNotes_4 rfl rfl ?_
    refine aw_bipush (pc' := 7) (x := 12) nd_N_valuesInNotes_5 rfl (by decide) ?_
    refine aw_icmp_ge (pc' := 10) (tg := 39) nd_N_valuesInNotes_7 (by decide) rfl (fun hx => absurd hx (nI_ge (b := 12) hi12 (by decide))) (fun _ => ?_)
    refine aw_iload_n (pc' := 11) nd_N_valuesInNotes_10 rfl rfl ?_
    refine aw_aload_n (pc' := 12) nd_N_valuesInNotes_11 rfl rfl rfl ?_
    refine aw_get (pc' := 15) nd_N_valuesInNotes_12 rfl nF_0_24 g_N_cells ?_
    refine aw_iload_n (pc' := 16) nd_N_valuesInNotes_15 rfl rfl ?_
    refine aw_cells (pc' := 17) nd_N_valuesInNotes_16 rfl i rfl hi12 ?_
    refine aw_get (pc' := 20) nd_N_valuesInNotes_17 rfl nF_0_113 (g_C_note (by assumption)) ?_
    refine aw_get (pc' := 23) nd_N_valuesInNotes_20 rfl nF_0_128 (g_O_hasValue (by assumption)) ?_
    refine aw_if_eq (pc' := 26) (tg := 30) nd_N_valuesInNotes_23 (by decide) rfl (fun hb23 => ?_) (fun hb23 => ?_)
    · skip
      refine aw_iconst (pc' := 31) (x := 0) nd_N_valuesInNotes_30 rfl (by decide) ?_
      refine aw_iadd (pc' := 32) nd_N_valuesInNotes_31 rfl ?_
      refine aw_istore_n (pc' := 33) (ls' := [_, _, _]) nd_N_valuesInNotes_32 rfl (Nat.le_of_ble_eq_true rfl) rfl ?_
      refine aw_iinc (pc' := 36) (ls' := [_, _, _]) nd_N_valuesInNotes_33 rfl rfl (nI_1 i) rfl ?_
      refine aw_goto (pc' := 4) nd_N_valuesInNotes_36 (by decide) ?_
      have e := ih (i + 1) (by omega)
      simp only [vcn, hb23, if_true, if_false, Nat.add_zero] at e
      first
        | exact e
        | (rw [← nI_1] at e; exact e)
        | (rw [show nI (vcn μ i) + 0 = nI (vcn μ i) from Int32.add_zero _]; exact e)
    · skip
      refine aw_iconst (pc' := 27) (x := 1) nd_N_valuesInNotes_26 rfl (by decide) ?_
      refine aw_goto (pc' := 31) nd_N_valuesInNotes_27 (by decide) ?_
      refine aw_iadd (pc' := 32) nd_N_valuesInNotes_31 rfl ?_
      refine aw_istore_n (pc' := 33) (ls' := [_, _, _]) nd_N_valuesInNotes_32 rfl (Nat.le_of_ble_eq_true rfl) rfl ?_
      refine aw_iinc (pc' := 36) (ls' := [_, _, _]) nd_N_valuesInNotes_33 rfl rfl (nI_1 i) rfl ?_
      refine aw_goto (pc' := 4) nd_N_valuesInNotes_36 (by decide) ?_
      have e := ih (i + 1) (by omega)
      simp only [vcn, hb23, if_true, if_false, Nat.add_zero] at e
      first
        | exact e
        | (rw [← nI_1] at e; exact e)
        | (rw [show nI (vcn μ i) + 0 = nI (vcn μ i) from Int32.add_zero _]; exact e)

theorem c_N_valuesInNotes {L : Nat} {xs : Nat → Int32} {d : Nat} {Q : ax_Q} {μ : nMem} (hq : Q (some (.int (nI (vcn μ 12)))) (ns_rep μ)) : nM L xs (d + 1) 27 [.ref 0] (ns_rep μ) Q := by
  refine nM.of ns_I_N_valuesInNotes rfl (ls := [_, _, _]) (Nat.le_of_ble_eq_true rfl) rfl ?_
  refine aw_iconst (pc' := 1) (x := 0) nd_N_valuesInNotes_0 rfl (by decide) ?_
  refine aw_istore_n (pc' := 2) (ls' := [_, _, _]) nd_N_valuesInNotes_1 rfl (Nat.le_of_ble_eq_true rfl) rfl ?_
  refine aw_iconst (pc' := 3) (x := 0) nd_N_valuesInNotes_2 rfl (by decide) ?_
  refine aw_istore_n (pc' := 4) (ls' := [_, _, _]) nd_N_valuesInNotes_3 rfl (Nat.le_of_ble_eq_true rfl) rfl ?_
  exact l_N_valuesInNotes hq 12 0 (by omega)

theorem l_N_least {L : Nat} {xs : Nat → Int32} {d : Nat} {Q : ax_Q} {μ : nMem} {k n : Nat} (hk : k < 12) (hn : μ.1 (nN k) 1 = nI n) (hle : n ≤ 12) (hr : ∀ i, i < n → μ.1 (nR k) i = nI (rN μ k i) ∧ rN μ k i < 12) (hq : Q (some (.int (ldn μ k n))) (ns_rep μ)) : ∀ z i (o : Option Value), z + i = n → nW L xs (d + 1) ns_I_N_leastDurability Q 4 [some (.ref 0), some (.ref (nN k)), some (.int (ldn μ k i)), some (.int (nI i)), o] [] 0 0 (ns_rep μ) := by
  intro z
  induction z with
  | zero =>
    intro i o hi
    obtain rfl : i = n := by omega
    refine aw_iload_n (pc' := 5) nd_N_leastDurability_4 rfl rfl ?_
    refine aw_aload_n (pc' := 6) nd_N_leastDurability_5 rfl rfl rfl ?_
    refine aw_get (pc' := 9) nd_N_leastDurability_6 rfl nF_0_125 (g_O_readCount (by assumption)) ?_
    refine aw_icmp_ge (pc' := 12) (tg := 53) nd_N_leastDurability_9 (by decide) rfl (fun _ => ?_) (fun hx => absurd (by rw [hn]; exact nI_le (Nat.le_refl _) (by omega)) hx)
    refine aw_iload_n (pc' := 54) nd_N_leastDurability_53 rfl rfl ?_
    refine aw_ireturn nd_N_leastDurability_54 rfl rfl (Nat.le_of_ble_eq_true rfl) (Nat.le_of_ble_eq_true rfl) ?_
    exact hq
  | succ z ih =>
    intro i o hi
    have hin : i < n := by omega
    have hs := (hr i hin).2
    refine aw_iload_n (pc' := 5) nd_N_leastDurability_4 rfl rfl ?_
    refine aw_aload_n (pc' := 6) nd_N_leastDurability_5 rfl rfl rfl ?_
    refine aw_get (pc' := 9) nd_N_leastDurability_6 rfl nF_0_125 (g_O_readCount (by assumption)) ?_
    refine aw_icmp_ge (pc' := 12) (tg := 53) nd_N_leastDurability_9 (by decide) rfl (fun hx => absurd hx (by rw [hn]; exact nI_ge hin (by omega))) (fun _ => ?_)
    refine aw_aload_n (pc' := 13) nd_N_leastDurability_12 rfl rfl rfl ?_
    refine aw_get (pc' := 16) nd_N_leastDurability_13 rfl nF_0_24 g_N_cells ?_
    refine aw_aload_n (pc' := 17) nd_N_leastDurability_16 rfl rfl rfl ?_
    refine aw_get (pc' := 20) nd_N_leastDurability_17 rfl nF_0_131 (g_O_reads (by assumption)) ?_
    refine aw_iload_n (pc' := 21) nd_N_leastDurability_20 rfl rfl ?_
    refine aw_iald (pc' := 22) nd_N_leastDurability_21 rfl (ga_R (by assumption)) i rfl (by omega) ?_
    refine aw_cells (pc' := 23) nd_N_leastDurability_22 rfl (rN μ k i) (hr i hin).1 hs ?_
    refine aw_astore (pc' := 25) (ls' := [_, _, _, _, _]) nd_N_leastDurability_23 rfl rfl (Nat.le_of_ble_eq_true rfl) rfl ?_
    refine aw_iload_n (pc' := 26) nd_N_leastDurability_25 rfl rfl ?_
    refine aw_aload (pc' := 28) nd_N_leastDurability_26 rfl rfl rfl ?_
    refine aw_get (pc' := 31) nd_N_leastDurability_28 rfl nF_0_176 (g_C_atWork (by assumption)) ?_
    refine aw_if_eq (pc' := 34) (tg := 38) nd_N_leastDurability_31 (by decide) rfl (fun hb31 => ?_) (fun hb31 => ?_)
    · skip
      refine aw_aload (pc' := 40) nd_N_leastDurability_38 rfl rfl rfl ?_
      refine aw_callV (pc' := 43) (as := []) (st := [_]) nd_N_leastDurability_40 rfl nC_0_122 ⟨(Nat.le_of_ble_eq_true rfl), rfl, rfl⟩ (ns_ioC (by assumption)) (Nat.le_of_ble_eq_true rfl) (Nat.le_of_ble_eq_true rfl) (Nat.le_of_ble_eq_true rfl) ?_
      refine c_C_given hs ?_
      show nW _ _ _ _ _ 43 _ [_, _] _ _ _
      refine aw_min (a := 0) (pc' := 46) nd_N_leastDurability_43 rfl nC_0_9 (Nat.le_of_ble_eq_true rfl) ?_
      refine aw_istore_n (pc' := 47) (ls' := [_, _, _, _, _]) nd_N_leastDurability_46 rfl (Nat.le_of_ble_eq_true rfl) rfl ?_
      refine aw_iinc (pc' := 50) (ls' := [_, _, _, _, _]) nd_N_leastDurability_47 rfl rfl (nI_1 i) rfl ?_
      refine aw_goto (pc' := 4) nd_N_leastDurability_50 (by decide) ?_
      have e := ih (i + 1) (some (.ref (nC (rN μ k i)))) (by omega)
      simp only [ldn, gd, hb31, if_true, if_false] at e
      exact e
    · skip
      refine aw_iconst (pc' := 35) (x := 0) nd_N_leastDurability_34 rfl (by decide) ?_
      refine aw_goto (pc' := 43) nd_N_leastDurability_35 (by decide) ?_
      refine aw_min (a := 0) (pc' := 46) nd_N_leastDurability_43 rfl nC_0_9 (Nat.le_of_ble_eq_true rfl) ?_
      refine aw_istore_n (pc' := 47) (ls' := [_, _, _, _, _]) nd_N_leastDurability_46 rfl (Nat.le_of_ble_eq_true rfl) rfl ?_
      refine aw_iinc (pc' := 50) (ls' := [_, _, _, _, _]) nd_N_leastDurability_47 rfl rfl (nI_1 i) rfl ?_
      refine aw_goto (pc' := 4) nd_N_leastDurability_50 (by decide) ?_
      have e := ih (i + 1) (some (.ref (nC (rN μ k i)))) (by omega)
      simp only [ldn, gd, hb31, if_true, if_false] at e
      exact e

theorem c_N_least {L : Nat} {xs : Nat → Int32} {d : Nat} {Q : ax_Q} {μ : nMem} {k n : Nat} (hk : k < 12) (hn : μ.1 (nN k) 1 = nI n) (hle : n ≤ 12) (hr : ∀ i, i < n → μ.1 (nR k) i = nI (rN μ k i) ∧ rN μ k i < 12) (hq : Q (some (.int (ldn μ k n))) (ns_rep μ)) : nM L xs (d + 2) 21 [.ref 0, .ref (nN k)] (ns_rep μ) Q := by
  refine nM.of ns_I_N_leastDurability rfl (ls := [_, _, _, _, _]) (Nat.le_of_ble_eq_true rfl) rfl ?_
  refine aw_iconst (pc' := 1) (x := 2) nd_N_leastDurability_0 rfl (by decide) ?_
  refine aw_istore_n (pc' := 2) (ls' := [_, _, _, _, _]) nd_N_leastDurability_1 rfl (Nat.le_of_ble_eq_true rfl) rfl ?_
  refine aw_iconst (pc' := 3) (x := 0) nd_N_leastDurability_2 rfl (by decide) ?_
  refine aw_istore_n (pc' := 4) (ls' := [_, _, _, _, _]) nd_N_leastDurability_3 rfl (Nat.le_of_ble_eq_true rfl) rfl ?_
  exact l_N_least hk hn hle hr hq n 0 none (by omega)
