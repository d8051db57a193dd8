/-! the model's parser: close -/
def jmpM (cd : yG) (j : Nat) : yG := cd.set j ((cd.getD j (0, 0)).1, nI cd.length)
def YB (sg : yG) (n : Nat) : Prop := ∀ q ∈ sg, (q.1 = 58 ∨ q.1 = 63) → ∃ j, j < n ∧ q.2 = nI j
theorem YB.le {sg : yG} {n n' : Nat} (h : YB sg n) (hn : n ≤ n') : YB sg n' := fun q hq hc => by
  obtain ⟨j, h1, h2⟩ := h q hq hc
  exact ⟨j, by omega, h2⟩
theorem YB.tail {q : Int32 × Int32} {sg : yG} {n : Nat} (h : YB (q :: sg) n) : YB sg n := fun p hp hc => h p (List.mem_cons_of_mem _ hp) hc
theorem jmpM_len (cd : yG) (j : Nat) : (jmpM cd j).length = cd.length := List.length_set
theorem yS_mem (least : Int32) : ∀ (sg cd : yG), ∀ q ∈ (yS least sg cd).1, q ∈ sg := by
  intro sg
  induction sg with
  | nil => intro cd q hq; exact hq
  | cons p sg ih =>
    intro cd q hq
    obtain ⟨c, m⟩ := p
    unfold yS at hq
    split at hq
    · exact hq
    · exact List.mem_cons_of_mem _ (ih _ q hq)
theorem YB.settle {sg cd : yG} {n : Nat} (least : Int32) (h : YB sg n) : YB (yS least sg cd).1 n := fun q hq hc => h q (yS_mem least sg cd q hq) hc
def yK : Nat → yG → yG → yG × yG
  | 0, sg, cd => (sg, cd)
  | _ + 1, [], cd => ([], cd)
  | f + 1, (c, m) :: sg, cd => if c = 58 then yK f (yS 0 sg (jmpM cd m.toNatClampNeg)).1 (yS 0 sg (jmpM cd m.toNatClampNeg)).2 else ((c, m) :: sg, cd)
def yCl (sg cd : yG) : yG × yG := yK 64 (yS 0 sg cd).1 (yS 0 sg cd).2
theorem yK_len : ∀ (f : Nat) (sg cd : yG), cd.length ≤ (yK f sg cd).2.length ∧ (yK f sg cd).1.length ≤ sg.length := by
  intro f
  induction f with
  | zero => intro sg cd; exact ⟨Nat.le_refl _, Nat.le_refl _⟩
  | succ f ih =>
    intro sg cd
    cases sg with
    | nil => exact ⟨Nat.le_refl _, Nat.le_refl _⟩
    | cons q sg =>
      obtain ⟨c, m⟩ := q
      unfold yK
      split
      · have h1 := ih (yS 0 sg (jmpM cd m.toNatClampNeg)).1 (yS 0 sg (jmpM cd m.toNatClampNeg)).2
        have h2 := yS_len 0 sg (jmpM cd m.toNatClampNeg)
        rw [jmpM_len] at h2
        exact ⟨by omega, by rw [List.length_cons]; omega⟩
      · exact ⟨Nat.le_refl _, Nat.le_refl _⟩
theorem YS.fix {μ0 μ : nMem} {sg cd : yG} {j : Nat} (h : YS μ0 μ sg cd) (hj : j < cd.length) : YS μ0 (ms μ 140 j (nI cd.length)) sg (jmpM cd j) := by
  obtain ⟨⟨f1, f2, f3⟩, ⟨s1, s2⟩, c1, c2⟩ := h
  refine ⟨⟨fun x h1 h2 h3 h4 h5 => ?_, fun i h1 h2 => ?_, f3⟩, ⟨?_, fun i q hq => ?_⟩, ?_, fun i q hq => ?_⟩
  · rw [ms_o h5]; exact f1 x h1 h2 h3 h4 h5
  · rw [ms_o (by decide)]; exact f2 i h1 h2
  · rw [ms_o (by decide)]; exact s1
  · rw [ms_o (by decide), ms_o (by decide)]; exact s2 i q hq
  · rw [ms_o (by decide), jmpM_len]; exact c1
  · rw [ms_o (by decide), ms_s]
    unfold jmpM at hq
    rw [List.getElem?_set] at hq
    split at hq
    · rename_i e
      subst e
      (try rw [if_pos hj] at hq)
      cases hq
      refine ⟨?_, by rw [pk_us]⟩
      have hg : cd[j]? = some (cd[j]'hj) := List.getElem?_eq_getElem hj
      rw [(c2 j _ hg).1]
      simp [List.getD, hg]
    · rename_i e
      rw [pk_un (fun z => e z.symm)]
      exact c2 i q hq

theorem l_M_close {L : Nat} {xs : Nat → Int32} {d : Nat} {Q : ax_Q} {μ0 : nMem} : ∀ (f : Nat) (sg cd : yG) (μ : nMem), sg.length ≤ f → YS μ0 μ sg cd → YB sg cd.length → (yK f sg cd).2.length ≤ 40 → sg.length ≤ 64 → (∀ μ', YS μ0 μ' (yK f sg cd).1 (yK f sg cd).2 → Q none (ns_rep μ')) → nW L xs (d + 2) ns_I_M_close Q 5 [some (.ref 104)] [] 0 0 (ns_rep μ) := by
  intro f
  induction f with
  | zero =>
    intro sg cd μ hf h hy hb hs hq
    obtain rfl : sg = [] := List.length_eq_zero_iff.mp (by omega)
    refine aw_aload_n (pc' := 6) nd_M_close_5 rfl rfl rfl ?_
    refine aw_get (pc' := 9) nd_M_close_6 rfl nF_5_140 g_M_signs ?_
    refine aw_if_le (pc' := 12) (tg := 64) nd_M_close_9 (by decide) rfl (fun _ => ?_) (fun hx => absurd (by rw [h.2.1.1]; decide) hx)
    refine aw_return nd_M_close_64 rfl (Nat.le_of_ble_eq_true rfl) (Nat.le_of_ble_eq_true rfl) ?_
    exact hq μ h
  | succ f ih =>
    intro sg cd μ hf h hy hb hs hq
    cases sg with
    | nil =>
      refine aw_aload_n (pc' := 6) nd_M_close_5 rfl rfl rfl ?_
      refine aw_get (pc' := 9) nd_M_close_6 rfl nF_5_140 g_M_signs ?_
      refine aw_if_le (pc' := 12) (tg := 64) nd_M_close_9 (by decide) rfl (fun _ => ?_) (fun hx => absurd (by rw [h.2.1.1]; decide) hx)
      refine aw_return nd_M_close_64 rfl (Nat.le_of_ble_eq_true rfl) (Nat.le_of_ble_eq_true rfl) ?_
      exact hq μ h
    | cons q sg =>
      obtain ⟨c, m⟩ := q
      rw [List.length_cons] at hs hf
      have htop := h.top
      refine aw_aload_n (pc' := 6) nd_M_close_5 rfl rfl rfl ?_
      refine aw_get (pc' := 9) nd_M_close_6 rfl nF_5_140 g_M_signs ?_
      refine aw_if_le (pc' := 12) (tg := 64) nd_M_close_9 (by decide) rfl (fun hx => absurd hx (by rw [h.2.1.1]; exact nI_nle (by rw [List.length_cons]; omega) (by rw [List.length_cons]; omega))) (fun _ => ?_)
      refine aw_aload_n (pc' := 13) nd_M_close_12 rfl rfl rfl ?_
      refine aw_get (pc' := 16) nd_M_close_13 rfl nF_5_112 g_M_sign ?_
      refine aw_aload_n (pc' := 17) nd_M_close_16 rfl rfl rfl ?_
      refine aw_get (pc' := 20) nd_M_close_17 rfl nF_5_140 g_M_signs ?_
      refine aw_iconst (pc' := 21) (x := 1) nd_M_close_20 rfl (by decide) ?_
      refine aw_isub (pc' := 22) nd_M_close_21 rfl ?_
      refine aw_iald (pc' := 23) nd_M_close_22 rfl ga_Msign sg.length (by rw [h.2.1.1]; exact nI_pred _) (by omega) ?_
      rw [htop.1]
      refine aw_bipush (pc' := 25) (x := 58) nd_M_close_23 rfl (by decide) ?_
      refine aw_icmp_ne (pc' := 28) (tg := 64) nd_M_close_25 (by decide) rfl (fun hb25 => ?_) (fun hb25 => ?_)
      · skip
        refine aw_return nd_M_close_64 rfl (Nat.le_of_ble_eq_true rfl) (Nat.le_of_ble_eq_true rfl) ?_
        refine hq μ ?_
        rw [yK, if_neg hb25]
        exact h
      · skip
        obtain ⟨j, hj, hjm⟩ := hy (c, m) List.mem_cons_self (Or.inl hb25)
        have hjm : m = nI j := hjm
        have hpos := yK_len f (yS 0 sg (jmpM cd m.toNatClampNeg)).1 (yS 0 sg (jmpM cd m.toNatClampNeg)).2
        rw [yK, if_pos hb25] at hb hq
        have hp0 := yS_len 0 sg (jmpM cd m.toNatClampNeg)
        rw [jmpM_len] at hp0
        have hmj : m.toNatClampNeg = j := by rw [hjm]; exact nI_clamp (by omega)
        rw [hmj] at hb hq hpos hp0
        refine aw_aload_n (pc' := 29) nd_M_close_28 rfl rfl rfl ?_
        refine aw_dup (pc' := 30) nd_M_close_29 rfl rfl ?_
        refine aw_get (pc' := 33) nd_M_close_30 rfl nF_5_140 g_M_signs ?_
        refine aw_iconst (pc' := 34) (x := 1) nd_M_close_33 rfl (by decide) ?_
        refine aw_isub (pc' := 35) nd_M_close_34 rfl ?_
        rw [show μ.1 104 37 - 1 = nI sg.length by rw [h.2.1.1]; exact nI_pred _]
        refine aw_put (pc' := 38) nd_M_close_35 rfl nF_5_140 trivial p_M_signs ?_
        refine aw_aload_n (pc' := 39) nd_M_close_38 rfl rfl rfl ?_
        refine aw_get (pc' := 42) nd_M_close_39 rfl nF_5_121 g_M_newWith ?_
        refine aw_aload_n (pc' := 43) nd_M_close_42 rfl rfl rfl ?_
        refine aw_get (pc' := 46) nd_M_close_43 rfl nF_5_115 g_M_mend ?_
        refine aw_aload_n (pc' := 47) nd_M_close_46 rfl rfl rfl ?_
        refine aw_get (pc' := 50) nd_M_close_47 rfl nF_5_140 g_M_signs ?_
        refine aw_iald (pc' := 51) nd_M_close_50 rfl ga_Mmend sg.length (by rw [ms_s, pk_us]) (by omega) ?_
        refine aw_aload_n (pc' := 52) nd_M_close_51 rfl rfl rfl ?_
        refine aw_get (pc' := 55) nd_M_close_52 rfl nF_5_137 g_M_made ?_
        rw [show (ms μ 104 37 (nI sg.length)).1 104 40 = nI cd.length by rw [h.pop.2.2.1]]
        refine aw_iast (pc' := 56) nd_M_close_55 rfl rfl j (by rw [ms_o (by decide), htop.2, hjm]) (by omega) pa_MnewWith ?_
        refine aw_aload_n (pc' := 57) nd_M_close_56 rfl rfl rfl ?_
        refine aw_iconst (pc' := 58) (x := 0) nd_M_close_57 rfl (by decide) ?_
        refine aw_callV (pc' := 61) (as := [_]) (st := []) nd_M_close_58 rfl nC_5_151 ⟨(Nat.le_of_ble_eq_true rfl), rfl, rfl⟩ ns_ioM (Nat.le_of_ble_eq_true rfl) (Nat.le_of_ble_eq_true rfl) (Nat.le_of_ble_eq_true rfl) ?_
        refine c_M_settle (h.pop.fix hj) (by omega) (by omega) ?_
        intro μ' h'
        show nW _ _ _ _ _ 61 _ [] _ _ _
        refine aw_goto (pc' := 5) nd_M_close_61 (by decide) ?_
        exact ih _ _ _ (by omega) h' ((YB.settle 0 hy.tail).le (by omega)) hb (by omega) hq

theorem c_M_close {L : Nat} {xs : Nat → Int32} {d : Nat} {Q : ax_Q} {μ0 μ : nMem} {sg cd : yG} (h : YS μ0 μ sg cd) (hy : YB sg cd.length) (hb : (yCl sg cd).2.length ≤ 40) (hs : sg.length ≤ 64) (hq : ∀ μ', YS μ0 μ' (yCl sg cd).1 (yCl sg cd).2 → Q none (ns_rep μ')) : nM L xs (d + 3) 43 [.ref 104] (ns_rep μ) Q := by
  refine nM.of ns_I_M_close rfl (ls := [_]) (Nat.le_of_ble_eq_true rfl) rfl ?_
  refine aw_aload_n (pc' := 1) nd_M_close_0 rfl rfl rfl ?_
  refine aw_iconst (pc' := 2) (x := 0) nd_M_close_1 rfl (by decide) ?_
  refine aw_callV (pc' := 5) (as := [_]) (st := []) nd_M_close_2 rfl nC_5_151 ⟨(Nat.le_of_ble_eq_true rfl), rfl, rfl⟩ ns_ioM (Nat.le_of_ble_eq_true rfl) (Nat.le_of_ble_eq_true rfl) (Nat.le_of_ble_eq_true rfl) ?_
  have hl0 := yS_len 0 sg cd
  have hl1 := yK_len 64 (yS 0 sg cd).1 (yS 0 sg cd).2
  unfold yCl at hb hq
  refine c_M_settle h (by omega) hs ?_
  intro μ' h'
  show nW _ _ _ _ _ 5 _ [] _ _ _
  exact l_M_close 64 _ _ _ (by omega) h' ((YB.settle 0 hy).le (by omega)) hb (by omega) hq

