/-! the model's loop: runAll -/
def rA (L : Nat) (xs : Nat → Int32) (d : Nat) (Q : ax_Q) (μ : nMem) : Prop := ∀ w, nW L xs (d + 5) ns_I_M_runAll Q 0 [some (.ref 104), w] [] 0 0 (ns_rep μ)
theorem mr_enter {L : Nat} {xs : Nat → Int32} {d : Nat} {Q : ax_Q} (μ : nMem) (f k e : Nat) (hf : f < 12) (hk : k < 12) (ho : μ.1 104 27 = nI (f + 1)) (hp : μ.1 128 f = nI k) (hm : μ.1 129 f = 0) (he : ¬ μ.1 117 k = 0 → μ.1 122 k = nI e) (he3 : e < 3) (k1 : ¬ μ.1 117 k = 0 → ¬ μ.1 120 k < μ.1 106 e → rA L xs d Q (fiM (ms (cnM μ k 2) 120 k (μ.1 104 3)) f k)) (k2 : (μ.1 117 k = 0 ∨ μ.1 120 k < μ.1 106 e) → rA L xs d Q (ms (ms μ 130 f 0) 129 f (if μ.1 117 k = 0 then 2 else if μ.1 120 k < μ.1 113 k then 2 else 1))) : rA L xs d Q μ := by
  intro w
  refine aw_aload_n (pc' := 1) nd_M_runAll_0 rfl rfl rfl ?_
  refine aw_get (pc' := 4) nd_M_runAll_1 rfl nF_5_191 g_M_opened ?_
  rw [ho]
  refine aw_if_le (pc' := 7) (tg := 166) nd_M_runAll_4 (by decide) rfl (fun hx => absurd hx (nI_nle (Nat.succ_pos _) (by omega))) (fun _ => ?_)
  refine aw_aload_n (pc' := 8) nd_M_runAll_7 rfl rfl rfl ?_
  refine aw_get (pc' := 11) nd_M_runAll_8 rfl nF_5_191 g_M_opened ?_
  refine aw_iconst (pc' := 12) (x := 1) nd_M_runAll_11 rfl (by decide) ?_
  refine aw_isub (pc' := 13) nd_M_runAll_12 rfl ?_
  rw [ho, nI_pred]
  refine aw_istore_n (pc' := 14) (ls' := [_, _]) nd_M_runAll_13 rfl (Nat.le_of_ble_eq_true rfl) rfl ?_
  refine aw_aload_n (pc' := 15) nd_M_runAll_14 rfl rfl rfl ?_
  refine aw_get (pc' := 18) nd_M_runAll_15 rfl nF_5_88 g_M_mode ?_
  refine aw_iload_n (pc' := 19) nd_M_runAll_18 rfl rfl ?_
  refine aw_iald (pc' := 20) nd_M_runAll_19 rfl ga_Mmode f rfl hf ?_
  rw [hm]
  refine aw_if_ne (pc' := 23) (tg := 37) nd_M_runAll_20 (by decide) rfl (fun hx => absurd (by decide) hx) (fun _ => ?_)
  refine aw_aload_n (pc' := 24) nd_M_runAll_23 rfl rfl rfl ?_
  refine aw_iload_n (pc' := 25) nd_M_runAll_24 rfl rfl ?_
  refine aw_aload_n (pc' := 26) nd_M_runAll_25 rfl rfl rfl ?_
  refine aw_get (pc' := 29) nd_M_runAll_26 rfl nF_5_85 g_M_open ?_
  refine aw_iload_n (pc' := 30) nd_M_runAll_29 rfl rfl ?_
  refine aw_iald (pc' := 31) nd_M_runAll_30 rfl ga_Mopen f rfl hf ?_
  rw [hp]
  refine aw_callV (pc' := 34) (as := [_, _]) (st := []) nd_M_runAll_31 rfl nC_5_197 ⟨(Nat.le_of_ble_eq_true rfl), rfl, rfl⟩ ns_ioM (Nat.le_of_ble_eq_true rfl) (Nat.le_of_ble_eq_true rfl) (Nat.le_of_ble_eq_true rfl) ?_
  refine c_M_enter hf hk ho hp he he3 (fun z y => ?_) (fun z => ?_)
  · show nW _ _ _ _ _ 34 _ [] _ _ _
    refine aw_goto (pc' := 163) nd_M_runAll_34 (by decide) ?_
    refine aw_goto (pc' := 0) nd_M_runAll_163 (by decide) ?_
    exact k1 z y _
  · show nW _ _ _ _ _ 34 _ [] _ _ _
    refine aw_goto (pc' := 163) nd_M_runAll_34 (by decide) ?_
    refine aw_goto (pc' := 0) nd_M_runAll_163 (by decide) ?_
    exact k2 z _
  --end

theorem mr_thru {L : Nat} {xs : Nat → Int32} {d : Nat} {Q : ax_Q} (μ : nMem) (f k a : Nat) (rc : Nat → Nat) (r : Nat) (hf : f < 12) (hk : k < 12) (ho : μ.1 104 27 = nI (f + 1)) (hp : μ.1 128 f = nI k) (hm : μ.1 129 f = 1) (ha : μ.1 130 f = nI a) (hr : μ.1 123 k = nI r) (hr12 : r ≤ 12) (hrc : ∀ i, i < r → μ.1 124 (12 * k + i) = nI (rc i) ∧ rc i < 12) (har : a ≤ r) (k0 : a = r → rA L xs d Q (fiM (ms (ms (cnM μ k 1) 120 k (μ.1 104 3)) 122 k (ldM (ms (cnM μ k 1) 120 k (μ.1 104 3)) rc r)) f k)) (k1 : a < r → ¬ μ.1 135 (rc a) = 0 → rA L xs d Q (ms μ 129 f 2)) (k2 : a < r → μ.1 135 (rc a) = 0 → stM μ (rc a) = false → f + 1 < 12 ∧ rA L xs d Q (saM μ (f + 1) (rc a) 0)) (k3 : a < r → μ.1 135 (rc a) = 0 → stM μ (rc a) = true → μ.1 120 k < sOf μ (rc a) → rA L xs d Q (ms μ 129 f 2)) (k4 : a < r → μ.1 135 (rc a) = 0 → stM μ (rc a) = true → ¬ μ.1 120 k < sOf μ (rc a) → rA L xs d Q (ms μ 130 f (nI (a + 1)))) : rA L xs d Q μ := by
  intro w
  refine aw_aload_n (pc' := 1) nd_M_runAll_0 rfl rfl rfl ?_
  refine aw_get (pc' := 4) nd_M_runAll_1 rfl nF_5_191 g_M_opened ?_
  rw [ho]
  refine aw_if_le (pc' := 7) (tg := 166) nd_M_runAll_4 (by decide) rfl (fun hx => absurd hx (nI_nle (Nat.succ_pos _) (by omega))) (fun _ => ?_)
  refine aw_aload_n (pc' := 8) nd_M_runAll_7 rfl rfl rfl ?_
  refine aw_get (pc' := 11) nd_M_runAll_8 rfl nF_5_191 g_M_opened ?_
  refine aw_iconst (pc' := 12) (x := 1) nd_M_runAll_11 rfl (by decide) ?_
  refine aw_isub (pc' := 13) nd_M_runAll_12 rfl ?_
  rw [ho, nI_pred]
  refine aw_istore_n (pc' := 14) (ls' := [_, _]) nd_M_runAll_13 rfl (Nat.le_of_ble_eq_true rfl) rfl ?_
  refine aw_aload_n (pc' := 15) nd_M_runAll_14 rfl rfl rfl ?_
  refine aw_get (pc' := 18) nd_M_runAll_15 rfl nF_5_88 g_M_mode ?_
  refine aw_iload_n (pc' := 19) nd_M_runAll_18 rfl rfl ?_
  refine aw_iald (pc' := 20) nd_M_runAll_19 rfl ga_Mmode f rfl hf ?_
  rw [hm]
  refine aw_if_ne (pc' := 23) (tg := 37) nd_M_runAll_20 (by decide) rfl (fun _ => ?_) (fun hx => absurd hx (by decide))
  refine aw_aload_n (pc' := 38) nd_M_runAll_37 rfl rfl rfl ?_
  refine aw_get (pc' := 41) nd_M_runAll_38 rfl nF_5_88 g_M_mode ?_
  refine aw_iload_n (pc' := 42) nd_M_runAll_41 rfl rfl ?_
  refine aw_iald (pc' := 43) nd_M_runAll_42 rfl ga_Mmode f rfl hf ?_
  rw [hm]
  refine aw_iconst (pc' := 44) (x := 1) nd_M_runAll_43 rfl (by decide) ?_
  refine aw_icmp_ne (pc' := 47) (tg := 61) nd_M_runAll_44 (by decide) rfl (fun hx => absurd (by decide) hx) (fun _ => ?_)
  refine aw_aload_n (pc' := 48) nd_M_runAll_47 rfl rfl rfl ?_
  refine aw_iload_n (pc' := 49) nd_M_runAll_48 rfl rfl ?_
  refine aw_aload_n (pc' := 50) nd_M_runAll_49 rfl rfl rfl ?_
  refine aw_get (pc' := 53) nd_M_runAll_50 rfl nF_5_85 g_M_open ?_
  refine aw_iload_n (pc' := 54) nd_M_runAll_53 rfl rfl ?_
  refine aw_iald (pc' := 55) nd_M_runAll_54 rfl ga_Mopen f rfl hf ?_
  rw [hp]
  refine aw_callV (pc' := 58) (as := [_, _]) (st := []) nd_M_runAll_55 rfl nC_5_200 ⟨(Nat.le_of_ble_eq_true rfl), rfl, rfl⟩ ns_ioM (Nat.le_of_ble_eq_true rfl) (Nat.le_of_ble_eq_true rfl) (Nat.le_of_ble_eq_true rfl) ?_
  refine c_M_lookThrough hf hk ho hp ha hr hr12 hrc har (fun z => ?_) (fun z y => ?_) (fun z y x => ⟨(k2 z y x).1, ?_⟩) (fun z y x v => ?_) (fun z y x v => ?_)
  · show nW _ _ _ _ _ 58 _ [] _ _ _
    refine aw_goto (pc' := 163) nd_M_runAll_58 (by decide) ?_
    refine aw_goto (pc' := 0) nd_M_runAll_163 (by decide) ?_
    exact k0 z _
  · show nW _ _ _ _ _ 58 _ [] _ _ _
    refine aw_goto (pc' := 163) nd_M_runAll_58 (by decide) ?_
    refine aw_goto (pc' := 0) nd_M_runAll_163 (by decide) ?_
    exact k1 z y _
  · show nW _ _ _ _ _ 58 _ [] _ _ _
    refine aw_goto (pc' := 163) nd_M_runAll_58 (by decide) ?_
    refine aw_goto (pc' := 0) nd_M_runAll_163 (by decide) ?_
    exact (k2 z y x).2 _
  · show nW _ _ _ _ _ 58 _ [] _ _ _
    refine aw_goto (pc' := 163) nd_M_runAll_58 (by decide) ?_
    refine aw_goto (pc' := 0) nd_M_runAll_163 (by decide) ?_
    exact k3 z y x v _
  · show nW _ _ _ _ _ 58 _ [] _ _ _
    refine aw_goto (pc' := 163) nd_M_runAll_58 (by decide) ?_
    refine aw_goto (pc' := 0) nd_M_runAll_163 (by decide) ?_
    exact k4 z y x v _
  --end

theorem mr_init {L : Nat} {xs : Nat → Int32} {d : Nat} {Q : ax_Q} (μ : nMem) (f k : Nat) (hf : f < 12) (hk : k < 12) (ho : μ.1 104 27 = nI (f + 1)) (hp : μ.1 128 f = nI k) (hm : μ.1 129 f = 2) (k0 : rA L xs d Q (ms (ms (ms (ms (ms μ 130 f 0) 131 f 0) 133 f 0) 136 f 0) 129 f 3)) : rA L xs d Q μ := by
  intro w
  refine aw_aload_n (pc' := 1) nd_M_runAll_0 rfl rfl rfl ?_
  refine aw_get (pc' := 4) nd_M_runAll_1 rfl nF_5_191 g_M_opened ?_
  rw [ho]
  refine aw_if_le (pc' := 7) (tg := 166) nd_M_runAll_4 (by decide) rfl (fun hx => absurd hx (nI_nle (Nat.succ_pos _) (by omega))) (fun _ => ?_)
  refine aw_aload_n (pc' := 8) nd_M_runAll_7 rfl rfl rfl ?_
  refine aw_get (pc' := 11) nd_M_runAll_8 rfl nF_5_191 g_M_opened ?_
  refine aw_iconst (pc' := 12) (x := 1) nd_M_runAll_11 rfl (by decide) ?_
  refine aw_isub (pc' := 13) nd_M_runAll_12 rfl ?_
  rw [ho, nI_pred]
  refine aw_istore_n (pc' := 14) (ls' := [_, _]) nd_M_runAll_13 rfl (Nat.le_of_ble_eq_true rfl) rfl ?_
  refine aw_aload_n (pc' := 15) nd_M_runAll_14 rfl rfl rfl ?_
  refine aw_get (pc' := 18) nd_M_runAll_15 rfl nF_5_88 g_M_mode ?_
  refine aw_iload_n (pc' := 19) nd_M_runAll_18 rfl rfl ?_
  refine aw_iald (pc' := 20) nd_M_runAll_19 rfl ga_Mmode f rfl hf ?_
  rw [hm]
  refine aw_if_ne (pc' := 23) (tg := 37) nd_M_runAll_20 (by decide) rfl (fun _ => ?_) (fun hx => absurd hx (by decide))
  refine aw_aload_n (pc' := 38) nd_M_runAll_37 rfl rfl rfl ?_
  refine aw_get (pc' := 41) nd_M_runAll_38 rfl nF_5_88 g_M_mode ?_
  refine aw_iload_n (pc' := 42) nd_M_runAll_41 rfl rfl ?_
  refine aw_iald (pc' := 43) nd_M_runAll_42 rfl ga_Mmode f rfl hf ?_
  rw [hm]
  refine aw_iconst (pc' := 44) (x := 1) nd_M_runAll_43 rfl (by decide) ?_
  refine aw_icmp_ne (pc' := 47) (tg := 61) nd_M_runAll_44 (by decide) rfl (fun _ => ?_) (fun hx => absurd hx (by decide))
  refine aw_aload_n (pc' := 62) nd_M_runAll_61 rfl rfl rfl ?_
  refine aw_get (pc' := 65) nd_M_runAll_62 rfl nF_5_88 g_M_mode ?_
  refine aw_iload_n (pc' := 66) nd_M_runAll_65 rfl rfl ?_
  refine aw_iald (pc' := 67) nd_M_runAll_66 rfl ga_Mmode f rfl hf ?_
  rw [hm]
  refine aw_iconst (pc' := 68) (x := 2) nd_M_runAll_67 rfl (by decide) ?_
  refine aw_icmp_ne (pc' := 71) (tg := 109) nd_M_runAll_68 (by decide) rfl (fun hx => absurd (by decide) hx) (fun _ => ?_)
  refine aw_aload_n (pc' := 72) nd_M_runAll_71 rfl rfl rfl ?_
  refine aw_get (pc' := 75) nd_M_runAll_72 rfl nF_5_91 g_M_at ?_
  refine aw_iload_n (pc' := 76) nd_M_runAll_75 rfl rfl ?_
  refine aw_iconst (pc' := 77) (x := 0) nd_M_runAll_76 rfl (by decide) ?_
  refine aw_iast (pc' := 78) nd_M_runAll_77 rfl rfl f rfl hf pa_Mat ?_
  refine aw_aload_n (pc' := 79) nd_M_runAll_78 rfl rfl rfl ?_
  refine aw_get (pc' := 82) nd_M_runAll_79 rfl nF_5_94 g_M_depth ?_
  refine aw_iload_n (pc' := 83) nd_M_runAll_82 rfl rfl ?_
  refine aw_iconst (pc' := 84) (x := 0) nd_M_runAll_83 rfl (by decide) ?_
  refine aw_iast (pc' := 85) nd_M_runAll_84 rfl rfl f rfl hf pa_Mdepth ?_
  refine aw_aload_n (pc' := 86) nd_M_runAll_85 rfl rfl rfl ?_
  refine aw_get (pc' := 89) nd_M_runAll_86 rfl nF_5_100 g_M_found ?_
  refine aw_iload_n (pc' := 90) nd_M_runAll_89 rfl rfl ?_
  refine aw_iconst (pc' := 91) (x := 0) nd_M_runAll_90 rfl (by decide) ?_
  refine aw_iast (pc' := 92) nd_M_runAll_91 rfl rfl f rfl hf pa_Mfound ?_
  refine aw_aload_n (pc' := 93) nd_M_runAll_92 rfl rfl rfl ?_
  refine aw_get (pc' := 96) nd_M_runAll_93 rfl nF_5_109 g_M_ring ?_
  refine aw_iload_n (pc' := 97) nd_M_runAll_96 rfl rfl ?_
  refine aw_iconst (pc' := 98) (x := 0) nd_M_runAll_97 rfl (by decide) ?_
  refine aw_bast (pc' := 99) nd_M_runAll_98 rfl nz0 f rfl hf pa_Mring ?_
  refine aw_aload_n (pc' := 100) nd_M_runAll_99 rfl rfl rfl ?_
  refine aw_get (pc' := 103) nd_M_runAll_100 rfl nF_5_88 g_M_mode ?_
  refine aw_iload_n (pc' := 104) nd_M_runAll_103 rfl rfl ?_
  refine aw_iconst (pc' := 105) (x := 3) nd_M_runAll_104 rfl (by decide) ?_
  refine aw_iast (pc' := 106) nd_M_runAll_105 rfl rfl f rfl hf pa_Mmode ?_
  refine aw_goto (pc' := 163) nd_M_runAll_106 (by decide) ?_
  refine aw_goto (pc' := 0) nd_M_runAll_163 (by decide) ?_
  exact k0 _

theorem mr_done {L : Nat} {xs : Nat → Int32} {d : Nat} {Q : ax_Q} (μ : nMem) (f k : Nat) (hf : f < 12) (hk : k < 12) (ho : μ.1 104 27 = nI (f + 1)) (hp : μ.1 128 f = nI k) (hm : μ.1 129 f = 3) (ha : μ.1 130 f = μ.1 110 k) (hfo : FO μ f) (k0 : rA L xs d Q (wkX μ f k (μ.2 132 (16 * f)))) : rA L xs d Q μ := by
  intro w
  refine aw_aload_n (pc' := 1) nd_M_runAll_0 rfl rfl rfl ?_
  refine aw_get (pc' := 4) nd_M_runAll_1 rfl nF_5_191 g_M_opened ?_
  rw [ho]
  refine aw_if_le (pc' := 7) (tg := 166) nd_M_runAll_4 (by decide) rfl (fun hx => absurd hx (nI_nle (Nat.succ_pos _) (by omega))) (fun _ => ?_)
  refine aw_aload_n (pc' := 8) nd_M_runAll_7 rfl rfl rfl ?_
  refine aw_get (pc' := 11) nd_M_runAll_8 rfl nF_5_191 g_M_opened ?_
  refine aw_iconst (pc' := 12) (x := 1) nd_M_runAll_11 rfl (by decide) ?_
  refine aw_isub (pc' := 13) nd_M_runAll_12 rfl ?_
  rw [ho, nI_pred]
  refine aw_istore_n (pc' := 14) (ls' := [_, _]) nd_M_runAll_13 rfl (Nat.le_of_ble_eq_true rfl) rfl ?_
  refine aw_aload_n (pc' := 15) nd_M_runAll_14 rfl rfl rfl ?_
  refine aw_get (pc' := 18) nd_M_runAll_15 rfl nF_5_88 g_M_mode ?_
  refine aw_iload_n (pc' := 19) nd_M_runAll_18 rfl rfl ?_
  refine aw_iald (pc' := 20) nd_M_runAll_19 rfl ga_Mmode f rfl hf ?_
  rw [hm]
  refine aw_if_ne (pc' := 23) (tg := 37) nd_M_runAll_20 (by decide) rfl (fun _ => ?_) (fun hx => absurd hx (by decide))
  refine aw_aload_n (pc' := 38) nd_M_runAll_37 rfl rfl rfl ?_
  refine aw_get (pc' := 41) nd_M_runAll_38 rfl nF_5_88 g_M_mode ?_
  refine aw_iload_n (pc' := 42) nd_M_runAll_41 rfl rfl ?_
  refine aw_iald (pc' := 43) nd_M_runAll_42 rfl ga_Mmode f rfl hf ?_
  rw [hm]
  refine aw_iconst (pc' := 44) (x := 1) nd_M_runAll_43 rfl (by decide) ?_
  refine aw_icmp_ne (pc' := 47) (tg := 61) nd_M_runAll_44 (by decide) rfl (fun _ => ?_) (fun hx => absurd hx (by decide))
  refine aw_aload_n (pc' := 62) nd_M_runAll_61 rfl rfl rfl ?_
  refine aw_get (pc' := 65) nd_M_runAll_62 rfl nF_5_88 g_M_mode ?_
  refine aw_iload_n (pc' := 66) nd_M_runAll_65 rfl rfl ?_
  refine aw_iald (pc' := 67) nd_M_runAll_66 rfl ga_Mmode f rfl hf ?_
  rw [hm]
  refine aw_iconst (pc' := 68) (x := 2) nd_M_runAll_67 rfl (by decide) ?_
  refine aw_icmp_ne (pc' := 71) (tg := 109) nd_M_runAll_68 (by decide) rfl (fun _ => ?_) (fun hx => absurd hx (by decide))
  refine aw_aload_n (pc' := 110) nd_M_runAll_109 rfl rfl rfl ?_
  refine aw_get (pc' := 113) nd_M_runAll_110 rfl nF_5_91 g_M_at ?_
  refine aw_iload_n (pc' := 114) nd_M_runAll_113 rfl rfl ?_
  refine aw_iald (pc' := 115) nd_M_runAll_114 rfl ga_Mat f rfl hf ?_
  refine aw_aload_n (pc' := 116) nd_M_runAll_115 rfl rfl rfl ?_
  refine aw_get (pc' := 119) nd_M_runAll_116 rfl nF_5_30 g_M_steps ?_
  refine aw_aload_n (pc' := 120) nd_M_runAll_119 rfl rfl rfl ?_
  refine aw_get (pc' := 123) nd_M_runAll_120 rfl nF_5_85 g_M_open ?_
  refine aw_iload_n (pc' := 124) nd_M_runAll_123 rfl rfl ?_
  refine aw_iald (pc' := 125) nd_M_runAll_124 rfl ga_Mopen f rfl hf ?_
  rw [hp]
  refine aw_iald (pc' := 126) nd_M_runAll_125 rfl ga_Msteps k rfl hk ?_
  refine aw_icmp_ne (pc' := 129) (tg := 152) nd_M_runAll_126 (by decide) rfl (fun hx => absurd ha hx) (fun _ => ?_)
  refine aw_aload_n (pc' := 130) nd_M_runAll_129 rfl rfl rfl ?_
  refine aw_iload_n (pc' := 131) nd_M_runAll_130 rfl rfl ?_
  refine aw_aload_n (pc' := 132) nd_M_runAll_131 rfl rfl rfl ?_
  refine aw_get (pc' := 135) nd_M_runAll_132 rfl nF_5_85 g_M_open ?_
  refine aw_iload_n (pc' := 136) nd_M_runAll_135 rfl rfl ?_
  refine aw_iald (pc' := 137) nd_M_runAll_136 rfl ga_Mopen f rfl hf ?_
  rw [hp]
  refine aw_aload_n (pc' := 138) nd_M_runAll_137 rfl rfl rfl ?_
  refine aw_get (pc' := 141) nd_M_runAll_138 rfl nF_5_97 g_M_stack ?_
  refine aw_bipush (pc' := 143) (x := 16) nd_M_runAll_141 rfl (by decide) ?_
  refine aw_iload_n (pc' := 144) nd_M_runAll_143 rfl rfl ?_
  refine aw_imul (pc' := 145) nd_M_runAll_144 rfl ?_
  refine aw_lald (pc' := 146) nd_M_runAll_145 rfl ga_Mstack (16 * f) (nI_mul 16 f) (by omega) ?_
  refine aw_callV (pc' := 149) (as := [_, _, _]) (st := []) nd_M_runAll_146 rfl nC_5_203 ⟨(Nat.le_of_ble_eq_true rfl), rfl, rfl⟩ ns_ioM (Nat.le_of_ble_eq_true rfl) (Nat.le_of_ble_eq_true rfl) (Nat.le_of_ble_eq_true rfl) ?_
  refine c_M_worked hf hk ho hp hfo.1 hfo.2.1 hfo.2.2 ?_
  · show nW _ _ _ _ _ 149 _ [] _ _ _
    refine aw_goto (pc' := 163) nd_M_runAll_149 (by decide) ?_
    refine aw_goto (pc' := 0) nd_M_runAll_163 (by decide) ?_
    exact k0 _
  --end

theorem mr_num {L : Nat} {xs : Nat → Int32} {d : Nat} {Q : ax_Q} (μ : nMem) (f k a t : Nat) (n : Int32) (hA : AV μ f k a 0 n) (ht : μ.1 131 f = nI t) (h16 : t < 16) (k0 : rA L xs d Q (psM (ms μ 130 f (nI (a + 1))) f t n.toInt64)) : rA L xs d Q μ := by
  have hf := hA.hf
  have hk := hA.hk
  have ho := hA.op
  have hp := hA.cl
  have hm := hA.md
  intro w
  refine aw_aload_n (pc' := 1) nd_M_runAll_0 rfl rfl rfl ?_
  refine aw_get (pc' := 4) nd_M_runAll_1 rfl nF_5_191 g_M_opened ?_
  rw [ho]
  refine aw_if_le (pc' := 7) (tg := 166) nd_M_runAll_4 (by decide) rfl (fun hx => absurd hx (nI_nle (Nat.succ_pos _) (by omega))) (fun _ => ?_)
  refine aw_aload_n (pc' := 8) nd_M_runAll_7 rfl rfl rfl ?_
  refine aw_get (pc' := 11) nd_M_runAll_8 rfl nF_5_191 g_M_opened ?_
  refine aw_iconst (pc' := 12) (x := 1) nd_M_runAll_11 rfl (by decide) ?_
  refine aw_isub (pc' := 13) nd_M_runAll_12 rfl ?_
  rw [ho, nI_pred]
  refine aw_istore_n (pc' := 14) (ls' := [_, _]) nd_M_runAll_13 rfl (Nat.le_of_ble_eq_true rfl) rfl ?_
  refine aw_aload_n (pc' := 15) nd_M_runAll_14 rfl rfl rfl ?_
  refine aw_get (pc' := 18) nd_M_runAll_15 rfl nF_5_88 g_M_mode ?_
  refine aw_iload_n (pc' := 19) nd_M_runAll_18 rfl rfl ?_
  refine aw_iald (pc' := 20) nd_M_runAll_19 rfl ga_Mmode f rfl hf ?_
  rw [hm]
  refine aw_if_ne (pc' := 23) (tg := 37) nd_M_runAll_20 (by decide) rfl (fun _ => ?_) (fun hx => absurd hx (by decide))
  refine aw_aload_n (pc' := 38) nd_M_runAll_37 rfl rfl rfl ?_
  refine aw_get (pc' := 41) nd_M_runAll_38 rfl nF_5_88 g_M_mode ?_
  refine aw_iload_n (pc' := 42) nd_M_runAll_41 rfl rfl ?_
  refine aw_iald (pc' := 43) nd_M_runAll_42 rfl ga_Mmode f rfl hf ?_
  rw [hm]
  refine aw_iconst (pc' := 44) (x := 1) nd_M_runAll_43 rfl (by decide) ?_
  refine aw_icmp_ne (pc' := 47) (tg := 61) nd_M_runAll_44 (by decide) rfl (fun _ => ?_) (fun hx => absurd hx (by decide))
  refine aw_aload_n (pc' := 62) nd_M_runAll_61 rfl rfl rfl ?_
  refine aw_get (pc' := 65) nd_M_runAll_62 rfl nF_5_88 g_M_mode ?_
  refine aw_iload_n (pc' := 66) nd_M_runAll_65 rfl rfl ?_
  refine aw_iald (pc' := 67) nd_M_runAll_66 rfl ga_Mmode f rfl hf ?_
  rw [hm]
  refine aw_iconst (pc' := 68) (x := 2) nd_M_runAll_67 rfl (by decide) ?_
  refine aw_icmp_ne (pc' := 71) (tg := 109) nd_M_runAll_68 (by decide) rfl (fun _ => ?_) (fun hx => absurd hx (by decide))
  refine aw_aload_n (pc' := 110) nd_M_runAll_109 rfl rfl rfl ?_
  refine aw_get (pc' := 113) nd_M_runAll_110 rfl nF_5_91 g_M_at ?_
  refine aw_iload_n (pc' := 114) nd_M_runAll_113 rfl rfl ?_
  refine aw_iald (pc' := 115) nd_M_runAll_114 rfl ga_Mat f rfl hf ?_
  refine aw_aload_n (pc' := 116) nd_M_runAll_115 rfl rfl rfl ?_
  refine aw_get (pc' := 119) nd_M_runAll_116 rfl nF_5_30 g_M_steps ?_
  refine aw_aload_n (pc' := 120) nd_M_runAll_119 rfl rfl rfl ?_
  refine aw_get (pc' := 123) nd_M_runAll_120 rfl nF_5_85 g_M_open ?_
  refine aw_iload_n (pc' := 124) nd_M_runAll_123 rfl rfl ?_
  refine aw_iald (pc' := 125) nd_M_runAll_124 rfl ga_Mopen f rfl hf ?_
  rw [hp]
  refine aw_iald (pc' := 126) nd_M_runAll_125 rfl ga_Msteps k rfl hk ?_
  refine aw_icmp_ne (pc' := 129) (tg := 152) nd_M_runAll_126 (by decide) rfl (fun _ => ?_) (fun hx => absurd hx (fun z => hA.ne (by rw [← z]; exact hA.ap.symm)))
  refine aw_aload_n (pc' := 153) nd_M_runAll_152 rfl rfl rfl ?_
  refine aw_iload_n (pc' := 154) nd_M_runAll_153 rfl rfl ?_
  refine aw_aload_n (pc' := 155) nd_M_runAll_154 rfl rfl rfl ?_
  refine aw_get (pc' := 158) nd_M_runAll_155 rfl nF_5_85 g_M_open ?_
  refine aw_iload_n (pc' := 159) nd_M_runAll_158 rfl rfl ?_
  refine aw_iald (pc' := 160) nd_M_runAll_159 rfl ga_Mopen f rfl hf ?_
  rw [hp]
  refine aw_callV (pc' := 163) (as := [_, _]) (st := []) nd_M_runAll_160 rfl nC_5_207 ⟨(Nat.le_of_ble_eq_true rfl), rfl, rfl⟩ ns_ioM (Nat.le_of_ble_eq_true rfl) (Nat.le_of_ble_eq_true rfl) (Nat.le_of_ble_eq_true rfl) ?_
  refine c_M_adv_num hA ht h16 ?_
  show nW _ _ _ _ _ 163 _ [] _ _ _
  refine aw_goto (pc' := 0) nd_M_runAll_163 (by decide) ?_
  exact k0 _
  --end

theorem mr_neg {L : Nat} {xs : Nat → Int32} {d : Nat} {Q : ax_Q} (μ : nMem) (f k a t : Nat) (n : Int32) (hA : AV μ f k a 3 n) (ht : μ.1 131 f = nI (t + 1)) (h16 : t < 16) (k0 : rA L xs d Q (psM (ms (ms μ 130 f (nI (a + 1))) 131 f (nI t)) f t (-(μ.2 132 (16 * f + t)).toInt32).toInt64)) : rA L xs d Q μ := by
  have hf := hA.hf
  have hk := hA.hk
  have ho := hA.op
  have hp := hA.cl
  have hm := hA.md
  intro w
  refine aw_aload_n (pc' := 1) nd_M_runAll_0 rfl rfl rfl ?_
  refine aw_get (pc' := 4) nd_M_runAll_1 rfl nF_5_191 g_M_opened ?_
  rw [ho]
  refine aw_if_le (pc' := 7) (tg := 166) nd_M_runAll_4 (by decide) rfl (fun hx => absurd hx (nI_nle (Nat.succ_pos _) (by omega))) (fun _ => ?_)
  refine aw_aload_n (pc' := 8) nd_M_runAll_7 rfl rfl rfl ?_
  refine aw_get (pc' := 11) nd_M_runAll_8 rfl nF_5_191 g_M_opened ?_
  refine aw_iconst (pc' := 12) (x := 1) nd_M_runAll_11 rfl (by decide) ?_
  refine aw_isub (pc' := 13) nd_M_runAll_12 rfl ?_
  rw [ho, nI_pred]
  refine aw_istore_n (pc' := 14) (ls' := [_, _]) nd_M_runAll_13 rfl (Nat.le_of_ble_eq_true rfl) rfl ?_
  refine aw_aload_n (pc' := 15) nd_M_runAll_14 rfl rfl rfl ?_
  refine aw_get (pc' := 18) nd_M_runAll_15 rfl nF_5_88 g_M_mode ?_
  refine aw_iload_n (pc' := 19) nd_M_runAll_18 rfl rfl ?_
  refine aw_iald (pc' := 20) nd_M_runAll_19 rfl ga_Mmode f rfl hf ?_
  rw [hm]
  refine aw_if_ne (pc' := 23) (tg := 37) nd_M_runAll_20 (by decide) rfl (fun _ => ?_) (fun hx => absurd hx (by decide))
  refine aw_aload_n (pc' := 38) nd_M_runAll_37 rfl rfl rfl ?_
  refine aw_get (pc' := 41) nd_M_runAll_38 rfl nF_5_88 g_M_mode ?_
  refine aw_iload_n (pc' := 42) nd_M_runAll_41 rfl rfl ?_
  refine aw_iald (pc' := 43) nd_M_runAll_42 rfl ga_Mmode f rfl hf ?_
  rw [hm]
  refine aw_iconst (pc' := 44) (x := 1) nd_M_runAll_43 rfl (by decide) ?_
  refine aw_icmp_ne (pc' := 47) (tg := 61) nd_M_runAll_44 (by decide) rfl (fun _ => ?_) (fun hx => absurd hx (by decide))
  refine aw_aload_n (pc' := 62) nd_M_runAll_61 rfl rfl rfl ?_
  refine aw_get (pc' := 65) nd_M_runAll_62 rfl nF_5_88 g_M_mode ?_
  refine aw_iload_n (pc' := 66) nd_M_runAll_65 rfl rfl ?_
  refine aw_iald (pc' := 67) nd_M_runAll_66 rfl ga_Mmode f rfl hf ?_
  rw [hm]
  refine aw_iconst (pc' := 68) (x := 2) nd_M_runAll_67 rfl (by decide) ?_
  refine aw_icmp_ne (pc' := 71) (tg := 109) nd_M_runAll_68 (by decide) rfl (fun _ => ?_) (fun hx => absurd hx (by decide))
  refine aw_aload_n (pc' := 110) nd_M_runAll_109 rfl rfl rfl ?_
  refine aw_get (pc' := 113) nd_M_runAll_110 rfl nF_5_91 g_M_at ?_
  refine aw_iload_n (pc' := 114) nd_M_runAll_113 rfl rfl ?_
  refine aw_iald (pc' := 115) nd_M_runAll_114 rfl ga_Mat f rfl hf ?_
  refine aw_aload_n (pc' := 116) nd_M_runAll_115 rfl rfl rfl ?_
  refine aw_get (pc' := 119) nd_M_runAll_116 rfl nF_5_30 g_M_steps ?_
  refine aw_aload_n (pc' := 120) nd_M_runAll_119 rfl rfl rfl ?_
  refine aw_get (pc' := 123) nd_M_runAll_120 rfl nF_5_85 g_M_open ?_
  refine aw_iload_n (pc' := 124) nd_M_runAll_123 rfl rfl ?_
  refine aw_iald (pc' := 125) nd_M_runAll_124 rfl ga_Mopen f rfl hf ?_
  rw [hp]
  refine aw_iald (pc' := 126) nd_M_runAll_125 rfl ga_Msteps k rfl hk ?_
  refine aw_icmp_ne (pc' := 129) (tg := 152) nd_M_runAll_126 (by decide) rfl (fun _ => ?_) (fun hx => absurd hx (fun z => hA.ne (by rw [← z]; exact hA.ap.symm)))
  refine aw_aload_n (pc' := 153) nd_M_runAll_152 rfl rfl rfl ?_
  refine aw_iload_n (pc' := 154) nd_M_runAll_153 rfl rfl ?_
  refine aw_aload_n (pc' := 155) nd_M_runAll_154 rfl rfl rfl ?_
  refine aw_get (pc' := 158) nd_M_runAll_155 rfl nF_5_85 g_M_open ?_
  refine aw_iload_n (pc' := 159) nd_M_runAll_158 rfl rfl ?_
  refine aw_iald (pc' := 160) nd_M_runAll_159 rfl ga_Mopen f rfl hf ?_
  rw [hp]
  refine aw_callV (pc' := 163) (as := [_, _]) (st := []) nd_M_runAll_160 rfl nC_5_207 ⟨(Nat.le_of_ble_eq_true rfl), rfl, rfl⟩ ns_ioM (Nat.le_of_ble_eq_true rfl) (Nat.le_of_ble_eq_true rfl) (Nat.le_of_ble_eq_true rfl) ?_
  refine c_M_adv_neg hA ht h16 ?_
  show nW _ _ _ _ _ 163 _ [] _ _ _
  refine aw_goto (pc' := 0) nd_M_runAll_163 (by decide) ?_
  exact k0 _
  --end

theorem mr_jump {L : Nat} {xs : Nat → Int32} {d : Nat} {Q : ax_Q} (μ : nMem) (f k a : Nat) (n : Int32) (hA : AV μ f k a 9 n) (k0 : rA L xs d Q (ms (ms μ 130 f (nI (a + 1))) 130 f n)) : rA L xs d Q μ := by
  have hf := hA.hf
  have hk := hA.hk
  have ho := hA.op
  have hp := hA.cl
  have hm := hA.md
  intro w
  refine aw_aload_n (pc' := 1) nd_M_runAll_0 rfl rfl rfl ?_
  refine aw_get (pc' := 4) nd_M_runAll_1 rfl nF_5_191 g_M_opened ?_
  rw [ho]
  refine aw_if_le (pc' := 7) (tg := 166) nd_M_runAll_4 (by decide) rfl (fun hx => absurd hx (nI_nle (Nat.succ_pos _) (by omega))) (fun _ => ?_)
  refine aw_aload_n (pc' := 8) nd_M_runAll_7 rfl rfl rfl ?_
  refine aw_get (pc' := 11) nd_M_runAll_8 rfl nF_5_191 g_M_opened ?_
  refine aw_iconst (pc' := 12) (x := 1) nd_M_runAll_11 rfl (by decide) ?_
  refine aw_isub (pc' := 13) nd_M_runAll_12 rfl ?_
  rw [ho, nI_pred]
  refine aw_istore_n (pc' := 14) (ls' := [_, _]) nd_M_runAll_13 rfl (Nat.le_of_ble_eq_true rfl) rfl ?_
  refine aw_aload_n (pc' := 15) nd_M_runAll_14 rfl rfl rfl ?_
  refine aw_get (pc' := 18) nd_M_runAll_15 rfl nF_5_88 g_M_mode ?_
  refine aw_iload_n (pc' := 19) nd_M_runAll_18 rfl rfl ?_
  refine aw_iald (pc' := 20) nd_M_runAll_19 rfl ga_Mmode f rfl hf ?_
  rw [hm]
  refine aw_if_ne (pc' := 23) (tg := 37) nd_M_runAll_20 (by decide) rfl (fun _ => ?_) (fun hx => absurd hx (by decide))
  refine aw_aload_n (pc' := 38) nd_M_runAll_37 rfl rfl rfl ?_
  refine aw_get (pc' := 41) nd_M_runAll_38 rfl nF_5_88 g_M_mode ?_
  refine aw_iload_n (pc' := 42) nd_M_runAll_41 rfl rfl ?_
  refine aw_iald (pc' := 43) nd_M_runAll_42 rfl ga_Mmode f rfl hf ?_
  rw [hm]
  refine aw_iconst (pc' := 44) (x := 1) nd_M_runAll_43 rfl (by decide) ?_
  refine aw_icmp_ne (pc' := 47) (tg := 61) nd_M_runAll_44 (by decide) rfl (fun _ => ?_) (fun hx => absurd hx (by decide))
  refine aw_aload_n (pc' := 62) nd_M_runAll_61 rfl rfl rfl ?_
  refine aw_get (pc' := 65) nd_M_runAll_62 rfl nF_5_88 g_M_mode ?_
  refine aw_iload_n (pc' := 66) nd_M_runAll_65 rfl rfl ?_
  refine aw_iald (pc' := 67) nd_M_runAll_66 rfl ga_Mmode f rfl hf ?_
  rw [hm]
  refine aw_iconst (pc' := 68) (x := 2) nd_M_runAll_67 rfl (by decide) ?_
  refine aw_icmp_ne (pc' := 71) (tg := 109) nd_M_runAll_68 (by decide) rfl (fun _ => ?_) (fun hx => absurd hx (by decide))
  refine aw_aload_n (pc' := 110) nd_M_runAll_109 rfl rfl rfl ?_
  refine aw_get (pc' := 113) nd_M_runAll_110 rfl nF_5_91 g_M_at ?_
  refine aw_iload_n (pc' := 114) nd_M_runAll_113 rfl rfl ?_
  refine aw_iald (pc' := 115) nd_M_runAll_114 rfl ga_Mat f rfl hf ?_
  refine aw_aload_n (pc' := 116) nd_M_runAll_115 rfl rfl rfl ?_
  refine aw_get (pc' := 119) nd_M_runAll_116 rfl nF_5_30 g_M_steps ?_
  refine aw_aload_n (pc' := 120) nd_M_runAll_119 rfl rfl rfl ?_
  refine aw_get (pc' := 123) nd_M_runAll_120 rfl nF_5_85 g_M_open ?_
  refine aw_iload_n (pc' := 124) nd_M_runAll_123 rfl rfl ?_
  refine aw_iald (pc' := 125) nd_M_runAll_124 rfl ga_Mopen f rfl hf ?_
  rw [hp]
  refine aw_iald (pc' := 126) nd_M_runAll_125 rfl ga_Msteps k rfl hk ?_
  refine aw_icmp_ne (pc' := 129) (tg := 152) nd_M_runAll_126 (by decide) rfl (fun _ => ?_) (fun hx => absurd hx (fun z => hA.ne (by rw [← z]; exact hA.ap.symm)))
  refine aw_aload_n (pc' := 153) nd_M_runAll_152 rfl rfl rfl ?_
  refine aw_iload_n (pc' := 154) nd_M_runAll_153 rfl rfl ?_
  refine aw_aload_n (pc' := 155) nd_M_runAll_154 rfl rfl rfl ?_
  refine aw_get (pc' := 158) nd_M_runAll_155 rfl nF_5_85 g_M_open ?_
  refine aw_iload_n (pc' := 159) nd_M_runAll_158 rfl rfl ?_
  refine aw_iald (pc' := 160) nd_M_runAll_159 rfl ga_Mopen f rfl hf ?_
  rw [hp]
  refine aw_callV (pc' := 163) (as := [_, _]) (st := []) nd_M_runAll_160 rfl nC_5_207 ⟨(Nat.le_of_ble_eq_true rfl), rfl, rfl⟩ ns_ioM (Nat.le_of_ble_eq_true rfl) (Nat.le_of_ble_eq_true rfl) (Nat.le_of_ble_eq_true rfl) ?_
  refine c_M_adv_jump hA ?_
  show nW _ _ _ _ _ 163 _ [] _ _ _
  refine aw_goto (pc' := 0) nd_M_runAll_163 (by decide) ?_
  exact k0 _
  --end

theorem mr_zero {L : Nat} {xs : Nat → Int32} {d : Nat} {Q : ax_Q} (μ : nMem) (f k a t : Nat) (n : Int32) (hA : AV μ f k a 10 n) (ht : μ.1 131 f = nI (t + 1)) (h16 : t < 16) (k0 : rA L xs d Q (ms (ms (ms μ 130 f (nI (a + 1))) 131 f (nI t)) 130 f (if μ.2 132 (16 * f + t) = 0 then n else nI (a + 1)))) : rA L xs d Q μ := by
  have hf := hA.hf
  have hk := hA.hk
  have ho := hA.op
  have hp := hA.cl
  have hm := hA.md
  intro w
  refine aw_aload_n (pc' := 1) nd_M_runAll_0 rfl rfl rfl ?_
  refine aw_get (pc' := 4) nd_M_runAll_1 rfl nF_5_191 g_M_opened ?_
  rw [ho]
  refine aw_if_le (pc' := 7) (tg := 166) nd_M_runAll_4 (by decide) rfl (fun hx => absurd hx (nI_nle (Nat.succ_pos _) (by omega))) (fun _ => ?_)
  refine aw_aload_n (pc' := 8) nd_M_runAll_7 rfl rfl rfl ?_
  refine aw_get (pc' := 11) nd_M_runAll_8 rfl nF_5_191 g_M_opened ?_
  refine aw_iconst (pc' := 12) (x := 1) nd_M_runAll_11 rfl (by decide) ?_
  refine aw_isub (pc' := 13) nd_M_runAll_12 rfl ?_
  rw [ho, nI_pred]
  refine aw_istore_n (pc' := 14) (ls' := [_, _]) nd_M_runAll_13 rfl (Nat.le_of_ble_eq_true rfl) rfl ?_
  refine aw_aload_n (pc' := 15) nd_M_runAll_14 rfl rfl rfl ?_
  refine aw_get (pc' := 18) nd_M_runAll_15 rfl nF_5_88 g_M_mode ?_
  refine aw_iload_n (pc' := 19) nd_M_runAll_18 rfl rfl ?_
  refine aw_iald (pc' := 20) nd_M_runAll_19 rfl ga_Mmode f rfl hf ?_
  rw [hm]
  refine aw_if_ne (pc' := 23) (tg := 37) nd_M_runAll_20 (by decide) rfl (fun _ => ?_) (fun hx => absurd hx (by decide))
  refine aw_aload_n (pc' := 38) nd_M_runAll_37 rfl rfl rfl ?_
  refine aw_get (pc' := 41) nd_M_runAll_38 rfl nF_5_88 g_M_mode ?_
  refine aw_iload_n (pc' := 42) nd_M_runAll_41 rfl rfl ?_
  refine aw_iald (pc' := 43) nd_M_runAll_42 rfl ga_Mmode f rfl hf ?_
  rw [hm]
  refine aw_iconst (pc' := 44) (x := 1) nd_M_runAll_43 rfl (by decide) ?_
  refine aw_icmp_ne (pc' := 47) (tg := 61) nd_M_runAll_44 (by decide) rfl (fun _ => ?_) (fun hx => absurd hx (by decide))
  refine aw_aload_n (pc' := 62) nd_M_runAll_61 rfl rfl rfl ?_
  refine aw_get (pc' := 65) nd_M_runAll_62 rfl nF_5_88 g_M_mode ?_
  refine aw_iload_n (pc' := 66) nd_M_runAll_65 rfl rfl ?_
  refine aw_iald (pc' := 67) nd_M_runAll_66 rfl ga_Mmode f rfl hf ?_
  rw [hm]
  refine aw_iconst (pc' := 68) (x := 2) nd_M_runAll_67 rfl (by decide) ?_
  refine aw_icmp_ne (pc' := 71) (tg := 109) nd_M_runAll_68 (by decide) rfl (fun _ => ?_) (fun hx => absurd hx (by decide))
  refine aw_aload_n (pc' := 110) nd_M_runAll_109 rfl rfl rfl ?_
  refine aw_get (pc' := 113) nd_M_runAll_110 rfl nF_5_91 g_M_at ?_
  refine aw_iload_n (pc' := 114) nd_M_runAll_113 rfl rfl ?_
  refine aw_iald (pc' := 115) nd_M_runAll_114 rfl ga_Mat f rfl hf ?_
  refine aw_aload_n (pc' := 116) nd_M_runAll_115 rfl rfl rfl ?_
  refine aw_get (pc' := 119) nd_M_runAll_116 rfl nF_5_30 g_M_steps ?_
  refine aw_aload_n (pc' := 120) nd_M_runAll_119 rfl rfl rfl ?_
  refine aw_get (pc' := 123) nd_M_runAll_120 rfl nF_5_85 g_M_open ?_
  refine aw_iload_n (pc' := 124) nd_M_runAll_123 rfl rfl ?_
  refine aw_iald (pc' := 125) nd_M_runAll_124 rfl ga_Mopen f rfl hf ?_
  rw [hp]
  refine aw_iald (pc' := 126) nd_M_runAll_125 rfl ga_Msteps k rfl hk ?_
  refine aw_icmp_ne (pc' := 129) (tg := 152) nd_M_runAll_126 (by decide) rfl (fun _ => ?_) (fun hx => absurd hx (fun z => hA.ne (by rw [← z]; exact hA.ap.symm)))
  refine aw_aload_n (pc' := 153) nd_M_runAll_152 rfl rfl rfl ?_
  refine aw_iload_n (pc' := 154) nd_M_runAll_153 rfl rfl ?_
  refine aw_aload_n (pc' := 155) nd_M_runAll_154 rfl rfl rfl ?_
  refine aw_get (pc' := 158) nd_M_runAll_155 rfl nF_5_85 g_M_open ?_
  refine aw_iload_n (pc' := 159) nd_M_runAll_158 rfl rfl ?_
  refine aw_iald (pc' := 160) nd_M_runAll_159 rfl ga_Mopen f rfl hf ?_
  rw [hp]
  refine aw_callV (pc' := 163) (as := [_, _]) (st := []) nd_M_runAll_160 rfl nC_5_207 ⟨(Nat.le_of_ble_eq_true rfl), rfl, rfl⟩ ns_ioM (Nat.le_of_ble_eq_true rfl) (Nat.le_of_ble_eq_true rfl) (Nat.le_of_ble_eq_true rfl) ?_
  refine c_M_adv_zero hA ht h16 ?_
  show nW _ _ _ _ _ 163 _ [] _ _ _
  refine aw_goto (pc' := 0) nd_M_runAll_163 (by decide) ?_
  exact k0 _
  --end

theorem mr_comb {L : Nat} {xs : Nat → Int32} {d : Nat} {Q : ax_Q} (μ : nMem) (f k a t : Nat) (w n : Int32) (hA : AV μ f k a w n) (hw : w = 4 ∨ w = 5 ∨ w = 6 ∨ w = 7 ∨ w = 8) (ht : μ.1 131 f = nI (t + 2)) (h16 : t + 1 < 16) (k0 : rA L xs d Q (psM (ms (ms μ 130 f (nI (a + 1))) 131 f (nI t)) f t (cbM w (μ.2 132 (16 * f + t)).toInt32 (μ.2 132 (16 * f + (t + 1))).toInt32))) : rA L xs d Q μ := by
  have hf := hA.hf
  have hk := hA.hk
  have ho := hA.op
  have hp := hA.cl
  have hm := hA.md
  intro w
  refine aw_aload_n (pc' := 1) nd_M_runAll_0 rfl rfl rfl ?_
  refine aw_get (pc' := 4) nd_M_runAll_1 rfl nF_5_191 g_M_opened ?_
  rw [ho]
  refine aw_if_le (pc' := 7) (tg := 166) nd_M_runAll_4 (by decide) rfl (fun hx => absurd hx (nI_nle (Nat.succ_pos _) (by omega))) (fun _ => ?_)
  refine aw_aload_n (pc' := 8) nd_M_runAll_7 rfl rfl rfl ?_
  refine aw_get (pc' := 11) nd_M_runAll_8 rfl nF_5_191 g_M_opened ?_
  refine aw_iconst (pc' := 12) (x := 1) nd_M_runAll_11 rfl (by decide) ?_
  refine aw_isub (pc' := 13) nd_M_runAll_12 rfl ?_
  rw [ho, nI_pred]
  refine aw_istore_n (pc' := 14) (ls' := [_, _]) nd_M_runAll_13 rfl (Nat.le_of_ble_eq_true rfl) rfl ?_
  refine aw_aload_n (pc' := 15) nd_M_runAll_14 rfl rfl rfl ?_
  refine aw_get (pc' := 18) nd_M_runAll_15 rfl nF_5_88 g_M_mode ?_
  refine aw_iload_n (pc' := 19) nd_M_runAll_18 rfl rfl ?_
  refine aw_iald (pc' := 20) nd_M_runAll_19 rfl ga_Mmode f rfl hf ?_
  rw [hm]
  refine aw_if_ne (pc' := 23) (tg := 37) nd_M_runAll_20 (by decide) rfl (fun _ => ?_) (fun hx => absurd hx (by decide))
  refine aw_aload_n (pc' := 38) nd_M_runAll_37 rfl rfl rfl ?_
  refine aw_get (pc' := 41) nd_M_runAll_38 rfl nF_5_88 g_M_mode ?_
  refine aw_iload_n (pc' := 42) nd_M_runAll_41 rfl rfl ?_
  refine aw_iald (pc' := 43) nd_M_runAll_42 rfl ga_Mmode f rfl hf ?_
  rw [hm]
  refine aw_iconst (pc' := 44) (x := 1) nd_M_runAll_43 rfl (by decide) ?_
  refine aw_icmp_ne (pc' := 47) (tg := 61) nd_M_runAll_44 (by decide) rfl (fun _ => ?_) (fun hx => absurd hx (by decide))
  refine aw_aload_n (pc' := 62) nd_M_runAll_61 rfl rfl rfl ?_
  refine aw_get (pc' := 65) nd_M_runAll_62 rfl nF_5_88 g_M_mode ?_
  refine aw_iload_n (pc' := 66) nd_M_runAll_65 rfl rfl ?_
  refine aw_iald (pc' := 67) nd_M_runAll_66 rfl ga_Mmode f rfl hf ?_
  rw [hm]
  refine aw_iconst (pc' := 68) (x := 2) nd_M_runAll_67 rfl (by decide) ?_
  refine aw_icmp_ne (pc' := 71) (tg := 109) nd_M_runAll_68 (by decide) rfl (fun _ => ?_) (fun hx => absurd hx (by decide))
  refine aw_aload_n (pc' := 110) nd_M_runAll_109 rfl rfl rfl ?_
  refine aw_get (pc' := 113) nd_M_runAll_110 rfl nF_5_91 g_M_at ?_
  refine aw_iload_n (pc' := 114) nd_M_runAll_113 rfl rfl ?_
  refine aw_iald (pc' := 115) nd_M_runAll_114 rfl ga_Mat f rfl hf ?_
  refine aw_aload_n (pc' := 116) nd_M_runAll_115 rfl rfl rfl ?_
  refine aw_get (pc' := 119) nd_M_runAll_116 rfl nF_5_30 g_M_steps ?_
  refine aw_aload_n (pc' := 120) nd_M_runAll_119 rfl rfl rfl ?_
  refine aw_get (pc' := 123) nd_M_runAll_120 rfl nF_5_85 g_M_open ?_
  refine aw_iload_n (pc' := 124) nd_M_runAll_123 rfl rfl ?_
  refine aw_iald (pc' := 125) nd_M_runAll_124 rfl ga_Mopen f rfl hf ?_
  rw [hp]
  refine aw_iald (pc' := 126) nd_M_runAll_125 rfl ga_Msteps k rfl hk ?_
  refine aw_icmp_ne (pc' := 129) (tg := 152) nd_M_runAll_126 (by decide) rfl (fun _ => ?_) (fun hx => absurd hx (fun z => hA.ne (by rw [← z]; exact hA.ap.symm)))
  refine aw_aload_n (pc' := 153) nd_M_runAll_152 rfl rfl rfl ?_
  refine aw_iload_n (pc' := 154) nd_M_runAll_153 rfl rfl ?_
  refine aw_aload_n (pc' := 155) nd_M_runAll_154 rfl rfl rfl ?_
  refine aw_get (pc' := 158) nd_M_runAll_155 rfl nF_5_85 g_M_open ?_
  refine aw_iload_n (pc' := 159) nd_M_runAll_158 rfl rfl ?_
  refine aw_iald (pc' := 160) nd_M_runAll_159 rfl ga_Mopen f rfl hf ?_
  rw [hp]
  refine aw_callV (pc' := 163) (as := [_, _]) (st := []) nd_M_runAll_160 rfl nC_5_207 ⟨(Nat.le_of_ble_eq_true rfl), rfl, rfl⟩ ns_ioM (Nat.le_of_ble_eq_true rfl) (Nat.le_of_ble_eq_true rfl) (Nat.le_of_ble_eq_true rfl) ?_
  refine c_M_adv_comb hA hw ht h16 ?_
  show nW _ _ _ _ _ 163 _ [] _ _ _
  refine aw_goto (pc' := 0) nd_M_runAll_163 (by decide) ?_
  exact k0 _
  --end

theorem mr_read {L : Nat} {xs : Nat → Int32} {d : Nat} {Q : ax_Q} (μ : nMem) (f k a s t : Nat) (hA : AV μ f k a 1 (nI s)) (hs : s < 12) (hfo : FO μ f) (ht : μ.1 131 f = nI t) (h16 : t < 16) (hth : thM μ f s (rM μ f) = true ∨ rM μ f < 12) (k0 : LKo (rA L xs d Q) f k s t a 1 (afM μ f s (rM μ f))) : rA L xs d Q μ := by
  have hf := hA.hf
  have hk := hA.hk
  have ho := hA.op
  have hp := hA.cl
  have hm := hA.md
  intro w
  refine aw_aload_n (pc' := 1) nd_M_runAll_0 rfl rfl rfl ?_
  refine aw_get (pc' := 4) nd_M_runAll_1 rfl nF_5_191 g_M_opened ?_
  rw [ho]
  refine aw_if_le (pc' := 7) (tg := 166) nd_M_runAll_4 (by decide) rfl (fun hx => absurd hx (nI_nle (Nat.succ_pos _) (by omega))) (fun _ => ?_)
  refine aw_aload_n (pc' := 8) nd_M_runAll_7 rfl rfl rfl ?_
  refine aw_get (pc' := 11) nd_M_runAll_8 rfl nF_5_191 g_M_opened ?_
  refine aw_iconst (pc' := 12) (x := 1) nd_M_runAll_11 rfl (by decide) ?_
  refine aw_isub (pc' := 13) nd_M_runAll_12 rfl ?_
  rw [ho, nI_pred]
  refine aw_istore_n (pc' := 14) (ls' := [_, _]) nd_M_runAll_13 rfl (Nat.le_of_ble_eq_true rfl) rfl ?_
  refine aw_aload_n (pc' := 15) nd_M_runAll_14 rfl rfl rfl ?_
  refine aw_get (pc' := 18) nd_M_runAll_15 rfl nF_5_88 g_M_mode ?_
  refine aw_iload_n (pc' := 19) nd_M_runAll_18 rfl rfl ?_
  refine aw_iald (pc' := 20) nd_M_runAll_19 rfl ga_Mmode f rfl hf ?_
  rw [hm]
  refine aw_if_ne (pc' := 23) (tg := 37) nd_M_runAll_20 (by decide) rfl (fun _ => ?_) (fun hx => absurd hx (by decide))
  refine aw_aload_n (pc' := 38) nd_M_runAll_37 rfl rfl rfl ?_
  refine aw_get (pc' := 41) nd_M_runAll_38 rfl nF_5_88 g_M_mode ?_
  refine aw_iload_n (pc' := 42) nd_M_runAll_41 rfl rfl ?_
  refine aw_iald (pc' := 43) nd_M_runAll_42 rfl ga_Mmode f rfl hf ?_
  rw [hm]
  refine aw_iconst (pc' := 44) (x := 1) nd_M_runAll_43 rfl (by decide) ?_
  refine aw_icmp_ne (pc' := 47) (tg := 61) nd_M_runAll_44 (by decide) rfl (fun _ => ?_) (fun hx => absurd hx (by decide))
  refine aw_aload_n (pc' := 62) nd_M_runAll_61 rfl rfl rfl ?_
  refine aw_get (pc' := 65) nd_M_runAll_62 rfl nF_5_88 g_M_mode ?_
  refine aw_iload_n (pc' := 66) nd_M_runAll_65 rfl rfl ?_
  refine aw_iald (pc' := 67) nd_M_runAll_66 rfl ga_Mmode f rfl hf ?_
  rw [hm]
  refine aw_iconst (pc' := 68) (x := 2) nd_M_runAll_67 rfl (by decide) ?_
  refine aw_icmp_ne (pc' := 71) (tg := 109) nd_M_runAll_68 (by decide) rfl (fun _ => ?_) (fun hx => absurd hx (by decide))
  refine aw_aload_n (pc' := 110) nd_M_runAll_109 rfl rfl rfl ?_
  refine aw_get (pc' := 113) nd_M_runAll_110 rfl nF_5_91 g_M_at ?_
  refine aw_iload_n (pc' := 114) nd_M_runAll_113 rfl rfl ?_
  refine aw_iald (pc' := 115) nd_M_runAll_114 rfl ga_Mat f rfl hf ?_
  refine aw_aload_n (pc' := 116) nd_M_runAll_115 rfl rfl rfl ?_
  refine aw_get (pc' := 119) nd_M_runAll_116 rfl nF_5_30 g_M_steps ?_
  refine aw_aload_n (pc' := 120) nd_M_runAll_119 rfl rfl rfl ?_
  refine aw_get (pc' := 123) nd_M_runAll_120 rfl nF_5_85 g_M_open ?_
  refine aw_iload_n (pc' := 124) nd_M_runAll_123 rfl rfl ?_
  refine aw_iald (pc' := 125) nd_M_runAll_124 rfl ga_Mopen f rfl hf ?_
  rw [hp]
  refine aw_iald (pc' := 126) nd_M_runAll_125 rfl ga_Msteps k rfl hk ?_
  refine aw_icmp_ne (pc' := 129) (tg := 152) nd_M_runAll_126 (by decide) rfl (fun _ => ?_) (fun hx => absurd hx (fun z => hA.ne (by rw [← z]; exact hA.ap.symm)))
  refine aw_aload_n (pc' := 153) nd_M_runAll_152 rfl rfl rfl ?_
  refine aw_iload_n (pc' := 154) nd_M_runAll_153 rfl rfl ?_
  refine aw_aload_n (pc' := 155) nd_M_runAll_154 rfl rfl rfl ?_
  refine aw_get (pc' := 158) nd_M_runAll_155 rfl nF_5_85 g_M_open ?_
  refine aw_iload_n (pc' := 159) nd_M_runAll_158 rfl rfl ?_
  refine aw_iald (pc' := 160) nd_M_runAll_159 rfl ga_Mopen f rfl hf ?_
  rw [hp]
  refine aw_callV (pc' := 163) (as := [_, _]) (st := []) nd_M_runAll_160 rfl nC_5_207 ⟨(Nat.le_of_ble_eq_true rfl), rfl, rfl⟩ ns_ioM (Nat.le_of_ble_eq_true rfl) (Nat.le_of_ble_eq_true rfl) (Nat.le_of_ble_eq_true rfl) ?_
  refine c_M_adv_read hA hs hfo ht h16 hth (lk_map k0 (fun m hm => ?_))
  show nW _ _ _ _ _ 163 _ [] _ _ _
  refine aw_goto (pc' := 0) nd_M_runAll_163 (by decide) ?_
  exact hm _
  --end

theorem mr_at {L : Nat} {xs : Nat → Int32} {d : Nat} {Q : ax_Q} (μ : nMem) (f k a u : Nat) (n : Int32) (hA : AV μ f k a 2 n) (hs : fm (μ.2 132 (16 * f + u)).toInt32 < 12) (hfo : FO μ f) (ht : μ.1 131 f = nI (u + 1)) (h16 : u + 1 < 16) (hth : thM μ f (fm (μ.2 132 (16 * f + u)).toInt32) (rM μ f) = true ∨ rM μ f < 12) (k0 : LKo (rA L xs d Q) f k (fm (μ.2 132 (16 * f + u)).toInt32) (u + 1) a 2 (afM μ f (fm (μ.2 132 (16 * f + u)).toInt32) (rM μ f))) : rA L xs d Q μ := by
  have hf := hA.hf
  have hk := hA.hk
  have ho := hA.op
  have hp := hA.cl
  have hm := hA.md
  intro w
  refine aw_aload_n (pc' := 1) nd_M_runAll_0 rfl rfl rfl ?_
  refine aw_get (pc' := 4) nd_M_runAll_1 rfl nF_5_191 g_M_opened ?_
  rw [ho]
  refine aw_if_le (pc' := 7) (tg := 166) nd_M_runAll_4 (by decide) rfl (fun hx => absurd hx (nI_nle (Nat.succ_pos _) (by omega))) (fun _ => ?_)
  refine aw_aload_n (pc' := 8) nd_M_runAll_7 rfl rfl rfl ?_
  refine aw_get (pc' := 11) nd_M_runAll_8 rfl nF_5_191 g_M_opened ?_
  refine aw_iconst (pc' := 12) (x := 1) nd_M_runAll_11 rfl (by decide) ?_
  refine aw_isub (pc' := 13) nd_M_runAll_12 rfl ?_
  rw [ho, nI_pred]
  refine aw_istore_n (pc' := 14) (ls' := [_, _]) nd_M_runAll_13 rfl (Nat.le_of_ble_eq_true rfl) rfl ?_
  refine aw_aload_n (pc' := 15) nd_M_runAll_14 rfl rfl rfl ?_
  refine aw_get (pc' := 18) nd_M_runAll_15 rfl nF_5_88 g_M_mode ?_
  refine aw_iload_n (pc' := 19) nd_M_runAll_18 rfl rfl ?_
  refine aw_iald (pc' := 20) nd_M_runAll_19 rfl ga_Mmode f rfl hf ?_
  rw [hm]
  refine aw_if_ne (pc' := 23) (tg := 37) nd_M_runAll_20 (by decide) rfl (fun _ => ?_) (fun hx => absurd hx (by decide))
  refine aw_aload_n (pc' := 38) nd_M_runAll_37 rfl rfl rfl ?_
  refine aw_get (pc' := 41) nd_M_runAll_38 rfl nF_5_88 g_M_mode ?_
  refine aw_iload_n (pc' := 42) nd_M_runAll_41 rfl rfl ?_
  refine aw_iald (pc' := 43) nd_M_runAll_42 rfl ga_Mmode f rfl hf ?_
  rw [hm]
  refine aw_iconst (pc' := 44) (x := 1) nd_M_runAll_43 rfl (by decide) ?_
  refine aw_icmp_ne (pc' := 47) (tg := 61) nd_M_runAll_44 (by decide) rfl (fun _ => ?_) (fun hx => absurd hx (by decide))
  refine aw_aload_n (pc' := 62) nd_M_runAll_61 rfl rfl rfl ?_
  refine aw_get (pc' := 65) nd_M_runAll_62 rfl nF_5_88 g_M_mode ?_
  refine aw_iload_n (pc' := 66) nd_M_runAll_65 rfl rfl ?_
  refine aw_iald (pc' := 67) nd_M_runAll_66 rfl ga_Mmode f rfl hf ?_
  rw [hm]
  refine aw_iconst (pc' := 68) (x := 2) nd_M_runAll_67 rfl (by decide) ?_
  refine aw_icmp_ne (pc' := 71) (tg := 109) nd_M_runAll_68 (by decide) rfl (fun _ => ?_) (fun hx => absurd hx (by decide))
  refine aw_aload_n (pc' := 110) nd_M_runAll_109 rfl rfl rfl ?_
  refine aw_get (pc' := 113) nd_M_runAll_110 rfl nF_5_91 g_M_at ?_
  refine aw_iload_n (pc' := 114) nd_M_runAll_113 rfl rfl ?_
  refine aw_iald (pc' := 115) nd_M_runAll_114 rfl ga_Mat f rfl hf ?_
  refine aw_aload_n (pc' := 116) nd_M_runAll_115 rfl rfl rfl ?_
  refine aw_get (pc' := 119) nd_M_runAll_116 rfl nF_5_30 g_M_steps ?_
  refine aw_aload_n (pc' := 120) nd_M_runAll_119 rfl rfl rfl ?_
  refine aw_get (pc' := 123) nd_M_runAll_120 rfl nF_5_85 g_M_open ?_
  refine aw_iload_n (pc' := 124) nd_M_runAll_123 rfl rfl ?_
  refine aw_iald (pc' := 125) nd_M_runAll_124 rfl ga_Mopen f rfl hf ?_
  rw [hp]
  refine aw_iald (pc' := 126) nd_M_runAll_125 rfl ga_Msteps k rfl hk ?_
  refine aw_icmp_ne (pc' := 129) (tg := 152) nd_M_runAll_126 (by decide) rfl (fun _ => ?_) (fun hx => absurd hx (fun z => hA.ne (by rw [← z]; exact hA.ap.symm)))
  refine aw_aload_n (pc' := 153) nd_M_runAll_152 rfl rfl rfl ?_
  refine aw_iload_n (pc' := 154) nd_M_runAll_153 rfl rfl ?_
  refine aw_aload_n (pc' := 155) nd_M_runAll_154 rfl rfl rfl ?_
  refine aw_get (pc' := 158) nd_M_runAll_155 rfl nF_5_85 g_M_open ?_
  refine aw_iload_n (pc' := 159) nd_M_runAll_158 rfl rfl ?_
  refine aw_iald (pc' := 160) nd_M_runAll_159 rfl ga_Mopen f rfl hf ?_
  rw [hp]
  refine aw_callV (pc' := 163) (as := [_, _]) (st := []) nd_M_runAll_160 rfl nC_5_207 ⟨(Nat.le_of_ble_eq_true rfl), rfl, rfl⟩ ns_ioM (Nat.le_of_ble_eq_true rfl) (Nat.le_of_ble_eq_true rfl) (Nat.le_of_ble_eq_true rfl) ?_
  refine c_M_adv_at hA hs hfo ht h16 hth (lk_map k0 (fun m hm => ?_))
  show nW _ _ _ _ _ 163 _ [] _ _ _
  refine aw_goto (pc' := 0) nd_M_runAll_163 (by decide) ?_
  exact hm _
  --end

theorem mr_run {L : Nat} {xs : Nat → Int32} {d : Nat} {Q : ax_Q} : MR (rA L xs d Q) := by
  unfold MR
  refine ⟨mr_enter, mr_thru, mr_init, mr_done, mr_num, mr_neg, mr_jump, mr_zero, mr_comb, fun μ f k a s t w n hA hs hfo ht h16 hc hth k0 => ?_⟩
  rcases hc with ⟨rfl, rfl⟩ | ⟨rfl, h1, h2⟩
  · exact mr_read μ f k a s t hA hs hfo ht h16 hth k0
  · obtain ⟨u, rfl⟩ : ∃ u, t = u + 1 := ⟨t - 1, by omega⟩
    subst h2
    exact mr_at μ f k a u n hA hs hfo ht h16 hth k0
theorem rA_end {L : Nat} {xs : Nat → Int32} {d : Nat} {Q : ax_Q} {μ : nMem} (h : μ.1 104 27 = 0) (hq : Q none (ns_rep μ)) : rA L xs d Q μ := by
  intro w
  refine aw_aload_n (pc' := 1) nd_M_runAll_0 rfl rfl rfl ?_
  refine aw_get (pc' := 4) nd_M_runAll_1 rfl nF_5_191 g_M_opened ?_
  rw [h]
  refine aw_if_le (pc' := 7) (tg := 166) nd_M_runAll_4 (by decide) rfl (fun _ => ?_) (fun hx => absurd (by decide) hx)
  refine aw_return nd_M_runAll_166 rfl (Nat.le_of_ble_eq_true rfl) (Nat.le_of_ble_eq_true rfl) ?_
  exact hq
theorem c_M_runAll {L : Nat} {xs : Nat → Int32} {d : Nat} {Q : ax_Q} {μ : nMem} (h : rA L xs d Q μ) : nM L xs (d + 6) 57 [.ref 104] (ns_rep μ) Q := by
  refine nM.of ns_I_M_runAll rfl (ls := [_, _]) (Nat.le_of_ble_eq_true rfl) rfl ?_
  exact h _

