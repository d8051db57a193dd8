/-! the model's asking: advance, step by step -/
theorem fm_r (x : Int32) : (0 ≤ x - x / 12 * 12 → x - x / 12 * 12 = nI (fm x)) ∧ (¬ 0 ≤ x - x / 12 * 12 → x - x / 12 * 12 + 12 = nI (fm x)) := by
  rw [← (fmI_of x).1]
  have h12 : (12 : Int32).toInt = 12 := by decide
  have hr : (x - x / 12 * 12).toInt = x.toInt.tmod 12 := by rw [rem_toInt, h12]
  have hx : (0 ≤ x ^^^ 12) ↔ 0 ≤ x := by
    rw [i32_msb, i32_msb, Int32.toBitVec_xor, BitVec.msb_xor]
    have : (12 : Int32).toBitVec.msb = false := by decide
    rw [this, Bool.xor_false]
  have h0 : ∀ y : Int32, (0 ≤ y) ↔ 0 ≤ y.toInt := fun y => by rw [Int32.le_iff_toInt_le, Int32.toInt_zero]
  unfold fmI
  by_cases hp : 0 ≤ x ^^^ 12
  · rw [if_pos hp]
    have h2 := (h0 x).mp (hx.mp hp)
    have h3 := Int.tmod_nonneg (a := x.toInt) 12 h2
    exact ⟨fun _ => rfl, fun z => absurd ((h0 _).mpr (by rw [hr]; exact h3)) z⟩
  · rw [if_neg hp]
    have h2 : ¬ 0 ≤ x.toInt := fun z => hp (hx.mpr ((h0 x).mpr z))
    have h3 := Int.tmod_nonneg (a := -x.toInt) 12 (by omega)
    rw [Int.neg_tmod] at h3
    by_cases hz : x - x / 12 * 12 = 0
    · rw [if_pos hz]
      exact ⟨fun _ => rfl, fun z => absurd (by rw [hz]; decide) z⟩
    · rw [if_neg hz]
      refine ⟨fun z => ?_, fun _ => rfl⟩
      have h4 := (h0 _).mp z
      rw [hr] at h4
      exact absurd (Int32.toInt_inj.mp (by rw [hr, Int32.toInt_zero]; omega)) hz

theorem c_M_adv_num {L : Nat} {xs : Nat → Int32} {d : Nat} {Q : ax_Q} {μ : nMem} {f k a t : Nat} {n : Int32} (hA : AV μ f k a 0 n) (ht : μ.1 131 f = nI t) (h16 : t < 16) (hq : Q none (ns_rep (psM (ms μ 130 f (nI (a + 1))) f t n.toInt64))) : nM L xs (d + 4) 63 [.ref 104, .int (nI f), .int (nI k)] (ns_rep μ) Q := by
  refine nM.of ns_I_M_advance rfl (ls := [_, _, _, _, _, _]) (Nat.le_of_ble_eq_true rfl) rfl ?_
  refine aw_aload_n (pc' := 1) nd_M_advance_0 rfl rfl rfl ?_
  refine aw_get (pc' := 4) nd_M_advance_1 rfl nF_5_33 g_M_step ?_
  refine aw_bipush (pc' := 6) (x := 40) nd_M_advance_4 rfl (by decide) ?_
  refine aw_iload_n (pc' := 7) nd_M_advance_6 rfl rfl ?_
  refine aw_imul (pc' := 8) nd_M_advance_7 rfl ?_
  refine aw_aload_n (pc' := 9) nd_M_advance_8 rfl rfl rfl ?_
  refine aw_get (pc' := 12) nd_M_advance_9 rfl nF_5_91 g_M_at ?_
  refine aw_iload_n (pc' := 13) nd_M_advance_12 rfl rfl ?_
  refine aw_iald (pc' := 14) nd_M_advance_13 rfl ga_Mat f rfl hA.hf ?_
  refine aw_iadd (pc' := 15) nd_M_advance_14 rfl ?_
  refine aw_iald (pc' := 16) nd_M_advance_15 rfl ga_Mstep (40 * k + a) (by rw [hA.ap]; exact nI_lin (c := 40) (by decide)) (by have := hA.hk; have := hA.ha; omega) ?_
  rw [hA.st]
  refine aw_istore_n (pc' := 17) (ls' := [_, _, _, _, _, _]) nd_M_advance_16 rfl (Nat.le_of_ble_eq_true rfl) rfl ?_
  refine aw_aload_n (pc' := 18) nd_M_advance_17 rfl rfl rfl ?_
  refine aw_get (pc' := 21) nd_M_advance_18 rfl nF_5_36 g_M_with ?_
  refine aw_bipush (pc' := 23) (x := 40) nd_M_advance_21 rfl (by decide) ?_
  refine aw_iload_n (pc' := 24) nd_M_advance_23 rfl rfl ?_
  refine aw_imul (pc' := 25) nd_M_advance_24 rfl ?_
  refine aw_aload_n (pc' := 26) nd_M_advance_25 rfl rfl rfl ?_
  refine aw_get (pc' := 29) nd_M_advance_26 rfl nF_5_91 g_M_at ?_
  refine aw_iload_n (pc' := 30) nd_M_advance_29 rfl rfl ?_
  refine aw_iald (pc' := 31) nd_M_advance_30 rfl ga_Mat f rfl hA.hf ?_
  refine aw_iadd (pc' := 32) nd_M_advance_31 rfl ?_
  refine aw_iald (pc' := 33) nd_M_advance_32 rfl ga_Mwith (40 * k + a) (by rw [hA.ap]; exact nI_lin (c := 40) (by decide)) (by have := hA.hk; have := hA.ha; omega) ?_
  rw [hA.wi]
  refine aw_istore (pc' := 35) (ls' := [_, _, _, _, _, _]) nd_M_advance_33 rfl (Nat.le_of_ble_eq_true rfl) rfl ?_
  refine aw_iload_n (pc' := 36) nd_M_advance_35 rfl rfl ?_
  refine aw_iconst (pc' := 37) (x := 1) nd_M_advance_36 rfl (by decide) ?_
  refine aw_icmp_ne (pc' := 40) (tg := 51) nd_M_advance_37 (by decide) rfl (fun _ => ?_) (fun hx => absurd hx (by decide))
  refine aw_iload_n (pc' := 52) nd_M_advance_51 rfl rfl ?_
  refine aw_iconst (pc' := 53) (x := 2) nd_M_advance_52 rfl (by decide) ?_
  refine aw_icmp_ne (pc' := 56) (tg := 104) nd_M_advance_53 (by decide) rfl (fun _ => ?_) (fun hx => absurd hx (by decide))
  refine aw_aload_n (pc' := 105) nd_M_advance_104 rfl rfl rfl ?_
  refine aw_get (pc' := 108) nd_M_advance_105 rfl nF_5_91 g_M_at ?_
  refine aw_iload_n (pc' := 109) nd_M_advance_108 rfl rfl ?_
  refine aw_dup2 (pc' := 110) nd_M_advance_109 rfl rfl rfl ?_
  refine aw_iald (pc' := 111) nd_M_advance_110 rfl ga_Mat f rfl hA.hf ?_
  refine aw_iconst (pc' := 112) (x := 1) nd_M_advance_111 rfl (by decide) ?_
  refine aw_iadd (pc' := 113) nd_M_advance_112 rfl ?_
  rw [hA.ap, nI_1]
  refine aw_iast (pc' := 114) nd_M_advance_113 rfl rfl f rfl hA.hf pa_Mat ?_
  refine aw_iload_n (pc' := 115) nd_M_advance_114 rfl rfl ?_
  refine aw_if_ne (pc' := 118) (tg := 129) nd_M_advance_115 (by decide) rfl (fun hx => absurd (by decide) hx) (fun _ => ?_)
  refine aw_aload_n (pc' := 119) nd_M_advance_118 rfl rfl rfl ?_
  refine aw_iload_n (pc' := 120) nd_M_advance_119 rfl rfl ?_
  refine aw_iload (pc' := 122) nd_M_advance_120 rfl rfl ?_
  refine aw_i2l (pc' := 123) nd_M_advance_122 rfl ?_
  refine aw_callV (pc' := 126) (as := [_, _]) (st := []) nd_M_advance_123 rfl nC_5_235 ⟨(Nat.le_of_ble_eq_true rfl), rfl, rfl⟩ ns_ioM (Nat.le_of_ble_eq_true rfl) (Nat.le_of_ble_eq_true rfl) (Nat.le_of_ble_eq_true rfl) ?_
  refine c_M_push hA.hf (t := t) (by rw [ms_o (by decide)]; exact ht) h16 ?_
  show nW _ _ _ _ _ 126 _ [] _ _ _
  refine aw_goto (pc' := 209) nd_M_advance_126 (by decide) ?_
  refine aw_return nd_M_advance_209 rfl (Nat.le_of_ble_eq_true rfl) (Nat.le_of_ble_eq_true rfl) ?_
  exact hq

theorem c_M_adv_neg {L : Nat} {xs : Nat → Int32} {d : Nat} {Q : ax_Q} {μ : nMem} {f k a t : Nat} {n : Int32} (hA : AV μ f k a 3 n) (ht : μ.1 131 f = nI (t + 1)) (h16 : t < 16) (hq : Q none (ns_rep (psM (ms (ms μ 130 f (nI (a + 1))) 131 f (nI t)) f t (-(μ.2 132 (16 * f + t)).toInt32).toInt64))) : nM L xs (d + 4) 63 [.ref 104, .int (nI f), .int (nI k)] (ns_rep μ) Q := by
  refine nM.of ns_I_M_advance rfl (ls := [_, _, _, _, _, _]) (Nat.le_of_ble_eq_true rfl) rfl ?_
  refine aw_aload_n (pc' := 1) nd_M_advance_0 rfl rfl rfl ?_
  refine aw_get (pc' := 4) nd_M_advance_1 rfl nF_5_33 g_M_step ?_
  refine aw_bipush (pc' := 6) (x := 40) nd_M_advance_4 rfl (by decide) ?_
  refine aw_iload_n (pc' := 7) nd_M_advance_6 rfl rfl ?_
  refine aw_imul (pc' := 8) nd_M_advance_7 rfl ?_
  refine aw_aload_n (pc' := 9) nd_M_advance_8 rfl rfl rfl ?_
  refine aw_get (pc' := 12) nd_M_advance_9 rfl nF_5_91 g_M_at ?_
  refine aw_iload_n (pc' := 13) nd_M_advance_12 rfl rfl ?_
  refine aw_iald (pc' := 14) nd_M_advance_13 rfl ga_Mat f rfl hA.hf ?_
  refine aw_iadd (pc' := 15) nd_M_advance_14 rfl ?_
  refine aw_iald (pc' := 16) nd_M_advance_15 rfl ga_Mstep (40 * k + a) (by rw [hA.ap]; exact nI_lin (c := 40) (by decide)) (by have := hA.hk; have := hA.ha; omega) ?_
  rw [hA.st]
  refine aw_istore_n (pc' := 17) (ls' := [_, _, _, _, _, _]) nd_M_advance_16 rfl (Nat.le_of_ble_eq_true rfl) rfl ?_
  refine aw_aload_n (pc' := 18) nd_M_advance_17 rfl rfl rfl ?_
  refine aw_get (pc' := 21) nd_M_advance_18 rfl nF_5_36 g_M_with ?_
  refine aw_bipush (pc' := 23) (x := 40) nd_M_advance_21 rfl (by decide) ?_
  refine aw_iload_n (pc' := 24) nd_M_advance_23 rfl rfl ?_
  refine aw_imul (pc' := 25) nd_M_advance_24 rfl ?_
  refine aw_aload_n (pc' := 26) nd_M_advance_25 rfl rfl rfl ?_
  refine aw_get (pc' := 29) nd_M_advance_26 rfl nF_5_91 g_M_at ?_
  refine aw_iload_n (pc' := 30) nd_M_advance_29 rfl rfl ?_
  refine aw_iald (pc' := 31) nd_M_advance_30 rfl ga_Mat f rfl hA.hf ?_
  refine aw_iadd (pc' := 32) nd_M_advance_31 rfl ?_
  refine aw_iald (pc' := 33) nd_M_advance_32 rfl ga_Mwith (40 * k + a) (by rw [hA.ap]; exact nI_lin (c := 40) (by decide)) (by have := hA.hk; have := hA.ha; omega) ?_
  rw [hA.wi]
  refine aw_istore (pc' := 35) (ls' := [_, _, _, _, _, _]) nd_M_advance_33 rfl (Nat.le_of_ble_eq_true rfl) rfl ?_
  refine aw_iload_n (pc' := 36) nd_M_advance_35 rfl rfl ?_
  refine aw_iconst (pc' := 37) (x := 1) nd_M_advance_36 rfl (by decide) ?_
  refine aw_icmp_ne (pc' := 40) (tg := 51) nd_M_advance_37 (by decide) rfl (fun _ => ?_) (fun hx => absurd hx (by decide))
  refine aw_iload_n (pc' := 52) nd_M_advance_51 rfl rfl ?_
  refine aw_iconst (pc' := 53) (x := 2) nd_M_advance_52 rfl (by decide) ?_
  refine aw_icmp_ne (pc' := 56) (tg := 104) nd_M_advance_53 (by decide) rfl (fun _ => ?_) (fun hx => absurd hx (by decide))
  refine aw_aload_n (pc' := 105) nd_M_advance_104 rfl rfl rfl ?_
  refine aw_get (pc' := 108) nd_M_advance_105 rfl nF_5_91 g_M_at ?_
  refine aw_iload_n (pc' := 109) nd_M_advance_108 rfl rfl ?_
  refine aw_dup2 (pc' := 110) nd_M_advance_109 rfl rfl rfl ?_
  refine aw_iald (pc' := 111) nd_M_advance_110 rfl ga_Mat f rfl hA.hf ?_
  refine aw_iconst (pc' := 112) (x := 1) nd_M_advance_111 rfl (by decide) ?_
  refine aw_iadd (pc' := 113) nd_M_advance_112 rfl ?_
  rw [hA.ap, nI_1]
  refine aw_iast (pc' := 114) nd_M_advance_113 rfl rfl f rfl hA.hf pa_Mat ?_
  refine aw_iload_n (pc' := 115) nd_M_advance_114 rfl rfl ?_
  refine aw_if_ne (pc' := 118) (tg := 129) nd_M_advance_115 (by decide) rfl (fun _ => ?_) (fun hx => absurd hx (by decide))
  refine aw_iload_n (pc' := 130) nd_M_advance_129 rfl rfl ?_
  refine aw_iconst (pc' := 131) (x := 3) nd_M_advance_130 rfl (by decide) ?_
  refine aw_icmp_ne (pc' := 134) (tg := 150) nd_M_advance_131 (by decide) rfl (fun hx => absurd (by decide) hx) (fun _ => ?_)
  refine aw_aload_n (pc' := 135) nd_M_advance_134 rfl rfl rfl ?_
  refine aw_iload_n (pc' := 136) nd_M_advance_135 rfl rfl ?_
  refine aw_aload_n (pc' := 137) nd_M_advance_136 rfl rfl rfl ?_
  refine aw_iload_n (pc' := 138) nd_M_advance_137 rfl rfl ?_
  refine aw_callV (pc' := 141) (as := [_]) (st := [_, _]) nd_M_advance_138 rfl nC_5_239 ⟨(Nat.le_of_ble_eq_true rfl), rfl, rfl⟩ ns_ioM (Nat.le_of_ble_eq_true rfl) (Nat.le_of_ble_eq_true rfl) (Nat.le_of_ble_eq_true rfl) ?_
  refine c_M_pop hA.hf (t := t) (by rw [ms_o (by decide)]; exact ht) h16 ?_
  show nW _ _ _ _ _ 141 _ [_, _, _] _ _ _
  refine aw_l2i (pc' := 142) nd_M_advance_141 rfl ?_
  refine aw_ineg (pc' := 143) nd_M_advance_142 rfl ?_
  refine aw_i2l (pc' := 144) nd_M_advance_143 rfl ?_
  refine aw_callV (pc' := 147) (as := [_, _]) (st := []) nd_M_advance_144 rfl nC_5_235 ⟨(Nat.le_of_ble_eq_true rfl), rfl, rfl⟩ ns_ioM (Nat.le_of_ble_eq_true rfl) (Nat.le_of_ble_eq_true rfl) (Nat.le_of_ble_eq_true rfl) ?_
  refine c_M_push hA.hf (t := t) (by rw [ms_s, pk_us]) h16 ?_
  show nW _ _ _ _ _ 147 _ [] _ _ _
  refine aw_goto (pc' := 209) nd_M_advance_147 (by decide) ?_
  refine aw_return nd_M_advance_209 rfl (Nat.le_of_ble_eq_true rfl) (Nat.le_of_ble_eq_true rfl) ?_
  exact hq

theorem c_M_adv_jump {L : Nat} {xs : Nat → Int32} {d : Nat} {Q : ax_Q} {μ : nMem} {f k a : Nat} {n : Int32} (hA : AV μ f k a 9 n) (hq : Q none (ns_rep (ms (ms μ 130 f (nI (a + 1))) 130 f n))) : nM L xs (d + 4) 63 [.ref 104, .int (nI f), .int (nI k)] (ns_rep μ) Q := by
  refine nM.of ns_I_M_advance rfl (ls := [_, _, _, _, _, _]) (Nat.le_of_ble_eq_true rfl) rfl ?_
  refine aw_aload_n (pc' := 1) nd_M_advance_0 rfl rfl rfl ?_
  refine aw_get (pc' := 4) nd_M_advance_1 rfl nF_5_33 g_M_step ?_
  refine aw_bipush (pc' := 6) (x := 40) nd_M_advance_4 rfl (by decide) ?_
  refine aw_iload_n (pc' := 7) nd_M_advance_6 rfl rfl ?_
  refine aw_imul (pc' := 8) nd_M_advance_7 rfl ?_
  refine aw_aload_n (pc' := 9) nd_M_advance_8 rfl rfl rfl ?_
  refine aw_get (pc' := 12) nd_M_advance_9 rfl nF_5_91 g_M_at ?_
  refine aw_iload_n (pc' := 13) nd_M_advance_12 rfl rfl ?_
  refine aw_iald (pc' := 14) nd_M_advance_13 rfl ga_Mat f rfl hA.hf ?_
  refine aw_iadd (pc' := 15) nd_M_advance_14 rfl ?_
  refine aw_iald (pc' := 16) nd_M_advance_15 rfl ga_Mstep (40 * k + a) (by rw [hA.ap]; exact nI_lin (c := 40) (by decide)) (by have := hA.hk; have := hA.ha; omega) ?_
  rw [hA.st]
  refine aw_istore_n (pc' := 17) (ls' := [_, _, _, _, _, _]) nd_M_advance_16 rfl (Nat.le_of_ble_eq_true rfl) rfl ?_
  refine aw_aload_n (pc' := 18) nd_M_advance_17 rfl rfl rfl ?_
  refine aw_get (pc' := 21) nd_M_advance_18 rfl nF_5_36 g_M_with ?_
  refine aw_bipush (pc' := 23) (x := 40) nd_M_advance_21 rfl (by decide) ?_
  refine aw_iload_n (pc' := 24) nd_M_advance_23 rfl rfl ?_
  refine aw_imul (pc' := 25) nd_M_advance_24 rfl ?_
  refine aw_aload_n (pc' := 26) nd_M_advance_25 rfl rfl rfl ?_
  refine aw_get (pc' := 29) nd_M_advance_26 rfl nF_5_91 g_M_at ?_
  refine aw_iload_n (pc' := 30) nd_M_advance_29 rfl rfl ?_
  refine aw_iald (pc' := 31) nd_M_advance_30 rfl ga_Mat f rfl hA.hf ?_
  refine aw_iadd (pc' := 32) nd_M_advance_31 rfl ?_
  refine aw_iald (pc' := 33) nd_M_advance_32 rfl ga_Mwith (40 * k + a) (by rw [hA.ap]; exact nI_lin (c := 40) (by decide)) (by have := hA.hk; have := hA.ha; omega) ?_
  rw [hA.wi]
  refine aw_istore (pc' := 35) (ls' := [_, _, _, _, _, _]) nd_M_advance_33 rfl (Nat.le_of_ble_eq_true rfl) rfl ?_
  refine aw_iload_n (pc' := 36) nd_M_advance_35 rfl rfl ?_
  refine aw_iconst (pc' := 37) (x := 1) nd_M_advance_36 rfl (by decide) ?_
  refine aw_icmp_ne (pc' := 40) (tg := 51) nd_M_advance_37 (by decide) rfl (fun _ => ?_) (fun hx => absurd hx (by decide))
  refine aw_iload_n (pc' := 52) nd_M_advance_51 rfl rfl ?_
  refine aw_iconst (pc' := 53) (x := 2) nd_M_advance_52 rfl (by decide) ?_
  refine aw_icmp_ne (pc' := 56) (tg := 104) nd_M_advance_53 (by decide) rfl (fun _ => ?_) (fun hx => absurd hx (by decide))
  refine aw_aload_n (pc' := 105) nd_M_advance_104 rfl rfl rfl ?_
  refine aw_get (pc' := 108) nd_M_advance_105 rfl nF_5_91 g_M_at ?_
  refine aw_iload_n (pc' := 109) nd_M_advance_108 rfl rfl ?_
  refine aw_dup2 (pc' := 110) nd_M_advance_109 rfl rfl rfl ?_
  refine aw_iald (pc' := 111) nd_M_advance_110 rfl ga_Mat f rfl hA.hf ?_
  refine aw_iconst (pc' := 112) (x := 1) nd_M_advance_111 rfl (by decide) ?_
  refine aw_iadd (pc' := 113) nd_M_advance_112 rfl ?_
  rw [hA.ap, nI_1]
  refine aw_iast (pc' := 114) nd_M_advance_113 rfl rfl f rfl hA.hf pa_Mat ?_
  refine aw_iload_n (pc' := 115) nd_M_advance_114 rfl rfl ?_
  refine aw_if_ne (pc' := 118) (tg := 129) nd_M_advance_115 (by decide) rfl (fun _ => ?_) (fun hx => absurd hx (by decide))
  refine aw_iload_n (pc' := 130) nd_M_advance_129 rfl rfl ?_
  refine aw_iconst (pc' := 131) (x := 3) nd_M_advance_130 rfl (by decide) ?_
  refine aw_icmp_ne (pc' := 134) (tg := 150) nd_M_advance_131 (by decide) rfl (fun _ => ?_) (fun hx => absurd hx (by decide))
  refine aw_iload_n (pc' := 151) nd_M_advance_150 rfl rfl ?_
  refine aw_bipush (pc' := 153) (x := 9) nd_M_advance_151 rfl (by decide) ?_
  refine aw_icmp_ne (pc' := 156) (tg := 167) nd_M_advance_153 (by decide) rfl (fun hx => absurd (by decide) hx) (fun _ => ?_)
  refine aw_aload_n (pc' := 157) nd_M_advance_156 rfl rfl rfl ?_
  refine aw_get (pc' := 160) nd_M_advance_157 rfl nF_5_91 g_M_at ?_
  refine aw_iload_n (pc' := 161) nd_M_advance_160 rfl rfl ?_
  refine aw_iload (pc' := 163) nd_M_advance_161 rfl rfl ?_
  refine aw_iast (pc' := 164) nd_M_advance_163 rfl rfl f rfl hA.hf pa_Mat ?_
  refine aw_goto (pc' := 209) nd_M_advance_164 (by decide) ?_
  refine aw_return nd_M_advance_209 rfl (Nat.le_of_ble_eq_true rfl) (Nat.le_of_ble_eq_true rfl) ?_
  exact hq

theorem c_M_adv_zero {L : Nat} {xs : Nat → Int32} {d : Nat} {Q : ax_Q} {μ : nMem} {f k a t : Nat} {n : Int32} (hA : AV μ f k a 10 n) (ht : μ.1 131 f = nI (t + 1)) (h16 : t < 16) (hq : Q none (ns_rep (ms (ms (ms μ 130 f (nI (a + 1))) 131 f (nI t)) 130 f (if μ.2 132 (16 * f + t) = 0 then n else nI (a + 1))))) : nM L xs (d + 4) 63 [.ref 104, .int (nI f), .int (nI k)] (ns_rep μ) Q := by
  refine nM.of ns_I_M_advance rfl (ls := [_, _, _, _, _, _]) (Nat.le_of_ble_eq_true rfl) rfl ?_
  refine aw_aload_n (pc' := 1) nd_M_advance_0 rfl rfl rfl ?_
  refine aw_get (pc' := 4) nd_M_advance_1 rfl nF_5_33 g_M_step ?_
  refine aw_bipush (pc' := 6) (x := 40) nd_M_advance_4 rfl (by decide) ?_
  refine aw_iload_n (pc' := 7) nd_M_advance_6 rfl rfl ?_
  refine aw_imul (pc' := 8) nd_M_advance_7 rfl ?_
  refine aw_aload_n (pc' := 9) nd_M_advance_8 rfl rfl rfl ?_
  refine aw_get (pc' := 12) nd_M_advance_9 rfl nF_5_91 g_M_at ?_
  refine aw_iload_n (pc' := 13) nd_M_advance_12 rfl rfl ?_
  refine aw_iald (pc' := 14) nd_M_advance_13 rfl ga_Mat f rfl hA.hf ?_
  refine aw_iadd (pc' := 15) nd_M_advance_14 rfl ?_
  refine aw_iald (pc' := 16) nd_M_advance_15 rfl ga_Mstep (40 * k + a) (by rw [hA.ap]; exact nI_lin (c := 40) (by decide)) (by have := hA.hk; have := hA.ha; omega) ?_
  rw [hA.st]
  refine aw_istore_n (pc' := 17) (ls' := [_, _, _, _, _, _]) nd_M_advance_16 rfl (Nat.le_of_ble_eq_true rfl) rfl ?_
  refine aw_aload_n (pc' := 18) nd_M_advance_17 rfl rfl rfl ?_
  refine aw_get (pc' := 21) nd_M_advance_18 rfl nF_5_36 g_M_with ?_
  refine aw_bipush (pc' := 23) (x := 40) nd_M_advance_21 rfl (by decide) ?_
  refine aw_iload_n (pc' := 24) nd_M_advance_23 rfl rfl ?_
  refine aw_imul (pc' := 25) nd_M_advance_24 rfl ?_
  refine aw_aload_n (pc' := 26) nd_M_advance_25 rfl rfl rfl ?_
  refine aw_get (pc' := 29) nd_M_advance_26 rfl nF_5_91 g_M_at ?_
  refine aw_iload_n (pc' := 30) nd_M_advance_29 rfl rfl ?_
  refine aw_iald (pc' := 31) nd_M_advance_30 rfl ga_Mat f rfl hA.hf ?_
  refine aw_iadd (pc' := 32) nd_M_advance_31 rfl ?_
  refine aw_iald (pc' := 33) nd_M_advance_32 rfl ga_Mwith (40 * k + a) (by rw [hA.ap]; exact nI_lin (c := 40) (by decide)) (by have := hA.hk; have := hA.ha; omega) ?_
  rw [hA.wi]
  refine aw_istore (pc' := 35) (ls' := [_, _, _, _, _, _]) nd_M_advance_33 rfl (Nat.le_of_ble_eq_true rfl) rfl ?_
  refine aw_iload_n (pc' := 36) nd_M_advance_35 rfl rfl ?_
  refine aw_iconst (pc' := 37) (x := 1) nd_M_advance_36 rfl (by decide) ?_
  refine aw_icmp_ne (pc' := 40) (tg := 51) nd_M_advance_37 (by decide) rfl (fun _ => ?_) (fun hx => absurd hx (by decide))
  refine aw_iload_n (pc' := 52) nd_M_advance_51 rfl rfl ?_
  refine aw_iconst (pc' := 53) (x := 2) nd_M_advance_52 rfl (by decide) ?_
  refine aw_icmp_ne (pc' := 56) (tg := 104) nd_M_advance_53 (by decide) rfl (fun _ => ?_) (fun hx => absurd hx (by decide))
  refine aw_aload_n (pc' := 105) nd_M_advance_104 rfl rfl rfl ?_
  refine aw_get (pc' := 108) nd_M_advance_105 rfl nF_5_91 g_M_at ?_
  refine aw_iload_n (pc' := 109) nd_M_advance_108 rfl rfl ?_
  refine aw_dup2 (pc' := 110) nd_M_advance_109 rfl rfl rfl ?_
  refine aw_iald (pc' := 111) nd_M_advance_110 rfl ga_Mat f rfl hA.hf ?_
  refine aw_iconst (pc' := 112) (x := 1) nd_M_advance_111 rfl (by decide) ?_
  refine aw_iadd (pc' := 113) nd_M_advance_112 rfl ?_
  rw [hA.ap, nI_1]
  refine aw_iast (pc' := 114) nd_M_advance_113 rfl rfl f rfl hA.hf pa_Mat ?_
  refine aw_iload_n (pc' := 115) nd_M_advance_114 rfl rfl ?_
  refine aw_if_ne (pc' := 118) (tg := 129) nd_M_advance_115 (by decide) rfl (fun _ => ?_) (fun hx => absurd hx (by decide))
  refine aw_iload_n (pc' := 130) nd_M_advance_129 rfl rfl ?_
  refine aw_iconst (pc' := 131) (x := 3) nd_M_advance_130 rfl (by decide) ?_
  refine aw_icmp_ne (pc' := 134) (tg := 150) nd_M_advance_131 (by decide) rfl (fun _ => ?_) (fun hx => absurd hx (by decide))
  refine aw_iload_n (pc' := 151) nd_M_advance_150 rfl rfl ?_
  refine aw_bipush (pc' := 153) (x := 9) nd_M_advance_151 rfl (by decide) ?_
  refine aw_icmp_ne (pc' := 156) (tg := 167) nd_M_advance_153 (by decide) rfl (fun _ => ?_) (fun hx => absurd hx (by decide))
  refine aw_iload_n (pc' := 168) nd_M_advance_167 rfl rfl ?_
  refine aw_bipush (pc' := 170) (x := 10) nd_M_advance_168 rfl (by decide) ?_
  refine aw_icmp_ne (pc' := 173) (tg := 203) nd_M_advance_170 (by decide) rfl (fun hx => absurd (by decide) hx) (fun _ => ?_)
  refine aw_aload_n (pc' := 174) nd_M_advance_173 rfl rfl rfl ?_
  refine aw_get (pc' := 177) nd_M_advance_174 rfl nF_5_91 g_M_at ?_
  refine aw_iload_n (pc' := 178) nd_M_advance_177 rfl rfl ?_
  refine aw_aload_n (pc' := 179) nd_M_advance_178 rfl rfl rfl ?_
  refine aw_iload_n (pc' := 180) nd_M_advance_179 rfl rfl ?_
  refine aw_callV (pc' := 183) (as := [_]) (st := [_, _]) nd_M_advance_180 rfl nC_5_239 ⟨(Nat.le_of_ble_eq_true rfl), rfl, rfl⟩ ns_ioM (Nat.le_of_ble_eq_true rfl) (Nat.le_of_ble_eq_true rfl) (Nat.le_of_ble_eq_true rfl) ?_
  refine c_M_pop hA.hf (t := t) (by rw [ms_o (by decide)]; exact ht) h16 ?_
  show nW _ _ _ _ _ 183 _ [_, _, _] _ _ _
  refine aw_lconst (pc' := 184) (x := 0) nd_M_advance_183 rfl (by decide) ?_
  refine aw_lcmp (pc' := 185) nd_M_advance_184 rfl ?_
  refine aw_if_ne (pc' := 188) (tg := 193) nd_M_advance_185 (by decide) rfl (fun hb185 => ?_) (fun hb185 => ?_)
  · skip
    refine aw_aload_n (pc' := 194) nd_M_advance_193 rfl rfl rfl ?_
    refine aw_get (pc' := 197) nd_M_advance_194 rfl nF_5_91 g_M_at ?_
    refine aw_iload_n (pc' := 198) nd_M_advance_197 rfl rfl ?_
    refine aw_iald (pc' := 199) nd_M_advance_198 rfl ga_Mat f rfl hA.hf ?_
    first
      | rw [show (ms (ms μ 130 f (nI (a + 1))) 131 f (nI t)).1 130 f = nI (a + 1) from by rw [ms_o (by decide), ms_s, pk_us]]
      | skip
    refine aw_iast (pc' := 200) nd_M_advance_199 rfl rfl f rfl hA.hf pa_Mat ?_
    refine aw_goto (pc' := 209) nd_M_advance_200 (by decide) ?_
    refine aw_return nd_M_advance_209 rfl (Nat.le_of_ble_eq_true rfl) (Nat.le_of_ble_eq_true rfl) ?_
    first
      | (rw [if_pos (show μ.2 132 (16 * f + t) = 0 from (lg_cmp_eq _ _).mp hb185)] at hq; exact hq)
      | (rw [if_neg (show ¬ μ.2 132 (16 * f + t) = 0 from fun z => hb185 ((lg_cmp_eq _ _).mpr z))] at hq; exact hq)
  · skip
    refine aw_iload (pc' := 190) nd_M_advance_188 rfl rfl ?_
    refine aw_goto (pc' := 199) nd_M_advance_190 (by decide) ?_
    first
      | rw [show (ms (ms μ 130 f (nI (a + 1))) 131 f (nI t)).1 130 f = nI (a + 1) from by rw [ms_o (by decide), ms_s, pk_us]]
      | skip
    refine aw_iast (pc' := 200) nd_M_advance_199 rfl rfl f rfl hA.hf pa_Mat ?_
    refine aw_goto (pc' := 209) nd_M_advance_200 (by decide) ?_
    refine aw_return nd_M_advance_209 rfl (Nat.le_of_ble_eq_true rfl) (Nat.le_of_ble_eq_true rfl) ?_
    first
      | (rw [if_pos (show μ.2 132 (16 * f + t) = 0 from (lg_cmp_eq _ _).mp hb185)] at hq; exact hq)
      | (rw [if_neg (show ¬ μ.2 132 (16 * f + t) = 0 from fun z => hb185 ((lg_cmp_eq _ _).mpr z))] at hq; exact hq)

theorem c_M_adv_comb {L : Nat} {xs : Nat → Int32} {d : Nat} {Q : ax_Q} {μ : nMem} {f k a t : Nat} {n : Int32} {w : Int32} (hA : AV μ f k a w n) (hw : w = 4 ∨ w = 5 ∨ w = 6 ∨ w = 7 ∨ w = 8) (ht : μ.1 131 f = nI (t + 2)) (h16 : t + 1 < 16) (hq : Q none (ns_rep (psM (ms (ms μ 130 f (nI (a + 1))) 131 f (nI t)) f t (cbM w (μ.2 132 (16 * f + t)).toInt32 (μ.2 132 (16 * f + (t + 1))).toInt32)))) : nM L xs (d + 4) 63 [.ref 104, .int (nI f), .int (nI k)] (ns_rep μ) Q := by
  refine nM.of ns_I_M_advance rfl (ls := [_, _, _, _, _, _]) (Nat.le_of_ble_eq_true rfl) rfl ?_
  refine aw_aload_n (pc' := 1) nd_M_advance_0 rfl rfl rfl ?_
  refine aw_get (pc' := 4) nd_M_advance_1 rfl nF_5_33 g_M_step ?_
  refine aw_bipush (pc' := 6) (x := 40) nd_M_advance_4 rfl (by decide) ?_
  refine aw_iload_n (pc' := 7) nd_M_advance_6 rfl rfl ?_
  refine aw_imul (pc' := 8) nd_M_advance_7 rfl ?_
  refine aw_aload_n (pc' := 9) nd_M_advance_8 rfl rfl rfl ?_
  refine aw_get (pc' := 12) nd_M_advance_9 rfl nF_5_91 g_M_at ?_
  refine aw_iload_n (pc' := 13) nd_M_advance_12 rfl rfl ?_
  refine aw_iald (pc' := 14) nd_M_advance_13 rfl ga_Mat f rfl hA.hf ?_
  refine aw_iadd (pc' := 15) nd_M_advance_14 rfl ?_
  refine aw_iald (pc' := 16) nd_M_advance_15 rfl ga_Mstep (40 * k + a) (by rw [hA.ap]; exact nI_lin (c := 40) (by decide)) (by have := hA.hk; have := hA.ha; omega) ?_
  rw [hA.st]
  refine aw_istore_n (pc' := 17) (ls' := [_, _, _, _, _, _]) nd_M_advance_16 rfl (Nat.le_of_ble_eq_true rfl) rfl ?_
  refine aw_aload_n (pc' := 18) nd_M_advance_17 rfl rfl rfl ?_
  refine aw_get (pc' := 21) nd_M_advance_18 rfl nF_5_36 g_M_with ?_
  refine aw_bipush (pc' := 23) (x := 40) nd_M_advance_21 rfl (by decide) ?_
  refine aw_iload_n (pc' := 24) nd_M_advance_23 rfl rfl ?_
  refine aw_imul (pc' := 25) nd_M_advance_24 rfl ?_
  refine aw_aload_n (pc' := 26) nd_M_advance_25 rfl rfl rfl ?_
  refine aw_get (pc' := 29) nd_M_advance_26 rfl nF_5_91 g_M_at ?_
  refine aw_iload_n (pc' := 30) nd_M_advance_29 rfl rfl ?_
  refine aw_iald (pc' := 31) nd_M_advance_30 rfl ga_Mat f rfl hA.hf ?_
  refine aw_iadd (pc' := 32) nd_M_advance_31 rfl ?_
  refine aw_iald (pc' := 33) nd_M_advance_32 rfl ga_Mwith (40 * k + a) (by rw [hA.ap]; exact nI_lin (c := 40) (by decide)) (by have := hA.hk; have := hA.ha; omega) ?_
  rw [hA.wi]
  refine aw_istore (pc' := 35) (ls' := [_, _, _, _, _, _]) nd_M_advance_33 rfl (Nat.le_of_ble_eq_true rfl) rfl ?_
  refine aw_iload_n (pc' := 36) nd_M_advance_35 rfl rfl ?_
  refine aw_iconst (pc' := 37) (x := 1) nd_M_advance_36 rfl (by decide) ?_
  refine aw_icmp_ne (pc' := 40) (tg := 51) nd_M_advance_37 (by decide) rfl (fun _ => ?_) (fun hx => absurd hx (by rcases hw with z | z | z | z | z <;> rw [z] <;> decide))
  refine aw_iload_n (pc' := 52) nd_M_advance_51 rfl rfl ?_
  refine aw_iconst (pc' := 53) (x := 2) nd_M_advance_52 rfl (by decide) ?_
  refine aw_icmp_ne (pc' := 56) (tg := 104) nd_M_advance_53 (by decide) rfl (fun _ => ?_) (fun hx => absurd hx (by rcases hw with z | z | z | z | z <;> rw [z] <;> decide))
  refine aw_aload_n (pc' := 105) nd_M_advance_104 rfl rfl rfl ?_
  refine aw_get (pc' := 108) nd_M_advance_105 rfl nF_5_91 g_M_at ?_
  refine aw_iload_n (pc' := 109) nd_M_advance_108 rfl rfl ?_
  refine aw_dup2 (pc' := 110) nd_M_advance_109 rfl rfl rfl ?_
  refine aw_iald (pc' := 111) nd_M_advance_110 rfl ga_Mat f rfl hA.hf ?_
  refine aw_iconst (pc' := 112) (x := 1) nd_M_advance_111 rfl (by decide) ?_
  refine aw_iadd (pc' := 113) nd_M_advance_112 rfl ?_
  rw [hA.ap, nI_1]
  refine aw_iast (pc' := 114) nd_M_advance_113 rfl rfl f rfl hA.hf pa_Mat ?_
  refine aw_iload_n (pc' := 115) nd_M_advance_114 rfl rfl ?_
  refine aw_if_ne (pc' := 118) (tg := 129) nd_M_advance_115 (by decide) rfl (fun _ => ?_) (fun hx => absurd hx (by rcases hw with z | z | z | z | z <;> rw [z] <;> decide))
  refine aw_iload_n (pc' := 130) nd_M_advance_129 rfl rfl ?_
  refine aw_iconst (pc' := 131) (x := 3) nd_M_advance_130 rfl (by decide) ?_
  refine aw_icmp_ne (pc' := 134) (tg := 150) nd_M_advance_131 (by decide) rfl (fun _ => ?_) (fun hx => absurd hx (by rcases hw with z | z | z | z | z <;> rw [z] <;> decide))
  refine aw_iload_n (pc' := 151) nd_M_advance_150 rfl rfl ?_
  refine aw_bipush (pc' := 153) (x := 9) nd_M_advance_151 rfl (by decide) ?_
  refine aw_icmp_ne (pc' := 156) (tg := 167) nd_M_advance_153 (by decide) rfl (fun _ => ?_) (fun hx => absurd hx (by rcases hw with z | z | z | z | z <;> rw [z] <;> decide))
  refine aw_iload_n (pc' := 168) nd_M_advance_167 rfl rfl ?_
  refine aw_bipush (pc' := 170) (x := 10) nd_M_advance_168 rfl (by decide) ?_
  refine aw_icmp_ne (pc' := 173) (tg := 203) nd_M_advance_170 (by decide) rfl (fun _ => ?_) (fun hx => absurd hx (by rcases hw with z | z | z | z | z <;> rw [z] <;> decide))
  refine aw_aload_n (pc' := 204) nd_M_advance_203 rfl rfl rfl ?_
  refine aw_iload_n (pc' := 205) nd_M_advance_204 rfl rfl ?_
  refine aw_iload_n (pc' := 206) nd_M_advance_205 rfl rfl ?_
  refine aw_callV (pc' := 209) (as := [_, _]) (st := []) nd_M_advance_206 rfl nC_5_243 ⟨(Nat.le_of_ble_eq_true rfl), rfl, rfl⟩ ns_ioM (Nat.le_of_ble_eq_true rfl) (Nat.le_of_ble_eq_true rfl) (Nat.le_of_ble_eq_true rfl) ?_
  refine c_M_combine hA.hf (t := t) (by rw [ms_o (by decide)]; exact ht) h16 ?_
  show nW _ _ _ _ _ 209 _ [] _ _ _
  refine aw_return nd_M_advance_209 rfl (Nat.le_of_ble_eq_true rfl) (Nat.le_of_ble_eq_true rfl) ?_
  exact hq

theorem lk_map {R S : nMem → Prop} {f k s t a : Nat} {w : Int32} {m : nMem} (h : LKo R f k s t a w m) (e : ∀ m, R m → S m) : LKo S f k s t a w m :=
  ⟨fun z => e _ (h.ring z), fun z y => ⟨(h.up z y).1, e _ (h.up z y).2⟩, fun z y x w => ⟨(h.out z y x w).1, e _ (h.out z y x w).2⟩, fun z y x w => e _ (h.bad z y x w), fun z y x w => e _ (h.got z y x w)⟩

theorem c_M_adv_read {L : Nat} {xs : Nat → Int32} {d : Nat} {Q : ax_Q} {μ : nMem} {f k a t s : Nat} (hA : AV μ f k a 1 (nI s)) (hs : s < 12) (hfo : FO μ f) (ht : μ.1 131 f = nI t) (h16 : t < 16) (hth : thM μ f s (rM μ f) = true ∨ rM μ f < 12) (hq : LKo (fun m => Q none (ns_rep m)) f k s t a 1 (afM μ f s (rM μ f))) : nM L xs (d + 4) 63 [.ref 104, .int (nI f), .int (nI k)] (ns_rep μ) Q := by
  refine nM.of ns_I_M_advance rfl (ls := [_, _, _, _, _, _]) (Nat.le_of_ble_eq_true rfl) rfl ?_
  refine aw_aload_n (pc' := 1) nd_M_advance_0 rfl rfl rfl ?_
  refine aw_get (pc' := 4) nd_M_advance_1 rfl nF_5_33 g_M_step ?_
  refine aw_bipush (pc' := 6) (x := 40) nd_M_advance_4 rfl (by decide) ?_
  refine aw_iload_n (pc' := 7) nd_M_advance_6 rfl rfl ?_
  refine aw_imul (pc' := 8) nd_M_advance_7 rfl ?_
  refine aw_aload_n (pc' := 9) nd_M_advance_8 rfl rfl rfl ?_
  refine aw_get (pc' := 12) nd_M_advance_9 rfl nF_5_91 g_M_at ?_
  refine aw_iload_n (pc' := 13) nd_M_advance_12 rfl rfl ?_
  refine aw_iald (pc' := 14) nd_M_advance_13 rfl ga_Mat f rfl hA.hf ?_
  refine aw_iadd (pc' := 15) nd_M_advance_14 rfl ?_
  refine aw_iald (pc' := 16) nd_M_advance_15 rfl ga_Mstep (40 * k + a) (by rw [hA.ap]; exact nI_lin (c := 40) (by decide)) (by have := hA.hk; have := hA.ha; omega) ?_
  rw [hA.st]
  refine aw_istore_n (pc' := 17) (ls' := [_, _, _, _, _, _]) nd_M_advance_16 rfl (Nat.le_of_ble_eq_true rfl) rfl ?_
  refine aw_aload_n (pc' := 18) nd_M_advance_17 rfl rfl rfl ?_
  refine aw_get (pc' := 21) nd_M_advance_18 rfl nF_5_36 g_M_with ?_
  refine aw_bipush (pc' := 23) (x := 40) nd_M_advance_21 rfl (by decide) ?_
  refine aw_iload_n (pc' := 24) nd_M_advance_23 rfl rfl ?_
  refine aw_imul (pc' := 25) nd_M_advance_24 rfl ?_
  refine aw_aload_n (pc' := 26) nd_M_advance_25 rfl rfl rfl ?_
  refine aw_get (pc' := 29) nd_M_advance_26 rfl nF_5_91 g_M_at ?_
  refine aw_iload_n (pc' := 30) nd_M_advance_29 rfl rfl ?_
  refine aw_iald (pc' := 31) nd_M_advance_30 rfl ga_Mat f rfl hA.hf ?_
  refine aw_iadd (pc' := 32) nd_M_advance_31 rfl ?_
  refine aw_iald (pc' := 33) nd_M_advance_32 rfl ga_Mwith (40 * k + a) (by rw [hA.ap]; exact nI_lin (c := 40) (by decide)) (by have := hA.hk; have := hA.ha; omega) ?_
  rw [hA.wi]
  refine aw_istore (pc' := 35) (ls' := [_, _, _, _, _, _]) nd_M_advance_33 rfl (Nat.le_of_ble_eq_true rfl) rfl ?_
  refine aw_iload_n (pc' := 36) nd_M_advance_35 rfl rfl ?_
  refine aw_iconst (pc' := 37) (x := 1) nd_M_advance_36 rfl (by decide) ?_
  refine aw_icmp_ne (pc' := 40) (tg := 51) nd_M_advance_37 (by decide) rfl (fun hx => absurd (by decide) hx) (fun _ => ?_)
  refine aw_aload_n (pc' := 41) nd_M_advance_40 rfl rfl rfl ?_
  refine aw_iload_n (pc' := 42) nd_M_advance_41 rfl rfl ?_
  refine aw_iload_n (pc' := 43) nd_M_advance_42 rfl rfl ?_
  refine aw_iload (pc' := 45) nd_M_advance_43 rfl rfl ?_
  refine aw_callV (pc' := 48) (as := [_, _, _]) (st := []) nd_M_advance_45 rfl nC_5_231 ⟨(Nat.le_of_ble_eq_true rfl), rfl, rfl⟩ ns_ioM (Nat.le_of_ble_eq_true rfl) (Nat.le_of_ble_eq_true rfl) (Nat.le_of_ble_eq_true rfl) ?_
  refine c_M_look hA.hf hA.hk hs hA.op hA.cl hfo hA.ap hA.ha hA.st ht h16 (fun z => absurd z (by decide)) hth (lk_map hq (fun m hm => ?_))
  refine aw_goto (pc' := 209) nd_M_advance_48 (by decide) ?_
  refine aw_return nd_M_advance_209 rfl (Nat.le_of_ble_eq_true rfl) (Nat.le_of_ble_eq_true rfl) ?_
  exact hm

theorem c_M_adv_at {L : Nat} {xs : Nat → Int32} {d : Nat} {Q : ax_Q} {μ : nMem} {f k a u : Nat} {n : Int32} (hA : AV μ f k a 2 n) (hs : fm (μ.2 132 (16 * f + u)).toInt32 < 12) (hfo : FO μ f) (ht : μ.1 131 f = nI (u + 1)) (h16 : u + 1 < 16) (hth : thM μ f (fm (μ.2 132 (16 * f + u)).toInt32) (rM μ f) = true ∨ rM μ f < 12) (hq : LKo (fun m => Q none (ns_rep m)) f k (fm (μ.2 132 (16 * f + u)).toInt32) (u + 1) a 2 (afM μ f (fm (μ.2 132 (16 * f + u)).toInt32) (rM μ f))) : nM L xs (d + 4) 63 [.ref 104, .int (nI f), .int (nI k)] (ns_rep μ) Q := by
  refine nM.of ns_I_M_advance rfl (ls := [_, _, _, _, _, _]) (Nat.le_of_ble_eq_true rfl) rfl ?_
  refine aw_aload_n (pc' := 1) nd_M_advance_0 rfl rfl rfl ?_
  refine aw_get (pc' := 4) nd_M_advance_1 rfl nF_5_33 g_M_step ?_
  refine aw_bipush (pc' := 6) (x := 40) nd_M_advance_4 rfl (by decide) ?_
  refine aw_iload_n (pc' := 7) nd_M_advance_6 rfl rfl ?_
  refine aw_imul (pc' := 8) nd_M_advance_7 rfl ?_
  refine aw_aload_n (pc' := 9) nd_M_advance_8 rfl rfl rfl ?_
  refine aw_get (pc' := 12) nd_M_advance_9 rfl nF_5_91 g_M_at ?_
  refine aw_iload_n (pc' := 13) nd_M_advance_12 rfl rfl ?_
  refine aw_iald (pc' := 14) nd_M_advance_13 rfl ga_Mat f rfl hA.hf ?_
  refine aw_iadd (pc' := 15) nd_M_advance_14 rfl ?_
  refine aw_iald (pc' := 16) nd_M_advance_15 rfl ga_Mstep (40 * k + a) (by rw [hA.ap]; exact nI_lin (c := 40) (by decide)) (by have := hA.hk; have := hA.ha; omega) ?_
  rw [hA.st]
  refine aw_istore_n (pc' := 17) (ls' := [_, _, _, _, _, _]) nd_M_advance_16 rfl (Nat.le_of_ble_eq_true rfl) rfl ?_
  refine aw_aload_n (pc' := 18) nd_M_advance_17 rfl rfl rfl ?_
  refine aw_get (pc' := 21) nd_M_advance_18 rfl nF_5_36 g_M_with ?_
  refine aw_bipush (pc' := 23) (x := 40) nd_M_advance_21 rfl (by decide) ?_
  refine aw_iload_n (pc' := 24) nd_M_advance_23 rfl rfl ?_
  refine aw_imul (pc' := 25) nd_M_advance_24 rfl ?_
  refine aw_aload_n (pc' := 26) nd_M_advance_25 rfl rfl rfl ?_
  refine aw_get (pc' := 29) nd_M_advance_26 rfl nF_5_91 g_M_at ?_
  refine aw_iload_n (pc' := 30) nd_M_advance_29 rfl rfl ?_
  refine aw_iald (pc' := 31) nd_M_advance_30 rfl ga_Mat f rfl hA.hf ?_
  refine aw_iadd (pc' := 32) nd_M_advance_31 rfl ?_
  refine aw_iald (pc' := 33) nd_M_advance_32 rfl ga_Mwith (40 * k + a) (by rw [hA.ap]; exact nI_lin (c := 40) (by decide)) (by have := hA.hk; have := hA.ha; omega) ?_
  rw [hA.wi]
  refine aw_istore (pc' := 35) (ls' := [_, _, _, _, _, _]) nd_M_advance_33 rfl (Nat.le_of_ble_eq_true rfl) rfl ?_
  refine aw_iload_n (pc' := 36) nd_M_advance_35 rfl rfl ?_
  refine aw_iconst (pc' := 37) (x := 1) nd_M_advance_36 rfl (by decide) ?_
  refine aw_icmp_ne (pc' := 40) (tg := 51) nd_M_advance_37 (by decide) rfl (fun _ => ?_) (fun hx => absurd hx (by decide))
  refine aw_iload_n (pc' := 52) nd_M_advance_51 rfl rfl ?_
  refine aw_iconst (pc' := 53) (x := 2) nd_M_advance_52 rfl (by decide) ?_
  refine aw_icmp_ne (pc' := 56) (tg := 104) nd_M_advance_53 (by decide) rfl (fun hx => absurd (by decide) hx) (fun _ => ?_)
  refine aw_aload_n (pc' := 57) nd_M_advance_56 rfl rfl rfl ?_
  refine aw_get (pc' := 60) nd_M_advance_57 rfl nF_5_97 g_M_stack ?_
  refine aw_bipush (pc' := 62) (x := 16) nd_M_advance_60 rfl (by decide) ?_
  refine aw_iload_n (pc' := 63) nd_M_advance_62 rfl rfl ?_
  refine aw_imul (pc' := 64) nd_M_advance_63 rfl ?_
  refine aw_aload_n (pc' := 65) nd_M_advance_64 rfl rfl rfl ?_
  refine aw_get (pc' := 68) nd_M_advance_65 rfl nF_5_94 g_M_depth ?_
  refine aw_iload_n (pc' := 69) nd_M_advance_68 rfl rfl ?_
  refine aw_iald (pc' := 70) nd_M_advance_69 rfl ga_Mdepth f rfl hA.hf ?_
  refine aw_iadd (pc' := 71) nd_M_advance_70 rfl ?_
  refine aw_iconst (pc' := 72) (x := 1) nd_M_advance_71 rfl (by decide) ?_
  refine aw_isub (pc' := 73) nd_M_advance_72 rfl ?_
  refine aw_lald (pc' := 74) nd_M_advance_73 rfl ga_Mstack (16 * f + u) (by rw [ht, nI_lin (c := 16) (by decide)]; exact nI_pred (16 * f + u)) (by have := hA.hf; omega) ?_
  refine aw_l2i (pc' := 75) nd_M_advance_74 rfl ?_
  refine aw_bipush (pc' := 77) (x := 12) nd_M_advance_75 rfl (by decide) ?_
  refine aw_irem (pc' := 78) nd_M_advance_77 rfl (by decide) ?_
  refine aw_istore (pc' := 80) (ls' := [_, _, _, _, _, _]) nd_M_advance_78 rfl (Nat.le_of_ble_eq_true rfl) rfl ?_
  refine aw_aload_n (pc' := 81) nd_M_advance_80 rfl rfl rfl ?_
  refine aw_iload_n (pc' := 82) nd_M_advance_81 rfl rfl ?_
  refine aw_iload_n (pc' := 83) nd_M_advance_82 rfl rfl ?_
  refine aw_iload (pc' := 85) nd_M_advance_83 rfl rfl ?_
  refine aw_if_ge (pc' := 88) (tg := 96) nd_M_advance_85 (by decide) rfl (fun hb85 => ?_) (fun hb85 => ?_)
  · skip
    refine aw_iload (pc' := 98) nd_M_advance_96 rfl rfl ?_
    first
      | rw [(fm_r (μ.2 132 (16 * f + u)).toInt32).1 hb85]
      | rw [(fm_r (μ.2 132 (16 * f + u)).toInt32).2 hb85]
    refine aw_callV (pc' := 101) (as := [_, _, _]) (st := []) nd_M_advance_98 rfl nC_5_231 ⟨(Nat.le_of_ble_eq_true rfl), rfl, rfl⟩ ns_ioM (Nat.le_of_ble_eq_true rfl) (Nat.le_of_ble_eq_true rfl) (Nat.le_of_ble_eq_true rfl) ?_
    refine c_M_look hA.hf hA.hk hs hA.op hA.cl hfo hA.ap hA.ha hA.st ht h16 (fun _ => Nat.le_add_left 1 u) hth (lk_map hq (fun m hm => ?_))
    refine aw_goto (pc' := 209) nd_M_advance_101 (by decide) ?_
    refine aw_return nd_M_advance_209 rfl (Nat.le_of_ble_eq_true rfl) (Nat.le_of_ble_eq_true rfl) ?_
    exact hm
    --end
  · skip
    refine aw_iload (pc' := 90) nd_M_advance_88 rfl rfl ?_
    refine aw_bipush (pc' := 92) (x := 12) nd_M_advance_90 rfl (by decide) ?_
    refine aw_iadd (pc' := 93) nd_M_advance_92 rfl ?_
    refine aw_goto (pc' := 98) nd_M_advance_93 (by decide) ?_
    first
      | rw [(fm_r (μ.2 132 (16 * f + u)).toInt32).1 hb85]
      | rw [(fm_r (μ.2 132 (16 * f + u)).toInt32).2 hb85]
    refine aw_callV (pc' := 101) (as := [_, _, _]) (st := []) nd_M_advance_98 rfl nC_5_231 ⟨(Nat.le_of_ble_eq_true rfl), rfl, rfl⟩ ns_ioM (Nat.le_of_ble_eq_true rfl) (Nat.le_of_ble_eq_true rfl) (Nat.le_of_ble_eq_true rfl) ?_
    refine c_M_look hA.hf hA.hk hs hA.op hA.cl hfo hA.ap hA.ha hA.st ht h16 (fun _ => Nat.le_add_left 1 u) hth (lk_map hq (fun m hm => ?_))
    refine aw_goto (pc' := 209) nd_M_advance_101 (by decide) ?_
    refine aw_return nd_M_advance_209 rfl (Nat.le_of_ble_eq_true rfl) (Nat.le_of_ble_eq_true rfl) ?_
    exact hm
    --end

