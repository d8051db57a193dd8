/-! the model's asking: lookThrough -/
def dOf (μ : nMem) (s : Nat) : Int32 := if μ.1 107 s = 0 then μ.1 115 s else μ.1 122 s
def sOf (μ : nMem) (s : Nat) : Int32 := if μ.1 107 s = 0 then μ.1 116 s else μ.1 121 s
def ldM (μ : nMem) (rc : Nat → Nat) : Nat → Int32
  | 0 => 2
  | i + 1 => if dOf μ (rc i) < ldM μ rc i then dOf μ (rc i) else ldM μ rc i
def saM (μ : nMem) (n s : Nat) (w : Int32) : nMem := ms (ms (ms (ms μ 128 n (nI s)) 129 n w) 135 s 1) 104 27 (nI (n + 1))

theorem l_M_look36 {L : Nat} {xs : Nat → Int32} {d : Nat} {Q : ax_Q} {m : nMem} {f k : Nat} (hf : f < 12) (hk : k < 12) (ho : m.1 104 27 = nI (f + 1)) (hp : m.1 128 f = nI k) {rc : Nat → Nat} {r : Nat} (hr : m.1 123 k = nI r) (hr12 : r ≤ 12) (hrc : ∀ i, i < r → m.1 124 (12 * k + i) = nI (rc i) ∧ rc i < 12) (hq : Q none (ns_rep (fiM (ms m 122 k (ldM m rc r)) f k))) : ∀ z i, z + i = r → nW L xs (d + 1) ns_I_M_lookThrough Q 36 [some (.ref 104), some (.int (nI f)), some (.int (nI k)), some (.int (ldM m rc i)), some (.int (nI i))] [] 0 0 (ns_rep m) := by
  intro z
  induction z with
  | zero =>
    intro i hi
    obtain rfl : i = r := by omega
    refine aw_iload (pc' := 38) nd_M_lookThrough_36 rfl rfl ?_
    refine aw_aload_n (pc' := 39) nd_M_lookThrough_38 rfl rfl rfl ?_
    refine aw_get (pc' := 42) nd_M_lookThrough_39 rfl nF_5_70 g_M_reads ?_
    refine aw_iload_n (pc' := 43) nd_M_lookThrough_42 rfl rfl ?_
    refine aw_iald (pc' := 44) nd_M_lookThrough_43 rfl ga_Mreads k rfl hk ?_
    refine aw_icmp_ge (pc' := 47) (tg := 94) nd_M_lookThrough_44 (by decide) rfl (fun _ => ?_) (fun hx => absurd (by rw [hr]; exact nI_le (Nat.le_refl _) (by omega)) hx)
    refine aw_aload_n (pc' := 95) nd_M_lookThrough_94 rfl rfl rfl ?_
    refine aw_get (pc' := 98) nd_M_lookThrough_95 rfl nF_5_67 g_M_noteDurable ?_
    refine aw_iload_n (pc' := 99) nd_M_lookThrough_98 rfl rfl ?_
    refine aw_iload_n (pc' := 100) nd_M_lookThrough_99 rfl rfl ?_
    refine aw_iast (pc' := 101) nd_M_lookThrough_100 rfl rfl k rfl hk pa_MnoteDurable ?_
    refine aw_aload_n (pc' := 102) nd_M_lookThrough_101 rfl rfl rfl ?_
    refine aw_callV (pc' := 105) (as := []) (st := []) nd_M_lookThrough_102 rfl nC_5_213 ⟨(Nat.le_of_ble_eq_true rfl), rfl, rfl⟩ ns_ioM (Nat.le_of_ble_eq_true rfl) (Nat.le_of_ble_eq_true rfl) (Nat.le_of_ble_eq_true rfl) ?_
    refine c_M_finish (n := f) (k := k) (by rw [ms_o (by decide)]; exact ho) hf hk (by rw [ms_o (by decide)]; exact hp) ?_
    show nW _ _ _ _ _ 105 _ [] _ _ _
    refine aw_return nd_M_lookThrough_105 rfl (Nat.le_of_ble_eq_true rfl) (Nat.le_of_ble_eq_true rfl) ?_
    exact hq
  | succ z ih =>
    intro i hi
    have hin : i < r := by omega
    obtain ⟨hv, hs⟩ := hrc i hin
    refine aw_iload (pc' := 38) nd_M_lookThrough_36 rfl rfl ?_
    refine aw_aload_n (pc' := 39) nd_M_lookThrough_38 rfl rfl rfl ?_
    refine aw_get (pc' := 42) nd_M_lookThrough_39 rfl nF_5_70 g_M_reads ?_
    refine aw_iload_n (pc' := 43) nd_M_lookThrough_42 rfl rfl ?_
    refine aw_iald (pc' := 44) nd_M_lookThrough_43 rfl ga_Mreads k rfl hk ?_
    refine aw_icmp_ge (pc' := 47) (tg := 94) nd_M_lookThrough_44 (by decide) rfl (fun hx => absurd hx (by rw [hr]; exact nI_ge hin (by omega))) (fun _ => ?_)
    refine aw_aload_n (pc' := 48) nd_M_lookThrough_47 rfl rfl rfl ?_
    refine aw_aload_n (pc' := 49) nd_M_lookThrough_48 rfl rfl rfl ?_
    refine aw_get (pc' := 52) nd_M_lookThrough_49 rfl nF_5_73 g_M_readCell ?_
    refine aw_bipush (pc' := 54) (x := 12) nd_M_lookThrough_52 rfl (by decide) ?_
    refine aw_iload_n (pc' := 55) nd_M_lookThrough_54 rfl rfl ?_
    refine aw_imul (pc' := 56) nd_M_lookThrough_55 rfl ?_
    refine aw_iload (pc' := 58) nd_M_lookThrough_56 rfl rfl ?_
    refine aw_iadd (pc' := 59) nd_M_lookThrough_58 rfl ?_
    refine aw_iald (pc' := 60) nd_M_lookThrough_59 rfl ga_MreadCell (12 * k + i) (nI_lin (c := 12) (by decide)) (by omega) ?_
    rw [hv]
    refine aw_callV (pc' := 63) (as := [_]) (st := []) nd_M_lookThrough_60 rfl nC_5_216 ⟨(Nat.le_of_ble_eq_true rfl), rfl, rfl⟩ ns_ioM (Nat.le_of_ble_eq_true rfl) (Nat.le_of_ble_eq_true rfl) (Nat.le_of_ble_eq_true rfl) ?_
    refine c_M_durabilityOf hs ?_
    rw [show (if m.1 107 (rc i) = 0 then m.1 115 (rc i) else m.1 122 (rc i)) = dOf m (rc i) from rfl]
    show nW _ _ _ _ _ 63 _ [_] _ _ _
    refine aw_iload_n (pc' := 64) nd_M_lookThrough_63 rfl rfl ?_
    refine aw_icmp_ge (pc' := 67) (tg := 86) nd_M_lookThrough_64 (by decide) rfl (fun hb64 => ?_) (fun hb64 => ?_)
    · skip
      refine aw_iload_n (pc' := 87) nd_M_lookThrough_86 rfl rfl ?_
      refine aw_istore_n (pc' := 88) (ls' := [_, _, _, _, _]) nd_M_lookThrough_87 rfl (Nat.le_of_ble_eq_true rfl) rfl ?_
      refine aw_iinc (pc' := 91) (ls' := [_, _, _, _, _]) nd_M_lookThrough_88 rfl rfl (nI_1 i) rfl ?_
      refine aw_goto (pc' := 36) nd_M_lookThrough_91 (by decide) ?_
      have e := ih (i + 1) (by omega)
      rw [ldM] at e
      first
        | (rw [if_neg (Int32.not_lt.mpr hb64)] at e; exact e)
        | (rw [if_pos (Int32.not_le.mp hb64)] at e; exact e)
    · skip
      refine aw_aload_n (pc' := 68) nd_M_lookThrough_67 rfl rfl rfl ?_
      refine aw_aload_n (pc' := 69) nd_M_lookThrough_68 rfl rfl rfl ?_
      refine aw_get (pc' := 72) nd_M_lookThrough_69 rfl nF_5_73 g_M_readCell ?_
      refine aw_bipush (pc' := 74) (x := 12) nd_M_lookThrough_72 rfl (by decide) ?_
      refine aw_iload_n (pc' := 75) nd_M_lookThrough_74 rfl rfl ?_
      refine aw_imul (pc' := 76) nd_M_lookThrough_75 rfl ?_
      refine aw_iload (pc' := 78) nd_M_lookThrough_76 rfl rfl ?_
      refine aw_iadd (pc' := 79) nd_M_lookThrough_78 rfl ?_
      refine aw_iald (pc' := 80) nd_M_lookThrough_79 rfl ga_MreadCell (12 * k + i) (nI_lin (c := 12) (by decide)) (by omega) ?_
      rw [hv]
      refine aw_callV (pc' := 83) (as := [_]) (st := []) nd_M_lookThrough_80 rfl nC_5_216 ⟨(Nat.le_of_ble_eq_true rfl), rfl, rfl⟩ ns_ioM (Nat.le_of_ble_eq_true rfl) (Nat.le_of_ble_eq_true rfl) (Nat.le_of_ble_eq_true rfl) ?_
      refine c_M_durabilityOf hs ?_
      rw [show (if m.1 107 (rc i) = 0 then m.1 115 (rc i) else m.1 122 (rc i)) = dOf m (rc i) from rfl]
      show nW _ _ _ _ _ 83 _ [_] _ _ _
      refine aw_goto (pc' := 87) nd_M_lookThrough_83 (by decide) ?_
      refine aw_istore_n (pc' := 88) (ls' := [_, _, _, _, _]) nd_M_lookThrough_87 rfl (Nat.le_of_ble_eq_true rfl) rfl ?_
      refine aw_iinc (pc' := 91) (ls' := [_, _, _, _, _]) nd_M_lookThrough_88 rfl rfl (nI_1 i) rfl ?_
      refine aw_goto (pc' := 36) nd_M_lookThrough_91 (by decide) ?_
      have e := ih (i + 1) (by omega)
      rw [ldM] at e
      first
        | (rw [if_neg (Int32.not_lt.mpr hb64)] at e; exact e)
        | (rw [if_pos (Int32.not_le.mp hb64)] at e; exact e)

theorem c_M_lookThrough {L : Nat} {xs : Nat → Int32} {d : Nat} {Q : ax_Q} {μ : nMem} {f k a : Nat} (hf : f < 12) (hk : k < 12) (ho : μ.1 104 27 = nI (f + 1)) (hp : μ.1 128 f = nI k) (ha : μ.1 130 f = nI a) {rc : Nat → Nat} {r : Nat} (hr : μ.1 123 k = nI r) (hr12 : r ≤ 12) (hrc : ∀ i, i < r → μ.1 124 (12 * k + i) = nI (rc i) ∧ rc i < 12) (har : a ≤ r) (hq0 : a = r → Q none (ns_rep (fiM (ms (ms (cnM μ k 1) 120 k (μ.1 104 3)) 122 k (ldM (ms (cnM μ k 1) 120 k (μ.1 104 3)) rc r)) f k))) (hq1 : a < r → ¬ μ.1 135 (rc a) = 0 → Q none (ns_rep (ms μ 129 f 2))) (hq2 : a < r → μ.1 135 (rc a) = 0 → stM μ (rc a) = false → f + 1 < 12 ∧ Q none (ns_rep (saM μ (f + 1) (rc a) 0))) (hq3 : a < r → μ.1 135 (rc a) = 0 → stM μ (rc a) = true → μ.1 120 k < sOf μ (rc a) → Q none (ns_rep (ms μ 129 f 2))) (hq4 : a < r → μ.1 135 (rc a) = 0 → stM μ (rc a) = true → ¬ μ.1 120 k < sOf μ (rc a) → Q none (ns_rep (ms μ 130 f (nI (a + 1))))) : nM L xs (d + 2) 59 [.ref 104, .int (nI f), .int (nI k)] (ns_rep μ) Q := by
  refine nM.of ns_I_M_lookThrough rfl (ls := [_, _, _, _, _]) (Nat.le_of_ble_eq_true rfl) rfl ?_
  refine aw_aload_n (pc' := 1) nd_M_lookThrough_0 rfl rfl rfl ?_
  refine aw_get (pc' := 4) nd_M_lookThrough_1 rfl nF_5_91 g_M_at ?_
  refine aw_iload_n (pc' := 5) nd_M_lookThrough_4 rfl rfl ?_
  refine aw_iald (pc' := 6) nd_M_lookThrough_5 rfl ga_Mat f rfl hf ?_
  refine aw_aload_n (pc' := 7) nd_M_lookThrough_6 rfl rfl rfl ?_
  refine aw_get (pc' := 10) nd_M_lookThrough_7 rfl nF_5_70 g_M_reads ?_
  refine aw_iload_n (pc' := 11) nd_M_lookThrough_10 rfl rfl ?_
  refine aw_iald (pc' := 12) nd_M_lookThrough_11 rfl ga_Mreads k rfl hk ?_
  rw [ha, hr]
  refine aw_icmp_ne (pc' := 15) (tg := 106) nd_M_lookThrough_12 (by decide) rfl (fun hb12 => ?_) (fun hb12 => ?_)
  · skip
    have hlt : a < r := by
      rcases Nat.lt_or_ge a r with h | h
      · exact h
      · exact absurd (congrArg nI (show a = r by omega)) hb12
    obtain ⟨hv, hs⟩ := hrc a hlt
    refine aw_aload_n (pc' := 107) nd_M_lookThrough_106 rfl rfl rfl ?_
    refine aw_get (pc' := 110) nd_M_lookThrough_107 rfl nF_5_73 g_M_readCell ?_
    refine aw_bipush (pc' := 112) (x := 12) nd_M_lookThrough_110 rfl (by decide) ?_
    refine aw_iload_n (pc' := 113) nd_M_lookThrough_112 rfl rfl ?_
    refine aw_imul (pc' := 114) nd_M_lookThrough_113 rfl ?_
    refine aw_aload_n (pc' := 115) nd_M_lookThrough_114 rfl rfl rfl ?_
    refine aw_get (pc' := 118) nd_M_lookThrough_115 rfl nF_5_91 g_M_at ?_
    refine aw_iload_n (pc' := 119) nd_M_lookThrough_118 rfl rfl ?_
    refine aw_iald (pc' := 120) nd_M_lookThrough_119 rfl ga_Mat f rfl hf ?_
    refine aw_iadd (pc' := 121) nd_M_lookThrough_120 rfl ?_
    refine aw_iald (pc' := 122) nd_M_lookThrough_121 rfl ga_MreadCell (12 * k + a) (by rw [ha]; exact nI_lin (c := 12) (by decide)) (by omega) ?_
    rw [hv]
    refine aw_istore_n (pc' := 123) (ls' := [_, _, _, _, _]) nd_M_lookThrough_122 rfl (Nat.le_of_ble_eq_true rfl) rfl ?_
    refine aw_aload_n (pc' := 124) nd_M_lookThrough_123 rfl rfl rfl ?_
    refine aw_get (pc' := 127) nd_M_lookThrough_124 rfl nF_5_106 g_M_atWork ?_
    refine aw_iload_n (pc' := 128) nd_M_lookThrough_127 rfl rfl ?_
    refine aw_bald (pc' := 129) nd_M_lookThrough_128 rfl ga_MatWork (rc a) rfl hs ?_
    refine aw_if_eq (pc' := 132) (tg := 142) nd_M_lookThrough_129 (by decide) rfl (fun hb129 => ?_) (fun hb129 => ?_)
    · skip
      refine aw_aload_n (pc' := 143) nd_M_lookThrough_142 rfl rfl rfl ?_
      refine aw_iload_n (pc' := 144) nd_M_lookThrough_143 rfl rfl ?_
      refine aw_callV (pc' := 147) (as := [_]) (st := []) nd_M_lookThrough_144 rfl nC_5_219 ⟨(Nat.le_of_ble_eq_true rfl), rfl, rfl⟩ ns_ioM (Nat.le_of_ble_eq_true rfl) (Nat.le_of_ble_eq_true rfl) (Nat.le_of_ble_eq_true rfl) ?_
      refine c_M_settled hs ?_
      show nW _ _ _ _ _ 147 _ [_] _ _ _
      refine aw_if_ne (pc' := 150) (tg := 159) nd_M_lookThrough_147 (by decide) rfl (fun hb147 => ?_) (fun hb147 => ?_)
      · skip
        refine aw_aload_n (pc' := 160) nd_M_lookThrough_159 rfl rfl rfl ?_
        refine aw_iload_n (pc' := 161) nd_M_lookThrough_160 rfl rfl ?_
        refine aw_callV (pc' := 164) (as := [_]) (st := []) nd_M_lookThrough_161 rfl nC_5_225 ⟨(Nat.le_of_ble_eq_true rfl), rfl, rfl⟩ ns_ioM (Nat.le_of_ble_eq_true rfl) (Nat.le_of_ble_eq_true rfl) (Nat.le_of_ble_eq_true rfl) ?_
        refine c_M_sinceOf hs ?_
        rw [show (if μ.1 107 (rc a) = 0 then μ.1 116 (rc a) else μ.1 121 (rc a)) = sOf μ (rc a) from rfl]
        show nW _ _ _ _ _ 164 _ [_] _ _ _
        refine aw_aload_n (pc' := 165) nd_M_lookThrough_164 rfl rfl rfl ?_
        refine aw_get (pc' := 168) nd_M_lookThrough_165 rfl nF_5_61 g_M_verified ?_
        refine aw_iload_n (pc' := 169) nd_M_lookThrough_168 rfl rfl ?_
        refine aw_iald (pc' := 170) nd_M_lookThrough_169 rfl ga_Mverified k rfl hk ?_
        refine aw_icmp_le (pc' := 173) (tg := 183) nd_M_lookThrough_170 (by decide) rfl (fun hb170 => ?_) (fun hb170 => ?_)
        · skip
          refine aw_aload_n (pc' := 184) nd_M_lookThrough_183 rfl rfl rfl ?_
          refine aw_get (pc' := 187) nd_M_lookThrough_184 rfl nF_5_91 g_M_at ?_
          refine aw_iload_n (pc' := 188) nd_M_lookThrough_187 rfl rfl ?_
          refine aw_dup2 (pc' := 189) nd_M_lookThrough_188 rfl rfl rfl ?_
          refine aw_iald (pc' := 190) nd_M_lookThrough_189 rfl ga_Mat f rfl hf ?_
          refine aw_iconst (pc' := 191) (x := 1) nd_M_lookThrough_190 rfl (by decide) ?_
          refine aw_iadd (pc' := 192) nd_M_lookThrough_191 rfl ?_
          rw [ha, nI_1]
          refine aw_iast (pc' := 193) nd_M_lookThrough_192 rfl rfl f rfl hf pa_Mat ?_
          refine aw_return nd_M_lookThrough_193 rfl (Nat.le_of_ble_eq_true rfl) (Nat.le_of_ble_eq_true rfl) ?_
          first
            | exact hq1 hlt hb129
            | exact (hq2 hlt hb129 (bi_f hb147)).2
            | exact hq4 hlt hb129 (bi_t hb147) (Int32.not_lt.mpr hb170)
            | exact hq3 hlt hb129 (bi_t hb147) (Int32.not_le.mp hb170)
        · skip
          refine aw_aload_n (pc' := 174) nd_M_lookThrough_173 rfl rfl rfl ?_
          refine aw_get (pc' := 177) nd_M_lookThrough_174 rfl nF_5_88 g_M_mode ?_
          refine aw_iload_n (pc' := 178) nd_M_lookThrough_177 rfl rfl ?_
          refine aw_iconst (pc' := 179) (x := 2) nd_M_lookThrough_178 rfl (by decide) ?_
          refine aw_iast (pc' := 180) nd_M_lookThrough_179 rfl rfl f rfl hf pa_Mmode ?_
          refine aw_goto (pc' := 193) nd_M_lookThrough_180 (by decide) ?_
          refine aw_return nd_M_lookThrough_193 rfl (Nat.le_of_ble_eq_true rfl) (Nat.le_of_ble_eq_true rfl) ?_
          first
            | exact hq1 hlt hb129
            | exact (hq2 hlt hb129 (bi_f hb147)).2
            | exact hq4 hlt hb129 (bi_t hb147) (Int32.not_lt.mpr hb170)
            | exact hq3 hlt hb129 (bi_t hb147) (Int32.not_le.mp hb170)
      · skip
        refine aw_aload_n (pc' := 151) nd_M_lookThrough_150 rfl rfl rfl ?_
        refine aw_iload_n (pc' := 152) nd_M_lookThrough_151 rfl rfl ?_
        refine aw_iconst (pc' := 153) (x := 0) nd_M_lookThrough_152 rfl (by decide) ?_
        refine aw_callV (pc' := 156) (as := [_, _]) (st := []) nd_M_lookThrough_153 rfl nC_5_222 ⟨(Nat.le_of_ble_eq_true rfl), rfl, rfl⟩ ns_ioM (Nat.le_of_ble_eq_true rfl) (Nat.le_of_ble_eq_true rfl) (Nat.le_of_ble_eq_true rfl) ?_
        refine c_M_start (n := f + 1) ho (hq2 hlt hb129 (bi_f hb147)).1 hs ?_
        show nW _ _ _ _ _ 156 _ [] _ _ _
        refine aw_goto (pc' := 193) nd_M_lookThrough_156 (by decide) ?_
        refine aw_return nd_M_lookThrough_193 rfl (Nat.le_of_ble_eq_true rfl) (Nat.le_of_ble_eq_true rfl) ?_
        first
          | exact hq1 hlt hb129
          | exact (hq2 hlt hb129 (bi_f hb147)).2
          | exact hq4 hlt hb129 (bi_t hb147) (Int32.not_lt.mpr hb170)
          | exact hq3 hlt hb129 (bi_t hb147) (Int32.not_le.mp hb170)
    · skip
      refine aw_aload_n (pc' := 133) nd_M_lookThrough_132 rfl rfl rfl ?_
      refine aw_get (pc' := 136) nd_M_lookThrough_133 rfl nF_5_88 g_M_mode ?_
      refine aw_iload_n (pc' := 137) nd_M_lookThrough_136 rfl rfl ?_
      refine aw_iconst (pc' := 138) (x := 2) nd_M_lookThrough_137 rfl (by decide) ?_
      refine aw_iast (pc' := 139) nd_M_lookThrough_138 rfl rfl f rfl hf pa_Mmode ?_
      refine aw_goto (pc' := 193) nd_M_lookThrough_139 (by decide) ?_
      refine aw_return nd_M_lookThrough_193 rfl (Nat.le_of_ble_eq_true rfl) (Nat.le_of_ble_eq_true rfl) ?_
      first
        | exact hq1 hlt hb129
        | exact (hq2 hlt hb129 (bi_f hb147)).2
        | exact hq4 hlt hb129 (bi_t hb147) (Int32.not_lt.mpr hb170)
        | exact hq3 hlt hb129 (bi_t hb147) (Int32.not_le.mp hb170)
  · skip
    have har2 : a = r := by
      have e := congrArg Int32.toNatClampNeg hb12
      rw [nI_clamp (by omega), nI_clamp (by omega)] at e
      exact e
    refine aw_aload_n (pc' := 16) nd_M_lookThrough_15 rfl rfl rfl ?_
    refine aw_iload_n (pc' := 17) nd_M_lookThrough_16 rfl rfl ?_
    refine aw_iconst (pc' := 18) (x := 1) nd_M_lookThrough_17 rfl (by decide) ?_
    refine aw_callV (pc' := 21) (as := [_, _]) (st := []) nd_M_lookThrough_18 rfl nC_5_210 ⟨(Nat.le_of_ble_eq_true rfl), rfl, rfl⟩ ns_ioM (Nat.le_of_ble_eq_true rfl) (Nat.le_of_ble_eq_true rfl) (Nat.le_of_ble_eq_true rfl) ?_
    refine c_M_counts (w := 1) hk (by decide) ?_
    rw [show ms (ms μ 126 (3 * k + 1) (μ.1 126 (3 * k + 1) + 1)) 127 1 (μ.1 127 1 + 1) = cnM μ k 1 from rfl]
    show nW _ _ _ _ _ 21 _ [] _ _ _
    refine aw_aload_n (pc' := 22) nd_M_lookThrough_21 rfl rfl rfl ?_
    refine aw_get (pc' := 25) nd_M_lookThrough_22 rfl nF_5_61 g_M_verified ?_
    refine aw_iload_n (pc' := 26) nd_M_lookThrough_25 rfl rfl ?_
    refine aw_aload_n (pc' := 27) nd_M_lookThrough_26 rfl rfl rfl ?_
    refine aw_get (pc' := 30) nd_M_lookThrough_27 rfl nF_5_13 g_M_revision ?_
    rw [cnM_o (by decide) (by decide)]
    refine aw_iast (pc' := 31) nd_M_lookThrough_30 rfl rfl k rfl hk pa_Mverified ?_
    refine aw_iconst (pc' := 32) (x := 2) nd_M_lookThrough_31 rfl (by decide) ?_
    refine aw_istore_n (pc' := 33) (ls' := [_, _, _, _, _]) nd_M_lookThrough_32 rfl (Nat.le_of_ble_eq_true rfl) rfl ?_
    refine aw_iconst (pc' := 34) (x := 0) nd_M_lookThrough_33 rfl (by decide) ?_
    refine aw_istore (pc' := 36) (ls' := [_, _, _, _, _]) nd_M_lookThrough_34 rfl (Nat.le_of_ble_eq_true rfl) rfl ?_
    exact l_M_look36 hf hk (by rw [ms_o (by decide), cnM_o (by decide) (by decide)]; exact ho) (by rw [ms_o (by decide), cnM_o (by decide) (by decide)]; exact hp) (by rw [ms_o (by decide), cnM_o (by decide) (by decide)]; exact hr) hr12 (fun i hi => by rw [ms_o (by decide), cnM_o (by decide) (by decide)]; exact hrc i hi) (hq0 har2) r 0 (by omega)

