/-! the law: both sides called, the answers equal -/
def lwI (L : Nat) (xs : Nat → Int32) (D : Nat) (INV : nMem → Prop) (y0 y1 : Nat) (as : List Value) : Prop := ∀ μ, INV μ → nM L xs D y0 (.ref 0 :: as) (ns_rep μ) (fun v h => ∃ (r : Int32) (μ1 : nMem), v = some (.int r) ∧ h = ns_rep μ1 ∧ nM L xs D y1 (.ref 104 :: as) (ns_rep μ1) (fun v' h' => v' = some (.int r) ∧ ∃ μ2, h' = ns_rep μ2 ∧ INV μ2))
def lwJ (L : Nat) (xs : Nat → Int32) (D : Nat) (INV : nMem → Prop) (y0 y1 : Nat) (as : List Value) : Prop := ∀ μ, INV μ → nM L xs D y0 (.ref 0 :: as) (ns_rep μ) (fun v h => ∃ (r : Int64) (μ1 : nMem), v = some (.long r) ∧ h = ns_rep μ1 ∧ nM L xs D y1 (.ref 104 :: as) (ns_rep μ1) (fun v' h' => v' = some (.long r) ∧ ∃ μ2, h' = ns_rep μ2 ∧ INV μ2))
def lwO (L : Nat) (xs : Nat → Int32) (D : Nat) (INV : nMem → Prop) : Prop := (∀ c : Int32, lwI L xs D INV 1 34 [.int (c.toUInt32 % 65536).toInt32]) ∧ (∀ a, lwI L xs D INV 2 47 [.int a]) ∧ (∀ a b c, lwI L xs D INV 3 49 [.int a, .int b, .int c]) ∧ (∀ a, lwJ L xs D INV 4 67 [.int a]) ∧ lwI L xs D INV 5 68 [] ∧ (∀ a, lwI L xs D INV 6 69 [.int a]) ∧ (∀ a b, lwI L xs D INV 7 70 [.int a, .int b]) ∧ (∀ a b, lwI L xs D INV 8 71 [.int a, .int b]) ∧ (∀ a, lwI L xs D INV 9 72 [.int a])
/-- the memory behind the two constructors -/
def mu0 (kp : Int32) : nMem := (fun b k => if b = 0 then (if k = 5 then nKept kp else if k = 6 then 1 else 0) else if b = 104 then (if k = 0 then nMost kp else if k = 3 then 1 else 0) else 0, fun _ _ => 0)
theorem mu0_z (kp : Int32) (b : Nat) (h0 : 0 < b) (h1 : ¬ b = 104) : (mu0 kp).1 b = fun _ => 0 := by
  funext k
  show (if b = 0 then _ else if b = 104 then _ else (0 : Int32)) = 0
  rw [if_neg (by omega), if_neg h1]
def lwK (L : Nat) (xs : Nat → Int32) : Int32 := if L = 0 then 0 else xs 0
theorem s_in {L i j : Nat} {x : Int32} (hx : x = nI j) (h : i + 4 ≤ L) (hj : j < 4) (hL : L ≤ 2049) : vp_in (nI i + x) L := by
  rw [hx, nI_add]
  exact vp_in_nI (by omega) (by omega)
theorem s_gt {L i : Nat} (hL : L ≤ 2049) (hi : i ≤ 2100) : (nI L - 4 < nI i) ↔ L < i + 4 := by
  have h1 : (nI L - 4).toInt = (L : Int) - 4 := by
    rw [Int32.toInt_sub, nI_toInt (by omega), show (4 : Int32).toInt = 4 from rfl, Int.bmod_eq_of_le (by omega) (by omega)]
  rw [Int32.lt_iff_toInt_lt, h1, nI_toInt (by omega)]
  omega
theorem nI_p4 (i : Nat) : nI i + Int32.ofInt 4 = nI (i + 4) := by rw [show (Int32.ofInt 4) = nI 4 by decide, nI_add]
theorem c_L_cell {L : Nat} {xs : Nat → Int32} {d : Nat} {Q : ax_Q} {h : ax_H} (hL : L ≤ 2049) (hq : Q (some (.int (lwK L xs))) h) : nM L xs (d + 1) 104 [.retAddr 0, .int 0] h Q := by
  refine nM.of ns_I_L_cell rfl (ls := [_, _]) (Nat.le_of_ble_eq_true rfl) rfl ?_
  refine aw_iload_n (pc' := 1) nd_L_cell_0 rfl rfl ?_
  refine aw_aload_n (pc' := 2) nd_L_cell_1 rfl rfl rfl ?_
  refine aw_slen (pc' := 3) nd_L_cell_2 rfl ?_
  refine aw_icmp_ge (pc' := 6) (tg := 12) nd_L_cell_3 (by decide) rfl (fun hb3 => ?_) (fun hb3 => ?_)
  · skip
    refine aw_iconst (pc' := 13) (x := 0) nd_L_cell_12 rfl (by decide) ?_
    refine aw_ireturn nd_L_cell_13 rfl rfl (Nat.le_of_ble_eq_true rfl) (Nat.le_of_ble_eq_true rfl) ?_
    first
      | (have e : lwK L xs = xs (0 : Int32).toNatClampNeg := by { unfold lwK; rw [if_neg hL0]; rfl }
         rw [← e]
         exact hq)
      | (have e : lwK L xs = 0 := by { unfold lwK; by_cases hz : L = 0; rw [if_pos hz]; exact absurd hb3 (nI_nle (by omega) (by omega)) }
         rw [e] at hq
         exact hq)
  · skip
    refine aw_aload_n (pc' := 7) nd_L_cell_6 rfl rfl rfl ?_
    refine aw_iload_n (pc' := 8) nd_L_cell_7 rfl rfl ?_
    have hL0 : ¬ L = 0 := fun z => hb3 (by rw [z]; decide)
    refine aw_sld (pc' := 9) nd_L_cell_8 rfl (by rw [show (0 : Int32) = nI 0 from nI_0.symm]; exact vp_in_nI (by omega) (by omega)) ?_
    refine aw_goto (pc' := 13) nd_L_cell_9 (by decide) ?_
    refine aw_ireturn nd_L_cell_13 rfl rfl (Nat.le_of_ble_eq_true rfl) (Nat.le_of_ble_eq_true rfl) ?_
    first
      | (have e : lwK L xs = xs (0 : Int32).toNatClampNeg := by { unfold lwK; rw [if_neg hL0]; rfl }
         rw [← e]
         exact hq)
      | (have e : lwK L xs = 0 := by { unfold lwK; by_cases hz : L = 0; rw [if_pos hz]; exact absurd hb3 (nI_nle (by omega) (by omega)) }
         rw [e] at hq
         exact hq)

theorem l_law {L : Nat} {xs : Nat → Int32} {D : Nat} {INV : nMem → Prop} (hL : L ≤ 2049) (ops : lwO L xs D INV) : ∀ z i, L < i + 4 + 4 * z → 1 ≤ i → i ≤ 2100 → ∀ μ, INV μ → nW L xs D ns_I_L_law (fun v _ => v = some (.int 1)) 28 [some (.retAddr 0), some (.ref 0), some (.ref 104), some (.int (nI i))] [] 141 4015 (ns_rep μ) := by
  intro z
  induction z with
  | zero =>
    intro i h1 h2 h3 μ hI
    refine aw_iload_n (pc' := 29) nd_L_law_28 rfl rfl ?_
    refine aw_aload_n (pc' := 30) nd_L_law_29 rfl rfl rfl ?_
    refine aw_slen (pc' := 31) nd_L_law_30 rfl ?_
    refine aw_iconst (pc' := 32) (x := 4) nd_L_law_31 rfl (by decide) ?_
    refine aw_isub (pc' := 33) nd_L_law_32 rfl ?_
    refine aw_icmp_gt (pc' := 36) (tg := 338) nd_L_law_33 (by decide) rfl (fun _ => ?_) (fun hx => absurd ((s_gt hL h3).mpr (by omega)) hx)
    refine aw_iconst (pc' := 339) (x := 1) nd_L_law_338 rfl (by decide) ?_
    refine aw_ireturn nd_L_law_339 rfl (by first | rfl | assumption) (Nat.le_of_ble_eq_true rfl) (Nat.le_of_ble_eq_true rfl) ?_
    rfl
  | succ z ih =>
    intro i h1 h2 h3 μ hI
    by_cases hc : i + 4 ≤ L
    · skip
      refine aw_iload_n (pc' := 29) nd_L_law_28 rfl rfl ?_
      refine aw_aload_n (pc' := 30) nd_L_law_29 rfl rfl rfl ?_
      refine aw_slen (pc' := 31) nd_L_law_30 rfl ?_
      refine aw_iconst (pc' := 32) (x := 4) nd_L_law_31 rfl (by decide) ?_
      refine aw_isub (pc' := 33) nd_L_law_32 rfl ?_
      refine aw_icmp_gt (pc' := 36) (tg := 338) nd_L_law_33 (by decide) rfl (fun hx => absurd hx (fun hx => absurd ((s_gt hL h3).mp hx) (by omega))) (fun _ => ?_)
      refine aw_aload_n (pc' := 37) nd_L_law_36 rfl rfl rfl ?_
      refine aw_iload_n (pc' := 38) nd_L_law_37 rfl rfl ?_
      refine aw_sld (pc' := 39) nd_L_law_38 rfl (vp_in_nI (by omega) (by omega)) ?_
      refine aw_bipush (pc' := 41) (x := 15) nd_L_law_39 rfl (by decide) ?_
      refine aw_iand (pc' := 42) nd_L_law_41 rfl ?_
      generalize (xs (nI i).toNatClampNeg &&& 15) = q
      by_cases hs0 : q = 0
      · subst hs0
        refine aw_tabIn (tg := 92) (off := 50) nd_L_law_42 (by decide) (by decide) (by decide) ?_
        refine aw_aload_n (pc' := 93) nd_L_law_92 rfl rfl rfl ?_
        refine aw_aload_n (pc' := 94) nd_L_law_93 rfl rfl rfl ?_
        refine aw_iload_n (pc' := 95) nd_L_law_94 rfl rfl ?_
        refine aw_iconst (pc' := 96) (x := 1) nd_L_law_95 rfl (by decide) ?_
        refine aw_iadd (pc' := 97) nd_L_law_96 rfl ?_
        refine aw_sld (pc' := 98) nd_L_law_97 rfl (s_in (j := 1) (by decide) hc (by decide) hL) ?_
        refine aw_i2c (pc' := 99) nd_L_law_98 rfl ?_
        refine aw_callV (pc' := 102) (as := [_]) (st := []) nd_L_law_99 rfl nC_6_21 ⟨(Nat.le_of_ble_eq_true rfl), rfl, rfl⟩ ns_ioN (Nat.le_of_ble_eq_true rfl) (Nat.le_of_ble_eq_true rfl) (Nat.le_of_ble_eq_true rfl) ?_
        refine ax_M.mono _ _ _ _ _ _ (fun v h q => ?_) (ops.1 _ μ hI)
        obtain ⟨r, μ1, rfl, rfl, hm⟩ := q
        show nW _ _ _ _ _ 102 _ [_] _ _ _
        refine aw_aload_n (pc' := 103) nd_L_law_102 rfl rfl rfl ?_
        refine aw_aload_n (pc' := 104) nd_L_law_103 rfl rfl rfl ?_
        refine aw_iload_n (pc' := 105) nd_L_law_104 rfl rfl ?_
        refine aw_iconst (pc' := 106) (x := 1) nd_L_law_105 rfl (by decide) ?_
        refine aw_iadd (pc' := 107) nd_L_law_106 rfl ?_
        refine aw_sld (pc' := 108) nd_L_law_107 rfl (s_in (j := 1) (by decide) hc (by decide) hL) ?_
        refine aw_i2c (pc' := 109) nd_L_law_108 rfl ?_
        refine aw_callV (pc' := 112) (as := [_]) (st := [_]) nd_L_law_109 rfl nC_6_25 ⟨(Nat.le_of_ble_eq_true rfl), rfl, rfl⟩ ns_ioM (Nat.le_of_ble_eq_true rfl) (Nat.le_of_ble_eq_true rfl) (Nat.le_of_ble_eq_true rfl) ?_
        refine ax_M.mono _ _ _ _ _ _ (fun v h q => ?_) hm
        obtain ⟨rfl, μ2, rfl, hI2⟩ := q
        replace hI := hI2
        show nW _ _ _ _ _ 112 _ [_, _] _ _ _
        refine aw_icmp_eq (pc' := 115) (tg := 332) nd_L_law_112 (by decide) rfl (fun _ => ?_) (fun hx => absurd rfl hx)
        refine aw_iinc (pc' := 335) (ls' := [_, _, _, _]) nd_L_law_332 rfl rfl (nI_p4 i) rfl ?_
        refine aw_goto (pc' := 28) nd_L_law_335 (by decide) ?_
        exact ih (i + 4) (by omega) (by omega) (by omega) _ hI
      by_cases hs1 : q = 1
      · subst hs1
        refine aw_tabIn (tg := 117) (off := 75) nd_L_law_42 (by decide) (by decide) (by decide) ?_
        refine aw_aload_n (pc' := 118) nd_L_law_117 rfl rfl rfl ?_
        refine aw_aload_n (pc' := 119) nd_L_law_118 rfl rfl rfl ?_
        refine aw_iload_n (pc' := 120) nd_L_law_119 rfl rfl ?_
        refine aw_iconst (pc' := 121) (x := 1) nd_L_law_120 rfl (by decide) ?_
        refine aw_iadd (pc' := 122) nd_L_law_121 rfl ?_
        refine aw_sld (pc' := 123) nd_L_law_122 rfl (s_in (j := 1) (by decide) hc (by decide) hL) ?_
        refine aw_callV (pc' := 126) (as := [_]) (st := []) nd_L_law_123 rfl nC_6_26 ⟨(Nat.le_of_ble_eq_true rfl), rfl, rfl⟩ ns_ioN (Nat.le_of_ble_eq_true rfl) (Nat.le_of_ble_eq_true rfl) (Nat.le_of_ble_eq_true rfl) ?_
        refine ax_M.mono _ _ _ _ _ _ (fun v h q => ?_) (ops.2.1 _ μ hI)
        obtain ⟨r, μ1, rfl, rfl, hm⟩ := q
        show nW _ _ _ _ _ 126 _ [_] _ _ _
        refine aw_aload_n (pc' := 127) nd_L_law_126 rfl rfl rfl ?_
        refine aw_aload_n (pc' := 128) nd_L_law_127 rfl rfl rfl ?_
        refine aw_iload_n (pc' := 129) nd_L_law_128 rfl rfl ?_
        refine aw_iconst (pc' := 130) (x := 1) nd_L_law_129 rfl (by decide) ?_
        refine aw_iadd (pc' := 131) nd_L_law_130 rfl ?_
        refine aw_sld (pc' := 132) nd_L_law_131 rfl (s_in (j := 1) (by decide) hc (by decide) hL) ?_
        refine aw_callV (pc' := 135) (as := [_]) (st := [_]) nd_L_law_132 rfl nC_6_30 ⟨(Nat.le_of_ble_eq_true rfl), rfl, rfl⟩ ns_ioM (Nat.le_of_ble_eq_true rfl) (Nat.le_of_ble_eq_true rfl) (Nat.le_of_ble_eq_true rfl) ?_
        refine ax_M.mono _ _ _ _ _ _ (fun v h q => ?_) hm
        obtain ⟨rfl, μ2, rfl, hI2⟩ := q
        replace hI := hI2
        show nW _ _ _ _ _ 135 _ [_, _] _ _ _
        refine aw_icmp_eq (pc' := 138) (tg := 332) nd_L_law_135 (by decide) rfl (fun _ => ?_) (fun hx => absurd rfl hx)
        refine aw_iinc (pc' := 335) (ls' := [_, _, _, _]) nd_L_law_332 rfl rfl (nI_p4 i) rfl ?_
        refine aw_goto (pc' := 28) nd_L_law_335 (by decide) ?_
        exact ih (i + 4) (by omega) (by omega) (by omega) _ hI
      by_cases hs2 : q = 2
      · subst hs2
        refine aw_tabIn (tg := 140) (off := 98) nd_L_law_42 (by decide) (by decide) (by decide) ?_
        refine aw_aload_n (pc' := 141) nd_L_law_140 rfl rfl rfl ?_
        refine aw_aload_n (pc' := 142) nd_L_law_141 rfl rfl rfl ?_
        refine aw_iload_n (pc' := 143) nd_L_law_142 rfl rfl ?_
        refine aw_iconst (pc' := 144) (x := 1) nd_L_law_143 rfl (by decide) ?_
        refine aw_iadd (pc' := 145) nd_L_law_144 rfl ?_
        refine aw_sld (pc' := 146) nd_L_law_145 rfl (s_in (j := 1) (by decide) hc (by decide) hL) ?_
        refine aw_aload_n (pc' := 147) nd_L_law_146 rfl rfl rfl ?_
        refine aw_iload_n (pc' := 148) nd_L_law_147 rfl rfl ?_
        refine aw_iconst (pc' := 149) (x := 2) nd_L_law_148 rfl (by decide) ?_
        refine aw_iadd (pc' := 150) nd_L_law_149 rfl ?_
        refine aw_sld (pc' := 151) nd_L_law_150 rfl (s_in (j := 2) (by decide) hc (by decide) hL) ?_
        refine aw_aload_n (pc' := 152) nd_L_law_151 rfl rfl rfl ?_
        refine aw_iload_n (pc' := 153) nd_L_law_152 rfl rfl ?_
        refine aw_iconst (pc' := 154) (x := 3) nd_L_law_153 rfl (by decide) ?_
        refine aw_iadd (pc' := 155) nd_L_law_154 rfl ?_
        refine aw_sld (pc' := 156) nd_L_law_155 rfl (s_in (j := 3) (by decide) hc (by decide) hL) ?_
        refine aw_callV (pc' := 159) (as := [_, _, _]) (st := []) nd_L_law_156 rfl nC_6_31 ⟨(Nat.le_of_ble_eq_true rfl), rfl, rfl⟩ ns_ioN (Nat.le_of_ble_eq_true rfl) (Nat.le_of_ble_eq_true rfl) (Nat.le_of_ble_eq_true rfl) ?_
        refine ax_M.mono _ _ _ _ _ _ (fun v h q => ?_) (ops.2.2.1 _ _ _ μ hI)
        obtain ⟨r, μ1, rfl, rfl, hm⟩ := q
        show nW _ _ _ _ _ 159 _ [_] _ _ _
        refine aw_aload_n (pc' := 160) nd_L_law_159 rfl rfl rfl ?_
        refine aw_aload_n (pc' := 161) nd_L_law_160 rfl rfl rfl ?_
        refine aw_iload_n (pc' := 162) nd_L_law_161 rfl rfl ?_
        refine aw_iconst (pc' := 163) (x := 1) nd_L_law_162 rfl (by decide) ?_
        refine aw_iadd (pc' := 164) nd_L_law_163 rfl ?_
        refine aw_sld (pc' := 165) nd_L_law_164 rfl (s_in (j := 1) (by decide) hc (by decide) hL) ?_
        refine aw_aload_n (pc' := 166) nd_L_law_165 rfl rfl rfl ?_
        refine aw_iload_n (pc' := 167) nd_L_law_166 rfl rfl ?_
        refine aw_iconst (pc' := 168) (x := 2) nd_L_law_167 rfl (by decide) ?_
        refine aw_iadd (pc' := 169) nd_L_law_168 rfl ?_
        refine aw_sld (pc' := 170) nd_L_law_169 rfl (s_in (j := 2) (by decide) hc (by decide) hL) ?_
        refine aw_aload_n (pc' := 171) nd_L_law_170 rfl rfl rfl ?_
        refine aw_iload_n (pc' := 172) nd_L_law_171 rfl rfl ?_
        refine aw_iconst (pc' := 173) (x := 3) nd_L_law_172 rfl (by decide) ?_
        refine aw_iadd (pc' := 174) nd_L_law_173 rfl ?_
        refine aw_sld (pc' := 175) nd_L_law_174 rfl (s_in (j := 3) (by decide) hc (by decide) hL) ?_
        refine aw_callV (pc' := 178) (as := [_, _, _]) (st := [_]) nd_L_law_175 rfl nC_6_35 ⟨(Nat.le_of_ble_eq_true rfl), rfl, rfl⟩ ns_ioM (Nat.le_of_ble_eq_true rfl) (Nat.le_of_ble_eq_true rfl) (Nat.le_of_ble_eq_true rfl) ?_
        refine ax_M.mono _ _ _ _ _ _ (fun v h q => ?_) hm
        obtain ⟨rfl, μ2, rfl, hI2⟩ := q
        replace hI := hI2
        show nW _ _ _ _ _ 178 _ [_, _] _ _ _
        refine aw_icmp_eq (pc' := 181) (tg := 332) nd_L_law_178 (by decide) rfl (fun _ => ?_) (fun hx => absurd rfl hx)
        refine aw_iinc (pc' := 335) (ls' := [_, _, _, _]) nd_L_law_332 rfl rfl (nI_p4 i) rfl ?_
        refine aw_goto (pc' := 28) nd_L_law_335 (by decide) ?_
        exact ih (i + 4) (by omega) (by omega) (by omega) _ hI
      by_cases hs3 : q = 3
      · subst hs3
        refine aw_tabIn (tg := 183) (off := 141) nd_L_law_42 (by decide) (by decide) (by decide) ?_
        refine aw_aload_n (pc' := 184) nd_L_law_183 rfl rfl rfl ?_
        refine aw_aload_n (pc' := 185) nd_L_law_184 rfl rfl rfl ?_
        refine aw_iload_n (pc' := 186) nd_L_law_185 rfl rfl ?_
        refine aw_iconst (pc' := 187) (x := 1) nd_L_law_186 rfl (by decide) ?_
        refine aw_iadd (pc' := 188) nd_L_law_187 rfl ?_
        refine aw_sld (pc' := 189) nd_L_law_188 rfl (s_in (j := 1) (by decide) hc (by decide) hL) ?_
        refine aw_callV (pc' := 192) (as := [_]) (st := []) nd_L_law_189 rfl nC_6_36 ⟨(Nat.le_of_ble_eq_true rfl), rfl, rfl⟩ ns_ioN (Nat.le_of_ble_eq_true rfl) (Nat.le_of_ble_eq_true rfl) (Nat.le_of_ble_eq_true rfl) ?_
        refine ax_M.mono _ _ _ _ _ _ (fun v h q => ?_) (ops.2.2.2.1 _ μ hI)
        obtain ⟨r, μ1, rfl, rfl, hm⟩ := q
        show nW _ _ _ _ _ 192 _ [_] _ _ _
        refine aw_aload_n (pc' := 193) nd_L_law_192 rfl rfl rfl ?_
        refine aw_aload_n (pc' := 194) nd_L_law_193 rfl rfl rfl ?_
        refine aw_iload_n (pc' := 195) nd_L_law_194 rfl rfl ?_
        refine aw_iconst (pc' := 196) (x := 1) nd_L_law_195 rfl (by decide) ?_
        refine aw_iadd (pc' := 197) nd_L_law_196 rfl ?_
        refine aw_sld (pc' := 198) nd_L_law_197 rfl (s_in (j := 1) (by decide) hc (by decide) hL) ?_
        refine aw_callV (pc' := 201) (as := [_]) (st := [_]) nd_L_law_198 rfl nC_6_40 ⟨(Nat.le_of_ble_eq_true rfl), rfl, rfl⟩ ns_ioM (Nat.le_of_ble_eq_true rfl) (Nat.le_of_ble_eq_true rfl) (Nat.le_of_ble_eq_true rfl) ?_
        refine ax_M.mono _ _ _ _ _ _ (fun v h q => ?_) hm
        obtain ⟨rfl, μ2, rfl, hI2⟩ := q
        replace hI := hI2
        show nW _ _ _ _ _ 201 _ [_, _] _ _ _
        refine aw_lcmp (pc' := 202) nd_L_law_201 rfl ?_
        refine aw_if_eq (pc' := 205) (tg := 332) nd_L_law_202 (by decide) rfl (fun _ => ?_) (fun hx => absurd (by simp [lg_cmp]) hx)
        refine aw_iinc (pc' := 335) (ls' := [_, _, _, _]) nd_L_law_332 rfl rfl (nI_p4 i) rfl ?_
        refine aw_goto (pc' := 28) nd_L_law_335 (by decide) ?_
        exact ih (i + 4) (by omega) (by omega) (by omega) _ hI
      by_cases hs4 : q = 4
      · subst hs4
        refine aw_tabIn (tg := 207) (off := 165) nd_L_law_42 (by decide) (by decide) (by decide) ?_
        refine aw_aload_n (pc' := 208) nd_L_law_207 rfl rfl rfl ?_
        refine aw_callV (pc' := 211) (as := []) (st := []) nd_L_law_208 rfl nC_6_41 ⟨(Nat.le_of_ble_eq_true rfl), rfl, rfl⟩ ns_ioN (Nat.le_of_ble_eq_true rfl) (Nat.le_of_ble_eq_true rfl) (Nat.le_of_ble_eq_true rfl) ?_
        refine ax_M.mono _ _ _ _ _ _ (fun v h q => ?_) (ops.2.2.2.2.1 μ hI)
        obtain ⟨r, μ1, rfl, rfl, hm⟩ := q
        show nW _ _ _ _ _ 211 _ [_] _ _ _
        refine aw_aload_n (pc' := 212) nd_L_law_211 rfl rfl rfl ?_
        refine aw_callV (pc' := 215) (as := []) (st := [_]) nd_L_law_212 rfl nC_6_45 ⟨(Nat.le_of_ble_eq_true rfl), rfl, rfl⟩ ns_ioM (Nat.le_of_ble_eq_true rfl) (Nat.le_of_ble_eq_true rfl) (Nat.le_of_ble_eq_true rfl) ?_
        refine ax_M.mono _ _ _ _ _ _ (fun v h q => ?_) hm
        obtain ⟨rfl, μ2, rfl, hI2⟩ := q
        replace hI := hI2
        show nW _ _ _ _ _ 215 _ [_, _] _ _ _
        refine aw_icmp_eq (pc' := 218) (tg := 332) nd_L_law_215 (by decide) rfl (fun _ => ?_) (fun hx => absurd rfl hx)
        refine aw_iinc (pc' := 335) (ls' := [_, _, _, _]) nd_L_law_332 rfl rfl (nI_p4 i) rfl ?_
        refine aw_goto (pc' := 28) nd_L_law_335 (by decide) ?_
        exact ih (i + 4) (by omega) (by omega) (by omega) _ hI
      by_cases hs5 : q = 5
      · subst hs5
        refine aw_tabIn (tg := 220) (off := 178) nd_L_law_42 (by decide) (by decide) (by decide) ?_
        refine aw_aload_n (pc' := 221) nd_L_law_220 rfl rfl rfl ?_
        refine aw_aload_n (pc' := 222) nd_L_law_221 rfl rfl rfl ?_
        refine aw_iload_n (pc' := 223) nd_L_law_222 rfl rfl ?_
        refine aw_iconst (pc' := 224) (x := 1) nd_L_law_223 rfl (by decide) ?_
        refine aw_iadd (pc' := 225) nd_L_law_224 rfl ?_
        refine aw_sld (pc' := 226) nd_L_law_225 rfl (s_in (j := 1) (by decide) hc (by decide) hL) ?_
        refine aw_callV (pc' := 229) (as := [_]) (st := []) nd_L_law_226 rfl nC_6_46 ⟨(Nat.le_of_ble_eq_true rfl), rfl, rfl⟩ ns_ioN (Nat.le_of_ble_eq_true rfl) (Nat.le_of_ble_eq_true rfl) (Nat.le_of_ble_eq_true rfl) ?_
        refine ax_M.mono _ _ _ _ _ _ (fun v h q => ?_) (ops.2.2.2.2.2.1 _ μ hI)
        obtain ⟨r, μ1, rfl, rfl, hm⟩ := q
        show nW _ _ _ _ _ 229 _ [_] _ _ _
        refine aw_aload_n (pc' := 230) nd_L_law_229 rfl rfl rfl ?_
        refine aw_aload_n (pc' := 231) nd_L_law_230 rfl rfl rfl ?_
        refine aw_iload_n (pc' := 232) nd_L_law_231 rfl rfl ?_
        refine aw_iconst (pc' := 233) (x := 1) nd_L_law_232 rfl (by decide) ?_
        refine aw_iadd (pc' := 234) nd_L_law_233 rfl ?_
        refine aw_sld (pc' := 235) nd_L_law_234 rfl (s_in (j := 1) (by decide) hc (by decide) hL) ?_
        refine aw_callV (pc' := 238) (as := [_]) (st := [_]) nd_L_law_235 rfl nC_6_49 ⟨(Nat.le_of_ble_eq_true rfl), rfl, rfl⟩ ns_ioM (Nat.le_of_ble_eq_true rfl) (Nat.le_of_ble_eq_true rfl) (Nat.le_of_ble_eq_true rfl) ?_
        refine ax_M.mono _ _ _ _ _ _ (fun v h q => ?_) hm
        obtain ⟨rfl, μ2, rfl, hI2⟩ := q
        replace hI := hI2
        show nW _ _ _ _ _ 238 _ [_, _] _ _ _
        refine aw_icmp_eq (pc' := 241) (tg := 332) nd_L_law_238 (by decide) rfl (fun _ => ?_) (fun hx => absurd rfl hx)
        refine aw_iinc (pc' := 335) (ls' := [_, _, _, _]) nd_L_law_332 rfl rfl (nI_p4 i) rfl ?_
        refine aw_goto (pc' := 28) nd_L_law_335 (by decide) ?_
        exact ih (i + 4) (by omega) (by omega) (by omega) _ hI
      by_cases hs6 : q = 6
      · subst hs6
        refine aw_tabIn (tg := 243) (off := 201) nd_L_law_42 (by decide) (by decide) (by decide) ?_
        refine aw_aload_n (pc' := 244) nd_L_law_243 rfl rfl rfl ?_
        refine aw_aload_n (pc' := 245) nd_L_law_244 rfl rfl rfl ?_
        refine aw_iload_n (pc' := 246) nd_L_law_245 rfl rfl ?_
        refine aw_iconst (pc' := 247) (x := 1) nd_L_law_246 rfl (by decide) ?_
        refine aw_iadd (pc' := 248) nd_L_law_247 rfl ?_
        refine aw_sld (pc' := 249) nd_L_law_248 rfl (s_in (j := 1) (by decide) hc (by decide) hL) ?_
        refine aw_aload_n (pc' := 250) nd_L_law_249 rfl rfl rfl ?_
        refine aw_iload_n (pc' := 251) nd_L_law_250 rfl rfl ?_
        refine aw_iconst (pc' := 252) (x := 2) nd_L_law_251 rfl (by decide) ?_
        refine aw_iadd (pc' := 253) nd_L_law_252 rfl ?_
        refine aw_sld (pc' := 254) nd_L_law_253 rfl (s_in (j := 2) (by decide) hc (by decide) hL) ?_
        refine aw_callV (pc' := 257) (as := [_, _]) (st := []) nd_L_law_254 rfl nC_6_50 ⟨(Nat.le_of_ble_eq_true rfl), rfl, rfl⟩ ns_ioN (Nat.le_of_ble_eq_true rfl) (Nat.le_of_ble_eq_true rfl) (Nat.le_of_ble_eq_true rfl) ?_
        refine ax_M.mono _ _ _ _ _ _ (fun v h q => ?_) (ops.2.2.2.2.2.2.1 _ _ μ hI)
        obtain ⟨r, μ1, rfl, rfl, hm⟩ := q
        show nW _ _ _ _ _ 257 _ [_] _ _ _
        refine aw_aload_n (pc' := 258) nd_L_law_257 rfl rfl rfl ?_
        refine aw_aload_n (pc' := 259) nd_L_law_258 rfl rfl rfl ?_
        refine aw_iload_n (pc' := 260) nd_L_law_259 rfl rfl ?_
        refine aw_iconst (pc' := 261) (x := 1) nd_L_law_260 rfl (by decide) ?_
        refine aw_iadd (pc' := 262) nd_L_law_261 rfl ?_
        refine aw_sld (pc' := 263) nd_L_law_262 rfl (s_in (j := 1) (by decide) hc (by decide) hL) ?_
        refine aw_aload_n (pc' := 264) nd_L_law_263 rfl rfl rfl ?_
        refine aw_iload_n (pc' := 265) nd_L_law_264 rfl rfl ?_
        refine aw_iconst (pc' := 266) (x := 2) nd_L_law_265 rfl (by decide) ?_
        refine aw_iadd (pc' := 267) nd_L_law_266 rfl ?_
        refine aw_sld (pc' := 268) nd_L_law_267 rfl (s_in (j := 2) (by decide) hc (by decide) hL) ?_
        refine aw_callV (pc' := 271) (as := [_, _]) (st := [_]) nd_L_law_268 rfl nC_6_54 ⟨(Nat.le_of_ble_eq_true rfl), rfl, rfl⟩ ns_ioM (Nat.le_of_ble_eq_true rfl) (Nat.le_of_ble_eq_true rfl) (Nat.le_of_ble_eq_true rfl) ?_
        refine ax_M.mono _ _ _ _ _ _ (fun v h q => ?_) hm
        obtain ⟨rfl, μ2, rfl, hI2⟩ := q
        replace hI := hI2
        show nW _ _ _ _ _ 271 _ [_, _] _ _ _
        refine aw_icmp_eq (pc' := 274) (tg := 332) nd_L_law_271 (by decide) rfl (fun _ => ?_) (fun hx => absurd rfl hx)
        refine aw_iinc (pc' := 335) (ls' := [_, _, _, _]) nd_L_law_332 rfl rfl (nI_p4 i) rfl ?_
        refine aw_goto (pc' := 28) nd_L_law_335 (by decide) ?_
        exact ih (i + 4) (by omega) (by omega) (by omega) _ hI
      by_cases hs7 : q = 7
      · subst hs7
        refine aw_tabIn (tg := 276) (off := 234) nd_L_law_42 (by decide) (by decide) (by decide) ?_
        refine aw_aload_n (pc' := 277) nd_L_law_276 rfl rfl rfl ?_
        refine aw_aload_n (pc' := 278) nd_L_law_277 rfl rfl rfl ?_
        refine aw_iload_n (pc' := 279) nd_L_law_278 rfl rfl ?_
        refine aw_iconst (pc' := 280) (x := 1) nd_L_law_279 rfl (by decide) ?_
        refine aw_iadd (pc' := 281) nd_L_law_280 rfl ?_
        refine aw_sld (pc' := 282) nd_L_law_281 rfl (s_in (j := 1) (by decide) hc (by decide) hL) ?_
        refine aw_aload_n (pc' := 283) nd_L_law_282 rfl rfl rfl ?_
        refine aw_iload_n (pc' := 284) nd_L_law_283 rfl rfl ?_
        refine aw_iconst (pc' := 285) (x := 2) nd_L_law_284 rfl (by decide) ?_
        refine aw_iadd (pc' := 286) nd_L_law_285 rfl ?_
        refine aw_sld (pc' := 287) nd_L_law_286 rfl (s_in (j := 2) (by decide) hc (by decide) hL) ?_
        refine aw_callV (pc' := 290) (as := [_, _]) (st := []) nd_L_law_287 rfl nC_6_55 ⟨(Nat.le_of_ble_eq_true rfl), rfl, rfl⟩ ns_ioN (Nat.le_of_ble_eq_true rfl) (Nat.le_of_ble_eq_true rfl) (Nat.le_of_ble_eq_true rfl) ?_
        refine ax_M.mono _ _ _ _ _ _ (fun v h q => ?_) (ops.2.2.2.2.2.2.2.1 _ _ μ hI)
        obtain ⟨r, μ1, rfl, rfl, hm⟩ := q
        show nW _ _ _ _ _ 290 _ [_] _ _ _
        refine aw_aload_n (pc' := 291) nd_L_law_290 rfl rfl rfl ?_
        refine aw_aload_n (pc' := 292) nd_L_law_291 rfl rfl rfl ?_
        refine aw_iload_n (pc' := 293) nd_L_law_292 rfl rfl ?_
        refine aw_iconst (pc' := 294) (x := 1) nd_L_law_293 rfl (by decide) ?_
        refine aw_iadd (pc' := 295) nd_L_law_294 rfl ?_
        refine aw_sld (pc' := 296) nd_L_law_295 rfl (s_in (j := 1) (by decide) hc (by decide) hL) ?_
        refine aw_aload_n (pc' := 297) nd_L_law_296 rfl rfl rfl ?_
        refine aw_iload_n (pc' := 298) nd_L_law_297 rfl rfl ?_
        refine aw_iconst (pc' := 299) (x := 2) nd_L_law_298 rfl (by decide) ?_
        refine aw_iadd (pc' := 300) nd_L_law_299 rfl ?_
        refine aw_sld (pc' := 301) nd_L_law_300 rfl (s_in (j := 2) (by decide) hc (by decide) hL) ?_
        refine aw_callV (pc' := 304) (as := [_, _]) (st := [_]) nd_L_law_301 rfl nC_6_58 ⟨(Nat.le_of_ble_eq_true rfl), rfl, rfl⟩ ns_ioM (Nat.le_of_ble_eq_true rfl) (Nat.le_of_ble_eq_true rfl) (Nat.le_of_ble_eq_true rfl) ?_
        refine ax_M.mono _ _ _ _ _ _ (fun v h q => ?_) hm
        obtain ⟨rfl, μ2, rfl, hI2⟩ := q
        replace hI := hI2
        show nW _ _ _ _ _ 304 _ [_, _] _ _ _
        refine aw_icmp_eq (pc' := 307) (tg := 332) nd_L_law_304 (by decide) rfl (fun _ => ?_) (fun hx => absurd rfl hx)
        refine aw_iinc (pc' := 335) (ls' := [_, _, _, _]) nd_L_law_332 rfl rfl (nI_p4 i) rfl ?_
        refine aw_goto (pc' := 28) nd_L_law_335 (by decide) ?_
        exact ih (i + 4) (by omega) (by omega) (by omega) _ hI
      by_cases hs8 : q = 8
      · subst hs8
        refine aw_tabIn (tg := 309) (off := 267) nd_L_law_42 (by decide) (by decide) (by decide) ?_
        refine aw_aload_n (pc' := 310) nd_L_law_309 rfl rfl rfl ?_
        refine aw_aload_n (pc' := 311) nd_L_law_310 rfl rfl rfl ?_
        refine aw_iload_n (pc' := 312) nd_L_law_311 rfl rfl ?_
        refine aw_iconst (pc' := 313) (x := 1) nd_L_law_312 rfl (by decide) ?_
        refine aw_iadd (pc' := 314) nd_L_law_313 rfl ?_
        refine aw_sld (pc' := 315) nd_L_law_314 rfl (s_in (j := 1) (by decide) hc (by decide) hL) ?_
        refine aw_callV (pc' := 318) (as := [_]) (st := []) nd_L_law_315 rfl nC_6_59 ⟨(Nat.le_of_ble_eq_true rfl), rfl, rfl⟩ ns_ioN (Nat.le_of_ble_eq_true rfl) (Nat.le_of_ble_eq_true rfl) (Nat.le_of_ble_eq_true rfl) ?_
        refine ax_M.mono _ _ _ _ _ _ (fun v h q => ?_) (ops.2.2.2.2.2.2.2.2 _ μ hI)
        obtain ⟨r, μ1, rfl, rfl, hm⟩ := q
        show nW _ _ _ _ _ 318 _ [_] _ _ _
        refine aw_aload_n (pc' := 319) nd_L_law_318 rfl rfl rfl ?_
        refine aw_aload_n (pc' := 320) nd_L_law_319 rfl rfl rfl ?_
        refine aw_iload_n (pc' := 321) nd_L_law_320 rfl rfl ?_
        refine aw_iconst (pc' := 322) (x := 1) nd_L_law_321 rfl (by decide) ?_
        refine aw_iadd (pc' := 323) nd_L_law_322 rfl ?_
        refine aw_sld (pc' := 324) nd_L_law_323 rfl (s_in (j := 1) (by decide) hc (by decide) hL) ?_
        refine aw_callV (pc' := 327) (as := [_]) (st := [_]) nd_L_law_324 rfl nC_6_62 ⟨(Nat.le_of_ble_eq_true rfl), rfl, rfl⟩ ns_ioM (Nat.le_of_ble_eq_true rfl) (Nat.le_of_ble_eq_true rfl) (Nat.le_of_ble_eq_true rfl) ?_
        refine ax_M.mono _ _ _ _ _ _ (fun v h q => ?_) hm
        obtain ⟨rfl, μ2, rfl, hI2⟩ := q
        replace hI := hI2
        show nW _ _ _ _ _ 327 _ [_, _] _ _ _
        refine aw_icmp_eq (pc' := 330) (tg := 332) nd_L_law_327 (by decide) rfl (fun _ => ?_) (fun hx => absurd rfl hx)
        refine aw_iinc (pc' := 335) (ls' := [_, _, _, _]) nd_L_law_332 rfl rfl (nI_p4 i) rfl ?_
        refine aw_goto (pc' := 28) nd_L_law_335 (by decide) ?_
        exact ih (i + 4) (by omega) (by omega) (by omega) _ hI
      have hout : (q : Int32).toInt < 0 ∨ 8 < (q : Int32).toInt := by
        have m0 : ¬ (q : Int32).toInt = 0 := fun z => hs0 (Int32.toInt_inj.mp (by rw [z]; decide))
        have m1 : ¬ (q : Int32).toInt = 1 := fun z => hs1 (Int32.toInt_inj.mp (by rw [z]; decide))
        have m2 : ¬ (q : Int32).toInt = 2 := fun z => hs2 (Int32.toInt_inj.mp (by rw [z]; decide))
        have m3 : ¬ (q : Int32).toInt = 3 := fun z => hs3 (Int32.toInt_inj.mp (by rw [z]; decide))
        have m4 : ¬ (q : Int32).toInt = 4 := fun z => hs4 (Int32.toInt_inj.mp (by rw [z]; decide))
        have m5 : ¬ (q : Int32).toInt = 5 := fun z => hs5 (Int32.toInt_inj.mp (by rw [z]; decide))
        have m6 : ¬ (q : Int32).toInt = 6 := fun z => hs6 (Int32.toInt_inj.mp (by rw [z]; decide))
        have m7 : ¬ (q : Int32).toInt = 7 := fun z => hs7 (Int32.toInt_inj.mp (by rw [z]; decide))
        have m8 : ¬ (q : Int32).toInt = 8 := fun z => hs8 (Int32.toInt_inj.mp (by rw [z]; decide))
        omega
      refine aw_tabOut (tg := 332) nd_L_law_42 hout (by decide) ?_
      refine aw_iinc (pc' := 335) (ls' := [_, _, _, _]) nd_L_law_332 rfl rfl (nI_p4 i) rfl ?_
      refine aw_goto (pc' := 28) nd_L_law_335 (by decide) ?_
      exact ih (i + 4) (by omega) (by omega) (by omega) _ hI
    · skip
      refine aw_iload_n (pc' := 29) nd_L_law_28 rfl rfl ?_
      refine aw_aload_n (pc' := 30) nd_L_law_29 rfl rfl rfl ?_
      refine aw_slen (pc' := 31) nd_L_law_30 rfl ?_
      refine aw_iconst (pc' := 32) (x := 4) nd_L_law_31 rfl (by decide) ?_
      refine aw_isub (pc' := 33) nd_L_law_32 rfl ?_
      refine aw_icmp_gt (pc' := 36) (tg := 338) nd_L_law_33 (by decide) rfl (fun _ => ?_) (fun hx => absurd ((s_gt hL h3).mpr (by omega)) hx)
      refine aw_iconst (pc' := 339) (x := 1) nd_L_law_338 rfl (by decide) ?_
      refine aw_ireturn nd_L_law_339 rfl (by first | rfl | assumption) (Nat.le_of_ble_eq_true rfl) (Nat.le_of_ble_eq_true rfl) ?_
      rfl
theorem ns_law {INV : nMem → Prop} (e : Nat) (h0 : ∀ kp, INV (mu0 kp)) (ops : ∀ L xs, lwO L xs (e + 3) INV) : ∀ (L : Nat) (xs : Nat → Int32), L ≤ 2049 → nW L xs (e + 3) ns_I_L_law (fun v _ => v = some (.int 1)) 0 (ax_en 4 [.retAddr 0]) [] 0 0 (0, fun _ => none) := by
  intro L xs hL
  show nW L xs (e + 3) ns_I_L_law _ 0 [some (.retAddr 0), none, none, none] [] 0 0 _
  rw [hP_start (mu0 (lwK L xs))]
  refine hw_new (N := 0) (pc' := 3) nd_L_law_0 rfl nN_6_7 (Nat.le_of_ble_eq_true rfl) (Nat.le_of_ble_eq_true rfl) ?_
  refine aw_dup (pc' := 4) nd_L_law_3 rfl rfl ?_
  refine aw_aload_n (pc' := 5) nd_L_law_4 rfl rfl rfl ?_
  refine aw_iconst (pc' := 6) (x := 0) nd_L_law_5 rfl (by decide) ?_
  refine aw_callS (a := 0) (pc' := 9) (as := [_, _]) (st := [_, _]) nd_L_law_6 rfl nC_6_9 ⟨(Nat.le_of_ble_eq_true rfl), rfl, rfl⟩ (Nat.le_of_ble_eq_true rfl) (Nat.le_of_ble_eq_true rfl) (Nat.le_of_ble_eq_true rfl) ?_
  refine c_L_cell hL ?_
  show nW _ _ _ _ _ 9 _ [_, _, _] _ _ _
  refine aw_callI (pc' := 12) (as := [_]) (st := [_]) nd_L_law_9 rfl nC_6_15 ⟨(Nat.le_of_ble_eq_true rfl), rfl, rfl⟩ (Nat.le_of_ble_eq_true rfl) (Nat.le_of_ble_eq_true rfl) (Nat.le_of_ble_eq_true rfl) ?_
  refine c_N_init (fun b h1 h2 => mu0_z _ b h1 (by omega)) (fun b => rfl) rfl rfl rfl ?_
  show nW _ _ _ _ _ 12 _ [_] _ _ _
  refine aw_astore_n (pc' := 13) (ls' := [_, _, _, _]) nd_L_law_12 rfl rfl (Nat.le_of_ble_eq_true rfl) rfl ?_
  rw [← hP_end]
  refine hw_new (N := 104) (pc' := 16) nd_L_law_13 rfl nN_6_18 (Nat.le_of_ble_eq_true rfl) (Nat.le_of_ble_eq_true rfl) ?_
  refine aw_dup (pc' := 17) nd_L_law_16 rfl rfl ?_
  refine aw_aload_n (pc' := 18) nd_L_law_17 rfl rfl rfl ?_
  refine aw_iconst (pc' := 19) (x := 0) nd_L_law_18 rfl (by decide) ?_
  refine aw_callS (a := 0) (pc' := 22) (as := [_, _]) (st := [_, _]) nd_L_law_19 rfl nC_6_9 ⟨(Nat.le_of_ble_eq_true rfl), rfl, rfl⟩ (Nat.le_of_ble_eq_true rfl) (Nat.le_of_ble_eq_true rfl) (Nat.le_of_ble_eq_true rfl) ?_
  refine c_L_cell hL ?_
  show nW _ _ _ _ _ 22 _ [_, _, _] _ _ _
  refine aw_callI (pc' := 25) (as := [_]) (st := [_]) nd_L_law_22 rfl nC_6_20 ⟨(Nat.le_of_ble_eq_true rfl), rfl, rfl⟩ (Nat.le_of_ble_eq_true rfl) (Nat.le_of_ble_eq_true rfl) (Nat.le_of_ble_eq_true rfl) ?_
  refine c_M_init (fun b h1 => mu0_z _ b (by omega) (by omega)) (fun b => rfl) rfl rfl rfl rfl rfl rfl rfl ?_
  show nW _ _ _ _ _ 25 _ [_] _ _ _
  refine aw_astore_n (pc' := 26) (ls' := [_, _, _, _]) nd_L_law_25 rfl rfl (Nat.le_of_ble_eq_true rfl) rfl ?_
  refine aw_iconst (pc' := 27) (x := 1) nd_L_law_26 rfl (by decide) ?_
  refine aw_istore_n (pc' := 28) (ls' := [_, _, _, _]) nd_L_law_27 rfl (Nat.le_of_ble_eq_true rfl) rfl ?_
  exact l_law hL (ops L xs) 600 1 (by omega) (by omega) (by omega) _ (h0 _)
