/-! the model's define -/
theorem nzb (b : Bool) : vp_nar .boolean (bi b) = bi b := by
  cases b
  · exact nz0
  · exact nz1
def bnd (a b : Int32) : Bool := if a = 0 then false else if b = 0 then false else true
def smB (μ : nMem) (k : Nat) (b : Bool) : Nat → Bool
  | 0 => b
  | i + 1 => if smB μ k b i = true then (if μ.1 108 (30 * k + i) = μ.1 105 i then true else false) else false
def tcM (m : nMem) (k : Nat) : Nat → nMem
  | 0 => m
  | i + 1 => ms (tcM m k i) 108 (30 * k + i) (m.1 105 i)
def scM (m : nMem) (k : Nat) : Nat → nMem
  | 0 => m
  | i + 1 => ms (ms (scM m k i) 111 (40 * k + i) (m.1 139 i)) 112 (40 * k + i) (m.1 140 i)
theorem tcM_o {m : nMem} {k b : Nat} (h : ¬ b = 108) : ∀ i, (tcM m k i).1 b = m.1 b := by
  intro i
  induction i with
  | zero => rfl
  | succ i ih => rw [tcM, ms_o h, ih]
theorem scM_o {m : nMem} {k b : Nat} (h1 : ¬ b = 111) (h2 : ¬ b = 112) : ∀ i, (scM m k i).1 b = m.1 b := by
  intro i
  induction i with
  | zero => rfl
  | succ i ih => rw [scM, ms_o h2, ms_o h1, ih]
/-- the fields of a formula newly made -/
def dfB (m : nMem) (k n : Nat) : nMem := ms (ms (ms (ms m 107 k 1) 109 k (nI n)) 110 k (m.1 104 40)) 113 k (m.1 104 3)
def dfN (m : nMem) (k : Nat) : nMem := ms (ms m 117 k (bi (bnd (m.1 117 k) (m.1 107 k)))) 118 k (bi (bnd (m.1 118 k) (m.1 107 k)))
def dfM (m : nMem) (k n mk o : Nat) : nMem := scM (tcM (dfB (dfN (srmv m o) k) k n) k n) k mk

theorem l_M_def266 {L : Nat} {xs : Nat → Int32} {d : Nat} {Q : ax_Q} {m : nMem} {k n mk : Nat} {w2 : Option Value} {y4 : Int32} (hk : k < 12) (hmk : m.1 104 40 = nI mk) (hm40 : mk ≤ 40) (hq : Q (some (.int 0)) (ns_rep (scM m k mk))) : ∀ z i, z + i = mk → nW L xs d ns_I_M_define Q 266 [some (.ref 104), some (.int (nI k)), w2, some (.int (nI n)), some (.int y4), some (.int (nI i))] [] 0 0 (ns_rep (scM m k i)) := by
  intro z
  induction z with
  | zero =>
    intro i hi
    obtain rfl : i = mk := by omega
    refine aw_iload (pc' := 268) nd_M_define_266 rfl rfl ?_
    refine aw_aload_n (pc' := 269) nd_M_define_268 rfl rfl rfl ?_
    refine aw_get (pc' := 272) nd_M_define_269 rfl nF_5_137 g_M_made ?_
    rw [scM_o (by decide) (by decide), hmk]
    refine aw_icmp_ge (pc' := 275) (tg := 319) nd_M_define_272 (by decide) rfl (fun _ => ?_) (fun hx => absurd (nI_le (Nat.le_refl _) (by omega)) hx)
    refine aw_iconst (pc' := 320) (x := 0) nd_M_define_319 rfl (by decide) ?_
    refine aw_ireturn nd_M_define_320 rfl rfl (Nat.le_of_ble_eq_true rfl) (Nat.le_of_ble_eq_true rfl) ?_
    exact hq
  | succ z ih =>
    intro i hi
    have hin : i < mk := by omega
    refine aw_iload (pc' := 268) nd_M_define_266 rfl rfl ?_
    refine aw_aload_n (pc' := 269) nd_M_define_268 rfl rfl rfl ?_
    refine aw_get (pc' := 272) nd_M_define_269 rfl nF_5_137 g_M_made ?_
    rw [scM_o (by decide) (by decide), hmk]
    refine aw_icmp_ge (pc' := 275) (tg := 319) nd_M_define_272 (by decide) rfl (fun hx => absurd hx (nI_ge hin (by omega))) (fun _ => ?_)
    refine aw_aload_n (pc' := 276) nd_M_define_275 rfl rfl rfl ?_
    refine aw_get (pc' := 279) nd_M_define_276 rfl nF_5_33 g_M_step ?_
    refine aw_bipush (pc' := 281) (x := 40) nd_M_define_279 rfl (by decide) ?_
    refine aw_iload_n (pc' := 282) nd_M_define_281 rfl rfl ?_
    refine aw_imul (pc' := 283) nd_M_define_282 rfl ?_
    refine aw_iload (pc' := 285) nd_M_define_283 rfl rfl ?_
    refine aw_iadd (pc' := 286) nd_M_define_285 rfl ?_
    refine aw_aload_n (pc' := 287) nd_M_define_286 rfl rfl rfl ?_
    refine aw_get (pc' := 290) nd_M_define_287 rfl nF_5_118 g_M_newStep ?_
    refine aw_iload (pc' := 292) nd_M_define_290 rfl rfl ?_
    refine aw_iald (pc' := 293) nd_M_define_292 rfl ga_MnewStep i rfl (by omega) ?_
    rw [scM_o (by decide) (by decide)]
    refine aw_iast (pc' := 294) nd_M_define_293 rfl rfl (40 * k + i) (nI_lin (c := 40) (by decide)) (by omega) pa_Mstep ?_
    refine aw_aload_n (pc' := 295) nd_M_define_294 rfl rfl rfl ?_
    refine aw_get (pc' := 298) nd_M_define_295 rfl nF_5_36 g_M_with ?_
    refine aw_bipush (pc' := 300) (x := 40) nd_M_define_298 rfl (by decide) ?_
    refine aw_iload_n (pc' := 301) nd_M_define_300 rfl rfl ?_
    refine aw_imul (pc' := 302) nd_M_define_301 rfl ?_
    refine aw_iload (pc' := 304) nd_M_define_302 rfl rfl ?_
    refine aw_iadd (pc' := 305) nd_M_define_304 rfl ?_
    refine aw_aload_n (pc' := 306) nd_M_define_305 rfl rfl rfl ?_
    refine aw_get (pc' := 309) nd_M_define_306 rfl nF_5_121 g_M_newWith ?_
    refine aw_iload (pc' := 311) nd_M_define_309 rfl rfl ?_
    refine aw_iald (pc' := 312) nd_M_define_311 rfl ga_MnewWith i rfl (by omega) ?_
    rw [ms_o (by decide), scM_o (by decide) (by decide)]
    refine aw_iast (pc' := 313) nd_M_define_312 rfl rfl (40 * k + i) (nI_lin (c := 40) (by decide)) (by omega) pa_Mwith ?_
    refine aw_iinc (pc' := 316) (ls' := [_, _, _, _, _, _]) nd_M_define_313 rfl rfl (nI_1 i) rfl ?_
    refine aw_goto (pc' := 266) nd_M_define_316 (by decide) ?_
    exact ih (i + 1) (by omega)

theorem l_M_def232 {L : Nat} {xs : Nat → Int32} {d : Nat} {Q : ax_Q} {m : nMem} {k n : Nat} {w2 : Option Value} {y4 : Int32} (hk : k < 12) (hn30 : n ≤ 30) (kk : ∀ w, nW L xs d ns_I_M_define Q 263 [some (.ref 104), some (.int (nI k)), w2, some (.int (nI n)), some (.int y4), w] [] 0 0 (ns_rep (tcM m k n))) : ∀ z i, z + i = n → nW L xs d ns_I_M_define Q 232 [some (.ref 104), some (.int (nI k)), w2, some (.int (nI n)), some (.int y4), some (.int (nI i))] [] 0 0 (ns_rep (tcM m k i)) := by
  intro z
  induction z with
  | zero =>
    intro i hi
    obtain rfl : i = n := by omega
    refine aw_iload (pc' := 234) nd_M_define_232 rfl rfl ?_
    refine aw_iload_n (pc' := 235) nd_M_define_234 rfl rfl ?_
    refine aw_icmp_ge (pc' := 238) (tg := 263) nd_M_define_235 (by decide) rfl (fun _ => ?_) (fun hx => absurd (nI_le (Nat.le_refl _) (by omega)) hx)
    exact kk _
  | succ z ih =>
    intro i hi
    have hin : i < n := by omega
    refine aw_iload (pc' := 234) nd_M_define_232 rfl rfl ?_
    refine aw_iload_n (pc' := 235) nd_M_define_234 rfl rfl ?_
    refine aw_icmp_ge (pc' := 238) (tg := 263) nd_M_define_235 (by decide) rfl (fun hx => absurd hx (nI_ge hin (by omega))) (fun _ => ?_)
    refine aw_aload_n (pc' := 239) nd_M_define_238 rfl rfl rfl ?_
    refine aw_get (pc' := 242) nd_M_define_239 rfl nF_5_24 g_M_text ?_
    refine aw_bipush (pc' := 244) (x := 30) nd_M_define_242 rfl (by decide) ?_
    refine aw_iload_n (pc' := 245) nd_M_define_244 rfl rfl ?_
    refine aw_imul (pc' := 246) nd_M_define_245 rfl ?_
    refine aw_iload (pc' := 248) nd_M_define_246 rfl rfl ?_
    refine aw_iadd (pc' := 249) nd_M_define_248 rfl ?_
    refine aw_aload_n (pc' := 250) nd_M_define_249 rfl rfl rfl ?_
    refine aw_get (pc' := 253) nd_M_define_250 rfl nF_5_7 g_M_pad ?_
    refine aw_iload (pc' := 255) nd_M_define_253 rfl rfl ?_
    refine aw_iald (pc' := 256) nd_M_define_255 rfl ga_Mpad i rfl (by omega) ?_
    rw [tcM_o (by decide)]
    refine aw_iast (pc' := 257) nd_M_define_256 rfl rfl (30 * k + i) (nI_lin (c := 30) (by decide)) (by omega) pa_Mtext ?_
    refine aw_iinc (pc' := 260) (ls' := [_, _, _, _, _, _]) nd_M_define_257 rfl rfl (nI_1 i) rfl ?_
    refine aw_goto (pc' := 232) nd_M_define_260 (by decide) ?_
    exact ih (i + 1) (by omega)

theorem l_M_def195 {L : Nat} {xs : Nat → Int32} {d : Nat} {Q : ax_Q} {m : nMem} {k n mk : Nat} {w2 w5 : Option Value} {y4 : Int32} (hk : k < 12) (hn30 : n ≤ 30) (hmk : m.1 104 40 = nI mk) (hm40 : mk ≤ 40) (hq : Q (some (.int 0)) (ns_rep (scM (tcM (dfB m k n) k n) k mk))) : nW L xs d ns_I_M_define Q 195 [some (.ref 104), some (.int (nI k)), w2, some (.int (nI n)), some (.int y4), w5] [] 0 0 (ns_rep m) := by
  refine aw_aload_n (pc' := 196) nd_M_define_195 rfl rfl rfl ?_
  refine aw_get (pc' := 199) nd_M_define_196 rfl nF_5_20 g_M_formula ?_
  refine aw_iload_n (pc' := 200) nd_M_define_199 rfl rfl ?_
  refine aw_iconst (pc' := 201) (x := 1) nd_M_define_200 rfl (by decide) ?_
  refine aw_bast (pc' := 202) nd_M_define_201 rfl nz1 k rfl hk pa_Mformula ?_
  refine aw_aload_n (pc' := 203) nd_M_define_202 rfl rfl rfl ?_
  refine aw_get (pc' := 206) nd_M_define_203 rfl nF_5_27 g_M_size ?_
  refine aw_iload_n (pc' := 207) nd_M_define_206 rfl rfl ?_
  refine aw_iload_n (pc' := 208) nd_M_define_207 rfl rfl ?_
  refine aw_iast (pc' := 209) nd_M_define_208 rfl rfl k rfl hk pa_Msize ?_
  refine aw_aload_n (pc' := 210) nd_M_define_209 rfl rfl rfl ?_
  refine aw_get (pc' := 213) nd_M_define_210 rfl nF_5_30 g_M_steps ?_
  refine aw_iload_n (pc' := 214) nd_M_define_213 rfl rfl ?_
  refine aw_aload_n (pc' := 215) nd_M_define_214 rfl rfl rfl ?_
  refine aw_get (pc' := 218) nd_M_define_215 rfl nF_5_137 g_M_made ?_
  rw [ms_o (by decide), ms_o (by decide)]
  refine aw_iast (pc' := 219) nd_M_define_218 rfl rfl k rfl hk pa_Msteps ?_
  refine aw_aload_n (pc' := 220) nd_M_define_219 rfl rfl rfl ?_
  refine aw_get (pc' := 223) nd_M_define_220 rfl nF_5_39 g_M_altered ?_
  refine aw_iload_n (pc' := 224) nd_M_define_223 rfl rfl ?_
  refine aw_aload_n (pc' := 225) nd_M_define_224 rfl rfl rfl ?_
  refine aw_get (pc' := 228) nd_M_define_225 rfl nF_5_13 g_M_revision ?_
  rw [ms_o (by decide), ms_o (by decide), ms_o (by decide)]
  refine aw_iast (pc' := 229) nd_M_define_228 rfl rfl k rfl hk pa_Maltered ?_
  refine aw_iconst (pc' := 230) (x := 0) nd_M_define_229 rfl (by decide) ?_
  refine aw_istore (pc' := 232) (ls' := [_, _, _, _, _, _]) nd_M_define_230 rfl (Nat.le_of_ble_eq_true rfl) rfl ?_
  change nW _ _ _ _ _ 232 _ _ _ _ (ns_rep (dfB m k n))
  refine l_M_def232 hk hn30 (fun w => ?_) n 0 (by omega)
  refine aw_iconst (pc' := 264) (x := 0) nd_M_define_263 rfl (by decide) ?_
  refine aw_istore (pc' := 266) (ls' := [_, _, _, _, _, _]) nd_M_define_264 rfl (Nat.le_of_ble_eq_true rfl) rfl ?_
  exact l_M_def266 hk (by rw [tcM_o (by decide)]; unfold dfB; rw [ms_o (by decide), ms_o (by decide), ms_o (by decide), ms_o (by decide)]; exact hmk) hm40 hq mk 0 (by omega)

theorem l_M_def194 {L : Nat} {xs : Nat → Int32} {d : Nat} {Q : ax_Q} {m : nMem} {k n mk : Nat} {w2 w5 : Option Value} {y4 : Int32} (hk : k < 12) (hn30 : n ≤ 30) (hmk : m.1 104 40 = nI mk) (hm40 : mk ≤ 40) (b : Bool) (hq : Q (some (.int 0)) (ns_rep (scM (tcM (dfB (ms m 118 k (bi b)) k n) k n) k mk))) : nW L xs d ns_I_M_define Q 194 [some (.ref 104), some (.int (nI k)), w2, some (.int (nI n)), some (.int y4), w5] [.int (bi b), .int (nI k), .ref 118] 0 0 (ns_rep m) := by
  refine aw_bast (pc' := 195) nd_M_define_194 rfl (nzb b) k rfl hk pa_Mvalued ?_
  exact l_M_def195 hk hn30 (by rw [ms_o (by decide)]; exact hmk) hm40 hq

theorem l_M_def166 {L : Nat} {xs : Nat → Int32} {d : Nat} {Q : ax_Q} {m : nMem} {k n mk : Nat} {w2 w5 : Option Value} {y4 : Int32} (hk : k < 12) (hn30 : n ≤ 30) (hmk : m.1 104 40 = nI mk) (hm40 : mk ≤ 40) (hq : Q (some (.int 0)) (ns_rep (scM (tcM (dfB (ms m 118 k (bi (bnd (m.1 118 k) (m.1 107 k)))) k n) k n) k mk))) : nW L xs d ns_I_M_define Q 166 [some (.ref 104), some (.int (nI k)), w2, some (.int (nI n)), some (.int y4), w5] [] 0 0 (ns_rep m) := by
  unfold bnd at hq
  refine aw_aload_n (pc' := 167) nd_M_define_166 rfl rfl rfl ?_
  refine aw_get (pc' := 170) nd_M_define_167 rfl nF_5_54 g_M_valued ?_
  refine aw_iload_n (pc' := 171) nd_M_define_170 rfl rfl ?_
  refine aw_aload_n (pc' := 172) nd_M_define_171 rfl rfl rfl ?_
  refine aw_get (pc' := 175) nd_M_define_172 rfl nF_5_54 g_M_valued ?_
  refine aw_iload_n (pc' := 176) nd_M_define_175 rfl rfl ?_
  refine aw_bald (pc' := 177) nd_M_define_176 rfl ga_Mvalued k rfl hk ?_
  refine aw_if_eq (pc' := 180) (tg := 193) nd_M_define_177 (by decide) rfl (fun hb177 => ?_) (fun hb177 => ?_)
  · skip
    refine aw_iconst (pc' := 194) (x := 0) nd_M_define_193 rfl (by decide) ?_
    first
      | (rw [if_pos hb177] at hq; exact l_M_def194 hk hn30 hmk hm40 false hq)
      | (rw [if_neg hb177, if_pos hb186] at hq; exact l_M_def194 hk hn30 hmk hm40 false hq)
      | (rw [if_neg hb177, if_neg hb186] at hq; exact l_M_def194 hk hn30 hmk hm40 true hq)
  · skip
    refine aw_aload_n (pc' := 181) nd_M_define_180 rfl rfl rfl ?_
    refine aw_get (pc' := 184) nd_M_define_181 rfl nF_5_20 g_M_formula ?_
    refine aw_iload_n (pc' := 185) nd_M_define_184 rfl rfl ?_
    refine aw_bald (pc' := 186) nd_M_define_185 rfl ga_Mformula k rfl hk ?_
    refine aw_if_eq (pc' := 189) (tg := 193) nd_M_define_186 (by decide) rfl (fun hb186 => ?_) (fun hb186 => ?_)
    · skip
      refine aw_iconst (pc' := 194) (x := 0) nd_M_define_193 rfl (by decide) ?_
      first
        | (rw [if_pos hb177] at hq; exact l_M_def194 hk hn30 hmk hm40 false hq)
        | (rw [if_neg hb177, if_pos hb186] at hq; exact l_M_def194 hk hn30 hmk hm40 false hq)
        | (rw [if_neg hb177, if_neg hb186] at hq; exact l_M_def194 hk hn30 hmk hm40 true hq)
    · skip
      refine aw_iconst (pc' := 190) (x := 1) nd_M_define_189 rfl (by decide) ?_
      refine aw_goto (pc' := 194) nd_M_define_190 (by decide) ?_
      first
        | (rw [if_pos hb177] at hq; exact l_M_def194 hk hn30 hmk hm40 false hq)
        | (rw [if_neg hb177, if_pos hb186] at hq; exact l_M_def194 hk hn30 hmk hm40 false hq)
        | (rw [if_neg hb177, if_neg hb186] at hq; exact l_M_def194 hk hn30 hmk hm40 true hq)

theorem l_M_def165 {L : Nat} {xs : Nat → Int32} {d : Nat} {Q : ax_Q} {m : nMem} {k n mk : Nat} {w2 w5 : Option Value} {y4 : Int32} (hk : k < 12) (hn30 : n ≤ 30) (hmk : m.1 104 40 = nI mk) (hm40 : mk ≤ 40) (b : Bool) (hq : Q (some (.int 0)) (ns_rep (scM (tcM (dfB (ms (ms m 117 k (bi b)) 118 k (bi (bnd (m.1 118 k) (m.1 107 k)))) k n) k n) k mk))) : nW L xs d ns_I_M_define Q 165 [some (.ref 104), some (.int (nI k)), w2, some (.int (nI n)), some (.int y4), w5] [.int (bi b), .int (nI k), .ref 117] 0 0 (ns_rep m) := by
  refine aw_bast (pc' := 166) nd_M_define_165 rfl (nzb b) k rfl hk pa_Mnoted ?_
  exact l_M_def166 hk hn30 (by rw [ms_o (by decide)]; exact hmk) hm40 (by rw [ms_o (by decide), ms_o (by decide)]; exact hq)

theorem l_M_def137 {L : Nat} {xs : Nat → Int32} {d : Nat} {Q : ax_Q} {m : nMem} {k n mk : Nat} {w2 w5 : Option Value} {y4 : Int32} (hk : k < 12) (hn30 : n ≤ 30) (hmk : m.1 104 40 = nI mk) (hm40 : mk ≤ 40) (hq : Q (some (.int 0)) (ns_rep (scM (tcM (dfB (dfN m k) k n) k n) k mk))) : nW L xs d ns_I_M_define Q 137 [some (.ref 104), some (.int (nI k)), w2, some (.int (nI n)), some (.int y4), w5] [] 0 0 (ns_rep m) := by
  unfold dfN at hq
  rw [show bnd (m.1 117 k) (m.1 107 k) = (if m.1 117 k = 0 then false else if m.1 107 k = 0 then false else true) from rfl] at hq
  refine aw_aload_n (pc' := 138) nd_M_define_137 rfl rfl rfl ?_
  refine aw_get (pc' := 141) nd_M_define_138 rfl nF_5_51 g_M_noted ?_
  refine aw_iload_n (pc' := 142) nd_M_define_141 rfl rfl ?_
  refine aw_aload_n (pc' := 143) nd_M_define_142 rfl rfl rfl ?_
  refine aw_get (pc' := 146) nd_M_define_143 rfl nF_5_51 g_M_noted ?_
  refine aw_iload_n (pc' := 147) nd_M_define_146 rfl rfl ?_
  refine aw_bald (pc' := 148) nd_M_define_147 rfl ga_Mnoted k rfl hk ?_
  refine aw_if_eq (pc' := 151) (tg := 164) nd_M_define_148 (by decide) rfl (fun hb148 => ?_) (fun hb148 => ?_)
  · skip
    refine aw_iconst (pc' := 165) (x := 0) nd_M_define_164 rfl (by decide) ?_
    first
      | (rw [if_pos hb148] at hq; exact l_M_def165 hk hn30 hmk hm40 false hq)
      | (rw [if_neg hb148, if_pos hb157] at hq; exact l_M_def165 hk hn30 hmk hm40 false hq)
      | (rw [if_neg hb148, if_neg hb157] at hq; exact l_M_def165 hk hn30 hmk hm40 true hq)
  · skip
    refine aw_aload_n (pc' := 152) nd_M_define_151 rfl rfl rfl ?_
    refine aw_get (pc' := 155) nd_M_define_152 rfl nF_5_20 g_M_formula ?_
    refine aw_iload_n (pc' := 156) nd_M_define_155 rfl rfl ?_
    refine aw_bald (pc' := 157) nd_M_define_156 rfl ga_Mformula k rfl hk ?_
    refine aw_if_eq (pc' := 160) (tg := 164) nd_M_define_157 (by decide) rfl (fun hb157 => ?_) (fun hb157 => ?_)
    · skip
      refine aw_iconst (pc' := 165) (x := 0) nd_M_define_164 rfl (by decide) ?_
      first
        | (rw [if_pos hb148] at hq; exact l_M_def165 hk hn30 hmk hm40 false hq)
        | (rw [if_neg hb148, if_pos hb157] at hq; exact l_M_def165 hk hn30 hmk hm40 false hq)
        | (rw [if_neg hb148, if_neg hb157] at hq; exact l_M_def165 hk hn30 hmk hm40 true hq)
    · skip
      refine aw_iconst (pc' := 161) (x := 1) nd_M_define_160 rfl (by decide) ?_
      refine aw_goto (pc' := 165) nd_M_define_161 (by decide) ?_
      first
        | (rw [if_pos hb148] at hq; exact l_M_def165 hk hn30 hmk hm40 false hq)
        | (rw [if_neg hb148, if_pos hb157] at hq; exact l_M_def165 hk hn30 hmk hm40 false hq)
        | (rw [if_neg hb148, if_neg hb157] at hq; exact l_M_def165 hk hn30 hmk hm40 true hq)

theorem l_M_def134 {L : Nat} {xs : Nat → Int32} {d : Nat} {Q : ax_Q} {m : nMem} {k n mk : Nat} {w2 w5 : Option Value} {y4 : Int32} (hk : k < 12) (hn30 : n ≤ 30) (hmk : m.1 104 40 = nI mk) (hm40 : mk ≤ 40) {oo : Nat} {y : Int32} (ho : oo < 3) (hy : y = nI oo) (hq : Q (some (.int 0)) (ns_rep (dfM m k n mk oo))) : nW L xs (d + 1) ns_I_M_define Q 134 [some (.ref 104), some (.int (nI k)), w2, some (.int (nI n)), some (.int y4), w5] [.int y, .ref 104] 0 0 (ns_rep m) := by
  subst hy
  unfold dfM at hq
  refine aw_callV (pc' := 137) (as := [_]) (st := []) nd_M_define_134 rfl nC_5_188 ⟨(Nat.le_of_ble_eq_true rfl), rfl, rfl⟩ ns_ioM (Nat.le_of_ble_eq_true rfl) (Nat.le_of_ble_eq_true rfl) (Nat.le_of_ble_eq_true rfl) ?_
  refine c_M_change ho ?_
  show nW _ _ _ _ _ 137 _ [] _ _ _
  exact l_M_def137 hk hn30 (by rw [srmv_r, pk_un (by decide)]; exact hmk) hm40 hq

theorem l_M_def61 {L : Nat} {xs : Nat → Int32} {d : Nat} {Q : ax_Q} {m : nMem} {k n : Nat} {b : Bool} {w2 : Option Value} (hk : k < 12) (hn30 : n ≤ 30) (kk : nW L xs d ns_I_M_define Q 107 [some (.ref 104), some (.int (nI k)), w2, some (.int (nI n)), some (.int (bi (smB m k b n))), some (.int (nI n))] [] 0 0 (ns_rep m)) : ∀ z i, z + i = n → nW L xs d ns_I_M_define Q 61 [some (.ref 104), some (.int (nI k)), w2, some (.int (nI n)), some (.int (bi (smB m k b i))), some (.int (nI i))] [] 0 0 (ns_rep m) := by
  intro z
  induction z with
  | zero =>
    intro i hi
    obtain rfl : i = n := by omega
    refine aw_iload (pc' := 63) nd_M_define_61 rfl rfl ?_
    refine aw_iload_n (pc' := 64) nd_M_define_63 rfl rfl ?_
    refine aw_icmp_ge (pc' := 67) (tg := 107) nd_M_define_64 (by decide) rfl (fun _ => ?_) (fun hx => absurd (nI_le (Nat.le_refl _) (by omega)) hx)
    exact kk
  | succ z ih =>
    intro i hi
    have hin : i < n := by omega
    have e := ih (i + 1) (by omega)
    rw [smB] at e
    refine aw_iload (pc' := 63) nd_M_define_61 rfl rfl ?_
    refine aw_iload_n (pc' := 64) nd_M_define_63 rfl rfl ?_
    refine aw_icmp_ge (pc' := 67) (tg := 107) nd_M_define_64 (by decide) rfl (fun hx => absurd hx (nI_ge hin (by omega))) (fun _ => ?_)
    refine aw_iload (pc' := 69) nd_M_define_67 rfl rfl ?_
    refine aw_if_eq (pc' := 72) (tg := 98) nd_M_define_69 (by decide) rfl (fun hb69 => ?_) (fun hb69 => ?_)
    · skip
      refine aw_iconst (pc' := 99) (x := 0) nd_M_define_98 rfl (by decide) ?_
      refine aw_istore (pc' := 101) (ls' := [_, _, _, _, _, _]) nd_M_define_99 rfl (Nat.le_of_ble_eq_true rfl) rfl ?_
      refine aw_iinc (pc' := 104) (ls' := [_, _, _, _, _, _]) nd_M_define_101 rfl rfl (nI_1 i) rfl ?_
      refine aw_goto (pc' := 61) nd_M_define_104 (by decide) ?_
      first
        | (rw [if_neg (by rw [bi_f hb69]; decide)] at e; exact e)
        | (rw [if_pos (bi_t hb69), if_pos hb91] at e; exact e)
        | (rw [if_pos (bi_t hb69), if_neg hb91] at e; exact e)
    · skip
      refine aw_aload_n (pc' := 73) nd_M_define_72 rfl rfl rfl ?_
      refine aw_get (pc' := 76) nd_M_define_73 rfl nF_5_24 g_M_text ?_
      refine aw_bipush (pc' := 78) (x := 30) nd_M_define_76 rfl (by decide) ?_
      refine aw_iload_n (pc' := 79) nd_M_define_78 rfl rfl ?_
      refine aw_imul (pc' := 80) nd_M_define_79 rfl ?_
      refine aw_iload (pc' := 82) nd_M_define_80 rfl rfl ?_
      refine aw_iadd (pc' := 83) nd_M_define_82 rfl ?_
      refine aw_iald (pc' := 84) nd_M_define_83 rfl ga_Mtext (30 * k + i) (nI_lin (c := 30) (by decide)) (by omega) ?_
      refine aw_aload_n (pc' := 85) nd_M_define_84 rfl rfl rfl ?_
      refine aw_get (pc' := 88) nd_M_define_85 rfl nF_5_7 g_M_pad ?_
      refine aw_iload (pc' := 90) nd_M_define_88 rfl rfl ?_
      refine aw_iald (pc' := 91) nd_M_define_90 rfl ga_Mpad i rfl (by omega) ?_
      refine aw_icmp_ne (pc' := 94) (tg := 98) nd_M_define_91 (by decide) rfl (fun hb91 => ?_) (fun hb91 => ?_)
      · skip
        refine aw_iconst (pc' := 99) (x := 0) nd_M_define_98 rfl (by decide) ?_
        refine aw_istore (pc' := 101) (ls' := [_, _, _, _, _, _]) nd_M_define_99 rfl (Nat.le_of_ble_eq_true rfl) rfl ?_
        refine aw_iinc (pc' := 104) (ls' := [_, _, _, _, _, _]) nd_M_define_101 rfl rfl (nI_1 i) rfl ?_
        refine aw_goto (pc' := 61) nd_M_define_104 (by decide) ?_
        first
          | (rw [if_neg (by rw [bi_f hb69]; decide)] at e; exact e)
          | (rw [if_pos (bi_t hb69), if_pos hb91] at e; exact e)
          | (rw [if_pos (bi_t hb69), if_neg hb91] at e; exact e)
      · skip
        refine aw_iconst (pc' := 95) (x := 1) nd_M_define_94 rfl (by decide) ?_
        refine aw_goto (pc' := 99) nd_M_define_95 (by decide) ?_
        refine aw_istore (pc' := 101) (ls' := [_, _, _, _, _, _]) nd_M_define_99 rfl (Nat.le_of_ble_eq_true rfl) rfl ?_
        refine aw_iinc (pc' := 104) (ls' := [_, _, _, _, _, _]) nd_M_define_101 rfl rfl (nI_1 i) rfl ?_
        refine aw_goto (pc' := 61) nd_M_define_104 (by decide) ?_
        first
          | (rw [if_neg (by rw [bi_f hb69]; decide)] at e; exact e)
          | (rw [if_pos (bi_t hb69), if_pos hb91] at e; exact e)
          | (rw [if_pos (bi_t hb69), if_neg hb91] at e; exact e)

theorem l_M_def107 {L : Nat} {xs : Nat → Int32} {d : Nat} {Q : ax_Q} {m : nMem} {k n mk oo : Nat} {w2 : Option Value} (hk : k < 12) (hn30 : n ≤ 30) (hmk : m.1 104 40 = nI mk) (hm40 : mk ≤ 40) (ho : oo < 3) (hd : mD m k = nI oo) {w5 : Option Value} (b : Bool) (hq1 : b = true → Q (some (.int 0)) (ns_rep m)) (hq2 : b = false → Q (some (.int 0)) (ns_rep (dfM m k n mk oo))) : nW L xs (d + 1) ns_I_M_define Q 107 [some (.ref 104), some (.int (nI k)), w2, some (.int (nI n)), some (.int (bi b)), w5] [] 0 0 (ns_rep m) := by
  unfold mD at hd
  refine aw_iload (pc' := 109) nd_M_define_107 rfl rfl ?_
  refine aw_if_eq (pc' := 112) (tg := 114) nd_M_define_109 (by decide) rfl (fun hb109 => ?_) (fun hb109 => ?_)
  · skip
    refine aw_aload_n (pc' := 115) nd_M_define_114 rfl rfl rfl ?_
    refine aw_aload_n (pc' := 116) nd_M_define_115 rfl rfl rfl ?_
    refine aw_get (pc' := 119) nd_M_define_116 rfl nF_5_20 g_M_formula ?_
    refine aw_iload_n (pc' := 120) nd_M_define_119 rfl rfl ?_
    refine aw_bald (pc' := 121) nd_M_define_120 rfl ga_Mformula k rfl hk ?_
    refine aw_if_eq (pc' := 124) (tg := 128) nd_M_define_121 (by decide) rfl (fun hb121 => ?_) (fun hb121 => ?_)
    · skip
      refine aw_aload_n (pc' := 129) nd_M_define_128 rfl rfl rfl ?_
      refine aw_get (pc' := 132) nd_M_define_129 rfl nF_5_45 g_M_durable ?_
      refine aw_iload_n (pc' := 133) nd_M_define_132 rfl rfl ?_
      refine aw_iald (pc' := 134) nd_M_define_133 rfl ga_Mdurable k rfl hk ?_
      first
        | (rw [if_pos hb121] at hd; exact l_M_def134 hk hn30 hmk hm40 ho hd (hq2 (bi_f hb109)))
        | (rw [if_neg hb121] at hd; exact l_M_def134 hk hn30 hmk hm40 ho hd (hq2 (bi_f hb109)))
    · skip
      refine aw_iconst (pc' := 125) (x := 2) nd_M_define_124 rfl (by decide) ?_
      refine aw_goto (pc' := 134) nd_M_define_125 (by decide) ?_
      first
        | (rw [if_pos hb121] at hd; exact l_M_def134 hk hn30 hmk hm40 ho hd (hq2 (bi_f hb109)))
        | (rw [if_neg hb121] at hd; exact l_M_def134 hk hn30 hmk hm40 ho hd (hq2 (bi_f hb109)))
  · skip
    refine aw_iconst (pc' := 113) (x := 0) nd_M_define_112 rfl (by decide) ?_
    refine aw_ireturn nd_M_define_113 rfl rfl (Nat.le_of_ble_eq_true rfl) (Nat.le_of_ble_eq_true rfl) ?_
    exact hq1 (bi_t hb109)

theorem l_M_def56 {L : Nat} {xs : Nat → Int32} {d : Nat} {Q : ax_Q} {m : nMem} {k n mk oo : Nat} {w2 : Option Value} (hk : k < 12) (hn30 : n ≤ 30) (hmk : m.1 104 40 = nI mk) (hm40 : mk ≤ 40) (ho : oo < 3) (hd : mD m k = nI oo) {w4 w5 : Option Value} (b : Bool) (hq1 : smB m k b n = true → Q (some (.int 0)) (ns_rep m)) (hq2 : smB m k b n = false → Q (some (.int 0)) (ns_rep (dfM m k n mk oo))) : nW L xs (d + 1) ns_I_M_define Q 56 [some (.ref 104), some (.int (nI k)), w2, some (.int (nI n)), w4, w5] [.int (bi b)] 0 0 (ns_rep m) := by
  refine aw_istore (pc' := 58) (ls' := [_, _, _, _, _, _]) nd_M_define_56 rfl (Nat.le_of_ble_eq_true rfl) rfl ?_
  refine aw_iconst (pc' := 59) (x := 0) nd_M_define_58 rfl (by decide) ?_
  refine aw_istore (pc' := 61) (ls' := [_, _, _, _, _, _]) nd_M_define_59 rfl (Nat.le_of_ble_eq_true rfl) rfl ?_
  exact l_M_def61 hk hn30 (l_M_def107 hk hn30 hmk hm40 ho hd (smB m k b n) hq1 hq2) n 0 (by omega)

/-- is the text the same? -/
def smM (m : nMem) (k n : Nat) : Bool := smB m k (bnd (m.1 107 k) (if m.1 109 k = nI n then 1 else 0)) n

theorem l_M_def32 {L : Nat} {xs : Nat → Int32} {d : Nat} {Q : ax_Q} {m : nMem} {k n mk oo : Nat} {w2 : Option Value} (hk : k < 12) (hn30 : n ≤ 30) (hmk : m.1 104 40 = nI mk) (hm40 : mk ≤ 40) (ho : oo < 3) (hd : mD m k = nI oo) {w4 w5 : Option Value} (hq1 : smM m k n = true → Q (some (.int 0)) (ns_rep m)) (hq2 : smM m k n = false → Q (some (.int 0)) (ns_rep (dfM m k n mk oo))) : nW L xs (d + 1) ns_I_M_define Q 32 [some (.ref 104), some (.int (nI k)), w2, some (.int (nI n)), w4, w5] [] 0 0 (ns_rep m) := by
  unfold smM bnd at hq1 hq2
  refine aw_aload_n (pc' := 33) nd_M_define_32 rfl rfl rfl ?_
  refine aw_get (pc' := 36) nd_M_define_33 rfl nF_5_20 g_M_formula ?_
  refine aw_iload_n (pc' := 37) nd_M_define_36 rfl rfl ?_
  refine aw_bald (pc' := 38) nd_M_define_37 rfl ga_Mformula k rfl hk ?_
  refine aw_if_eq (pc' := 41) (tg := 55) nd_M_define_38 (by decide) rfl (fun hb38 => ?_) (fun hb38 => ?_)
  · skip
    refine aw_iconst (pc' := 56) (x := 0) nd_M_define_55 rfl (by decide) ?_
    first
      | (rw [if_pos hb38] at hq1 hq2; exact l_M_def56 hk hn30 hmk hm40 ho hd false hq1 hq2)
      | (rw [if_neg hb38, if_neg hb48, if_pos rfl] at hq1 hq2; exact l_M_def56 hk hn30 hmk hm40 ho hd false hq1 hq2)
      | (rw [if_neg hb38, if_pos hb48, if_neg (by decide)] at hq1 hq2; exact l_M_def56 hk hn30 hmk hm40 ho hd true hq1 hq2)
  · skip
    refine aw_aload_n (pc' := 42) nd_M_define_41 rfl rfl rfl ?_
    refine aw_get (pc' := 45) nd_M_define_42 rfl nF_5_27 g_M_size ?_
    refine aw_iload_n (pc' := 46) nd_M_define_45 rfl rfl ?_
    refine aw_iald (pc' := 47) nd_M_define_46 rfl ga_Msize k rfl hk ?_
    refine aw_iload_n (pc' := 48) nd_M_define_47 rfl rfl ?_
    refine aw_icmp_ne (pc' := 51) (tg := 55) nd_M_define_48 (by decide) rfl (fun hb48 => ?_) (fun hb48 => ?_)
    · skip
      refine aw_iconst (pc' := 56) (x := 0) nd_M_define_55 rfl (by decide) ?_
      first
        | (rw [if_pos hb38] at hq1 hq2; exact l_M_def56 hk hn30 hmk hm40 ho hd false hq1 hq2)
        | (rw [if_neg hb38, if_neg hb48, if_pos rfl] at hq1 hq2; exact l_M_def56 hk hn30 hmk hm40 ho hd false hq1 hq2)
        | (rw [if_neg hb38, if_pos hb48, if_neg (by decide)] at hq1 hq2; exact l_M_def56 hk hn30 hmk hm40 ho hd true hq1 hq2)
    · skip
      refine aw_iconst (pc' := 52) (x := 1) nd_M_define_51 rfl (by decide) ?_
      refine aw_goto (pc' := 56) nd_M_define_52 (by decide) ?_
      first
        | (rw [if_pos hb38] at hq1 hq2; exact l_M_def56 hk hn30 hmk hm40 ho hd false hq1 hq2)
        | (rw [if_neg hb38, if_neg hb48, if_pos rfl] at hq1 hq2; exact l_M_def56 hk hn30 hmk hm40 ho hd false hq1 hq2)
        | (rw [if_neg hb38, if_pos hb48, if_neg (by decide)] at hq1 hq2; exact l_M_def56 hk hn30 hmk hm40 ho hd true hq1 hq2)

theorem c_M_define {L : Nat} {xs : Nat → Int32} {d : Nat} {Q : ax_Q} {μ : nMem} {n : Nat} {x : Int32} (hn : μ.1 104 2 = nI n) (hn30 : n ≤ 30) (hdd : ∀ j, j < 12 → ∃ oo, mD μ j = nI oo ∧ oo < 3) (hb1 : ∀ j, yRun (μ.1 105) n 31 true 0 [] [] = .inl j → j ≤ 30) (hb2 : ∀ cd', yRun (μ.1 105) n 31 true 0 [] [] = .inr cd' → cd'.length ≤ 40)
    (hq0 : ∀ μ' sg' cd', ic x = false → YS μ μ' sg' cd' → Q (some (.int (-1))) (ns_rep (ms μ' 104 2 0)))
    (hq1 : ∀ k μ' sg' cd' j, k < 12 → x = nI k → yRun (μ.1 105) n 31 true 0 [] [] = .inl j → YS μ μ' sg' cd' → Q (some (.int (nI (1 + j)))) (ns_rep (ms μ' 104 2 0)))
    (hq2 : ∀ k μ' sg' cd', k < 12 → x = nI k → yRun (μ.1 105) n 31 true 0 [] [] = .inr cd' → YS μ μ' sg' cd' → smM (ms μ' 104 2 0) k n = true → Q (some (.int 0)) (ns_rep (ms μ' 104 2 0)))
    (hq3 : ∀ k oo μ' sg' cd', k < 12 → oo < 3 → x = nI k → mD (ms μ' 104 2 0) k = nI oo → yRun (μ.1 105) n 31 true 0 [] [] = .inr cd' → YS μ μ' sg' cd' → smM (ms μ' 104 2 0) k n = false → Q (some (.int 0)) (ns_rep (dfM (ms μ' 104 2 0) k n cd'.length oo))) : nM L xs (d + 6) 47 [.ref 104, .int x] (ns_rep μ) Q := by
  refine nM.of ns_I_M_define rfl (ls := [_, _, _, _, _, _]) (Nat.le_of_ble_eq_true rfl) rfl ?_
  refine aw_aload_n (pc' := 1) nd_M_define_0 rfl rfl rfl ?_
  refine aw_callV (pc' := 4) (as := []) (st := []) nd_M_define_1 rfl nC_5_182 ⟨(Nat.le_of_ble_eq_true rfl), rfl, rfl⟩ ns_ioM (Nat.le_of_ble_eq_true rfl) (Nat.le_of_ble_eq_true rfl) (Nat.le_of_ble_eq_true rfl) ?_
  refine c_M_fault hn hn30 (fun μ' j sg' cd' hr hy => ?_) (fun μ' sg' cd' hr hy => ?_)
  · have hl : μ'.1 104 2 = nI n := by rw [hy.1.2.1 2 (by decide) (by decide)]; exact hn
    show nW _ _ _ _ _ 4 _ [_] _ _ _
    refine aw_istore_n (pc' := 5) (ls' := [_, _, _, _, _, _]) nd_M_define_4 rfl (Nat.le_of_ble_eq_true rfl) rfl ?_
    refine aw_aload_n (pc' := 6) nd_M_define_5 rfl rfl rfl ?_
    refine aw_get (pc' := 9) nd_M_define_6 rfl nF_5_134 g_M_length ?_
    rw [hl]
    refine aw_istore_n (pc' := 10) (ls' := [_, _, _, _, _, _]) nd_M_define_9 rfl (Nat.le_of_ble_eq_true rfl) rfl ?_
    refine aw_aload_n (pc' := 11) nd_M_define_10 rfl rfl rfl ?_
    refine aw_iconst (pc' := 12) (x := 0) nd_M_define_11 rfl (by decide) ?_
    refine aw_put (pc' := 15) nd_M_define_12 rfl nF_5_134 trivial p_M_length ?_
    refine aw_iload_n (pc' := 16) nd_M_define_15 rfl rfl ?_
    refine aw_callS (a := 0) (pc' := 19) (as := [_]) (st := []) nd_M_define_16 rfl nC_5_185 ⟨(Nat.le_of_ble_eq_true rfl), rfl, rfl⟩ (Nat.le_of_ble_eq_true rfl) (Nat.le_of_ble_eq_true rfl) (Nat.le_of_ble_eq_true rfl) ?_
    refine c_M_isCell ?_
    show nW _ _ _ _ _ 19 _ [_] _ _ _
    refine aw_if_ne (pc' := 22) (tg := 24) nd_M_define_19 (by decide) rfl (fun hb19 => ?_) (fun hb19 => ?_)
    · skip
      obtain ⟨k, hk, rfl⟩ := ic_t (bi_t hb19)
      refine aw_iload_n (pc' := 25) nd_M_define_24 rfl rfl ?_
      skip
      refine aw_if_lt (pc' := 28) (tg := 32) nd_M_define_25 (by decide) rfl (fun hx => absurd hx (nI_pos (by have := hb1 j hr; omega))) (fun _ => ?_)
      refine aw_iconst (pc' := 29) (x := 1) nd_M_define_28 rfl (by decide) ?_
      refine aw_iload_n (pc' := 30) nd_M_define_29 rfl rfl ?_
      refine aw_iadd (pc' := 31) nd_M_define_30 rfl ?_
      refine aw_ireturn nd_M_define_31 rfl rfl (Nat.le_of_ble_eq_true rfl) (Nat.le_of_ble_eq_true rfl) ?_
      rw [show (1 : Int32) + nI j = nI (1 + j) from nI_add 1 j]
      exact hq1 k _ _ _ j hk rfl hr hy
    · skip
      refine aw_iconst (pc' := 23) (x := -1) nd_M_define_22 rfl (by decide) ?_
      refine aw_ireturn nd_M_define_23 rfl rfl (Nat.le_of_ble_eq_true rfl) (Nat.le_of_ble_eq_true rfl) ?_
      exact hq0 _ _ _ (bi_f hb19) hy
  · have hl : μ'.1 104 2 = nI n := by rw [hy.1.2.1 2 (by decide) (by decide)]; exact hn
    show nW _ _ _ _ _ 4 _ [_] _ _ _
    refine aw_istore_n (pc' := 5) (ls' := [_, _, _, _, _, _]) nd_M_define_4 rfl (Nat.le_of_ble_eq_true rfl) rfl ?_
    refine aw_aload_n (pc' := 6) nd_M_define_5 rfl rfl rfl ?_
    refine aw_get (pc' := 9) nd_M_define_6 rfl nF_5_134 g_M_length ?_
    rw [hl]
    refine aw_istore_n (pc' := 10) (ls' := [_, _, _, _, _, _]) nd_M_define_9 rfl (Nat.le_of_ble_eq_true rfl) rfl ?_
    refine aw_aload_n (pc' := 11) nd_M_define_10 rfl rfl rfl ?_
    refine aw_iconst (pc' := 12) (x := 0) nd_M_define_11 rfl (by decide) ?_
    refine aw_put (pc' := 15) nd_M_define_12 rfl nF_5_134 trivial p_M_length ?_
    refine aw_iload_n (pc' := 16) nd_M_define_15 rfl rfl ?_
    refine aw_callS (a := 0) (pc' := 19) (as := [_]) (st := []) nd_M_define_16 rfl nC_5_185 ⟨(Nat.le_of_ble_eq_true rfl), rfl, rfl⟩ (Nat.le_of_ble_eq_true rfl) (Nat.le_of_ble_eq_true rfl) (Nat.le_of_ble_eq_true rfl) ?_
    refine c_M_isCell ?_
    show nW _ _ _ _ _ 19 _ [_] _ _ _
    refine aw_if_ne (pc' := 22) (tg := 24) nd_M_define_19 (by decide) rfl (fun hb19 => ?_) (fun hb19 => ?_)
    · skip
      obtain ⟨k, hk, rfl⟩ := ic_t (bi_t hb19)
      refine aw_iload_n (pc' := 25) nd_M_define_24 rfl rfl ?_
      refine aw_if_lt (pc' := 28) (tg := 32) nd_M_define_25 (by decide) rfl (fun _ => ?_) (fun hx => absurd (by decide) hx)
      obtain ⟨oo, hd, ho⟩ := hdd k hk
      have hd' : mD (ms μ' 104 2 0) k = nI oo := by
        unfold mD at hd ⊢
        rw [ms_o (by decide), ms_o (by decide), hy.1.1 107 (by decide) (by decide) (by decide) (by decide) (by decide), hy.1.1 115 (by decide) (by decide) (by decide) (by decide) (by decide)]
        exact hd
      exact l_M_def32 hk hn30 (by rw [ms_r, if_neg (by omega)]; exact hy.2.2.1) (hb2 _ hr) ho hd' (hq2 k _ _ _ hk rfl hr hy) (hq3 k oo _ _ _ hk ho rfl hd' hr hy)
    · skip
      refine aw_iconst (pc' := 23) (x := -1) nd_M_define_22 rfl (by decide) ?_
      refine aw_ireturn nd_M_define_23 rfl rfl (Nat.le_of_ble_eq_true rfl) (Nat.le_of_ble_eq_true rfl) ?_
      exact hq0 _ _ _ (bi_f hb19) hy

