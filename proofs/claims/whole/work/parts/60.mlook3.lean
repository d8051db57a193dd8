/-! the model's asking: look, whole -/
theorem l_M_look247 {L : Nat} {xs : Nat → Int32} {d : Nat} {Q : ax_Q} {m : nMem} {f k s a t : Nat} {v : Int64} {w4 w6 : Option Value} (hf : f < 12) (ha : m.1 130 f = nI a) (ht : m.1 131 f = nI t) (ht16 : t < 16) (hq : Q none (ns_rep (ms (psM m f t v) 130 f (nI (a + 1))))) : nW L xs (d + 1) ns_I_M_look Q 247 [some (.ref 104), some (.int (nI f)), some (.int (nI k)), some (.int (nI s)), w4, some (.long v), w6] [] 0 0 (ns_rep m) := by
  refine aw_aload_n (pc' := 248) nd_M_look_247 rfl rfl rfl ?_
  refine aw_iload_n (pc' := 249) nd_M_look_248 rfl rfl ?_
  refine aw_lload (pc' := 251) nd_M_look_249 rfl rfl ?_
  refine aw_callV (pc' := 254) (as := [_, _]) (st := []) nd_M_look_251 rfl nC_5_235 ⟨(Nat.le_of_ble_eq_true rfl), rfl, rfl⟩ ns_ioM (Nat.le_of_ble_eq_true rfl) (Nat.le_of_ble_eq_true rfl) (Nat.le_of_ble_eq_true rfl) ?_
  refine c_M_push hf ht ht16 ?_
  change nW _ _ _ _ _ _ _ _ _ _ (ns_rep (psM m f t v))
  show nW _ _ _ _ _ 254 _ [] _ _ _
  refine aw_aload_n (pc' := 255) nd_M_look_254 rfl rfl rfl ?_
  refine aw_get (pc' := 258) nd_M_look_255 rfl nF_5_91 g_M_at ?_
  refine aw_iload_n (pc' := 259) nd_M_look_258 rfl rfl ?_
  refine aw_dup2 (pc' := 260) nd_M_look_259 rfl rfl rfl ?_
  refine aw_iald (pc' := 261) nd_M_look_260 rfl ga_Mat f rfl hf ?_
  refine aw_iconst (pc' := 262) (x := 1) nd_M_look_261 rfl (by decide) ?_
  refine aw_iadd (pc' := 263) nd_M_look_262 rfl ?_
  rw [show (psM m f t v).1 130 f = nI a from ha, nI_1]
  refine aw_iast (pc' := 264) nd_M_look_263 rfl rfl f rfl hf pa_Mat ?_
  refine aw_return nd_M_look_264 rfl (Nat.le_of_ble_eq_true rfl) (Nat.le_of_ble_eq_true rfl) ?_
  exact hq

theorem l_M_look194 {L : Nat} {xs : Nat → Int32} {d : Nat} {Q : ax_Q} {m : nMem} {f k s a t : Nat} {w : Int32} (hf : f < 12) (hk : k < 12) (hs : s < 12) (ho : m.1 104 27 = nI (f + 1)) (hp : m.1 128 f = nI k) (hfo : FO m f) (ha : m.1 130 f = nI a) (ha40 : a < 40) (hw : m.1 111 (40 * k + a) = w) (ht : m.1 131 f = nI t) (ht16 : t < 16) (ht2 : w = 2 → 1 ≤ t) {v : Int64} {w4 w5 w6 : Option Value} (hq1 : v = BADv → Q none (ns_rep (wkX m f k BADv))) (hq2 : ¬ v = BADv → Q none (ns_rep (ms (psM (if w = 2 then ms m 131 f (nI (t - 1)) else m) f (if w = 2 then t - 1 else t) v) 130 f (nI (a + 1))))) : nW L xs (d + 2) ns_I_M_look Q 194 [some (.ref 104), some (.int (nI f)), some (.int (nI k)), some (.int (nI s)), w4, w5, w6] [.long v] 0 0 (ns_rep m) := by
  refine aw_lstore (pc' := 196) (ls' := [_, _, _, _, _, _, _]) nd_M_look_194 rfl (Nat.le_of_ble_eq_true rfl) rfl ?_
  refine aw_lload (pc' := 198) nd_M_look_196 rfl rfl ?_
  refine aw_ldc2 (pc' := 201) nd_M_look_198 rfl nK_5_246 ?_
  refine aw_lcmp (pc' := 202) nd_M_look_201 rfl ?_
  refine aw_if_ne (pc' := 205) (tg := 217) nd_M_look_202 (by decide) rfl (fun hb202 => ?_) (fun hb202 => ?_)
  · skip
    have hv : ¬ v = BADv := fun z => hb202 ((lg_cmp_eq _ _).mpr z)
    refine aw_aload_n (pc' := 218) nd_M_look_217 rfl rfl rfl ?_
    refine aw_get (pc' := 221) nd_M_look_218 rfl nF_5_33 g_M_step ?_
    refine aw_bipush (pc' := 223) (x := 40) nd_M_look_221 rfl (by decide) ?_
    refine aw_iload_n (pc' := 224) nd_M_look_223 rfl rfl ?_
    refine aw_imul (pc' := 225) nd_M_look_224 rfl ?_
    refine aw_aload_n (pc' := 226) nd_M_look_225 rfl rfl rfl ?_
    refine aw_get (pc' := 229) nd_M_look_226 rfl nF_5_91 g_M_at ?_
    refine aw_iload_n (pc' := 230) nd_M_look_229 rfl rfl ?_
    refine aw_iald (pc' := 231) nd_M_look_230 rfl ga_Mat f rfl hf ?_
    refine aw_iadd (pc' := 232) nd_M_look_231 rfl ?_
    refine aw_iald (pc' := 233) nd_M_look_232 rfl ga_Mstep (40 * k + a) (by rw [ha]; exact nI_lin (c := 40) (by decide)) (by omega) ?_
    rw [hw]
    refine aw_iconst (pc' := 234) (x := 2) nd_M_look_233 rfl (by decide) ?_
    refine aw_icmp_ne (pc' := 237) (tg := 247) nd_M_look_234 (by decide) rfl (fun hb234 => ?_) (fun hb234 => ?_)
    · skip
      first
        | (rw [if_neg hb234, if_neg hb234] at hq2; exact l_M_look247 hf ha ht ht16 (hq2 hv))
        | (have h2 : w = 2 := hb234
           rw [if_pos h2, if_pos h2] at hq2
           exact l_M_look247 hf (by rw [ms_o (by decide)]; exact ha) (by rw [ms_s, pk_us]) (by omega) (hq2 hv))
    · skip
      refine aw_aload_n (pc' := 238) nd_M_look_237 rfl rfl rfl ?_
      refine aw_get (pc' := 241) nd_M_look_238 rfl nF_5_94 g_M_depth ?_
      refine aw_iload_n (pc' := 242) nd_M_look_241 rfl rfl ?_
      refine aw_dup2 (pc' := 243) nd_M_look_242 rfl rfl rfl ?_
      refine aw_iald (pc' := 244) nd_M_look_243 rfl ga_Mdepth f rfl hf ?_
      refine aw_iconst (pc' := 245) (x := 1) nd_M_look_244 rfl (by decide) ?_
      refine aw_isub (pc' := 246) nd_M_look_245 rfl ?_
      obtain ⟨u, hu⟩ : ∃ u, t = u + 1 := ⟨t - 1, by have := ht2 hb234; omega⟩
      rw [ht, show nI t - 1 = nI (t - 1) from by rw [hu]; exact nI_pred u]
      refine aw_iast (pc' := 247) nd_M_look_246 rfl rfl f rfl hf pa_Mdepth ?_
      first
        | (rw [if_neg hb234, if_neg hb234] at hq2; exact l_M_look247 hf ha ht ht16 (hq2 hv))
        | (have h2 : w = 2 := hb234
           rw [if_pos h2, if_pos h2] at hq2
           exact l_M_look247 hf (by rw [ms_o (by decide)]; exact ha) (by rw [ms_s, pk_us]) (by omega) (hq2 hv))
  · skip
    have hv : v = BADv := (lg_cmp_eq _ _).mp hb202
    refine aw_aload_n (pc' := 206) nd_M_look_205 rfl rfl rfl ?_
    refine aw_iload_n (pc' := 207) nd_M_look_206 rfl rfl ?_
    refine aw_iload_n (pc' := 208) nd_M_look_207 rfl rfl ?_
    refine aw_ldc2 (pc' := 211) nd_M_look_208 rfl nK_5_246 ?_
    refine aw_callV (pc' := 214) (as := [_, _, _]) (st := []) nd_M_look_211 rfl nC_5_203 ⟨(Nat.le_of_ble_eq_true rfl), rfl, rfl⟩ ns_ioM (Nat.le_of_ble_eq_true rfl) (Nat.le_of_ble_eq_true rfl) (Nat.le_of_ble_eq_true rfl) ?_
    refine c_M_worked hf hk ho hp hfo.1 hfo.2.1 hfo.2.2 ?_
    show nW _ _ _ _ _ 214 _ [] _ _ _
    refine aw_goto (pc' := 264) nd_M_look_214 (by decide) ?_
    refine aw_return nd_M_look_264 rfl (Nat.le_of_ble_eq_true rfl) (Nat.le_of_ble_eq_true rfl) ?_
    exact hq1 hv

theorem l_M_look169 {L : Nat} {xs : Nat → Int32} {d : Nat} {Q : ax_Q} {m : nMem} {f k s a t : Nat} {w : Int32} (hf : f < 12) (hk : k < 12) (hs : s < 12) (ho : m.1 104 27 = nI (f + 1)) (hp : m.1 128 f = nI k) (hfo : FO m f) (ha : m.1 130 f = nI a) (ha40 : a < 40) (hw : m.1 111 (40 * k + a) = w) (ht : m.1 131 f = nI t) (ht16 : t < 16) (ht2 : w = 2 → 1 ≤ t) {w4 w5 w6 : Option Value} (hq1 : (if m.1 107 s = 0 then (m.1 114 s).toInt64 else m.2 119 s) = BADv → Q none (ns_rep (wkX m f k BADv))) (hq2 : ¬ (if m.1 107 s = 0 then (m.1 114 s).toInt64 else m.2 119 s) = BADv → Q none (ns_rep (ms (psM (if w = 2 then ms m 131 f (nI (t - 1)) else m) f (if w = 2 then t - 1 else t) (if m.1 107 s = 0 then (m.1 114 s).toInt64 else m.2 119 s)) 130 f (nI (a + 1))))) : nW L xs (d + 2) ns_I_M_look Q 169 [some (.ref 104), some (.int (nI f)), some (.int (nI k)), some (.int (nI s)), w4, w5, w6] [] 0 0 (ns_rep m) := by
  refine aw_aload_n (pc' := 170) nd_M_look_169 rfl rfl rfl ?_
  refine aw_get (pc' := 173) nd_M_look_170 rfl nF_5_20 g_M_formula ?_
  refine aw_iload_n (pc' := 174) nd_M_look_173 rfl rfl ?_
  refine aw_bald (pc' := 175) nd_M_look_174 rfl ga_Mformula s rfl hs ?_
  refine aw_if_eq (pc' := 178) (tg := 187) nd_M_look_175 (by decide) rfl (fun hb175 => ?_) (fun hb175 => ?_)
  · skip
    refine aw_aload_n (pc' := 188) nd_M_look_187 rfl rfl rfl ?_
    refine aw_get (pc' := 191) nd_M_look_188 rfl nF_5_42 g_M_number ?_
    refine aw_iload_n (pc' := 192) nd_M_look_191 rfl rfl ?_
    refine aw_iald (pc' := 193) nd_M_look_192 rfl ga_Mnumber s rfl hs ?_
    refine aw_i2l (pc' := 194) nd_M_look_193 rfl ?_
    first
      | (rw [if_pos hb175] at hq1 hq2; exact l_M_look194 hf hk hs ho hp hfo ha ha40 hw ht ht16 ht2 hq1 hq2)
      | (rw [if_neg hb175] at hq1 hq2; exact l_M_look194 hf hk hs ho hp hfo ha ha40 hw ht ht16 ht2 hq1 hq2)
  · skip
    refine aw_aload_n (pc' := 179) nd_M_look_178 rfl rfl rfl ?_
    refine aw_get (pc' := 182) nd_M_look_179 rfl nF_5_57 g_M_value ?_
    refine aw_iload_n (pc' := 183) nd_M_look_182 rfl rfl ?_
    refine aw_lald (pc' := 184) nd_M_look_183 rfl ga_Mvalue s rfl hs ?_
    refine aw_goto (pc' := 194) nd_M_look_184 (by decide) ?_
    first
      | (rw [if_pos hb175] at hq1 hq2; exact l_M_look194 hf hk hs ho hp hfo ha ha40 hw ht ht16 ht2 hq1 hq2)
      | (rw [if_neg hb175] at hq1 hq2; exact l_M_look194 hf hk hs ho hp hfo ha ha40 hw ht ht16 ht2 hq1 hq2)

theorem FO.us {m : nMem} {f s : Nat} (h : FO m f) : FO (usM m s) f := by
  have e : ∀ b, 128 ≤ b → (usM m s).1 b = m.1 b := fun b hb => by unfold usM; rw [ms_o (by omega), ms_o (by omega)]
  unfold FO rM fcM at *
  rw [e 133 (by omega), e 134 (by omega)]
  exact h

theorem l_M_look155 {L : Nat} {xs : Nat → Int32} {d : Nat} {Q : ax_Q} {m : nMem} {f k s a t : Nat} {w : Int32} (hf : f < 12) (hk : k < 12) (hs : s < 12) (ho : m.1 104 27 = nI (f + 1)) (hp : m.1 128 f = nI k) (hfo : FO m f) (ha : m.1 130 f = nI a) (ha40 : a < 40) (hw : m.1 111 (40 * k + a) = w) (ht : m.1 131 f = nI t) (ht16 : t < 16) (ht2 : w = 2 → 1 ≤ t) {w4 w5 w6 : Option Value} (hq : lkv m s = BADv → Q none (ns_rep (wkX (lku m s) f k BADv))) (hq2 : ¬ lkv m s = BADv → Q none (ns_rep (lkp m f s t a w))) : nW L xs (d + 2) ns_I_M_look Q 155 [some (.ref 104), some (.int (nI f)), some (.int (nI k)), some (.int (nI s)), w4, w5, w6] [] 0 0 (ns_rep m) := by
  unfold lkp at hq2
  unfold lku lkv at hq hq2
  refine aw_aload_n (pc' := 156) nd_M_look_155 rfl rfl rfl ?_
  refine aw_get (pc' := 159) nd_M_look_156 rfl nF_5_20 g_M_formula ?_
  refine aw_iload_n (pc' := 160) nd_M_look_159 rfl rfl ?_
  refine aw_bald (pc' := 161) nd_M_look_160 rfl ga_Mformula s rfl hs ?_
  refine aw_if_eq (pc' := 164) (tg := 169) nd_M_look_161 (by decide) rfl (fun hb161 => ?_) (fun hb161 => ?_)
  · skip
    first
      | (rw [if_pos hb161] at hq hq2; rw [if_pos hb161] at hq hq2; exact l_M_look169 hf hk hs ho hp hfo ha ha40 hw ht ht16 ht2 (by rw [if_pos hb161]; exact hq) (by rw [if_pos hb161]; exact hq2))
      | (rw [if_neg hb161] at hq hq2; rw [if_neg hb161] at hq hq2
         have e7 : ¬ (usM m s).1 107 s = 0 := by unfold usM; rw [ms_o (by decide), ms_o (by decide)]; exact hb161
         have e : ∀ b, 105 ≤ b → ¬ b = 125 → (usM m s).1 b = m.1 b := fun b h1 h2 => by unfold usM; rw [ms_o h2, ms_o (by omega)]
         exact l_M_look169 hf hk hs (by unfold usM; rw [ms_o (by decide), ms_s, pk_un (by decide)]; exact ho) (by rw [e 128 (by omega) (by omega)]; exact hp) hfo.us (by rw [e 130 (by omega) (by omega)]; exact ha) ha40 (by rw [e 111 (by omega) (by omega)]; exact hw) (by rw [e 131 (by omega) (by omega)]; exact ht) ht16 ht2 (by rw [if_neg e7]; exact hq) (by rw [if_neg e7]; exact hq2))
  · skip
    refine aw_aload_n (pc' := 165) nd_M_look_164 rfl rfl rfl ?_
    refine aw_iload_n (pc' := 166) nd_M_look_165 rfl rfl ?_
    refine aw_callV (pc' := 169) (as := [_]) (st := []) nd_M_look_166 rfl nC_5_228 ⟨(Nat.le_of_ble_eq_true rfl), rfl, rfl⟩ ns_ioM (Nat.le_of_ble_eq_true rfl) (Nat.le_of_ble_eq_true rfl) (Nat.le_of_ble_eq_true rfl) ?_
    refine c_M_use hs ?_
    change nW _ _ _ _ _ _ _ _ _ _ (ns_rep (usM m s))
    show nW _ _ _ _ _ 169 _ [] _ _ _
    first
      | (rw [if_pos hb161] at hq hq2; rw [if_pos hb161] at hq hq2; exact l_M_look169 hf hk hs ho hp hfo ha ha40 hw ht ht16 ht2 (by rw [if_pos hb161]; exact hq) (by rw [if_pos hb161]; exact hq2))
      | (rw [if_neg hb161] at hq hq2; rw [if_neg hb161] at hq hq2
         have e7 : ¬ (usM m s).1 107 s = 0 := by unfold usM; rw [ms_o (by decide), ms_o (by decide)]; exact hb161
         have e : ∀ b, 105 ≤ b → ¬ b = 125 → (usM m s).1 b = m.1 b := fun b h1 h2 => by unfold usM; rw [ms_o h2, ms_o (by omega)]
         exact l_M_look169 hf hk hs (by unfold usM; rw [ms_o (by decide), ms_s, pk_un (by decide)]; exact ho) (by rw [e 128 (by omega) (by omega)]; exact hp) hfo.us (by rw [e 130 (by omega) (by omega)]; exact ha) ha40 (by rw [e 111 (by omega) (by omega)]; exact hw) (by rw [e 131 (by omega) (by omega)]; exact ht) ht16 ht2 (by rw [if_neg e7]; exact hq) (by rw [if_neg e7]; exact hq2))

theorem look_ring {Q : ax_Q} {m : nMem} {f k s a t : Nat} {w : Int32} (hb : ¬ m.1 135 s = 0) (hq : LKo (fun m => Q none (ns_rep m)) f k s t a w m) : Q none (ns_rep (wkM (ms m 136 f 1) f k BADv (fcM m f) (rM m f))) := by
  have h : Q none (ns_rep (wkX (ms m 136 f 1) f k BADv)) := hq.ring hb
  have e1 : fcM (ms m 136 f 1) f = fcM m f := by funext i; unfold fcM; rw [ms_o (by decide)]
  have e2 : rM (ms m 136 f 1) f = rM m f := by unfold rM; rw [ms_o (by decide)]
  unfold wkX at h
  rw [e1, e2] at h
  exact h

theorem l_M_look83 {L : Nat} {xs : Nat → Int32} {d : Nat} {Q : ax_Q} {m : nMem} {f k s a t : Nat} {w : Int32} (hf : f < 12) (hk : k < 12) (hs : s < 12) (ho : m.1 104 27 = nI (f + 1)) (hp : m.1 128 f = nI k) (hfo : FO m f) (ha : m.1 130 f = nI a) (ha40 : a < 40) (hw : m.1 111 (40 * k + a) = w) (ht : m.1 131 f = nI t) (ht16 : t < 16) (ht2 : w = 2 → 1 ≤ t) {w4 w5 w6 : Option Value} (hq : LKo (fun m => Q none (ns_rep m)) f k s t a w m) : nW L xs (d + 2) ns_I_M_look Q 83 [some (.ref 104), some (.int (nI f)), some (.int (nI k)), some (.int (nI s)), w4, w5, w6] [] 0 0 (ns_rep m) := by
  refine aw_aload_n (pc' := 84) nd_M_look_83 rfl rfl rfl ?_
  refine aw_get (pc' := 87) nd_M_look_84 rfl nF_5_106 g_M_atWork ?_
  refine aw_iload_n (pc' := 88) nd_M_look_87 rfl rfl ?_
  refine aw_bald (pc' := 89) nd_M_look_88 rfl ga_MatWork s rfl hs ?_
  refine aw_if_eq (pc' := 92) (tg := 111) nd_M_look_89 (by decide) rfl (fun hb89 => ?_) (fun hb89 => ?_)
  · skip
    refine aw_aload_n (pc' := 112) nd_M_look_111 rfl rfl rfl ?_
    refine aw_iload_n (pc' := 113) nd_M_look_112 rfl rfl ?_
    refine aw_callV (pc' := 116) (as := [_]) (st := []) nd_M_look_113 rfl nC_5_219 ⟨(Nat.le_of_ble_eq_true rfl), rfl, rfl⟩ ns_ioM (Nat.le_of_ble_eq_true rfl) (Nat.le_of_ble_eq_true rfl) (Nat.le_of_ble_eq_true rfl) ?_
    refine c_M_settled hs ?_
    show nW _ _ _ _ _ 116 _ [_] _ _ _
    refine aw_if_ne (pc' := 119) (tg := 128) nd_M_look_116 (by decide) rfl (fun hb116 => ?_) (fun hb116 => ?_)
    · skip
      refine aw_aload_n (pc' := 129) nd_M_look_128 rfl rfl rfl ?_
      refine aw_get (pc' := 132) nd_M_look_129 rfl nF_5_20 g_M_formula ?_
      refine aw_iload_n (pc' := 133) nd_M_look_132 rfl rfl ?_
      refine aw_bald (pc' := 134) nd_M_look_133 rfl ga_Mformula s rfl hs ?_
      refine aw_if_eq (pc' := 137) (tg := 155) nd_M_look_134 (by decide) rfl (fun hb134 => ?_) (fun hb134 => ?_)
      · skip
        first
          | exact l_M_look155 hf hk hs ho hp hfo ha ha40 hw ht ht16 ht2 (hq.bad hb89 (bi_t hb116) (Or.inl hb134)) (hq.got hb89 (bi_t hb116) (Or.inl hb134))
          | exact l_M_look155 hf hk hs ho hp hfo ha ha40 hw ht ht16 ht2 (hq.bad hb89 (bi_t hb116) (Or.inr hb143)) (hq.got hb89 (bi_t hb116) (Or.inr hb143))
      · skip
        refine aw_aload_n (pc' := 138) nd_M_look_137 rfl rfl rfl ?_
        refine aw_get (pc' := 141) nd_M_look_138 rfl nF_5_54 g_M_valued ?_
        refine aw_iload_n (pc' := 142) nd_M_look_141 rfl rfl ?_
        refine aw_bald (pc' := 143) nd_M_look_142 rfl ga_Mvalued s rfl hs ?_
        refine aw_if_ne (pc' := 146) (tg := 155) nd_M_look_143 (by decide) rfl (fun hb143 => ?_) (fun hb143 => ?_)
        · skip
          first
            | exact l_M_look155 hf hk hs ho hp hfo ha ha40 hw ht ht16 ht2 (hq.bad hb89 (bi_t hb116) (Or.inl hb134)) (hq.got hb89 (bi_t hb116) (Or.inl hb134))
            | exact l_M_look155 hf hk hs ho hp hfo ha ha40 hw ht ht16 ht2 (hq.bad hb89 (bi_t hb116) (Or.inr hb143)) (hq.got hb89 (bi_t hb116) (Or.inr hb143))
        · skip
          refine aw_aload_n (pc' := 147) nd_M_look_146 rfl rfl rfl ?_
          refine aw_iload_n (pc' := 148) nd_M_look_147 rfl rfl ?_
          refine aw_iconst (pc' := 149) (x := 2) nd_M_look_148 rfl (by decide) ?_
          refine aw_callV (pc' := 152) (as := [_, _]) (st := []) nd_M_look_149 rfl nC_5_222 ⟨(Nat.le_of_ble_eq_true rfl), rfl, rfl⟩ ns_ioM (Nat.le_of_ble_eq_true rfl) (Nat.le_of_ble_eq_true rfl) (Nat.le_of_ble_eq_true rfl) ?_
          refine c_M_start (n := f + 1) ho (hq.out hb89 (bi_t hb116) hb134 hb143).1 hs ?_
          show nW _ _ _ _ _ 152 _ [] _ _ _
          refine aw_goto (pc' := 264) nd_M_look_152 (by decide) ?_
          refine aw_return nd_M_look_264 rfl (Nat.le_of_ble_eq_true rfl) (Nat.le_of_ble_eq_true rfl) ?_
          first
            | exact (hq.up hb89 (bi_f hb116)).2
            | exact (hq.out hb89 (bi_t hb116) hb134 hb143).2
            | exact look_ring hb89 hq
    · skip
      refine aw_aload_n (pc' := 120) nd_M_look_119 rfl rfl rfl ?_
      refine aw_iload_n (pc' := 121) nd_M_look_120 rfl rfl ?_
      refine aw_iconst (pc' := 122) (x := 0) nd_M_look_121 rfl (by decide) ?_
      refine aw_callV (pc' := 125) (as := [_, _]) (st := []) nd_M_look_122 rfl nC_5_222 ⟨(Nat.le_of_ble_eq_true rfl), rfl, rfl⟩ ns_ioM (Nat.le_of_ble_eq_true rfl) (Nat.le_of_ble_eq_true rfl) (Nat.le_of_ble_eq_true rfl) ?_
      refine c_M_start (n := f + 1) ho (hq.up hb89 (bi_f hb116)).1 hs ?_
      show nW _ _ _ _ _ 125 _ [] _ _ _
      refine aw_goto (pc' := 264) nd_M_look_125 (by decide) ?_
      refine aw_return nd_M_look_264 rfl (Nat.le_of_ble_eq_true rfl) (Nat.le_of_ble_eq_true rfl) ?_
      first
        | exact (hq.up hb89 (bi_f hb116)).2
        | exact (hq.out hb89 (bi_t hb116) hb134 hb143).2
        | exact look_ring hb89 hq
  · skip
    refine aw_aload_n (pc' := 93) nd_M_look_92 rfl rfl rfl ?_
    refine aw_get (pc' := 96) nd_M_look_93 rfl nF_5_109 g_M_ring ?_
    refine aw_iload_n (pc' := 97) nd_M_look_96 rfl rfl ?_
    refine aw_iconst (pc' := 98) (x := 1) nd_M_look_97 rfl (by decide) ?_
    refine aw_bast (pc' := 99) nd_M_look_98 rfl nz1 f rfl hf pa_Mring ?_
    refine aw_aload_n (pc' := 100) nd_M_look_99 rfl rfl rfl ?_
    refine aw_iload_n (pc' := 101) nd_M_look_100 rfl rfl ?_
    refine aw_iload_n (pc' := 102) nd_M_look_101 rfl rfl ?_
    refine aw_ldc2 (pc' := 105) nd_M_look_102 rfl nK_5_246 ?_
    refine aw_callV (pc' := 108) (as := [_, _, _]) (st := []) nd_M_look_105 rfl nC_5_203 ⟨(Nat.le_of_ble_eq_true rfl), rfl, rfl⟩ ns_ioM (Nat.le_of_ble_eq_true rfl) (Nat.le_of_ble_eq_true rfl) (Nat.le_of_ble_eq_true rfl) ?_
    refine c_M_worked hf hk (by rw [ms_o (by decide)]; exact ho) (by rw [ms_o (by decide)]; exact hp) (by rw [ms_o (by decide)]; exact hfo.1) hfo.2.1 (fun i hi => by rw [ms_o (by decide)]; exact hfo.2.2 i hi) ?_
    show nW _ _ _ _ _ 108 _ [] _ _ _
    refine aw_goto (pc' := 264) nd_M_look_108 (by decide) ?_
    refine aw_return nd_M_look_264 rfl (Nat.le_of_ble_eq_true rfl) (Nat.le_of_ble_eq_true rfl) ?_
    first
      | exact (hq.up hb89 (bi_f hb116)).2
      | exact (hq.out hb89 (bi_t hb116) hb134 hb143).2
      | exact look_ring hb89 hq

theorem FO.af {m : nMem} {f s : Nat} (h : FO m f) (hs : s < 12) (hth : thM m f s (rM m f) = true ∨ rM m f < 12) : FO (afM m f s (rM m f)) f := by
  unfold afM
  split
  · exact h
  · rename_i hn
    obtain ⟨h1, h2, h3⟩ := h
    have hlt : rM m f < 12 := by
      rcases hth with z | z
      · exact absurd z hn
      · exact z
    have er : rM (ms (ms m 134 (12 * f + rM m f) (nI s)) 133 f (nI (rM m f + 1))) f = rM m f + 1 := by
      show ((ms (ms m 134 (12 * f + rM m f) (nI s)) 133 f (nI (rM m f + 1))).1 133 f).toNatClampNeg = _
      rw [ms_r, if_pos ⟨rfl, rfl⟩, nI_clamp (by omega)]
    have ef : ∀ i, fcM (ms (ms m 134 (12 * f + rM m f) (nI s)) 133 f (nI (rM m f + 1))) f i = if i = rM m f then s else fcM m f i := fun i => by
      show ((ms (ms m 134 (12 * f + rM m f) (nI s)) 133 f (nI (rM m f + 1))).1 134 (12 * f + i)).toNatClampNeg = _
      rw [ms_o (by decide), ms_r]
      by_cases e : i = rM m f
      · rw [if_pos ⟨rfl, by rw [e]⟩, if_pos e, nI_clamp (by omega)]
      · rw [if_neg (fun z => e (by omega)), if_neg e]; rfl
    refine ⟨?_, by rw [er]; omega, fun i hi => ?_⟩
    · rw [er, ms_r, if_pos ⟨rfl, rfl⟩]
    · rw [er] at hi
      rw [ef, ms_o (by decide), ms_r]
      by_cases e : i = rM m f
      · rw [if_pos ⟨rfl, by rw [e]⟩, if_pos e]; exact ⟨rfl, hs⟩
      · rw [if_neg (fun z => e (by omega)), if_neg e]; exact h3 i (by omega)

theorem af_o {m : nMem} {f s r b : Nat} (h1 : ¬ b = 133) (h2 : ¬ b = 134) : (afM m f s r).1 b = m.1 b := by
  unfold afM
  split
  · rfl
  · rw [ms_o h1, ms_o h2]

theorem c_M_look {L : Nat} {xs : Nat → Int32} {d : Nat} {Q : ax_Q} {μ : nMem} {f k s a t : Nat} {w : Int32} (hf : f < 12) (hk : k < 12) (hs : s < 12) (ho : μ.1 104 27 = nI (f + 1)) (hp : μ.1 128 f = nI k) (hfo : FO μ f) (ha : μ.1 130 f = nI a) (ha40 : a < 40) (hw : μ.1 111 (40 * k + a) = w) (ht : μ.1 131 f = nI t) (ht16 : t < 16) (ht2 : w = 2 → 1 ≤ t) (hth : thM μ f s (rM μ f) = true ∨ rM μ f < 12) (hq : LKo (fun m => Q none (ns_rep m)) f k s t a w (afM μ f s (rM μ f))) : nM L xs (d + 3) 65 [.ref 104, .int (nI f), .int (nI k), .int (nI s)] (ns_rep μ) Q := by
  refine nM.of ns_I_M_look rfl (ls := [_, _, _, _, _, _, _]) (Nat.le_of_ble_eq_true rfl) rfl ?_
  refine aw_iconst (pc' := 1) (x := 0) nd_M_look_0 rfl (by decide) ?_
  refine aw_istore (pc' := 3) (ls' := [_, _, _, _, _, _, _]) nd_M_look_1 rfl (Nat.le_of_ble_eq_true rfl) rfl ?_
  refine aw_iconst (pc' := 4) (x := 0) nd_M_look_3 rfl (by decide) ?_
  refine aw_istore (pc' := 6) (ls' := [_, _, _, _, _, _, _]) nd_M_look_4 rfl (Nat.le_of_ble_eq_true rfl) rfl ?_
  refine l_M_look6 hf hfo.1 hfo.2.1 ?_ (rM μ f) 0 (by omega)
  refine l_M_look51 hf hfo.1 hth (fun w5 => ?_)
  exact l_M_look83 hf hk hs (by rw [af_o (by decide) (by decide)]; exact ho) (by rw [af_o (by decide) (by decide)]; exact hp) (hfo.af hs hth) (by rw [af_o (by decide) (by decide)]; exact ha) ha40 (by rw [af_o (by decide) (by decide)]; exact hw) (by rw [af_o (by decide) (by decide)]; exact ht) ht16 ht2 hq

