/-! the model's asking: worked, its end -/
def usM (m : nMem) (k : Nat) : nMem := ms (ms m 104 24 (m.1 104 24 + 1)) 125 k (m.1 104 24 + 1)
def wkN (m : nMem) (f k : Nat) (x : Int32) (v : Int64) (le : Int32) : nMem := ms (ms (ms (ml (ms (ms (ms m 121 k x) 117 k 1) 118 k 1) 119 k v) 120 k (m.1 104 3)) 122 k le) 123 k (m.1 133 f)
theorem wkN_o {m : nMem} {f k : Nat} {x le : Int32} {v : Int64} {b : Nat} (h1 : ¬ b = 121) (h2 : ¬ b = 117) (h3 : ¬ b = 118) (h4 : ¬ b = 120) (h5 : ¬ b = 122) (h6 : ¬ b = 123) : (wkN m f k x v le).1 b = m.1 b := by
  unfold wkN
  rw [ms_o h6, ms_o h5, ms_o h4, ml_1, ms_o h3, ms_o h2, ms_o h1]
def syM (m : nMem) (k : Nat) (v : Int64) : Bool := if m.1 117 k = 0 then false else if ¬ m.1 118 k = 0 ∧ m.2 119 k = v then true else if m.1 120 k = m.1 104 3 then true else false

theorem l_M_worked175 {L : Nat} {xs : Nat → Int32} {d : Nat} {Q : ax_Q} {m : nMem} {f k : Nat} {v : Int64} {le : Int32} {w6 w7 : Option Value} (hf : f < 12) (hk : k < 12) (ho : m.1 104 27 = nI (f + 1)) (hp : m.1 128 f = nI k) {x : Int32} (hq : Q none (ns_rep (fiM (usM (wkN m f k x v le) k) f k))) : nW L xs (d + 1) ns_I_M_worked Q 175 [some (.ref 104), some (.int (nI f)), some (.int (nI k)), some (.long v), none, some (.int le), w6, w7] [.int x, .int (nI k), .ref 121] 0 0 (ns_rep m) := by
  refine aw_iast (pc' := 176) nd_M_worked_175 rfl rfl k rfl hk pa_Msince ?_
  refine aw_aload_n (pc' := 177) nd_M_worked_176 rfl rfl rfl ?_
  refine aw_get (pc' := 180) nd_M_worked_177 rfl nF_5_51 g_M_noted ?_
  refine aw_iload_n (pc' := 181) nd_M_worked_180 rfl rfl ?_
  refine aw_iconst (pc' := 182) (x := 1) nd_M_worked_181 rfl (by decide) ?_
  refine aw_bast (pc' := 183) nd_M_worked_182 rfl nz1 k rfl hk pa_Mnoted ?_
  refine aw_aload_n (pc' := 184) nd_M_worked_183 rfl rfl rfl ?_
  refine aw_get (pc' := 187) nd_M_worked_184 rfl nF_5_54 g_M_valued ?_
  refine aw_iload_n (pc' := 188) nd_M_worked_187 rfl rfl ?_
  refine aw_iconst (pc' := 189) (x := 1) nd_M_worked_188 rfl (by decide) ?_
  refine aw_bast (pc' := 190) nd_M_worked_189 rfl nz1 k rfl hk pa_Mvalued ?_
  refine aw_aload_n (pc' := 191) nd_M_worked_190 rfl rfl rfl ?_
  refine aw_get (pc' := 194) nd_M_worked_191 rfl nF_5_57 g_M_value ?_
  refine aw_iload_n (pc' := 195) nd_M_worked_194 rfl rfl ?_
  refine aw_lload_n (pc' := 196) nd_M_worked_195 rfl rfl ?_
  refine aw_last (pc' := 197) nd_M_worked_196 rfl k rfl hk pa_Mvalue ?_
  refine aw_aload_n (pc' := 198) nd_M_worked_197 rfl rfl rfl ?_
  refine aw_get (pc' := 201) nd_M_worked_198 rfl nF_5_61 g_M_verified ?_
  refine aw_iload_n (pc' := 202) nd_M_worked_201 rfl rfl ?_
  refine aw_aload_n (pc' := 203) nd_M_worked_202 rfl rfl rfl ?_
  refine aw_get (pc' := 206) nd_M_worked_203 rfl nF_5_13 g_M_revision ?_
  rw [ml_1, ms_o (by decide), ms_o (by decide), ms_o (by decide)]
  refine aw_iast (pc' := 207) nd_M_worked_206 rfl rfl k rfl hk pa_Mverified ?_
  refine aw_aload_n (pc' := 208) nd_M_worked_207 rfl rfl rfl ?_
  refine aw_get (pc' := 211) nd_M_worked_208 rfl nF_5_67 g_M_noteDurable ?_
  refine aw_iload_n (pc' := 212) nd_M_worked_211 rfl rfl ?_
  refine aw_iload (pc' := 214) nd_M_worked_212 rfl rfl ?_
  refine aw_iast (pc' := 215) nd_M_worked_214 rfl rfl k rfl hk pa_MnoteDurable ?_
  refine aw_aload_n (pc' := 216) nd_M_worked_215 rfl rfl rfl ?_
  refine aw_get (pc' := 219) nd_M_worked_216 rfl nF_5_70 g_M_reads ?_
  refine aw_iload_n (pc' := 220) nd_M_worked_219 rfl rfl ?_
  refine aw_aload_n (pc' := 221) nd_M_worked_220 rfl rfl rfl ?_
  refine aw_get (pc' := 224) nd_M_worked_221 rfl nF_5_100 g_M_found ?_
  refine aw_iload_n (pc' := 225) nd_M_worked_224 rfl rfl ?_
  refine aw_iald (pc' := 226) nd_M_worked_225 rfl ga_Mfound f rfl hf ?_
  rw [ms_o (by decide), ms_o (by decide), ml_1, ms_o (by decide), ms_o (by decide), ms_o (by decide)]
  refine aw_iast (pc' := 227) nd_M_worked_226 rfl rfl k rfl hk pa_Mreads ?_
  change nW _ _ _ _ _ 227 _ _ _ _ (ns_rep (wkN m f k x v le))
  refine aw_aload_n (pc' := 228) nd_M_worked_227 rfl rfl rfl ?_
  refine aw_iload_n (pc' := 229) nd_M_worked_228 rfl rfl ?_
  refine aw_callV (pc' := 232) (as := [_]) (st := []) nd_M_worked_229 rfl nC_5_228 ⟨(Nat.le_of_ble_eq_true rfl), rfl, rfl⟩ ns_ioM (Nat.le_of_ble_eq_true rfl) (Nat.le_of_ble_eq_true rfl) (Nat.le_of_ble_eq_true rfl) ?_
  refine c_M_use hk ?_
  change nW _ _ _ _ _ _ _ _ _ _ (ns_rep (usM (wkN m f k x v le) k))
  show nW _ _ _ _ _ 232 _ [] _ _ _
  refine aw_aload_n (pc' := 233) nd_M_worked_232 rfl rfl rfl ?_
  refine aw_callV (pc' := 236) (as := []) (st := []) nd_M_worked_233 rfl nC_5_213 ⟨(Nat.le_of_ble_eq_true rfl), rfl, rfl⟩ ns_ioM (Nat.le_of_ble_eq_true rfl) (Nat.le_of_ble_eq_true rfl) (Nat.le_of_ble_eq_true rfl) ?_
  refine c_M_finish (n := f) (k := k) (by unfold usM; rw [ms_o (by decide), ms_s, pk_un (by decide), wkN_o (by decide) (by decide) (by decide) (by decide) (by decide) (by decide)]; exact ho) hf hk (by unfold usM; rw [ms_o (by decide), ms_o (by decide), wkN_o (by decide) (by decide) (by decide) (by decide) (by decide) (by decide)]; exact hp) ?_
  show nW _ _ _ _ _ 236 _ [] _ _ _
  refine aw_return nd_M_worked_236 rfl (Nat.le_of_ble_eq_true rfl) (Nat.le_of_ble_eq_true rfl) ?_
  exact hq

theorem l_M_worked150 {L : Nat} {xs : Nat → Int32} {d : Nat} {Q : ax_Q} {m : nMem} {f k : Nat} {v : Int64} {le : Int32} {w6 w7 : Option Value} (hf : f < 12) (hk : k < 12) (ho : m.1 104 27 = nI (f + 1)) (hp : m.1 128 f = nI k) (b : Bool) (hq : Q none (ns_rep (fiM (usM (wkN m f k (if b = true then m.1 121 k else m.1 104 3) v le) k) f k))) : nW L xs (d + 1) ns_I_M_worked Q 150 [some (.ref 104), some (.int (nI f)), some (.int (nI k)), some (.long v), none, some (.int le), w6, w7] [.int (bi b)] 0 0 (ns_rep m) := by
  refine aw_istore (pc' := 152) (ls' := [_, _, _, _, _, _, _, _]) nd_M_worked_150 rfl (Nat.le_of_ble_eq_true rfl) rfl ?_
  refine aw_aload_n (pc' := 153) nd_M_worked_152 rfl rfl rfl ?_
  refine aw_get (pc' := 156) nd_M_worked_153 rfl nF_5_64 g_M_since ?_
  refine aw_iload_n (pc' := 157) nd_M_worked_156 rfl rfl ?_
  refine aw_iload (pc' := 159) nd_M_worked_157 rfl rfl ?_
  refine aw_if_eq (pc' := 162) (tg := 171) nd_M_worked_159 (by decide) rfl (fun hb159 => ?_) (fun hb159 => ?_)
  · skip
    refine aw_aload_n (pc' := 172) nd_M_worked_171 rfl rfl rfl ?_
    refine aw_get (pc' := 175) nd_M_worked_172 rfl nF_5_13 g_M_revision ?_
    first
      | (rw [if_pos (bi_t hb159)] at hq; exact l_M_worked175 hf hk ho hp hq)
      | (rw [if_neg (by rw [bi_f hb159]; decide)] at hq; exact l_M_worked175 hf hk ho hp hq)
  · skip
    refine aw_aload_n (pc' := 163) nd_M_worked_162 rfl rfl rfl ?_
    refine aw_get (pc' := 166) nd_M_worked_163 rfl nF_5_64 g_M_since ?_
    refine aw_iload_n (pc' := 167) nd_M_worked_166 rfl rfl ?_
    refine aw_iald (pc' := 168) nd_M_worked_167 rfl ga_Msince k rfl hk ?_
    refine aw_goto (pc' := 175) nd_M_worked_168 (by decide) ?_
    first
      | (rw [if_pos (bi_t hb159)] at hq; exact l_M_worked175 hf hk ho hp hq)
      | (rw [if_neg (by rw [bi_f hb159]; decide)] at hq; exact l_M_worked175 hf hk ho hp hq)

