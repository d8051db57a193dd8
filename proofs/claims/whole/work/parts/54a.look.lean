/-! the model's turns run the class's asking -/
def SB (cd : Nat → pC) (R : nMem → Prop) (d : Nat) : Prop := ∀ (γ μ : nMem) (k f : Nat), WF cd γ → MS cd μ → REL γ μ → μ.1 104 27 = nI f → f + fw γ 12 ≤ 12 → fw γ 12 ≤ d → k < 12 → ¬ γ.1 (nC k) 4 = 0 → γ.1 (nC k) 9 = 0 → ¬ StB γ k → (∀ μ', REL ((bw cd d).1 γ k) μ' → μ'.1 104 27 = nI f → LX f 12 μ μ' → R μ') → R (saM μ f k 0)
def SW (cd : Nat → pC) (R : nMem → Prop) (d : Nat) : Prop := ∀ (γ μ : nMem) (k f : Nat), WF cd γ → MS cd μ → REL (ms γ (nC k) 9 1) μ → μ.1 104 27 = nI (f + 1) → μ.1 128 f = nI k → μ.1 129 f = 2 → f + 1 + fw (ms γ (nC k) 9 1) 12 ≤ 12 → fw (ms γ (nC k) 9 1) 12 < d → k < 12 → ¬ γ.1 (nC k) 4 = 0 → (∀ μ', REL ((bw cd d).2 γ k) μ' → μ'.1 104 27 = nI f → LX f k μ μ' → R μ') → R μ
theorem st_R {γ μ : nMem} {s : Nat} (h : REL γ μ) (hs : s < 12) : stM μ s = true ↔ (γ.1 (nC s) 4 = 0 ∨ StB γ s) := by
  have hc := h.c s hs
  have est : stM μ s = if μ.1 107 s = 0 then true else if μ.1 117 s = 0 then false else if μ.1 120 s = μ.1 104 3 then true else false := rfl
  unfold StB
  rw [est]
  rw [hc.fm, hc.no, h.w.rv]
  by_cases h4 : γ.1 (nC s) 4 = 0
  · simp [h4]
  · by_cases h2 : γ.1 (nN s) 2 = 0
    · simp [h4, h2]
    · rw [(hc.ve h2).1]
      simp [h4, h2]
theorem i32_rt (x : Int32) : x.toInt64.toInt32 = x := by simp
section KK
variable {cd : Nat → pC} {R : nMem → Prop} {d f k s : Nat} {q : Nat × Nat} {tp at_ : Nat}
/-- what step q reads -/
def rdC (q : Nat × Nat) (γ : nMem) (k tp s : Nat) : Prop := (q.1 = 1 ∧ q.2 = s) ∨ (q.1 = 2 ∧ 1 ≤ tp ∧ fm (γ.1 (nK k) (tp - 1)) = s)
theorem look_at (hR : MR R) {x : Nat} {γ μ : nMem} (h : EV cd d f k x γ μ tp at_) (hk : k < 12) (hs : s < 12) (hq : (cd k)[at_]? = some q) (htp : tp < 16) (hc : rdC q γ k tp s) (hth : thM μ f s (rM μ f) = true ∨ rM μ f < 12) (ho : LKo R f k s tp at_ (rn q).1 (afM μ f s (rM μ f))) : R μ := by
  have hK := (h.wf k hk).2.2 h.h4
  have hlt : at_ < (cd k).length := (List.getElem?_eq_some_iff.mp hq).1
  have hM := h.mst k hk (by rw [(h.rl.c k hk).fm]; exact h.h4)
  have hM2 := hM.2 at_ q hq
  have hlen : (cd k).length ≤ 30 := hK.2.1
  have hf12 := h.fr12
  refine hR.look μ f k at_ s tp (rn q).1 (rn q).2 ⟨by omega, hk, h.op, h.fr.cl, h.fr.md, h.fr.ap, by omega, ?_, hM2.1, hM2.2⟩ hs (h.fr.fo' (h.wf k hk).1).1 h.fr.dp htp ?_ hth ho
  · rw [hM.1]
    intro z
    have := (nI_eq (by omega) (by omega)).mp z
    omega
  · rcases hc with ⟨c1, c2⟩ | ⟨c1, c2, c3⟩
    · left
      unfold rn
      rw [c1, c2]
      exact ⟨rfl, rfl⟩
    · right
      refine ⟨by unfold rn; rw [c1]; rfl, c2, ?_⟩
      rw [h.fr.sk (tp - 1) (by omega), i32_rt]
      exact c3
theorem look_again (hR : MR R) {x : Nat} {γ μ : nMem} (h : EV cd d f k x γ μ tp at_) (hk : k < 12) (hs : s < 12) (hq : (cd k)[at_]? = some q) (htp : tp < 16) (hc : rdC q γ k tp s) (hfd : ∃ i, i < cN γ k ∧ rN γ k i = s) (ho : LKo R f k s tp at_ (rn q).1 μ) : R μ := by
  have hW := (h.wf k hk).1
  obtain ⟨g1, g2, g3⟩ := h.fr.fo' hW
  have ht : thM μ f s (rM μ f) = true := by
    rw [thM_iff, g2]
    obtain ⟨i, hi, e⟩ := hfd
    refine ⟨i, hi, ?_⟩
    rw [h.fr.fc i hi, (hW.n.2.2 i hi).1, e]
  have e : afM μ f s (rM μ f) = μ := if_pos ht
  refine look_at hR h hk hs hq htp hc (Or.inl ht) ?_
  rw [e]
  exact ho
/-- the number is pushed -/
theorem EV.push {x : Nat} {γ m : nMem} (h : EV cd d f k x γ m tp at_) (hk : k < 12) {t : Nat} (ht : t ≤ tp) (ht16 : t < 16) {v : Int64} {y : Int32} (hv : v = y.toInt64) {m0 : nMem} (hm : m0 = m ∨ m0 = ms m 131 f (nI t)) (n : Nat) : EV cd d f k x (ms γ (nK k) t y) (ms (psM m0 f t v) 130 f (nI n)) (t + 1) n := by
  have hX0 : LX f k m m0 := by
    rcases hm with rfl | rfl
    · exact LX.rfl
    · exact LX.st (by omega)
  have hX : LX f k m (ms (psM m0 f t v) 130 f (nI n)) := (hX0.trans ps_X).trans (LX.st (by omega))
  have hL : FL γ (ms γ (nK k) t y) := FL.ms fl_K
  have h0 : REL γ m0 := by
    rcases hm with rfl | rfl
    · exact h.rl
    · exact h.rl.fs (by omega)
  have hb : ∀ b j, ¬ b = 131 → m0.1 b j = m.1 b j := fun b j hb => by
    rcases hm with rfl | rfl
    · rfl
    · rw [ms_o hb]
  have h2 : m0.2 = m.2 := by rcases hm with rfl | rfl <;> rfl
  obtain ⟨c1, c2, c3, c4, c5, c6, c7, c8⟩ := h.fr
  obtain ⟨d1, d2, d3⟩ := h.rd
  have hcn : cN (ms γ (nK k) t y) k = cN γ k := by unfold cN; simp [ms_r, ml_r, ms_2, ml_1, ad_CC, ad_CN, ad_CR, ad_CY, ad_CK, ad_C0, ad_0C, ad_C99, ad_99C, ad_NN, ad_NC, ad_NR, ad_NY, ad_NK, ad_N0, ad_0N, ad_N99, ad_99N, ad_N98, ad_98N, ad_RR, ad_RC, ad_RN, ad_RY, ad_RK, ad_R0, ad_0R, ad_R99, ad_99R, ad_R98, ad_98R, ad_YY, ad_YC, ad_YN, ad_YR, ad_YK, ad_Y0, ad_0Y, ad_Y99, ad_99Y, ad_Y98, ad_98Y, ad_KK, ad_KC, ad_KN, ad_KR, ad_KY, ad_K0, ad_0K, ad_K99, ad_99K, ad_K98, ad_98K]
  have hrn : ∀ i, rN (ms γ (nK k) t y) k i = rN γ k i := fun i => by unfold rN; simp [ms_r, ml_r, ms_2, ml_1, ad_CC, ad_CN, ad_CR, ad_CY, ad_CK, ad_C0, ad_0C, ad_C99, ad_99C, ad_NN, ad_NC, ad_NR, ad_NY, ad_NK, ad_N0, ad_0N, ad_N99, ad_99N, ad_N98, ad_98N, ad_RR, ad_RC, ad_RN, ad_RY, ad_RK, ad_R0, ad_0R, ad_R99, ad_99R, ad_R98, ad_98R, ad_YY, ad_YC, ad_YN, ad_YR, ad_YK, ad_Y0, ad_0Y, ad_Y99, ad_99Y, ad_Y98, ad_98Y, ad_KK, ad_KC, ad_KN, ad_KR, ad_KY, ad_K0, ad_0K, ad_K99, ad_99K, ad_K98, ad_98K]
  refine ⟨h.wf.cong (WE.ms (free_K hk)), h.mst.keep hX, ?_, ?_, ⟨?_, ?_, ?_, ?_, fun i hi => ?_, ?_, fun i hi => ?_, ?_⟩, ⟨fun i hi => ?_, fun i hi hne h4 => ?_, fun i j hij hj => ?_⟩, ?_, ?_, ?_, ?_⟩
  · unfold psM
    exact (((h0.fl).fs (by omega)).fs (by omega)).ck
  · unfold psM; simp [ms_r, ml_r, ms_2, ml_1, ad_CC, ad_CN, ad_CR, ad_CY, ad_CK, ad_C0, ad_0C, ad_C99, ad_99C, ad_NN, ad_NC, ad_NR, ad_NY, ad_NK, ad_N0, ad_0N, ad_N99, ad_99N, ad_N98, ad_98N, ad_RR, ad_RC, ad_RN, ad_RY, ad_RK, ad_R0, ad_0R, ad_R99, ad_99R, ad_R98, ad_98R, ad_YY, ad_YC, ad_YN, ad_YR, ad_YK, ad_Y0, ad_0Y, ad_Y99, ad_99Y, ad_Y98, ad_98Y, ad_KK, ad_KC, ad_KN, ad_KR, ad_KY, ad_K0, ad_0K, ad_K99, ad_99K, ad_K98, ad_98K, hb, h.op]
  · unfold psM; simp [ms_r, ml_r, ms_2, ml_1, ad_CC, ad_CN, ad_CR, ad_CY, ad_CK, ad_C0, ad_0C, ad_C99, ad_99C, ad_NN, ad_NC, ad_NR, ad_NY, ad_NK, ad_N0, ad_0N, ad_N99, ad_99N, ad_N98, ad_98N, ad_RR, ad_RC, ad_RN, ad_RY, ad_RK, ad_R0, ad_0R, ad_R99, ad_99R, ad_R98, ad_98R, ad_YY, ad_YC, ad_YN, ad_YR, ad_YK, ad_Y0, ad_0Y, ad_Y99, ad_99Y, ad_Y98, ad_98Y, ad_KK, ad_KC, ad_KN, ad_KR, ad_KY, ad_K0, ad_0K, ad_K99, ad_99K, ad_K98, ad_98K, hb, c1]
  · unfold psM; simp [ms_r, ml_r, ms_2, ml_1, ad_CC, ad_CN, ad_CR, ad_CY, ad_CK, ad_C0, ad_0C, ad_C99, ad_99C, ad_NN, ad_NC, ad_NR, ad_NY, ad_NK, ad_N0, ad_0N, ad_N99, ad_99N, ad_N98, ad_98N, ad_RR, ad_RC, ad_RN, ad_RY, ad_RK, ad_R0, ad_0R, ad_R99, ad_99R, ad_R98, ad_98R, ad_YY, ad_YC, ad_YN, ad_YR, ad_YK, ad_Y0, ad_0Y, ad_Y99, ad_99Y, ad_Y98, ad_98Y, ad_KK, ad_KC, ad_KN, ad_KR, ad_KY, ad_K0, ad_0K, ad_K99, ad_99K, ad_K98, ad_98K, hb, c2]
  · simp [ms_r, ml_r, ms_2, ml_1, ad_CC, ad_CN, ad_CR, ad_CY, ad_CK, ad_C0, ad_0C, ad_C99, ad_99C, ad_NN, ad_NC, ad_NR, ad_NY, ad_NK, ad_N0, ad_0N, ad_N99, ad_99N, ad_N98, ad_98N, ad_RR, ad_RC, ad_RN, ad_RY, ad_RK, ad_R0, ad_0R, ad_R99, ad_99R, ad_R98, ad_98R, ad_YY, ad_YC, ad_YN, ad_YR, ad_YK, ad_Y0, ad_0Y, ad_Y99, ad_99Y, ad_Y98, ad_98Y, ad_KK, ad_KC, ad_KN, ad_KR, ad_KY, ad_K0, ad_0K, ad_K99, ad_99K, ad_K98, ad_98K]
  · unfold psM; simp [ms_r, ml_r, ms_2, ml_1, ad_CC, ad_CN, ad_CR, ad_CY, ad_CK, ad_C0, ad_0C, ad_C99, ad_99C, ad_NN, ad_NC, ad_NR, ad_NY, ad_NK, ad_N0, ad_0N, ad_N99, ad_99N, ad_N98, ad_98N, ad_RR, ad_RC, ad_RN, ad_RY, ad_RK, ad_R0, ad_0R, ad_R99, ad_99R, ad_R98, ad_98R, ad_YY, ad_YC, ad_YN, ad_YR, ad_YK, ad_Y0, ad_0Y, ad_Y99, ad_99Y, ad_Y98, ad_98Y, ad_KK, ad_KC, ad_KN, ad_KR, ad_KY, ad_K0, ad_0K, ad_K99, ad_99K, ad_K98, ad_98K]
  · unfold psM
    simp [ms_r, ml_r, ms_2, ml_1, ad_CC, ad_CN, ad_CR, ad_CY, ad_CK, ad_C0, ad_0C, ad_C99, ad_99C, ad_NN, ad_NC, ad_NR, ad_NY, ad_NK, ad_N0, ad_0N, ad_N99, ad_99N, ad_N98, ad_98N, ad_RR, ad_RC, ad_RN, ad_RY, ad_RK, ad_R0, ad_0R, ad_R99, ad_99R, ad_R98, ad_98R, ad_YY, ad_YC, ad_YN, ad_YR, ad_YK, ad_Y0, ad_0Y, ad_Y99, ad_99Y, ad_Y98, ad_98Y, ad_KK, ad_KC, ad_KN, ad_KR, ad_KY, ad_K0, ad_0K, ad_K99, ad_99K, ad_K98, ad_98K, h2]
    by_cases e : i = t
    · simp [e, hv]
    · simp [e, c5 i (by omega)]
  · unfold psM; simp [ms_r, ml_r, ms_2, ml_1, ad_CC, ad_CN, ad_CR, ad_CY, ad_CK, ad_C0, ad_0C, ad_C99, ad_99C, ad_NN, ad_NC, ad_NR, ad_NY, ad_NK, ad_N0, ad_0N, ad_N99, ad_99N, ad_N98, ad_98N, ad_RR, ad_RC, ad_RN, ad_RY, ad_RK, ad_R0, ad_0R, ad_R99, ad_99R, ad_R98, ad_98R, ad_YY, ad_YC, ad_YN, ad_YR, ad_YK, ad_Y0, ad_0Y, ad_Y99, ad_99Y, ad_Y98, ad_98Y, ad_KK, ad_KC, ad_KN, ad_KR, ad_KY, ad_K0, ad_0K, ad_K99, ad_99K, ad_K98, ad_98K, hb, c6]
  · rw [hcn] at hi
    unfold psM; simp [ms_r, ml_r, ms_2, ml_1, ad_CC, ad_CN, ad_CR, ad_CY, ad_CK, ad_C0, ad_0C, ad_C99, ad_99C, ad_NN, ad_NC, ad_NR, ad_NY, ad_NK, ad_N0, ad_0N, ad_N99, ad_99N, ad_N98, ad_98N, ad_RR, ad_RC, ad_RN, ad_RY, ad_RK, ad_R0, ad_0R, ad_R99, ad_99R, ad_R98, ad_98R, ad_YY, ad_YC, ad_YN, ad_YR, ad_YK, ad_Y0, ad_0Y, ad_Y99, ad_99Y, ad_Y98, ad_98Y, ad_KK, ad_KC, ad_KN, ad_KR, ad_KY, ad_K0, ad_0K, ad_K99, ad_99K, ad_K98, ad_98K, hb, c7 i hi]
  · unfold psM; simp [ms_r, ml_r, ms_2, ml_1, ad_CC, ad_CN, ad_CR, ad_CY, ad_CK, ad_C0, ad_0C, ad_C99, ad_99C, ad_NN, ad_NC, ad_NR, ad_NY, ad_NK, ad_N0, ad_0N, ad_N99, ad_99N, ad_N98, ad_98N, ad_RR, ad_RC, ad_RN, ad_RY, ad_RK, ad_R0, ad_0R, ad_R99, ad_99R, ad_R98, ad_98R, ad_YY, ad_YC, ad_YN, ad_YR, ad_YK, ad_Y0, ad_0Y, ad_Y99, ad_99Y, ad_Y98, ad_98Y, ad_KK, ad_KC, ad_KN, ad_KR, ad_KY, ad_K0, ad_0K, ad_K99, ad_99K, ad_K98, ad_98K, hb, c8]
  · rw [hcn] at hi; rw [hrn]; simpa [ms_r, ml_r, ms_2, ml_1, ad_CC, ad_CN, ad_CR, ad_CY, ad_CK, ad_C0, ad_0C, ad_C99, ad_99C, ad_NN, ad_NC, ad_NR, ad_NY, ad_NK, ad_N0, ad_0N, ad_N99, ad_99N, ad_N98, ad_98N, ad_RR, ad_RC, ad_RN, ad_RY, ad_RK, ad_R0, ad_0R, ad_R99, ad_99R, ad_R98, ad_98R, ad_YY, ad_YC, ad_YN, ad_YR, ad_YK, ad_Y0, ad_0Y, ad_Y99, ad_99Y, ad_Y98, ad_98Y, ad_KK, ad_KC, ad_KN, ad_KR, ad_KY, ad_K0, ad_0K, ad_K99, ad_99K, ad_K98, ad_98K] using d1 i hi
  · rw [hcn] at hi; rw [hrn] at hne h4 ⊢; simp [ms_r, ml_r, ms_2, ml_1, ad_CC, ad_CN, ad_CR, ad_CY, ad_CK, ad_C0, ad_0C, ad_C99, ad_99C, ad_NN, ad_NC, ad_NR, ad_NY, ad_NK, ad_N0, ad_0N, ad_N99, ad_99N, ad_N98, ad_98N, ad_RR, ad_RC, ad_RN, ad_RY, ad_RK, ad_R0, ad_0R, ad_R99, ad_99R, ad_R98, ad_98R, ad_YY, ad_YC, ad_YN, ad_YR, ad_YK, ad_Y0, ad_0Y, ad_Y99, ad_99Y, ad_Y98, ad_98Y, ad_KK, ad_KC, ad_KN, ad_KR, ad_KY, ad_K0, ad_0K, ad_K99, ad_99K, ad_K98, ad_98K] at h4 ⊢; exact d2 i hi hne h4
  · rw [hcn] at hj; simpa [ms_r, ml_r, ms_2, ml_1, ad_CC, ad_CN, ad_CR, ad_CY, ad_CK, ad_C0, ad_0C, ad_C99, ad_99C, ad_NN, ad_NC, ad_NR, ad_NY, ad_NK, ad_N0, ad_0N, ad_N99, ad_99N, ad_N98, ad_98N, ad_RR, ad_RC, ad_RN, ad_RY, ad_RK, ad_R0, ad_0R, ad_R99, ad_99R, ad_R98, ad_98R, ad_YY, ad_YC, ad_YN, ad_YR, ad_YK, ad_Y0, ad_0Y, ad_Y99, ad_99Y, ad_Y98, ad_98Y, ad_KK, ad_KC, ad_KN, ad_KR, ad_KY, ad_K0, ad_0K, ad_K99, ad_99K, ad_K98, ad_98K] using d3 i j hij hj
  · simpa [ms_r, ml_r, ms_2, ml_1, ad_CC, ad_CN, ad_CR, ad_CY, ad_CK, ad_C0, ad_0C, ad_C99, ad_99C, ad_NN, ad_NC, ad_NR, ad_NY, ad_NK, ad_N0, ad_0N, ad_N99, ad_99N, ad_N98, ad_98N, ad_RR, ad_RC, ad_RN, ad_RY, ad_RK, ad_R0, ad_0R, ad_R99, ad_99R, ad_R98, ad_98R, ad_YY, ad_YC, ad_YN, ad_YR, ad_YK, ad_Y0, ad_0Y, ad_Y99, ad_99Y, ad_Y98, ad_98Y, ad_KK, ad_KC, ad_KN, ad_KR, ad_KY, ad_K0, ad_0K, ad_K99, ad_99K, ad_K98, ad_98K] using h.h4
  · simpa [ms_r, ml_r, ms_2, ml_1, ad_CC, ad_CN, ad_CR, ad_CY, ad_CK, ad_C0, ad_0C, ad_C99, ad_99C, ad_NN, ad_NC, ad_NR, ad_NY, ad_NK, ad_N0, ad_0N, ad_N99, ad_99N, ad_N98, ad_98N, ad_RR, ad_RC, ad_RN, ad_RY, ad_RK, ad_R0, ad_0R, ad_R99, ad_99R, ad_R98, ad_98R, ad_YY, ad_YC, ad_YN, ad_YR, ad_YK, ad_Y0, ad_0Y, ad_Y99, ad_99Y, ad_Y98, ad_98Y, ad_KK, ad_KC, ad_KN, ad_KR, ad_KY, ad_K0, ad_0K, ad_K99, ad_99K, ad_K98, ad_98K] using h.h9
  · rw [fw_FL hL 12 (Nat.le_refl _)]; exact h.fr12
  · rw [fw_FL hL 12 (Nat.le_refl _)]; exact h.fd
/-- what follows a read -/
abbrev PO (cd : Nat → pC) (R : nMem → Prop) (d f k tp at_ : Nat) (q : Nat × Nat) (m : nMem) (v : Int64) (u : nMem) : Prop := (v = BADv → ∀ μ', REL (wEnd u k BADv) μ' → μ'.1 104 27 = nI f → LX f k m μ' → R μ') ∧ (¬ v = BADv → ∀ μ', EV cd d f k 12 (ms u (nK k) (if q.1 = 2 then tp - 1 else tp) v.toInt32) μ' ((if q.1 = 2 then tp - 1 else tp) + 1) (at_ + 1) → LX f k m μ' → R μ')
theorem PO.bad {cd : Nat → pC} {R : nMem → Prop} {d f k tp at_ : Nat} {q : Nat × Nat} {m : nMem} {v : Int64} {u : nMem} (h : PO cd R d f k tp at_ q m v u) : v = BADv → ∀ μ', REL (wEnd u k BADv) μ' → μ'.1 104 27 = nI f → LX f k m μ' → R μ' := h.1
theorem PO.got {cd : Nat → pC} {R : nMem → Prop} {d f k tp at_ : Nat} {q : Nat × Nat} {m : nMem} {v : Int64} {u : nMem} (h : PO cd R d f k tp at_ q m v u) : ¬ v = BADv → ∀ μ', EV cd d f k 12 (ms u (nK k) (if q.1 = 2 then tp - 1 else tp) v.toInt32) μ' ((if q.1 = 2 then tp - 1 else tp) + 1) (at_ + 1) → LX f k m μ' → R μ' := h.2
theorem PO.mono {m m' : nMem} {v : Int64} {u : nMem} (h : PO cd R d f k tp at_ q m v u) (hX : LX f k m m') : PO cd R d f k tp at_ q m' v u :=
  ⟨fun e μ' h1 h2 h3 => h.bad e μ' h1 h2 (hX.trans h3), fun e μ' h1 h2 => h.got e μ' h1 (hX.trans h2)⟩
theorem rn2 {γ : nMem} (hc : rdC q γ k tp s) : ((rn q).1 = 2) = (q.1 = 2) := by
  unfold rn
  rcases hc with ⟨c1, _⟩ | ⟨c1, _⟩ <;> rw [c1]
  · exact (eq_false (by show ¬ nI 1 = 2; decide)).trans (eq_false (by decide)).symm
  · exact (eq_true (by show nI 2 = 2; decide)).trans (eq_true rfl).symm
theorem lk4 {γ m : nMem} (h : EV cd d f k 12 γ m tp at_) (hk : k < 12) (hs : s < 12) (htp : tp < 16) (hc : rdC q γ k tp s) (h9 : γ.1 (nC s) 9 = 0) (hst : γ.1 (nC s) 4 = 0 ∨ (StB γ s ∧ ¬ γ.1 (nN s) 3 = 0)) {v : Int64} {u : nMem} (hv : v = if γ.1 (nC s) 4 = 0 then (γ.1 (nC s) 6).toInt64 else γ.2 (nN s) 4) (hu : u = if γ.1 (nC s) 4 = 0 then γ else mU γ s) (hP : PO cd R d f k tp at_ q m v u) : LKo R f k s tp at_ (rn q).1 m := by
  have hrc := h.rl.c s hs
  have hst2 : stM m s = true := (st_R h.rl hs).mpr (by rcases hst with z | z; exact Or.inl z; exact Or.inr z.1)
  have hlv : lkv m s = v := by
    unfold lkv
    rw [hrc.fm, hrc.nu, hv]
    by_cases h4 : γ.1 (nC s) 4 = 0
    · rw [if_pos h4, if_pos h4]
    · rw [if_neg h4, if_neg h4]
      rcases hst with z | z
      · exact absurd z h4
      · exact (hrc.vl z.2).1
  have hE : EV cd d f k 12 u (lku m s) tp at_ := by
    unfold lku
    rw [hrc.fm, hu]
    by_cases h4 : γ.1 (nC s) 4 = 0
    · rw [if_pos h4, if_pos h4]; exact h
    · rw [if_neg h4, if_neg h4]; exact h.use hs
  have hX : LX f k m (lku m s) := by
    unfold lku
    split
    · exact LX.rfl
    · exact us_X
  have hr : v = BADv ∨ ∃ x : Int32, v = x.toInt64 := by
    rw [hv]
    by_cases h4 : γ.1 (nC s) 4 = 0
    · rw [if_pos h4]; exact Or.inr ⟨_, rfl⟩
    · rw [if_neg h4]
      rcases hst with z | z
      · exact absurd z h4
      · exact (hrc.vl z.2).2
  refine ⟨fun z => absurd (by rw [hrc.aw]; exact h9) z, fun _ z => (by rw [hst2] at z; cases z), fun _ _ z1 z2 => ?_, fun _ _ _ e => ?_, fun _ _ _ e => ?_⟩
  · exfalso
    rw [hrc.fm] at z1
    rw [hrc.va] at z2
    rcases hst with z | z
    · exact z1 z
    · exact z.2 z2
  · rw [hlv] at e
    exact hP.bad e _ (hE.work hk (Or.inl rfl)) wkX_27 (hX.trans (wk_X (hE.fr.fo' (hE.wf k hk).1).1.2.1))
  · rw [hlv] at e
    obtain ⟨x, hx⟩ : ∃ x : Int32, v = x.toInt64 := by
      rcases hr with z | z
      · exact absurd z e
      · exact z
    unfold lkp
    rw [hlv]
    simp only [rn2 hc]
    have hxx : v.toInt32 = x := by rw [hx, i32_rt]
    have hEp : EV cd d f k 12 (ms u (nK k) (if q.1 = 2 then tp - 1 else tp) v.toInt32) (ms (psM (if q.1 = 2 then ms (lku m s) 131 f (nI (tp - 1)) else lku m s) f (if q.1 = 2 then tp - 1 else tp) v) 130 f (nI (at_ + 1))) ((if q.1 = 2 then tp - 1 else tp) + 1) (at_ + 1) := by
      refine hE.push hk (by split <;> omega) (by split <;> omega) (by rw [hxx]; exact hx) ?_ _
      by_cases h2 : q.1 = 2
      · rw [if_pos h2, if_pos h2]; exact Or.inr rfl
      · rw [if_neg h2]; exact Or.inl rfl
    refine hP.got e _ hEp ?_
    refine hX.trans (LX.trans (LX.trans ?_ ps_X) (LX.st (by omega)))
    split
    · exact LX.st (by omega)
    · exact LX.rfl
end KK
