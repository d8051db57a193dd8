theorem ms_comm {μ : nMem} {a i b j : Nat} {x y : Int32} (h : ¬ a = b) : ms (ms μ a i x) b j y = ms (ms μ b j y) a i x := by
  unfold ms
  refine Prod.ext ?_ rfl
  funext c
  dsimp only
  by_cases h1 : c = a
  · have h2 : ¬ c = b := fun z => h (h1.symm.trans z)
    subst h1
    rw [if_neg h2, if_pos rfl, if_pos rfl, if_neg h]
  · by_cases h2 : c = b
    · subst h2
      rw [if_pos rfl, if_neg h1, if_neg h1, if_pos rfl]
    · rw [if_neg h1, if_neg h2, if_neg h1, if_neg h2]
theorem ps_c {μ : nMem} {f t j : Nat} {v : Int64} {x : Int32} : psM (ms μ 130 j x) f t v = ms (psM μ f t v) 130 j x := by
  unfold psM
  rw [show ml (ms μ 130 j x) 132 (16 * f + t) v = ms (ml μ 132 (16 * f + t) v) 130 j x from rfl, ms_comm (by decide)]
theorem i64_0 (x : Int32) : x.toInt64 = 0 ↔ x = 0 := ⟨fun h => by rw [← i32_rt x, h]; rfl, fun h => by rw [h]; rfl⟩
theorem cb_eq {a : Nat} (x y : Int32) (h : 6 ≤ a ∧ a ≤ 10) : cbM (nI (opR a)) x y = (cmb a x y).toInt64 ∧ (nI (opR a) = 4 ∨ nI (opR a) = 5 ∨ nI (opR a) = 6 ∨ nI (opR a) = 7 ∨ nI (opR a) = 8) := by
  rcases (show a = 6 ∨ a = 7 ∨ a = 8 ∨ a = 9 ∨ a = 10 by omega) with rfl | rfl | rfl | rfl | rfl
  · exact ⟨rfl, by decide⟩
  · exact ⟨rfl, by decide⟩
  · exact ⟨rfl, by decide⟩
  · refine ⟨?_, by decide⟩
    show (if x < y then (1 : Int64) else 0) = (bi (decide (x < y))).toInt64
    by_cases h : x < y
    · rw [if_pos h, decide_eq_true h]; rfl
    · rw [if_neg h, decide_eq_false h]; rfl
  · refine ⟨?_, by decide⟩
    show (if x = y then (1 : Int64) else 0) = (bi (decide (x = y))).toInt64
    by_cases h : x = y
    · rw [if_pos h, decide_eq_true h]; rfl
    · rw [if_neg h, decide_eq_false h]; rfl
section MM
variable {cd : Nat → pC} {R : nMem → Prop} {d f k : Nat} {tp at_ : Nat}
theorem EV.go {x : Nat} {γ m : nMem} (h : EV cd d f k x γ m tp at_) {t : Nat} (ht : t ≤ tp) (n : Nat) : EV cd d f k x γ (ms (ms m 131 f (nI t)) 130 f (nI n)) t n := by
  obtain ⟨a1, a2, a3, a4, ⟨c1, c2, c3, c4, c5, c6, c7, c8⟩, a6, a7, a8, a9, b1⟩ := h
  refine ⟨a1, a2.keep ((LX.st (f := f) (k := k) (by omega)).trans (LX.st (by omega))), (a3.fs (by omega)).fs (by omega), ?_, ⟨?_, ?_, ?_, ?_, fun i hi => ?_, ?_, fun i hi => ?_, ?_⟩, a6, a7, a8, a9, b1⟩
  · simpa [ms_r, ml_r, ms_2, ml_1, ad_CC, ad_CN, ad_CR, ad_CY, ad_CK, ad_C0, ad_0C, ad_C99, ad_99C, ad_NN, ad_NC, ad_NR, ad_NY, ad_NK, ad_N0, ad_0N, ad_N99, ad_99N, ad_N98, ad_98N, ad_RR, ad_RC, ad_RN, ad_RY, ad_RK, ad_R0, ad_0R, ad_R99, ad_99R, ad_R98, ad_98R, ad_YY, ad_YC, ad_YN, ad_YR, ad_YK, ad_Y0, ad_0Y, ad_Y99, ad_99Y, ad_Y98, ad_98Y, ad_KK, ad_KC, ad_KN, ad_KR, ad_KY, ad_K0, ad_0K, ad_K99, ad_99K, ad_K98, ad_98K] using a4
  · simpa [ms_r, ml_r, ms_2, ml_1, ad_CC, ad_CN, ad_CR, ad_CY, ad_CK, ad_C0, ad_0C, ad_C99, ad_99C, ad_NN, ad_NC, ad_NR, ad_NY, ad_NK, ad_N0, ad_0N, ad_N99, ad_99N, ad_N98, ad_98N, ad_RR, ad_RC, ad_RN, ad_RY, ad_RK, ad_R0, ad_0R, ad_R99, ad_99R, ad_R98, ad_98R, ad_YY, ad_YC, ad_YN, ad_YR, ad_YK, ad_Y0, ad_0Y, ad_Y99, ad_99Y, ad_Y98, ad_98Y, ad_KK, ad_KC, ad_KN, ad_KR, ad_KY, ad_K0, ad_0K, ad_K99, ad_99K, ad_K98, ad_98K] using c1
  · simpa [ms_r, ml_r, ms_2, ml_1, ad_CC, ad_CN, ad_CR, ad_CY, ad_CK, ad_C0, ad_0C, ad_C99, ad_99C, ad_NN, ad_NC, ad_NR, ad_NY, ad_NK, ad_N0, ad_0N, ad_N99, ad_99N, ad_N98, ad_98N, ad_RR, ad_RC, ad_RN, ad_RY, ad_RK, ad_R0, ad_0R, ad_R99, ad_99R, ad_R98, ad_98R, ad_YY, ad_YC, ad_YN, ad_YR, ad_YK, ad_Y0, ad_0Y, ad_Y99, ad_99Y, ad_Y98, ad_98Y, ad_KK, ad_KC, ad_KN, ad_KR, ad_KY, ad_K0, ad_0K, ad_K99, ad_99K, ad_K98, ad_98K] using c2
  · simp [ms_r, ml_r, ms_2, ml_1, ad_CC, ad_CN, ad_CR, ad_CY, ad_CK, ad_C0, ad_0C, ad_C99, ad_99C, ad_NN, ad_NC, ad_NR, ad_NY, ad_NK, ad_N0, ad_0N, ad_N99, ad_99N, ad_N98, ad_98N, ad_RR, ad_RC, ad_RN, ad_RY, ad_RK, ad_R0, ad_0R, ad_R99, ad_99R, ad_R98, ad_98R, ad_YY, ad_YC, ad_YN, ad_YR, ad_YK, ad_Y0, ad_0Y, ad_Y99, ad_99Y, ad_Y98, ad_98Y, ad_KK, ad_KC, ad_KN, ad_KR, ad_KY, ad_K0, ad_0K, ad_K99, ad_99K, ad_K98, ad_98K]
  · simp [ms_r, ml_r, ms_2, ml_1, ad_CC, ad_CN, ad_CR, ad_CY, ad_CK, ad_C0, ad_0C, ad_C99, ad_99C, ad_NN, ad_NC, ad_NR, ad_NY, ad_NK, ad_N0, ad_0N, ad_N99, ad_99N, ad_N98, ad_98N, ad_RR, ad_RC, ad_RN, ad_RY, ad_RK, ad_R0, ad_0R, ad_R99, ad_99R, ad_R98, ad_98R, ad_YY, ad_YC, ad_YN, ad_YR, ad_YK, ad_Y0, ad_0Y, ad_Y99, ad_99Y, ad_Y98, ad_98Y, ad_KK, ad_KC, ad_KN, ad_KR, ad_KY, ad_K0, ad_0K, ad_K99, ad_99K, ad_K98, ad_98K]
  · simpa [ms_r, ml_r, ms_2, ml_1, ad_CC, ad_CN, ad_CR, ad_CY, ad_CK, ad_C0, ad_0C, ad_C99, ad_99C, ad_NN, ad_NC, ad_NR, ad_NY, ad_NK, ad_N0, ad_0N, ad_N99, ad_99N, ad_N98, ad_98N, ad_RR, ad_RC, ad_RN, ad_RY, ad_RK, ad_R0, ad_0R, ad_R99, ad_99R, ad_R98, ad_98R, ad_YY, ad_YC, ad_YN, ad_YR, ad_YK, ad_Y0, ad_0Y, ad_Y99, ad_99Y, ad_Y98, ad_98Y, ad_KK, ad_KC, ad_KN, ad_KR, ad_KY, ad_K0, ad_0K, ad_K99, ad_99K, ad_K98, ad_98K] using c5 i (by omega)
  · simpa [ms_r, ml_r, ms_2, ml_1, ad_CC, ad_CN, ad_CR, ad_CY, ad_CK, ad_C0, ad_0C, ad_C99, ad_99C, ad_NN, ad_NC, ad_NR, ad_NY, ad_NK, ad_N0, ad_0N, ad_N99, ad_99N, ad_N98, ad_98N, ad_RR, ad_RC, ad_RN, ad_RY, ad_RK, ad_R0, ad_0R, ad_R99, ad_99R, ad_R98, ad_98R, ad_YY, ad_YC, ad_YN, ad_YR, ad_YK, ad_Y0, ad_0Y, ad_Y99, ad_99Y, ad_Y98, ad_98Y, ad_KK, ad_KC, ad_KN, ad_KR, ad_KY, ad_K0, ad_0K, ad_K99, ad_99K, ad_K98, ad_98K] using c6
  · simpa [ms_r, ml_r, ms_2, ml_1, ad_CC, ad_CN, ad_CR, ad_CY, ad_CK, ad_C0, ad_0C, ad_C99, ad_99C, ad_NN, ad_NC, ad_NR, ad_NY, ad_NK, ad_N0, ad_0N, ad_N99, ad_99N, ad_N98, ad_98N, ad_RR, ad_RC, ad_RN, ad_RY, ad_RK, ad_R0, ad_0R, ad_R99, ad_99R, ad_R98, ad_98R, ad_YY, ad_YC, ad_YN, ad_YR, ad_YK, ad_Y0, ad_0Y, ad_Y99, ad_99Y, ad_Y98, ad_98Y, ad_KK, ad_KC, ad_KN, ad_KR, ad_KY, ad_K0, ad_0K, ad_K99, ad_99K, ad_K98, ad_98K] using c7 i hi
  · simpa [ms_r, ml_r, ms_2, ml_1, ad_CC, ad_CN, ad_CR, ad_CY, ad_CK, ad_C0, ad_0C, ad_C99, ad_99C, ad_NN, ad_NC, ad_NR, ad_NY, ad_NK, ad_N0, ad_0N, ad_N99, ad_99N, ad_N98, ad_98N, ad_RR, ad_RC, ad_RN, ad_RY, ad_RK, ad_R0, ad_0R, ad_R99, ad_99R, ad_R98, ad_98R, ad_YY, ad_YC, ad_YN, ad_YR, ad_YK, ad_Y0, ad_0Y, ad_Y99, ad_99Y, ad_Y98, ad_98Y, ad_KK, ad_KC, ad_KN, ad_KR, ad_KY, ad_K0, ad_0K, ad_K99, ad_99K, ad_K98, ad_98K] using c8
theorem EV.goto {x : Nat} {γ m : nMem} (h : EV cd d f k x γ m tp at_) (n : Nat) : EV cd d f k x γ (ms m 130 f (nI n)) tp n := by
  obtain ⟨a1, a2, a3, a4, ⟨c1, c2, c3, c4, c5, c6, c7, c8⟩, a6, a7, a8, a9, b1⟩ := h
  refine ⟨a1, a2.keep (LX.st (f := f) (k := k) (by omega)), a3.fs (by omega), ?_, ⟨?_, ?_, ?_, ?_, fun i hi => ?_, ?_, fun i hi => ?_, ?_⟩, a6, a7, a8, a9, b1⟩
  · simpa [ms_r, ml_r, ms_2, ml_1, ad_CC, ad_CN, ad_CR, ad_CY, ad_CK, ad_C0, ad_0C, ad_C99, ad_99C, ad_NN, ad_NC, ad_NR, ad_NY, ad_NK, ad_N0, ad_0N, ad_N99, ad_99N, ad_N98, ad_98N, ad_RR, ad_RC, ad_RN, ad_RY, ad_RK, ad_R0, ad_0R, ad_R99, ad_99R, ad_R98, ad_98R, ad_YY, ad_YC, ad_YN, ad_YR, ad_YK, ad_Y0, ad_0Y, ad_Y99, ad_99Y, ad_Y98, ad_98Y, ad_KK, ad_KC, ad_KN, ad_KR, ad_KY, ad_K0, ad_0K, ad_K99, ad_99K, ad_K98, ad_98K] using a4
  · simpa [ms_r, ml_r, ms_2, ml_1, ad_CC, ad_CN, ad_CR, ad_CY, ad_CK, ad_C0, ad_0C, ad_C99, ad_99C, ad_NN, ad_NC, ad_NR, ad_NY, ad_NK, ad_N0, ad_0N, ad_N99, ad_99N, ad_N98, ad_98N, ad_RR, ad_RC, ad_RN, ad_RY, ad_RK, ad_R0, ad_0R, ad_R99, ad_99R, ad_R98, ad_98R, ad_YY, ad_YC, ad_YN, ad_YR, ad_YK, ad_Y0, ad_0Y, ad_Y99, ad_99Y, ad_Y98, ad_98Y, ad_KK, ad_KC, ad_KN, ad_KR, ad_KY, ad_K0, ad_0K, ad_K99, ad_99K, ad_K98, ad_98K] using c1
  · simpa [ms_r, ml_r, ms_2, ml_1, ad_CC, ad_CN, ad_CR, ad_CY, ad_CK, ad_C0, ad_0C, ad_C99, ad_99C, ad_NN, ad_NC, ad_NR, ad_NY, ad_NK, ad_N0, ad_0N, ad_N99, ad_99N, ad_N98, ad_98N, ad_RR, ad_RC, ad_RN, ad_RY, ad_RK, ad_R0, ad_0R, ad_R99, ad_99R, ad_R98, ad_98R, ad_YY, ad_YC, ad_YN, ad_YR, ad_YK, ad_Y0, ad_0Y, ad_Y99, ad_99Y, ad_Y98, ad_98Y, ad_KK, ad_KC, ad_KN, ad_KR, ad_KY, ad_K0, ad_0K, ad_K99, ad_99K, ad_K98, ad_98K] using c2
  · simp [ms_r, ml_r, ms_2, ml_1, ad_CC, ad_CN, ad_CR, ad_CY, ad_CK, ad_C0, ad_0C, ad_C99, ad_99C, ad_NN, ad_NC, ad_NR, ad_NY, ad_NK, ad_N0, ad_0N, ad_N99, ad_99N, ad_N98, ad_98N, ad_RR, ad_RC, ad_RN, ad_RY, ad_RK, ad_R0, ad_0R, ad_R99, ad_99R, ad_R98, ad_98R, ad_YY, ad_YC, ad_YN, ad_YR, ad_YK, ad_Y0, ad_0Y, ad_Y99, ad_99Y, ad_Y98, ad_98Y, ad_KK, ad_KC, ad_KN, ad_KR, ad_KY, ad_K0, ad_0K, ad_K99, ad_99K, ad_K98, ad_98K]
  · simpa [ms_r, ml_r, ms_2, ml_1, ad_CC, ad_CN, ad_CR, ad_CY, ad_CK, ad_C0, ad_0C, ad_C99, ad_99C, ad_NN, ad_NC, ad_NR, ad_NY, ad_NK, ad_N0, ad_0N, ad_N99, ad_99N, ad_N98, ad_98N, ad_RR, ad_RC, ad_RN, ad_RY, ad_RK, ad_R0, ad_0R, ad_R99, ad_99R, ad_R98, ad_98R, ad_YY, ad_YC, ad_YN, ad_YR, ad_YK, ad_Y0, ad_0Y, ad_Y99, ad_99Y, ad_Y98, ad_98Y, ad_KK, ad_KC, ad_KN, ad_KR, ad_KY, ad_K0, ad_0K, ad_K99, ad_99K, ad_K98, ad_98K] using c4
  · simpa [ms_r, ml_r, ms_2, ml_1, ad_CC, ad_CN, ad_CR, ad_CY, ad_CK, ad_C0, ad_0C, ad_C99, ad_99C, ad_NN, ad_NC, ad_NR, ad_NY, ad_NK, ad_N0, ad_0N, ad_N99, ad_99N, ad_N98, ad_98N, ad_RR, ad_RC, ad_RN, ad_RY, ad_RK, ad_R0, ad_0R, ad_R99, ad_99R, ad_R98, ad_98R, ad_YY, ad_YC, ad_YN, ad_YR, ad_YK, ad_Y0, ad_0Y, ad_Y99, ad_99Y, ad_Y98, ad_98Y, ad_KK, ad_KC, ad_KN, ad_KR, ad_KY, ad_K0, ad_0K, ad_K99, ad_99K, ad_K98, ad_98K] using c5 i hi
  · simpa [ms_r, ml_r, ms_2, ml_1, ad_CC, ad_CN, ad_CR, ad_CY, ad_CK, ad_C0, ad_0C, ad_C99, ad_99C, ad_NN, ad_NC, ad_NR, ad_NY, ad_NK, ad_N0, ad_0N, ad_N99, ad_99N, ad_N98, ad_98N, ad_RR, ad_RC, ad_RN, ad_RY, ad_RK, ad_R0, ad_0R, ad_R99, ad_99R, ad_R98, ad_98R, ad_YY, ad_YC, ad_YN, ad_YR, ad_YK, ad_Y0, ad_0Y, ad_Y99, ad_99Y, ad_Y98, ad_98Y, ad_KK, ad_KC, ad_KN, ad_KR, ad_KY, ad_K0, ad_0K, ad_K99, ad_99K, ad_K98, ad_98K] using c6
  · simpa [ms_r, ml_r, ms_2, ml_1, ad_CC, ad_CN, ad_CR, ad_CY, ad_CK, ad_C0, ad_0C, ad_C99, ad_99C, ad_NN, ad_NC, ad_NR, ad_NY, ad_NK, ad_N0, ad_0N, ad_N99, ad_99N, ad_N98, ad_98N, ad_RR, ad_RC, ad_RN, ad_RY, ad_RK, ad_R0, ad_0R, ad_R99, ad_99R, ad_R98, ad_98R, ad_YY, ad_YC, ad_YN, ad_YR, ad_YK, ad_Y0, ad_0Y, ad_Y99, ad_99Y, ad_Y98, ad_98Y, ad_KK, ad_KC, ad_KN, ad_KR, ad_KY, ad_K0, ad_0K, ad_K99, ad_99K, ad_K98, ad_98K] using c7 i hi
  · simpa [ms_r, ml_r, ms_2, ml_1, ad_CC, ad_CN, ad_CR, ad_CY, ad_CK, ad_C0, ad_0C, ad_C99, ad_99C, ad_NN, ad_NC, ad_NR, ad_NY, ad_NK, ad_N0, ad_0N, ad_N99, ad_99N, ad_N98, ad_98N, ad_RR, ad_RC, ad_RN, ad_RY, ad_RK, ad_R0, ad_0R, ad_R99, ad_99R, ad_R98, ad_98R, ad_YY, ad_YC, ad_YN, ad_YR, ad_YK, ad_Y0, ad_0Y, ad_Y99, ad_99Y, ad_Y98, ad_98Y, ad_KK, ad_KC, ad_KN, ad_KR, ad_KY, ad_K0, ad_0K, ad_K99, ad_99K, ad_K98, ad_98K] using c8
set_option maxHeartbeats 4000000 in
theorem evl_S (hR : MR R) (hB : SB cd R d) (hW : SW cd R d) (hk : k < 12) {ht : Nat → Nat} (h1 : ht (cd k).length = 1) (h15 : ∀ i, i ≤ (cd k).length → ht i ≤ 15) (hst : ∀ i q, (cd k)[i]? = some q →
  (q.1 = 0 ∧ ht (i + 1) = ht i + 1 ∧ q.2 < 10000) ∨ (q.1 = 1 ∧ ht (i + 1) = ht i + 1 ∧ q.2 < 12) ∨ ((q.1 = 2 ∨ q.1 = 3) ∧ 1 ≤ ht i ∧ ht (i + 1) = ht i ∧ q.2 < 10000) ∨ (q.1 = 4 ∧ 1 ≤ ht i ∧ ht (i + 1) + 1 = ht i ∧ ht q.2 + 1 = ht i ∧ i < q.2 ∧ q.2 ≤ (cd k).length) ∨ (q.1 = 5 ∧ ht q.2 = ht i ∧ i < q.2 ∧ q.2 ≤ (cd k).length) ∨ ((6 ≤ q.1 ∧ q.1 ≤ 10) ∧ 2 ≤ ht i ∧ ht (i + 1) + 1 = ht i ∧ q.2 < 10000)) :
    ∀ (g : Nat) (γ μ : nMem) (tp at_ : Nat), EV cd d f k 12 γ μ tp at_ → at_ ≤ (cd k).length → (cd k).length ≤ at_ + g → tp = ht at_ → (∀ μ', REL (wEnd (evl (fun m s => gF (bw cd d).1 (bw cd d).2 m k s) (cd k) k g γ tp at_).2 k (evl (fun m s => gF (bw cd d).1 (bw cd d).2 m k s) (cd k) k g γ tp at_).1) μ' → μ'.1 104 27 = nI f → LX f k μ μ' → R μ') → R μ := by
  have fin : ∀ (γ μ : nMem) (tp at_ : Nat), EV cd d f k 12 γ μ tp at_ → at_ = (cd k).length → tp = ht at_ → (∀ μ', REL (wEnd γ k (γ.1 (nK k) 0).toInt64) μ' → μ'.1 104 27 = nI f → LX f k μ μ' → R μ') → R μ := by
    intro γ μ tp at_ h ha htp hq
    have hM := h.mst k hk (by rw [(h.rl.c k hk).fm]; exact h.h4)
    have hf12 := h.fr12
    have hfo := (h.fr.fo' (h.wf k hk).1).1
    refine hR.done μ f k (by omega) hk h.op h.fr.cl h.fr.md (by rw [h.fr.ap, hM.1, ha]) hfo ?_
    have e : μ.2 132 (16 * f) = (γ.1 (nK k) 0).toInt64 := by
      have := h.fr.sk 0 (by rw [htp, ha, h1]; omega)
      simpa using this
    rw [e]
    exact hq _ (h.work hk (Or.inr ⟨_, rfl⟩)) wkX_27 (wk_X hfo.2.1)
  intro g
  induction g with
  | zero =>
    intro γ μ tp at_ h ha hg htp hq
    exact fin γ μ tp at_ h (by omega) htp hq
  | succ g ih =>
    intro γ μ tp at_ h ha hg htp hq
    by_cases hend : at_ = (cd k).length
    · refine fin γ μ tp at_ h hend htp ?_
      have e : (cd k)[at_]? = none := List.getElem?_eq_none (by omega)
      unfold evl at hq
      rw [e] at hq
      exact hq
    · have hlt : at_ < (cd k).length := by omega
      obtain ⟨q, hqe⟩ : ∃ q, (cd k)[at_]? = some q := ⟨_, List.getElem?_eq_getElem hlt⟩
      have hs := hst at_ q hqe
      have hK := (h.wf k hk).2.2 h.h4
      have hlen : (cd k).length ≤ 30 := hK.2.1
      have hM := h.mst k hk (by rw [(h.rl.c k hk).fm]; exact h.h4)
      have hM2 := hM.2 at_ q hqe
      have hf12 := h.fr12
      have h15a := h15 at_ ha
      have h15b := h15 (at_ + 1) hlt
      have hAV : AV μ f k at_ (rn q).1 (rn q).2 := ⟨by omega, hk, h.op, h.fr.cl, h.fr.md, h.fr.ap, by omega, (by
        rw [hM.1]
        intro z
        have := (nI_eq (by omega) (by omega)).mp z
        omega), hM2.1, hM2.2⟩
      unfold evl at hq
      rw [hqe] at hq
      dsimp only at hq
      obtain ⟨a, b⟩ := q
      dsimp only at hs hq
      by_cases h0 : a = 0
      · subst h0
        rw [if_pos rfl] at hq
        refine hR.num μ f k at_ tp (nI b) hAV h.fr.dp (by omega) ?_
        rw [ps_c]
        refine ih (ms γ (nK k) tp (nI b)) _ (tp + 1) (at_ + 1) (h.push hk (Nat.le_refl _) (by omega) rfl (Or.inl rfl) _) (by omega) (by omega) (by omega) (fun μ' p1 p2 p3 => hq μ' p1 p2 ((LX.trans ps_X (LX.st (by omega))).trans p3))
      rw [if_neg h0] at hq
      by_cases h1' : a = 1
      · subst h1'
        rw [if_pos rfl] at hq
        have hb : b < 12 := by omega
        refine look_S hR hB hW h hk hb hqe (by omega) (Or.inl ⟨rfl, rfl⟩) ?_
        rcases e : gF (bw cd d).1 (bw cd d).2 γ k b with ⟨v, u⟩
        rw [e] at hq
        dsimp only at hq
        refine ⟨fun ev μ' p1 p2 p3 => ?_, fun ev μ' p1 p2 => ?_⟩
        · dsimp only at ev
          rw [if_pos ev] at hq
          exact hq μ' p1 p2 p3
        · dsimp only at ev p1
          rw [if_neg ev] at hq
          exact ih _ μ' _ _ p1 (by omega) (by omega) (by simp; omega) (fun μ2 r1 r2 r3 => hq μ2 r1 r2 (p2.trans r3))
      rw [if_neg h1'] at hq
      by_cases h2 : a = 2
      · subst h2
        rw [if_pos rfl] at hq
        have hf := fmI_of (γ.1 (nK k) (tp - 1))
        refine look_S hR hB hW h hk hf.2 hqe (by omega) (Or.inr ⟨rfl, by omega, rfl⟩) ?_
        rcases e : gF (bw cd d).1 (bw cd d).2 γ k (fm (γ.1 (nK k) (tp - 1))) with ⟨v, u⟩
        rw [e] at hq
        dsimp only at hq
        refine ⟨fun ev μ' p1 p2 p3 => ?_, fun ev μ' p1 p2 => ?_⟩
        · dsimp only at ev
          rw [if_pos ev] at hq
          exact hq μ' p1 p2 p3
        · dsimp only at ev p1
          rw [if_neg ev] at hq
          rw [if_pos rfl, show tp - 1 + 1 = tp by omega] at p1
          exact ih _ μ' _ _ p1 (by omega) (by omega) (by omega) (fun μ2 r1 r2 r3 => hq μ2 r1 r2 (p2.trans r3))
      rw [if_neg h2] at hq
      by_cases h3 : a = 3
      · subst h3
        rw [if_pos rfl] at hq
        obtain ⟨t, rfl⟩ : ∃ t, tp = t + 1 := ⟨tp - 1, by omega⟩
        refine hR.neg μ f k at_ t (nI b) hAV h.fr.dp (by omega) ?_
        rw [ms_comm (a := 130) (b := 131) (by decide), ps_c, h.fr.sk t (by omega), i32_rt]
        exact ih _ _ _ _ (h.push hk (by omega) (by omega) rfl (Or.inr rfl) _) (by omega) (by omega) (by omega) (fun μ' p1 p2 p3 => hq μ' p1 p2 (((LX.trans (LX.st (by omega)) ps_X).trans (LX.st (by omega))).trans p3))
      rw [if_neg h3] at hq
      by_cases h4 : a = 4
      · subst h4
        rw [if_pos rfl] at hq
        obtain ⟨t, rfl⟩ : ∃ t, tp = t + 1 := ⟨tp - 1, by omega⟩
        refine hR.zero μ f k at_ t (nI b) hAV h.fr.dp (by omega) ?_
        rw [ms_comm (a := 130) (b := 131) (by decide), ms_ms, h.fr.sk t (by omega)]
        have e : (if (γ.1 (nK k) t).toInt64 = 0 then nI b else nI (at_ + 1)) = nI (if γ.1 (nK k) t = 0 then b else at_ + 1) := by
          by_cases hz : γ.1 (nK k) t = 0
          · rw [if_pos ((i64_0 _).mpr hz), if_pos hz]
          · rw [if_neg (fun z => hz ((i64_0 _).mp z)), if_neg hz]
        rw [e]
        rw [show t + 1 - 1 = t from rfl] at hq
        have hx : (if γ.1 (nK k) t = 0 then b else at_ + 1) ≤ (cd k).length ∧ at_ < (if γ.1 (nK k) t = 0 then b else at_ + 1) ∧ t = ht (if γ.1 (nK k) t = 0 then b else at_ + 1) := by
          split <;> (refine ⟨?_, ?_, ?_⟩ <;> omega)
        exact ih _ _ _ _ (h.go (by omega) _) hx.1 (by omega) hx.2.2 (fun μ' p1 p2 p3 => hq μ' p1 p2 ((LX.trans (LX.st (by omega)) (LX.st (by omega))).trans p3))
      rw [if_neg h4] at hq
      by_cases h5 : a = 5
      · subst h5
        rw [if_pos rfl] at hq
        refine hR.jump μ f k at_ (nI b) hAV ?_
        rw [ms_ms]
        exact ih _ _ _ _ (h.goto b) (by omega) (by omega) (by omega) (fun μ' p1 p2 p3 => hq μ' p1 p2 ((LX.st (by omega)).trans p3))
      rw [if_neg h5] at hq
      have h6 : 6 ≤ a ∧ a ≤ 10 := by omega
      obtain ⟨t, rfl⟩ : ∃ t, tp = t + 2 := ⟨tp - 2, by omega⟩
      have hcb := cb_eq (γ.1 (nK k) t) (γ.1 (nK k) (t + 1)) h6
      refine hR.comb μ f k at_ t (nI (opR a)) (nI b) hAV hcb.2 h.fr.dp (by omega) ?_
      rw [ms_comm (a := 130) (b := 131) (by decide), ps_c, h.fr.sk t (by omega), h.fr.sk (t + 1) (by omega), i32_rt, i32_rt, hcb.1]
      exact ih _ _ _ _ (h.push hk (by omega) (by omega) rfl (Or.inr rfl) _) (by omega) (by omega) (by omega) (fun μ' p1 p2 p3 => hq μ' p1 p2 (((LX.trans (LX.st (by omega)) ps_X).trans (LX.st (by omega))).trans p3))
end MM
