/-! asking keeps the memory in order, and the flags -/
theorem FL.rfl {μ : nMem} : FL μ μ := fun _ _ => ⟨Eq.refl _, Eq.refl _⟩
theorem FL.ms {μ : nMem} {a j : Nat} {x : Int32} (h : ∀ i, i < 12 → a = nC i → ¬ j = 4 ∧ ¬ j = 9) : FL μ (ms μ a j x) := fun i hi => ⟨by rw [ms_r, if_neg (fun z => (h i hi z.1.symm).1 z.2.symm)], by rw [ms_r, if_neg (fun z => (h i hi z.1.symm).2 z.2.symm)]⟩
theorem FL.ml {μ : nMem} {a j : Nat} {x : Int64} : FL μ (ml μ a j x) := fun _ _ => ⟨Eq.refl _, Eq.refl _⟩
theorem FL.symm {a b : nMem} (h : FL a b) : FL b a := fun j hj => ⟨(h j hj).1.symm, (h j hj).2.symm⟩
theorem fl_N {k j : Nat} : ∀ i, i < 12 → nN k = nC i → ¬ j = 4 ∧ ¬ j = 9 := fun i _ z => by exfalso; unfold nN nC at z; omega
theorem fl_Y {k j : Nat} : ∀ i, i < 12 → nY k = nC i → ¬ j = 4 ∧ ¬ j = 9 := fun i _ z => by exfalso; unfold nY nC at z; omega
theorem fl_K {k j : Nat} : ∀ i, i < 12 → nK k = nC i → ¬ j = 4 ∧ ¬ j = 9 := fun i _ z => by exfalso; unfold nK nC at z; omega
theorem fl_R {k j : Nat} : ∀ i, i < 12 → nR k = nC i → ¬ j = 4 ∧ ¬ j = 9 := fun i _ z => by exfalso; unfold nR nC at z; omega
theorem fl_0 {j : Nat} : ∀ i, i < 12 → 0 = nC i → ¬ j = 4 ∧ ¬ j = 9 := fun i _ z => by exfalso; unfold nC at z; omega
theorem fl_99 {j : Nat} : ∀ i, i < 12 → 99 = nC i → ¬ j = 4 ∧ ¬ j = 9 := fun i _ z => by exfalso; unfold nC at z; omega
theorem fl_C {k j : Nat} (h : ¬ j = 4 ∧ ¬ j = 9) : ∀ i, i < 12 → nC k = nC i → ¬ j = 4 ∧ ¬ j = 9 := fun _ _ _ => h
theorem mU_E {μ : nMem} {k : Nat} (hk : k < 12) : WE μ (mU μ k) := (WE.ms free_lo).trans (WE.ms (free_C hk (by decide)))
theorem mU_L {μ : nMem} {k : Nat} : FL μ (mU μ k) := (FL.ms fl_0).trans (FL.ms (fl_C (by decide)))
theorem tly_E {μ : nMem} {k j : Nat} (hk : k < 12) : WE μ (tly μ k j) := (WE.ms (free_Y hk)).trans (WE.ms free_99)
theorem tly_L {μ : nMem} {k j : Nat} : FL μ (tly μ k j) := (FL.ms fl_Y).trans (FL.ms fl_99)
theorem vfy_E {μ : nMem} {k j : Nat} (hk : k < 12) : WE μ (vfy μ k j) := ((WE.ms (free_N hk (by decide))).trans (WE.ms (free_Y hk))).trans (WE.ms free_99)
theorem vfy_L {μ : nMem} {k j : Nat} : FL μ (vfy μ k j) := ((FL.ms fl_N).trans (FL.ms fl_Y)).trans (FL.ms fl_99)
theorem kvs_E {μ : nMem} {k : Nat} {v : Int64} {r : Int32} (hk : k < 12) : WE μ (kvs μ k v r) := by
  unfold kvs
  split
  · split
    · exact WE.ms (free_N hk (by decide))
    · exact WE.rfl
  · exact WE.rfl
theorem kvs_L {μ : nMem} {k : Nat} {v : Int64} {r : Int32} : FL μ (kvs μ k v r) := by
  unfold kvs
  split
  · split
    · exact FL.ms fl_N
    · exact FL.rfl
  · exact FL.rfl
theorem kv_E {μ : nMem} {k : Nat} {v : Int64} {r : Int32} (hk : k < 12) : WE μ (kv μ k v r) := (((kvs_E hk).trans (WE.ms (free_N hk (by decide)))).trans (WE.ms (free_N hk (by decide)))).trans (WE.ml.trans (WE.ms (free_N hk (by decide))))
theorem kv_L {μ : nMem} {k : Nat} {v : Int64} {r : Int32} : FL μ (kv μ k v r) := ((kvs_L.trans (FL.ms fl_N)).trans (FL.ms fl_N)).trans (FL.ml.trans (FL.ms fl_N))
theorem WF.d7 {cd : Nat → pC} {μ : nMem} {k : Nat} {x : Int32} (h : WF cd μ) (hk : k < 12) (hx : ∃ j, x = nI j ∧ j < 3) : WF cd (ms μ (nN k) 7 x) := by
  intro i hi
  obtain ⟨h1, h2, h3⟩ := h i hi
  have eR : (ms μ (nN k) 7 x).1 (nR i) = μ.1 (nR i) := ms_o (ne_RN hi)
  have eC : (ms μ (nN k) 7 x).1 (nC i) = μ.1 (nC i) := ms_o ne_CN
  have eF : (ms μ (nN k) 7 x).1 (nF i) = μ.1 (nF i) := ms_o (by unfold nF nN; split <;> omega)
  have eS : (ms μ (nN k) 7 x).1 (nS i) = μ.1 (nS i) := ms_o (by unfold nS nN; split <;> omega)
  have e1 : (ms μ (nN k) 7 x).1 (nN i) 1 = μ.1 (nN i) 1 := by rw [ms_r, if_neg (fun z => by omega)]
  refine ⟨?_, ⟨?_, ?_⟩, ?_⟩
  · unfold WN; rw [e1, eR]; exact h1
  · rw [ms_r]
    split
    · exact hx
    · exact h2.1
  · rw [eC]; exact h2.2
  · unfold WK; rw [eC, eF, eS]; exact h3
theorem WF.n0 {cd : Nat → pC} {μ : nMem} {k : Nat} (h : WF cd μ) (hk : k < 12) : WF cd (ms μ (nN k) 1 0) := by
  intro i hi
  obtain ⟨h1, h2, h3⟩ := h i hi
  have eR : (ms μ (nN k) 1 0).1 (nR i) = μ.1 (nR i) := ms_o (ne_RN hi)
  have eC : (ms μ (nN k) 1 0).1 (nC i) = μ.1 (nC i) := ms_o ne_CN
  have eF : (ms μ (nN k) 1 0).1 (nF i) = μ.1 (nF i) := ms_o (by unfold nF nN; split <;> omega)
  have eS : (ms μ (nN k) 1 0).1 (nS i) = μ.1 (nS i) := ms_o (by unfold nS nN; split <;> omega)
  have e7 : (ms μ (nN k) 1 0).1 (nN i) 7 = μ.1 (nN i) 7 := by rw [ms_r, if_neg (fun z => by omega)]
  refine ⟨?_, ⟨by rw [e7]; exact h2.1, by rw [eC]; exact h2.2⟩, by unfold WK; rw [eC, eF, eS]; exact h3⟩
  by_cases hik : i = k
  · subst hik
    exact ⟨0, by rw [ms_s, pk_us]; rfl, by omega, fun j hj => by omega⟩
  · have e1 : (ms μ (nN k) 1 0).1 (nN i) = μ.1 (nN i) := ms_o (by unfold nN; omega)
    unfold WN; rw [e1, eR]; exact h1
theorem adR_W {cd : Nat → pC} {μ : nMem} {k s : Nat} (h : WF cd μ) (hk : k < 12) (hs : s < 12) : WF cd (adR μ k s) := by
  obtain ⟨n1, n2, n3⟩ := (h k hk).1.n
  unfold adR
  split
  · exact h
  · rename_i hno
    have hn : (μ.1 (nN k) 1).toNatClampNeg < 12 := by
      have : ¬ (μ.1 (nN k) 1).toNatClampNeg = 12 := fun z => hno (Or.inr z)
      omega
    generalize hm : (μ.1 (nN k) 1).toNatClampNeg = m at *
    intro i hi
    obtain ⟨h1, h2, h3⟩ := h i hi
    have eC : (ms (ms μ (nR k) m (nI s)) (nN k) 1 (nI (m + 1))).1 (nC i) = μ.1 (nC i) := by rw [ms_o ne_CN, ms_o (by unfold nC nR; omega)]
    have eF : (ms (ms μ (nR k) m (nI s)) (nN k) 1 (nI (m + 1))).1 (nF i) = μ.1 (nF i) := by rw [ms_o (by unfold nF nN; split <;> omega), ms_o (by unfold nF nR; split <;> omega)]
    have eS : (ms (ms μ (nR k) m (nI s)) (nN k) 1 (nI (m + 1))).1 (nS i) = μ.1 (nS i) := by rw [ms_o (by unfold nS nN; split <;> omega), ms_o (by unfold nS nR; split <;> omega)]
    have e7 : (ms (ms μ (nR k) m (nI s)) (nN k) 1 (nI (m + 1))).1 (nN i) 7 = μ.1 (nN i) 7 := by rw [ms_r, if_neg (fun z => by omega), ms_o (ne_NR hi)]
    refine ⟨?_, ⟨by rw [e7]; exact h2.1, by rw [eC]; exact h2.2⟩, by unfold WK; rw [eC, eF, eS]; exact h3⟩
    by_cases hik : i = k
    · subst hik
      refine ⟨m + 1, by rw [ms_s, pk_us], by omega, fun j hj => ?_⟩
      rw [ms_o (ne_RN hi), ms_s]
      by_cases hjm : j = m
      · subst hjm
        exact ⟨s, hs, by rw [pk_us]⟩
      · rw [pk_un hjm]
        obtain ⟨a, b⟩ := n3 j (by omega)
        exact ⟨_, b, a⟩
    · have e1 : (ms (ms μ (nR k) m (nI s)) (nN k) 1 (nI (m + 1))).1 (nN i) = μ.1 (nN i) := by rw [ms_o (by unfold nN; omega), ms_o (ne_NR hi)]
      have eR : (ms (ms μ (nR k) m (nI s)) (nN k) 1 (nI (m + 1))).1 (nR i) = μ.1 (nR i) := by rw [ms_o (ne_RN hi), ms_o (by unfold nR; omega)]
      unfold WN; rw [e1, eR]; exact h1
theorem adR_L {μ : nMem} {k s : Nat} : FL μ (adR μ k s) := by
  unfold adR
  split
  · exact FL.rfl
  · exact (FL.ms fl_R).trans (FL.ms fl_N)
theorem gd_3 {cd : Nat → pC} {μ : nMem} (h : WF cd μ) {s : Nat} (hs : s < 12) : ∃ j, gd μ s = nI j ∧ j < 3 := by
  obtain ⟨-, h2, -⟩ := h s hs
  unfold gd
  split
  · split
    · exact h2.2
    · exact h2.1
  · exact ⟨0, by decide, by decide⟩
theorem ldn_3 {cd : Nat → pC} {μ : nMem} (h : WF cd μ) {k : Nat} (hk : k < 12) : ∀ i, i ≤ (μ.1 (nN k) 1).toNatClampNeg → ∃ j, ldn μ k i = nI j ∧ j < 3 := by
  obtain ⟨n1, n2, n3⟩ := (h k hk).1.n
  intro i
  induction i with
  | zero => intro _; exact ⟨2, (show (2 : Int32) = nI 2 by decide), by decide⟩
  | succ i ih =>
    intro hi
    unfold ldn
    split
    · exact gd_3 h (n3 i (by omega)).2
    · exact ih (by omega)
theorem lst_3 {cd : Nat → pC} {μ : nMem} (h : WF cd μ) {k : Nat} (hk : k < 12) : ∃ j, lst μ k = nI j ∧ j < 3 := ldn_3 h hk _ (Nat.le_refl _)
theorem i32_msb (y : Int32) : 0 ≤ y ↔ y.toBitVec.msb = false := by
  rw [Int32.le_iff_toInt_le, Int32.toInt_zero, BitVec.msb_eq_toInt, decide_eq_false_iff_not]
  show 0 ≤ y.toBitVec.toInt ↔ _
  omega
theorem fmI_b (x : Int32) : 0 ≤ (fmI x).toInt ∧ (fmI x).toInt < 12 := by
  have h12 : (12 : Int32).toInt = 12 := by decide
  have hr : (x - x / 12 * 12).toInt = x.toInt.tmod 12 := by rw [rem_toInt, h12]
  have b := tmod_bounds (a := x.toInt) (M := 12) (by decide)
  have hx : (0 ≤ x ^^^ 12) ↔ 0 ≤ x := by
    rw [i32_msb, i32_msb, Int32.toBitVec_xor, BitVec.msb_xor]
    have : (12 : Int32).toBitVec.msb = false := by decide
    rw [this, Bool.xor_false]
  have h0 : (0 ≤ x) ↔ 0 ≤ x.toInt := by rw [Int32.le_iff_toInt_le, Int32.toInt_zero]
  unfold fmI
  split
  · rename_i h
    have h2 := h0.mp (hx.mp h)
    have h3 := Int.tmod_nonneg (a := x.toInt) 12 h2
    rw [hr]
    omega
  · rename_i h
    have h2 : ¬ 0 ≤ x.toInt := fun z => h (hx.mpr (h0.mpr z))
    have h3 := Int.tmod_nonneg (a := -x.toInt) 12 (by omega)
    rw [Int.neg_tmod] at h3
    split
    · rename_i hz
      rw [hz]
      decide
    · rename_i hz
      have hne : ¬ x.toInt.tmod 12 = 0 := fun z => hz (Int32.toInt_inj.mp (by rw [hr, z]; rfl))
      rw [Jvm.Kit.i32_add (by rw [hr, h12]; omega) (by rw [hr, h12]; omega), hr, h12]
      omega
theorem fmI_of (x : Int32) : fmI x = nI (fm x) ∧ fm x < 12 := by
  have hb := fmI_b x
  have h0 : ¬ fmI x < 0 := by rw [Int32.lt_iff_toInt_lt, Int32.toInt_zero]; omega
  obtain ⟨j, hj, e⟩ := nI_of h0
  have hj2 : j < 12 := by
    have := hb.2
    rw [e, nI_toInt hj] at this
    omega
  unfold fm
  rw [e, nI_clamp hj]
  exact ⟨rfl, hj2⟩
section AP
variable {cd : Nat → pC} {d : Nat}
/-- what is asked of 'bring' and 'workOut' at a level -/
def PB (cd : Nat → pC) (d : Nat) (B : nMem → Nat → nMem) : Prop := ∀ μ k, WF cd μ → k < 12 → fw μ 12 ≤ d → WF cd (B μ k) ∧ FL μ (B μ k)
def FW (k : Nat) (μ μ' : nMem) : Prop := ∀ j, j < 12 → μ'.1 (nC j) 4 = μ.1 (nC j) 4 ∧ (¬ j = k → μ'.1 (nC j) 9 = μ.1 (nC j) 9) ∧ (j = k → μ'.1 (nC j) 9 = 0)
def PW (cd : Nat → pC) (d : Nat) (W : nMem → Nat → nMem) : Prop := ∀ μ k, WF cd μ → k < 12 → ¬ μ.1 (nC k) 4 = 0 → fw (ms μ (nC k) 9 1) 12 < d → WF cd (W μ k) ∧ FW k μ (W μ k)
theorem FL.of_FW {k : Nat} {μ μ' : nMem} (h : FW k μ μ') (h9 : μ.1 (nC k) 9 = 0) : FL μ μ' := fun j hj => ⟨(h j hj).1, by
  by_cases e : j = k
  · rw [(h j hj).2.2 e, e, h9]
  · exact (h j hj).2.1 e⟩
theorem uF_P {B W : nMem → Nat → nMem} (hB : PB cd d B) (hW : PW cd d W) {μ : nMem} {k : Nat} (h : WF cd μ) (hk : k < 12) (h9 : μ.1 (nC k) 9 = 0) (hf : fw μ 12 ≤ d) : WF cd (uF B W μ k).2 ∧ FL μ (uF B W μ k).2 := by
  unfold uF
  split
  · exact ⟨h, FL.rfl⟩
  · rename_i h4
    obtain ⟨b1, b2⟩ := hB μ k h hk hf
    dsimp only
    split
    · have e4 := (b2 k hk).1
      have e9 := (b2 k hk).2
      have hfw := fw_set (μ := B μ k) (k := k) (x := 1) (by decide) (by rw [e4]; exact h4) (by rw [e9]; exact h9) 12 (by omega)
      rw [if_pos hk, fw_FL b2 12 (by omega)] at hfw
      obtain ⟨c1, c2⟩ := hW (B μ k) k b1 hk (by rw [e4]; exact h4) (by omega)
      have c3 := FL.of_FW c2 (by rw [e9]; exact h9)
      exact ⟨c1.cong (mU_E hk), (b2.trans c3).trans mU_L⟩
    · exact ⟨b1.cong (mU_E hk), b2.trans mU_L⟩
theorem gF_P {B W : nMem → Nat → nMem} (hB : PB cd d B) (hW : PW cd d W) {μ : nMem} {k s : Nat} (h : WF cd μ) (hk : k < 12) (hs : s < 12) (hf : fw μ 12 ≤ d) : WF cd (gF B W μ k s).2 ∧ FL μ (gF B W μ k s).2 := by
  have a1 := adR_W h hk hs
  have a2 : FL μ (adR μ k s) := adR_L
  unfold gF
  split
  · rename_i h9
    obtain ⟨u1, u2⟩ := uF_P hB hW a1 hs h9 (by rw [fw_FL a2 12 (by omega)]; exact hf)
    exact ⟨u1, a2.trans u2⟩
  · exact ⟨a1, a2⟩
theorem evl_P {G : nMem → Nat → Int64 × nMem} {cs : pC} {k : Nat} (hk : k < 12) (hG : ∀ μ s, WF cd μ → s < 12 → fw μ 12 ≤ d → WF cd (G μ s).2 ∧ FL μ (G μ s).2) (hT : ∀ (i : Nat) (q : Nat × Nat), cs[i]? = some q → q.1 = 1 → q.2 < 12) : ∀ g μ tp at_, WF cd μ → fw μ 12 ≤ d → WF cd (evl G cs k g μ tp at_).2 ∧ FL μ (evl G cs k g μ tp at_).2 := by
  intro g
  induction g with
  | zero => intro μ tp at_ h _; exact ⟨h, FL.rfl⟩
  | succ g ih =>
    intro μ tp at_ h hf
    have step : ∀ (j : Nat) (x : Int32) (μ1 : nMem), WF cd μ1 → FL μ μ1 → ∀ tp' at', WF cd (evl G cs k g (ms μ1 (nK k) j x) tp' at').2 ∧ FL μ (evl G cs k g (ms μ1 (nK k) j x) tp' at').2 := by
      intro j x μ1 w l tp' at'
      have l2 : FL μ (ms μ1 (nK k) j x) := l.trans (FL.ms fl_K)
      obtain ⟨r1, r2⟩ := ih (ms μ1 (nK k) j x) tp' at' (w.cong (WE.ms (free_K hk))) (by rw [fw_FL l2 12 (by omega)]; exact hf)
      exact ⟨r1, l2.trans r2⟩
    unfold evl
    split
    · exact ⟨h, FL.rfl⟩
    · rename_i q hq
      split
      · exact step _ _ μ h FL.rfl _ _
      split
      · rename_i h1
        obtain ⟨g1, g2⟩ := hG μ q.2 h (hT at_ q hq h1) hf
        split
        rename_i v μ1 he
        rw [he] at g1 g2
        split
        · exact ⟨g1, g2⟩
        · exact step _ _ μ1 g1 g2 _ _
      split
      · obtain ⟨g1, g2⟩ := hG μ (fm (μ.1 (nK k) (tp - 1))) h (fmI_of _).2 hf
        split
        rename_i v μ1 he
        rw [he] at g1 g2
        split
        · exact ⟨g1, g2⟩
        · exact step _ _ μ1 g1 g2 _ _
      split
      · exact step _ _ μ h FL.rfl _ _
      split
      · exact ih μ _ _ h hf
      split
      · exact ih μ _ _ h hf
      · exact step _ _ μ h FL.rfl _ _
theorem wEnd_P {μ : nMem} {k : Nat} {v : Int64} (h : WF cd μ) (hk : k < 12) : WF cd (wEnd μ k v) ∧ FW k μ (wEnd μ k v) := by
  have w1 : WF cd (ms μ (nN k) 7 (lst μ k)) := h.d7 hk (lst_3 h hk)
  have l1 : FL μ (ms μ (nN k) 7 (lst μ k)) := FL.ms fl_N
  have w2 := ((w1.cong (kv_E (v := v) (r := μ.1 0 6) hk)).cong (mU_E hk)).cong (tly_E (j := 0) hk)
  have l2 := ((l1.trans (kv_L (k := k) (v := v) (r := μ.1 0 6))).trans (mU_L (k := k))).trans (tly_L (k := k) (j := 0))
  refine ⟨w2.cong (WE.ms (free_C hk (by decide))), fun j hj => ⟨?_, fun e => ?_, fun e => ?_⟩⟩
  · unfold wEnd
    rw [ms_r, if_neg (fun z => by omega)]
    exact (l2 j hj).1
  · unfold wEnd
    rw [ms_o (by unfold nC; omega)]
    exact (l2 j hj).2
  · subst e
    unfold wEnd
    rw [ms_s, pk_us]
theorem WT.a1 {cs : pC} (h : WT cs) : ∀ (i : Nat) (q : Nat × Nat), cs[i]? = some q → q.1 = 1 → q.2 < 12 := by
  obtain ⟨ht, -, -, -, h4⟩ := h
  intro i q hq h1
  rcases h4 i q hq with z | z | z | z | z | z <;> omega
theorem wF_P {B W : nMem → Nat → nMem} (hB : PB cd d B) (hW : PW cd d W) : PW cd (d + 1) (wF cd B W) := by
  intro μ k h hk h4 hf
  have w1 : WF cd (ms μ (nC k) 9 1) := h.cong (WE.ms (free_C hk (by decide)))
  have w2 : WF cd (ms (ms μ (nC k) 9 1) (nN k) 1 0) := w1.n0 hk
  have l2 : FL (ms μ (nC k) 9 1) (ms (ms μ (nC k) 9 1) (nN k) 1 0) := FL.ms fl_N
  have hT := ((h k hk).2.2 h4).1.a1
  obtain ⟨e1, e2⟩ := evl_P (cd := cd) (d := d) (k := k) (G := fun m s => gF B W m k s) hk (fun m s wm hs hfm => gF_P hB hW wm hk hs hfm) hT 30 (ms (ms μ (nC k) 9 1) (nN k) 1 0) 0 0 w2 (by rw [fw_FL l2 12 (by omega)]; omega)
  unfold wF
  split
  rename_i v μ1 he
  rw [he] at e1 e2
  obtain ⟨r1, r2⟩ := wEnd_P (v := v) e1 hk
  refine ⟨r1, fun j hj => ?_⟩
  have q := (l2.trans e2) j hj
  dsimp only at q
  refine ⟨?_, fun e => ?_, (r2 j hj).2.2⟩
  · rw [(r2 j hj).1, q.1, ms_r, if_neg (fun z => by omega)]
  · rw [(r2 j hj).2.1 e, q.2, ms_o (by unfold nC; omega)]
theorem ruL_P {B : nMem → Nat → nMem} (hB : PB cd d B) {k : Nat} (hk : k < 12) : ∀ g μ i, WF cd μ → fw μ 12 ≤ d → WF cd (ruL B k g μ i).2 ∧ FL μ (ruL B k g μ i).2 := by
  intro g
  induction g with
  | zero => intro μ i h _; exact ⟨h, FL.rfl⟩
  | succ g ih =>
    intro μ i h hf
    unfold ruL
    split
    · rename_i hi
      obtain ⟨b1, b2⟩ := hB μ (rN μ k i) h ((h k hk).1.n.2.2 i hi).2 hf
      obtain ⟨r1, r2⟩ := ih (B μ (rN μ k i)) (i + 1) b1 (by rw [fw_FL b2 12 (by omega)]; exact hf)
      (repeat' split) <;> first
        | exact ⟨r1, b2.trans r2⟩
        | exact ⟨b1, b2⟩
    · exact ⟨h, FL.rfl⟩
theorem ruF_P {B : nMem → Nat → nMem} (hB : PB cd d B) {μ : nMem} {k : Nat} (h : WF cd μ) (hk : k < 12) (hf : fw μ 12 ≤ d) : WF cd (ruF B μ k).2 ∧ FL μ (ruF B μ k).2 := by
  unfold ruF
  split
  · exact ⟨h, FL.rfl⟩
  split
  · exact ruL_P hB hk 13 μ 0 h hf
  · exact ⟨h, FL.rfl⟩
theorem bIn_P {B W : nMem → Nat → nMem} (hB : PB cd d B) (hW : PW cd d W) {μ : nMem} {k : Nat} (h : WF cd μ) (hk : k < 12) (h4 : ¬ μ.1 (nC k) 4 = 0) (h9 : μ.1 (nC k) 9 = 1) (hf : fw μ 12 ≤ d) : WF cd (bIn cd B W μ k) ∧ ∀ j, j < 12 → (bIn cd B W μ k).1 (nC j) 4 = μ.1 (nC j) 4 ∧ (¬ j = k → (bIn cd B W μ k).1 (nC j) 9 = μ.1 (nC j) 9) := by
  unfold bIn
  split
  · obtain ⟨r1, r2⟩ := ruF_P hB h hk hf
    split
    · rename_i μ1 he
      rw [he] at r1 r2
      have l := (r2.trans (FL.ms (fl_N (k := k)) : FL μ1 (ms μ1 (nN k) 7 (lst μ1 k)))).trans (vfy_L (k := k) (j := 1))
      exact ⟨(r1.d7 hk (lst_3 r1 hk)).cong (vfy_E hk), fun j hj => ⟨(l j hj).1, fun _ => (l j hj).2⟩⟩
    · rename_i μ1 he
      rw [he] at r1 r2
      dsimp only at r1 r2
      have e4 := (r2 k hk).1
      have e9 := (r2 k hk).2
      have efw : fw (ms μ1 (nC k) 9 1) 12 = fw μ1 12 := fw_FL (fun j hj => by
        refine ⟨by rw [ms_r, if_neg (fun z => by omega)], ?_⟩
        rw [ms_r]
        split
        · rename_i z
          rw [z.1, e9, h9]
        · rfl) 12 (by omega)
      obtain ⟨w1, w2⟩ := wF_P hB hW μ1 k r1 hk (by rw [e4]; exact h4) (by rw [efw, fw_FL r2 12 (by omega)]; omega)
      exact ⟨w1, fun j hj => ⟨by rw [(w2 j hj).1]; exact (r2 j hj).1, fun e => by rw [(w2 j hj).2.1 e]; exact (r2 j hj).2⟩⟩
  · have l : FL μ (vfy μ k 2) := vfy_L
    exact ⟨h.cong (vfy_E hk), fun j hj => ⟨(l j hj).1, fun _ => (l j hj).2⟩⟩
theorem bF_P {B W : nMem → Nat → nMem} (hB : PB cd d B) (hW : PW cd d W) : PB cd (d + 1) (bF cd B W) := by
  intro μ k h hk hf
  unfold bF
  split
  · exact ⟨h, FL.rfl⟩
  rename_i h4
  split
  · exact ⟨h, FL.rfl⟩
  rename_i h9
  have h9 : μ.1 (nC k) 9 = 0 := Classical.not_not.mp h9
  split
  · exact ⟨h, FL.rfl⟩
  have hfw := fw_set (μ := μ) (k := k) (x := 1) (by decide) h4 h9 12 (by omega)
  rw [if_pos hk] at hfw
  have e4 : (ms μ (nC k) 9 1).1 (nC k) 4 = μ.1 (nC k) 4 := by rw [ms_r, if_neg (fun z => by omega)]
  obtain ⟨r1, r2⟩ := bIn_P hB hW (h.cong (WE.ms (μ := μ) (a := nC k) (j := 9) (x := 1) (free_C hk (by decide)))) hk (by rw [e4]; exact h4) (by rw [ms_s, pk_us]) (by omega)
  refine ⟨r1.cong (WE.ms (free_C hk (by decide))), fun j hj => ⟨?_, ?_⟩⟩
  · rw [ms_r, if_neg (fun z => by omega), (r2 j hj).1, ms_r, if_neg (fun z => by omega)]
  · by_cases e : j = k
    · subst e
      rw [ms_s, pk_us, h9]
    · have hn : ¬ nC j = nC k := by unfold nC; omega
      rw [ms_o hn, (r2 j hj).2 e, ms_o hn]
theorem bw_P (cd : Nat → pC) : ∀ d, PB cd d (bw cd d).1 ∧ PW cd d (bw cd d).2 := by
  intro d
  induction d with
  | zero => exact ⟨fun μ k h _ _ => ⟨h, FL.rfl⟩, fun μ k _ _ _ h => absurd h (by omega)⟩
  | succ d ih => exact ⟨bF_P ih.1 ih.2, wF_P ih.1 ih.2⟩
end AP
