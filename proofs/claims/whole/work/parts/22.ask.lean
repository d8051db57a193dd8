/-! asking: what the class does to its memory, by depth -/
def BADv : Int64 := 1099511627776
def fmI (x : Int32) : Int32 := if 0 ≤ x ^^^ 12 then x - x / 12 * 12 else if x - x / 12 * 12 = 0 then x - x / 12 * 12 else x - x / 12 * 12 + 12
def fm (x : Int32) : Nat := (fmI x).toNatClampNeg
def cmb (a : Nat) (x y : Int32) : Int32 := if a = 6 then x + y else if a = 7 then x - y else if a = 8 then x * y else if a = 9 then bi (decide (x < y)) else bi (decide (x = y))
/-- a read is written down -/
def adR (μ : nMem) (k s : Nat) : nMem := if (∃ i, i < (μ.1 (nN k) 1).toNatClampNeg ∧ μ.1 (nR k) i = nI s) ∨ (μ.1 (nN k) 1).toNatClampNeg = 12 then μ else ms (ms μ (nR k) (μ.1 (nN k) 1).toNatClampNeg (nI s)) (nN k) 1 (nI ((μ.1 (nN k) 1).toNatClampNeg + 1))
def mU (μ : nMem) (k : Nat) : nMem := ms (ms μ 0 7 (μ.1 0 7 + 1)) (nC k) 10 (μ.1 0 7 + 1)
def tly (μ : nMem) (k j : Nat) : nMem := ms (ms μ (nY k) j (μ.1 (nY k) j + 1)) 99 j (μ.1 99 j + 1)
def vfy (μ : nMem) (k j : Nat) : nMem := ms (ms (ms μ (nN k) 5 (μ.1 0 6)) (nY k) j (μ.1 (nY k) j + 1)) 99 j (μ.1 99 j + 1)
def lst (μ : nMem) (k : Nat) : Int32 := ldn μ k (μ.1 (nN k) 1).toNatClampNeg
section AK
variable (cd : Nat → pC)
def evl (G : nMem → Nat → Int64 × nMem) (cs : pC) (k : Nat) : Nat → nMem → Nat → Nat → Int64 × nMem
  | 0, μ, _, _ => ((μ.1 (nK k) 0).toInt64, μ)
  | g + 1, μ, tp, at_ => match cs[at_]? with
    | none => ((μ.1 (nK k) 0).toInt64, μ)
    | some q =>
      if q.1 = 0 then evl G cs k g (ms μ (nK k) tp (nI q.2)) (tp + 1) (at_ + 1)
      else if q.1 = 1 then (match G μ q.2 with
        | (v, μ1) => if v = BADv then (BADv, μ1) else evl G cs k g (ms μ1 (nK k) tp v.toInt32) (tp + 1) (at_ + 1))
      else if q.1 = 2 then (match G μ (fm (μ.1 (nK k) (tp - 1))) with
        | (v, μ1) => if v = BADv then (BADv, μ1) else evl G cs k g (ms μ1 (nK k) (tp - 1) v.toInt32) tp (at_ + 1))
      else if q.1 = 3 then evl G cs k g (ms μ (nK k) (tp - 1) (-(μ.1 (nK k) (tp - 1)))) tp (at_ + 1)
      else if q.1 = 4 then evl G cs k g μ (tp - 1) (if μ.1 (nK k) (tp - 1) = 0 then q.2 else at_ + 1)
      else if q.1 = 5 then evl G cs k g μ tp q.2
      else evl G cs k g (ms μ (nK k) (tp - 2) (cmb q.1 (μ.1 (nK k) (tp - 2)) (μ.1 (nK k) (tp - 1)))) (tp - 1) (at_ + 1)
variable (B W : nMem → Nat → nMem)
def uF (μ : nMem) (k : Nat) : Int64 × nMem := if μ.1 (nC k) 4 = 0 then ((μ.1 (nC k) 6).toInt64, μ)
  else (((mU (if (B μ k).1 (nN k) 3 = 0 then W (B μ k) k else B μ k) k).2 (nN k) 4), mU (if (B μ k).1 (nN k) 3 = 0 then W (B μ k) k else B μ k) k)
def gF (μ : nMem) (k s : Nat) : Int64 × nMem := if (adR μ k s).1 (nC s) 9 = 0 then uF B W (adR μ k s) s else (BADv, adR μ k s)
/-- behind the evaluation -/
def wEnd (μ : nMem) (k : Nat) (v : Int64) : nMem := ms (tly (mU (kv (ms μ (nN k) 7 (lst μ k)) k v (μ.1 0 6)) k) k 0) (nC k) 9 0
def wF (μ : nMem) (k : Nat) : nMem := match evl (fun m s => gF B W m k s) (cd k) k 30 (ms (ms μ (nC k) 9 1) (nN k) 1 0) 0 0 with
  | (v, μ1) => wEnd μ1 k v
def ruL (k : Nat) : Nat → nMem → Nat → Bool × nMem
  | 0, μ, _ => (true, μ)
  | g + 1, μ, i => if i < (μ.1 (nN k) 1).toNatClampNeg then
      (if (B μ (rN μ k i)).1 (nC (rN μ k i)) 9 = 0 then (if (if (B μ (rN μ k i)).1 (nC (rN μ k i)) 4 = 0 then (B μ (rN μ k i)).1 (nC (rN μ k i)) 8 else (B μ (rN μ k i)).1 (nN (rN μ k i)) 6) ≤ (B μ (rN μ k i)).1 (nN k) 5 then ruL k g (B μ (rN μ k i)) (i + 1) else (false, B μ (rN μ k i))) else (false, B μ (rN μ k i)))
    else (true, μ)
def ruF (μ : nMem) (k : Nat) : Bool × nMem := if μ.1 (nN k) 2 = 0 then (false, μ) else if μ.1 (nC k) 5 ≤ μ.1 (nN k) 5 then ruL B k 13 μ 0 else (false, μ)
def bIn (μ : nMem) (k : Nat) : nMem := if μ.1 (nN k) 2 = 0 ∨ ¬ μ.1 98 (μ.1 (nN k) 7).toNatClampNeg ≤ μ.1 (nN k) 5 then (match ruF B μ k with
    | (true, μ1) => vfy (ms μ1 (nN k) 7 (lst μ1 k)) k 1
    | (false, μ1) => wF cd B W μ1 k) else vfy μ k 2
def bF (μ : nMem) (k : Nat) : nMem := if μ.1 (nC k) 4 = 0 then μ else if ¬ μ.1 (nC k) 9 = 0 then μ else if ¬ μ.1 (nN k) 2 = 0 ∧ μ.1 (nN k) 5 = μ.1 0 6 then μ else ms (bIn cd B W (ms μ (nC k) 9 1) k) (nC k) 9 0
end AK
def bw (cd : Nat → pC) : Nat → (nMem → Nat → nMem) × (nMem → Nat → nMem)
  | 0 => (fun μ _ => μ, fun μ _ => μ)
  | d + 1 => (bF cd (bw cd d).1 (bw cd d).2, wF cd (bw cd d).1 (bw cd d).2)
/-! what holds of the memory at all times -/
def WN (μ : nMem) (k : Nat) : Prop := ∃ n, μ.1 (nN k) 1 = nI n ∧ n ≤ 12 ∧ ∀ i, i < n → ∃ s, s < 12 ∧ μ.1 (nR k) i = nI s
def WD (μ : nMem) (k : Nat) : Prop := (∃ j, μ.1 (nN k) 7 = nI j ∧ j < 3) ∧ ∃ j, μ.1 (nC k) 7 = nI j ∧ j < 3
/-- steps of a formula: heights of the stack before each, jumps forward -/
def WT (cs : pC) : Prop := ∃ ht : Nat → Nat, ht 0 = 0 ∧ ht cs.length = 1 ∧ (∀ i, i ≤ cs.length → ht i ≤ 15) ∧ ∀ i q, cs[i]? = some q →
  (q.1 = 0 ∧ ht (i + 1) = ht i + 1 ∧ q.2 < 10000) ∨ (q.1 = 1 ∧ ht (i + 1) = ht i + 1 ∧ q.2 < 12) ∨ ((q.1 = 2 ∨ q.1 = 3) ∧ 1 ≤ ht i ∧ ht (i + 1) = ht i ∧ q.2 < 10000) ∨ (q.1 = 4 ∧ 1 ≤ ht i ∧ ht (i + 1) + 1 = ht i ∧ ht q.2 + 1 = ht i ∧ i < q.2 ∧ q.2 ≤ cs.length) ∨ (q.1 = 5 ∧ ht q.2 = ht i ∧ i < q.2 ∧ q.2 ≤ cs.length) ∨ ((6 ≤ q.1 ∧ q.1 ≤ 10) ∧ 2 ≤ ht i ∧ ht (i + 1) + 1 = ht i ∧ q.2 < 10000)
def WK (cs : pC) (μ : nMem) (k : Nat) : Prop := ¬ μ.1 (nC k) 4 = 0 → WT cs ∧ cs.length ≤ 30 ∧ μ.1 (nF k) 3 = nI cs.length ∧ ∀ j q, cs[j]? = some q → μ.1 (nS k) j = en q
def WF (cd : Nat → pC) (μ : nMem) : Prop := ∀ k, k < 12 → WN μ k ∧ WD μ k ∧ WK (cd k) μ k
theorem WN.n {μ : nMem} {k : Nat} (h : WN μ k) : μ.1 (nN k) 1 = nI (μ.1 (nN k) 1).toNatClampNeg ∧ (μ.1 (nN k) 1).toNatClampNeg ≤ 12 ∧ ∀ i, i < (μ.1 (nN k) 1).toNatClampNeg → μ.1 (nR k) i = nI (rN μ k i) ∧ rN μ k i < 12 := by
  obtain ⟨n, h1, h2, h3⟩ := h
  have e : (μ.1 (nN k) 1).toNatClampNeg = n := by rw [h1, nI_clamp (by omega)]
  rw [e]
  refine ⟨h1, h2, fun i hi => ?_⟩
  obtain ⟨s, hs, e2⟩ := h3 i hi
  have e3 : rN μ k i = s := by unfold rN; rw [e2, nI_clamp (by omega)]
  rw [e3]
  exact ⟨e2, hs⟩
/-- two memories that agree where WF looks -/
def WE (μ μ' : nMem) : Prop := ∀ k, k < 12 → μ'.1 (nN k) 1 = μ.1 (nN k) 1 ∧ μ'.1 (nR k) = μ.1 (nR k) ∧ μ'.1 (nN k) 7 = μ.1 (nN k) 7 ∧ μ'.1 (nC k) 7 = μ.1 (nC k) 7 ∧ μ'.1 (nC k) 4 = μ.1 (nC k) 4 ∧ μ'.1 (nF k) = μ.1 (nF k) ∧ μ'.1 (nS k) = μ.1 (nS k)
theorem WF.cong {cd : Nat → pC} {μ μ' : nMem} (h : WF cd μ) (e : WE μ μ') : WF cd μ' := by
  intro k hk
  obtain ⟨h1, h2, h3⟩ := h k hk
  obtain ⟨e1, e2, e3, e4, e5, e6, e7⟩ := e k hk
  refine ⟨?_, ?_, ?_⟩
  · unfold WN; rw [e1, e2]; exact h1
  · unfold WD; rw [e3, e4]; exact h2
  · unfold WK; rw [e5, e6, e7]; exact h3
theorem WE.rfl {μ : nMem} : WE μ μ := fun _ _ => ⟨Eq.refl _, Eq.refl _, Eq.refl _, Eq.refl _, Eq.refl _, Eq.refl _, Eq.refl _⟩
theorem WE.trans {a b c : nMem} (h1 : WE a b) (h2 : WE b c) : WE a c := fun k hk => by
  obtain ⟨e1, e2, e3, e4, e5, e6, e7⟩ := h1 k hk
  obtain ⟨f1, f2, f3, f4, f5, f6, f7⟩ := h2 k hk
  exact ⟨f1.trans e1, f2.trans e2, f3.trans e3, f4.trans e4, f5.trans e5, f6.trans e6, f7.trans e7⟩
/-- a place where WF doesn't look -/
def free (a j : Nat) : Prop := ∀ k, k < 12 → (a = nN k → ¬ j = 1 ∧ ¬ j = 7) ∧ ¬ a = nR k ∧ (a = nC k → ¬ j = 4 ∧ ¬ j = 7) ∧ ¬ a = nF k ∧ ¬ a = nS k
theorem WE.ms {μ : nMem} {a j : Nat} {x : Int32} (h : free a j) : WE μ (ms μ a j x) := by
  intro k hk
  obtain ⟨h1, h2, h3, h4, h5⟩ := h k hk
  refine ⟨?_, ms_o (fun z => h2 z.symm), ?_, ?_, ?_, ms_o (fun z => h4 z.symm), ms_o (fun z => h5 z.symm)⟩
  · rw [ms_r, if_neg (fun z => (h1 z.1.symm).1 z.2.symm)]
  · rw [ms_r, if_neg (fun z => (h1 z.1.symm).2 z.2.symm)]
  · rw [ms_r, if_neg (fun z => (h3 z.1.symm).2 z.2.symm)]
  · rw [ms_r, if_neg (fun z => (h3 z.1.symm).1 z.2.symm)]
theorem WE.ml {μ : nMem} {a j : Nat} {x : Int64} : WE μ (ml μ a j x) := fun _ _ => ⟨Eq.refl _, Eq.refl _, Eq.refl _, Eq.refl _, Eq.refl _, Eq.refl _, Eq.refl _⟩
theorem free_C {k j : Nat} (hk : k < 12) (h : ¬ j = 4 ∧ ¬ j = 7) : free (nC k) j := by
  intro i hi
  refine ⟨fun z => ?_, ?_, fun _ => h, ?_, ?_⟩
  · exfalso; unfold nC nN at z; omega
  · unfold nC nR; omega
  · unfold nC nF; split <;> omega
  · unfold nC nS; split <;> omega
theorem free_N {k j : Nat} (hk : k < 12) (h : ¬ j = 1 ∧ ¬ j = 7) : free (nN k) j := by
  intro i hi
  refine ⟨fun _ => h, ?_, fun z => ?_, ?_, ?_⟩
  · unfold nN nR; omega
  · exfalso; unfold nC nN at z; omega
  · unfold nN nF; split <;> omega
  · unfold nN nS; split <;> omega
theorem free_Y {k j : Nat} (hk : k < 12) : free (nY k) j := by
  intro i hi
  refine ⟨fun z => ?_, ?_, fun z => ?_, ?_, ?_⟩
  · exfalso; unfold nY nN at z; omega
  · unfold nY nR; omega
  · exfalso; unfold nC nY at z; omega
  · unfold nY nF; split <;> omega
  · unfold nY nS; split <;> omega
theorem free_K {k j : Nat} (hk : k < 12) : free (nK k) j := by
  intro i hi
  refine ⟨fun z => ?_, ?_, fun z => ?_, ?_, ?_⟩
  · exfalso; unfold nK nN at z; omega
  · unfold nK nR; omega
  · exfalso; unfold nC nK at z; omega
  · unfold nK nF; split <;> omega
  · unfold nK nS; split <;> omega
theorem free_lo {j : Nat} : free 0 j := by
  intro i hi
  refine ⟨fun z => ?_, ?_, fun z => ?_, ?_, ?_⟩
  · exfalso; unfold nN at z; omega
  · unfold nR; omega
  · exfalso; unfold nC at z; omega
  · unfold nF; split <;> omega
  · unfold nS; split <;> omega
theorem free_99 {j : Nat} : free 99 j := by
  intro i hi
  refine ⟨fun z => ?_, ?_, fun z => ?_, ?_, ?_⟩
  · exfalso; unfold nN at z; omega
  · unfold nR; omega
  · exfalso; unfold nC at z; omega
  · unfold nF; split <;> omega
  · unfold nS; split <;> omega
/-! flags: which cells have formulas, which are at work -/
def FL (μ μ' : nMem) : Prop := ∀ j, j < 12 → μ'.1 (nC j) 4 = μ.1 (nC j) 4 ∧ μ'.1 (nC j) 9 = μ.1 (nC j) 9
theorem FL.trans {a b c : nMem} (h1 : FL a b) (h2 : FL b c) : FL a c := fun j hj => ⟨(h2 j hj).1.trans (h1 j hj).1, (h2 j hj).2.trans (h1 j hj).2⟩
/-- cells with a formula that aren't at work, among the first i -/
def fw (μ : nMem) : Nat → Nat
  | 0 => 0
  | i + 1 => fw μ i + if μ.1 (nC i) 4 = 0 then 0 else if μ.1 (nC i) 9 = 0 then 1 else 0
theorem fw_FL {μ μ' : nMem} (h : FL μ μ') : ∀ i, i ≤ 12 → fw μ' i = fw μ i := by
  intro i
  induction i with
  | zero => intro _; rfl
  | succ i ih =>
    intro hi
    unfold fw
    rw [ih (by omega), (h i (by omega)).1, (h i (by omega)).2]
theorem fw_set {μ : nMem} {k : Nat} {x : Int32} (hx : ¬ x = 0) (h4 : ¬ μ.1 (nC k) 4 = 0) (h9 : μ.1 (nC k) 9 = 0) : ∀ i, i ≤ 12 → fw (ms μ (nC k) 9 x) i + (if k < i then 1 else 0) = fw μ i := by
  intro i
  induction i with
  | zero => intro _; rfl
  | succ i ih =>
    intro hi
    have ih := ih (by omega)
    unfold fw
    by_cases hk : i = k
    · subst hk
      have e4 : (ms μ (nC i) 9 x).1 (nC i) 4 = μ.1 (nC i) 4 := by rw [ms_r, if_neg (fun z => by omega)]
      have e9 : (ms μ (nC i) 9 x).1 (nC i) 9 = x := by rw [ms_r, if_pos ⟨rfl, rfl⟩]
      rw [e4, e9, if_neg h4, if_neg h4, if_pos h9, if_neg hx, if_pos (Nat.lt_succ_self _)]
      rw [if_neg (by omega)] at ih
      omega
    · have hn : ¬ nC i = nC k := by unfold nC; omega
      rw [ms_o hn]
      by_cases hlt : k < i
      · rw [if_pos hlt] at ih
        rw [if_pos (show k < i + 1 by omega)]
        omega
      · rw [if_neg hlt] at ih
        rw [if_neg (show ¬ k < i + 1 by omega)]
        omega
theorem fw_pos {μ : nMem} {k : Nat} (h4 : ¬ μ.1 (nC k) 4 = 0) (h9 : μ.1 (nC k) 9 = 0) : ∀ i, k < i → 1 ≤ fw μ i := by
  intro i
  induction i with
  | zero => intro h; omega
  | succ i ih =>
    intro h
    unfold fw
    by_cases hk : k = i
    · subst hk
      rw [if_neg h4, if_pos h9]
      omega
    · have := ih (by omega)
      omega
