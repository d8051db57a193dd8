theorem cpF_o {m : nMem} {k b : Nat} (h1 : ¬ b = nT k) (h2 : ¬ b = nS k) (h3 : ¬ b = nF k) : (cpF m k).1 b = m.1 b := by
  unfold cpF
  rw [ms_o h3, ms_o h3, mw_o h2, mw_o h1]
theorem ms_cg {m m' : nMem} {a j b : Nat} {x : Int32} (h : m.1 b = m'.1 b) : (ms m a j x).1 b = (ms m' a j x).1 b := by
  unfold ms
  dsimp only
  split
  · rename_i e; subst e; rw [h]
  · exact h
theorem cpF_T {m : nMem} {k j : Nat} (hj : j < 30) : (cpF m k).1 (nT k) j = m.1 (nT 12) j := by
  unfold cpF
  rw [ms_o (ne_TF k k), ms_o (ne_TF k k), mw_o (ne_TS k k), mw_s]
  unfold va_cpy
  rw [if_pos ⟨Nat.zero_le _, by omega⟩, Nat.zero_add, Nat.sub_zero]
theorem cpF_S {m : nMem} {k j : Nat} (hj : j < 30) : (cpF m k).1 (nS k) j = m.1 (nS 12) j := by
  unfold cpF
  rw [ms_o (ne_SF k k), ms_o (ne_SF k k), mw_s]
  unfold va_cpy
  rw [if_pos ⟨Nat.zero_le _, by omega⟩, Nat.zero_add, Nat.sub_zero]
theorem cpF_F2 {m : nMem} {k : Nat} : (cpF m k).1 (nF k) 2 = m.1 (nF 12) 2 := by
  unfold cpF
  rw [ms_r, if_neg (by omega), ms_r, if_pos ⟨rfl, rfl⟩]
theorem cpF_F3 {m : nMem} {k : Nat} : (cpF m k).1 (nF k) 3 = m.1 (nF 12) 3 := by
  unfold cpF
  rw [ms_r, if_pos ⟨rfl, rfl⟩]
theorem cpF_2 {m : nMem} {k : Nat} : (cpF m k).2 = m.2 := rfl
/-- a new formula, on both sides -/
theorem INVx.nw' {cd : Nat → pC} {n kp k o : Nat} {cs : pC} {γ μ μx p : nMem} {sg : yG} (h : INVx cd n kp γ μ) (hk : k < 12) (hcs : WT cs) (hlen : cs.length ≤ 30)
    (hP : ∀ b, ¬ b = 103 → ¬ b = nF 12 → ¬ b = nS 12 → p.1 b = γ.1 b) (hp2 : p.2 = γ.2) (hpF : p.1 (nF 12) 2 = nI n) (hpF3 : p.1 (nF 12) 3 = nI cs.length) (hpS : ∀ j q, cs[j]? = some q → p.1 (nS 12) j = en q)
    (hY : YS μ μx sg (rc cs)) : INVx (fun i => if i = k then cs else cd i) 0 kp (ms (mkF p k o) (nF 12) 2 0) (dfM (ms μx 104 2 0) k n cs.length o) := by
  have nx1 : ∀ b, b < 100 → ¬ b = 103 ∧ ¬ b = nF 12 ∧ ¬ b = nS 12 := fun b hb => ⟨by omega, by rw [v12F]; omega, by rw [v12S]; omega⟩
  have hpq : CQ γ p := fun i hi => ⟨hP i (nx1 i hi).1 (nx1 i hi).2.1 (nx1 i hi).2.2, by rw [hp2]⟩
  obtain ⟨i1, i2, i3, i4, i5, i6, i7, i8, i9, j1, j2, j3, j4, j5, j6⟩ := h
  have m : ∀ b, 105 ≤ b → b ≤ 136 → (ms μx 104 2 0).1 b = μ.1 b := fun b h1 h2 => by rw [ms_o (by omega)]; exact hY.1.1 b (by omega) (by omega) (by omega) (by omega) (by omega)
  have m4 : ∀ j, ¬ j = 2 → ¬ j = 37 → ¬ j = 40 → (ms μx 104 2 0).1 104 j = μ.1 104 j := fun j h1 h2 h3 => by rw [ms_r, if_neg (fun z => h1 z.2)]; exact hY.1.2.1 j h2 h3
  have hr0 : REL p (ms μx 104 2 0) := by
    have : REL γ (ms μx 104 2 0) := i2.mcong (fun b hb => m b (by omega) (by omega)) (m4 3 (by decide) (by decide) (by decide)) (m4 24 (by decide) (by decide) (by decide)) (by rw [ms_2, hY.1.2.2])
    exact this.mv2 hpq (fun _ _ => rfl) rfl rfl rfl
  have hm40 : (ms μx 104 2 0).1 104 40 = nI cs.length := by rw [ms_r, if_neg (by omega), hY.2.2.1, rc_len]
  have hm139 : ∀ j q, cs[j]? = some q → (ms μx 104 2 0).1 139 j = (rn q).1 ∧ (ms μx 104 2 0).1 140 j = (rn q).2 := fun j q hq => by
    rw [ms_o (by decide), ms_o (by decide)]
    exact hY.2.2.2 j (rn q) (by unfold rc; rw [List.getElem?_map, hq]; rfl)
  generalize hmx : ms μx 104 2 0 = mx at m m4 hr0 hm40 hm139
  have h104 : mx.1 104 2 = 0 := by rw [← hmx, ms_r, if_pos ⟨rfl, rfl⟩]
  -- addresses
  have aT : nT k < 100 := by unfold nT; split <;> omega
  have aS : nS k < 100 := by unfold nS; split <;> omega
  have aF : nF k < 100 := by unfold nF; split <;> omega
  have aC : nC k < 100 := by unfold nC; omega
  -- the class's side
  have gq : ∀ b, ¬ b = nT k → ¬ b = nS k → ¬ b = nF k → ¬ b = nF 12 → (ms (mkF p k o) (nF 12) 2 0).1 b = (ms (ms (srv p o) (nC k) 5 ((srv p o).1 0 6)) (nC k) 4 1).1 b := by
    intro b h1 h2 h3 h4
    unfold mkF
    rw [ms_o h4]
    have e0 : (cpF (srv p o) k).1 0 6 = (srv p o).1 0 6 := by rw [cpF_o (by unfold nT; split <;> omega) (by unfold nS; split <;> omega) (by unfold nF; split <;> omega)]
    rw [e0]
    exact ms_cg (ms_cg (cpF_o h1 h2 h3))
  have gp : ∀ b, ¬ b = nT k → ¬ b = nS k → ¬ b = nF k → ¬ b = nF 12 → ¬ b = nC k → ¬ b = 98 → ¬ b = 0 → (ms (mkF p k o) (nF 12) 2 0).1 b = p.1 b := fun b h1 h2 h3 h4 h5 h6 h7 => by
    rw [gq b h1 h2 h3 h4, ms_o h5, ms_o h5, srv_o h6 h7]
  have hrl : REL (ms (mkF p k o) (nF 12) 2 0) (dfM mx k n cs.length o) := by
    have hr1 := (hr0.rev (o := o)).fmu hk
    refine hr1.cng (fun b hb => gq b ?_ ?_ ?_ ?_) ?_ (fun b hb => ?_) ?_ ?_ ?_
    · rcases hb with rfl | rfl | rfl | ⟨i, hi, rfl | rfl | rfl | rfl⟩ <;> (unfold nT; first | (split <;> omega) | (unfold nC; split <;> omega) | (unfold nN; split <;> omega) | (unfold nR; split <;> omega) | (unfold nY; split <;> omega))
    · rcases hb with rfl | rfl | rfl | ⟨i, hi, rfl | rfl | rfl | rfl⟩ <;> (unfold nS; first | (split <;> omega) | (unfold nC; split <;> omega) | (unfold nN; split <;> omega) | (unfold nR; split <;> omega) | (unfold nY; split <;> omega))
    · rcases hb with rfl | rfl | rfl | ⟨i, hi, rfl | rfl | rfl | rfl⟩ <;> (unfold nF; first | (split <;> omega) | (unfold nC; split <;> omega) | (unfold nN; split <;> omega) | (unfold nR; split <;> omega) | (unfold nY; split <;> omega))
    · rcases hb with rfl | rfl | rfl | ⟨i, hi, rfl | rfl | rfl | rfl⟩ <;> (rw [v12F]; first | omega | (unfold nC; omega) | (unfold nN; omega) | (unfold nR; omega) | (unfold nY; omega))
    · show (srv p o).2 = (srv p o).2; rfl
    · unfold dfM
      rw [scM_o (by omega) (by omega), tcM_o (by omega)]
      unfold dfB
      have e3 : (dfN (srmv mx o) k).1 104 3 = (srmv mx o).1 104 3 := by unfold dfN; rw [ms_o (by decide), ms_o (by decide)]
      rw [e3]
      refine ms_cg ?_
      rw [ms_o (by omega), ms_o (by omega)]
    · unfold dfM
      rw [scM_o (by decide) (by decide), tcM_o (by decide)]
      unfold dfB
      rw [ms_o (by decide), ms_o (by decide), ms_o (by decide), ms_o (by decide), ms_o (by decide), ms_o (by decide)]
    · unfold dfM
      rw [scM_o (by decide) (by decide), tcM_o (by decide)]
      unfold dfB
      rw [ms_o (by decide), ms_o (by decide), ms_o (by decide), ms_o (by decide), ms_o (by decide), ms_o (by decide)]
    · unfold dfM
      rw [scM_2, tcM_2]
      rfl
  -- the model's side
  have dm : ∀ b, ¬ b = 104 → ¬ b = 106 → ¬ b = 107 → ¬ b = 108 → ¬ b = 109 → ¬ b = 110 → ¬ b = 111 → ¬ b = 112 → ¬ b = 113 → ¬ b = 117 → ¬ b = 118 → (dfM mx k n cs.length o).1 b = mx.1 b := fun b h1 h2 h3 h4 h5 h6 h7 h8 h9 g1 g2 => by
    unfold dfM
    rw [scM_o h7 h8, tcM_o h4]
    unfold dfB dfN
    rw [ms_o h9, ms_o h6, ms_o h5, ms_o h3, ms_o g2, ms_o g1, srmv_o h2 h1]
  have d104 : ∀ j, ¬ j = 3 → (dfM mx k n cs.length o).1 104 j = mx.1 104 j := fun j hj => by
    unfold dfM
    rw [scM_o (by decide) (by decide), tcM_o (by decide)]
    unfold dfB dfN
    rw [ms_o (by decide), ms_o (by decide), ms_o (by decide), ms_o (by decide), ms_o (by decide), ms_o (by decide), srmv_104, if_neg hj]
  have dB : ∀ b, ¬ b = 107 → ¬ b = 109 → ¬ b = 110 → ¬ b = 113 → ¬ b = 117 → ¬ b = 118 → ¬ b = 106 → ¬ b = 104 → (dfB (dfN (srmv mx o) k) k n).1 b = mx.1 b := fun b h1 h2 h3 h4 h5 h6 h7 h8 => by
    unfold dfB dfN
    rw [ms_o h4, ms_o h3, ms_o h2, ms_o h1, ms_o h6, ms_o h5, srmv_o h7 h8]
  have d107 : ∀ i, ¬ i = k → (dfM mx k n cs.length o).1 107 i = mx.1 107 i := fun i hi => by
    unfold dfM
    rw [scM_o (by decide) (by decide), tcM_o (by decide)]
    unfold dfB dfN
    rw [ms_o (by decide), ms_o (by decide), ms_o (by decide), ms_r, if_neg (fun z => hi z.2), ms_o (by decide), ms_o (by decide), srmv_o (by decide) (by decide)]
  have d109 : ∀ i, (dfM mx k n cs.length o).1 109 i = if i = k then nI n else mx.1 109 i := fun i => by
    unfold dfM
    rw [scM_o (by decide) (by decide), tcM_o (by decide)]
    unfold dfB dfN
    rw [ms_o (by decide), ms_o (by decide), ms_r]
    by_cases e : i = k
    · rw [if_pos ⟨rfl, e⟩, if_pos e]
    · rw [if_neg (fun z => e z.2), if_neg e, ms_o (by decide), ms_o (by decide), ms_o (by decide), srmv_o (by decide) (by decide)]
  have d110 : ∀ i, (dfM mx k n cs.length o).1 110 i = if i = k then nI cs.length else mx.1 110 i := fun i => by
    unfold dfM
    rw [scM_o (by decide) (by decide), tcM_o (by decide)]
    unfold dfB dfN
    rw [ms_o (by decide), ms_r]
    by_cases e : i = k
    · rw [if_pos ⟨rfl, e⟩, if_pos e, ms_o (by decide), ms_o (by decide), srmv_104, if_neg (by decide)]; exact hm40
    · rw [if_neg (fun z => e z.2), if_neg e, ms_o (by decide), ms_o (by decide), ms_o (by decide), ms_o (by decide), srmv_o (by decide) (by decide)]
  have d111 : ∀ i j, j < 40 → (dfM mx k n cs.length o).1 111 (40 * i + j) = if i = k ∧ j < cs.length then mx.1 139 j else mx.1 111 (40 * i + j) := fun i j hj => by
    unfold dfM
    rw [scM_r1 _ _ _ (by omega) hj, tcM_o (by decide), tcM_o (by decide), dB 139 (by decide) (by decide) (by decide) (by decide) (by decide) (by decide) (by decide) (by decide), dB 111 (by decide) (by decide) (by decide) (by decide) (by decide) (by decide) (by decide) (by decide)]
  have d112 : ∀ i j, j < 40 → (dfM mx k n cs.length o).1 112 (40 * i + j) = if i = k ∧ j < cs.length then mx.1 140 j else mx.1 112 (40 * i + j) := fun i j hj => by
    unfold dfM
    rw [scM_r2 _ _ _ (by omega) hj, tcM_o (by decide), tcM_o (by decide), dB 140 (by decide) (by decide) (by decide) (by decide) (by decide) (by decide) (by decide) (by decide), dB 112 (by decide) (by decide) (by decide) (by decide) (by decide) (by decide) (by decide) (by decide)]
  have d108 : ∀ i j, j < 30 → (dfM mx k n cs.length o).1 108 (30 * i + j) = if i = k ∧ j < n then mx.1 105 j else mx.1 108 (30 * i + j) := fun i j hj => by
    unfold dfM
    rw [scM_o (by decide) (by decide), tcM_r _ _ _ i7 hj, dB 105 (by decide) (by decide) (by decide) (by decide) (by decide) (by decide) (by decide) (by decide), dB 108 (by decide) (by decide) (by decide) (by decide) (by decide) (by decide) (by decide) (by decide)]
  -- the cells of the class
  have cN1 : ∀ i, i < 12 → (ms (mkF p k o) (nF 12) 2 0).1 (nN i) = γ.1 (nN i) := fun i hi => by
    rw [gp _ (by unfold nN nT; split <;> omega) (by unfold nN nS; split <;> omega) (by unfold nN nF; split <;> omega) (by rw [v12F]; unfold nN; omega) (by unfold nN nC; omega) (by unfold nN; omega) (by unfold nN; omega)]
    exact (hpq _ (by unfold nN; omega)).1
  have cR1 : ∀ i, i < 12 → (ms (mkF p k o) (nF 12) 2 0).1 (nR i) = γ.1 (nR i) := fun i hi => by
    rw [gp _ (by unfold nR nT; split <;> omega) (by unfold nR nS; split <;> omega) (by unfold nR nF; split <;> omega) (by rw [v12F]; unfold nR; omega) (by unfold nR nC; omega) (by unfold nR; omega) (by unfold nR; omega)]
    exact (hpq _ (by unfold nR; omega)).1
  have cC1 : ∀ i j, i < 12 → ¬ (i = k ∧ (j = 4 ∨ j = 5)) → (ms (mkF p k o) (nF 12) 2 0).1 (nC i) j = γ.1 (nC i) j := fun i j hi hj => by
    rw [gq _ (by unfold nC nT; split <;> omega) (by unfold nC nS; split <;> omega) (by unfold nC nF; split <;> omega) (by rw [v12F]; unfold nC; omega), ms_r, if_neg (fun z => hj ⟨by have := z.1; unfold nC at this; omega, Or.inl z.2⟩), ms_r, if_neg (fun z => hj ⟨by have := z.1; unfold nC at this; omega, Or.inr z.2⟩), srv_o (by unfold nC; omega) (by unfold nC; omega), (hpq _ (by unfold nC; omega)).1]
  have cF1 : ∀ i, i < 12 → ¬ i = k → (ms (mkF p k o) (nF 12) 2 0).1 (nF i) = γ.1 (nF i) ∧ (ms (mkF p k o) (nF 12) 2 0).1 (nS i) = γ.1 (nS i) ∧ (ms (mkF p k o) (nF 12) 2 0).1 (nT i) = γ.1 (nT i) := fun i hi hne => by
    have f12 : ¬ i = 12 := by omega
    have k12 : ¬ k = 12 := by omega
    have eF : nF i = 3 + 8 * i := if_neg f12
    have eS : nS i = 5 + 8 * i := if_neg f12
    have eT : nT i = 4 + 8 * i := if_neg f12
    have kF : nF k = 3 + 8 * k := if_neg k12
    have kS : nS k = 5 + 8 * k := if_neg k12
    have kT : nT k = 4 + 8 * k := if_neg k12
    refine ⟨?_, ?_, ?_⟩
    · rw [gp _ (by omega) (by omega) (by omega) (by rw [v12F]; omega) (by unfold nC; omega) (by omega) (by omega)]; exact (hpq _ (by omega)).1
    · rw [gp _ (by omega) (by omega) (by omega) (by rw [v12F]; omega) (by unfold nC; omega) (by omega) (by omega)]; exact (hpq _ (by omega)).1
    · rw [gp _ (by omega) (by omega) (by omega) (by rw [v12F]; omega) (by unfold nC; omega) (by omega) (by omega)]; exact (hpq _ (by omega)).1
  have kk : ∀ b, b = nT k ∨ b = nS k ∨ b = nF k → (ms (mkF p k o) (nF 12) 2 0).1 b = (cpF (srv p o) k).1 b := fun b hb => by
    have h12 : ¬ b = nF 12 := by rw [v12F]; rcases hb with rfl | rfl | rfl <;> omega
    have hC : ¬ b = nC k := by rcases hb with rfl | rfl | rfl <;> (unfold nC; first | (unfold nT; split <;> omega) | (unfold nS; split <;> omega) | (unfold nF; split <;> omega))
    unfold mkF
    rw [ms_o h12, ms_o hC, ms_o hC]
  have sT : (srv p o).1 (nT 12) = γ.1 (nT 12) := by rw [srv_o (by decide) (by decide)]; exact hP _ (by decide) (by decide) (by decide)
  refine ⟨fun i hi => ?_, hrl, fun i hi h4 => ?_, fun i hi => ?_, ?_, ?_, Nat.zero_le _, ⟨?_, fun j hj => by omega⟩, fun j hj => ?_, fun i hi => ?_, ?_, ?_, j4, j5, ?_⟩
  · obtain ⟨p1, p2, p3⟩ := i1 i hi
    refine ⟨?_, ?_, ?_⟩
    · unfold WN; rw [cN1 i hi, cR1 i hi]; exact p1
    · unfold WD; rw [cN1 i hi, cC1 i 7 hi (fun z => by omega)]; exact p2
    · by_cases e : i = k
      · subst e
        intro _
        dsimp only
        rw [if_pos rfl]
        refine ⟨hcs, hlen, ?_, fun j q hq => ?_⟩
        · rw [kk _ (Or.inr (Or.inr rfl)), cpF_F3, srv_o (by decide) (by decide)]; exact hpF3
        · have hjl := (List.getElem?_eq_some_iff.mp hq).1
          rw [kk _ (Or.inr (Or.inl rfl)), cpF_S (by omega), srv_o (by decide) (by decide)]; exact hpS j q hq
      · unfold WK
        dsimp only
        rw [if_neg e, cC1 i 4 hi (fun z => e z.1), (cF1 i hi e).1, (cF1 i hi e).2.1]
        exact p3
  · by_cases e : i = k
    · subst e
      dsimp only
      rw [if_pos rfl, d110, if_pos rfl]
      refine ⟨rfl, fun j q hq => ?_⟩
      have hjl := (List.getElem?_eq_some_iff.mp hq).1
      rw [d111 i j (by omega), d112 i j (by omega), if_pos ⟨rfl, hjl⟩, if_pos ⟨rfl, hjl⟩]
      exact hm139 j q hq
    · dsimp only
      rw [if_neg e, d110, if_neg e]
      rw [d107 i e, m 107 (by omega) (by omega)] at h4
      obtain ⟨q1, q2⟩ := i3 i hi h4
      rw [m 110 (by omega) (by omega)]
      refine ⟨q1, fun j q hq => ?_⟩
      have hjl := (List.getElem?_eq_some_iff.mp hq).1
      have hK := (i1 i hi).2.2 (by rw [← (i2.c i hi).fm]; exact h4)
      have hl30 : (cd i).length ≤ 30 := hK.2.1
      rw [d111 i j (by omega), d112 i j (by omega), if_neg (fun z => e z.1), if_neg (fun z => e z.1), m 111 (by omega) (by omega), m 112 (by omega) (by omega)]
      exact q2 j q hq
  · rw [cC1 i 9 hi (fun z => by omega)]; exact i4 i hi
  · rw [ms_r, if_pos ⟨rfl, rfl⟩]; rfl
  · rw [d104 2 (by decide)]; exact h104
  · rw [dm 105 (by decide) (by decide) (by decide) (by decide) (by decide) (by decide) (by decide) (by decide) (by decide) (by decide) (by decide), m 105 (by omega) (by omega), gp (nT 12) (by rw [v12T]; omega) (by rw [v12T]; omega) (by rw [v12T]; omega) (by decide) (by rw [v12T]; omega) (by decide) (by decide), hP _ (by decide) (by decide) (by decide)]
    exact i8.1
  · rw [gp (nT 12) (by rw [v12T]; omega) (by rw [v12T]; omega) (by rw [v12T]; omega) (by decide) (by rw [v12T]; omega) (by decide) (by decide), hP _ (by decide) (by decide) (by decide)]
    exact i9 j hj
  · by_cases e : i = k
    · subst e
      refine ⟨n, ?_, i7, fun _ => ⟨?_, fun j hj => ?_⟩⟩
      · rw [kk _ (Or.inr (Or.inr rfl)), cpF_F2, srv_o (by decide) (by decide)]; exact hpF
      · rw [d109, if_pos rfl]
      · rw [d108 i j (by omega), if_pos ⟨rfl, hj⟩, kk _ (Or.inl rfl), cpF_T (by omega), sT, m 105 (by omega) (by omega), i8.1]
    · obtain ⟨aa, t1, t2, t3⟩ := j1 i hi
      refine ⟨aa, by rw [(cF1 i hi e).1]; exact t1, t2, fun h4 => ?_⟩
      rw [cC1 i 4 hi (fun z => e z.1)] at h4
      rw [d109, if_neg e, m 109 (by omega) (by omega)]
      refine ⟨(t3 h4).1, fun j hj => ?_⟩
      rw [d108 i j (by omega), if_neg (fun z => e z.1), m 108 (by omega) (by omega), (cF1 i hi e).2.2]
      exact (t3 h4).2 j hj
  · have e0 : (ms (mkF p k o) (nF 12) 2 0).1 0 5 = p.1 0 5 := by
      rw [gq 0 (by unfold nT; split <;> omega) (by unfold nS; split <;> omega) (by unfold nF; split <;> omega) (by decide), ms_o (by unfold nC; omega), ms_o (by unfold nC; omega), srv_0, if_neg (by decide)]
    rw [e0, (hpq 0 (by omega)).1]; exact j2
  · rw [d104 0 (by decide), m4 0 (by decide) (by decide) (by decide)]; exact j3
  · refine Nat.le_trans (vcn_mono (γ := γ) (fun i hi z => ?_) 12 (Nat.le_refl _)) j6
    rw [cN1 i hi] at z; exact z
