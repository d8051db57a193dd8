theorem op_define {L : Nat} {xs : Nat → Int32} (a : Int32) : lwI L xs 203 INV 2 47 [.int a] := by
  intro μ hI
  obtain ⟨cd, n, kp, h⟩ := hI
  have hT : ∀ i, i < n → okC (μ.1 (nT 12) i) := h.pt.2
  have hPH : PH μ n := ⟨h.pl, h.n30, fun j hj => okC_nar (hT j hj)⟩
  have hod : ∀ j, j < 12 → ∃ o, oD μ j = nI o ∧ o < 3 := fun j hj => by
    unfold oD
    split
    · exact (h.wf j hj).2.1.2
    · exact ⟨2, rfl, by omega⟩
  have hyr := yRun_pAcc (t := μ.1 (nT 12)) h.n30 hT
  have hok := pAcc_ok (μ.1 (nT 12)) h.n30
  have hyr2 : ∀ m1 : nMem, MP μ m1 → m1.1 105 = μ.1 (nT 12) := fun m1 hM => by rw [(hM 105 (by omega)).1]; exact h.pt.1
  have hdd : ∀ m1 : nMem, MP μ m1 → ∀ j, j < 12 → ∃ o, mD m1 j = nI o ∧ o < 3 := fun m1 hM j hj => by
    have e : mD m1 j = oD μ j := by
      unfold mD oD
      rw [(hM 107 (by omega)).1, (hM 115 (by omega)).1, (h.rl.c j hj).fm, (h.rl.c j hj).du]
    rw [e]; exact hod j hj
  have hb1 : ∀ m1 : nMem, MP μ m1 → ∀ j, yRun (m1.1 105) n 31 true 0 [] [] = .inl j → j ≤ 30 := fun m1 hM j hj => by
    rw [hyr2 m1 hM, hyr] at hj
    split at hj
    · cases hj
    · cases hj; have := h.n30; omega
  have hb2 : ∀ m1 : nMem, MP μ m1 → ∀ cd', yRun (m1.1 105) n 31 true 0 [] [] = .inr cd' → cd'.length ≤ 40 := fun m1 hM cd' hj => by
    rw [hyr2 m1 hM, hyr] at hj
    split at hj
    · cases hj; rw [rc_len]; have := h.n30; omega
    · cases hj
  have hml : ∀ m1 : nMem, MP μ m1 → m1.1 104 2 = nI n := fun m1 hM => by rw [(hM 104 (by omega)).1]; exact h.pm
  refine c_N_define (d := 71) (n := n) hPH (fun hx => ⟨_, _, rfl, rfl, ?_⟩) (fun k p hk hx hP hacc => ⟨_, _, rfl, rfl, ?_⟩) (fun k p hk hx hP hacc => ?_)
  · have hM : MP μ (ms μ (nF 12) 2 0) := MP.st (by decide)
    have hh := h.move CP.rfl hM
    refine c_M_define (d := 197) (n := n) (hml _ hM) h.n30 (hdd _ hM) (hb1 _ hM) (hb2 _ hM) (fun μx sg cd' _ hY => ⟨rfl, _, rfl, cd, 0, kp, ?_⟩) (fun k _ _ _ _ hk e => by rw [e, ic_nI hk] at hx; cases hx) (fun k _ _ _ hk e => by rw [e, ic_nI hk] at hx; cases hx) (fun k _ _ _ _ hk _ e => by rw [e, ic_nI hk] at hx; cases hx)
    refine INVx.move (INVx.pd hh (γ' := ms μ (nF 12) 2 0) (fun i hi => ⟨ms_o (by rw [v12F]; omega), rfl⟩) (ms_o (by decide)) (by rw [ms_r, if_pos ⟨rfl, rfl⟩]) hY) ?_ MP.rfl
    exact hY.cp.trans (CP.st (by omega))
  · have hpq : CQ μ (ms p (nF 12) 2 0) := fun i hi => ⟨by rw [ms_o (by rw [v12F]; omega)]; exact hP.1.1 i (by omega) (by rw [v12F]; omega) (by rw [v12S]; omega), by rw [ms_2, hP.1.2.2.2]⟩
    have hM : MP μ (ms p (nF 12) 2 0) := fun i hi => ⟨by rw [ms_o (by rw [v12F]; omega)]; exact hP.1.1 i (by omega) (by rw [v12F]; omega) (by rw [v12S]; omega), by rw [ms_2, hP.1.2.2.2]⟩
    have hh := h.move CP.rfl hM
    have hyx : yRun ((ms p (nF 12) 2 0).1 105) n 31 true 0 [] [] = .inl (pAcc (μ.1 (nT 12)) n).2.1 := by
      rw [hyr2 _ hM, hyr, if_neg (by rw [hacc]; decide)]
    refine c_M_define (d := 197) (n := n) (hml _ hM) h.n30 (hdd _ hM) (hb1 _ hM) (hb2 _ hM) (fun _ _ _ z => by rw [hx, ic_nI hk] at z; cases z) (fun k' μx sg cd' j hk' e hr hY => ⟨?_, _, rfl, cd, 0, kp, ?_⟩) (fun k' _ _ _ _ _ hr => by rw [hyx] at hr; cases hr) (fun k' _ _ _ _ _ _ _ _ hr => by rw [hyx] at hr; cases hr)
    · rw [hyx] at hr
      cases hr
      rfl
    · refine INVx.move (INVx.pd hh hpq ?_ (by rw [ms_r, if_pos ⟨rfl, rfl⟩]) hY) (hY.cp.trans (CP.st (by omega))) MP.rfl
      rw [ms_o (by decide)]
      exact hP.1.1 _ (by decide) (by decide) (by decide)
  · obtain ⟨aa, t1, t2, t3⟩ := h.tx k hk
    obtain ⟨o, ho, ho3⟩ := hod k hk
    have pF : p.1 (nF k) = μ.1 (nF k) := hP.1.1 _ (by unfold nF; split <;> omega) (by rw [v12F]; unfold nF; split <;> omega) (by rw [v12S]; unfold nF; split <;> omega)
    have pC' : p.1 (nC k) = μ.1 (nC k) := hP.1.1 _ (by unfold nC; omega) (by rw [v12F]; unfold nC; omega) (by rw [v12S]; unfold nC; omega)
    have pT : p.1 (nT k) = μ.1 (nT k) := hP.1.1 _ (by unfold nT; split <;> omega) (by rw [v12F]; unfold nT; split <;> omega) (by rw [v12S]; unfold nT; split <;> omega)
    have pT12 : p.1 (nT 12) = μ.1 (nT 12) := hP.1.1 _ (by decide) (by decide) (by decide)
    have hpo : oD p k = oD μ k := by unfold oD; rw [pC']
    have hacc1 : (pAcc (μ.1 (nT 12)) n).1 = true := by
      rcases e : (pAcc (μ.1 (nT 12)) n).1 with _ | _
      · rw [e] at hacc; cases hacc
      · rfl
    have hyx : ∀ m1 : nMem, MP μ m1 → yRun (m1.1 105) n 31 true 0 [] [] = .inr (rc (pAcc (μ.1 (nT 12)) n).2.2) := fun m1 hM => by
      rw [hyr2 _ hM, hyr, if_pos hacc]
    -- is the text the same? both sides say so together
    have hsame : ∀ m1 μx : nMem, MP μ m1 → (∀ b, 105 ≤ b → b ≤ 136 → μx.1 b = m1.1 b) → (smM μx k n = true ↔ (¬ μ.1 (nC k) 4 = 0 ∧ aa = n ∧ ∀ i, i < aa → μ.1 (nT k) i = μ.1 (nT 12) i)) := by
      intro m1 μx hM hx'
      rw [smM_iff, hx' 107 (by omega) (by omega), hx' 109 (by omega) (by omega), hx' 108 (by omega) (by omega), hx' 105 (by omega) (by omega), (hM 107 (by omega)).1, (hM 109 (by omega)).1, (hM 108 (by omega)).1, (hM 105 (by omega)).1, h.pt.1, (h.rl.c k hk).fm]
      have hn30 := h.n30
      constructor
      · rintro ⟨s1, s2, s3⟩
        obtain ⟨u1, u2⟩ := t3 s1
        have ea : aa = n := (nI_eq (by omega) (by omega)).mp (u1.symm.trans s2)
        exact ⟨s1, ea, fun i hi => by rw [← u2 i hi]; exact s3 i (by omega)⟩
      · rintro ⟨s1, s2, s3⟩
        obtain ⟨u1, u2⟩ := t3 s1
        exact ⟨s1, by rw [u1, s2], fun i hi => by rw [u2 i (by omega)]; exact s3 i (by omega)⟩
    refine ⟨aa, o, by rw [pF]; exact t1, t2, by rw [hpo]; exact ho, ho3, fun i hi => by rw [pT12]; exact h.pc i hi, fun g1 g2 g3 => ⟨_, _, rfl, rfl, ?_⟩, fun g => ⟨_, _, rfl, rfl, ?_⟩⟩
    · have hpq : CQ μ (ms p (nF 12) 2 0) := fun i hi => ⟨by rw [ms_o (by rw [v12F]; omega)]; exact hP.1.1 i (by omega) (by rw [v12F]; omega) (by rw [v12S]; omega), by rw [ms_2, hP.1.2.2.2]⟩
      have hM : MP μ (ms p (nF 12) 2 0) := fun i hi => ⟨by rw [ms_o (by rw [v12F]; omega)]; exact hP.1.1 i (by omega) (by rw [v12F]; omega) (by rw [v12S]; omega), by rw [ms_2, hP.1.2.2.2]⟩
      have hh := h.move CP.rfl hM
      rw [pC'] at g1
      rw [pT, pT12] at g3
      refine c_M_define (d := 197) (n := n) (hml _ hM) h.n30 (hdd _ hM) (hb1 _ hM) (hb2 _ hM) (fun _ _ _ z => by rw [hx, ic_nI hk] at z; cases z) (fun k' μx sg cd' j hk' e hr hY => by rw [hyx _ hM] at hr; cases hr) (fun k' μx sg cd' hk' e hr hY hs => ⟨rfl, _, rfl, cd, 0, kp, ?_⟩) (fun k' oo μx sg cd' hk' ho' e hd hr hY hs => ?_)
      · refine INVx.move (INVx.pd hh hpq ?_ (by rw [ms_r, if_pos ⟨rfl, rfl⟩]) hY) (hY.cp.trans (CP.st (by omega))) MP.rfl
        rw [ms_o (by decide)]
        exact pT12
      · exfalso
        have : k' = k := (nI_eq (by omega) (by omega)).mp (e.symm.trans hx)
        subst this
        rw [(hsame _ (ms μx 104 2 0) hM (fun b h1 h2 => by rw [ms_o (by omega)]; exact hY.1.1 b (by omega) (by omega) (by omega) (by omega) (by omega))).mpr ⟨g1, g2, g3⟩] at hs
        cases hs
    · have aF : nF k < 100 := by unfold nF; split <;> omega
      have aS : nS k < 100 := by unfold nS; split <;> omega
      have aT : nT k < 100 := by unfold nT; split <;> omega
      have aC : nC k < 100 := by unfold nC; omega
      have hM : MP μ (ms (mkF p k o) (nF 12) 2 0) := fun i hi => by
        refine ⟨?_, ?_⟩
        · unfold mkF
          rw [ms_o (by rw [v12F]; omega), ms_o (by omega), ms_o (by omega), cpF_o (by omega) (by omega) (by omega), srv_o (by omega) (by omega)]
          exact hP.1.1 i (by omega) (by rw [v12F]; omega) (by rw [v12S]; omega)
        · show (srv p o).2 i = μ.2 i
          rw [srv_2, hP.1.2.2.2]
      have hh := h.move CP.rfl hM
      refine c_M_define (d := 197) (n := n) (hml _ hM) h.n30 (hdd _ hM) (hb1 _ hM) (hb2 _ hM) (fun _ _ _ z => by rw [hx, ic_nI hk] at z; cases z) (fun k' μx sg cd' j hk' e hr hY => by rw [hyx _ hM] at hr; cases hr) (fun k' μx sg cd' hk' e hr hY hs => ?_) (fun k' oo μx sg cd' hk' ho' e hd hr hY hs => ⟨rfl, _, rfl, (fun i => if i = k then (pAcc (μ.1 (nT 12)) n).2.2 else cd i), 0, kp, ?_⟩)
      · exfalso
        have : k' = k := (nI_eq (by omega) (by omega)).mp (e.symm.trans hx)
        subst this
        obtain ⟨s1, s2, s3⟩ := (hsame _ (ms μx 104 2 0) hM (fun b h1 h2 => by rw [ms_o (by omega)]; exact hY.1.1 b (by omega) (by omega) (by omega) (by omega) (by omega))).mp hs
        exact g (by rw [pC']; exact s1) s2 (by rw [pT, pT12]; exact s3)
      · have : k' = k := (nI_eq (by omega) (by omega)).mp (e.symm.trans hx)
        subst this
        rw [hyx _ hM] at hr
        cases hr
        have eo : oo = o := by
          have e1 : mD (ms μx 104 2 0) k' = oD μ k' := by
            unfold mD oD
            rw [ms_o (by decide), ms_o (by decide), hY.1.1 107 (by decide) (by decide) (by decide) (by decide) (by decide), hY.1.1 115 (by decide) (by decide) (by decide) (by decide) (by decide), (hM 107 (by omega)).1, (hM 115 (by omega)).1, (h.rl.c k' hk').fm, (h.rl.c k' hk').du]
          rw [e1, ho] at hd
          exact ((nI_eq (by omega) (by omega)).mp hd).symm
        subst eo
        rw [rc_len]
        have hn30 := h.n30
        have hnew := INVx.nw' (o := oo) (p := p) hh hk' (pAcc_W h.n30 hacc1) (by omega) hP.1.1 hP.1.2.2.2 (by rw [hP.1.2.1 2 (by decide)]; exact h.pl) hP.2.2.1 hP.2.2.2.1 hY
        refine INVx.move hnew ?_ MP.rfl
        intro i hi
        have c1 := hY.cp i hi
        refine ⟨?_, ?_⟩
        · unfold dfM
          rw [scM_o (by omega) (by omega), tcM_o (by omega)]
          unfold dfB dfN
          rw [ms_o (by omega), ms_o (by omega), ms_o (by omega), ms_o (by omega), ms_o (by omega), ms_o (by omega), srmv_o (by omega) (by omega), ms_o (by omega)]
          exact c1.1
        · unfold dfM
          rw [scM_2, tcM_2]
          show (srmv (ms μx 104 2 0) oo).2 i = _
          rw [srmv_2]
          exact c1.2
/-! the beginning -/
theorem nKept_nI (x : Int32) : ∃ kp, nKept x = nI kp ∧ 1 ≤ kp ∧ kp ≤ 12 := by
  have h1 : 1 ≤ nKept x ∧ nKept x ≤ 12 := by
    unfold nKept
    by_cases a : x < 12
    · rw [if_pos a]
      by_cases b : 1 < x
      · rw [if_pos b]
        exact ⟨Int32.le_of_lt b, Int32.le_of_lt a⟩
      · rw [if_neg b]; decide
    · rw [if_neg a]; decide
  obtain ⟨j, hj, e⟩ := nI_of (Int32.not_lt.mpr (Int32.le_trans (by decide) h1.1))
  refine ⟨j, e, ?_, ?_⟩
  · rw [e] at h1; exact (nI_leI (a := 1) (by omega) hj).mp h1.1
  · rw [e] at h1; exact (nI_leI hj (by omega)).mp h1.2
theorem mu0_0 {x : Int32} {b : Nat} (h0 : ¬ b = 0) (h1 : ¬ b = 104) (j : Nat) : (mu0 x).1 b j = 0 := by
  show (if b = 0 then _ else if b = 104 then _ else (0 : Int32)) = 0
  rw [if_neg h0, if_neg h1]
theorem mu0_a {x : Int32} (j : Nat) : (mu0 x).1 0 j = (if j = 5 then nKept x else if j = 6 then 1 else 0) := by
  unfold mu0
  dsimp only
  rw [if_pos rfl]
theorem mu0_m {x : Int32} (j : Nat) : (mu0 x).1 104 j = (if j = 0 then nMost x else if j = 3 then 1 else 0) := by
  unfold mu0
  dsimp only
  rw [if_neg (by decide), if_pos rfl]
theorem INV_0 (x : Int32) : INV (mu0 x) := by
  obtain ⟨kp, e1, e2, e3⟩ := nKept_nI x
  have zC : ∀ k j, k < 12 → (mu0 x).1 (nC k) j = 0 := fun k j hk => mu0_0 (by unfold nC; omega) (by unfold nC; omega) j
  have zN : ∀ k j, k < 12 → (mu0 x).1 (nN k) j = 0 := fun k j hk => mu0_0 (by unfold nN; omega) (by unfold nN; omega) j
  have zY : ∀ k j, k < 12 → (mu0 x).1 (nY k) j = 0 := fun k j hk => mu0_0 (by unfold nY; omega) (by unfold nY; omega) j
  have z : ∀ b j, ¬ b = 0 → ¬ b = 104 → (mu0 x).1 b j = 0 := fun b j h1 h2 => mu0_0 h1 h2 j
  refine ⟨fun _ => [], 0, kp, ⟨fun k hk => ⟨⟨0, zN k 1 hk, by omega, fun i hi => by omega⟩, ⟨⟨0, zN k 7 hk, by omega⟩, ⟨0, zC k 7 hk, by omega⟩⟩, fun w => absurd (zC k 4 hk) w⟩, ⟨⟨?_, ?_, fun j hj => ?_, fun j hj => ?_⟩, fun k hk => ?_, fun k hk _ w => absurd (zN k 2 hk) w⟩, fun k hk w => absurd (z 107 k (by decide) (by decide)) w, fun j hj => zC j 9 hj, ?_, ?_, Nat.zero_le _, ⟨?_, fun j hj => by omega⟩, fun j hj => ?_, fun k hk => ⟨0, ?_, by omega, fun w => absurd (zC k 4 hk) w⟩, ?_, ?_, e2, e3, ?_⟩⟩
  · rw [mu0_a, mu0_m]; rfl
  · rw [mu0_a, mu0_m]; rfl
  · rw [z 106 j (by decide) (by decide), z 98 j (by decide) (by decide)]
  · rw [z 127 j (by decide) (by decide), z 99 j (by decide) (by decide)]
  · refine ⟨?_, ?_, ?_, ?_, ?_, ?_, ?_, fun j hj => ?_, ?_, ?_, fun w => absurd (zN k 3 hk) w, fun w => absurd (zN k 2 hk) w, fun _ _ => ⟨zN k 1 hk, zN k 3 hk, zN k 5 hk, zN k 6 hk, zN k 7 hk⟩, ⟨fun _ => zN k 3 hk, Or.inl (zN k 2 hk), Or.inl (zN k 3 hk)⟩, fun _ => ⟨zN k 2 hk, zN k 3 hk⟩⟩
    · rw [z 107 k (by decide) (by decide), zC k 4 hk]
    · rw [z 113 k (by decide) (by decide), zC k 5 hk]
    · rw [z 114 k (by decide) (by decide), zC k 6 hk]
    · rw [z 115 k (by decide) (by decide), zC k 7 hk]
    · rw [z 116 k (by decide) (by decide), zC k 8 hk]
    · rw [z 135 k (by decide) (by decide), zC k 9 hk]
    · rw [z 125 k (by decide) (by decide), zC k 10 hk]
    · rw [z 126 _ (by decide) (by decide), zY k j hk]
    · rw [z 117 k (by decide) (by decide), zN k 2 hk]
    · rw [z 118 k (by decide) (by decide), zN k 3 hk]
  · rw [z (nF 12) 2 (by decide) (by decide)]; rfl
  · rw [mu0_m]; rfl
  · funext j; rw [z 105 j (by decide) (by decide), z (nT 12) j (by decide) (by decide)]
  · rw [z (nT 12) j (by decide) (by decide)]; rfl
  · rw [z (nF k) 2 (by unfold nF; split <;> omega) (by unfold nF; split <;> omega)]; rfl
  · rw [mu0_a, if_pos rfl]; exact e1
  · rw [mu0_m, if_pos rfl, nMost_kept]; exact e1
  · have hv : ∀ i, i ≤ 12 → vcn (mu0 x) i = 0 := by
      intro i
      induction i with
      | zero => intro _; rfl
      | succ i ih => intro hi; rw [vcn, ih (by omega), if_pos (zN i 3 (by omega))]
    rw [hv 12 (Nat.le_refl _)]; omega
theorem ns_ops (L : Nat) (xs : Nat → Int32) : lwO L xs (200 + 3) INV := ⟨op_type, op_define, op_set, op_ask, op_revision, op_changed, op_note, op_read, op_count⟩
