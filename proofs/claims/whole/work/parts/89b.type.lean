/-! type -/
theorem mh_eq (c : Int32) : mh c = mhM c := by
  have e : decide (¬ ax_ix c < 0) = sgM c := by
    unfold ax_ix sgM
    by_cases h0 : c = 63
    · subst h0; decide
    by_cases h1 : c = 58
    · subst h1; decide
    by_cases h2 : c = 60
    · subst h2; decide
    by_cases h3 : c = 61
    · subst h3; decide
    by_cases h4 : c = 43
    · subst h4; decide
    by_cases h5 : c = 45
    · subst h5; decide
    by_cases h6 : c = 42
    · subst h6; decide
    by_cases h7 : c = 40
    · subst h7; decide
    by_cases h8 : c = 41
    · subst h8; decide
    by_cases h9 : c = 64
    · subst h9; decide
    rw [if_neg h0, if_neg h1, if_neg h2, if_neg h3, if_neg h4, if_neg h5, if_neg h6, if_neg h7, if_neg h8, if_neg h9, if_neg h7, if_neg h8, if_neg h6, if_neg h4, if_neg h5, if_neg h1, if_neg h2, if_neg h3, if_neg h0, if_neg h9]
    decide
  unfold mh mhM
  rw [e, isLetM_eq, Bool.or_assoc, Bool.or_comm]
  rw [Bool.or_comm (isDig c) (sgM c), Bool.or_assoc, Bool.or_comm (isDig c)]
  rw [← Bool.or_assoc]
theorem mhM_ok {c : Int32} (h : mhM c = true) : okC c := by
  unfold mhM at h
  unfold okC
  rw [isLetM_eq] at h
  rcases Bool.or_eq_true _ _ ▸ h with h | h
  · rcases Bool.or_eq_true _ _ ▸ h with h | h
    · unfold sgM at h
      split at h
      · rename_i z; simp [z]
      split at h
      · rename_i z; simp [z]
      split at h
      · rename_i z; simp [z]
      split at h
      · rename_i z; simp [z]
      split at h
      · rename_i z; simp [z]
      split at h
      · rename_i z; simp [z]
      split at h
      · rename_i z; simp [z]
      split at h
      · rename_i z; simp [z]
      split at h
      · rename_i z; simp [z]
      split at h
      · rename_i z; simp [z]
      · cases h
    · exact Or.inl h
  · exact Or.inr (Or.inl h)
theorem okC_fit {c : Int32} (h : okC c) : fits .char (.int c) = true := by
  have hb : 40 ≤ c ∧ c ≤ 76 := by
    rcases h with h | h | h | h | h | h | h | h | h | h | h | h
    · unfold isLet at h
      split at h
      · cases h
      split at h
      · cases h
      rename_i h1 h2
      refine ⟨Int32.le_trans (by decide) (Int32.not_lt.mp h1), ?_⟩
      have := Int32.lt_iff_toInt_lt.mp (Int32.not_le.mp h2)
      rw [Int32.le_iff_toInt_le]
      have e7 : (77 : Int32).toInt = 77 := rfl
      have e6 : (76 : Int32).toInt = 76 := rfl
      rw [e7] at this
      rw [e6]
      omega
    · unfold isDig at h
      split at h
      · cases h
      split at h
      · cases h
      rename_i h1 h2
      exact ⟨Int32.le_trans (by decide) (Int32.not_lt.mp h1), Int32.le_trans (Int32.not_lt.mp h2) (by decide)⟩
    all_goals (rw [h]; decide)
  show (decide (0 ≤ c) && decide (c ≤ 65535)) = true
  rw [decide_eq_true (Int32.le_trans (by decide) hb.1), decide_eq_true (Int32.le_trans hb.2 (by decide))]
  rfl
theorem op_type {L : Nat} {xs : Nat → Int32} (c0 : Int32) : lwI L xs 203 INV 1 34 [.int (c0.toUInt32 % 65536).toInt32] := by
  intro μ hI
  obtain ⟨cd, n, kp, h⟩ := hI
  have hnar := pk_vc c0
  generalize hc : (c0.toUInt32 % 65536).toInt32 = c at hnar
  refine c_N_type (d := 193) h.pl h.n30 hnar (fun h1 h2 => ⟨_, _, rfl, rfl, ?_⟩) (fun h0 => ⟨_, μ, rfl, rfl, ?_⟩)
  · have hM : MP μ (ms (ms μ (nT 12) n c) (nF 12) 2 (nI (n + 1))) := (MP.st (by decide)).trans (MP.st (by decide))
    have hpm : (ms (ms μ (nT 12) n c) (nF 12) 2 (nI (n + 1))).1 104 2 = nI n := by rw [(hM 104 (by omega)).1]; exact h.pm
    refine c_M_type (d := 201) hpm h.n30 (fun g1 g2 => ⟨rfl, _, rfl, cd, n + 1, kp, ?_⟩) (fun g => ?_)
    · have hok := mhM_ok g1
      have hh := h.move CP.rfl hM
      generalize hμ1 : ms (ms μ (nT 12) n c) (nF 12) 2 (nI (n + 1)) = μ1 at hh hM hpm
      have hCP : CP μ1 (ms (ms μ1 105 n c) 104 2 (nI (n + 1))) := (CP.st (by omega)).trans (CP.st (by omega))
      have hcq : CQ μ μ1 := by
        intro i hi
        rw [← hμ1]
        have e1 : ¬ i = nF 12 := by rw [v12F]; omega
        have e2 : ¬ i = nT 12 := by rw [v12T]; omega
        exact ⟨by rw [ms_o e1, ms_o e2], rfl⟩
      refine INVx.move (γ := μ1) (μ := ms (ms μ1 105 n c) 104 2 (nI (n + 1))) ?_ hCP MP.rfl
      obtain ⟨i1, i2, i3, i4, i5, i6, i7, i8, i9, j1, j2, j3, j4, j5, j6⟩ := hh
      have t12 : ∀ j, μ1.1 (nT 12) j = if j = n then c else μ.1 (nT 12) j := fun j => by
        rw [← hμ1, ms_o (by decide), ms_r]
        by_cases e : j = n
        · rw [if_pos ⟨rfl, e⟩, if_pos e]
        · rw [if_neg (fun z => e z.2), if_neg e]
      refine ⟨i1.move hcq, i2.mv2 hcq (fun b hb => ?_) ?_ ?_ rfl, ?_, fun j hj => ?_, ?_, ?_, by omega, ⟨?_, fun j hj => ?_⟩, fun j hj => ?_, fun k hk => ?_, ?_, ?_, j4, j5, ?_⟩
      · rw [ms_o (by omega), ms_o (by omega)]
      · rw [ms_r, if_neg (by omega), ms_o (by decide)]
      · rw [ms_r, if_neg (by omega), ms_o (by decide)]
      · intro k hk h4
        rw [ms_o (by decide), ms_o (by decide)] at h4
        have := i3 k hk h4
        rw [ms_o (by decide), ms_o (by decide), ms_o (by decide), ms_o (by decide), ms_o (by decide), ms_o (by decide)]
        exact this
      · rw [(hcq _ (by unfold nC; omega)).1]; exact i4 j hj
      · rw [← hμ1, ms_r, if_pos ⟨rfl, rfl⟩]
      · rw [ms_r, if_pos ⟨rfl, rfl⟩]
      · funext j
        rw [t12, ms_o (by decide), ms_r]
        by_cases e : j = n
        · rw [if_pos ⟨rfl, e⟩, if_pos e]
        · rw [if_neg (fun z => e z.2), if_neg e, i8.1]
      · rw [t12]
        by_cases e : j = n
        · rw [if_pos e]; exact hok
        · rw [if_neg e]; exact i8.2 j (by omega)
      · rw [t12]
        split
        · exact okC_fit hok
        · exact i9 j hj
      · rw [(hcq (nF k) (by unfold nF; split <;> omega)).1, (hcq (nC k) (by unfold nC; omega)).1, (hcq (nT k) (by unfold nT; split <;> omega)).1, ms_o (by decide), ms_o (by decide), ms_o (by decide), ms_o (by decide)]
        exact j1 k hk
      · rw [(hcq 0 (by omega)).1]; exact j2
      · rw [ms_r, if_neg (by omega), ms_o (by decide)]; exact j3
      · rw [vcn_move hcq 12 (Nat.le_refl _)]; exact j6
    · exfalso
      rcases g with g | g
      · rw [mh_eq, g] at h1; cases h1
      · omega
  · refine c_M_type (d := 201) h.pm h.n30 (fun g1 g2 => ?_) (fun _ => ⟨rfl, μ, rfl, cd, n, kp, h⟩)
    exfalso
    rcases h0 with g | g
    · rw [mh_eq, g1] at g; cases g
    · omega
