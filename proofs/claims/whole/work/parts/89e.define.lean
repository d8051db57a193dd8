/-! define -/
theorem REL.cng {γ γ' μ μ' : nMem} (h : REL γ μ) (hC : ∀ b, (b = 0 ∨ b = 98 ∨ b = 99 ∨ ∃ k, k < 12 ∧ (b = nC k ∨ b = nN k ∨ b = nR k ∨ b = nY k)) → γ'.1 b = γ.1 b) (h2 : γ'.2 = γ.2) (m : ∀ b, (b = 106 ∨ b = 107 ∨ (113 ≤ b ∧ b ≤ 127) ∨ b = 135) → μ'.1 b = μ.1 b) (m3 : μ'.1 104 3 = μ.1 104 3) (m24 : μ'.1 104 24 = μ.1 104 24) (m2 : μ'.2 119 = μ.2 119) : REL γ' μ' := by
  have c0 := hC 0 (by omega)
  have c98 := hC 98 (by omega)
  have c99 := hC 99 (by omega)
  have cC : ∀ k, k < 12 → γ'.1 (nC k) = γ.1 (nC k) := fun k hk => hC _ (Or.inr (Or.inr (Or.inr ⟨k, hk, Or.inl rfl⟩)))
  have cN' : ∀ k, k < 12 → γ'.1 (nN k) = γ.1 (nN k) := fun k hk => hC _ (Or.inr (Or.inr (Or.inr ⟨k, hk, Or.inr (Or.inl rfl)⟩)))
  have cR : ∀ k, k < 12 → γ'.1 (nR k) = γ.1 (nR k) := fun k hk => hC _ (Or.inr (Or.inr (Or.inr ⟨k, hk, Or.inr (Or.inr (Or.inl rfl))⟩)))
  have cY : ∀ k, k < 12 → γ'.1 (nY k) = γ.1 (nY k) := fun k hk => hC _ (Or.inr (Or.inr (Or.inr ⟨k, hk, Or.inr (Or.inr (Or.inr rfl))⟩)))
  obtain ⟨⟨w1, w2, w3, w4⟩, hc, hr⟩ := h
  refine ⟨⟨?_, ?_, ?_, ?_⟩, fun k hk => ?_, fun k hk hz => ?_⟩
  · rw [m3, c0]; exact w1
  · rw [m24, c0]; exact w2
  · rw [m 106 (by omega), c98]; exact w3
  · rw [m 127 (by omega), c99]; exact w4
  · have := hc k hk
    rw [RC, cC k hk, cN' k hk, h2, cY k hk, m2, m 107 (by omega), m 113 (by omega), m 114 (by omega), m 115 (by omega), m 116 (by omega), m 117 (by omega), m 118 (by omega), m 120 (by omega), m 121 (by omega), m 122 (by omega), m 125 (by omega), m 126 (by omega), m 135 (by omega)]
    exact this
  · rw [cC k hk] at hz
    have := hr k hk hz
    unfold RR at this ⊢
    rw [cN' k hk, cR k hk, m 123 (by omega), m 124 (by omega)]
    exact this
theorem bnd_eq {a b x y : Int32} (ha : a = x) (hb : b = y) (h0 : y = 0 → x = 0) (h1 : x = 0 ∨ x = 1) : bi (bnd a b) = x := by
  subst ha; subst hb
  unfold bnd
  by_cases ha : a = 0
  · rw [if_pos ha, ha]; rfl
  · rw [if_neg ha, if_neg (fun z => ha (h0 z))]
    rcases h1 with z | z
    · exact absurd z ha
    · rw [z]; rfl
theorem REL.fmu {γ μ : nMem} {k : Nat} (h : REL γ μ) (hk : k < 12) : REL (ms (ms γ (nC k) 5 (γ.1 0 6)) (nC k) 4 1) (ms (ms (dfN μ k) 107 k 1) 113 k (μ.1 104 3)) := by
  have hck := h.c k hk
  have e1 : bi (bnd (μ.1 117 k) (μ.1 107 k)) = γ.1 (nN k) 2 := bnd_eq hck.no hck.fm (fun z => (hck.inn z).1) hck.nv.2.1
  have e2 : bi (bnd (μ.1 118 k) (μ.1 107 k)) = γ.1 (nN k) 3 := bnd_eq hck.va hck.fm (fun z => (hck.inn z).2) hck.nv.2.2
  have ed : dfN μ k = μ := by
    unfold dfN
    rw [e1, e2, ← hck.no, ← hck.va]
    rw [ms_id (γ := μ) (a := 117) (j := k) rfl, ms_id rfl]
  rw [ed]
  obtain ⟨⟨w1, w2, w3, w4⟩, hc, hr⟩ := h
  refine ⟨⟨?_, ?_, ?_, ?_⟩, fun i hi => ?_, fun i hi hz => ?_⟩
  · simp [ms_r, ml_r, ms_2, ml_1, ad_CC, ad_CN, ad_CR, ad_CY, ad_CK, ad_C0, ad_0C, ad_C99, ad_99C, ad_NN, ad_NC, ad_NR, ad_NY, ad_NK, ad_N0, ad_0N, ad_N99, ad_99N, ad_N98, ad_98N, ad_RR, ad_RC, ad_RN, ad_RY, ad_RK, ad_R0, ad_0R, ad_R99, ad_99R, ad_R98, ad_98R, ad_YY, ad_YC, ad_YN, ad_YR, ad_YK, ad_Y0, ad_0Y, ad_Y99, ad_99Y, ad_Y98, ad_98Y, ad_KK, ad_KC, ad_KN, ad_KR, ad_KY, ad_K0, ad_0K, ad_K99, ad_99K, ad_K98, ad_98K, w1]
  · simp [ms_r, ml_r, ms_2, ml_1, ad_CC, ad_CN, ad_CR, ad_CY, ad_CK, ad_C0, ad_0C, ad_C99, ad_99C, ad_NN, ad_NC, ad_NR, ad_NY, ad_NK, ad_N0, ad_0N, ad_N99, ad_99N, ad_N98, ad_98N, ad_RR, ad_RC, ad_RN, ad_RY, ad_RK, ad_R0, ad_0R, ad_R99, ad_99R, ad_R98, ad_98R, ad_YY, ad_YC, ad_YN, ad_YR, ad_YK, ad_Y0, ad_0Y, ad_Y99, ad_99Y, ad_Y98, ad_98Y, ad_KK, ad_KC, ad_KN, ad_KR, ad_KY, ad_K0, ad_0K, ad_K99, ad_99K, ad_K98, ad_98K, w2]
  · intro j hj; simp [ms_r, ml_r, ms_2, ml_1, ad_CC, ad_CN, ad_CR, ad_CY, ad_CK, ad_C0, ad_0C, ad_C99, ad_99C, ad_NN, ad_NC, ad_NR, ad_NY, ad_NK, ad_N0, ad_0N, ad_N99, ad_99N, ad_N98, ad_98N, ad_RR, ad_RC, ad_RN, ad_RY, ad_RK, ad_R0, ad_0R, ad_R99, ad_99R, ad_R98, ad_98R, ad_YY, ad_YC, ad_YN, ad_YR, ad_YK, ad_Y0, ad_0Y, ad_Y99, ad_99Y, ad_Y98, ad_98Y, ad_KK, ad_KC, ad_KN, ad_KR, ad_KY, ad_K0, ad_0K, ad_K99, ad_99K, ad_K98, ad_98K, a98 hk, w3 j hj]
  · intro j hj; simp [ms_r, ml_r, ms_2, ml_1, ad_CC, ad_CN, ad_CR, ad_CY, ad_CK, ad_C0, ad_0C, ad_C99, ad_99C, ad_NN, ad_NC, ad_NR, ad_NY, ad_NK, ad_N0, ad_0N, ad_N99, ad_99N, ad_N98, ad_98N, ad_RR, ad_RC, ad_RN, ad_RY, ad_RK, ad_R0, ad_0R, ad_R99, ad_99R, ad_R98, ad_98R, ad_YY, ad_YC, ad_YN, ad_YR, ad_YK, ad_Y0, ad_0Y, ad_Y99, ad_99Y, ad_Y98, ad_98Y, ad_KK, ad_KC, ad_KN, ad_KR, ad_KY, ad_K0, ad_0K, ad_K99, ad_99K, ad_K98, ad_98K, w4 j hj]
  · obtain ⟨a1, a2, a3, a4, a5, a6, a7, a8, a9, b1, b2, b3, b4, b5, b6⟩ := hc i hi
    by_cases e : i = k
    · subst e
      refine ⟨?_, ?_, ?_, ?_, ?_, ?_, ?_, ?_, ?_, ?_, ?_, ?_, ?_, ?_, ?_⟩ <;> simp [ms_r, ml_r, ms_2, ml_1, ad_CC, ad_CN, ad_CR, ad_CY, ad_CK, ad_C0, ad_0C, ad_C99, ad_99C, ad_NN, ad_NC, ad_NR, ad_NY, ad_NK, ad_N0, ad_0N, ad_N99, ad_99N, ad_N98, ad_98N, ad_RR, ad_RC, ad_RN, ad_RY, ad_RK, ad_R0, ad_0R, ad_R99, ad_99R, ad_R98, ad_98R, ad_YY, ad_YC, ad_YN, ad_YR, ad_YK, ad_Y0, ad_0Y, ad_Y99, ad_99Y, ad_Y98, ad_98Y, ad_KK, ad_KC, ad_KN, ad_KR, ad_KY, ad_K0, ad_0K, ad_K99, ad_99K, ad_K98, ad_98K, w1]
      all_goals (first | assumption | skip)
    · refine ⟨?_, ?_, ?_, ?_, ?_, ?_, ?_, ?_, ?_, ?_, ?_, ?_, ?_, ?_, ?_⟩ <;> simp [ms_r, ml_r, ms_2, ml_1, ad_CC, ad_CN, ad_CR, ad_CY, ad_CK, ad_C0, ad_0C, ad_C99, ad_99C, ad_NN, ad_NC, ad_NR, ad_NY, ad_NK, ad_N0, ad_0N, ad_N99, ad_99N, ad_N98, ad_98N, ad_RR, ad_RC, ad_RN, ad_RY, ad_RK, ad_R0, ad_0R, ad_R99, ad_99R, ad_R98, ad_98R, ad_YY, ad_YC, ad_YN, ad_YR, ad_YK, ad_Y0, ad_0Y, ad_Y99, ad_99Y, ad_Y98, ad_98Y, ad_KK, ad_KC, ad_KN, ad_KR, ad_KY, ad_K0, ad_0K, ad_K99, ad_99K, ad_K98, ad_98K, e] <;> assumption
  · have := hr i hi (by simpa [ms_r, ml_r, ms_2, ml_1, ad_CC, ad_CN, ad_CR, ad_CY, ad_CK, ad_C0, ad_0C, ad_C99, ad_99C, ad_NN, ad_NC, ad_NR, ad_NY, ad_NK, ad_N0, ad_0N, ad_N99, ad_99N, ad_N98, ad_98N, ad_RR, ad_RC, ad_RN, ad_RY, ad_RK, ad_R0, ad_0R, ad_R99, ad_99R, ad_R98, ad_98R, ad_YY, ad_YC, ad_YN, ad_YR, ad_YK, ad_Y0, ad_0Y, ad_Y99, ad_99Y, ad_Y98, ad_98Y, ad_KK, ad_KC, ad_KN, ad_KR, ad_KY, ad_K0, ad_0K, ad_K99, ad_99K, ad_K98, ad_98K] using hz)
    simpa [RR, ms_r, ml_r, ms_2, ml_1, ad_CC, ad_CN, ad_CR, ad_CY, ad_CK, ad_C0, ad_0C, ad_C99, ad_99C, ad_NN, ad_NC, ad_NR, ad_NY, ad_NK, ad_N0, ad_0N, ad_N99, ad_99N, ad_N98, ad_98N, ad_RR, ad_RC, ad_RN, ad_RY, ad_RK, ad_R0, ad_0R, ad_R99, ad_99R, ad_R98, ad_98R, ad_YY, ad_YC, ad_YN, ad_YR, ad_YK, ad_Y0, ad_0Y, ad_Y99, ad_99Y, ad_Y98, ad_98Y, ad_KK, ad_KC, ad_KN, ad_KR, ad_KY, ad_K0, ad_0K, ad_K99, ad_99K, ad_K98, ad_98K] using this
theorem smB_iff {m : nMem} {k : Nat} {b : Bool} : ∀ n, smB m k b n = true ↔ b = true ∧ ∀ i, i < n → m.1 108 (30 * k + i) = m.1 105 i := by
  intro n
  induction n with
  | zero => exact ⟨fun h => ⟨h, fun i hi => by omega⟩, fun h => h.1⟩
  | succ n ih =>
    rw [smB]
    by_cases h1 : smB m k b n = true
    · rw [if_pos h1]
      obtain ⟨h2, h3⟩ := ih.mp h1
      by_cases h4 : m.1 108 (30 * k + n) = m.1 105 n
      · rw [if_pos h4]
        refine ⟨fun _ => ⟨h2, fun i hi => ?_⟩, fun _ => rfl⟩
        rcases Nat.lt_or_ge i n with z | z
        · exact h3 i z
        · have : i = n := by omega
          rw [this]; exact h4
      · rw [if_neg h4]
        exact ⟨fun z => (by cases z), fun z => absurd (z.2 n (by omega)) h4⟩
    · rw [if_neg h1]
      exact ⟨fun z => (by cases z), fun z => absurd (ih.mpr ⟨z.1, fun i hi => z.2 i (by omega)⟩) h1⟩
theorem smM_iff {m : nMem} {k n : Nat} : smM m k n = true ↔ ¬ m.1 107 k = 0 ∧ m.1 109 k = nI n ∧ ∀ i, i < n → m.1 108 (30 * k + i) = m.1 105 i := by
  unfold smM
  rw [smB_iff]
  unfold bnd
  by_cases h1 : m.1 107 k = 0
  · rw [if_pos h1]; exact ⟨fun z => (by cases z.1), fun z => absurd h1 z.1⟩
  · rw [if_neg h1]
    by_cases h2 : m.1 109 k = nI n
    · rw [if_pos h2, if_neg (by decide)]; exact ⟨fun z => ⟨h1, h2, z.2⟩, fun z => ⟨rfl, z.2.2⟩⟩
    · rw [if_neg h2, if_pos rfl]; exact ⟨fun z => (by cases z.1), fun z => absurd z.2.1 h2⟩
theorem tcM_r {m : nMem} {k : Nat} : ∀ i a j, i ≤ 30 → j < 30 → (tcM m k i).1 108 (30 * a + j) = if a = k ∧ j < i then m.1 105 j else m.1 108 (30 * a + j) := by
  intro i
  induction i with
  | zero => intro a j _ _; rw [tcM, if_neg (fun z => by omega)]
  | succ i ih =>
    intro a j hi hj
    rw [tcM, ms_r, ih a j (by omega) hj]
    by_cases e : a = k ∧ j = i
    · rw [if_pos ⟨rfl, by rw [e.1, e.2]⟩, if_pos ⟨e.1, by omega⟩, e.2]
    · rw [if_neg (fun z => e (by omega))]
      by_cases e2 : a = k ∧ j < i
      · rw [if_pos e2, if_pos ⟨e2.1, by omega⟩]
      · rw [if_neg e2, if_neg (fun z => e (by omega))]
theorem tcM_2 {m : nMem} {k : Nat} : ∀ i, (tcM m k i).2 = m.2 := by
  intro i
  induction i with
  | zero => rfl
  | succ i ih => rw [tcM, ms_2, ih]
theorem scM_2 {m : nMem} {k : Nat} : ∀ i, (scM m k i).2 = m.2 := by
  intro i
  induction i with
  | zero => rfl
  | succ i ih => rw [scM, ms_2, ms_2, ih]
theorem scM_r1 {m : nMem} {k : Nat} : ∀ i a j, i ≤ 40 → j < 40 → (scM m k i).1 111 (40 * a + j) = if a = k ∧ j < i then m.1 139 j else m.1 111 (40 * a + j) := by
  intro i
  induction i with
  | zero => intro a j _ _; rw [scM, if_neg (fun z => by omega)]
  | succ i ih =>
    intro a j hi hj
    rw [scM, ms_o (by decide), ms_r, ih a j (by omega) hj]
    by_cases e : a = k ∧ j = i
    · rw [if_pos ⟨rfl, by rw [e.1, e.2]⟩, if_pos ⟨e.1, by omega⟩, e.2]
    · rw [if_neg (fun z => e (by omega))]
      by_cases e2 : a = k ∧ j < i
      · rw [if_pos e2, if_pos ⟨e2.1, by omega⟩]
      · rw [if_neg e2, if_neg (fun z => e (by omega))]
theorem scM_r2 {m : nMem} {k : Nat} : ∀ i a j, i ≤ 40 → j < 40 → (scM m k i).1 112 (40 * a + j) = if a = k ∧ j < i then m.1 140 j else m.1 112 (40 * a + j) := by
  intro i
  induction i with
  | zero => intro a j _ _; rw [scM, if_neg (fun z => by omega)]
  | succ i ih =>
    intro a j hi hj
    rw [scM, ms_r, ms_o (by decide), ih a j (by omega) hj]
    by_cases e : a = k ∧ j = i
    · rw [if_pos ⟨rfl, by rw [e.1, e.2]⟩, if_pos ⟨e.1, by omega⟩, e.2]
    · rw [if_neg (fun z => e (by omega))]
      by_cases e2 : a = k ∧ j < i
      · rw [if_pos e2, if_pos ⟨e2.1, by omega⟩]
      · rw [if_neg e2, if_neg (fun z => e (by omega))]
theorem YS.cp {μ0 μ : nMem} {sg cd : yG} (h : YS μ0 μ sg cd) : CP μ0 μ := fun i hi => ⟨h.1.1 i (by omega) (by omega) (by omega) (by omega) (by omega), by rw [h.1.2.2]⟩
/-- the pad is empty again, nothing else has changed -/
theorem INVx.pd {cd : Nat → pC} {n kp : Nat} {γ γ' μ μx : nMem} {sg cd' : yG} (h : INVx cd n kp γ μ) (hq : CQ γ γ') (hT : γ'.1 (nT 12) = γ.1 (nT 12)) (hF : γ'.1 (nF 12) 2 = 0) (hY : YS μ μx sg cd') : INVx cd 0 kp γ' (ms μx 104 2 0) := by
  obtain ⟨i1, i2, i3, i4, i5, i6, i7, i8, i9, j1, j2, j3, j4, j5, j6⟩ := h
  have m : ∀ b, 105 ≤ b → b ≤ 136 → (ms μx 104 2 0).1 b = μ.1 b := fun b h1 h2 => by rw [ms_o (by omega)]; exact hY.1.1 b (by omega) (by omega) (by omega) (by omega) (by omega)
  have m4 : ∀ j, ¬ j = 2 → ¬ j = 37 → ¬ j = 40 → (ms μx 104 2 0).1 104 j = μ.1 104 j := fun j h1 h2 h3 => by rw [ms_r, if_neg (fun z => h1 z.2)]; exact hY.1.2.1 j h2 h3
  have hr : REL γ (ms μx 104 2 0) := i2.mcong (fun b hb => m b (by omega) (by omega)) (m4 3 (by decide) (by decide) (by decide)) (m4 24 (by decide) (by decide) (by decide)) (by rw [ms_2, hY.1.2.2])
  refine ⟨i1.move hq, hr.mv2 hq (fun _ _ => rfl) rfl rfl rfl, ?_, fun j hj => ?_, hF, ?_, Nat.zero_le _, ⟨?_, fun j hj => by omega⟩, fun j hj => ?_, fun k hk => ?_, ?_, ?_, j4, j5, ?_⟩
  · intro k hk h4
    rw [m 107 (by omega) (by omega)] at h4
    rw [m 110 (by omega) (by omega), m 111 (by omega) (by omega), m 112 (by omega) (by omega)]
    exact i3 k hk h4
  · rw [(hq _ (by unfold nC; omega)).1]; exact i4 j hj
  · rw [ms_r, if_pos ⟨rfl, rfl⟩]; rfl
  · rw [m 105 (by omega) (by omega), hT]; exact i8.1
  · rw [hT]; exact i9 j hj
  · rw [(hq (nF k) (by unfold nF; split <;> omega)).1, (hq (nC k) (by unfold nC; omega)).1, (hq (nT k) (by unfold nT; split <;> omega)).1, m 109 (by omega) (by omega), m 108 (by omega) (by omega)]
    exact j1 k hk
  · rw [(hq 0 (by omega)).1]; exact j2
  · rw [m4 0 (by decide) (by decide) (by decide)]; exact j3
  · rw [vcn_move hq 12 (Nat.le_refl _)]; exact j6
theorem okC_nar {c : Int32} (h : okC c) : vp_nar .char c = c := by
  have hf := okC_fit h
  have hb : (decide (0 ≤ c) && decide (c ≤ 65535)) = true := hf
  rw [Bool.and_eq_true, decide_eq_true_eq, decide_eq_true_eq] at hb
  obtain ⟨j, hj, e⟩ := nI_of (Int32.not_lt.mpr hb.1)
  subst e
  have hj2 : j ≤ 65535 := (nI_leI hj (by omega)).mp hb.2
  have e : nI j = ((nI j).toUInt32 % 65536).toInt32 := by
    apply Int32.toInt_inj.mp
    rw [nI_toInt hj]
    have e1 : (nI j).toUInt32 = UInt32.ofNat j := by
      apply UInt32.toNat_inj.mp
      show (nI j).toBitVec.toNat = _
      rw [show (nI j).toBitVec = BitVec.ofNat 32 j from rfl, BitVec.toNat_ofNat, UInt32.toNat_ofNat']
    rw [e1]
    have e2 : (UInt32.ofNat j % 65536) = UInt32.ofNat j := by
      apply UInt32.toNat_inj.mp
      rw [UInt32.toNat_mod, UInt32.toNat_ofNat']
      show j % 2 ^ 32 % 65536 = j % 2 ^ 32
      omega
    rw [e2]
    show (j : Int) = (nI j).toInt
    rw [nI_toInt hj]
  rw [e]
  exact pk_vc _
