/-! what holds between two calls -/
def CP (a b : nMem) : Prop := ∀ i, i < 104 → b.1 i = a.1 i ∧ b.2 i = a.2 i
def MP (a b : nMem) : Prop := ∀ i, 104 ≤ i → b.1 i = a.1 i ∧ b.2 i = a.2 i
theorem CP.rfl {a : nMem} : CP a a := fun _ _ => ⟨Eq.refl _, Eq.refl _⟩
theorem MP.rfl {a : nMem} : MP a a := fun _ _ => ⟨Eq.refl _, Eq.refl _⟩
theorem CP.trans {a b c : nMem} (h1 : CP a b) (h2 : CP b c) : CP a c := fun i hi => ⟨(h2 i hi).1.trans (h1 i hi).1, (h2 i hi).2.trans (h1 i hi).2⟩
theorem MP.trans {a b c : nMem} (h1 : MP a b) (h2 : MP b c) : MP a c := fun i hi => ⟨(h2 i hi).1.trans (h1 i hi).1, (h2 i hi).2.trans (h1 i hi).2⟩
theorem CP.st {a : nMem} {b j : Nat} {x : Int32} (h : 104 ≤ b) : CP a (ms a b j x) := fun i hi => ⟨ms_o (by omega), Eq.refl _⟩
theorem MP.st {a : nMem} {b j : Nat} {x : Int32} (h : b < 104) : MP a (ms a b j x) := fun i hi => ⟨ms_o (by omega), Eq.refl _⟩
/-- the twelve cells and what lies below them -/
def CQ (a b : nMem) : Prop := ∀ i, i < 100 → b.1 i = a.1 i ∧ b.2 i = a.2 i
theorem CP.q {a b : nMem} (h : CP a b) : CQ a b := fun i hi => h i (by omega)
theorem REL.mv2 {γ γ' μ μ' : nMem} (h : REL γ μ) (hC : CQ γ γ') (m : ∀ b, 106 ≤ b → μ'.1 b = μ.1 b) (m3 : μ'.1 104 3 = μ.1 104 3) (m24 : μ'.1 104 24 = μ.1 104 24) (m2 : μ'.2 119 = μ.2 119) : REL γ' μ' := by
  have c0 := (hC 0 (by omega)).1
  have c98 := (hC 98 (by omega)).1
  have c99 := (hC 99 (by omega)).1
  have cC : ∀ k, k < 12 → γ'.1 (nC k) = γ.1 (nC k) := fun k hk => (hC _ (by unfold nC; omega)).1
  have cN' : ∀ k, k < 12 → γ'.1 (nN k) = γ.1 (nN k) ∧ γ'.2 (nN k) = γ.2 (nN k) := fun k hk => hC _ (by unfold nN; omega)
  have cR : ∀ k, k < 12 → γ'.1 (nR k) = γ.1 (nR k) := fun k hk => (hC _ (by unfold nR; omega)).1
  have cY : ∀ k, k < 12 → γ'.1 (nY k) = γ.1 (nY k) := fun k hk => (hC _ (by unfold nY; omega)).1
  obtain ⟨⟨w1, w2, w3, w4⟩, hc, hr⟩ := h
  refine ⟨⟨?_, ?_, ?_, ?_⟩, fun k hk => ?_, fun k hk hz => ?_⟩
  · rw [m3, c0]; exact w1
  · rw [m24, c0]; exact w2
  · rw [m 106 (by omega), c98]; exact w3
  · rw [m 127 (by omega), c99]; exact w4
  · have := hc k hk
    rw [RC, cC k hk, (cN' k hk).1, (cN' k hk).2, cY k hk, m2, m 107 (by omega), m 113 (by omega), m 114 (by omega), m 115 (by omega), m 116 (by omega), m 117 (by omega), m 118 (by omega), m 120 (by omega), m 121 (by omega), m 122 (by omega), m 125 (by omega), m 126 (by omega), m 135 (by omega)]
    exact this
  · rw [cC k hk] at hz
    have := hr k hk hz
    unfold RR at this ⊢
    rw [(cN' k hk).1, cR k hk, m 123 (by omega), m 124 (by omega)]
    exact this
theorem REL.move {γ γ' μ μ' : nMem} (h : REL γ μ) (hC : CP γ γ') (hM : MP μ μ') : REL γ' μ' :=
  h.mv2 hC.q (fun b hb => (hM b (by omega)).1) (by rw [(hM 104 (by omega)).1]) (by rw [(hM 104 (by omega)).1]) (hM 119 (by omega)).2
theorem WF.move {cd : Nat → pC} {γ γ' : nMem} (h : WF cd γ) (hC : CQ γ γ') : WF cd γ' := h.cong (fun k hk => by
  have e1 := (hC (nN k) (by unfold nN; omega)).1
  have e2 := (hC (nR k) (by unfold nR; omega)).1
  have e3 := (hC (nC k) (by unfold nC; omega)).1
  have e4 := (hC (nF k) (by unfold nF; split <;> omega)).1
  have e5 := (hC (nS k) (by unfold nS; split <;> omega)).1
  rw [e1, e2, e3, e4, e5]
  exact ⟨Eq.refl _, Eq.refl _, Eq.refl _, Eq.refl _, Eq.refl _, Eq.refl _, Eq.refl _⟩)
theorem vcn_move {γ γ' : nMem} (hC : CQ γ γ') : ∀ i, i ≤ 12 → vcn γ' i = vcn γ i := by
  intro i
  induction i with
  | zero => intro _; rfl
  | succ i ih =>
    intro hi
    rw [vcn, vcn, ih (by omega), (hC (nN i) (by unfold nN; omega)).1]
abbrev INVx (cd : Nat → pC) (n kp : Nat) (γ μ : nMem) : Prop := (WF cd γ) ∧ (REL γ μ) ∧ (MS cd μ) ∧ (∀ j, j < 12 → γ.1 (nC j) 9 = 0) ∧ (γ.1 (nF 12) 2 = nI n) ∧ (μ.1 104 2 = nI n) ∧ (n ≤ 30) ∧ (μ.1 105 = γ.1 (nT 12) ∧ ∀ j, j < n → okC (γ.1 (nT 12) j)) ∧ (∀ j, j < 30 → fits .char (.int (γ.1 (nT 12) j)) = true) ∧ (∀ k, k < 12 → ∃ a, γ.1 (nF k) 2 = nI a ∧ a ≤ 30 ∧ (¬ γ.1 (nC k) 4 = 0 → μ.1 109 k = nI a ∧ ∀ i, i < a → μ.1 108 (30 * k + i) = γ.1 (nT k) i)) ∧ (γ.1 0 5 = nI kp) ∧ (μ.1 104 0 = nI kp) ∧ (1 ≤ kp) ∧ (kp ≤ 12) ∧ (vcn γ 12 ≤ kp)
theorem INVx.wf {cd : Nat → pC} {n kp : Nat} {γ μ : nMem} (h : INVx cd n kp γ μ) : WF cd γ := h.1
theorem INVx.rl {cd : Nat → pC} {n kp : Nat} {γ μ : nMem} (h : INVx cd n kp γ μ) : REL γ μ := h.2.1
theorem INVx.mst {cd : Nat → pC} {n kp : Nat} {γ μ : nMem} (h : INVx cd n kp γ μ) : MS cd μ := h.2.2.1
theorem INVx.nw {cd : Nat → pC} {n kp : Nat} {γ μ : nMem} (h : INVx cd n kp γ μ) : ∀ j, j < 12 → γ.1 (nC j) 9 = 0 := h.2.2.2.1
theorem INVx.pl {cd : Nat → pC} {n kp : Nat} {γ μ : nMem} (h : INVx cd n kp γ μ) : γ.1 (nF 12) 2 = nI n := h.2.2.2.2.1
theorem INVx.pm {cd : Nat → pC} {n kp : Nat} {γ μ : nMem} (h : INVx cd n kp γ μ) : μ.1 104 2 = nI n := h.2.2.2.2.2.1
theorem INVx.n30 {cd : Nat → pC} {n kp : Nat} {γ μ : nMem} (h : INVx cd n kp γ μ) : n ≤ 30 := h.2.2.2.2.2.2.1
theorem INVx.pt {cd : Nat → pC} {n kp : Nat} {γ μ : nMem} (h : INVx cd n kp γ μ) : μ.1 105 = γ.1 (nT 12) ∧ ∀ j, j < n → okC (γ.1 (nT 12) j) := h.2.2.2.2.2.2.2.1
theorem INVx.pc {cd : Nat → pC} {n kp : Nat} {γ μ : nMem} (h : INVx cd n kp γ μ) : ∀ j, j < 30 → fits .char (.int (γ.1 (nT 12) j)) = true := h.2.2.2.2.2.2.2.2.1
theorem INVx.tx {cd : Nat → pC} {n kp : Nat} {γ μ : nMem} (h : INVx cd n kp γ μ) : ∀ k, k < 12 → ∃ a, γ.1 (nF k) 2 = nI a ∧ a ≤ 30 ∧ (¬ γ.1 (nC k) 4 = 0 → μ.1 109 k = nI a ∧ ∀ i, i < a → μ.1 108 (30 * k + i) = γ.1 (nT k) i) := h.2.2.2.2.2.2.2.2.2.1
theorem INVx.kc {cd : Nat → pC} {n kp : Nat} {γ μ : nMem} (h : INVx cd n kp γ μ) : γ.1 0 5 = nI kp := h.2.2.2.2.2.2.2.2.2.2.1
theorem INVx.km {cd : Nat → pC} {n kp : Nat} {γ μ : nMem} (h : INVx cd n kp γ μ) : μ.1 104 0 = nI kp := h.2.2.2.2.2.2.2.2.2.2.2.1
theorem INVx.k1 {cd : Nat → pC} {n kp : Nat} {γ μ : nMem} (h : INVx cd n kp γ μ) : 1 ≤ kp := h.2.2.2.2.2.2.2.2.2.2.2.2.1
theorem INVx.k12 {cd : Nat → pC} {n kp : Nat} {γ μ : nMem} (h : INVx cd n kp γ μ) : kp ≤ 12 := h.2.2.2.2.2.2.2.2.2.2.2.2.2.1
theorem INVx.vk {cd : Nat → pC} {n kp : Nat} {γ μ : nMem} (h : INVx cd n kp γ μ) : vcn γ 12 ≤ kp := h.2.2.2.2.2.2.2.2.2.2.2.2.2.2
theorem INVx.move {cd : Nat → pC} {n kp : Nat} {γ γ' μ μ' : nMem} (h : INVx cd n kp γ μ) (hC : CP γ γ') (hM : MP μ μ') : INVx cd n kp γ' μ' := by
  obtain ⟨h1, h2, h3, h4, h5, h6, h7, h8, h9, g1, g2, g3, g4, g5, g6⟩ := h
  have m : ∀ b, 104 ≤ b → μ'.1 b = μ.1 b := fun b hb => (hM b hb).1
  refine ⟨h1.move hC.q, h2.move hC hM, ?_, fun j hj => ?_, ?_, ?_, h7, ?_, fun j hj => ?_, fun k hk => ?_, ?_, ?_, g4, g5, ?_⟩
  · intro k hk h
    rw [m 107 (by omega)] at h
    rw [m 110 (by omega), m 111 (by omega), m 112 (by omega)]
    exact h3 k hk h
  · rw [(hC (nC j) (by unfold nC; omega)).1]; exact h4 j hj
  · rw [(hC (nF 12) (by decide)).1]; exact h5
  · rw [m 104 (by omega)]; exact h6
  · rw [m 105 (by omega), (hC (nT 12) (by decide)).1]; exact h8
  · rw [(hC (nT 12) (by decide)).1]; exact h9 j hj
  · rw [(hC (nF k) (by unfold nF; split <;> omega)).1, (hC (nC k) (by unfold nC; omega)).1, (hC (nT k) (by unfold nT; split <;> omega)).1, m 109 (by omega), m 108 (by omega)]
    exact g1 k hk
  · rw [(hC 0 (by omega)).1]; exact g2
  · rw [m 104 (by omega)]; exact g3
  · rw [vcn_move hC.q 12 (Nat.le_refl _)]; exact g6
def INV (μ : nMem) : Prop := ∃ cd n kp, INVx cd n kp μ μ
theorem idr_f {x : Int32} (h : idr x = false) : (if x < 0 then (-1 : Int32) else if 2 < x then -1 else 0) = -1 ∧ (x < 0 ∨ 2 < x) := by
  unfold idr at h
  split at h
  · rename_i h1; rw [if_pos h1]; exact ⟨rfl, Or.inl h1⟩
  · split at h
    · rename_i h1 h2; rw [if_neg h1, if_pos h2]; exact ⟨rfl, Or.inr h2⟩
    · cases h
theorem n2j {j : Nat} (h : j < 3) : ¬ (2 : Int32) < nI j := show ¬ nI 2 < nI j from nI_nlt (by omega) (by omega)
section RO
variable {L : Nat} {xs : Nat → Int32}
theorem op_revision : lwI L xs 203 INV 5 68 [] := by
  intro μ hI
  obtain ⟨cd, n, kp, h⟩ := hI
  refine c_N_revision (d := 202) ⟨_, μ, rfl, rfl, ?_⟩
  exact c_M_revision (d := 202) ⟨by rw [h.rl.w.rv], μ, rfl, cd, n, kp, h⟩
theorem op_changed (a : Int32) : lwI L xs 203 INV 6 69 [.int a] := by
  intro μ hI
  obtain ⟨cd, n, kp, h⟩ := hI
  refine c_N_changed (d := 201) ⟨_, μ, rfl, rfl, ?_⟩
  refine c_M_changed (d := 202) (fun hx => ⟨?_, μ, rfl, cd, n, kp, h⟩) (fun j hj hx => ⟨?_, μ, rfl, cd, n, kp, h⟩)
  · rcases (idr_f hx).2 with z | z
    · rw [if_pos z]
    · by_cases y : a < 0
      · rw [if_pos y]
      · rw [if_neg y, if_pos z]
  · subst hx
    rw [if_neg (nI_pos (by omega)), if_neg (n2j hj), nI_clamp (by omega), h.rl.w.ch j hj]
theorem op_count (a : Int32) : lwI L xs 203 INV 9 72 [.int a] := by
  intro μ hI
  obtain ⟨cd, n, kp, h⟩ := hI
  refine c_N_count (d := 201) ⟨_, μ, rfl, rfl, ?_⟩
  refine c_M_count (d := 201) (fun j hj hx => ⟨?_, μ, rfl, cd, n, kp, h⟩) (fun hx => ⟨?_, μ, rfl, cd, n, kp, h⟩) (fun hx h3 => ⟨?_, μ, rfl, cd, n, kp, h⟩)
  · subst hx
    rw [if_neg (fun z => by have := (nI_eq (a := j) (b := 3) (by omega) (by omega)).mp z; omega), if_neg (nI_pos (by omega)), if_neg (n2j hj), nI_clamp (by omega), h.rl.w.lt j hj]
  · rw [if_pos hx, vcn_eq h.rl 12 (Nat.le_refl _)]
  · rw [if_neg h3]
    rcases (idr_f hx).2 with z | z
    · rw [if_pos z]
    · by_cases y : a < 0
      · rw [if_pos y]
      · rw [if_neg y, if_pos z]
theorem nt_eq {cd : Nat → pC} {n kp : Nat} {γ μ : nMem} (h : INVx cd n kp γ μ) {j : Nat} (hj : j < 12) (y : Int32) : ntM μ j y = ntA γ j y := by
  have hc := h.rl.c j hj
  have h9 := h.nw j hj
  have hr := h.rl.r j hj h9
  unfold ntM ntA ntU ntV
  by_cases y0 : y = 0
  · subst y0
    rw [if_neg (by decide), if_neg (by decide), if_pos (by decide), if_pos rfl]; exact hc.of 0 (by omega)
  by_cases y1 : y = 1
  · subst y1
    rw [if_neg (by decide), if_neg (by decide), if_pos (by decide), if_neg (by decide), if_pos rfl]; exact hc.of 1 (by omega)
  by_cases y2 : y = 2
  · subst y2
    rw [if_neg (by decide), if_neg (by decide), if_pos (by decide), if_neg (by decide), if_neg (by decide), if_pos rfl]; exact hc.of 2 (by omega)
  rw [if_neg y0, if_neg y1, if_neg y2]
  by_cases yb : y < 0
  · rw [if_pos yb, if_neg (fun z => by subst z; exact absurd yb (by decide)), if_neg (fun z => by subst z; exact absurd yb (by decide)), if_neg (fun z => by subst z; exact absurd yb (by decide)), if_neg (fun z => by subst z; exact absurd yb (by decide)), if_neg (fun z => by subst z; exact absurd yb (by decide))]
  by_cases yc : 7 < y
  · rw [if_neg yb, if_pos yc, if_neg (fun z => by subst z; exact absurd yc (by decide)), if_neg (fun z => by subst z; exact absurd yc (by decide)), if_neg (fun z => by subst z; exact absurd yc (by decide)), if_neg (fun z => by subst z; exact absurd yc (by decide)), if_neg (fun z => by subst z; exact absurd yc (by decide))]
  have hy : y = 3 ∨ y = 4 ∨ y = 5 ∨ y = 6 ∨ y = 7 := by
    have a1 := Int32.le_iff_toInt_le.mp (Int32.not_lt.mp yb)
    have a2 := Int32.le_iff_toInt_le.mp (Int32.not_lt.mp yc)
    have e0 : (0 : Int32).toInt = 0 := rfl
    have e7 : (7 : Int32).toInt = 7 := rfl
    rw [e0] at a1
    rw [e7] at a2
    have n0 : ¬ y.toInt = 0 := fun z => y0 (Int32.toInt_inj.mp z)
    have n1 : ¬ y.toInt = 1 := fun z => y1 (Int32.toInt_inj.mp z)
    have n2 : ¬ y.toInt = 2 := fun z => y2 (Int32.toInt_inj.mp z)
    rcases (show y.toInt = 3 ∨ y.toInt = 4 ∨ y.toInt = 5 ∨ y.toInt = 6 ∨ y.toInt = 7 by omega) with z | z | z | z | z
    · exact Or.inl (Int32.toInt_inj.mp z)
    · exact Or.inr (Or.inl (Int32.toInt_inj.mp z))
    · exact Or.inr (Or.inr (Or.inl (Int32.toInt_inj.mp z)))
    · exact Or.inr (Or.inr (Or.inr (Or.inl (Int32.toInt_inj.mp z))))
    · exact Or.inr (Or.inr (Or.inr (Or.inr (Int32.toInt_inj.mp z))))
  rw [hc.fm, hc.no, hc.va, hc.bo, hc.du]
  by_cases h4 : γ.1 (nC j) 4 = 0
  · have hn := (hc.inn h4).1
    obtain ⟨z1, z3, z5, z6, z7⟩ := hc.zn hn h9
    rcases hy with rfl | rfl | rfl | rfl | rfl <;> simp [h4, z1, z3, z5, z6, z7]
  · by_cases hn : γ.1 (nN j) 2 = 0
    · obtain ⟨z1, z3, z5, z6, z7⟩ := hc.zn hn h9
      rcases hy with rfl | rfl | rfl | rfl | rfl <;> simp [h4, hn, z1, z3, z5, z6, z7]
    · obtain ⟨v1, v2, v3⟩ := hc.ve hn
      have r1 := (hr hn).1
      rcases hy with rfl | rfl | rfl | rfl | rfl <;> simp [h4, hn, v1, v2, v3, r1]
theorem op_note (a b : Int32) : lwI L xs 203 INV 7 70 [.int a, .int b] := by
  intro μ hI
  obtain ⟨cd, n, kp, h⟩ := hI
  refine c_N_note (d := 201) (fun hx => ⟨_, μ, rfl, rfl, ?_⟩) (fun j hj hx => ⟨_, μ, rfl, rfl, ?_⟩)
  · exact c_M_note (d := 201) (fun _ => ⟨rfl, μ, rfl, cd, n, kp, h⟩) (fun j hj e => by rw [e, ic_nI hj] at hx; cases hx)
  · refine c_M_note (d := 201) (fun z => by rw [hx, ic_nI hj] at z; cases z) (fun i hi e => ⟨?_, μ, rfl, cd, n, kp, h⟩)
    have : i = j := (nI_eq (by omega) (by omega)).mp (e.symm.trans hx)
    subst this
    rw [nt_eq h hi]
theorem op_read (a b : Int32) : lwI L xs 203 INV 8 71 [.int a, .int b] := by
  intro μ hI
  obtain ⟨cd, n, kp, h⟩ := hI
  have hn : ∀ j, j < 12 → a = nI j → μ.1 (nN j) 1 = nI (cN μ a.toNatClampNeg) ∧ cN μ a.toNatClampNeg ≤ 12 := fun j hj e => by
    have := (h.wf j hj).1.n
    rw [e, nI_clamp (by omega)]
    exact ⟨this.1, this.2.1⟩
  have hmn : ∀ j, j < 12 → a = nI j → ¬ μ.1 107 j = 0 → ¬ μ.1 117 j = 0 → μ.1 123 j = nI (cN μ a.toNatClampNeg) ∧ cN μ a.toNatClampNeg ≤ 12 := fun j hj e h4 h2 => by
    have hc := h.rl.c j hj
    rw [hc.no] at h2
    have := h.rl.r j hj (h.nw j hj) h2
    rw [this.1]
    exact hn j hj e
  refine c_N_read (d := 201) (n := cN μ a.toNatClampNeg) (fun hx => ⟨_, μ, rfl, rfl, ?_⟩) hn (fun j hj hx hb => ⟨_, μ, rfl, rfl, ?_⟩) (fun j m hj hx hm hb => ⟨_, μ, rfl, rfl, ?_⟩)
  · exact c_M_read (d := 201) (n := cN μ a.toNatClampNeg) (fun _ => ⟨rfl, μ, rfl, cd, n, kp, h⟩) hmn (fun j hj e => by rw [e, ic_nI hj] at hx; cases hx) (fun j m hj e => by rw [e, ic_nI hj] at hx; cases hx)
  · refine c_M_read (d := 201) (n := cN μ a.toNatClampNeg) (fun z => by rw [hx, ic_nI hj] at z; cases z) hmn (fun i hi e _ => ⟨rfl, μ, rfl, cd, n, kp, h⟩) (fun i m hi e _ _ hm hbm => ?_)
    exfalso
    have h12 := (hn j hj hx).2
    rcases hb with z | z
    · rw [hbm] at z; exact nI_pos (by omega) z
    · rw [hbm] at z; exact nI_ge hm (by omega) z
  · have h12 := (hn j hj hx).2
    have hc := h.rl.c j hj
    have h2 : ¬ μ.1 (nN j) 2 = 0 := fun z => by
      have z1 := (hc.zn z (h.nw j hj)).1
      have := (hn j hj hx).1
      rw [z1] at this
      have e0 := (nI_eq (a := 0) (b := cN μ a.toNatClampNeg) (by omega) (by omega)).mp this
      omega
    have h4 : ¬ μ.1 (nC j) 4 = 0 := fun z => h2 (hc.inn z).1
    refine c_M_read (d := 201) (n := cN μ a.toNatClampNeg) (fun z => by rw [hx, ic_nI hj] at z; cases z) hmn (fun i hi e hz => ?_) (fun i m' hi e _ _ hm' hbm => ⟨?_, μ, rfl, cd, n, kp, h⟩)
    · exfalso
      have : i = j := (nI_eq (by omega) (by omega)).mp (e.symm.trans hx)
      subst this
      rcases hz with z | z | z | z
      · rw [hc.fm] at z; exact h4 z
      · rw [hc.no] at z; exact h2 z
      · rw [hb] at z; exact nI_pos (by omega) z
      · rw [hb] at z; exact nI_ge hm (by omega) z
    · have : i = j := (nI_eq (by omega) (by omega)).mp (e.symm.trans hx)
      subst this
      have em : m' = m := (nI_eq (by omega) (by omega)).mp (hbm.symm.trans hb)
      subst em
      have hr := h.rl.r i hi (h.nw i hi) h2
      have ecn : cN μ a.toNatClampNeg = cN μ i := by rw [e, nI_clamp (by omega)]
      rw [hr.2 m' (by rw [ecn] at hm; exact hm)]
end RO
