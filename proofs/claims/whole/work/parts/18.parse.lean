/-! the parser: its mathematics (recursive descent over a text t of n characters), and what its memory holds -/
abbrev pC : Type := List (Nat × Nat)
abbrev pR : Type := Bool × Nat × pC
def nx (t : Nat → Int32) (n i : Nat) : Int32 := if i < n then t i else 0
def dg (c : Int32) : Nat := (c - 48).toNatClampNeg
def la (c : Int32) : Nat := (c - 65).toNatClampNeg
/-- at most g digits more: where it ends, and the number -/
def pn (t : Nat → Int32) (n : Nat) : Nat → Nat → Nat → Nat × Nat
  | 0, i, v => (i, v)
  | g + 1, i, v => if isDig (nx t n i) = true then pn t n g (i + 1) (v * 10 + dg (nx t n i)) else (i, v)
def jmp (cs : pC) (j : Nat) : pC := cs.set j ((cs.getD j (0, 0)).1, cs.length)
section PP
variable (t : Nat → Int32) (n : Nat)
def pPl (U : Nat → Nat → pC → pR) : Nat → Nat → Nat → pC → pR
  | 0, _, i, cs => (true, i, cs)
  | g + 1, dp, i, cs => if nx t n i = 42 then (match U dp (i + 1) cs with
      | (true, i1, cs1) => pPl U g dp i1 (cs1 ++ [(8, 0)])
      | (false, i1, cs1) => (false, i1, cs1)) else (true, i, cs)
def pP (U : Nat → Nat → pC → pR) (dp i : Nat) (cs : pC) : pR := match U dp i cs with
  | (true, i1, cs1) => pPl t n U 30 dp i1 cs1
  | (false, i1, cs1) => (false, i1, cs1)
def pSl (U : Nat → Nat → pC → pR) : Nat → Nat → Nat → pC → pR
  | 0, _, i, cs => (true, i, cs)
  | g + 1, dp, i, cs => if nx t n i = 43 ∨ nx t n i = 45 then (match pP t n U dp (i + 1) cs with
      | (true, i1, cs1) => pSl U g dp i1 (cs1 ++ [(if nx t n i = 43 then 6 else 7, 0)])
      | (false, i1, cs1) => (false, i1, cs1)) else (true, i, cs)
def pS (U : Nat → Nat → pC → pR) (dp i : Nat) (cs : pC) : pR := match pP t n U dp i cs with
  | (true, i1, cs1) => pSl t n U 30 dp i1 cs1
  | (false, i1, cs1) => (false, i1, cs1)
/-- behind '?' -/
def pB (F : Nat → Nat → pC → pR) (dp i : Nat) (cs : pC) : pR := match F dp i (cs ++ [(4, 0)]) with
  | (false, i1, cs1) => (false, i1, cs1)
  | (true, i1, cs1) => if nx t n i1 = 58 then (match F dp (i1 + 1) (jmp (cs1 ++ [(5, 0)]) cs.length) with
      | (false, i2, cs2) => (false, i2, cs2)
      | (true, i2, cs2) => (true, i2, jmp cs2 cs1.length)) else (false, i1, cs1)
/-- behind the first sum, or the comparison -/
def pQ (F : Nat → Nat → pC → pR) (dp i : Nat) (cs : pC) : pR := if nx t n i = 63 then pB t n F dp (i + 1) cs else (true, i, cs)
def pFf (U F : Nat → Nat → pC → pR) (dp i : Nat) (cs : pC) : pR := match pS t n U dp i cs with
  | (false, i1, cs1) => (false, i1, cs1)
  | (true, i1, cs1) => if nx t n i1 = 60 ∨ nx t n i1 = 61 then (match pS t n U dp (i1 + 1) cs1 with
      | (false, i2, cs2) => (false, i2, cs2)
      | (true, i2, cs2) => pQ t n F dp i2 (cs2 ++ [(if nx t n i1 = 60 then 9 else 10, 0)])) else pQ t n F dp i1 cs1
def pUf (U F : Nat → Nat → pC → pR) (dp i : Nat) (cs : pC) : pR :=
  if isLet (nx t n i) = true then (true, i + 1, cs ++ [(1, la (nx t n i))])
  else if isDig (nx t n i) = true then (true, (pn t n 4 i 0).1, cs ++ [(0, (pn t n 4 i 0).2)])
  else if 5 ≤ dp then (false, i, cs)
  else if nx t n i = 40 then (match F (dp + 1) (i + 1) cs with
    | (false, i1, cs1) => (false, i1, cs1)
    | (true, i1, cs1) => if nx t n i1 = 41 then (true, i1 + 1, cs1) else (false, i1, cs1))
  else if nx t n i = 45 ∨ nx t n i = 64 then (match U (dp + 1) (i + 1) cs with
    | (false, i1, cs1) => (false, i1, cs1)
    | (true, i1, cs1) => (true, i1, cs1 ++ [(if nx t n i = 45 then 3 else 2, 0)]))
  else (false, i, cs)
/-- unit and formula, with fuel f: more than the characters that are left -/
def pW : Nat → (Nat → Nat → pC → pR) × (Nat → Nat → pC → pR)
  | 0 => (fun _ i cs => (false, i, cs), fun _ i cs => (false, i, cs))
  | f + 1 => (pUf t n (pW f).1 (pW f).2, pFf t n (pUf t n (pW f).1 (pW f).2) (pW f).2)
end PP
/-! what every part of the parser keeps: it goes forward, not beyond the text, and adds no more steps than it takes characters; steps stay within bounds -/
def pOk (n i : Nat) (cs : pC) (r : pR) : Prop := i ≤ r.2.1 ∧ r.2.1 ≤ n ∧ r.2.2.length + i ≤ cs.length + r.2.1 ∧ cs.length ≤ r.2.2.length
theorem nx_lt {t : Nat → Int32} {n i : Nat} {c : Int32} (h : nx t n i = c) (hc : ¬ c = 0) : i < n := by
  unfold nx at h
  split at h
  · assumption
  · exact absurd h.symm hc
theorem isDig_lt {t : Nat → Int32} {n i : Nat} (h : isDig (nx t n i) = true) : i < n := by
  by_cases hi : i < n
  · exact hi
  · unfold nx at h
    rw [if_neg hi] at h
    exact absurd h (by decide)
theorem isLet_lt {t : Nat → Int32} {n i : Nat} (h : isLet (nx t n i) = true) : i < n := by
  by_cases hi : i < n
  · exact hi
  · unfold nx at h
    rw [if_neg hi] at h
    exact absurd h (by decide)
theorem pn_ok (t : Nat → Int32) (n : Nat) : ∀ (g i v : Nat), i ≤ n → i ≤ (pn t n g i v).1 ∧ (pn t n g i v).1 ≤ n := by
  intro g
  induction g with
  | zero => intro i v h; exact ⟨Nat.le_refl _, h⟩
  | succ g ih =>
    intro i v h
    unfold pn
    split
    · rename_i hd
      have := isDig_lt hd
      have := ih (i + 1) (v * 10 + dg (nx t n i)) (by omega)
      omega
    · exact ⟨Nat.le_refl _, h⟩
theorem pn_one {t : Nat → Int32} {n i : Nat} (h : isDig (nx t n i) = true) : i + 1 ≤ (pn t n 4 i 0).1 ∧ (pn t n 4 i 0).1 ≤ n := by
  have hi := isDig_lt h
  unfold pn
  rw [if_pos h]
  exact pn_ok t n 3 (i + 1) _ (by omega)
section PO
variable {t : Nat → Int32} {n : Nat}
abbrev pAll (n : Nat) (G : Nat → Nat → pC → pR) (f : Nat) : Prop := ∀ dp i cs, i ≤ n → n - i < f → pOk n i cs (G dp i cs)
theorem pPl_ok {U : Nat → Nat → pC → pR} {f : Nat} (hU : pAll n U f) : ∀ g dp i cs, i ≤ n → n - i < f → pOk n i cs (pPl t n U g dp i cs) := by
  intro g
  induction g with
  | zero => intro dp i cs hi hf; exact ⟨Nat.le_refl _, hi, Nat.le_refl _, Nat.le_refl _⟩
  | succ g ih =>
    intro dp i cs hi hf
    unfold pPl
    split
    · rename_i hc
      have hlt := nx_lt hc (by decide)
      have h1 := hU dp (i + 1) cs (by omega) (by omega)
      split
      · rename_i i1 cs1 he
        rw [he] at h1
        obtain ⟨a1, a2, a3, a4⟩ := h1
        dsimp only at a1 a2 a3 a4
        have h2 := ih dp i1 (cs1 ++ [(8, 0)]) a2 (by omega)
        obtain ⟨b1, b2, b3, b4⟩ := h2
        rw [List.length_append, List.length_singleton] at b3 b4
        exact ⟨by omega, b2, by omega, by omega⟩
      · rename_i i1 cs1 he
        rw [he] at h1
        obtain ⟨a1, a2, a3, a4⟩ := h1
        dsimp only at a1 a2 a3 a4
        exact ⟨by dsimp only; omega, a2, by dsimp only; omega, a4⟩
    · exact ⟨Nat.le_refl _, hi, Nat.le_refl _, Nat.le_refl _⟩
theorem pP_ok {U : Nat → Nat → pC → pR} {f : Nat} (hU : pAll n U f) : pAll n (pP t n U) f := by
  intro dp i cs hi hf
  have h1 := hU dp i cs hi hf
  unfold pP
  split
  · rename_i i1 cs1 he
    rw [he] at h1
    obtain ⟨a1, a2, a3, a4⟩ := h1
    dsimp only at a1 a2 a3 a4
    obtain ⟨b1, b2, b3, b4⟩ := pPl_ok (t := t) hU 30 dp i1 cs1 a2 (by omega)
    exact ⟨by omega, b2, by omega, by omega⟩
  · rename_i i1 cs1 he
    rw [he] at h1
    exact h1
theorem pSl_ok {U : Nat → Nat → pC → pR} {f : Nat} (hU : pAll n U f) : ∀ g dp i cs, i ≤ n → n - i < f → pOk n i cs (pSl t n U g dp i cs) := by
  intro g
  induction g with
  | zero => intro dp i cs hi hf; exact ⟨Nat.le_refl _, hi, Nat.le_refl _, Nat.le_refl _⟩
  | succ g ih =>
    intro dp i cs hi hf
    unfold pSl
    split
    · rename_i hc
      have hlt : i < n := by rcases hc with hc | hc <;> exact nx_lt hc (by decide)
      have h1 := pP_ok (t := t) hU dp (i + 1) cs (by omega) (by omega)
      split
      · rename_i i1 cs1 he
        rw [he] at h1
        obtain ⟨a1, a2, a3, a4⟩ := h1
        dsimp only at a1 a2 a3 a4
        have h2 := ih dp i1 (cs1 ++ [(if nx t n i = 43 then 6 else 7, 0)]) a2 (by omega)
        obtain ⟨b1, b2, b3, b4⟩ := h2
        rw [List.length_append, List.length_singleton] at b3 b4
        exact ⟨by omega, b2, by omega, by omega⟩
      · rename_i i1 cs1 he
        rw [he] at h1
        obtain ⟨a1, a2, a3, a4⟩ := h1
        dsimp only at a1 a2 a3 a4
        exact ⟨by dsimp only; omega, a2, by dsimp only; omega, a4⟩
    · exact ⟨Nat.le_refl _, hi, Nat.le_refl _, Nat.le_refl _⟩
theorem pS_ok {U : Nat → Nat → pC → pR} {f : Nat} (hU : pAll n U f) : pAll n (pS t n U) f := by
  intro dp i cs hi hf
  have h1 := pP_ok (t := t) hU dp i cs hi hf
  unfold pS
  split
  · rename_i i1 cs1 he
    rw [he] at h1
    obtain ⟨a1, a2, a3, a4⟩ := h1
    dsimp only at a1 a2 a3 a4
    obtain ⟨b1, b2, b3, b4⟩ := pSl_ok (t := t) hU 30 dp i1 cs1 a2 (by omega)
    exact ⟨by omega, b2, by omega, by omega⟩
  · rename_i i1 cs1 he
    rw [he] at h1
    exact h1
theorem jmp_len (cs : pC) (j : Nat) : (jmp cs j).length = cs.length := by simp [jmp]
theorem pQ_ok {F : Nat → Nat → pC → pR} {f : Nat} (hF : pAll n F f) : ∀ dp i cs, i ≤ n → n - i < f + 1 → pOk n i cs (pQ t n F dp i cs) := by
  intro dp i cs hi hf
  unfold pQ
  split
  · rename_i hc
    have hlt := nx_lt hc (by decide)
    unfold pB
    have h1 := hF dp (i + 1) (cs ++ [(4, 0)]) (by omega) (by omega)
    split
    · rename_i i1 cs1 he
      rw [he] at h1
      obtain ⟨a1, a2, a3, a4⟩ := h1
      dsimp only at a1 a2 a3 a4
      rw [List.length_append, List.length_singleton] at a3 a4
      exact ⟨by dsimp only; omega, a2, by dsimp only; omega, by dsimp only; omega⟩
    · rename_i i1 cs1 he
      rw [he] at h1
      obtain ⟨a1, a2, a3, a4⟩ := h1
      dsimp only at a1 a2 a3 a4
      rw [List.length_append, List.length_singleton] at a3 a4
      split
      · rename_i hc2
        have hlt2 := nx_lt hc2 (by decide)
        have h2 := hF dp (i1 + 1) (jmp (cs1 ++ [(5, 0)]) cs.length) (by omega) (by omega)
        split
        · rename_i i2 cs2 he2
          rw [he2] at h2
          obtain ⟨b1, b2, b3, b4⟩ := h2
          dsimp only at b1 b2 b3 b4
          rw [jmp_len, List.length_append, List.length_singleton] at b3 b4
          exact ⟨by dsimp only; omega, b2, by dsimp only; omega, by dsimp only; omega⟩
        · rename_i i2 cs2 he2
          rw [he2] at h2
          obtain ⟨b1, b2, b3, b4⟩ := h2
          dsimp only at b1 b2 b3 b4
          rw [jmp_len, List.length_append, List.length_singleton] at b3 b4
          refine ⟨by dsimp only; omega, b2, ?_, ?_⟩
          · dsimp only; rw [jmp_len]; omega
          · dsimp only; rw [jmp_len]; omega
      · exact ⟨by dsimp only; omega, a2, by dsimp only; omega, by dsimp only; omega⟩
  · exact ⟨Nat.le_refl _, hi, Nat.le_refl _, Nat.le_refl _⟩
theorem pFf_ok {U F : Nat → Nat → pC → pR} {f : Nat} (hU : pAll n U (f + 1)) (hF : pAll n F f) : pAll n (pFf t n U F) (f + 1) := by
  intro dp i cs hi hf
  have h1 := pS_ok (t := t) hU dp i cs hi hf
  unfold pFf
  split
  · rename_i i1 cs1 he
    rw [he] at h1
    exact h1
  · rename_i i1 cs1 he
    rw [he] at h1
    obtain ⟨a1, a2, a3, a4⟩ := h1
    dsimp only at a1 a2 a3 a4
    split
    · rename_i hc
      have hlt : i1 < n := by rcases hc with hc | hc <;> exact nx_lt hc (by decide)
      have h2 := pS_ok (t := t) hU dp (i1 + 1) cs1 (by omega) (by omega)
      split
      · rename_i i2 cs2 he2
        rw [he2] at h2
        obtain ⟨b1, b2, b3, b4⟩ := h2
        dsimp only at b1 b2 b3 b4
        exact ⟨by dsimp only; omega, b2, by dsimp only; omega, by dsimp only; omega⟩
      · rename_i i2 cs2 he2
        rw [he2] at h2
        obtain ⟨b1, b2, b3, b4⟩ := h2
        dsimp only at b1 b2 b3 b4
        obtain ⟨c1, c2, c3, c4⟩ := pQ_ok (t := t) hF dp i2 (cs2 ++ [(if nx t n i1 = 60 then 9 else 10, 0)]) b2 (by omega)
        rw [List.length_append, List.length_singleton] at c3 c4
        exact ⟨by omega, c2, by omega, by omega⟩
    · obtain ⟨c1, c2, c3, c4⟩ := pQ_ok (t := t) hF dp i1 cs1 a2 (by omega)
      exact ⟨by omega, c2, by omega, by omega⟩
theorem pUf_ok {U F : Nat → Nat → pC → pR} {f : Nat} (hU : pAll n U f) (hF : pAll n F f) : pAll n (pUf t n U F) (f + 1) := by
  intro dp i cs hi hf
  unfold pUf
  split
  · rename_i h
    have := isLet_lt h
    refine ⟨by dsimp only; omega, by dsimp only; omega, ?_, ?_⟩ <;> (dsimp only; rw [List.length_append, List.length_singleton]; omega)
  split
  · rename_i h
    have := pn_one h
    refine ⟨by dsimp only; omega, by dsimp only; omega, ?_, ?_⟩ <;> (dsimp only; rw [List.length_append, List.length_singleton]; omega)
  split
  · exact ⟨Nat.le_refl _, hi, Nat.le_refl _, Nat.le_refl _⟩
  split
  · rename_i hc
    have hlt := nx_lt hc (by decide)
    have h1 := hF (dp + 1) (i + 1) cs (by omega) (by omega)
    split
    · rename_i i1 cs1 he
      rw [he] at h1
      obtain ⟨a1, a2, a3, a4⟩ := h1
      dsimp only at a1 a2 a3 a4
      exact ⟨by dsimp only; omega, a2, by dsimp only; omega, a4⟩
    · rename_i i1 cs1 he
      rw [he] at h1
      obtain ⟨a1, a2, a3, a4⟩ := h1
      dsimp only at a1 a2 a3 a4
      split
      · rename_i hc2
        have hlt2 := nx_lt hc2 (by decide)
        exact ⟨by dsimp only; omega, by dsimp only; omega, by dsimp only; omega, a4⟩
      · exact ⟨by dsimp only; omega, a2, by dsimp only; omega, a4⟩
  split
  · rename_i hc
    have hlt : i < n := by rcases hc with hc | hc <;> exact nx_lt hc (by decide)
    have h1 := hU (dp + 1) (i + 1) cs (by omega) (by omega)
    split
    · rename_i i1 cs1 he
      rw [he] at h1
      obtain ⟨a1, a2, a3, a4⟩ := h1
      dsimp only at a1 a2 a3 a4
      exact ⟨by dsimp only; omega, a2, by dsimp only; omega, a4⟩
    · rename_i i1 cs1 he
      rw [he] at h1
      obtain ⟨a1, a2, a3, a4⟩ := h1
      dsimp only at a1 a2 a3 a4
      refine ⟨by dsimp only; omega, a2, ?_, ?_⟩ <;> (dsimp only; rw [List.length_append, List.length_singleton]; omega)
  · exact ⟨Nat.le_refl _, hi, Nat.le_refl _, Nat.le_refl _⟩
theorem pW_ok (t : Nat → Int32) (n : Nat) : ∀ f, pAll n (pW t n f).1 f ∧ pAll n (pW t n f).2 f := by
  intro f
  induction f with
  | zero => exact ⟨fun _ _ _ _ h => absurd h (by omega), fun _ _ _ _ h => absurd h (by omega)⟩
  | succ f ih => exact ⟨pUf_ok ih.1 ih.2, pFf_ok (pUf_ok ih.1 ih.2) ih.2⟩
end PO
