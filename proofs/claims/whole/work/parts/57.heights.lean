/-! the steps of an accepted text: heights of the stack -/
def sOK (ht : Nat → Nat) (i : Nat) (q : Nat × Nat) (b : Nat) : Prop :=
  (q.1 = 0 ∧ ht (i + 1) = ht i + 1 ∧ q.2 < 10000) ∨ (q.1 = 1 ∧ ht (i + 1) = ht i + 1 ∧ q.2 < 12) ∨ ((q.1 = 2 ∨ q.1 = 3) ∧ 1 ≤ ht i ∧ ht (i + 1) = ht i ∧ q.2 < 10000) ∨ (q.1 = 4 ∧ 1 ≤ ht i ∧ ht (i + 1) + 1 = ht i ∧ ht q.2 + 1 = ht i ∧ i < q.2 ∧ q.2 ≤ b) ∨ (q.1 = 5 ∧ ht q.2 = ht i ∧ i < q.2 ∧ q.2 ≤ b) ∨ ((6 ≤ q.1 ∧ q.1 ≤ 10) ∧ 2 ≤ ht i ∧ ht (i + 1) + 1 = ht i ∧ q.2 < 10000)
theorem sOK.cong {ht ht' : Nat → Nat} {i : Nat} {q : Nat × Nat} {b c : Nat} (h : sOK ht i q b) (hi : i < b) (hbc : b ≤ c) (e : ∀ j, i ≤ j → j ≤ b → ht' j = ht j) : sOK ht' i q c := by
  unfold sOK at h ⊢
  have e0 := e i (Nat.le_refl _) (by omega)
  have e1 := e (i + 1) (by omega) hi
  rw [e0, e1]
  rcases h with h | h | h | h | h | h
  · exact Or.inl h
  · exact Or.inr (Or.inl h)
  · exact Or.inr (Or.inr (Or.inl h))
  · obtain ⟨a1, a2, a3, a4, a5, a6⟩ := h
    exact Or.inr (Or.inr (Or.inr (Or.inl ⟨a1, a2, a3, by rw [e _ (by omega) a6]; exact a4, a5, by omega⟩)))
  · obtain ⟨a1, a4, a5, a6⟩ := h
    exact Or.inr (Or.inr (Or.inr (Or.inr (Or.inl ⟨a1, by rw [e _ (by omega) a6]; exact a4, a5, by omega⟩))))
  · exact Or.inr (Or.inr (Or.inr (Or.inr (Or.inr h))))
def Sg (cs : pC) (a b h h' : Nat) : Prop := ∃ ht : Nat → Nat, ht a = h ∧ ht b = h' ∧ (∀ i, a ≤ i → i ≤ b → ht i ≤ 15) ∧ ∀ i q, a ≤ i → i < b → cs[i]? = some q → sOK ht i q b
theorem Sg.cong {cs cs' : pC} {a b h h' : Nat} (s : Sg cs a b h h') (e : ∀ j, a ≤ j → j < b → cs'[j]? = cs[j]?) : Sg cs' a b h h' := by
  obtain ⟨ht, s1, s2, s3, s4⟩ := s
  exact ⟨ht, s1, s2, s3, fun i q h1 h2 h3 => s4 i q h1 h2 (by rw [← e i h1 h2]; exact h3)⟩
theorem Sg.comp {cs : pC} {a b c h h1 h2 : Nat} (s : Sg cs a b h h1) (t : Sg cs b c h1 h2) (hab : a ≤ b) (hbc : b ≤ c) : Sg cs a c h h2 := by
  obtain ⟨ht, s1, s2, s3, s4⟩ := s
  obtain ⟨kt, t1, t2, t3, t4⟩ := t
  have L : ∀ j, j ≤ b → (if j ≤ b then ht j else kt j) = ht j := fun j hj => if_pos hj
  have U : ∀ j, b ≤ j → (if j ≤ b then ht j else kt j) = kt j := fun j hj => by
    by_cases e : j ≤ b
    · have : j = b := by omega
      subst this
      rw [if_pos e, s2, t1]
    · exact if_neg e
  refine ⟨fun j => if j ≤ b then ht j else kt j, (L a hab).trans s1, (U c hbc).trans t2, fun i h3 h4 => ?_, fun i q h3 h4 h5 => ?_⟩
  · show (if i ≤ b then ht i else kt i) ≤ 15
    split
    · exact s3 i h3 (by omega)
    · exact t3 i (by omega) h4
  · by_cases hi : i < b
    · exact (s4 i q h3 hi h5).cong hi hbc (fun j _ h7 => L j h7)
    · exact (t4 i q (by omega) h4 h5).cong h4 (Nat.le_refl _) (fun j h6 _ => U j (by omega))
theorem Sg.one {cs : pC} {a h h' : Nat} {q : Nat × Nat} (hq : cs[a]? = some q) (h1 : h ≤ 15) (h2 : h' ≤ 15) (hs : (q.1 = 0 ∧ h' = h + 1 ∧ q.2 < 10000) ∨ (q.1 = 1 ∧ h' = h + 1 ∧ q.2 < 12) ∨ ((q.1 = 2 ∨ q.1 = 3) ∧ 1 ≤ h ∧ h' = h ∧ q.2 < 10000) ∨ ((6 ≤ q.1 ∧ q.1 ≤ 10) ∧ 2 ≤ h ∧ h' + 1 = h ∧ q.2 < 10000)) : Sg cs a (a + 1) h h' := by
  refine ⟨fun j => if j ≤ a then h else h', if_pos (Nat.le_refl _), if_neg (by omega), fun i _ _ => ?_, fun i p h3 h4 h5 => ?_⟩
  · show (if i ≤ a then h else h') ≤ 15
    split <;> omega
  · have : i = a := by omega
    subst this
    rw [hq] at h5
    cases h5
    have e0 : (if i ≤ i then h else h') = h := if_pos (Nat.le_refl _)
    have e1 : (if i + 1 ≤ i then h else h') = h' := if_neg (by omega)
    unfold sOK
    dsimp only
    rw [e0, e1]
    rcases hs with hs | hs | hs | hs
    · exact Or.inl hs
    · exact Or.inr (Or.inl hs)
    · exact Or.inr (Or.inr (Or.inl hs))
    · exact Or.inr (Or.inr (Or.inr (Or.inr (Or.inr hs))))
/-- a choice: JZ at a, JUMP at b -/
theorem Sg.sel {cs : pC} {a b c h : Nat} (h1 : cs[a]? = some (4, b + 1)) (h2 : cs[b]? = some (5, c)) (s : Sg cs (a + 1) b h (h + 1)) (t : Sg cs (b + 1) c h (h + 1)) (hab : a + 1 ≤ b) (hbc : b + 1 ≤ c) : Sg cs a c (h + 1) (h + 1) := by
  obtain ⟨ht, s1, s2, s3, s4⟩ := s
  obtain ⟨kt, t1, t2, t3, t4⟩ := t
  have A : (if a ≤ a then h + 1 else if a ≤ b then ht a else kt a) = h + 1 := if_pos (Nat.le_refl _)
  have L : ∀ j, a + 1 ≤ j → j ≤ b → (if j ≤ a then h + 1 else if j ≤ b then ht j else kt j) = ht j := fun j h3 h4 => by rw [if_neg (by omega), if_pos h4]
  have U : ∀ j, b + 1 ≤ j → (if j ≤ a then h + 1 else if j ≤ b then ht j else kt j) = kt j := fun j h3 => by rw [if_neg (by omega), if_neg (by omega)]
  have hh := s3 b hab (Nat.le_refl _)
  refine ⟨fun j => if j ≤ a then h + 1 else if j ≤ b then ht j else kt j, A, (U c hbc).trans t2, fun i h3 h4 => ?_, fun i q h3 h4 h5 => ?_⟩
  · show (if i ≤ a then h + 1 else if i ≤ b then ht i else kt i) ≤ 15
    split
    · omega
    · split
      · exact s3 i (by omega) (by omega)
      · exact t3 i (by omega) h4
  · by_cases e1 : i = a
    · subst e1
      rw [h1] at h5
      cases h5
      unfold sOK
      refine Or.inr (Or.inr (Or.inr (Or.inl ⟨rfl, ?_, ?_, ?_, ?_, ?_⟩)))
      · dsimp only; rw [A]; omega
      · dsimp only; rw [A, L (i + 1) (Nat.le_refl _) hab, s1]
      · dsimp only; rw [A, U (b + 1) (Nat.le_refl _), t1]
      · show i < b + 1; omega
      · exact hbc
    · by_cases e2 : i = b
      · subst e2
        rw [h2] at h5
        cases h5
        unfold sOK
        refine Or.inr (Or.inr (Or.inr (Or.inr (Or.inl ⟨rfl, ?_, ?_, Nat.le_refl _⟩))))
        · dsimp only; rw [U c hbc, L i (by omega) (Nat.le_refl _), s2, t2]
        · show i < c; omega
      · by_cases e3 : i < b
        · exact (s4 i q (by omega) e3 h5).cong e3 (by omega) (fun j h6 h7 => L j (by omega) h7)
        · exact (t4 i q (by omega) h4 h5).cong h4 (Nat.le_refl _) (fun j h6 _ => U j (by omega))
section WW
variable {t : Nat → Int32} {n : Nat}
/-- what a part of the parser adds: from height h to h' -/
def Gd (n i i' : Nat) (cs cs' : pC) (h h' : Nat) : Prop := i ≤ i' ∧ i' ≤ n ∧ cs.length ≤ cs'.length ∧ (∀ j, j < cs.length → cs'[j]? = cs[j]?) ∧ Sg cs' cs.length cs'.length h h'
theorem Sg.nil {cs : pC} {a h : Nat} (h1 : h ≤ 15) : Sg cs a a h h := ⟨fun _ => h, rfl, rfl, fun _ _ _ => h1, fun i q h2 h3 => by omega⟩
theorem Gd.comp {i i1 i2 : Nat} {cs cs1 cs2 : pC} {h h1 h2 : Nat} (a : Gd n i i1 cs cs1 h h1) (b : Gd n i1 i2 cs1 cs2 h1 h2) : Gd n i i2 cs cs2 h h2 := by
  obtain ⟨a1, a2, a3, a4, a5⟩ := a
  obtain ⟨b1, b2, b3, b4, b5⟩ := b
  refine ⟨by omega, b2, by omega, fun j hj => by rw [b4 j (by omega)]; exact a4 j hj, Sg.comp (a5.cong (fun j _ hj => b4 j hj)) b5 a3 b3⟩
theorem Gd.add {i i' : Nat} {cs : pC} {h h' : Nat} {q : Nat × Nat} (hi : i ≤ i') (hn : i' ≤ n) (h1 : h ≤ 15) (h2 : h' ≤ 15) (hs : (q.1 = 0 ∧ h' = h + 1 ∧ q.2 < 10000) ∨ (q.1 = 1 ∧ h' = h + 1 ∧ q.2 < 12) ∨ ((q.1 = 2 ∨ q.1 = 3) ∧ 1 ≤ h ∧ h' = h ∧ q.2 < 10000) ∨ ((6 ≤ q.1 ∧ q.1 ≤ 10) ∧ 2 ≤ h ∧ h' + 1 = h ∧ q.2 < 10000)) : Gd n i i' cs (cs ++ [q]) h h' := by
  refine ⟨hi, hn, by rw [List.length_append]; omega, fun j hj => List.getElem?_append_left hj, ?_⟩
  rw [List.length_append, List.length_singleton]
  exact Sg.one (by rw [List.getElem?_append_right (Nat.le_refl _), Nat.sub_self]; rfl) h1 h2 hs
theorem Gd.hi {i i' : Nat} {cs cs' : pC} {h h' : Nat} (a : Gd n i i' cs cs' h h') : h' ≤ 15 := by
  obtain ⟨_, _, a3, _, ht, _, e2, e3, _⟩ := a
  rw [← e2]; exact e3 _ a3 (Nat.le_refl _)
theorem Gd.nil {i : Nat} {cs : pC} {h : Nat} (hi : i ≤ n) (h1 : h ≤ 15) : Gd n i i cs cs h h := ⟨Nat.le_refl _, hi, Nat.le_refl _, fun _ _ => rfl, Sg.nil h1⟩
theorem Gd.from {i j i' : Nat} {cs cs' : pC} {h h' : Nat} (a : Gd n i i' cs cs' h h') (hj : j ≤ i) : Gd n j i' cs cs' h h' := ⟨by have := a.1; omega, a.2⟩
theorem Gd.to {i j i' : Nat} {cs cs' : pC} {h h' : Nat} (a : Gd n i i' cs cs' h h') (hj : i' ≤ j) (hn : j ≤ n) : Gd n i j cs cs' h h' := ⟨by have := a.1; omega, hn, a.2.2⟩
/-- unit, product, sum, formula: one number more -/
def wG (n f : Nat) (G : Nat → Nat → pC → pR) : Prop := ∀ (dp i : Nat) (cs : pC) (i' : Nat) (cs' : pC) (h : Nat), i ≤ n → n - i < f → G dp i cs = (true, i', cs') → 2 * h ≤ i → i + 1 ≤ i' ∧ Gd n i i' cs cs' h (h + 1)
theorem pn_lt (t : Nat → Int32) (n : Nat) : ∀ (g i v : Nat), (pn t n g i v).2 < (v + 1) * 10 ^ g := by
  intro g
  induction g with
  | zero => intro i v; rw [pn]; simp
  | succ g ih =>
    intro i v
    rw [pn]
    split
    · rename_i hd
      have h1 := ih (i + 1) (v * 10 + dg (nx t n i))
      have h9 : dg (nx t n i) ≤ 9 := by
        have e := dig_dg hd
        unfold isDig at hd
        split at hd
        · cases hd
        split at hd
        · cases hd
        rename_i c1 c2
        have d1 := Int32.le_iff_toInt_le.mp (Int32.not_lt.mp c1)
        have d2 := Int32.le_iff_toInt_le.mp (Int32.not_lt.mp c2)
        have d3 : (48 : Int32).toInt = 48 := rfl
        have d4 : (57 : Int32).toInt = 57 := rfl
        rw [d3] at d1
        rw [d4] at d2
        unfold dg
        show (nx t n i - 48).toInt.toNat ≤ 9
        have d5 : (nx t n i - 48).toInt = (nx t n i).toInt - 48 := by
          rw [Int32.toInt_sub, d3]
          exact Int.bmod_eq_of_le (by omega) (by omega)
        omega
      have h2 : (v * 10 + dg (nx t n i) + 1) * 10 ^ g ≤ (v + 1) * 10 ^ (g + 1) := by
        rw [Nat.pow_succ, Nat.mul_comm (10 ^ g) 10, ← Nat.mul_assoc]
        exact Nat.mul_le_mul_right _ (by omega)
      omega
    · have : 1 ≤ 10 ^ (g + 1) := Nat.pow_pos (by omega)
      have h3 : (v + 1) * 1 ≤ (v + 1) * 10 ^ (g + 1) := Nat.mul_le_mul_left _ this
      show v < _
      omega
theorem la_lt {c : Int32} (h : isLet c = true) : la c < 12 := by
  unfold isLet at h
  split at h
  · cases h
  split at h
  · cases h
  rename_i c1 c2
  have d1 := Int32.le_iff_toInt_le.mp (Int32.not_lt.mp c1)
  have d2 := Int32.lt_iff_toInt_lt.mp (Int32.not_le.mp c2)
  have d3 : (65 : Int32).toInt = 65 := rfl
  have d4 : (77 : Int32).toInt = 77 := rfl
  rw [d3] at d1
  rw [d4] at d2
  unfold la
  show (c - 65).toInt.toNat < 12
  have d5 : (c - 65).toInt = c.toInt - 65 := by
    rw [Int32.toInt_sub, d3]
    exact Int.bmod_eq_of_le (by omega) (by omega)
  omega
theorem wPl {U : Nat → Nat → pC → pR} {f : Nat} (hU : wG n f U) : ∀ (g dp i : Nat) (cs : pC) (i' : Nat) (cs' : pC) (h : Nat), i ≤ n → n - i < f → pPl t n U g dp i cs = (true, i', cs') → 2 * h + 1 ≤ i → h + 1 ≤ 15 → Gd n i i' cs cs' (h + 1) (h + 1) := by
  intro g
  induction g with
  | zero => intro dp i cs i' cs' h hi hf e _ h15; rw [pPl] at e; cases e; exact Gd.nil hi h15
  | succ g ih =>
    intro dp i cs i' cs' h hi hf e hh h15
    rw [pPl] at e
    by_cases h42 : nx t n i = 42
    · have hlt := nx_lt h42 (by decide)
      rw [if_pos h42] at e
      rcases e1 : U dp (i + 1) cs with ⟨b, i1, cs1⟩
      rw [e1] at e
      cases b with
      | false => cases e
      | true =>
        obtain ⟨g1, g2⟩ := hU dp (i + 1) cs i1 cs1 (h + 1) hlt (by omega) e1 (by omega)
        have h16 := g2.hi
        have g3 : Gd n i1 i1 cs1 (cs1 ++ [(8, 0)]) (h + 1 + 1) (h + 1) := Gd.add (Nat.le_refl _) g2.2.1 h16 h15 (Or.inr (Or.inr (Or.inr ⟨by decide, by omega, rfl, show 0 < 10000 by decide⟩)))
        have g4 := ih dp i1 (cs1 ++ [(8, 0)]) i' cs' h g2.2.1 (by omega) e (by omega) h15
        exact ((g2.comp g3).comp g4).from (by omega)
    · rw [if_neg h42] at e
      cases e
      exact Gd.nil hi h15
theorem wP {U : Nat → Nat → pC → pR} {f : Nat} (hU : wG n f U) : wG n f (pP t n U) := by
  intro dp i cs i' cs' h hi hf e hh
  unfold pP at e
  rcases e1 : U dp i cs with ⟨b, i1, cs1⟩
  rw [e1] at e
  cases b with
  | false => cases e
  | true =>
    obtain ⟨g1, g2⟩ := hU dp i cs i1 cs1 h hi hf e1 hh
    have g3 := wPl hU 30 dp i1 cs1 i' cs' h g2.2.1 (by omega) e (by omega) g2.hi
    exact ⟨by have := g3.1; omega, g2.comp g3⟩
theorem wSl {U : Nat → Nat → pC → pR} {f : Nat} (hU : wG n f U) : ∀ (g dp i : Nat) (cs : pC) (i' : Nat) (cs' : pC) (h : Nat), i ≤ n → n - i < f → pSl t n U g dp i cs = (true, i', cs') → 2 * h + 1 ≤ i → h + 1 ≤ 15 → Gd n i i' cs cs' (h + 1) (h + 1) := by
  intro g
  induction g with
  | zero => intro dp i cs i' cs' h hi hf e _ h15; rw [pSl] at e; cases e; exact Gd.nil hi h15
  | succ g ih =>
    intro dp i cs i' cs' h hi hf e hh h15
    rw [pSl] at e
    by_cases hc : nx t n i = 43 ∨ nx t n i = 45
    · have hlt : i < n := by rcases hc with z | z <;> exact nx_lt z (by decide)
      rw [if_pos hc] at e
      rcases e1 : pP t n U dp (i + 1) cs with ⟨b, i1, cs1⟩
      rw [e1] at e
      cases b with
      | false => cases e
      | true =>
        obtain ⟨g1, g2⟩ := wP hU dp (i + 1) cs i1 cs1 (h + 1) hlt (by omega) e1 (by omega)
        have h16 := g2.hi
        have g3 : Gd n i1 i1 cs1 (cs1 ++ [(if nx t n i = 43 then 6 else 7, 0)]) (h + 1 + 1) (h + 1) := Gd.add (Nat.le_refl _) g2.2.1 h16 h15 (Or.inr (Or.inr (Or.inr ⟨by dsimp only; split <;> decide, by omega, rfl, show 0 < 10000 by decide⟩)))
        have g4 := ih dp i1 _ i' cs' h g2.2.1 (by omega) e (by omega) h15
        exact ((g2.comp g3).comp g4).from (by omega)
    · rw [if_neg hc] at e
      cases e
      exact Gd.nil hi h15
theorem wS {U : Nat → Nat → pC → pR} {f : Nat} (hU : wG n f U) : wG n f (pS t n U) := by
  intro dp i cs i' cs' h hi hf e hh
  unfold pS at e
  rcases e1 : pP t n U dp i cs with ⟨b, i1, cs1⟩
  rw [e1] at e
  cases b with
  | false => cases e
  | true =>
    obtain ⟨g1, g2⟩ := wP hU dp i cs i1 cs1 h hi hf e1 hh
    have g3 := wSl hU 30 dp i1 cs1 i' cs' h g2.2.1 (by omega) e (by omega) g2.hi
    exact ⟨by have := g3.1; omega, g2.comp g3⟩
theorem jmp_at {cs : pC} {j : Nat} (hj : j < cs.length) {x y : Nat} (hq : cs[j]? = some (x, y)) : (jmp cs j)[j]? = some (x, cs.length) := by
  unfold jmp
  rw [List.getElem?_set_self hj, List.getD_eq_getElem?_getD, hq]
  rfl
theorem jmp_ne {cs : pC} {j i : Nat} (h : ¬ i = j) : (jmp cs j)[i]? = cs[i]? := by
  unfold jmp
  exact List.getElem?_set_ne (fun z => h z.symm)
theorem wQ {F : Nat → Nat → pC → pR} {f : Nat} (hF : wG n f F) {dp i : Nat} {cs : pC} {i' : Nat} {cs' : pC} {h : Nat} (hi : i ≤ n) (hf : n - i < f + 1) (e : pQ t n F dp i cs = (true, i', cs')) (hh : 2 * h + 1 ≤ i) (h15 : h + 1 ≤ 15) : Gd n i i' cs cs' (h + 1) (h + 1) := by
  unfold pQ at e
  by_cases h63 : nx t n i = 63
  · have hlt := nx_lt h63 (by decide)
    rw [if_pos h63] at e
    unfold pB at e
    rcases e1 : F dp (i + 1) (cs ++ [(4, 0)]) with ⟨b, i1, cs1⟩
    rw [e1] at e
    cases b with
    | false => cases e
    | true =>
      obtain ⟨g1, a1, a2, a3, a4, a5⟩ := hF dp (i + 1) _ i1 cs1 h hlt (by omega) e1 (by omega)
      rw [List.length_append, List.length_singleton] at a3 a4 a5
      dsimp only at e
      by_cases h58 : nx t n i1 = 58
      · have hlt1 := nx_lt h58 (by decide)
        rw [if_pos h58] at e
        rcases e2 : F dp (i1 + 1) (jmp (cs1 ++ [(5, 0)]) cs.length) with ⟨b, i2, cs2⟩
        rw [e2] at e
        cases b with
        | false => cases e
        | true =>
          obtain ⟨_, b1, b2, b3, b4, b5⟩ := hF dp (i1 + 1) _ i2 cs2 h hlt1 (by omega) e2 (by omega)
          cases e
          rw [jmp_len, List.length_append, List.length_singleton] at b3 b4 b5
          have p1 : ∀ j, j < cs1.length → ¬ j = cs.length → cs2[j]? = cs1[j]? := fun j hj hne => by
            rw [b4 j (by omega), jmp_ne hne, List.getElem?_append_left hj]
          have p2 : cs2[cs.length]? = some (4, cs1.length + 1) := by
            rw [b4 _ (by omega)]
            have := jmp_at (cs := cs1 ++ [(5, 0)]) (j := cs.length) (by rw [List.length_append, List.length_singleton]; omega) (x := 4) (y := 0) (by
              rw [List.getElem?_append_left (by omega), a4 _ (by omega), List.getElem?_append_right (Nat.le_refl _), Nat.sub_self]; rfl)
            rw [this, List.length_append, List.length_singleton]
          have p3 : cs2[cs1.length]? = some (5, 0) := by
            rw [b4 _ (by omega), jmp_ne (by omega), List.getElem?_append_right (Nat.le_refl _), Nat.sub_self]; rfl
          have q3 := jmp_at (show cs1.length < cs2.length by omega) p3
          refine ⟨by omega, b2, by rw [jmp_len]; omega, fun j hj => ?_, ?_⟩
          · rw [jmp_ne (by omega), p1 j (by omega) (by omega), a4 j (by omega), List.getElem?_append_left hj]
          · rw [jmp_len]
            refine Sg.sel (b := cs1.length) ?_ q3 ?_ ?_ (by omega) (by omega)
            · rw [jmp_ne (by omega)]; exact p2
            · exact a5.cong (fun j h1 h2 => by rw [jmp_ne (by omega)]; exact p1 j h2 (by omega))
            · exact b5.cong (fun j h1 h2 => jmp_ne (by omega))
      · rw [if_neg h58] at e
        cases e
  · rw [if_neg h63] at e
    cases e
    exact Gd.nil hi h15
theorem wFf {U F : Nat → Nat → pC → pR} {f : Nat} (hU : wG n (f + 1) U) (hF : wG n f F) : wG n (f + 1) (pFf t n U F) := by
  intro dp i cs i' cs' h hi hf e hh
  unfold pFf at e
  rcases e1 : pS t n U dp i cs with ⟨b, i1, cs1⟩
  rw [e1] at e
  cases b with
  | false => cases e
  | true =>
    obtain ⟨g1, g2⟩ := wS hU dp i cs i1 cs1 h hi hf e1 hh
    dsimp only at e
    by_cases hc : nx t n i1 = 60 ∨ nx t n i1 = 61
    · have hlt : i1 < n := by rcases hc with z | z <;> exact nx_lt z (by decide)
      rw [if_pos hc] at e
      rcases e2 : pS t n U dp (i1 + 1) cs1 with ⟨b, i2, cs2⟩
      rw [e2] at e
      cases b with
      | false => cases e
      | true =>
        obtain ⟨k1, k2⟩ := wS hU dp (i1 + 1) cs1 i2 cs2 (h + 1) hlt (by omega) e2 (by omega)
        have g3 : Gd n i2 i2 cs2 (cs2 ++ [(if nx t n i1 = 60 then 9 else 10, 0)]) (h + 1 + 1) (h + 1) := Gd.add (Nat.le_refl _) k2.2.1 k2.hi g2.hi (Or.inr (Or.inr (Or.inr ⟨by dsimp only; split <;> decide, by omega, rfl, show 0 < 10000 by decide⟩)))
        have g4 := wQ hF k2.2.1 (by omega) e (by omega) g2.hi
        exact ⟨by have := g4.1; omega, g2.comp (((k2.comp g3).comp g4).from (by omega))⟩
    · rw [if_neg hc] at e
      have g4 := wQ hF g2.2.1 (by omega) e (by omega) g2.hi
      exact ⟨by have := g4.1; omega, g2.comp g4⟩
theorem wUf {U F : Nat → Nat → pC → pR} {f : Nat} (hn : n ≤ 30) (hU : wG n f U) (hF : wG n f F) : wG n (f + 1) (pUf t n U F) := by
  intro dp i cs i' cs' h hi hf e hh
  unfold pUf at e
  by_cases h1 : isLet (nx t n i) = true
  · have hlt := isLet_lt h1
    rw [if_pos h1] at e
    cases e
    exact ⟨Nat.le_refl _, Gd.add (by omega) hlt (by omega) (by omega) (Or.inr (Or.inl ⟨rfl, rfl, la_lt h1⟩))⟩
  rw [if_neg h1] at e
  by_cases h2 : isDig (nx t n i) = true
  · have hlt := isDig_lt h2
    have hp := pn_one h2
    rw [if_pos h2] at e
    cases e
    have := pn_lt t n 4 i 0
    exact ⟨hp.1, Gd.add (by omega) hp.2 (by omega) (by omega) (Or.inl ⟨rfl, rfl, by simpa using this⟩)⟩
  rw [if_neg h2] at e
  by_cases hd : 5 ≤ dp
  · rw [if_pos hd] at e; cases e
  rw [if_neg hd] at e
  by_cases h40 : nx t n i = 40
  · have hlt := nx_lt h40 (by decide)
    rw [if_pos h40] at e
    rcases e1 : F (dp + 1) (i + 1) cs with ⟨b, i1, cs1⟩
    rw [e1] at e
    cases b with
    | false => cases e
    | true =>
      obtain ⟨g1, g2⟩ := hF (dp + 1) (i + 1) cs i1 cs1 h hlt (by omega) e1 (by omega)
      dsimp only at e
      by_cases h41 : nx t n i1 = 41
      · have hlt1 := nx_lt h41 (by decide)
        rw [if_pos h41] at e
        cases e
        exact ⟨by omega, (g2.from (by omega)).to (by omega) hlt1⟩
      · rw [if_neg h41] at e; cases e
  rw [if_neg h40] at e
  by_cases hc : nx t n i = 45 ∨ nx t n i = 64
  · have hlt : i < n := by rcases hc with z | z <;> exact nx_lt z (by decide)
    rw [if_pos hc] at e
    rcases e1 : U (dp + 1) (i + 1) cs with ⟨b, i1, cs1⟩
    rw [e1] at e
    cases b with
    | false => cases e
    | true =>
      obtain ⟨g1, g2⟩ := hU (dp + 1) (i + 1) cs i1 cs1 h hlt (by omega) e1 (by omega)
      cases e
      exact ⟨by omega, (g2.from (by omega)).comp (Gd.add (Nat.le_refl _) g2.2.1 g2.hi g2.hi (Or.inr (Or.inr (Or.inl ⟨by dsimp only; split <;> decide, by omega, rfl, show 0 < 10000 by decide⟩))))⟩
  · rw [if_neg hc] at e; cases e
theorem wW (hn : n ≤ 30) : ∀ f, wG n f (pW t n f).1 ∧ wG n f (pW t n f).2 := by
  intro f
  induction f with
  | zero => exact ⟨fun _ _ _ _ _ _ _ h => by omega, fun _ _ _ _ _ _ _ h => by omega⟩
  | succ f ih =>
    have hu := wUf (t := t) hn ih.1 ih.2
    exact ⟨hu, wFf hu ih.2⟩
theorem pAcc_W (hn : n ≤ 30) (h : (pAcc t n).1 = true) : WT (pAcc t n).2.2 := by
  rcases e : pAcc t n with ⟨b, i, cs⟩
  rw [e] at h
  dsimp only at h
  subst h
  obtain ⟨_, _, _, _, _, ht, s1, s2, s3, s4⟩ := (wW (t := t) hn 31).2 0 0 [] i cs 0 (Nat.zero_le _) (by omega) e (by omega)
  exact ⟨ht, s1, s2, fun i hi => s3 i (Nat.zero_le _) hi, fun i q hq => s4 i q (Nat.zero_le _) (List.getElem?_eq_some_iff.mp hq).1 hq⟩
end WW
