/-! the model's parser and the class's: the same -/
def yC : yG → yG → yG × yG
  | [], cd => ([], cd)
  | (c, m) :: sg, cd => if c = 58 then yC sg (jmpM cd m.toNatClampNeg) else if rkM c < 0 then ((c, m) :: sg, cd) else yC sg (cd ++ [(opM c, 0)])
theorem yK_yC : ∀ (sg cd : yG) (f : Nat), sg.length ≤ f → yK f (yS 0 sg cd).1 (yS 0 sg cd).2 = yC sg cd := by
  intro sg
  induction sg with
  | nil =>
    intro cd f _
    rw [yS, yC]
    cases f <;> rfl
  | cons q sg ih =>
    intro cd f hf
    obtain ⟨c, m⟩ := q
    rw [List.length_cons] at hf
    rw [yS, yC]
    by_cases hr : rkM c < 0
    · rw [if_pos hr]
      obtain ⟨f, rfl⟩ : ∃ g, f = g + 1 := ⟨f - 1, by omega⟩
      rw [yK]
      by_cases h58 : c = 58
      · rw [if_pos h58, if_pos h58]
        exact ih _ f (by omega)
      · rw [if_neg h58, if_neg h58, if_pos hr]
    · rw [if_neg hr, if_neg hr, if_neg (fun h => hr (by rw [h]; decide))]
      exact ih _ f (by omega)
theorem yCl_yC {sg : yG} (cd : yG) (h : sg.length ≤ 64) : yCl sg cd = yC sg cd := yK_yC sg cd 64 h
def yGoC (c : Int32) (sg cd : yG) : Option (yG × yG) :=
  if rkM c = 0 ∧ yCm sg false = true then none
  else if rkM c = 3 then none else if c = 40 then none else if isLetM c = true then none else if isDig c = true then none
  else if rkM c < 0 then
    (if c = 63 then some ((63, nI (yS 0 sg cd).2.length) :: (yS 0 sg cd).1, (yS 0 sg cd).2 ++ [(10, 0)])
     else if yAw sg = (if c = 58 then 63 else 40) then
       (match (yC sg cd).1 with
        | [] => none
        | (_, m) :: sg1 => if c = 58 then some ((58, nI (yC sg cd).2.length) :: sg1, jmpM ((yC sg cd).2 ++ [(9, 0)]) m.toNatClampNeg)
           else some (yS 3 sg1 (yC sg cd).2))
     else none)
  else some ((c, 0) :: (yS (if rkM c = 0 then 1 else rkM c) sg cd).1, (yS (if rkM c = 0 then 1 else rkM c) sg cd).2)
theorem yGoC_eq {c : Int32} {sg : yG} (cd : yG) (h : sg.length ≤ 64) : yGo c sg cd = yGoC c sg cd := by
  unfold yGo yGoC
  rw [yCl_yC cd h]
  rfl
section YE
variable (t : Nat → Int32) (n : Nat)
def yRunC : Nat → Bool → Nat → yG → yG → Nat ⊕ yG
  | 0, _, _, _, _ => .inl n
  | f + 1, u, k, sg, cd => if k < n then (match (if u = true then yBeg t n (t k) k sg cd else yGoC (t k) sg cd) with
      | none => .inl k
      | some r => yRunC f (if u = true then yOpn (t k) else if t k = 41 then false else true) (yNx t n u (t k) (k + 1)) r.1 r.2)
    else if u = true then .inl n else if yAw sg = 0 then .inr (yC sg cd).2 else .inl n
theorem yNx_in (u : Bool) (c : Int32) {k : Nat} (hk : k < n) : k + 1 ≤ yNx t n u c (k + 1) ∧ yNx t n u c (k + 1) ≤ n := by
  unfold yNx
  split
  · exact ynd_le t n 3 (k + 1) hk
  · exact ⟨Nat.le_refl _, hk⟩
theorem YI.up {k k' : Nat} {sg cd : yG} (h : YI k sg cd) (hk : k ≤ k') : YI k' sg cd := ⟨by have := h.1; omega, by have := h.2.1; omega, h.2.2⟩
theorem yRunC_eq (hn : n ≤ 30) : ∀ (f : Nat) (u : Bool) (k : Nat) (sg cd : yG), k ≤ n → YI k sg cd → yRun t n f u k sg cd = yRunC t n f u k sg cd := by
  intro f
  induction f with
  | zero => intros; rfl
  | succ f ih =>
    intro u k sg cd hk hI
    rw [yRun, yRunC, yCl_yC cd (by have := hI.1; omega), yGoC_eq cd (by have := hI.1; omega)]
    by_cases hlt : k < n
    · rw [if_pos hlt, if_pos hlt]
      have hx := yNx_in t n u (t k) hlt
      rcases e : (if u = true then yBeg t n (t k) k sg cd else yGoC (t k) sg cd) with _ | r
      · rfl
      · show yRun t n f _ _ r.1 r.2 = yRunC t n f _ _ r.1 r.2
        refine ih _ _ _ _ hx.2 (YI.up ?_ hx.1)
        cases u with
        | true => exact hI.beg e
        | false => exact hI.go (r := r) (by rw [yGoC_eq cd (by have := hI.1; omega)]; exact e)
    · rw [if_neg hlt, if_neg hlt]
theorem yRunC_fuel : ∀ (f f' : Nat) (u : Bool) (k : Nat) (sg cd : yG), n - k < f → n - k < f' → yRunC t n f u k sg cd = yRunC t n f' u k sg cd := by
  intro f
  induction f with
  | zero => intro _ _ _ _ _ h; omega
  | succ f ih =>
    intro f' u k sg cd h h'
    obtain ⟨f', rfl⟩ : ∃ g, f' = g + 1 := ⟨f' - 1, by omega⟩
    rw [yRunC, yRunC]
    by_cases hlt : k < n
    · rw [if_pos hlt, if_pos hlt]
      have hx := yNx_in t n u (t k) hlt
      rcases e : (if u = true then yBeg t n (t k) k sg cd else yGoC (t k) sg cd) with _ | r
      · rfl
      · exact ih f' _ _ _ _ (by omega) (by omega)
    · rw [if_neg hlt, if_neg hlt]
/-- the yard from a state on -/
def yR (u : Bool) (k : Nat) (sg cd : yG) : Nat ⊕ yG := yRunC t n (n + 1 - k) u k sg cd
variable {t n}
theorem yR_some {u : Bool} {k : Nat} {sg cd sg' cd' : yG} (hk : k < n) (h : (if u = true then yBeg t n (t k) k sg cd else yGoC (t k) sg cd) = some (sg', cd')) : yR t n u k sg cd = yR t n (if u = true then yOpn (t k) else if t k = 41 then false else true) (yNx t n u (t k) (k + 1)) sg' cd' := by
  have hx := yNx_in t n u (t k) hk
  unfold yR
  obtain ⟨f, hf⟩ : ∃ g, n + 1 - k = g + 1 := ⟨n - k, by omega⟩
  rw [hf, yRunC, if_pos hk, h]
  exact yRunC_fuel t n _ _ _ _ _ _ (by omega) (by omega)
theorem yR_none {u : Bool} {k : Nat} {sg cd : yG} (hk : k < n) (h : (if u = true then yBeg t n (t k) k sg cd else yGoC (t k) sg cd) = none) : yR t n u k sg cd = .inl k := by
  unfold yR
  obtain ⟨f, hf⟩ : ∃ g, n + 1 - k = g + 1 := ⟨n - k, by omega⟩
  rw [hf, yRunC, if_pos hk, h]
theorem yR_end {u : Bool} {sg cd : yG} : yR t n u n sg cd = if u = true then .inl n else if yAw sg = 0 then .inr (yC sg cd).2 else .inl n := by
  unfold yR
  obtain ⟨f, hf⟩ : ∃ g, n + 1 - n = g + 1 := ⟨0, by omega⟩
  rw [hf, yRunC, if_neg (Nat.lt_irrefl _)]
end YE
/-! the steps: the class's by the model's names -/
def opR : Nat → Nat
  | 4 => 10 | 5 => 9 | 6 => 5 | 7 => 6 | 8 => 4 | 9 => 7 | 10 => 8 | k => k
def rn (q : Nat × Nat) : Int32 × Int32 := (nI (opR q.1), nI q.2)
def rc (cs : pC) : yG := cs.map rn
theorem rc_add (cs : pC) (q : Nat × Nat) : rc (cs ++ [q]) = rc cs ++ [rn q] := by simp [rc]
theorem rc_len (cs : pC) : (rc cs).length = cs.length := List.length_map _
theorem rc_jmp (cs : pC) (j : Nat) : rc (jmp cs j) = jmpM (rc cs) j := by
  unfold jmp jmpM
  have e : (rc cs).getD j (0, 0) = rn (cs.getD j (0, 0)) := by
    unfold rc
    rw [List.getD_eq_getElem?_getD, List.getD_eq_getElem?_getD, List.getElem?_map]
    cases cs[j]? with
    | none => rfl
    | some q => rfl
  rw [e, rc_len]
  unfold rc
  rw [List.map_set]
  rfl
/-- pending signs: their closing -/
def yE : yG → yG → yG
  | [], cd => cd
  | (c, m) :: s, cd => if c = 58 then yE s (jmpM cd m.toNatClampNeg) else yE s (cd ++ [(opM c, 0)])
def yP (l : Int32) (s : yG) : Prop := ∀ q ∈ s, ¬ rkM q.1 < l
def yLow (l : Int32) (sg : yG) : Prop := ∀ c m s, sg = (c, m) :: s → rkM c < l
theorem yS_low {l : Int32} {sg : yG} (cd : yG) (h : yLow l sg) : yS l sg cd = (sg, cd) := by
  cases sg with
  | nil => rfl
  | cons q s =>
    obtain ⟨c, m⟩ := q
    rw [yS, if_pos (h c m s rfl)]
theorem yLow.le {l l' : Int32} {sg : yG} (h : yLow l sg) (hl : l ≤ l') : yLow l' sg := fun c m s e => Int32.lt_of_lt_of_le (h c m s e) hl
theorem yP.tail {l : Int32} {q : Int32 × Int32} {s : yG} (h : yP l (q :: s)) : yP l s := fun p hp => h p (List.mem_cons_of_mem _ hp)
theorem yP.head {l : Int32} {q : Int32 × Int32} {s : yG} (h : yP l (q :: s)) : ¬ rkM q.1 < l := h q List.mem_cons_self
theorem yP.le {l l' : Int32} {s : yG} (h : yP l s) (hl : l' ≤ l) : yP l' s := fun q hq z => h q hq (Int32.lt_of_lt_of_le z hl)
theorem rk_n58 {c l : Int32} (hl : ¬ l < 0) (h : ¬ rkM c < l) : ¬ c = 58 := fun z => h (by rw [z]; exact Int32.lt_of_lt_of_le (by decide) (Int32.not_lt.mp hl))
theorem yS_pend {l : Int32} (hl : ¬ l < 0) {sg : yG} (hs : yLow l sg) : ∀ (s cd : yG), yP l s → yS l (s ++ sg) cd = (sg, yE s cd) := by
  intro s
  induction s with
  | nil => intro cd _; exact yS_low cd hs
  | cons q s ih =>
    intro cd h
    obtain ⟨c, m⟩ := q
    have hh : ¬ rkM c < l := h.head
    rw [List.cons_append, yS, if_neg hh, yE, if_neg (rk_n58 hl hh)]
    exact ih _ h.tail
def yPd (s : yG) : Prop := ∀ q ∈ s, q.1 = 58 ∨ ¬ rkM q.1 < 0
theorem yPd.tail {q : Int32 × Int32} {s : yG} (h : yPd (q :: s)) : yPd s := fun p hp => h p (List.mem_cons_of_mem _ hp)
theorem yC_pend {sg : yG} : ∀ (s cd : yG), yPd s → yC (s ++ sg) cd = yC sg (yE s cd) := by
  intro s
  induction s with
  | nil => intro cd _; rfl
  | cons q s ih =>
    intro cd h
    obtain ⟨c, m⟩ := q
    rw [List.cons_append, yC, yE]
    rcases h (c, m) List.mem_cons_self with hc | hc
    · rw [if_pos hc, if_pos hc]; exact ih _ h.tail
    · have : ¬ c = 58 := rk_n58 (l := 0) (by decide) hc
      rw [if_neg this, if_neg hc, if_neg this]; exact ih _ h.tail
theorem yAw_pend {sg : yG} : ∀ (s : yG), yPd s → yAw (s ++ sg) = yAw sg := by
  intro s
  induction s with
  | nil => intro _; rfl
  | cons q s ih =>
    intro h
    obtain ⟨c, m⟩ := q
    rw [List.cons_append, yAw]
    rcases h (c, m) List.mem_cons_self with hc | hc
    · rw [if_pos hc]; exact ih h.tail
    · have : ¬ c = 58 := rk_n58 (l := 0) (by decide) hc
      rw [if_neg this, if_neg hc]; exact ih h.tail
theorem yE_app : ∀ (s s' cd : yG), yE (s ++ s') cd = yE s' (yE s cd) := by
  intro s
  induction s with
  | nil => intros; rfl
  | cons q s ih =>
    intro s' cd
    obtain ⟨c, m⟩ := q
    rw [List.cons_append, yE, yE]
    split <;> exact ih _ _
theorem yCm_pend {sg : yG} : ∀ (s : yG), yP 1 s → ∀ b, yCm (s ++ sg) b = yCm sg b := by
  intro s
  induction s with
  | nil => intros; rfl
  | cons q s ih =>
    intro h b
    obtain ⟨c, m⟩ := q
    have hh : ¬ rkM c < 1 := h.head
    rw [List.cons_append, yCm, if_neg (fun z => hh (Int32.lt_of_lt_of_le z (by decide)))]
    have : ¬ rkM c = 0 := fun z => hh (by rw [z]; decide)
    rw [ih h.tail, decide_eq_false this, Bool.or_false]
theorem yCm_low {sg : yG} (h : yLow 0 sg) (b : Bool) : yCm sg b = b := by
  cases sg with
  | nil => rfl
  | cons q s =>
    obtain ⟨c, m⟩ := q
    rw [yCm, if_pos (h c m s rfl)]
/-! unit, product, sum, formula -/
def okC (c : Int32) : Prop := isLet c = true ∨ isDig c = true ∨ c = 40 ∨ c = 41 ∨ c = 42 ∨ c = 43 ∨ c = 45 ∨ c = 58 ∨ c = 60 ∨ c = 61 ∨ c = 63 ∨ c = 64
theorem sub_nI {c : Int32} {b : Int32} (h : b ≤ c) (hb : 0 ≤ b) : nI (c - b).toNatClampNeg = c - b := by
  have h1 := Int32.le_iff_toInt_le.mp h
  have h2 := Int32.le_iff_toInt_le.mp hb
  have h3 := Int32.toInt_lt c
  have h4 : (c - b).toInt = c.toInt - b.toInt := by
    rw [Int32.toInt_sub]
    have h0 : (0 : Int32).toInt = 0 := rfl
    rw [h0] at h2
    exact Int.bmod_eq_of_le (by omega) (by omega)
  have h0 : (0 : Int32).toInt = 0 := rfl
  rw [h0] at h2
  apply Int32.toInt_inj.mp
  show (Int32.ofNat (c - b).toInt.toNat).toInt = _
  rw [Int32.toInt_ofNat_of_lt (by omega)]
  omega
theorem let_la {c : Int32} (h : isLet c = true) : nI (la c) = c - 65 := by
  refine sub_nI ?_ (by decide)
  unfold isLet at h
  split at h
  · cases h
  · rename_i h1; exact Int32.not_lt.mp h1
theorem dig_dg {c : Int32} (h : isDig c = true) : nI (dg c) = c - 48 := by
  refine sub_nI ?_ (by decide)
  unfold isDig at h
  split at h
  · cases h
  · rename_i h1; exact Int32.not_lt.mp h1
theorem nx_at {t : Nat → Int32} {n i : Nat} (h : i < n) : nx t n i = t i := if_pos h
theorem yn_pn (t : Nat → Int32) (n : Nat) : ∀ (g i v : Nat), yn t n g i (nI v) = nI (pn t n g i v).2 ∧ ynd t n g i = (pn t n g i v).1 := by
  intro g
  induction g with
  | zero => intro i v; exact ⟨rfl, rfl⟩
  | succ g ih =>
    intro i v
    rw [yn, ynd, pn]
    by_cases hi : i < n
    · rw [if_pos hi, if_pos hi, nx_at hi]
      by_cases hd : isDig (t i) = true
      · rw [if_pos hd, if_pos hd, if_pos hd]
        have e : 10 * nI v + t i - 48 = nI (v * 10 + dg (t i)) := by
          rw [← nI_add, dig_dg hd, ← nI_mul, Int32.sub_eq_add_neg, Int32.sub_eq_add_neg, Int32.add_assoc, Int32.mul_comm]
          rfl
        rw [e]
        exact ih _ _
      · rw [if_neg hd, if_neg hd, if_neg hd]; exact ⟨rfl, rfl⟩
    · rw [if_neg hi, if_neg hi, if_neg (fun h => hi (isDig_lt h))]; exact ⟨rfl, rfl⟩
theorem let_not {c : Int32} (h : isLet c = true) : yOpn c = false ∧ isDig c = false ∧ ¬ c = 41 := by
  unfold isLet at h
  split at h
  · cases h
  split at h
  · cases h
  rename_i h1 h2
  refine ⟨?_, ?_, ?_⟩
  · unfold yOpn
    rw [if_neg (fun z => h1 (by rw [z]; decide)), if_neg (fun z => h1 (by rw [z]; decide)), if_neg (fun z => h1 (by rw [z]; decide))]
  · unfold isDig
    rw [if_neg (fun z => h1 (Int32.lt_trans z (by decide))), if_pos (Int32.lt_of_lt_of_le (by decide) (Int32.not_lt.mp h1))]
  · exact fun z => h1 (by rw [z]; decide)
theorem dig_not {c : Int32} (h : isDig c = true) : yOpn c = false ∧ isLet c = false ∧ ¬ c = 41 := by
  unfold isDig at h
  split at h
  · cases h
  split at h
  · cases h
  rename_i h1 h2
  refine ⟨?_, ?_, ?_⟩
  · unfold yOpn
    rw [if_neg (fun z => h1 (by rw [z]; decide)), if_neg (fun z => h1 (by rw [z]; decide)), if_neg (fun z => h2 (by rw [z]; decide))]
  · unfold isLet
    rw [if_pos (Int32.lt_of_le_of_lt (Int32.not_lt.mp h2) (by decide))]
  · exact fun z => h1 (by rw [z]; decide)
section YQ
variable {t : Nat → Int32} {n : Nat}
theorem yR_ufail {i : Nat} {sg cd : yG} (hi : i ≤ n) (h1 : ¬ isLet (nx t n i) = true) (h2 : ¬ isDig (nx t n i) = true) (h3 : nx t n i = 40 ∨ nx t n i = 45 ∨ nx t n i = 64 → nI (yD sg) = 5) : yR t n true i sg cd = .inl i := by
  rcases Nat.lt_or_eq_of_le hi with hlt | rfl
  · rw [nx_at hlt] at h1 h2 h3
    refine yR_none hlt ?_
    rw [if_pos rfl, yBeg, isLetM_eq, if_neg h1, if_neg h2]
    split
    · rename_i h; rw [if_pos (h3 h)]
    · rfl
  · rw [yR_end]; rfl
theorem yR_let {i : Nat} {sg cd : yG} (h1 : isLet (nx t n i) = true) : yR t n true i sg cd = yR t n false (i + 1) (yS 3 sg (cd ++ [(1, nI (la (nx t n i)))])).1 (yS 3 sg (cd ++ [(1, nI (la (nx t n i)))])).2 := by
  have hlt := isLet_lt h1
  rw [let_la h1]
  rw [nx_at hlt] at h1 ⊢
  have hn := let_not h1
  have := yR_some (t := t) (u := true) (sg := sg) (cd := cd) hlt (by rw [if_pos rfl, yBeg, isLetM_eq, if_pos h1])
  rw [this, if_pos rfl, hn.1]
  congr 1
  unfold yNx
  rw [if_neg (fun z => by rw [hn.2.1] at z; exact absurd z.2 (by decide))]
theorem yR_dig {i : Nat} {sg cd : yG} (h1 : isDig (nx t n i) = true) : yR t n true i sg cd = yR t n false (pn t n 4 i 0).1 (yS 3 sg (cd ++ [(0, nI (pn t n 4 i 0).2)])).1 (yS 3 sg (cd ++ [(0, nI (pn t n 4 i 0).2)])).2 := by
  have hlt := isDig_lt h1
  have hpn : (pn t n 4 i 0).1 = ynd t n 3 (i + 1) := by
    rw [pn, if_pos h1]; exact (yn_pn t n 3 (i + 1) _).2.symm
  rw [← (yn_pn t n 4 i 0).1, hpn]
  rw [nx_at hlt] at h1
  have hn := dig_not h1
  have := yR_some (t := t) (u := true) (sg := sg) (cd := cd) hlt (by rw [if_pos rfl, yBeg, isLetM_eq, if_neg (by rw [hn.2.1]; decide), if_pos h1])
  rw [this, if_pos rfl, hn.1]
  congr 1
  unfold yNx
  rw [if_pos ⟨rfl, h1⟩]
theorem yR_open {i : Nat} {c : Int32} {sg cd : yG} (h1 : nx t n i = c) (hc : c = 40 ∨ c = 45 ∨ c = 64) (hd : ¬ nI (yD sg) = 5) : yR t n true i sg cd = yR t n true (i + 1) ((if c = 45 then 200 else c, 0) :: sg) cd := by
  have hlt : i < n := nx_lt h1 (by rcases hc with z | z | z <;> rw [z] <;> decide)
  rw [nx_at hlt] at h1
  have e1 : isLet c = false := by rcases hc with z | z | z <;> rw [z] <;> decide
  have e2 : isDig c = false := by rcases hc with z | z | z <;> rw [z] <;> decide
  have e3 : yOpn c = true := by rcases hc with z | z | z <;> rw [z] <;> decide
  have := yR_some (t := t) (u := true) (sg := sg) (cd := cd) hlt (by rw [h1, if_pos rfl, yBeg, isLetM_eq, if_neg (by rw [e1]; decide), if_neg (by rw [e2]; decide), if_pos hc, if_neg hd])
  rw [this, if_pos rfl, h1, e3]
  congr 1
  unfold yNx
  rw [if_neg (fun z => by rw [e2] at z; exact absurd z.2 (by decide))]
/-- an operator of rank l -/
theorem yR_op {i : Nat} {c : Int32} {sg cd : yG} (h1 : nx t n i = c) (hc : c = 42 ∨ c = 43 ∨ c = 45 ∨ (c = 60 ∨ c = 61) ∧ yCm sg false = false) : yR t n false i sg cd = yR t n true (i + 1) ((c, 0) :: (yS (if rkM c = 0 then 1 else rkM c) sg cd).1) (yS (if rkM c = 0 then 1 else rkM c) sg cd).2 := by
  have hlt : i < n := nx_lt h1 (by rcases hc with z | z | z | ⟨z | z, _⟩ <;> rw [z] <;> decide)
  rw [nx_at hlt] at h1
  have e0 : ¬ (rkM c = 0 ∧ yCm sg false = true) := by
    rcases hc with z | z | z | ⟨z, hz⟩
    · rw [z]; exact fun h => absurd h.1 (by decide)
    · rw [z]; exact fun h => absurd h.1 (by decide)
    · rw [z]; exact fun h => absurd h.1 (by decide)
    · rw [hz]; exact fun h => absurd h.2 (by decide)
  have e1 : isLet c = false := by rcases hc with z | z | z | ⟨z | z, _⟩ <;> rw [z] <;> decide
  have e2 : isDig c = false := by rcases hc with z | z | z | ⟨z | z, _⟩ <;> rw [z] <;> decide
  have e3 : ¬ rkM c = 3 := by rcases hc with z | z | z | ⟨z | z, _⟩ <;> rw [z] <;> decide
  have e4 : ¬ c = 40 := by rcases hc with z | z | z | ⟨z | z, _⟩ <;> rw [z] <;> decide
  have e5 : ¬ rkM c < 0 := by rcases hc with z | z | z | ⟨z | z, _⟩ <;> rw [z] <;> decide
  have e6 : ¬ c = 41 := by rcases hc with z | z | z | ⟨z | z, _⟩ <;> rw [z] <;> decide
  have := yR_some (t := t) (u := false) (sg := sg) (cd := cd) hlt (by rw [h1, if_neg (by decide), yGoC, if_neg e0, if_neg e3, if_neg e4, isLetM_eq, if_neg (by rw [e1]; decide), if_neg (by rw [e2]; decide), if_neg e5])
  rw [this, if_neg (by decide), h1, if_neg e6]
  congr 1
theorem yR_ask {i : Nat} {sg cd : yG} (h1 : nx t n i = 63) : yR t n false i sg cd = yR t n true (i + 1) ((63, nI (yS 0 sg cd).2.length) :: (yS 0 sg cd).1) ((yS 0 sg cd).2 ++ [(10, 0)]) := by
  have hlt : i < n := nx_lt h1 (by decide)
  rw [nx_at hlt] at h1
  have := yR_some (t := t) (u := false) (sg := sg) (cd := cd) (sg' := (63, nI (yS 0 sg cd).2.length) :: (yS 0 sg cd).1) (cd' := (yS 0 sg cd).2 ++ [(10, 0)]) hlt (by rw [h1]; rfl)
  rw [this, h1]
  rfl
theorem yR_colon {i : Nat} {sg cd sg1 : yG} {x m : Int32} (h1 : nx t n i = 58) (ha : yAw sg = 63) (hc : (yC sg cd).1 = (x, m) :: sg1) : yR t n false i sg cd = yR t n true (i + 1) ((58, nI (yC sg cd).2.length) :: sg1) (jmpM ((yC sg cd).2 ++ [(9, 0)]) m.toNatClampNeg) := by
  have hlt : i < n := nx_lt h1 (by decide)
  rw [nx_at hlt] at h1
  have := yR_some (t := t) (u := false) (sg := sg) (cd := cd) (sg' := (58, nI (yC sg cd).2.length) :: sg1) (cd' := jmpM ((yC sg cd).2 ++ [(9, 0)]) m.toNatClampNeg) hlt (by
    rw [h1, if_neg (by decide), yGoC, if_neg (by intro h; exact absurd h.1 (by decide)), if_neg (by decide), if_neg (by decide), if_neg (by decide), if_neg (by decide), if_pos (by decide), if_neg (by decide), if_pos (by rw [ha]; rfl), hc]
    rfl)
  rw [this, h1]
  rfl
theorem yR_shut {i : Nat} {sg cd sg1 : yG} {x m : Int32} (h1 : nx t n i = 41) (ha : yAw sg = 40) (hc : (yC sg cd).1 = (x, m) :: sg1) : yR t n false i sg cd = yR t n false (i + 1) (yS 3 sg1 (yC sg cd).2).1 (yS 3 sg1 (yC sg cd).2).2 := by
  have hlt : i < n := nx_lt h1 (by decide)
  rw [nx_at hlt] at h1
  have := yR_some (t := t) (u := false) (sg := sg) (cd := cd) (sg' := (yS 3 sg1 (yC sg cd).2).1) (cd' := (yS 3 sg1 (yC sg cd).2).2) hlt (by
    rw [h1, if_neg (by decide), yGoC, if_neg (by intro h; exact absurd h.1 (by decide)), if_neg (by decide), if_neg (by decide), if_neg (by decide), if_neg (by decide), if_pos (by decide), if_neg (by decide), if_pos (by rw [ha]; rfl), hc]
    rfl)
  rw [this, h1]
  rfl
/-- where a formula stops -/
def yStop (t : Nat → Int32) (n i : Nat) (sg : yG) : Prop := ¬ nx t n i = 42 ∧ ¬ nx t n i = 43 ∧ ¬ nx t n i = 45 ∧ ¬ nx t n i = 63 ∧ (nx t n i = 60 ∨ nx t n i = 61 → yCm sg false = true)
theorem yR_stop (hT : ∀ i, i < n → okC (t i)) {i : Nat} {sg cd : yG} (hi : i ≤ n) (hs : yStop t n i sg) (h58 : nx t n i = 58 → ¬ yAw sg = 63) (h41 : nx t n i = 41 → ¬ yAw sg = 40) (he : i = n → ¬ yAw sg = 0) : yR t n false i sg cd = .inl i := by
  rcases Nat.lt_or_eq_of_le hi with hlt | rfl
  · unfold yStop at hs
    rw [nx_at hlt] at hs h58 h41
    refine yR_none hlt ?_
    rw [if_neg (by decide), yGoC]
    have ok := hT i hlt
    by_cases c0 : rkM (t i) = 0 ∧ yCm sg false = true
    · rw [if_pos c0]
    rw [if_neg c0]
    by_cases c1 : rkM (t i) = 3
    · rw [if_pos c1]
    rw [if_neg c1]
    by_cases c2 : t i = 40
    · rw [if_pos c2]
    rw [if_neg c2, isLetM_eq]
    by_cases c3 : isLet (t i) = true
    · rw [if_pos c3]
    rw [if_neg c3]
    by_cases c4 : isDig (t i) = true
    · rw [if_pos c4]
    rw [if_neg c4]
    unfold okC at ok
    rcases ok with z | z | z | z | z | z | z | z | z | z | z | z
    · exact absurd z c3
    · exact absurd z c4
    · exact absurd z c2
    · rw [if_pos (by rw [z]; decide), if_neg (by rw [z]; decide), z, if_neg (by have := h41 z; exact this)]
    · exact absurd z hs.1
    · exact absurd z hs.2.1
    · exact absurd z hs.2.2.1
    · rw [if_pos (by rw [z]; decide), if_neg (by rw [z]; decide), z, if_neg (by have := h58 z; exact this)]
    · exact absurd ⟨by rw [z]; decide, hs.2.2.2.2 (Or.inl z)⟩ c0
    · exact absurd ⟨by rw [z]; decide, hs.2.2.2.2 (Or.inr z)⟩ c0
    · exact absurd z hs.2.2.2.1
    · exact absurd (by rw [z]; decide) c1
  · rw [yR_end, if_neg (by decide), if_neg (he rfl)]
end YQ
/-! the descent by the yard -/
theorem yD_cons (c m : Int32) (sg : yG) : yD ((c, m) :: sg) = yD sg + if yDp (c, m) = true then 1 else 0 := by
  unfold yD
  rw [List.countP_cons]
theorem yLow_cons {l c : Int32} (h : rkM c < l) (m : Int32) (sg : yG) : yLow l ((c, m) :: sg) := fun c' m' s' e => by cases e; exact h
theorem nIp {a : Nat} (h : a ≤ 5) (h5 : ¬ 5 ≤ a) : ¬ nI a = 5 := by
  rcases (show a = 0 ∨ a = 1 ∨ a = 2 ∨ a = 3 ∨ a = 4 by omega) with rfl | rfl | rfl | rfl | rfl <;> decide
section YM
variable (t : Nat → Int32) (n : Nat)
def eU (f : Nat) (G : Nat → Nat → pC → pR) : Prop := ∀ (dp i : Nat) (cs : pC) (sg : yG), i ≤ n → n - i < f → cs.length ≤ i → yD sg = dp → dp ≤ 5 →
  (∀ i' cs', G dp i cs = (true, i', cs') → yR t n true i sg (rc cs) = yR t n false i' (yS 3 sg (rc cs')).1 (yS 3 sg (rc cs')).2) ∧
  (∀ i' cs', G dp i cs = (false, i', cs') → yR t n true i sg (rc cs) = .inl i')
def eL (l : Int32) (st : Nat → Prop) (f : Nat) (G : Nat → Nat → pC → pR) : Prop := ∀ (dp i : Nat) (cs : pC) (sg : yG), i ≤ n → n - i < f → cs.length ≤ i → yD sg = dp → dp ≤ 5 → yLow l sg →
  (∀ i' cs', G dp i cs = (true, i', cs') → ∃ s c, yR t n true i sg (rc cs) = yR t n false i' (s ++ sg) c ∧ yP l s ∧ yE s c = rc cs' ∧ st i') ∧
  (∀ i' cs', G dp i cs = (false, i', cs') → yR t n true i sg (rc cs) = .inl i')
def eF (f : Nat) (G : Nat → Nat → pC → pR) : Prop := ∀ (dp i : Nat) (cs : pC) (sg : yG), i ≤ n → n - i < f → cs.length ≤ i → yD sg = dp → dp ≤ 5 → yLow 0 sg →
  (∀ i' cs', G dp i cs = (true, i', cs') → ∃ s c, yR t n true i sg (rc cs) = yR t n false i' (s ++ sg) c ∧ yPd s ∧ yE s c = rc cs' ∧ yStop t n i' (s ++ sg)) ∧
  (∀ i' cs', G dp i cs = (false, i', cs') → yR t n true i sg (rc cs) = .inl i')
variable {t n}
theorem pOk.of {i : Nat} {cs : pC} {r : pR} {b : Bool} {i' : Nat} {cs' : pC} (h : pOk n i cs r) (e : r = (b, i', cs')) (hc : cs.length ≤ i) : i ≤ i' ∧ i' ≤ n ∧ cs'.length ≤ i' ∧ cs'.length + i ≤ cs.length + i' := by
  subst e
  obtain ⟨a1, a2, a3, a4⟩ := h
  dsimp only at a1 a2 a3 a4
  exact ⟨a1, a2, by omega, a3⟩
theorem ePl {U : Nat → Nat → pC → pR} {f : Nat} (hO : pAll n U f) (hU : eU t n f U) : ∀ (g dp i : Nat) (cs : pC) (sg s c : yG), n - i ≤ g → i ≤ n → n - i < f → cs.length ≤ i → yD sg = dp → dp ≤ 5 → yLow 2 sg → yP 2 s → yE s c = rc cs →
    (∀ i' cs', pPl t n U g dp i cs = (true, i', cs') → ∃ s' c', yR t n false i (s ++ sg) c = yR t n false i' (s' ++ sg) c' ∧ yP 2 s' ∧ yE s' c' = rc cs' ∧ ¬ nx t n i' = 42) ∧
    (∀ i' cs', pPl t n U g dp i cs = (false, i', cs') → yR t n false i (s ++ sg) c = .inl i') := by
  intro g
  induction g with
  | zero =>
    intro dp i cs sg s c hg hi hf hc hd h5 hl hs he
    refine ⟨fun i' cs' e => ?_, fun i' cs' e => ?_⟩
    · rw [pPl] at e
      cases e
      exact ⟨s, c, rfl, hs, he, fun z => by have := nx_lt z (by decide); omega⟩
    · rw [pPl] at e; cases e
  | succ g ih =>
    intro dp i cs sg s c hg hi hf hc hd h5 hl hs he
    rw [pPl]
    by_cases h42 : nx t n i = 42
    · have hlt := nx_lt h42 (by decide)
      rw [if_pos h42]
      have e1 := yR_op (sg := s ++ sg) (cd := c) h42 (Or.inl rfl)
      rw [show (if rkM 42 = 0 then (1 : Int32) else rkM 42) = 2 from rfl, yS_pend (by decide) hl s c hs, he] at e1
      rw [e1]
      have hu := hU dp (i + 1) cs ((42, 0) :: sg) hlt (by omega) (by omega) (by rw [yD_cons]; exact hd) h5
      rcases e : U dp (i + 1) cs with ⟨b, i1, cs1⟩
      have ho := pOk.of (hO dp (i + 1) cs hlt (by omega)) e (by omega)
      cases b with
      | false =>
        refine ⟨fun i' cs' e' => (by cases e'), fun i' cs' e' => ?_⟩
        cases e'
        exact hu.2 i1 cs1 e
      | true =>
        have h3 := hu.1 i1 cs1 e
        rw [yS_low (l := 3) _ (yLow_cons (c := 42) (by decide) 0 sg)] at h3
        rw [h3]
        exact ih dp i1 (cs1 ++ [(8, 0)]) sg [(42, 0)] (rc cs1) (by omega) (by omega) (by omega) (by rw [List.length_append, List.length_singleton]; omega) hd h5 hl (fun q hq => by rcases List.mem_singleton.mp hq with rfl; decide) (by rw [rc_add]; rfl)
    · rw [if_neg h42]
      refine ⟨fun i' cs' e => ?_, fun i' cs' e => by cases e⟩
      cases e
      exact ⟨s, c, rfl, hs, he, h42⟩
theorem eP {U : Nat → Nat → pC → pR} {f : Nat} (hn : n ≤ 30) (hO : pAll n U f) (hU : eU t n f U) : eL t n 2 (fun i => ¬ nx t n i = 42) f (pP t n U) := by
  intro dp i cs sg hi hf hc hd h5 hl
  have hu := hU dp i cs sg hi hf hc hd h5
  unfold pP
  rcases e : U dp i cs with ⟨b, i1, cs1⟩
  have ho := pOk.of (hO dp i cs hi hf) e hc
  cases b with
  | false =>
    refine ⟨fun i' cs' e' => (by cases e'), fun i' cs' e' => ?_⟩
    cases e'
    exact hu.2 i1 cs1 e
  | true =>
    have h3 := hu.1 i1 cs1 e
    rw [yS_low _ (hl.le (by decide))] at h3
    rw [h3]
    exact ePl hO hU 30 dp i1 cs1 sg [] (rc cs1) (by omega) ho.2.1 (by omega) ho.2.2.1 hd h5 hl (fun q hq => by cases hq) rfl
theorem eSl {U : Nat → Nat → pC → pR} {f : Nat} (hn : n ≤ 30) (hO : pAll n U f) (hU : eU t n f U) : ∀ (g dp i : Nat) (cs : pC) (sg s c : yG), n - i ≤ g → i ≤ n → n - i < f → cs.length ≤ i → yD sg = dp → dp ≤ 5 → yLow 1 sg → yP 1 s → yE s c = rc cs → ¬ nx t n i = 42 →
    (∀ i' cs', pSl t n U g dp i cs = (true, i', cs') → ∃ s' c', yR t n false i (s ++ sg) c = yR t n false i' (s' ++ sg) c' ∧ yP 1 s' ∧ yE s' c' = rc cs' ∧ (¬ nx t n i' = 42 ∧ ¬ nx t n i' = 43 ∧ ¬ nx t n i' = 45)) ∧
    (∀ i' cs', pSl t n U g dp i cs = (false, i', cs') → yR t n false i (s ++ sg) c = .inl i') := by
  intro g
  induction g with
  | zero =>
    intro dp i cs sg s c hg hi hf hc hd h5 hl hs he h42
    refine ⟨fun i' cs' e => ?_, fun i' cs' e => ?_⟩
    · rw [pSl] at e
      cases e
      exact ⟨s, c, rfl, hs, he, h42, fun z => by have := nx_lt z (by decide); omega, fun z => by have := nx_lt z (by decide); omega⟩
    · rw [pSl] at e; cases e
  | succ g ih =>
    intro dp i cs sg s c hg hi hf hc hd h5 hl hs he h42
    rw [pSl]
    by_cases hch : nx t n i = 43 ∨ nx t n i = 45
    · rw [if_pos hch]
      obtain ⟨ch, hce, hcc⟩ : ∃ ch, nx t n i = ch ∧ (ch = 43 ∨ ch = 45) := ⟨_, rfl, hch⟩
      have hlt : i < n := nx_lt hce (by rcases hcc with z | z <;> rw [z] <;> decide)
      have e1 := yR_op (sg := s ++ sg) (cd := c) hce (by rcases hcc with z | z; exact Or.inr (Or.inl z); exact Or.inr (Or.inr (Or.inl z)))
      have e2 : (if rkM ch = 0 then (1 : Int32) else rkM ch) = 1 := by rcases hcc with z | z <;> rw [z] <;> decide
      rw [e2, yS_pend (by decide) hl s c hs, he] at e1
      rw [e1, hce]
      have hr : rkM ch = 1 := by rcases hcc with z | z <;> rw [z] <;> decide
      have hu := eP hn hO hU dp (i + 1) cs ((ch, 0) :: sg) hlt (by omega) (by omega) (by rw [yD_cons, if_neg (by rcases hcc with z | z <;> rw [z] <;> decide)]; exact hd) h5 (yLow_cons (by rw [hr]; decide) 0 sg)
      rcases e : pP t n U dp (i + 1) cs with ⟨b, i1, cs1⟩
      have ho := pOk.of (pP_ok (t := t) hO dp (i + 1) cs hlt (by omega)) e (by omega)
      cases b with
      | false =>
        refine ⟨fun i' cs' e' => (by cases e'), fun i' cs' e' => ?_⟩
        cases e'
        exact hu.2 i1 cs1 e
      | true =>
        obtain ⟨s1, c1, h3, h4, h6, h7⟩ := hu.1 i1 cs1 e
        have ea : s1 ++ (ch, 0) :: sg = (s1 ++ [(ch, 0)]) ++ sg := by simp
        rw [h3, ea]
        refine ih dp i1 _ sg (s1 ++ [(ch, 0)]) c1 (by omega) (by omega) (by omega) (by rw [List.length_append, List.length_singleton]; omega) hd h5 hl ?_ ?_ h7
        · intro q hq
          rcases List.mem_append.mp hq with hq | hq
          · exact h4.le (by decide) q hq
          · rcases List.mem_singleton.mp hq with rfl
            rw [hr]; decide
        · rw [yE_app, h6, rc_add]
          rcases hcc with z | z <;> rw [z] <;> rfl
    · rw [if_neg hch]
      refine ⟨fun i' cs' e => ?_, fun i' cs' e => by cases e⟩
      cases e
      exact ⟨s, c, rfl, hs, he, h42, fun z => hch (Or.inl z), fun z => hch (Or.inr z)⟩
theorem eS {U : Nat → Nat → pC → pR} {f : Nat} (hn : n ≤ 30) (hO : pAll n U f) (hU : eU t n f U) : eL t n 1 (fun i => ¬ nx t n i = 42 ∧ ¬ nx t n i = 43 ∧ ¬ nx t n i = 45) f (pS t n U) := by
  intro dp i cs sg hi hf hc hd h5 hl
  have hu := eP hn hO hU dp i cs sg hi hf hc hd h5 (hl.le (by decide))
  unfold pS
  rcases e : pP t n U dp i cs with ⟨b, i1, cs1⟩
  have ho := pOk.of (pP_ok (t := t) hO dp i cs hi hf) e hc
  cases b with
  | false =>
    refine ⟨fun i' cs' e' => (by cases e'), fun i' cs' e' => ?_⟩
    cases e'
    exact hu.2 i1 cs1 e
  | true =>
    obtain ⟨s1, c1, h3, h4, h6, h7⟩ := hu.1 i1 cs1 e
    rw [h3]
    exact eSl hn hO hU 30 dp i1 cs1 sg s1 c1 (by omega) ho.2.1 (by omega) ho.2.2.1 hd h5 hl (h4.le (by decide)) h6 h7
theorem yP.pd {s : yG} (h : yP 0 s) : yPd s := fun q hq => Or.inr (h q hq)
theorem eQ {F : Nat → Nat → pC → pR} {f : Nat} (hn : n ≤ 30) (hT : ∀ i, i < n → okC (t i)) (hO : pAll n F f) (hF : eF t n f F) {dp i : Nat} {cs : pC} {sg s c : yG} (hi : i ≤ n) (hf : n - i < f + 1) (hc : cs.length ≤ i) (hd : yD sg = dp) (h5 : dp ≤ 5) (hl : yLow 0 sg) (hs : yP 0 s) (he : yE s c = rc cs)
    (hst : ¬ nx t n i = 42 ∧ ¬ nx t n i = 43 ∧ ¬ nx t n i = 45) (hcm : nx t n i = 60 ∨ nx t n i = 61 → yCm (s ++ sg) false = true) :
    (∀ i' cs', pQ t n F dp i cs = (true, i', cs') → ∃ s' c', yR t n false i (s ++ sg) c = yR t n false i' (s' ++ sg) c' ∧ yPd s' ∧ yE s' c' = rc cs' ∧ yStop t n i' (s' ++ sg)) ∧
    (∀ i' cs', pQ t n F dp i cs = (false, i', cs') → yR t n false i (s ++ sg) c = .inl i') := by
  unfold pQ
  by_cases h63 : nx t n i = 63
  · rw [if_pos h63]
    have hlt := nx_lt h63 (by decide)
    have e1 := yR_ask (sg := s ++ sg) (cd := c) h63
    rw [yS_pend (by decide) hl s c hs, he] at e1
    have e2 : rc cs ++ [((10 : Int32), (0 : Int32))] = rc (cs ++ [(4, 0)]) := by rw [rc_add]; rfl
    dsimp only at e1
    rw [e2, rc_len] at e1
    rw [e1]
    unfold pB
    have hu := hF dp (i + 1) (cs ++ [(4, 0)]) ((63, nI cs.length) :: sg) hlt (by omega) (by rw [List.length_append, List.length_singleton]; omega) (by rw [yD_cons]; exact hd) h5 (yLow_cons (by decide) _ sg)
    rcases e : F dp (i + 1) (cs ++ [(4, 0)]) with ⟨b, i1, cs1⟩
    have ho := pOk.of (hO dp (i + 1) _ hlt (by omega)) e (by rw [List.length_append, List.length_singleton]; omega)
    cases b with
    | false =>
      refine ⟨fun i' cs' e' => (by cases e'), fun i' cs' e' => ?_⟩
      cases e'
      exact hu.2 i1 cs1 e
    | true =>
      obtain ⟨s1, c1, h3, h4, h6, h7⟩ := hu.1 i1 cs1 e
      have haw : yAw (s1 ++ (63, nI cs.length) :: sg) = 63 := by rw [yAw_pend s1 h4]; rfl
      have hyc : yC (s1 ++ (63, nI cs.length) :: sg) c1 = ((63, nI cs.length) :: sg, rc cs1) := by rw [yC_pend s1 c1 h4, h6]; rfl
      rw [h3]
      dsimp only
      by_cases h58 : nx t n i1 = 58
      · rw [if_pos h58]
        have hlt1 := nx_lt h58 (by decide)
        have e3 := yR_colon (cd := c1) h58 haw (by rw [hyc])
        rw [hyc] at e3
        dsimp only at e3
        have e4 : jmpM (rc cs1 ++ [((9 : Int32), (0 : Int32))]) (nI cs.length).toNatClampNeg = rc (jmp (cs1 ++ [(5, 0)]) cs.length) := by
          rw [nI_clamp (by omega), rc_jmp, rc_add]; rfl
        rw [e4, rc_len] at e3
        rw [e3]
        have hu2 := hF dp (i1 + 1) (jmp (cs1 ++ [(5, 0)]) cs.length) ((58, nI cs1.length) :: sg) hlt1 (by omega) (by rw [jmp_len, List.length_append, List.length_singleton]; omega) (by rw [yD_cons]; exact hd) h5 (yLow_cons (by decide) _ sg)
        rcases e5 : F dp (i1 + 1) (jmp (cs1 ++ [(5, 0)]) cs.length) with ⟨b, i2, cs2⟩
        cases b with
        | false =>
          refine ⟨fun i' cs' e' => (by cases e'), fun i' cs' e' => ?_⟩
          cases e'
          exact hu2.2 i2 cs2 e5
        | true =>
          refine ⟨fun i' cs' e' => ?_, fun i' cs' e' => by cases e'⟩
          cases e'
          obtain ⟨s2, c2, g3, g4, g6, g7⟩ := hu2.1 i2 cs2 e5
          have ea : s2 ++ (58, nI cs1.length) :: sg = (s2 ++ [(58, nI cs1.length)]) ++ sg := by simp
          rw [ea] at g3 g7
          refine ⟨_, c2, g3, ?_, ?_, g7⟩
          · intro q hq
            rcases List.mem_append.mp hq with hq | hq
            · exact g4 q hq
            · rcases List.mem_singleton.mp hq with rfl
              exact Or.inl rfl
          · rw [yE_app, g6, rc_jmp]
            show jmpM (rc cs2) (nI cs1.length).toNatClampNeg = _
            rw [nI_clamp (by omega)]
      · rw [if_neg h58]
        refine ⟨fun i' cs' e' => (by cases e'), fun i' cs' e' => ?_⟩
        cases e'
        exact yR_stop hT ho.2.1 h7 (fun z => absurd z h58) (fun _ => by rw [haw]; decide) (fun _ => by rw [haw]; decide)
  · rw [if_neg h63]
    refine ⟨fun i' cs' e => ?_, fun i' cs' e => by cases e⟩
    cases e
    exact ⟨s, c, rfl, hs.pd, he, hst.1, hst.2.1, hst.2.2, h63, hcm⟩
theorem eFf {U F : Nat → Nat → pC → pR} {f : Nat} (hn : n ≤ 30) (hT : ∀ i, i < n → okC (t i)) (hOU : pAll n U (f + 1)) (hU : eU t n (f + 1) U) (hO : pAll n F f) (hF : eF t n f F) : eF t n (f + 1) (pFf t n U F) := by
  intro dp i cs sg hi hf hc hd h5 hl
  have hu := eS hn hOU hU dp i cs sg hi hf hc hd h5 (hl.le (by decide))
  unfold pFf
  rcases e : pS t n U dp i cs with ⟨b, i1, cs1⟩
  have ho := pOk.of (pS_ok (t := t) hOU dp i cs hi hf) e hc
  cases b with
  | false =>
    refine ⟨fun i' cs' e' => (by cases e'), fun i' cs' e' => ?_⟩
    cases e'
    exact hu.2 i1 cs1 e
  | true =>
    obtain ⟨s1, c1, h3, h4, h6, h7⟩ := hu.1 i1 cs1 e
    rw [h3]
    dsimp only
    by_cases hch : nx t n i1 = 60 ∨ nx t n i1 = 61
    · rw [if_pos hch]
      obtain ⟨ch, hce, hcc⟩ : ∃ ch, nx t n i1 = ch ∧ (ch = 60 ∨ ch = 61) := ⟨_, rfl, hch⟩
      have hlt : i1 < n := nx_lt hce (by rcases hcc with z | z <;> rw [z] <;> decide)
      have hcm : yCm (s1 ++ sg) false = false := by rw [yCm_pend s1 h4, yCm_low hl]
      have e1 := yR_op (sg := s1 ++ sg) (cd := c1) hce (Or.inr (Or.inr (Or.inr ⟨hcc, hcm⟩)))
      have hr : rkM ch = 0 := by rcases hcc with z | z <;> rw [z] <;> decide
      rw [if_pos hr, yS_pend (by decide) (hl.le (by decide)) s1 c1 h4, h6] at e1
      rw [e1, hce]
      have hu2 := eS hn hOU hU dp (i1 + 1) cs1 ((ch, 0) :: sg) hlt (by omega) (by omega) (by rw [yD_cons, if_neg (by rcases hcc with z | z <;> rw [z] <;> decide)]; exact hd) h5 (yLow_cons (by rw [hr]; decide) 0 sg)
      rcases e2 : pS t n U dp (i1 + 1) cs1 with ⟨b, i2, cs2⟩
      have ho2 := pOk.of (pS_ok (t := t) hOU dp (i1 + 1) cs1 hlt (by omega)) e2 (by omega)
      cases b with
      | false =>
        refine ⟨fun i' cs' e' => (by cases e'), fun i' cs' e' => ?_⟩
        cases e'
        exact hu2.2 i2 cs2 e2
      | true =>
        obtain ⟨s2, c2, g3, g4, g6, g7⟩ := hu2.1 i2 cs2 e2
        have ea : s2 ++ (ch, 0) :: sg = (s2 ++ [(ch, 0)]) ++ sg := by simp
        rw [g3]
        have hcm2 : yCm (s2 ++ (ch, 0) :: sg) false = true := by
          rw [yCm_pend s2 g4, yCm, if_neg (by rw [hr]; decide), hr]
          exact yCm_low hl _
        rw [ea] at hcm2 ⊢
        refine eQ hn hT hO hF ho2.2.1 (by omega) (by rw [List.length_append, List.length_singleton]; omega) hd h5 hl ?_ ?_ g7 (fun _ => hcm2)
        · intro q hq
          rcases List.mem_append.mp hq with hq | hq
          · exact g4.le (by decide) q hq
          · rcases List.mem_singleton.mp hq with rfl
            rw [hr]; decide
        · rw [yE_app, g6, rc_add]
          rcases hcc with z | z <;> rw [z] <;> rfl
    · rw [if_neg hch]
      exact eQ hn hT hO hF ho.2.1 (by omega) ho.2.2.1 hd h5 hl (h4.le (by decide)) h6 h7 (fun z => absurd z hch)
theorem eUf {U F : Nat → Nat → pC → pR} {f : Nat} (hn : n ≤ 30) (hT : ∀ i, i < n → okC (t i)) (hOU : pAll n U f) (hU : eU t n f U) (hO : pAll n F f) (hF : eF t n f F) : eU t n (f + 1) (pUf t n U F) := by
  intro dp i cs sg hi hf hc hd h5
  unfold pUf
  by_cases h1 : isLet (nx t n i) = true
  · rw [if_pos h1]
    refine ⟨fun i' cs' e => ?_, fun i' cs' e => by cases e⟩
    cases e
    rw [yR_let h1, rc_add]
    rfl
  rw [if_neg h1]
  by_cases h2 : isDig (nx t n i) = true
  · rw [if_pos h2]
    refine ⟨fun i' cs' e => ?_, fun i' cs' e => by cases e⟩
    cases e
    rw [yR_dig h2, rc_add]
    rfl
  rw [if_neg h2]
  by_cases hdp : 5 ≤ dp
  · rw [if_pos hdp]
    refine ⟨fun i' cs' e => (by cases e), fun i' cs' e => ?_⟩
    cases e
    exact yR_ufail hi h1 h2 (fun _ => by rw [hd, show dp = 5 by omega]; rfl)
  rw [if_neg hdp]
  have hnd : ¬ nI (yD sg) = 5 := by rw [hd]; exact nIp h5 hdp
  by_cases h40 : nx t n i = 40
  · rw [if_pos h40]
    have hlt := nx_lt h40 (by decide)
    have e1 := yR_open (cd := rc cs) h40 (Or.inl rfl) hnd
    rw [if_neg (by decide)] at e1
    rw [e1]
    have hu := hF (dp + 1) (i + 1) cs ((40, 0) :: sg) hlt (by omega) (by omega) (by rw [yD_cons, hd]; rfl) (by omega) (yLow_cons (by decide) _ sg)
    rcases e : F (dp + 1) (i + 1) cs with ⟨b, i1, cs1⟩
    have ho := pOk.of (hO (dp + 1) (i + 1) cs hlt (by omega)) e (by omega)
    cases b with
    | false =>
      refine ⟨fun i' cs' e' => (by cases e'), fun i' cs' e' => ?_⟩
      cases e'
      exact hu.2 i1 cs1 e
    | true =>
      obtain ⟨s1, c1, h3, h4, h6, h7⟩ := hu.1 i1 cs1 e
      have haw : yAw (s1 ++ (40, 0) :: sg) = 40 := by rw [yAw_pend s1 h4]; rfl
      have hyc : yC (s1 ++ (40, 0) :: sg) c1 = ((40, 0) :: sg, rc cs1) := by rw [yC_pend s1 c1 h4, h6]; rfl
      rw [h3]
      dsimp only
      by_cases h41 : nx t n i1 = 41
      · rw [if_pos h41]
        refine ⟨fun i' cs' e' => ?_, fun i' cs' e' => by cases e'⟩
        cases e'
        have e3 := yR_shut (cd := c1) h41 haw (by rw [hyc])
        rw [hyc] at e3
        exact e3
      · rw [if_neg h41]
        refine ⟨fun i' cs' e' => (by cases e'), fun i' cs' e' => ?_⟩
        cases e'
        exact yR_stop hT ho.2.1 h7 (fun _ => by rw [haw]; decide) (fun z => absurd z h41) (fun _ => by rw [haw]; decide)
  rw [if_neg h40]
  by_cases hch : nx t n i = 45 ∨ nx t n i = 64
  · rw [if_pos hch]
    obtain ⟨ch, hce, hcc⟩ : ∃ ch, nx t n i = ch ∧ (ch = 45 ∨ ch = 64) := ⟨_, rfl, hch⟩
    have hlt : i < n := nx_lt hce (by rcases hcc with z | z <;> rw [z] <;> decide)
    have e1 := yR_open (cd := rc cs) hce (Or.inr hcc) hnd
    rw [e1, hce]
    have hu := hU (dp + 1) (i + 1) cs ((if ch = 45 then 200 else ch, 0) :: sg) hlt (by omega) (by omega) (by rw [yD_cons, hd, if_pos (by rcases hcc with z | z <;> rw [z] <;> decide)]) (by omega)
    rcases e : U (dp + 1) (i + 1) cs with ⟨b, i1, cs1⟩
    cases b with
    | false =>
      refine ⟨fun i' cs' e' => (by cases e'), fun i' cs' e' => ?_⟩
      cases e'
      exact hu.2 i1 cs1 e
    | true =>
      refine ⟨fun i' cs' e' => ?_, fun i' cs' e' => by cases e'⟩
      cases e'
      have h3 := hu.1 i1 cs1 e
      rw [h3, rc_add, yS, if_neg (by rcases hcc with z | z <;> rw [z] <;> decide)]
      rcases hcc with z | z <;> rw [z] <;> rfl
  · rw [if_neg hch]
    refine ⟨fun i' cs' e => (by cases e), fun i' cs' e => ?_⟩
    cases e
    refine yR_ufail hi h1 h2 (fun z => ?_)
    rcases z with z | z
    · exact absurd z h40
    · exact absurd z hch
theorem eW (hn : n ≤ 30) (hT : ∀ i, i < n → okC (t i)) : ∀ f, eU t n f (pW t n f).1 ∧ eF t n f (pW t n f).2 := by
  intro f
  induction f with
  | zero => exact ⟨fun _ _ _ _ _ h => by omega, fun _ _ _ _ _ h => by omega⟩
  | succ f ih =>
    have ho := pW_ok t n f
    have hu := eUf hn hT ho.1 ih.1 ho.2 ih.2
    exact ⟨hu, eFf hn hT (pUf_ok ho.1 ho.2) hu ho.2 ih.2⟩
/-- the two parsers answer alike, and make the same steps -/
theorem yRun_pAcc (hn : n ≤ 30) (hT : ∀ i, i < n → okC (t i)) : yRun t n 31 true 0 [] [] = if ((pAcc t n).1 && decide ((pAcc t n).2.1 = n)) = true then .inr (rc (pAcc t n).2.2) else .inl (pAcc t n).2.1 := by
  have h0 : yRun t n 31 true 0 [] [] = yR t n true 0 [] (rc []) := by
    rw [yRunC_eq t n hn 31 true 0 [] [] (Nat.zero_le _) ⟨Nat.le_refl _, Nat.le_refl _, fun q hq => by cases hq⟩]
    exact yRunC_fuel t n _ _ _ _ _ _ (by omega) (by omega)
  rw [h0]
  have hu := (eW hn hT 31).2 0 0 [] [] (Nat.zero_le _) (by omega) (Nat.le_refl _) rfl (by omega) (fun c m s e => by cases e)
  have ho := (pAcc_ok t hn).1
  unfold pAcc at ho ⊢
  rcases e : (pW t n 31).2 0 0 [] with ⟨b, i1, cs1⟩
  rw [e] at ho
  cases b with
  | false => exact hu.2 i1 cs1 e
  | true =>
    obtain ⟨s1, c1, h3, h4, h6, h7⟩ := hu.1 i1 cs1 e
    rw [h3]
    have haw : yAw (s1 ++ []) = 0 := by rw [yAw_pend s1 h4]; rfl
    have hyc : yC (s1 ++ []) c1 = ([], rc cs1) := by rw [yC_pend s1 c1 h4, h6]; rfl
    by_cases hi : i1 = n
    · subst hi
      rw [yR_end, if_neg (by decide), if_pos haw, hyc, if_pos (by simp)]
    · rw [if_neg (by simpa using hi)]
      exact yR_stop hT ho h7 (fun _ => by rw [haw]; decide) (fun _ => by rw [haw]; decide) (fun z => absurd z hi)
end YM
