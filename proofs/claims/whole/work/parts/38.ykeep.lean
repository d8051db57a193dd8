/-! the model's parser: what every state keeps; its whole run -/
def yOp (q : Int32 × Int32) : Bool := decide (¬ rkM q.1 < 0)
def yO (sg : yG) : Nat := sg.countP yOp
theorem yO_cons (c m : Int32) (sg : yG) : yO ((c, m) :: sg) = yO sg + if rkM c < 0 then 0 else 1 := by
  unfold yO
  rw [List.countP_cons]
  by_cases h : rkM c < 0
  · simp [yOp, h]
  · simp [yOp, h]
theorem yS_sum {l : Int32} (hl : ¬ l < 0) : ∀ (sg cd : yG), (yS l sg cd).2.length + yO (yS l sg cd).1 = cd.length + yO sg := by
  intro sg
  induction sg with
  | nil => intro cd; rfl
  | cons q sg ih =>
    intro cd
    obtain ⟨c, m⟩ := q
    rw [yS]
    split
    · rfl
    · rename_i h
      have hc : ¬ rkM c < 0 := fun z => h (Int32.lt_of_lt_of_le z (Int32.not_lt.mp hl))
      rw [ih, yO_cons, if_neg hc, List.length_append, List.length_singleton]
      omega
theorem yK_sum : ∀ (f : Nat) (sg cd : yG), (yK f sg cd).2.length + yO (yK f sg cd).1 = cd.length + yO sg := by
  intro f
  induction f with
  | zero => intro sg cd; rfl
  | succ f ih =>
    intro sg cd
    cases sg with
    | nil => rfl
    | cons q sg =>
      obtain ⟨c, m⟩ := q
      rw [yK]
      split
      · rename_i hc
        rw [ih, yS_sum (by decide), jmpM_len, yO_cons, if_pos (by rw [hc]; decide)]
        omega
      · rfl
theorem yCl_sum (sg cd : yG) : (yCl sg cd).2.length + yO (yCl sg cd).1 = cd.length + yO sg := by
  unfold yCl
  rw [yK_sum, yS_sum (by decide)]
/-- a state of the parser behind k characters -/
def YI (k : Nat) (sg cd : yG) : Prop := sg.length ≤ k ∧ cd.length + yO sg ≤ k ∧ YB sg cd.length
theorem YI.settle {k : Nat} {sg cd : yG} {l : Int32} (hl : ¬ l < 0) (h : YI k sg cd) : YI k (yS l sg cd).1 (yS l sg cd).2 := by
  have h1 := yS_sum hl sg cd
  have h2 := yS_len l sg cd
  exact ⟨by have := h.1; omega, by have := h.2.1; omega, (YB.settle l h.2.2).le h2.1⟩
theorem YI.close {k : Nat} {sg cd : yG} (h : YI k sg cd) : YI k (yCl sg cd).1 (yCl sg cd).2 := by
  have h1 := yCl_sum sg cd
  have h2 := yCl_len sg cd
  exact ⟨by have := h.1; omega, by have := h.2.1; omega, fun q hq hc => by
    obtain ⟨j, a, b⟩ := h.2.2 q (yCl_mem sg cd q hq) hc
    exact ⟨j, by omega, b⟩⟩
theorem YI.make {k : Nat} {sg cd : yG} {x : Int32 × Int32} (h : YI k sg cd) : YI (k + 1) sg (cd ++ [x]) := by
  refine ⟨by have := h.1; omega, ?_, h.2.2.le ?_⟩
  · rw [List.length_append, List.length_singleton]; have := h.2.1; omega
  · rw [List.length_append]; omega
theorem YI.put {k : Nat} {sg cd : yG} {c m : Int32} (h : YI k sg cd) (hc : ¬ c = 58 ∧ ¬ c = 63) : YI (k + 1) ((c, m) :: sg) cd := by
  refine ⟨by rw [List.length_cons]; have := h.1; omega, ?_, fun q hq hq2 => ?_⟩
  · rw [yO_cons]
    have := h.2.1
    split <;> omega
  · rcases List.mem_cons.mp hq with rfl | hq
    · rcases hq2 with z | z
      · exact absurd z hc.1
      · exact absurd z hc.2
    · exact h.2.2 q hq hq2
theorem rk58 {c : Int32} (h : ¬ rkM c < 0) : ¬ c = 58 ∧ ¬ c = 63 := ⟨fun z => h (by rw [z]; decide), fun z => h (by rw [z]; decide)⟩
theorem YI.beg {t : Nat → Int32} {n k i : Nat} {c : Int32} {sg cd : yG} {r : yG × yG} (h : YI k sg cd) (hr : yBeg t n c i sg cd = some r) : YI (k + 1) r.1 r.2 := by
  unfold yBeg at hr
  split at hr
  · cases hr; exact (YI.make h).settle (by decide)
  · split at hr
    · cases hr; exact (YI.make h).settle (by decide)
    · split at hr
      · rename_i hc
        split at hr
        · cases hr
        · cases hr
          refine YI.put h ?_
          split
          · exact ⟨by decide, by decide⟩
          · rcases hc with z | z | z
            · rw [z]; exact ⟨by decide, by decide⟩
            · rw [z]; exact ⟨by decide, by decide⟩
            · rw [z]; exact ⟨by decide, by decide⟩
      · cases hr
theorem YI.go {k : Nat} {c : Int32} {sg cd : yG} {r : yG × yG} (h : YI k sg cd) (hr : yGo c sg cd = some r) : YI (k + 1) r.1 r.2 := by
  unfold yGo at hr
  split at hr
  · cases hr
  · split at hr
    · cases hr
    · split at hr
      · cases hr
      · split at hr
        · cases hr
        · split at hr
          · cases hr
          · split at hr
            · split at hr
              · cases hr
                have h1 := h.settle (l := 0) (by decide)
                refine ⟨by show (_ :: _).length ≤ _; rw [List.length_cons]; have := h1.1; omega, ?_, fun q hq hq2 => ?_⟩
                · show ((yS 0 sg cd).2 ++ [(10, 0)]).length + yO (_ :: _) ≤ _
                  rw [yO_cons, if_pos (by decide), List.length_append, List.length_singleton]
                  have := h1.2.1
                  omega
                · show ∃ j, j < ((yS 0 sg cd).2 ++ [(10, 0)]).length ∧ q.2 = nI j
                  rw [List.length_append, List.length_singleton]
                  rcases List.mem_cons.mp hq with rfl | hq
                  · exact ⟨_, Nat.lt_succ_self _, rfl⟩
                  · obtain ⟨j, a, b⟩ := h1.2.2 q hq hq2
                    exact ⟨j, by omega, b⟩
              · by_cases haw : yAw sg = (if c = 58 then 63 else 40)
                · rw [if_pos haw] at hr
                  have h1 := h.close
                  rcases e : (yCl sg cd).1 with _ | ⟨⟨x, m⟩, sg1⟩
                  · rw [e] at hr; cases hr
                  · rw [e] at hr h1
                    have hs1 : YI k sg1 (yCl sg cd).2 := by
                      refine ⟨by have := h1.1; rw [List.length_cons] at this; omega, ?_, h1.2.2.tail⟩
                      have := h1.2.1
                      rw [yO_cons] at this
                      omega
                    dsimp only at hr
                    by_cases h58 : c = 58
                    · rw [if_pos h58] at hr
                      cases hr
                      have h2 := YI.make (x := ((9 : Int32), (0 : Int32))) hs1
                      have hx := h1.1
                      rw [List.length_cons] at hx
                      refine ⟨by show (_ :: _).length ≤ _; rw [List.length_cons]; omega, ?_, fun q hq hq2 => ?_⟩
                      · show (jmpM _ _).length + yO (_ :: _) ≤ _
                        rw [yO_cons, if_pos (by decide), jmpM_len]
                        have := h2.2.1
                        omega
                      · show ∃ j, j < (jmpM _ _).length ∧ q.2 = nI j
                        rw [jmpM_len]
                        rcases List.mem_cons.mp hq with rfl | hq
                        · exact ⟨_, by rw [List.length_append, List.length_singleton]; exact Nat.lt_succ_self _, rfl⟩
                        · exact h2.2.2 q hq hq2
                    · rw [if_neg h58] at hr
                      cases hr
                      have h2 := hs1.settle (l := 3) (by decide)
                      exact ⟨by have := h2.1; omega, by have := h2.2.1; omega, h2.2.2⟩
                · rw [if_neg haw] at hr
                  cases hr
            · rename_i hc
              cases hr
              refine YI.put (h.settle ?_) (rk58 hc)
              split
              · decide
              · exact hc

