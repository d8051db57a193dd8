/-! the steps are monotone -/
theorem ax_and {a b b' : Prop} (h : b → b') : a ∧ b → a ∧ b' := fun q => ⟨q.1, h q.2⟩
theorem ax_i.mm {st : List Value} {K K' : Int32 → List Value → Prop} (h : ∀ x r, K x r → K' x r) : ax_i st K → ax_i st K' := by
  unfold ax_i
  rcases st with _ | ⟨v, r⟩
  · exact id
  · cases v <;> first | exact h _ _ | exact id
theorem ax_l.mm {st : List Value} {K K' : Int64 → List Value → Prop} (h : ∀ x r, K x r → K' x r) : ax_l st K → ax_l st K' := by
  unfold ax_l
  rcases st with _ | ⟨v, r⟩
  · exact id
  · cases v <;> first | exact h _ _ | exact id
theorem ax_r.mm {st : List Value} {K K' : Nat → List Value → Prop} (h : ∀ x r, K x r → K' x r) : ax_r st K → ax_r st K' := by
  unfold ax_r
  rcases st with _ | ⟨v, r⟩
  · exact id
  · cases v <;> first | exact h _ _ | exact id
theorem ax_1.mm {st : List Value} {K K' : Value → List Value → Prop} (h : ∀ x r, K x r → K' x r) : ax_1 st K → ax_1 st K' := by
  unfold ax_1
  rcases st with _ | ⟨v, r⟩
  · exact id
  · exact ax_and (h _ _)
theorem ax_1'.mm {st : List Value} {K K' : Value → List Value → Prop} (h : ∀ x r, K x r → K' x r) : ax_1' st K → ax_1' st K' := by
  unfold ax_1'
  rcases st with _ | ⟨v, r⟩
  · exact id
  · exact h _ _
theorem ax_ld.mm {ls : List (Option Value)} {i : Nat} {K K' : Value → Prop} (h : ∀ x, K x → K' x) : ax_ld ls i K → ax_ld ls i K' := by
  unfold ax_ld
  rcases ls[i]? with _ | ⟨_ | v⟩
  · exact id
  · exact id
  · exact h _
theorem ax_vi.mm {v : Value} {K K' : Int32 → Prop} (h : ∀ x, K x → K' x) : ax_vi v K → ax_vi v K' := by
  unfold ax_vi
  cases v <;> first | exact h _ | exact id
theorem ax_vl.mm {v : Value} {K K' : Int64 → Prop} (h : ∀ x, K x → K' x) : ax_vl v K → ax_vl v K' := by
  unfold ax_vl
  cases v <;> first | exact h _ | exact id
theorem ax_t.mm {pc : Nat} {off : Int} {K K' : Nat → Prop} (h : ∀ x, K x → K' x) : ax_t pc off K → ax_t pc off K' := ax_and (h _)
theorem ax_br.mm {c A B A' B' : Prop} (h : A → A') (h' : B → B') : ax_br c A B → ax_br c A' B' := fun q => ⟨fun z => h (q.1 z), fun z => h' (q.2 z)⟩
theorem ax_op.mm {α : Type} {o : Option α} {K K' : α → Prop} (h : ∀ x, K x → K' x) : ax_op o K → ax_op o K' := by
  unfold ax_op
  cases o with
  | none => exact id
  | some a => exact h a
theorem ax_sl.mm {α β : Type} {q : α ⊕ β} {K K' : α → Prop} (h : ∀ x, K x → K' x) : ax_sl q K → ax_sl q K' := by
  unfold ax_sl
  cases q with
  | inl a => exact h a
  | inr a => exact id
theorem ax_sr.mm {α β : Type} {q : α ⊕ β} {K K' : β → Prop} (h : ∀ x, K x → K' x) : ax_sr q K → ax_sr q K' := by
  unfold ax_sr
  cases q with
  | inl a => exact id
  | inr a => exact h a
theorem ax_sm.mm {α β : Type} {q : α ⊕ β} {K K' : α → Prop} {J J' : β → Prop} (h : ∀ x, K x → K' x) (h' : ∀ x, J x → J' x) : ax_sm q K J → ax_sm q K' J' := by
  unfold ax_sm
  cases q with
  | inl a => exact h a
  | inr a => exact h' a
theorem ax_sc.mm {st : List Value} {K K' : List Value → Prop} {J J' : Nat → List Value → Prop} (h : ∀ r, K r → K' r) (h' : ∀ x r, J x r → J' x r) : ax_sc st K J → ax_sc st K' J' := by
  unfold ax_sc
  rcases st with _ | ⟨v, r⟩
  · exact id
  · rcases v with _ | _ | _ | _ | _ | a | _ | z
    all_goals first | exact id | exact h' _ _ | exact h _ | skip
theorem ax_nu.mm {st : List Value} {K K' J J' : List Value → Prop} (h : ∀ r, K r → K' r) (h' : ∀ r, J r → J' r) : ax_nu st K J → ax_nu st K' J' := by
  unfold ax_nu
  rcases st with _ | ⟨v, r⟩
  · exact id
  · cases v <;> first | exact id | exact h _ | exact h' _
theorem ax_gf.mm {h : ax_H} {a ci kf : Nat} {K K' : Value → Prop} (hk : ∀ v, K v → K' v) : ax_gf h a ci kf K → ax_gf h a ci kf K' := by
  unfold ax_gf
  rcases h.2 a with _ | ⟨_ | ⟨c', fs⟩⟩
  · exact id
  · exact id
  · refine ax_and ?_
    cases fs[kf]? with
    | none => exact id
    | some v => exact hk v
theorem ax_pf.mm {h : ax_H} {a ci kf : Nat} {v : Value} {K K' : ax_H → Prop} (hk : ∀ v, K v → K' v) : ax_pf h a ci kf v K → ax_pf h a ci kf v K' := by
  unfold ax_pf
  rcases h.2 a with _ | ⟨_ | ⟨c', fs⟩⟩
  · exact id
  · exact id
  · exact ax_and (ax_and (hk _))
theorem ax_ga.mm {h : ax_H} {a : Nat} {ty : FieldType} {i : Int32} {K K' : Int32 → Prop} (hk : ∀ v, K v → K' v) : ax_ga h a ty i K → ax_ga h a ty i K' := by
  unfold ax_ga
  rcases h.2 a with _ | ⟨⟨t, n, (f | f)⟩ | _⟩
  · exact id
  · exact ax_and (ax_and (hk _))
  · exact id
  · exact id
theorem ax_gl.mm {h : ax_H} {a : Nat} {i : Int32} {K K' : Int64 → Prop} (hk : ∀ v, K v → K' v) : ax_gl h a i K → ax_gl h a i K' := by
  unfold ax_gl
  rcases h.2 a with _ | ⟨⟨t, n, (f | (f | f))⟩ | _⟩
  · exact id
  · exact id
  · exact ax_and (ax_and (hk _))
  · exact id
  · exact id
theorem ax_gq.mm {h : ax_H} {a : Nat} {i : Int32} {K K' : Option Nat → Prop} (hk : ∀ v, K v → K' v) : ax_gq h a i K → ax_gq h a i K' := by
  unfold ax_gq
  rcases h.2 a with _ | ⟨⟨t, n, (f | (f | (f | (f | f))))⟩ | _⟩
  · exact id
  · exact id
  · exact id
  · exact id
  · exact id
  · exact ax_and (ax_and (hk _))
  · exact id
theorem ax_pa.mm {h : ax_H} {a : Nat} {ty : FieldType} {i x : Int32} {K K' : ax_H → Prop} (hk : ∀ v, K v → K' v) : ax_pa h a ty i x K → ax_pa h a ty i x K' := by
  unfold ax_pa
  rcases h.2 a with _ | ⟨⟨t, n, (f | f)⟩ | _⟩
  · exact id
  · exact ax_and (ax_and (hk _))
  · exact id
  · exact id
theorem ax_pl.mm {h : ax_H} {a : Nat} {i : Int32} {x : Int64} {K K' : ax_H → Prop} (hk : ∀ v, K v → K' v) : ax_pl h a i x K → ax_pl h a i x K' := by
  unfold ax_pl
  rcases h.2 a with _ | ⟨⟨t, n, (f | (f | f))⟩ | _⟩
  · exact id
  · exact id
  · exact ax_and (ax_and (hk _))
  · exact id
  · exact id
theorem ax_pq.mm {cl : List vw_C} {h : ax_H} {a v : Nat} {i : Int32} {K K' : ax_H → Prop} (hk : ∀ v, K v → K' v) : ax_pq cl h a i v K → ax_pq cl h a i v K' := by
  unfold ax_pq
  rcases h.2 a with _ | ⟨⟨t, n, (f | (f | (f | (f | f))))⟩ | _⟩ <;> rcases h.2 v with _ | ⟨_ | ⟨c', fs⟩⟩
  all_goals first | exact id | exact ax_and (ax_and (hk _))
theorem ax_al.mm {h : ax_H} {a : Nat} {K K' : Nat → Prop} (hk : ∀ v, K v → K' v) : ax_al h a K → ax_al h a K' := by
  unfold ax_al
  rcases h.2 a with _ | ⟨⟨t, n, f⟩ | _⟩
  · exact id
  · exact hk _
  · exact id
theorem ax_tk.mm {np : Nat} {st : List Value} {K K' : List Value → List Value → Prop} (hk : ∀ a r, K a r → K' a r) : ax_tk np st K → ax_tk np st K' := ax_and (hk _ _)
theorem ax_cp.mm {h : ax_H} {st : List Value} {K K' : List Value → ax_H → Prop} (hk : ∀ a r, K a r → K' a r) : ax_cp h st K → ax_cp h st K' := by
  intro q
  unfold ax_cp at q ⊢
  split at q
  · split at q
    · rename_i e1 e2
      (try simp only [e1, e2])
      obtain ⟨q1, q2, q3, q4, q5, q6, q7, q8, q9, q10⟩ := q
      exact ⟨q1, q2, q3, q4, q5, q6, q7, q8, q9, hk _ _ q10⟩
    · exact q.elim
  · exact q.elim
theorem ax_prim.mm {d : Nat} {h : ax_H} {y : Nat} {st : List Value} {K K' : List Value → ax_H → Prop} (hk : ∀ a r, K a r → K' a r) : ax_prim d h y st K → ax_prim d h y st K' := by
  intro q
  unfold ax_prim at q ⊢
  split at q
  · exact ax_r.mm (fun _ _ => ax_and (hk _ _)) q
  · exact ax_i.mm (fun _ _ => ax_i.mm fun _ _ => ax_and (hk _ _)) q
  · exact ax_i.mm (fun _ _ => ax_i.mm fun _ _ => ax_and (hk _ _)) q
  · refine ax_i.mm (fun _ r => ?_) q
    intro z
    split at z
    · exact ⟨z.1, z.2.1, hk _ _ z.2.2⟩
    · exact z.elim
  · exact ax_cp.mm hk q
  · exact q.elim
section AXM
variable {cl : List vw_C} {L : Nat} {xs : Nat → Int32} {tb : ax_Tb} {d : Nat}
theorem ax_ins.mm {co : Nat} {ini : Bool} {rt : Option FieldType} {mc ms : Nat} {M : ax_MT} {Q Q' : ax_Q} {P PC P' PC' : ax_P} {pc : Nat} {ls : List (Option Value)} {st : List Value} {k n : Nat} {h : ax_H} (i : Instr)
    (hM : ∀ y a h (Q Q' : ax_Q), (∀ v h, Q v h → Q' v h) → M y a h Q → M y a h Q') (hQ : ∀ v h, Q v h → Q' v h) (hP : ∀ pc ls st k n h, P pc ls st k n h → P' pc ls st k n h) (hC : ∀ pc ls st k n h, PC pc ls st k n h → PC' pc ls st k n h) :
    ax_ins cl L xs tb d co ini rt mc ms M Q P PC pc ls st k n h i → ax_ins cl L xs tb d co ini rt mc ms M Q' P' PC' pc ls st k n h i := by
  cases i
  all_goals first
    | exact id
    | (dsimp only [ax_ins]
       repeat' (first
         | exact hP _ _ _ _ _ _
         | exact hC _ _ _ _ _ _
         | exact hQ _ _
         | refine hM _ _ _ _ _ fun _ _ => ?_
         | refine ax_i.mm fun _ _ => ?_
         | refine ax_l.mm fun _ _ => ?_
         | refine ax_r.mm fun _ _ => ?_
         | refine ax_1.mm fun _ _ => ?_
         | refine ax_1'.mm fun _ _ => ?_
         | refine ax_ld.mm fun _ => ?_
         | refine ax_vi.mm fun _ => ?_
         | refine ax_vl.mm fun _ => ?_
         | refine ax_t.mm fun _ => ?_
         | refine ax_br.mm ?_ ?_
         | refine ax_op.mm fun _ => ?_
         | refine ax_sl.mm fun _ => ?_
         | refine ax_sr.mm fun _ => ?_
         | refine ax_sm.mm (fun _ => ?_) fun _ => ?_
         | refine ax_sc.mm (fun _ => ?_) fun _ _ => ?_
         | refine ax_nu.mm (fun _ => ?_) fun _ => ?_
         | refine ax_gf.mm fun _ => ?_
         | refine ax_pf.mm fun _ => ?_
         | refine ax_ga.mm fun _ => ?_
         | refine ax_gl.mm fun _ => ?_
         | refine ax_gq.mm fun _ => ?_
         | refine ax_pa.mm fun _ => ?_
         | refine ax_pl.mm fun _ => ?_
         | refine ax_pq.mm fun _ => ?_
         | refine ax_al.mm fun _ => ?_
         | refine ax_tk.mm fun _ _ => ?_
         | refine ax_prim.mm fun _ _ => ?_
         | refine ax_and ?_))
theorem ax_step.mm {I : ax_MI} {M : ax_MT} {Q Q' : ax_Q} {P PC P' PC' : ax_P} {pc : Nat} {ls : List (Option Value)} {st : List Value} {k n : Nat} {h : ax_H}
    (hM : ∀ y a h (Q Q' : ax_Q), (∀ v h, Q v h → Q' v h) → M y a h Q → M y a h Q') (hQ : ∀ v h, Q v h → Q' v h) (hP : ∀ pc ls st k n h, P pc ls st k n h → P' pc ls st k n h) (hC : ∀ pc ls st k n h, PC pc ls st k n h → PC' pc ls st k n h) :
    ax_step cl L xs tb d I M Q P PC pc ls st k n h → ax_step cl L xs tb d I M Q' P' PC' pc ls st k n h := by
  unfold ax_step
  cases decode I.1 pc with
  | error e => exact id
  | ok q => exact ax_and (ax_ins.mm q.1 hM hQ hP hC)
theorem ax_W.mono {I : ax_MI} {M : ax_MT} {Q Q' : ax_Q} {pc : Nat} {ls : List (Option Value)} {st : List Value} {k n : Nat} {h : ax_H}
    (hM : ∀ y a h (Q Q' : ax_Q), (∀ v h, Q v h → Q' v h) → M y a h Q → M y a h Q') (hQ : ∀ v h, Q v h → Q' v h) (hw : ax_W cl L xs tb d I M Q pc ls st k n h) : ax_W cl L xs tb d I M Q' pc ls st k n h := by
  intro P hP
  exact hw P fun pc ls st k n h q => hP _ _ _ _ _ _ (ax_step.mm hM hQ (fun _ _ _ _ _ _ z => z) (fun _ _ _ _ _ _ z => z) q)
theorem ax_M.mono {mt : Nat → Option ax_MI} : ∀ (d y : Nat) (a : List Value) (h : ax_H) (Q Q' : ax_Q), (∀ v h, Q v h → Q' v h) → ax_M cl L xs tb mt d y a h Q → ax_M cl L xs tb mt d y a h Q' := by
  intro d
  induction d with
  | zero => intro y a h Q Q' _ q; exact q
  | succ d ih =>
    intro y a h Q Q' hQ q
    exact ax_op.mm (fun I => ax_and (ax_W.mono ih hQ)) q
theorem ax_W.st {mt : Nat → Option ax_MI} {d' : Nat} {I : ax_MI} {Q : ax_Q} {pc : Nat} {ls : List (Option Value)} {st : List Value} {k n : Nat} {h : ax_H}
    (hs : ax_step cl L xs tb d I (ax_M cl L xs tb mt d') Q (ax_W cl L xs tb d I (ax_M cl L xs tb mt d') Q) (ax_W cl L xs tb d I (ax_M cl L xs tb mt d') Q) pc ls st k n h) : ax_W cl L xs tb d I (ax_M cl L xs tb mt d') Q pc ls st k n h := by
  intro P hP
  exact hP _ _ _ _ _ _ (ax_step.mm (ax_M.mono d') (fun _ _ z => z) (fun _ _ _ _ _ _ z => z P hP) (fun _ _ _ _ _ _ z => z P hP) hs)
theorem ax_W.go {mt : Nat → Option ax_MI} {d' : Nat} {I : ax_MI} {Q : ax_Q} (S : List Nat) : ∀ (j : Nat) {pc : Nat} {ls : List (Option Value)} {st : List Value} {k n : Nat} {h : ax_H},
    ax_go cl L xs tb d I (ax_M cl L xs tb mt d') Q S (ax_W cl L xs tb d I (ax_M cl L xs tb mt d') Q) j pc ls st k n h → ax_W cl L xs tb d I (ax_M cl L xs tb mt d') Q pc ls st k n h := by
  intro j
  induction j with
  | zero => intro pc ls st k n h q; exact q
  | succ j ih =>
    intro pc ls st k n h q
    unfold ax_go at q
    split at q
    · exact q
    · exact ax_W.st (ax_step.mm (ax_M.mono d') (fun _ _ z => z) (fun _ _ _ _ _ _ z => ih z) (fun _ _ _ _ _ _ z => z) q)
/-- the first step is made in any case -/
theorem ax_W.run {mt : Nat → Option ax_MI} {d' : Nat} {I : ax_MI} {Q : ax_Q} (S : List Nat) (j : Nat) {pc : Nat} {ls : List (Option Value)} {st : List Value} {k n : Nat} {h : ax_H}
    (q : ax_step cl L xs tb d I (ax_M cl L xs tb mt d') Q (ax_go cl L xs tb d I (ax_M cl L xs tb mt d') Q S (ax_W cl L xs tb d I (ax_M cl L xs tb mt d') Q) j) (ax_W cl L xs tb d I (ax_M cl L xs tb mt d') Q) pc ls st k n h) : ax_W cl L xs tb d I (ax_M cl L xs tb mt d') Q pc ls st k n h :=
  ax_W.st (ax_step.mm (ax_M.mono d') (fun _ _ z => z) (fun _ _ _ _ _ _ z => ax_W.go S j z) (fun _ _ _ _ _ _ z => z) q)
end AXM
