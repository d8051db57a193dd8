/-! what holds of the state throughout, and the start -/
def ns_G (A : Nat → Prop) (rc adV : Nat → Nat) (L : Nat) (xs : Nat → Int32) : State → Prop := fun s => va_X (rc 0) L xs s s.heap ∧ rc 0 < s.heap.size ∧ ¬ A (rc 0) ∧ va_AO "NoteSheet$Cell" s ∧ vk_R "NoteSheet$Formula" 26 "?:<=+-*()@" (rc 1) s ∧ vk_S 1 [10] [[63, 58, 60, 61, 43, 45, 42, 40, 41, 64]] (fun _ => rc 1) adV A s s.heap ∧ va_Z "java/lang/String" "COMPACT_STRINGS" "Z" (.int 1) A s s.heap
theorem ns_okG {A : Nat → Prop} {rc adV : Nat → Nat} {L : Nat} {xs : Nat → Int32} : ax_okG A (ns_G A rc adV L xs) rc L xs := by
  refine ⟨fun s U h hW hsz hk => ?_, fun U V h hv hh => ?_, fun s h => ⟨h.1, h.2.1, h.2.2.1⟩⟩
  · obtain ⟨h1, h2, h3, h4, h5, h6, h7⟩ := h
    have hal := hW.alike
    exact ⟨(h1.moved hal).kept (hk _ h2 h3), Nat.lt_of_lt_of_le h2 hsz, h3, h4.moved hal, h5.warm hW, (h6.moved hal).kept hk, (h7.moved hal).kept hk⟩
  · obtain ⟨h1, h2, h3, h4, h5, h6, h7⟩ := h
    have hal : U.vm.Alike V.vm := by rw [hv]; exact (State.WarmedH.refl U).alike
    exact ⟨(h1.moved hal).kept (by rw [hh]), by rw [hh]; exact h2, h3, h4.moved hal, h5.same hv, (h6.moved hal).kept (fun a _ _ => by rw [hh]), (h7.moved hal).kept (fun a _ _ => by rw [hh])⟩
theorem ns_K {s : State} {args : Array Value} (hts : ∀ w ∈ ns_Tb, w.before args s = true) (hao : va_AO "NoteSheet$Cell" s) : ∃ (D : va_G) (cT : FieldType → ClassId) (tys : List (ClassId × FieldType)), va_K D ns_cl tys s ∧ ax_okA ns_Tb cT tys := by
  obtain ⟨c0, i0, u0⟩ := u_known hts ns_w0 (hts _ nw_15)
  obtain ⟨c1, i1, u1⟩ := u_known hts ns_w1 (hts _ nw_30)
  obtain ⟨c2, i2, u2⟩ := u_known hts ns_w2 (hts _ nw_36)
  obtain ⟨c3, i3, u3⟩ := u_known hts ns_w3 (hts _ nw_62)
  obtain ⟨c4, i4, u4⟩ := u_known hts ns_w4 (hts _ nw_145)
  obtain ⟨c5, i5, u5⟩ := u_known hts ns_w5 (hts _ nw_500)
  obtain ⟨aI, kI, pI, fI1, fI2, fI3⟩ := Cond.arrayClass_spec (hts _ nw_60)
  obtain ⟨aC, kC, pC, fC1, fC2, fC3⟩ := Cond.arrayClass_spec (hts _ nw_59)
  obtain ⟨aB, kB, pB, fB1, fB2, fB3⟩ := Cond.arrayClass_spec (hts _ nw_635)
  obtain ⟨aL, kL, pL, fL1, fL2, fL3⟩ := Cond.arrayClass_spec (hts _ nw_636)
  obtain ⟨pO, aO, kO, fO1, fO2, fO3, fO4, fO5⟩ := Cond.arrayOver_spec hao
  refine ⟨(fun c => [c0, c1, c2, c3, c4, c5].getD c c0, fun c => [i0, i1, i2, i3, i4, i5].getD c i0), fun ty => match ty with
    | .int => aI
    | .char => aC
    | .boolean => aB
    | .long => aL
    | _ => aO, [(aI, .int), (aC, .char), (aB, .boolean), (aL, .long), (aO, .object "NoteSheet$Cell")], ⟨?_, ?_⟩, ?_, ?_⟩
  · intro c q hq
    match c, hq with
    | 0, hq => cases hq; exact u0
    | 1, hq => cases hq; exact u1
    | 2, hq => cases hq; exact u2
    | 3, hq => cases hq; exact u3
    | 4, hq => cases hq; exact u4
    | 5, hq => cases hq; exact u5
    | n + 6, hq => cases hq
  · intro k q hq
    match k, hq with
    | 0, hq => cases hq; exact ⟨fun N z => ⟨(fun k h => by cases h), kI, fI2, pI, fI3⟩, fI1⟩
    | 1, hq => cases hq; exact ⟨fun N z => ⟨(fun k h => by cases h), kC, fC2, pC, fC3⟩, fC1⟩
    | 2, hq => cases hq; exact ⟨fun N z => ⟨(fun k h => by cases h), kB, fB2, pB, fB3⟩, fB1⟩
    | 3, hq => cases hq; exact ⟨fun N z => ⟨(fun k h => by cases h), kL, fL2, pL, fL3⟩, fL1⟩
    | 4, hq => cases hq; exact ⟨fun N z => ⟨(fun k h => by cases h), kO, fO3, pO, fO4⟩, kO, pO, fO3, fO4, fO1, fO5⟩
    | n + 5, hq => cases hq
  · intro ty hty
    cases ty with
    | int => exact ⟨0, rfl⟩
    | char => exact ⟨1, rfl⟩
    | boolean => exact ⟨2, rfl⟩
    | long => exact ⟨3, rfl⟩
    | object C =>
      have : C = "NoteSheet$Cell" := by simpa [ax_kt] using hty
      subst this
      exact ⟨4, rfl⟩
    | _ => simp [ax_kt] at hty
  · intro ty hty
    rcases hty with rfl | rfl | rfl | rfl
    · exact nw_60
    · exact nw_59
    · exact nw_635
    · exact nw_636
