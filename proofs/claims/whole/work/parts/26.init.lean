/-! constructors: cells that are still being made lie over the picture -/
def oset (o : Nat → Option ax_E) (a : Nat) (e : ax_E) : Nat → Option ax_E := fun i => if i = a then some e else o i
def onone : Nat → Option ax_E := fun _ => none
def hP (N : Nat) (μ : nMem) (o : Nat → Option ax_E) : ax_H := (N, fun i => match o i with
  | some e => some e
  | none => (ns_rp N μ).2 i)
theorem oset_eq {o : Nat → Option ax_E} {a : Nat} {e : ax_E} : oset o a e a = some e := if_pos rfl
theorem oset_ne {o : Nat → Option ax_E} {a b : Nat} {e : ax_E} (h : ¬ b = a) : oset o a e b = o b := if_neg h
theorem oset_same {o : Nat → Option ax_E} {a : Nat} {e e' : ax_E} : oset (oset o a e) a e' = oset o a e' := by
  funext i
  unfold oset
  by_cases h : i = a
  · simp [h]
  · simp [h]
theorem oset_comm {o : Nat → Option ax_E} {a b : Nat} {e e' : ax_E} (h : ¬ a = b) : oset (oset o a e) b e' = oset (oset o b e') a e := by
  funext i
  unfold oset
  by_cases h1 : i = a
  · subst h1; simp [h]
  · simp [h1]
theorem hP_get {N : Nat} {μ : nMem} {o : Nat → Option ax_E} {a : Nat} {e : ax_E} (h : o a = some e) : (hP N μ o).2 a = some e := by
  show (match o a with | some e => some e | none => (ns_rp N μ).2 a) = _
  rw [h]
theorem hP_base {N : Nat} {μ : nMem} {o : Nat → Option ax_E} {a : Nat} {e : ax_E} (h : o a = none) (hN : a < N) (he : ns_en a (μ.1 a) (μ.2 a) = some e) : (hP N μ o).2 a = some e := by
  show (match o a with | some e => some e | none => (ns_rp N μ).2 a) = _
  rw [h]
  exact ns_rp_at hN he
theorem hP_up {N : Nat} {μ : nMem} {o : Nat → Option ax_E} {a : Nat} {e : ax_E} : ax_up (hP N μ o) a e = hP N μ (oset o a e) := by
  refine Prod.ext rfl (funext fun i => ?_)
  show (if i = a then some e else (match o i with | some e => some e | none => (ns_rp N μ).2 i)) = (match oset o a e i with | some e => some e | none => (ns_rp N μ).2 i)
  by_cases h : i = a
  · rw [if_pos h, h, oset_eq]
  · rw [if_neg h, oset_ne h]
theorem hP_nwO {N : Nat} {μ : nMem} {o : Nat → Option ax_E} {e : ax_E} : ax_nw (hP N μ o) e = hP (N + 1) μ (oset o N e) := by
  refine Prod.ext rfl (funext fun i => ?_)
  show (if i = N then some e else (match o i with | some e => some e | none => if i < N then ns_en i (μ.1 i) (μ.2 i) else none)) = (match oset o N e i with | some e => some e | none => if i < N + 1 then ns_en i (μ.1 i) (μ.2 i) else none)
  by_cases h : i = N
  · rw [if_pos h, h, oset_eq]
  · have : (i < N) = (i < N + 1) := propext ⟨fun z => by omega, fun z => by omega⟩
    rw [if_neg h, oset_ne h]
    simp only [this]
theorem hP_drop {N : Nat} {μ : nMem} {o : Nat → Option ax_E} {a : Nat} {e : ax_E} (ho : o a = none) (hN : a < N) (he : ns_en a (μ.1 a) (μ.2 a) = some e) : hP N μ (oset o a e) = hP N μ o := by
  refine Prod.ext rfl (funext fun i => ?_)
  show (match oset o a e i with | some e => some e | none => (ns_rp N μ).2 i) = (match o i with | some e => some e | none => (ns_rp N μ).2 i)
  by_cases h : i = a
  · subst h
    rw [oset_eq, ho]
    exact (ns_rp_at hN he).symm
  · rw [oset_ne h]
theorem hP_nw {N : Nat} {μ : nMem} {o : Nat → Option ax_E} {e : ax_E} (ho : o N = none) (he : ns_en N (μ.1 N) (μ.2 N) = some e) : ax_nw (hP N μ o) e = hP (N + 1) μ o := by
  rw [hP_nwO, hP_drop ho (Nat.lt_succ_self _) he]
theorem hP_end {N : Nat} {μ : nMem} : hP N μ onone = ns_rp N μ := rfl
theorem hP_start (μ : nMem) : ((0, fun _ => none) : ax_H) = hP 0 μ onone := Prod.ext rfl (funext fun i => (show none = (if i < 0 then ns_en i (μ.1 i) (μ.2 i) else none) from (if_neg (Nat.not_lt_zero i)).symm))
section HW
variable {L : Nat} {xs : Nat → Int32} {d : Nat} {Q : ax_Q} {pc pc' : Nat} {ls : List (Option Value)} {st : List Value} {k n : Nat} {μ : nMem} {o o' : Nat → Option ax_E}
theorem hw_newa {I : ax_MI} {ty : ArrayType} {t : FieldType} {x : Int32} {N M : Nat} {a : vp_A} (hd : decode I.1 pc = .ok (.newarray ty, 2)) (hpc : pc + 2 = pc') (hx : x = nI M) (hN : M ≤ 1000) (hk : k + 1 ≤ I.2.2.2.2.2.1) (hn : n + M ≤ I.2.2.2.2.2.2) (ht : newarray.typeOf ty = t) (ha : ax_zero t M = some a) (ho : o N = none) (he : ns_en N (μ.1 N) (μ.2 N) = some (.inl (t, a))) (kk : nW L xs d I Q pc' ls (.ref N :: st) (k + 1) (n + M) (hP (N + 1) μ o)) : nW L xs d I Q pc ls (.int x :: st) k n (hP N μ o) := by
  refine aw_newa hd hpc hx hN hk hn ht ha ?_
  rw [hP_nw ho he]
  exact kk
theorem hw_newq {I : ax_MI} {idx ci : Nat} {fs : List Value} {C : String} {x : Int32} {N M : Nat} (hd : decode I.1 pc = .ok (.anewarray idx, 3)) (hpc : pc + 3 = pc') (hx : x = nI M) (hN : M ≤ 1000) (hk : k + 1 ≤ I.2.2.2.2.2.1) (hn : n + M ≤ I.2.2.2.2.2.2) (hf : ns_tN I.2.1 idx = some (ci, fs, C)) (hC : ax_kt (.object C) = true) (kk : nW L xs d I Q pc' ls (.ref N :: st) (k + 1) (n + M) (hP (N + 1) μ (oset o N (.inl (.object C, M, .inr (.inr (.inr (.inr (fun _ => none))))))))) : nW L xs d I Q pc ls (.int x :: st) k n (hP N μ o) := by
  refine aw_newq hd hpc hx hN hk hn hf hC ?_
  rw [hP_nwO]
  exact kk
theorem hw_new {I : ax_MI} {idx ci N : Nat} {fs : List Value} {C : String} (hd : decode I.1 pc = .ok (.new idx, 3)) (hpc : pc + 3 = pc') (hf : ns_tN I.2.1 idx = some (ci, fs, C)) (hk : k + 1 ≤ I.2.2.2.2.2.1) (hn : n + fs.length ≤ I.2.2.2.2.2.2) (kk : nW L xs d I Q pc' ls (.ref N :: st) (k + 1) (n + fs.length) (hP (N + 1) μ (oset o N (.inr (ci, fs))))) : nW L xs d I Q pc ls st k n (hP N μ o) := by
  refine aw_new hd hpc hf hk hn ?_
  rw [hP_nwO]
  exact kk
theorem hw_pfv {N a ci kf : Nat} {fs fs' : List Value} {v : Value} (hg : o a = some (.inr (ci, fs))) (hl : kf < fs.length) (hs : fs.set kf v = fs') (ho : oset o a (.inr (ci, fs')) = o') : pfv (hP N μ o) a ci kf v (hP N μ o') := ⟨fs, hP_get hg, hl, by rw [hs, hP_up, ho]⟩
theorem hw_gfv {N a ci kf : Nat} {fs : List Value} {v : Value} (hg : o a = some (.inr (ci, fs))) (hv : fs[kf]? = some v) : gfv (hP N μ o) a ci kf v := ⟨fs, hP_get hg, hv⟩
end HW
theorem he_C : ∀ {k : Nat}, k < 12 → ∀ (f : Nat → Int32) (g : Nat → Int64), ns_en (2 + 8 * k) f g = some (.inr (1, [.ref (3 + 8 * k), .ref (6 + 8 * k), .ref (8 + 8 * k), .ref (9 + 8 * k), .int (f 4), .int (f 5), .int (f 6), .int (f 7), .int (f 8), .int (f 9), .int (f 10)]))
  | 0, _ => fun _ _ => rfl
  | 1, _ => fun _ _ => rfl
  | 2, _ => fun _ _ => rfl
  | 3, _ => fun _ _ => rfl
  | 4, _ => fun _ _ => rfl
  | 5, _ => fun _ _ => rfl
  | 6, _ => fun _ _ => rfl
  | 7, _ => fun _ _ => rfl
  | 8, _ => fun _ _ => rfl
  | 9, _ => fun _ _ => rfl
  | 10, _ => fun _ _ => rfl
  | 11, _ => fun _ _ => rfl
  | n + 12, h => fun _ _ => absurd h (by omega)
theorem he_F : ∀ {k : Nat}, k < 12 → ∀ (f : Nat → Int32) (g : Nat → Int64), ns_en (3 + 8 * k) f g = some (.inr (2, [.ref (4 + 8 * k), .ref (5 + 8 * k), .int (f 2), .int (f 3)]))
  | 0, _ => fun _ _ => rfl
  | 1, _ => fun _ _ => rfl
  | 2, _ => fun _ _ => rfl
  | 3, _ => fun _ _ => rfl
  | 4, _ => fun _ _ => rfl
  | 5, _ => fun _ _ => rfl
  | 6, _ => fun _ _ => rfl
  | 7, _ => fun _ _ => rfl
  | 8, _ => fun _ _ => rfl
  | 9, _ => fun _ _ => rfl
  | 10, _ => fun _ _ => rfl
  | 11, _ => fun _ _ => rfl
  | n + 12, h => fun _ _ => absurd h (by omega)
theorem he_T : ∀ {k : Nat}, k < 12 → ∀ (f : Nat → Int32) (g : Nat → Int64), ns_en (4 + 8 * k) f g = some (.inl (.char, 30, .inl f))
  | 0, _ => fun _ _ => rfl
  | 1, _ => fun _ _ => rfl
  | 2, _ => fun _ _ => rfl
  | 3, _ => fun _ _ => rfl
  | 4, _ => fun _ _ => rfl
  | 5, _ => fun _ _ => rfl
  | 6, _ => fun _ _ => rfl
  | 7, _ => fun _ _ => rfl
  | 8, _ => fun _ _ => rfl
  | 9, _ => fun _ _ => rfl
  | 10, _ => fun _ _ => rfl
  | 11, _ => fun _ _ => rfl
  | n + 12, h => fun _ _ => absurd h (by omega)
theorem he_S : ∀ {k : Nat}, k < 12 → ∀ (f : Nat → Int32) (g : Nat → Int64), ns_en (5 + 8 * k) f g = some (.inl (.int, 30, .inl f))
  | 0, _ => fun _ _ => rfl
  | 1, _ => fun _ _ => rfl
  | 2, _ => fun _ _ => rfl
  | 3, _ => fun _ _ => rfl
  | 4, _ => fun _ _ => rfl
  | 5, _ => fun _ _ => rfl
  | 6, _ => fun _ _ => rfl
  | 7, _ => fun _ _ => rfl
  | 8, _ => fun _ _ => rfl
  | 9, _ => fun _ _ => rfl
  | 10, _ => fun _ _ => rfl
  | 11, _ => fun _ _ => rfl
  | n + 12, h => fun _ _ => absurd h (by omega)
theorem he_O : ∀ {k : Nat}, k < 12 → ∀ (f : Nat → Int32) (g : Nat → Int64), ns_en (6 + 8 * k) f g = some (.inr (3, [.ref (7 + 8 * k), .int (f 1), .int (f 2), .int (f 3), .long (g 4), .int (f 5), .int (f 6), .int (f 7)]))
  | 0, _ => fun _ _ => rfl
  | 1, _ => fun _ _ => rfl
  | 2, _ => fun _ _ => rfl
  | 3, _ => fun _ _ => rfl
  | 4, _ => fun _ _ => rfl
  | 5, _ => fun _ _ => rfl
  | 6, _ => fun _ _ => rfl
  | 7, _ => fun _ _ => rfl
  | 8, _ => fun _ _ => rfl
  | 9, _ => fun _ _ => rfl
  | 10, _ => fun _ _ => rfl
  | 11, _ => fun _ _ => rfl
  | n + 12, h => fun _ _ => absurd h (by omega)
theorem he_R : ∀ {k : Nat}, k < 12 → ∀ (f : Nat → Int32) (g : Nat → Int64), ns_en (7 + 8 * k) f g = some (.inl (.int, 12, .inl f))
  | 0, _ => fun _ _ => rfl
  | 1, _ => fun _ _ => rfl
  | 2, _ => fun _ _ => rfl
  | 3, _ => fun _ _ => rfl
  | 4, _ => fun _ _ => rfl
  | 5, _ => fun _ _ => rfl
  | 6, _ => fun _ _ => rfl
  | 7, _ => fun _ _ => rfl
  | 8, _ => fun _ _ => rfl
  | 9, _ => fun _ _ => rfl
  | 10, _ => fun _ _ => rfl
  | 11, _ => fun _ _ => rfl
  | n + 12, h => fun _ _ => absurd h (by omega)
theorem he_Y : ∀ {k : Nat}, k < 12 → ∀ (f : Nat → Int32) (g : Nat → Int64), ns_en (8 + 8 * k) f g = some (.inl (.int, 3, .inl f))
  | 0, _ => fun _ _ => rfl
  | 1, _ => fun _ _ => rfl
  | 2, _ => fun _ _ => rfl
  | 3, _ => fun _ _ => rfl
  | 4, _ => fun _ _ => rfl
  | 5, _ => fun _ _ => rfl
  | 6, _ => fun _ _ => rfl
  | 7, _ => fun _ _ => rfl
  | 8, _ => fun _ _ => rfl
  | 9, _ => fun _ _ => rfl
  | 10, _ => fun _ _ => rfl
  | 11, _ => fun _ _ => rfl
  | n + 12, h => fun _ _ => absurd h (by omega)
theorem he_K : ∀ {k : Nat}, k < 12 → ∀ (f : Nat → Int32) (g : Nat → Int64), ns_en (9 + 8 * k) f g = some (.inl (.int, 30, .inl f))
  | 0, _ => fun _ _ => rfl
  | 1, _ => fun _ _ => rfl
  | 2, _ => fun _ _ => rfl
  | 3, _ => fun _ _ => rfl
  | 4, _ => fun _ _ => rfl
  | 5, _ => fun _ _ => rfl
  | 6, _ => fun _ _ => rfl
  | 7, _ => fun _ _ => rfl
  | 8, _ => fun _ _ => rfl
  | 9, _ => fun _ _ => rfl
  | 10, _ => fun _ _ => rfl
  | 11, _ => fun _ _ => rfl
  | n + 12, h => fun _ _ => absurd h (by omega)
theorem c_F_init {L : Nat} {xs : Nat → Int32} {d : Nat} {Q : ax_Q} {μ : nMem} {o : Nat → Option ax_E} {a N : Nat} (h1 : o N = none) (h2 : o (N + 1) = none) (h3 : ¬ N = a) (h4 : ¬ N + 1 = a) (e1 : ns_en N (μ.1 N) (μ.2 N) = some (.inl (.char, 30, .inl (fun _ => 0)))) (e2 : ns_en (N + 1) (μ.1 (N + 1)) (μ.2 (N + 1)) = some (.inl (.int, 30, .inl (fun _ => 0)))) (hq : Q none (hP (N + 2) μ (oset o a (.inr (2, [.ref N, .ref (N + 1), .int 0, .int 0]))))) : nM L xs (d + 1) 77 [.ref a] (hP N μ (oset o a (.inr (2, [.null, .null, .int 0, .int 0])))) Q := by
  refine nM.of ns_I_F_init rfl (ls := [_]) (Nat.le_of_ble_eq_true rfl) rfl ?_
  refine aw_aload_n (pc' := 1) nd_F_init_0 rfl rfl rfl ?_
  refine aw_objInit (x := 0) (y := 0) (pc' := 4) nd_F_init_1 rfl nC_2_3 (Nat.le_of_ble_eq_true rfl) ?_
  refine aw_aload_n (pc' := 5) nd_F_init_4 rfl rfl rfl ?_
  refine aw_bipush (pc' := 7) (x := 30) nd_F_init_5 rfl (by decide) ?_
  refine hw_newa (pc' := 9) (M := 30) nd_F_init_7 rfl rfl (by decide) (Nat.le_of_ble_eq_true rfl) (Nat.le_of_ble_eq_true rfl) rfl rfl ((oset_ne h3).trans h1) e1 ?_
  refine aw_putF (pc' := 12) nd_F_init_9 rfl nF_2_9 ⟨rfl, rfl⟩ trivial (hw_pfv oset_eq (Nat.le_of_ble_eq_true rfl) rfl oset_same) ?_
  refine aw_aload_n (pc' := 13) nd_F_init_12 rfl rfl rfl ?_
  refine aw_bipush (pc' := 15) (x := 30) nd_F_init_13 rfl (by decide) ?_
  refine hw_newa (pc' := 17) (M := 30) nd_F_init_15 rfl rfl (by decide) (Nat.le_of_ble_eq_true rfl) (Nat.le_of_ble_eq_true rfl) rfl rfl ((oset_ne h4).trans h2) e2 ?_
  refine aw_putF (pc' := 20) nd_F_init_17 rfl nF_2_15 ⟨rfl, rfl⟩ trivial (hw_pfv oset_eq (Nat.le_of_ble_eq_true rfl) rfl oset_same) ?_
  refine aw_return nd_F_init_20 rfl (Nat.le_of_ble_eq_true rfl) (Nat.le_of_ble_eq_true rfl) ?_
  exact hq

theorem c_O_init {L : Nat} {xs : Nat → Int32} {d : Nat} {Q : ax_Q} {μ : nMem} {o : Nat → Option ax_E} {a N : Nat} (h1 : o N = none) (h3 : ¬ N = a) (e1 : ns_en N (μ.1 N) (μ.2 N) = some (.inl (.int, 12, .inl (fun _ => 0)))) (hq : Q none (hP (N + 1) μ (oset o a (.inr (3, [.ref N, .int 0, .int 0, .int 0, .long 0, .int 0, .int 0, .int 0]))))) : nM L xs (d + 1) 88 [.ref a] (hP N μ (oset o a (.inr (3, [.null, .int 0, .int 0, .int 0, .long 0, .int 0, .int 0, .int 0])))) Q := by
  refine nM.of ns_I_O_init rfl (ls := [_]) (Nat.le_of_ble_eq_true rfl) rfl ?_
  refine aw_aload_n (pc' := 1) nd_O_init_0 rfl rfl rfl ?_
  refine aw_objInit (x := 0) (y := 0) (pc' := 4) nd_O_init_1 rfl nC_3_3 (Nat.le_of_ble_eq_true rfl) ?_
  refine aw_aload_n (pc' := 5) nd_O_init_4 rfl rfl rfl ?_
  refine aw_bipush (pc' := 7) (x := 12) nd_O_init_5 rfl (by decide) ?_
  refine hw_newa (pc' := 9) (M := 12) nd_O_init_7 rfl rfl (by decide) (Nat.le_of_ble_eq_true rfl) (Nat.le_of_ble_eq_true rfl) rfl rfl ((oset_ne h3).trans h1) e1 ?_
  refine aw_putF (pc' := 12) nd_O_init_9 rfl nF_3_9 ⟨rfl, rfl⟩ trivial (hw_pfv oset_eq (Nat.le_of_ble_eq_true rfl) rfl oset_same) ?_
  refine aw_return nd_O_init_12 rfl (Nat.le_of_ble_eq_true rfl) (Nat.le_of_ble_eq_true rfl) ?_
  exact hq

theorem c_P_init {L : Nat} {xs : Nat → Int32} {d : Nat} {Q : ax_Q} {μ : nMem} {o : Nat → Option ax_E} {a b N : Nat} (hq : Q none (hP N μ (oset o a (.inr (4, [.ref b, .int 0]))))) : nM L xs (d + 1) 93 [.ref a, .ref b] (hP N μ (oset o a (.inr (4, [.null, .int 0])))) Q := by
  refine nM.of ns_I_P_init rfl (ls := [_, _]) (Nat.le_of_ble_eq_true rfl) rfl ?_
  refine aw_aload_n (pc' := 1) nd_P_init_0 rfl rfl rfl ?_
  refine aw_objInit (x := 0) (y := 0) (pc' := 4) nd_P_init_1 rfl nC_4_3 (Nat.le_of_ble_eq_true rfl) ?_
  refine aw_aload_n (pc' := 5) nd_P_init_4 rfl rfl rfl ?_
  refine aw_aload_n (pc' := 6) nd_P_init_5 rfl rfl rfl ?_
  refine aw_putF (pc' := 9) nd_P_init_6 rfl nF_4_9 ⟨rfl, rfl⟩ trivial (hw_pfv oset_eq (Nat.le_of_ble_eq_true rfl) rfl oset_same) ?_
  refine aw_return nd_P_init_9 rfl (Nat.le_of_ble_eq_true rfl) (Nat.le_of_ble_eq_true rfl) ?_
  exact hq

theorem c_C_init {L : Nat} {xs : Nat → Int32} {d : Nat} {Q : ax_Q} {μ : nMem} {o : Nat → Option ax_E} {k : Nat} (hk : k < 12) (hz : ∀ b, 0 < b → b < 104 → μ.1 b = fun _ => 0) (hl : ∀ b, μ.2 b = fun _ => 0) (ho : ∀ i, 2 + 8 * k < i → o i = none) (hq : Q none (hP (10 + 8 * k) μ (oset o (2 + 8 * k) (.inr (1, [.ref (3 + 8 * k), .ref (6 + 8 * k), .ref (8 + 8 * k), .ref (9 + 8 * k), .int 0, .int 0, .int 0, .int 0, .int 0, .int 0, .int 0]))))) : nM L xs (d + 2) 73 [.ref (2 + 8 * k)] (hP (3 + 8 * k) μ (oset o (2 + 8 * k) (.inr (1, [.null, .null, .null, .null, .int 0, .int 0, .int 0, .int 0, .int 0, .int 0, .int 0])))) Q := by
  refine nM.of ns_I_C_init rfl (ls := [_]) (Nat.le_of_ble_eq_true rfl) rfl ?_
  refine aw_aload_n (pc' := 1) nd_C_init_0 rfl rfl rfl ?_
  refine aw_objInit (x := 0) (y := 0) (pc' := 4) nd_C_init_1 rfl nC_1_3 (Nat.le_of_ble_eq_true rfl) ?_
  refine aw_aload_n (pc' := 5) nd_C_init_4 rfl rfl rfl ?_
  refine hw_new (N := 3 + 8 * k) (pc' := 8) nd_C_init_5 rfl nN_1_9 (Nat.le_of_ble_eq_true rfl) (Nat.le_of_ble_eq_true rfl) ?_
  refine aw_dup (pc' := 9) nd_C_init_8 rfl rfl ?_
  refine aw_callI (pc' := 12) (as := []) (st := [_, _]) nd_C_init_9 rfl nC_1_11 ⟨(Nat.le_of_ble_eq_true rfl), rfl, rfl⟩ (Nat.le_of_ble_eq_true rfl) (Nat.le_of_ble_eq_true rfl) (Nat.le_of_ble_eq_true rfl) ?_
  rw [show 3 + 8 * k + 1 = 4 + 8 * k by omega]
  refine c_F_init (N := 4 + 8 * k) ((oset_ne (by omega)).trans (ho _ (by omega))) ((oset_ne (by omega)).trans (ho _ (by omega))) (by omega) (by omega) (by rw [hz _ (by omega) (by omega)]; exact he_T hk _ _) (by rw [show 4 + 8 * k + 1 = 5 + 8 * k by omega]; rw [hz _ (by omega) (by omega)]; exact he_S hk _ _) ?_
  rw [show 4 + 8 * k + 1 = 5 + 8 * k by omega, show 4 + 8 * k + 2 = 6 + 8 * k by omega, hP_drop (a := 3 + 8 * k) ((oset_ne (by omega)).trans (ho _ (by omega))) (by omega) (by rw [hz _ (by omega) (by omega)]; exact he_F hk _ _)]
  show nW _ _ _ _ _ 12 _ [_, _] _ _ _
  refine aw_putF (pc' := 15) nd_C_init_12 rfl nF_1_12 ⟨rfl, rfl⟩ trivial (hw_pfv oset_eq (Nat.le_of_ble_eq_true rfl) rfl oset_same) ?_
  refine aw_aload_n (pc' := 16) nd_C_init_15 rfl rfl rfl ?_
  refine hw_new (N := 6 + 8 * k) (pc' := 19) nd_C_init_16 rfl nN_1_18 (Nat.le_of_ble_eq_true rfl) (Nat.le_of_ble_eq_true rfl) ?_
  refine aw_dup (pc' := 20) nd_C_init_19 rfl rfl ?_
  refine aw_callI (pc' := 23) (as := []) (st := [_, _]) nd_C_init_20 rfl nC_1_20 ⟨(Nat.le_of_ble_eq_true rfl), rfl, rfl⟩ (Nat.le_of_ble_eq_true rfl) (Nat.le_of_ble_eq_true rfl) (Nat.le_of_ble_eq_true rfl) ?_
  rw [show 6 + 8 * k + 1 = 7 + 8 * k by omega]
  refine c_O_init (N := 7 + 8 * k) ((oset_ne (by omega)).trans (ho _ (by omega))) (by omega) (by rw [hz _ (by omega) (by omega)]; exact he_R hk _ _) ?_
  rw [hP_drop (a := 6 + 8 * k) ((oset_ne (by omega)).trans (ho _ (by omega))) (by omega) (by rw [hz _ (by omega) (by omega), hl]; exact he_O hk _ _)]
  show nW _ _ _ _ _ 23 _ [_, _] _ _ _
  refine aw_putF (pc' := 26) nd_C_init_23 rfl nF_1_21 ⟨rfl, rfl⟩ trivial (hw_pfv oset_eq (Nat.le_of_ble_eq_true rfl) rfl oset_same) ?_
  refine aw_aload_n (pc' := 27) nd_C_init_26 rfl rfl rfl ?_
  refine aw_iconst (pc' := 28) (x := 3) nd_C_init_27 rfl (by decide) ?_
  rw [show 7 + 8 * k + 1 = 8 + 8 * k by omega]
  refine hw_newa (pc' := 30) (M := 3) nd_C_init_28 rfl rfl (by decide) (Nat.le_of_ble_eq_true rfl) (Nat.le_of_ble_eq_true rfl) rfl rfl ((oset_ne (by omega)).trans (ho _ (by omega))) (by rw [hz _ (by omega) (by omega)]; exact he_Y hk _ _) ?_
  refine aw_putF (pc' := 33) nd_C_init_30 rfl nF_1_25 ⟨rfl, rfl⟩ trivial (hw_pfv oset_eq (Nat.le_of_ble_eq_true rfl) rfl oset_same) ?_
  refine aw_aload_n (pc' := 34) nd_C_init_33 rfl rfl rfl ?_
  refine aw_bipush (pc' := 36) (x := 30) nd_C_init_34 rfl (by decide) ?_
  rw [show 8 + 8 * k + 1 = 9 + 8 * k by omega]
  refine hw_newa (pc' := 38) (M := 30) nd_C_init_36 rfl rfl (by decide) (Nat.le_of_ble_eq_true rfl) (Nat.le_of_ble_eq_true rfl) rfl rfl ((oset_ne (by omega)).trans (ho _ (by omega))) (by rw [hz _ (by omega) (by omega)]; exact he_K hk _ _) ?_
  rw [show 9 + 8 * k + 1 = 10 + 8 * k by omega]
  refine aw_putF (pc' := 41) nd_C_init_38 rfl nF_1_29 ⟨rfl, rfl⟩ trivial (hw_pfv oset_eq (Nat.le_of_ble_eq_true rfl) rfl oset_same) ?_
  refine aw_return nd_C_init_41 rfl (Nat.le_of_ble_eq_true rfl) (Nat.le_of_ble_eq_true rfl) ?_
  exact hq

theorem oset_inner {o : Nat → Option ax_E} {a b : Nat} {e0 e e' : ax_E} (h : ¬ a = b) : oset (oset (oset o b e0) a e) b e' = oset (oset o b e') a e := by rw [oset_comm h, oset_same]
def nKept (x : Int32) : Int32 := if 1 < (if x < 12 then x else 12) then (if x < 12 then x else 12) else 1
def iS (v1 v2 v3 v4 v5 : Value) (x y : Int32) : ax_E := .inr (0, [v1, v2, v3, v4, v5, .int x, .int y, .int 0])
def iA (i : Nat) : ax_E := .inl (.object "NoteSheet$Cell", 12, .inr (.inr (.inr (.inr (fun j => if j < i then some (nC j) else none)))))
def iO (x : Int32) (i : Nat) : Nat → Option ax_E := oset (oset onone 0 (.inr (0, [.ref 1, .null, .null, .null, .null, .int x, .int 0, .int 0]))) 1 (iA i)
theorem iA_0 : iA 0 = .inl (.object "NoteSheet$Cell", 12, .inr (.inr (.inr (.inr (fun _ => none))))) := by
  unfold iA
  simp
theorem iA_up (i : Nat) : (.inl (.object "NoteSheet$Cell", 12, .inr (.inr (.inr (.inr (va_up (fun j => if j < i then some (nC j) else none) i (some (2 + 8 * i))))))) : ax_E) = iA (i + 1) := by
  unfold iA
  congr 7
  funext j
  unfold va_up
  by_cases h : j = i
  · subst h
    simp [nC]
  · have : (j < i + 1) = (j < i) := propext ⟨fun z => by omega, fun z => by omega⟩
    simp [h, this]
theorem iO_none {x : Int32} {i j : Nat} (h : 1 < j) : iO x i j = none := by
  unfold iO
  rw [oset_ne (by omega), oset_ne (by omega)]
  rfl

theorem l_N_init {L : Nat} {xs : Nat → Int32} {d : Nat} {Q : ax_Q} {μ : nMem} {kp x : Int32} (hz : ∀ b, 0 < b → b < 104 → μ.1 b = fun _ => 0) (hl : ∀ b, μ.2 b = fun _ => 0) (h5 : μ.1 0 5 = x) (h6 : μ.1 0 6 = 1) (h7 : μ.1 0 7 = 0) (hq : Q none (ns_rp 104 μ)) : ∀ z i, z + i = 12 → nW L xs (d + 2) ns_I_N_init Q 29 [some (.ref 0), some (.int kp), some (.int (nI i))] [] (1 + 8 * i) (12 + 128 * i) (hP (2 + 8 * i) μ (iO x i)) := by
  intro z
  induction z with
  | zero =>
    intro i hi
    obtain rfl : i = 12 := by omega
    refine aw_iload_n (pc' := 30) nd_N_init_29 rfl rfl ?_
    refine aw_bipush (pc' := 32) (x := 12) nd_N_init_30 rfl (by decide) ?_
    refine aw_icmp_ge (pc' := 35) (tg := 54) nd_N_init_32 (by decide) rfl (fun _ => ?_) (fun hx => absurd (by decide) hx)
    show nW L xs (d + 2) ns_I_N_init Q 54 _ _ 97 1548 (hP 98 μ (iO x 12))
    unfold iO
    rw [hP_drop (N := 98) (o := oset onone 0 _) (a := 1) (e := iA 12) (by rfl) (by decide) (by rfl)]
    refine aw_aload_n (pc' := 55) nd_N_init_54 rfl rfl rfl ?_
    refine aw_iconst (pc' := 56) (x := 3) nd_N_init_55 rfl (by decide) ?_
    refine hw_newa (pc' := 58) (M := 3) nd_N_init_56 rfl rfl (by decide) (Nat.le_of_ble_eq_true rfl) (Nat.le_of_ble_eq_true rfl) rfl rfl rfl (by rw [hz _ (by decide) (by decide)]; rfl) ?_
    refine aw_putF (pc' := 61) nd_N_init_58 rfl nF_0_29 ⟨rfl, rfl⟩ trivial (hw_pfv oset_eq (Nat.le_of_ble_eq_true rfl) rfl oset_same) ?_
    refine aw_aload_n (pc' := 62) nd_N_init_61 rfl rfl rfl ?_
    refine aw_iconst (pc' := 63) (x := 3) nd_N_init_62 rfl (by decide) ?_
    refine hw_newa (pc' := 65) (M := 3) nd_N_init_63 rfl rfl (by decide) (Nat.le_of_ble_eq_true rfl) (Nat.le_of_ble_eq_true rfl) rfl rfl rfl (by rw [hz _ (by decide) (by decide)]; rfl) ?_
    refine aw_putF (pc' := 68) nd_N_init_65 rfl nF_0_33 ⟨rfl, rfl⟩ trivial (hw_pfv oset_eq (Nat.le_of_ble_eq_true rfl) rfl oset_same) ?_
    refine aw_aload_n (pc' := 69) nd_N_init_68 rfl rfl rfl ?_
    refine hw_new (N := 100) (pc' := 72) nd_N_init_69 rfl nN_0_36 (Nat.le_of_ble_eq_true rfl) (Nat.le_of_ble_eq_true rfl) ?_
    refine aw_dup (pc' := 73) nd_N_init_72 rfl rfl ?_
    refine aw_callI (pc' := 76) (as := []) (st := [_, _]) nd_N_init_73 rfl nC_0_38 ⟨(Nat.le_of_ble_eq_true rfl), rfl, rfl⟩ (Nat.le_of_ble_eq_true rfl) (Nat.le_of_ble_eq_true rfl) (Nat.le_of_ble_eq_true rfl) ?_
    refine c_F_init (N := 101) rfl rfl (by decide) (by decide) (by rw [hz _ (by decide) (by decide)]; rfl) (by rw [hz _ (by decide) (by decide)]; rfl) ?_
    rw [hP_drop (a := 100) (by rfl) (by decide) (by rw [hz _ (by decide) (by decide)]; rfl)]
    show nW _ _ _ _ _ 76 _ [_, _] _ _ _
    refine aw_putF (pc' := 79) nd_N_init_76 rfl nF_0_39 ⟨rfl, rfl⟩ trivial (hw_pfv oset_eq (Nat.le_of_ble_eq_true rfl) rfl oset_same) ?_
    refine aw_aload_n (pc' := 80) nd_N_init_79 rfl rfl rfl ?_
    refine hw_new (N := 103) (pc' := 83) nd_N_init_80 rfl nN_0_43 (Nat.le_of_ble_eq_true rfl) (Nat.le_of_ble_eq_true rfl) ?_
    refine aw_dup (pc' := 84) nd_N_init_83 rfl rfl ?_
    refine aw_aload_n (pc' := 85) nd_N_init_84 rfl rfl rfl ?_
    refine aw_get (pc' := 88) nd_N_init_85 rfl nF_0_39 (hw_gfv ((oset_ne (by decide)).trans oset_eq) rfl) ?_
    refine aw_callI (pc' := 91) (as := [_]) (st := [_, _]) nd_N_init_88 rfl nC_0_45 ⟨(Nat.le_of_ble_eq_true rfl), rfl, rfl⟩ (Nat.le_of_ble_eq_true rfl) (Nat.le_of_ble_eq_true rfl) (Nat.le_of_ble_eq_true rfl) ?_
    refine c_P_init ?_
    rw [hP_drop (a := 103) (by rfl) (by decide) (by rw [hz _ (by decide) (by decide)]; rfl)]
    show nW _ _ _ _ _ 91 _ [_, _] _ _ _
    refine aw_putF (pc' := 94) nd_N_init_91 rfl nF_0_48 ⟨rfl, rfl⟩ trivial (hw_pfv oset_eq (Nat.le_of_ble_eq_true rfl) rfl oset_same) ?_
    refine aw_aload_n (pc' := 95) nd_N_init_94 rfl rfl rfl ?_
    refine aw_iconst (pc' := 96) (x := 1) nd_N_init_95 rfl (by decide) ?_
    refine aw_put (pc' := 99) nd_N_init_96 rfl nF_0_52 trivial (hw_pfv oset_eq (Nat.le_of_ble_eq_true rfl) rfl oset_same) ?_
    refine aw_return nd_N_init_99 rfl (Nat.le_of_ble_eq_true rfl) (Nat.le_of_ble_eq_true rfl) ?_
    show Q none (hP 104 μ (oset onone 0 (.inr (0, [.ref 1, .ref 98, .ref 99, .ref 100, .ref 103, .int x, .int 1, .int 0]))))
    rw [hP_drop (a := 0) (by rfl) (by decide) (by show some (Sum.inr (0, ns_fN (μ.1 0))) = _; unfold ns_fN; rw [h5, h6, h7])]
    exact hq
  | succ z ih =>
    intro i hi
    have hi12 : i < 12 := by omega
    refine aw_iload_n (pc' := 30) nd_N_init_29 rfl rfl ?_
    refine aw_bipush (pc' := 32) (x := 12) nd_N_init_30 rfl (by decide) ?_
    refine aw_icmp_ge (pc' := 35) (tg := 54) nd_N_init_32 (by decide) rfl (fun hx => absurd hx (nI_ge (b := 12) hi12 (by decide))) (fun _ => ?_)
    refine aw_aload_n (pc' := 36) nd_N_init_35 rfl rfl rfl ?_
    refine aw_get (pc' := 39) nd_N_init_36 rfl nF_0_24 (hw_gfv ((oset_ne (by decide)).trans oset_eq) rfl) ?_
    refine aw_iload_n (pc' := 40) nd_N_init_39 rfl rfl ?_
    refine hw_new (N := 2 + 8 * i) (pc' := 43) nd_N_init_40 rfl nN_0_22 (show 1 + 8 * i + 1 ≤ 103 by omega) (show 12 + 128 * i + 11 ≤ 1620 by omega) ?_
    refine aw_dup (pc' := 44) nd_N_init_43 rfl rfl ?_
    refine aw_callI (pc' := 47) (as := []) (st := [_, _, _]) nd_N_init_44 rfl nC_0_28 ⟨(Nat.le_of_ble_eq_true rfl), rfl, rfl⟩ (Nat.le_of_ble_eq_true rfl) (show 1 + 8 * i + 1 + 7 ≤ 103 by omega) (show 12 + 128 * i + 11 + 117 ≤ 1620 by omega) ?_
    rw [show 2 + 8 * i + 1 = 3 + 8 * i by omega]
    refine c_C_init hi12 hz hl (fun j hj => iO_none (by omega)) ?_
    rw [hP_drop (a := 2 + 8 * i) (iO_none (by omega)) (by omega) (by rw [hz _ (by omega) (by omega), hl]; exact he_C hi12 _ _)]
    show nW _ _ _ _ _ 47 _ [_, _, _] _ _ _
    refine aw_aast (pc' := 48) nd_N_init_47 rfl i rfl hi12 (by decide) (hP_get oset_eq) (hP_base (iO_none (by omega)) (by omega) (by rw [hz _ (by omega) (by omega), hl]; exact he_C hi12 _ _)) rfl ?_
    rw [hP_up, iA_up]
    unfold iO
    rw [oset_same]
    refine aw_iinc (pc' := 51) (ls' := [_, _, _]) nd_N_init_48 rfl rfl (nI_1 i) rfl ?_
    refine aw_goto (pc' := 29) nd_N_init_51 (by decide) ?_
    have e := ih (i + 1) (by omega)
    rw [show 2 + 8 * (i + 1) = 10 + 8 * i by omega, show 1 + 8 * (i + 1) = 1 + 8 * i + 1 + 7 by omega, show 12 + 128 * (i + 1) = 12 + 128 * i + 11 + 117 by omega] at e
    exact e

theorem c_N_init {L : Nat} {xs : Nat → Int32} {d : Nat} {Q : ax_Q} {μ : nMem} {kp : Int32} (hz : ∀ b, 0 < b → b < 104 → μ.1 b = fun _ => 0) (hl : ∀ b, μ.2 b = fun _ => 0) (h5 : μ.1 0 5 = nKept kp) (h6 : μ.1 0 6 = 1) (h7 : μ.1 0 7 = 0) (hq : Q none (ns_rp 104 μ)) : nM L xs (d + 3) 0 [.ref 0, .int kp] (hP 1 μ (oset onone 0 (.inr (0, [.null, .null, .null, .null, .null, .int 0, .int 0, .int 0])))) Q := by
  refine nM.of ns_I_N_init rfl (ls := [_, _, _]) (Nat.le_of_ble_eq_true rfl) rfl ?_
  refine aw_aload_n (pc' := 1) nd_N_init_0 rfl rfl rfl ?_
  refine aw_objInit (x := 0) (y := 0) (pc' := 4) nd_N_init_1 rfl nC_0_1 (Nat.le_of_ble_eq_true rfl) ?_
  refine aw_aload_n (pc' := 5) nd_N_init_4 rfl rfl rfl ?_
  refine aw_iconst (pc' := 6) (x := 1) nd_N_init_5 rfl (by decide) ?_
  refine aw_bipush (pc' := 8) (x := 12) nd_N_init_6 rfl (by decide) ?_
  refine aw_iload_n (pc' := 9) nd_N_init_8 rfl rfl ?_
  refine aw_min (a := 0) (pc' := 12) nd_N_init_9 rfl nC_0_9 (Nat.le_of_ble_eq_true rfl) ?_
  refine aw_max (a := 0) (pc' := 15) nd_N_init_12 rfl nC_0_15 (Nat.le_of_ble_eq_true rfl) ?_
  refine aw_putF (pc' := 18) nd_N_init_15 rfl nF_0_18 ⟨rfl, rfl⟩ trivial (hw_pfv oset_eq (Nat.le_of_ble_eq_true rfl) rfl oset_same) ?_
  refine aw_aload_n (pc' := 19) nd_N_init_18 rfl rfl rfl ?_
  refine aw_bipush (pc' := 21) (x := 12) nd_N_init_19 rfl (by decide) ?_
  refine hw_newq (M := 12) (pc' := 24) nd_N_init_21 rfl rfl (by decide) (Nat.le_of_ble_eq_true rfl) (Nat.le_of_ble_eq_true rfl) nN_0_22 rfl ?_
  refine aw_putF (pc' := 27) nd_N_init_24 rfl nF_0_24 ⟨rfl, rfl⟩ trivial (hw_pfv ((oset_ne (by decide)).trans oset_eq) (Nat.le_of_ble_eq_true rfl) rfl (oset_inner (by decide))) ?_
  rw [← iA_0]
  refine aw_iconst (pc' := 28) (x := 0) nd_N_init_27 rfl (by decide) ?_
  refine aw_istore_n (pc' := 29) (ls' := [_, _, _]) nd_N_init_28 rfl (Nat.le_of_ble_eq_true rfl) rfl ?_
  exact l_N_init hz hl h5 h6 h7 hq 12 0 (by omega)

