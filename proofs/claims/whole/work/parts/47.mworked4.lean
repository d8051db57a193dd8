/-! the model's asking: worked's contract -/
def wkM (μ : nMem) (f k : Nat) (v : Int64) (fc : Nat → Nat) (r : Nat) : nMem := fiM (usM (wkN (wcM (cnM μ k 0) k fc r) f k (if syM (wcM (cnM μ k 0) k fc r) k v = true then (wcM (cnM μ k 0) k fc r).1 121 k else (wcM (cnM μ k 0) k fc r).1 104 3) v (lrM (cnM μ k 0) f fc r)) k) f k
theorem c_M_worked {L : Nat} {xs : Nat → Int32} {d : Nat} {Q : ax_Q} {μ : nMem} {f k : Nat} {v : Int64} (hf : f < 12) (hk : k < 12) (ho : μ.1 104 27 = nI (f + 1)) (hp : μ.1 128 f = nI k) {fc : Nat → Nat} {r : Nat} (hr : μ.1 133 f = nI r) (hr12 : r ≤ 12) (hfc : ∀ i, i < r → μ.1 134 (12 * f + i) = nI (fc i) ∧ fc i < 12) (hq : Q none (ns_rep (wkM μ f k v fc r))) : nM L xs (d + 2) 60 [.ref 104, .int (nI f), .int (nI k), .long v] (ns_rep μ) Q := by
  refine nM.of ns_I_M_worked rfl (ls := [_, _, _, _, _, _, _, _]) (Nat.le_of_ble_eq_true rfl) rfl ?_
  refine aw_aload_n (pc' := 1) nd_M_worked_0 rfl rfl rfl ?_
  refine aw_iload_n (pc' := 2) nd_M_worked_1 rfl rfl ?_
  refine aw_iconst (pc' := 3) (x := 0) nd_M_worked_2 rfl (by decide) ?_
  refine aw_callV (pc' := 6) (as := [_, _]) (st := []) nd_M_worked_3 rfl nC_5_210 ⟨(Nat.le_of_ble_eq_true rfl), rfl, rfl⟩ ns_ioM (Nat.le_of_ble_eq_true rfl) (Nat.le_of_ble_eq_true rfl) (Nat.le_of_ble_eq_true rfl) ?_
  refine c_M_counts (w := 0) hk (by decide) ?_
  change nW _ _ _ _ _ _ _ _ _ _ (ns_rep (cnM μ k 0))
  show nW _ _ _ _ _ 6 _ [] _ _ _
  refine aw_aload_n (pc' := 7) nd_M_worked_6 rfl rfl rfl ?_
  refine aw_get (pc' := 10) nd_M_worked_7 rfl nF_5_109 g_M_ring ?_
  refine aw_iload_n (pc' := 11) nd_M_worked_10 rfl rfl ?_
  refine aw_bald (pc' := 12) nd_M_worked_11 rfl ga_Mring f rfl hf ?_
  refine aw_if_eq (pc' := 15) (tg := 19) nd_M_worked_12 (by decide) rfl (fun hb12 => ?_) (fun hb12 => ?_)
  · skip
    refine aw_iconst (pc' := 20) (x := 2) nd_M_worked_19 rfl (by decide) ?_
    refine aw_istore (pc' := 22) (ls' := [_, _, _, _, _, _, _, _]) nd_M_worked_20 rfl (Nat.le_of_ble_eq_true rfl) rfl ?_
    refine aw_iconst (pc' := 23) (x := 0) nd_M_worked_22 rfl (by decide) ?_
    refine aw_istore (pc' := 25) (ls' := [_, _, _, _, _, _, _, _]) nd_M_worked_23 rfl (Nat.le_of_ble_eq_true rfl) rfl ?_
    have z := l_M_worked25 (L := L) (xs := xs) (d := d) (Q := Q) (m := cnM μ k 0) (v := v) hf hk (fc := fc) (r := r) (by rw [cnM_o (by decide) (by decide)]; exact hr) hr12 (fun i hi => by rw [cnM_o (by decide) (by decide)]; exact hfc i hi) (fun w => l_M_worked103 hf hk (by rw [wcM_o (by decide), cnM_o (by decide) (by decide)]; exact ho) (by rw [wcM_o (by decide), cnM_o (by decide) (by decide)]; exact hp) hq) r 0 none (by omega)
    first
      | (rw [show lrM (cnM μ k 0) f fc 0 = 2 by rw [lrM, if_pos hb12]; rfl] at z; exact z)
      | (rw [show lrM (cnM μ k 0) f fc 0 = 0 by rw [lrM, if_neg hb12]] at z; exact z)
  · skip
    refine aw_iconst (pc' := 16) (x := 0) nd_M_worked_15 rfl (by decide) ?_
    refine aw_goto (pc' := 20) nd_M_worked_16 (by decide) ?_
    refine aw_istore (pc' := 22) (ls' := [_, _, _, _, _, _, _, _]) nd_M_worked_20 rfl (Nat.le_of_ble_eq_true rfl) rfl ?_
    refine aw_iconst (pc' := 23) (x := 0) nd_M_worked_22 rfl (by decide) ?_
    refine aw_istore (pc' := 25) (ls' := [_, _, _, _, _, _, _, _]) nd_M_worked_23 rfl (Nat.le_of_ble_eq_true rfl) rfl ?_
    have z := l_M_worked25 (L := L) (xs := xs) (d := d) (Q := Q) (m := cnM μ k 0) (v := v) hf hk (fc := fc) (r := r) (by rw [cnM_o (by decide) (by decide)]; exact hr) hr12 (fun i hi => by rw [cnM_o (by decide) (by decide)]; exact hfc i hi) (fun w => l_M_worked103 hf hk (by rw [wcM_o (by decide), cnM_o (by decide) (by decide)]; exact ho) (by rw [wcM_o (by decide), cnM_o (by decide) (by decide)]; exact hp) hq) r 0 none (by omega)
    first
      | (rw [show lrM (cnM μ k 0) f fc 0 = 2 by rw [lrM, if_pos hb12]; rfl] at z; exact z)
      | (rw [show lrM (cnM μ k 0) f fc 0 = 0 by rw [lrM, if_neg hb12]] at z; exact z)

