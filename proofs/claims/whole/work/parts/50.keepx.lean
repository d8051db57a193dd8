/-! asking: what is kept of cells at work -/
def KX (d : Nat) (γ γ' : nMem) : Prop := γ'.1 0 6 = γ.1 0 6 ∧ (∀ k, ¬ γ.1 (nN k) 2 = 0 → ¬ γ'.1 (nN k) 2 = 0) ∧ ∀ k, ¬ k = d → ¬ γ.1 (nC k) 9 = 0 → ¬ γ'.1 (nC k) 9 = 0 ∧ γ'.1 (nN k) = γ.1 (nN k) ∧ γ'.1 (nR k) = γ.1 (nR k) ∧ γ'.1 (nK k) = γ.1 (nK k)
def KA (γ γ' : nMem) : Prop := γ'.1 0 6 = γ.1 0 6 ∧ (∀ k, ¬ γ.1 (nN k) 2 = 0 → ¬ γ'.1 (nN k) 2 = 0) ∧ ∀ k, ¬ γ.1 (nC k) 9 = 0 → ¬ γ'.1 (nC k) 9 = 0 ∧ γ'.1 (nN k) = γ.1 (nN k) ∧ γ'.1 (nR k) = γ.1 (nR k) ∧ γ'.1 (nK k) = γ.1 (nK k)
theorem KA.rfl {γ : nMem} : KA γ γ := ⟨Eq.refl _, fun _ h => h, fun _ h => ⟨h, Eq.refl _, Eq.refl _, Eq.refl _⟩⟩
theorem KX.rfl {d : Nat} {γ : nMem} : KX d γ γ := ⟨Eq.refl _, fun _ h => h, fun _ _ h => ⟨h, Eq.refl _, Eq.refl _, Eq.refl _⟩⟩
theorem KA.x {γ γ' : nMem} (d : Nat) (h : KA γ γ') : KX d γ γ' := ⟨h.1, h.2.1, fun k _ h9 => h.2.2 k h9⟩
theorem KX.a {d : Nat} {γ γ' : nMem} (h : KX d γ γ') (h9 : γ.1 (nC d) 9 = 0) : KA γ γ' := ⟨h.1, h.2.1, fun k hk => h.2.2 k (fun z => hk (by rw [z]; exact h9)) hk⟩
theorem KX.trans {d : Nat} {a b c : nMem} (h1 : KX d a b) (h2 : KX d b c) : KX d a c := ⟨h2.1.trans h1.1, fun k h => h2.2.1 k (h1.2.1 k h), fun k hd h9 => by
  obtain ⟨a1, a2, a3, a4⟩ := h1.2.2 k hd h9
  obtain ⟨b1, b2, b3, b4⟩ := h2.2.2 k hd a1
  exact ⟨b1, b2.trans a2, b3.trans a3, b4.trans a4⟩⟩
theorem KA.trans {a b c : nMem} (h1 : KA a b) (h2 : KA b c) : KA a c := ⟨h2.1.trans h1.1, fun k h => h2.2.1 k (h1.2.1 k h), fun k h9 => by
  obtain ⟨a1, a2, a3, a4⟩ := h1.2.2 k h9
  obtain ⟨b1, b2, b3, b4⟩ := h2.2.2 k a1
  exact ⟨b1, b2.trans a2, b3.trans a3, b4.trans a4⟩⟩
theorem KX.st {d : Nat} {γ : nMem} {a j : Nat} {x : Int32} (h0 : ¬ (a = 0 ∧ j = 6)) (h1 : ∀ k, a = nN k → k = d ∧ (j = 2 → ¬ x = 0)) (h2 : ∀ k, a = nR k → k = d) (h3 : ∀ k, a = nK k → k = d) (h4 : ∀ k, a = nC k → j = 9 → k = d) : KX d γ (ms γ a j x) := by
  refine ⟨?_, fun k h => ?_, fun k hd h9 => ⟨?_, ms_o (fun z => hd (h1 k z.symm).1), ms_o (fun z => hd (h2 k z.symm)), ms_o (fun z => hd (h3 k z.symm))⟩⟩
  · rw [ms_r, if_neg (fun z => h0 ⟨z.1.symm, z.2.symm⟩)]
  · rw [ms_r]
    split
    · rename_i z; exact (h1 k z.1.symm).2 z.2.symm
    · exact h
  · rw [ms_r, if_neg (fun z => hd (h4 k z.1.symm z.2.symm))]; exact h9
theorem KX.lg {d : Nat} {γ : nMem} {a j : Nat} {x : Int64} : KX d γ (ml γ a j x) := ⟨Eq.refl _, fun _ h => h, fun _ _ h => ⟨h, Eq.refl _, Eq.refl _, Eq.refl _⟩⟩
theorem KX.mN {d : Nat} {γ : nMem} {j : Nat} {x : Int32} (h : j = 2 → ¬ x = 0) : KX d γ (ms γ (nN d) j x) := KX.st (fun z => by unfold nN at z; omega) (fun k z => ⟨by unfold nN at z; omega, h⟩) (fun k z => by unfold nN nR at z; omega) (fun k z => by unfold nN nK at z; omega) (fun k z => by unfold nN nC at z; omega)
theorem KX.mR {d : Nat} {γ : nMem} {j : Nat} {x : Int32} : KX d γ (ms γ (nR d) j x) := KX.st (fun z => by unfold nR at z; omega) (fun k z => by unfold nN nR at z; omega) (fun k z => by unfold nR at z; omega) (fun k z => by unfold nR nK at z; omega) (fun k z => by unfold nR nC at z; omega)
theorem KX.mK {d : Nat} {γ : nMem} {j : Nat} {x : Int32} : KX d γ (ms γ (nK d) j x) := KX.st (fun z => by unfold nK at z; omega) (fun k z => by unfold nN nK at z; omega) (fun k z => by unfold nR nK at z; omega) (fun k z => by unfold nK at z; omega) (fun k z => by unfold nK nC at z; omega)
theorem KX.mC {d k : Nat} {γ : nMem} {j : Nat} {x : Int32} (h : j = 9 → k = d) : KX d γ (ms γ (nC k) j x) := KX.st (fun z => by unfold nC at z; omega) (fun k z => by unfold nN nC at z; omega) (fun k z => by unfold nR nC at z; omega) (fun k z => by unfold nK nC at z; omega) (fun i z hj => by have := h hj; unfold nC at z; omega)
theorem KX.mY {d k : Nat} {γ : nMem} {j : Nat} {x : Int32} : KX d γ (ms γ (nY k) j x) := KX.st (fun z => by unfold nY at z; omega) (fun k z => by unfold nN nY at z; omega) (fun k z => by unfold nR nY at z; omega) (fun k z => by unfold nK nY at z; omega) (fun i z hj => by unfold nC nY at z; omega)
theorem KX.m99 {d : Nat} {γ : nMem} {j : Nat} {x : Int32} : KX d γ (ms γ 99 j x) := KX.st (fun z => by omega) (fun k z => by unfold nN at z; omega) (fun k z => by unfold nR at z; omega) (fun k z => by unfold nK at z; omega) (fun i z hj => by unfold nC at z; omega)
theorem KX.m0 {d : Nat} {γ : nMem} {j : Nat} {x : Int32} (h : ¬ j = 6) : KX d γ (ms γ 0 j x) := KX.st (fun z => h z.2) (fun k z => by unfold nN at z; omega) (fun k z => by unfold nR at z; omega) (fun k z => by unfold nK at z; omega) (fun i z hj => by unfold nC at z; omega)
theorem mU_K {d : Nat} {γ : nMem} {k : Nat} : KX d γ (mU γ k) := (KX.m0 (by decide)).trans (KX.mC (by simp))
theorem tly_K {d : Nat} {γ : nMem} {k j : Nat} : KX d γ (tly γ k j) := KX.mY.trans KX.m99
theorem vfy_K {γ : nMem} {k j : Nat} : KX k γ (vfy γ k j) := ((KX.mN (by simp)).trans KX.mY).trans KX.m99
theorem kvs_K {γ : nMem} {k : Nat} {v : Int64} {r : Int32} : KX k γ (kvs γ k v r) := by
  unfold kvs
  split
  · split
    · exact KX.mN (by simp)
    · exact KX.rfl
  · exact KX.rfl
theorem kv_K {γ : nMem} {k : Nat} {v : Int64} {r : Int32} : KX k γ (kv γ k v r) := (((kvs_K.trans (KX.mN (by simp))).trans (KX.mN (by simp))).trans KX.lg).trans (KX.mN (by simp))
theorem adR_K {γ : nMem} {k s : Nat} : KX k γ (adR γ k s) := by
  unfold adR
  split
  · exact KX.rfl
  · exact KX.mR.trans (KX.mN (by simp))
theorem wEnd_K {γ : nMem} {k : Nat} {v : Int64} : KX k γ (wEnd γ k v) := ((((KX.mN (by simp)).trans kv_K).trans mU_K).trans tly_K).trans (KX.mC (fun _ => Eq.refl _))
section KS
variable {cd : Nat → pC} {B W : nMem → Nat → nMem}
theorem uF_K (hB : ∀ γ k, KA γ (B γ k)) (hW : ∀ γ k, KX k γ (W γ k)) {γ : nMem} {s : Nat} (h9 : γ.1 (nC s) 9 = 0) : KA γ (uF B W γ s).2 := by
  unfold uF
  split
  · exact KA.rfl
  · refine KX.a (d := s) (KX.trans ?_ mU_K) h9
    split
    · exact ((hB γ s).x s).trans (hW _ s)
    · exact (hB γ s).x s
theorem gF_K (hB : ∀ γ k, KA γ (B γ k)) (hW : ∀ γ k, KX k γ (W γ k)) {γ : nMem} {k s : Nat} : KX k γ (gF B W γ k s).2 := by
  unfold gF
  split
  · rename_i h; exact adR_K.trans ((uF_K hB hW h).x k)
  · exact adR_K
theorem evl_K {G : nMem → Nat → Int64 × nMem} {cs : pC} {k : Nat} (hG : ∀ γ s, KX k γ (G γ s).2) : ∀ g γ tp at_, KX k γ (evl G cs k g γ tp at_).2 := by
  intro g
  induction g with
  | zero => intro γ tp at_; exact KX.rfl
  | succ g ih =>
    intro γ tp at_
    unfold evl
    split
    · exact KX.rfl
    · rename_i q he
      split
      · exact KX.mK.trans (ih _ _ _)
      split
      · have h1 := hG γ q.2
        split
        rename_i v μ1 e
        rw [e] at h1
        split
        · exact h1
        · exact (h1.trans KX.mK).trans (ih _ _ _)
      split
      · have h1 := hG γ (fm (γ.1 (nK k) (tp - 1)))
        split
        rename_i v μ1 e
        rw [e] at h1
        split
        · exact h1
        · exact (h1.trans KX.mK).trans (ih _ _ _)
      split
      · exact KX.mK.trans (ih _ _ _)
      split
      · exact ih _ _ _
      split
      · exact ih _ _ _
      · exact KX.mK.trans (ih _ _ _)
theorem wF_K (hB : ∀ γ k, KA γ (B γ k)) (hW : ∀ γ k, KX k γ (W γ k)) (γ : nMem) (k : Nat) : KX k γ (wF cd B W γ k) := by
  unfold wF
  have h1 := evl_K (cs := cd k) (k := k) (G := fun m s => gF B W m k s) (fun γ s => gF_K hB hW) 30 (ms (ms γ (nC k) 9 1) (nN k) 1 0) 0 0
  split
  rename_i v μ1 e
  rw [e] at h1
  exact (((KX.mC (fun _ => rfl)).trans (KX.mN (by simp))).trans h1).trans wEnd_K
theorem ruL_K (hB : ∀ γ k, KA γ (B γ k)) {k : Nat} : ∀ g γ i, KA γ (ruL B k g γ i).2 := by
  intro g
  induction g with
  | zero => intro γ i; exact KA.rfl
  | succ g ih =>
    intro γ i
    unfold ruL
    split
    · split
      · generalize (if (B γ (rN γ k i)).1 (nC (rN γ k i)) 4 = 0 then (B γ (rN γ k i)).1 (nC (rN γ k i)) 8 else (B γ (rN γ k i)).1 (nN (rN γ k i)) 6) = z
        split
        · exact (hB _ _).trans (ih _ _)
        · exact hB _ _
      · exact hB _ _
    · exact KA.rfl
theorem ruF_K (hB : ∀ γ k, KA γ (B γ k)) {γ : nMem} {k : Nat} : KA γ (ruF B γ k).2 := by
  unfold ruF
  split
  · exact KA.rfl
  · split
    · exact ruL_K hB _ _ _
    · exact KA.rfl
theorem bIn_K (hB : ∀ γ k, KA γ (B γ k)) (hW : ∀ γ k, KX k γ (W γ k)) {γ : nMem} {k : Nat} : KX k γ (bIn cd B W γ k) := by
  unfold bIn
  split
  · have h1 := ruF_K (k := k) hB (γ := γ)
    split
    · rename_i μ1 e
      rw [e] at h1
      exact ((h1.x k).trans (KX.mN (by simp))).trans vfy_K
    · rename_i μ1 e
      rw [e] at h1
      exact (h1.x k).trans (wF_K hB hW _ _)
  · exact vfy_K
theorem bF_K (hB : ∀ γ k, KA γ (B γ k)) (hW : ∀ γ k, KX k γ (W γ k)) (γ : nMem) (k : Nat) : KA γ (bF cd B W γ k) := by
  unfold bF
  split
  · exact KA.rfl
  split
  · exact KA.rfl
  rename_i h9
  split
  · exact KA.rfl
  · exact KX.a (d := k) (((KX.mC (fun _ => rfl)).trans (bIn_K hB hW)).trans (KX.mC (fun _ => rfl))) (Decidable.not_not.mp h9)
end KS
theorem bw_K (cd : Nat → pC) : ∀ d, (∀ γ k, KA γ ((bw cd d).1 γ k)) ∧ ∀ γ k, KX k γ ((bw cd d).2 γ k) := by
  intro d
  induction d with
  | zero => exact ⟨fun _ _ => KA.rfl, fun _ _ => KX.rfl⟩
  | succ d ih => exact ⟨bF_K ih.1 ih.2, wF_K ih.1 ih.2⟩
