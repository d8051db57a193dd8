/-! the model's loop: what is to be closed under its turns -/
def fcM (μ : nMem) (f i : Nat) : Nat := (μ.1 134 (12 * f + i)).toNatClampNeg
def rM (μ : nMem) (f : Nat) : Nat := (μ.1 133 f).toNatClampNeg
def wkX (μ : nMem) (f k : Nat) (v : Int64) : nMem := wkM μ f k v (fcM μ f) (rM μ f)
def FO (μ : nMem) (f : Nat) : Prop := μ.1 133 f = nI (rM μ f) ∧ rM μ f ≤ 12 ∧ ∀ i, i < rM μ f → μ.1 134 (12 * f + i) = nI (fcM μ f i) ∧ fcM μ f i < 12
abbrev AV (μ : nMem) (f k a : Nat) (w n : Int32) : Prop := (f < 12) ∧ (k < 12) ∧ (μ.1 104 27 = nI (f + 1)) ∧ (μ.1 128 f = nI k) ∧ (μ.1 129 f = 3) ∧ (μ.1 130 f = nI a) ∧ (a < 40) ∧ (¬ nI a = μ.1 110 k) ∧ (μ.1 111 (40 * k + a) = w) ∧ (μ.1 112 (40 * k + a) = n)
theorem AV.hf {μ : nMem} {f k a : Nat} {w n : Int32} (h : AV μ f k a w n) : f < 12 := h.1
theorem AV.hk {μ : nMem} {f k a : Nat} {w n : Int32} (h : AV μ f k a w n) : k < 12 := h.2.1
theorem AV.op {μ : nMem} {f k a : Nat} {w n : Int32} (h : AV μ f k a w n) : μ.1 104 27 = nI (f + 1) := h.2.2.1
theorem AV.cl {μ : nMem} {f k a : Nat} {w n : Int32} (h : AV μ f k a w n) : μ.1 128 f = nI k := h.2.2.2.1
theorem AV.md {μ : nMem} {f k a : Nat} {w n : Int32} (h : AV μ f k a w n) : μ.1 129 f = 3 := h.2.2.2.2.1
theorem AV.ap {μ : nMem} {f k a : Nat} {w n : Int32} (h : AV μ f k a w n) : μ.1 130 f = nI a := h.2.2.2.2.2.1
theorem AV.ha {μ : nMem} {f k a : Nat} {w n : Int32} (h : AV μ f k a w n) : a < 40 := h.2.2.2.2.2.2.1
theorem AV.ne {μ : nMem} {f k a : Nat} {w n : Int32} (h : AV μ f k a w n) : ¬ nI a = μ.1 110 k := h.2.2.2.2.2.2.2.1
theorem AV.st {μ : nMem} {f k a : Nat} {w n : Int32} (h : AV μ f k a w n) : μ.1 111 (40 * k + a) = w := h.2.2.2.2.2.2.2.2.1
theorem AV.wi {μ : nMem} {f k a : Nat} {w n : Int32} (h : AV μ f k a w n) : μ.1 112 (40 * k + a) = n := h.2.2.2.2.2.2.2.2.2
def lku (m : nMem) (s : Nat) : nMem := if m.1 107 s = 0 then m else usM m s
def lkv (m : nMem) (s : Nat) : Int64 := if m.1 107 s = 0 then (m.1 114 s).toInt64 else m.2 119 s
def lkp (m : nMem) (f s t a : Nat) (w : Int32) : nMem := ms (psM (if w = 2 then ms (lku m s) 131 f (nI (t - 1)) else lku m s) f (if w = 2 then t - 1 else t) (lkv m s)) 130 f (nI (a + 1))
abbrev LKo (R : nMem → Prop) (f k s t a : Nat) (w : Int32) (m : nMem) : Prop := (¬ m.1 135 s = 0 → R (wkX (ms m 136 f 1) f k BADv)) ∧ (m.1 135 s = 0 → stM m s = false → f + 1 < 12 ∧ R (saM m (f + 1) s 0)) ∧ (m.1 135 s = 0 → stM m s = true → ¬ m.1 107 s = 0 → m.1 118 s = 0 → f + 1 < 12 ∧ R (saM m (f + 1) s 2)) ∧ (m.1 135 s = 0 → stM m s = true → (m.1 107 s = 0 ∨ ¬ m.1 118 s = 0) → lkv m s = BADv → R (wkX (lku m s) f k BADv)) ∧ (m.1 135 s = 0 → stM m s = true → (m.1 107 s = 0 ∨ ¬ m.1 118 s = 0) → ¬ lkv m s = BADv → R (lkp m f s t a w))
theorem LKo.ring {R : nMem → Prop} {f k s t a : Nat} {w : Int32} {m : nMem} (h : LKo R f k s t a w m) : ¬ m.1 135 s = 0 → R (wkX (ms m 136 f 1) f k BADv) := h.1
theorem LKo.up {R : nMem → Prop} {f k s t a : Nat} {w : Int32} {m : nMem} (h : LKo R f k s t a w m) : m.1 135 s = 0 → stM m s = false → f + 1 < 12 ∧ R (saM m (f + 1) s 0) := h.2.1
theorem LKo.out {R : nMem → Prop} {f k s t a : Nat} {w : Int32} {m : nMem} (h : LKo R f k s t a w m) : m.1 135 s = 0 → stM m s = true → ¬ m.1 107 s = 0 → m.1 118 s = 0 → f + 1 < 12 ∧ R (saM m (f + 1) s 2) := h.2.2.1
theorem LKo.bad {R : nMem → Prop} {f k s t a : Nat} {w : Int32} {m : nMem} (h : LKo R f k s t a w m) : m.1 135 s = 0 → stM m s = true → (m.1 107 s = 0 ∨ ¬ m.1 118 s = 0) → lkv m s = BADv → R (wkX (lku m s) f k BADv) := h.2.2.2.1
theorem LKo.got {R : nMem → Prop} {f k s t a : Nat} {w : Int32} {m : nMem} (h : LKo R f k s t a w m) : m.1 135 s = 0 → stM m s = true → (m.1 107 s = 0 ∨ ¬ m.1 118 s = 0) → ¬ lkv m s = BADv → R (lkp m f s t a w) := h.2.2.2.2
def MR (R : nMem → Prop) : Prop := (∀ (μ : nMem) (f k e : Nat), f < 12 → k < 12 → μ.1 104 27 = nI (f + 1) → μ.1 128 f = nI k → μ.1 129 f = 0 → (¬ μ.1 117 k = 0 → μ.1 122 k = nI e) → e < 3 → (¬ μ.1 117 k = 0 → ¬ μ.1 120 k < μ.1 106 e → R (fiM (ms (cnM μ k 2) 120 k (μ.1 104 3)) f k)) → ((μ.1 117 k = 0 ∨ μ.1 120 k < μ.1 106 e) → R (ms (ms μ 130 f 0) 129 f (if μ.1 117 k = 0 then 2 else if μ.1 120 k < μ.1 113 k then 2 else 1))) → R μ) ∧ (∀ (μ : nMem) (f k a : Nat) (rc : Nat → Nat) (r : Nat), f < 12 → k < 12 → μ.1 104 27 = nI (f + 1) → μ.1 128 f = nI k → μ.1 129 f = 1 → μ.1 130 f = nI a → μ.1 123 k = nI r → r ≤ 12 → (∀ i, i < r → μ.1 124 (12 * k + i) = nI (rc i) ∧ rc i < 12) → a ≤ r → (a = r → R (fiM (ms (ms (cnM μ k 1) 120 k (μ.1 104 3)) 122 k (ldM (ms (cnM μ k 1) 120 k (μ.1 104 3)) rc r)) f k)) → (a < r → ¬ μ.1 135 (rc a) = 0 → R (ms μ 129 f 2)) → (a < r → μ.1 135 (rc a) = 0 → stM μ (rc a) = false → f + 1 < 12 ∧ R (saM μ (f + 1) (rc a) 0)) → (a < r → μ.1 135 (rc a) = 0 → stM μ (rc a) = true → μ.1 120 k < sOf μ (rc a) → R (ms μ 129 f 2)) → (a < r → μ.1 135 (rc a) = 0 → stM μ (rc a) = true → ¬ μ.1 120 k < sOf μ (rc a) → R (ms μ 130 f (nI (a + 1)))) → R μ) ∧ (∀ (μ : nMem) (f k : Nat), f < 12 → k < 12 → μ.1 104 27 = nI (f + 1) → μ.1 128 f = nI k → μ.1 129 f = 2 → R (ms (ms (ms (ms (ms μ 130 f 0) 131 f 0) 133 f 0) 136 f 0) 129 f 3) → R μ) ∧ (∀ (μ : nMem) (f k : Nat), f < 12 → k < 12 → μ.1 104 27 = nI (f + 1) → μ.1 128 f = nI k → μ.1 129 f = 3 → μ.1 130 f = μ.1 110 k → FO μ f → R (wkX μ f k (μ.2 132 (16 * f))) → R μ) ∧ (∀ (μ : nMem) (f k a t : Nat) (n : Int32), AV μ f k a 0 n → μ.1 131 f = nI t → t < 16 → R (psM (ms μ 130 f (nI (a + 1))) f t n.toInt64) → R μ) ∧ (∀ (μ : nMem) (f k a t : Nat) (n : Int32), AV μ f k a 3 n → μ.1 131 f = nI (t + 1) → t < 16 → R (psM (ms (ms μ 130 f (nI (a + 1))) 131 f (nI t)) f t (-(μ.2 132 (16 * f + t)).toInt32).toInt64) → R μ) ∧ (∀ (μ : nMem) (f k a : Nat) (n : Int32), AV μ f k a 9 n → R (ms (ms μ 130 f (nI (a + 1))) 130 f n) → R μ) ∧ (∀ (μ : nMem) (f k a t : Nat) (n : Int32), AV μ f k a 10 n → μ.1 131 f = nI (t + 1) → t < 16 → R (ms (ms (ms μ 130 f (nI (a + 1))) 131 f (nI t)) 130 f (if μ.2 132 (16 * f + t) = 0 then n else nI (a + 1))) → R μ) ∧ (∀ (μ : nMem) (f k a t : Nat) (w n : Int32), AV μ f k a w n → (w = 4 ∨ w = 5 ∨ w = 6 ∨ w = 7 ∨ w = 8) → μ.1 131 f = nI (t + 2) → t + 1 < 16 → R (psM (ms (ms μ 130 f (nI (a + 1))) 131 f (nI t)) f t (cbM w (μ.2 132 (16 * f + t)).toInt32 (μ.2 132 (16 * f + (t + 1))).toInt32)) → R μ) ∧ (∀ (μ : nMem) (f k a s t : Nat) (w n : Int32), AV μ f k a w n → s < 12 → FO μ f → μ.1 131 f = nI t → t < 16 → ((w = 1 ∧ n = nI s) ∨ (w = 2 ∧ 1 ≤ t ∧ fm (μ.2 132 (16 * f + (t - 1))).toInt32 = s)) → (thM μ f s (rM μ f) = true ∨ rM μ f < 12) → LKo R f k s t a w (afM μ f s (rM μ f)) → R μ)
theorem MR.enter {R : nMem → Prop} (h : MR R) : ∀ (μ : nMem) (f k e : Nat), f < 12 → k < 12 → μ.1 104 27 = nI (f + 1) → μ.1 128 f = nI k → μ.1 129 f = 0 → (¬ μ.1 117 k = 0 → μ.1 122 k = nI e) → e < 3 → (¬ μ.1 117 k = 0 → ¬ μ.1 120 k < μ.1 106 e → R (fiM (ms (cnM μ k 2) 120 k (μ.1 104 3)) f k)) → ((μ.1 117 k = 0 ∨ μ.1 120 k < μ.1 106 e) → R (ms (ms μ 130 f 0) 129 f (if μ.1 117 k = 0 then 2 else if μ.1 120 k < μ.1 113 k then 2 else 1))) → R μ := h.1
theorem MR.thru {R : nMem → Prop} (h : MR R) : ∀ (μ : nMem) (f k a : Nat) (rc : Nat → Nat) (r : Nat), f < 12 → k < 12 → μ.1 104 27 = nI (f + 1) → μ.1 128 f = nI k → μ.1 129 f = 1 → μ.1 130 f = nI a → μ.1 123 k = nI r → r ≤ 12 → (∀ i, i < r → μ.1 124 (12 * k + i) = nI (rc i) ∧ rc i < 12) → a ≤ r → (a = r → R (fiM (ms (ms (cnM μ k 1) 120 k (μ.1 104 3)) 122 k (ldM (ms (cnM μ k 1) 120 k (μ.1 104 3)) rc r)) f k)) → (a < r → ¬ μ.1 135 (rc a) = 0 → R (ms μ 129 f 2)) → (a < r → μ.1 135 (rc a) = 0 → stM μ (rc a) = false → f + 1 < 12 ∧ R (saM μ (f + 1) (rc a) 0)) → (a < r → μ.1 135 (rc a) = 0 → stM μ (rc a) = true → μ.1 120 k < sOf μ (rc a) → R (ms μ 129 f 2)) → (a < r → μ.1 135 (rc a) = 0 → stM μ (rc a) = true → ¬ μ.1 120 k < sOf μ (rc a) → R (ms μ 130 f (nI (a + 1)))) → R μ := h.2.1
theorem MR.init {R : nMem → Prop} (h : MR R) : ∀ (μ : nMem) (f k : Nat), f < 12 → k < 12 → μ.1 104 27 = nI (f + 1) → μ.1 128 f = nI k → μ.1 129 f = 2 → R (ms (ms (ms (ms (ms μ 130 f 0) 131 f 0) 133 f 0) 136 f 0) 129 f 3) → R μ := h.2.2.1
theorem MR.done {R : nMem → Prop} (h : MR R) : ∀ (μ : nMem) (f k : Nat), f < 12 → k < 12 → μ.1 104 27 = nI (f + 1) → μ.1 128 f = nI k → μ.1 129 f = 3 → μ.1 130 f = μ.1 110 k → FO μ f → R (wkX μ f k (μ.2 132 (16 * f))) → R μ := h.2.2.2.1
theorem MR.num {R : nMem → Prop} (h : MR R) : ∀ (μ : nMem) (f k a t : Nat) (n : Int32), AV μ f k a 0 n → μ.1 131 f = nI t → t < 16 → R (psM (ms μ 130 f (nI (a + 1))) f t n.toInt64) → R μ := h.2.2.2.2.1
theorem MR.neg {R : nMem → Prop} (h : MR R) : ∀ (μ : nMem) (f k a t : Nat) (n : Int32), AV μ f k a 3 n → μ.1 131 f = nI (t + 1) → t < 16 → R (psM (ms (ms μ 130 f (nI (a + 1))) 131 f (nI t)) f t (-(μ.2 132 (16 * f + t)).toInt32).toInt64) → R μ := h.2.2.2.2.2.1
theorem MR.jump {R : nMem → Prop} (h : MR R) : ∀ (μ : nMem) (f k a : Nat) (n : Int32), AV μ f k a 9 n → R (ms (ms μ 130 f (nI (a + 1))) 130 f n) → R μ := h.2.2.2.2.2.2.1
theorem MR.zero {R : nMem → Prop} (h : MR R) : ∀ (μ : nMem) (f k a t : Nat) (n : Int32), AV μ f k a 10 n → μ.1 131 f = nI (t + 1) → t < 16 → R (ms (ms (ms μ 130 f (nI (a + 1))) 131 f (nI t)) 130 f (if μ.2 132 (16 * f + t) = 0 then n else nI (a + 1))) → R μ := h.2.2.2.2.2.2.2.1
theorem MR.comb {R : nMem → Prop} (h : MR R) : ∀ (μ : nMem) (f k a t : Nat) (w n : Int32), AV μ f k a w n → (w = 4 ∨ w = 5 ∨ w = 6 ∨ w = 7 ∨ w = 8) → μ.1 131 f = nI (t + 2) → t + 1 < 16 → R (psM (ms (ms μ 130 f (nI (a + 1))) 131 f (nI t)) f t (cbM w (μ.2 132 (16 * f + t)).toInt32 (μ.2 132 (16 * f + (t + 1))).toInt32)) → R μ := h.2.2.2.2.2.2.2.2.1
theorem MR.look {R : nMem → Prop} (h : MR R) : ∀ (μ : nMem) (f k a s t : Nat) (w n : Int32), AV μ f k a w n → s < 12 → FO μ f → μ.1 131 f = nI t → t < 16 → ((w = 1 ∧ n = nI s) ∨ (w = 2 ∧ 1 ≤ t ∧ fm (μ.2 132 (16 * f + (t - 1))).toInt32 = s)) → (thM μ f s (rM μ f) = true ∨ rM μ f < 12) → LKo R f k s t a w (afM μ f s (rM μ f)) → R μ := h.2.2.2.2.2.2.2.2.2
/-! the state of an evaluation on both sides -/
abbrev EV (cd : Nat → pC) (d f k s : Nat) (γ μ : nMem) (tp at_ : Nat) : Prop := (WF cd γ) ∧ (MS cd μ) ∧ (REL γ μ) ∧ (μ.1 104 27 = nI (f + 1)) ∧ (FR γ μ f k tp at_) ∧ (RD γ k s) ∧ (¬ γ.1 (nC k) 4 = 0) ∧ (¬ γ.1 (nC k) 9 = 0) ∧ (f + 1 + fw γ 12 ≤ 12) ∧ (fw γ 12 ≤ d)
theorem EV.wf {cd : Nat → pC} {d f k s : Nat} {γ μ : nMem} {tp at_ : Nat} (h : EV cd d f k s γ μ tp at_) : WF cd γ := h.1
theorem EV.mst {cd : Nat → pC} {d f k s : Nat} {γ μ : nMem} {tp at_ : Nat} (h : EV cd d f k s γ μ tp at_) : MS cd μ := h.2.1
theorem EV.rl {cd : Nat → pC} {d f k s : Nat} {γ μ : nMem} {tp at_ : Nat} (h : EV cd d f k s γ μ tp at_) : REL γ μ := h.2.2.1
theorem EV.op {cd : Nat → pC} {d f k s : Nat} {γ μ : nMem} {tp at_ : Nat} (h : EV cd d f k s γ μ tp at_) : μ.1 104 27 = nI (f + 1) := h.2.2.2.1
theorem EV.fr {cd : Nat → pC} {d f k s : Nat} {γ μ : nMem} {tp at_ : Nat} (h : EV cd d f k s γ μ tp at_) : FR γ μ f k tp at_ := h.2.2.2.2.1
theorem EV.rd {cd : Nat → pC} {d f k s : Nat} {γ μ : nMem} {tp at_ : Nat} (h : EV cd d f k s γ μ tp at_) : RD γ k s := h.2.2.2.2.2.1
theorem EV.h4 {cd : Nat → pC} {d f k s : Nat} {γ μ : nMem} {tp at_ : Nat} (h : EV cd d f k s γ μ tp at_) : ¬ γ.1 (nC k) 4 = 0 := h.2.2.2.2.2.2.1
theorem EV.h9 {cd : Nat → pC} {d f k s : Nat} {γ μ : nMem} {tp at_ : Nat} (h : EV cd d f k s γ μ tp at_) : ¬ γ.1 (nC k) 9 = 0 := h.2.2.2.2.2.2.2.1
theorem EV.fr12 {cd : Nat → pC} {d f k s : Nat} {γ μ : nMem} {tp at_ : Nat} (h : EV cd d f k s γ μ tp at_) : f + 1 + fw γ 12 ≤ 12 := h.2.2.2.2.2.2.2.2.1
theorem EV.fd {cd : Nat → pC} {d f k s : Nat} {γ μ : nMem} {tp at_ : Nat} (h : EV cd d f k s γ μ tp at_) : fw γ 12 ≤ d := h.2.2.2.2.2.2.2.2.2
theorem FR.fo' {γ μ : nMem} {f k tp at_ : Nat} (h : FR γ μ f k tp at_) (hW : WN γ k) : FO μ f ∧ rM μ f = cN γ k ∧ ∀ i, i < cN γ k → fcM μ f i = rN γ k i := by
  obtain ⟨n1, n2, n3⟩ := hW.n
  have e : rM μ f = cN γ k := by unfold rM cN; rw [h.fo]
  have e2 : ∀ i, i < cN γ k → fcM μ f i = rN γ k i := fun i hi => by unfold fcM rN; rw [h.fc i hi]
  refine ⟨⟨?_, by rw [e]; exact n2, fun i hi => ?_⟩, e, e2⟩
  · rw [e, h.fo]; exact n1
  · rw [e] at hi
    rw [e2 i hi, h.fc i hi]; exact n3 i hi
/-- the least durability of the cells found -/
theorem ld_eq {γ μ : nMem} {k : Nat} (hR : REL γ μ) (m : nMem) (hm : ∀ s, dOf m s = dOf μ s) (rc : Nat → Nat) : ∀ i, (∀ j, j < i → rc j = rN γ k j ∧ rN γ k j < 12 ∧ γ.1 (nC (rN γ k j)) 9 = 0 ∧ (¬ γ.1 (nC (rN γ k j)) 4 = 0 → ¬ γ.1 (nN (rN γ k j)) 2 = 0)) → ldn γ k i = ldM m rc i := by
  intro i
  induction i with
  | zero => intro _; rfl
  | succ i ih =>
    intro h
    obtain ⟨h1, h2, h3, h4⟩ := h i (Nat.lt_succ_self _)
    have e : dOf m (rc i) = gd γ (rN γ k i) := by
      rw [hm, h1]
      have hc := hR.c _ h2
      unfold dOf gd
      rw [hc.fm, hc.du, if_pos h3]
      by_cases hx : γ.1 (nC (rN γ k i)) 4 = 0
      · rw [if_pos hx, if_pos hx]
      · rw [if_neg hx, if_neg hx]; exact (hc.ve (h4 hx)).2.2
    rw [ldn, ldM, ih (fun j hj => h j (by omega)), e]
theorem ld_0 {cd : Nat → pC} {γ : nMem} (h : WF cd γ) {k : Nat} (hk : k < 12) : ∀ i, i ≤ cN γ k → (∃ j, j < i ∧ gd γ (rN γ k j) = 0) → ldn γ k i = 0 := by
  intro i
  induction i with
  | zero => intro _ hx; obtain ⟨j, hj, _⟩ := hx; omega
  | succ i ih =>
    intro hi hx
    obtain ⟨a, ha, ha3⟩ := ldn_3 h hk i (by unfold cN at hi; omega)
    have hr := ((h k hk).1.n.2.2 i (by unfold cN at hi; omega)).2
    obtain ⟨b, hb, hb3⟩ := gd_3 h hr
    rw [ldn]
    by_cases hj : gd γ (rN γ k i) = 0
    · rw [hj, ha]
      rcases (show a = 0 ∨ a = 1 ∨ a = 2 by omega) with rfl | rfl | rfl <;> decide
    · obtain ⟨j, hj1, hj2⟩ := hx
      have : j < i := by
        rcases Nat.lt_or_ge j i with z | z
        · exact z
        · exact absurd (by rw [← (show j = i by omega)]; exact hj2) hj
      rw [ih (by omega) ⟨j, this, hj2⟩, hb]
      rcases (show b = 0 ∨ b = 1 ∨ b = 2 by omega) with rfl | rfl | rfl <;> decide
theorem wkX_27 {μ : nMem} {f k : Nat} {v : Int64} : (wkX μ f k v).1 104 27 = nI f := by
  unfold wkX wkM fiM
  rw [ms_o (by decide), ms_r, if_pos ⟨rfl, rfl⟩]
theorem dOf_cn {μ : nMem} {k w s : Nat} : dOf (cnM μ k w) s = dOf μ s := by
  unfold dOf; rw [cnM_o (by decide) (by decide), cnM_o (by decide) (by decide), cnM_o (by decide) (by decide)]
/-- the end of the work -/
theorem EV.work {cd : Nat → pC} {d f k : Nat} {γ μ : nMem} {tp at_ : Nat} (h : EV cd d f k 12 γ μ tp at_) (hk : k < 12) {v : Int64} (hv : v = BADv ∨ ∃ x : Int32, v = x.toInt64) : REL (wEnd γ k v) (wkX μ f k v) := by
  have hW := (h.wf k hk).1
  obtain ⟨n1, n2, n3⟩ := hW.n
  obtain ⟨g1, g2, g3⟩ := h.fr.fo' hW
  unfold wkX
  rw [g2]
  refine h.rl.work hk h.h4 hv n2 (fun i hi => (h.wf i hi).1.n.2.1) n1 (by rw [h.fr.fo]; exact n1) (fun i hi => by rw [g3 i hi]; exact (n3 i hi).1) ?_
  unfold lst lrM
  rw [cnM_o (by decide) (by decide), if_pos h.fr.rg]
  refine ld_eq h.rl _ (fun s => dOf_cn) _ _ (fun j hj => ?_)
  have hr := (n3 j hj).2
  exact ⟨g3 j hj, hr, h.rd.nw j hj, h.rd.nt j hj (by omega)⟩
