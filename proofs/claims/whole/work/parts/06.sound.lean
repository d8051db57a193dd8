/-! what a step's parts say -/
theorem ax_i_of {st : List Value} {K : Int32 → List Value → Prop} (h : ax_i st K) : ∃ x r, st = .int x :: r ∧ K x r := by
  unfold ax_i at h
  split at h
  · exact ⟨_, _, rfl, h⟩
  · exact h.elim
theorem ax_l_of {st : List Value} {K : Int64 → List Value → Prop} (h : ax_l st K) : ∃ x r, st = .long x :: r ∧ K x r := by
  unfold ax_l at h
  split at h
  · exact ⟨_, _, rfl, h⟩
  · exact h.elim
theorem ax_r_of {st : List Value} {K : Nat → List Value → Prop} (h : ax_r st K) : ∃ x r, st = .ref x :: r ∧ K x r := by
  unfold ax_r at h
  split at h
  · exact ⟨_, _, rfl, h⟩
  · exact h.elim
theorem ax_1_of {st : List Value} {K : Value → List Value → Prop} (h : ax_1 st K) : ∃ x r, st = x :: r ∧ ax_c1 x = true ∧ K x r := by
  unfold ax_1 at h
  split at h
  · exact ⟨_, _, rfl, h⟩
  · exact h.elim
theorem ax_1'_of {st : List Value} {K : Value → List Value → Prop} (h : ax_1' st K) : ∃ x r, st = x :: r ∧ K x r := by
  unfold ax_1' at h
  split at h
  · exact ⟨_, _, rfl, h⟩
  · exact h.elim
theorem ax_ld_of {ls : List (Option Value)} {i : Nat} {K : Value → Prop} (h : ax_ld ls i K) : ∃ v, ls[i]? = some (some v) ∧ K v := by
  unfold ax_ld at h
  split at h
  · rename_i v e; exact ⟨v, e, h⟩
  · exact h.elim
theorem ax_vi_of {v : Value} {K : Int32 → Prop} (h : ax_vi v K) : ∃ x, v = .int x ∧ K x := by
  unfold ax_vi at h
  split at h
  · exact ⟨_, rfl, h⟩
  · exact h.elim
theorem ax_vl_of {v : Value} {K : Int64 → Prop} (h : ax_vl v K) : ∃ x, v = .long x ∧ K x := by
  unfold ax_vl at h
  split at h
  · exact ⟨_, rfl, h⟩
  · exact h.elim
theorem ax_op_of {α : Type} {o : Option α} {K : α → Prop} (h : ax_op o K) : ∃ a, o = some a ∧ K a := by
  unfold ax_op at h
  split at h
  · exact ⟨_, rfl, h⟩
  · exact h.elim
theorem ax_sl_of {α β : Type} {q : α ⊕ β} {K : α → Prop} (h : ax_sl q K) : ∃ a, q = .inl a ∧ K a := by
  unfold ax_sl at h
  split at h
  · exact ⟨_, rfl, h⟩
  · exact h.elim
theorem ax_sr_of {α β : Type} {q : α ⊕ β} {K : β → Prop} (h : ax_sr q K) : ∃ a, q = .inr a ∧ K a := by
  unfold ax_sr at h
  split at h
  · exact h.elim
  · exact ⟨_, rfl, h⟩
theorem ax_sc_of {st : List Value} {K0 : List Value → Prop} {K : Nat → List Value → Prop} (h : ax_sc st K0 K) : (∃ r, st = .retAddr 0 :: r ∧ K0 r) ∨ ∃ a r, st = .ref a :: r ∧ K a r := by
  unfold ax_sc at h
  split at h
  · exact Or.inl ⟨_, rfl, h⟩
  · exact Or.inr ⟨_, _, rfl, h⟩
  · exact h.elim
theorem ax_nu_of {st : List Value} {K0 K : List Value → Prop} (h : ax_nu st K0 K) : (∃ r, st = .null :: r ∧ K0 r) ∨ ∃ a r, st = .ref a :: r ∧ K r := by
  unfold ax_nu at h
  split at h
  · exact Or.inl ⟨_, rfl, h⟩
  · exact Or.inr ⟨_, _, rfl, h⟩
  · exact h.elim
theorem ax_gf_of {h : ax_H} {a ci kf : Nat} {K : Value → Prop} (q : ax_gf h a ci kf K) : ∃ fs v, h.2 a = some (.inr (ci, fs)) ∧ fs[kf]? = some v ∧ K v := by
  unfold ax_gf at q
  split at q
  · rename_i c' fs e
    obtain ⟨rfl, q⟩ := q
    split at q
    · rename_i v e2; exact ⟨fs, v, e, e2, q⟩
    · exact q.elim
  · exact q.elim
theorem ax_pf_of {h : ax_H} {a ci kf : Nat} {v : Value} {K : ax_H → Prop} (q : ax_pf h a ci kf v K) : ∃ fs, h.2 a = some (.inr (ci, fs)) ∧ kf < fs.length ∧ K (ax_up h a (.inr (ci, fs.set kf v))) := by
  unfold ax_pf at q
  split at q
  · rename_i c' fs e
    obtain ⟨rfl, q⟩ := q
    exact ⟨fs, e, q⟩
  · exact q.elim
theorem ax_ga_of {h : ax_H} {a : Nat} {ty : FieldType} {i : Int32} {K : Int32 → Prop} (q : ax_ga h a ty i K) : ∃ n f, h.2 a = some (.inl (ty, n, .inl f)) ∧ vp_in i n ∧ K (f i.toNatClampNeg) := by
  unfold ax_ga at q
  split at q
  · rename_i t n f e
    obtain ⟨rfl, q⟩ := q
    exact ⟨n, f, e, q⟩
  · exact q.elim
theorem ax_gl_of {h : ax_H} {a : Nat} {i : Int32} {K : Int64 → Prop} (q : ax_gl h a i K) : ∃ n f, h.2 a = some (.inl (.long, n, .inr (.inl f))) ∧ vp_in i n ∧ K (f i.toNatClampNeg) := by
  unfold ax_gl at q
  split at q
  · rename_i t n f e
    obtain ⟨rfl, q⟩ := q
    exact ⟨n, f, e, q⟩
  · exact q.elim
theorem ax_gq_of {h : ax_H} {a : Nat} {i : Int32} {K : Option Nat → Prop} (q : ax_gq h a i K) : ∃ C n f, h.2 a = some (.inl (.object C, n, .inr (.inr (.inr (.inr f))))) ∧ vp_in i n ∧ K (f i.toNatClampNeg) := by
  unfold ax_gq at q
  split at q
  · rename_i t n f e
    obtain ⟨ht, q⟩ := q
    cases t with
    | object C => exact ⟨C, n, f, e, q⟩
    | _ => cases ht
  · exact q.elim
theorem ax_pa_of {h : ax_H} {a : Nat} {ty : FieldType} {i x : Int32} {K : ax_H → Prop} (q : ax_pa h a ty i x K) : ∃ n f, h.2 a = some (.inl (ty, n, .inl f)) ∧ vp_in i n ∧ K (ax_up h a (.inl (ty, n, .inl (upd f i.toNatClampNeg x)))) := by
  unfold ax_pa at q
  split at q
  · rename_i t n f e
    obtain ⟨rfl, q⟩ := q
    exact ⟨n, f, e, q⟩
  · exact q.elim
theorem ax_pl_of {h : ax_H} {a : Nat} {i : Int32} {x : Int64} {K : ax_H → Prop} (q : ax_pl h a i x K) : ∃ n f, h.2 a = some (.inl (.long, n, .inr (.inl f))) ∧ vp_in i n ∧ K (ax_up h a (.inl (.long, n, .inr (.inl (vp_updL f i.toNatClampNeg x))))) := by
  unfold ax_pl at q
  split at q
  · rename_i t n f e
    obtain ⟨rfl, q⟩ := q
    exact ⟨n, f, e, q⟩
  · exact q.elim
theorem ax_pq_of {cl : List vw_C} {h : ax_H} {a v : Nat} {i : Int32} {K : ax_H → Prop} (q : ax_pq cl h a i v K) : ∃ (r : vw_C) (n : Nat) (f : Nat → Option Nat) (ci : Nat) (vs : List Value), h.2 a = some (.inl (.object r.1, n, .inr (.inr (.inr (.inr f))))) ∧ h.2 v = some (.inr (ci, vs)) ∧ cl[ci]? = some r ∧ vp_in i n ∧ K (ax_up h a (.inl (.object r.1, n, .inr (.inr (.inr (.inr (va_up f i.toNatClampNeg (some v)))))))) := by
  unfold ax_pq at q
  split at q
  · rename_i t n f ci vs e1 e2
    obtain ⟨ht, q⟩ := q
    cases hr : cl[ci]? with
    | none => rw [hr] at ht; cases ht
    | some r =>
      rw [hr] at ht
      have ht : FieldType.object r.1 = t := Option.some.inj ht
      subst ht
      exact ⟨r, n, f, ci, vs, e1, e2, hr, q⟩
  · exact q.elim
theorem ax_al_of {h : ax_H} {a : Nat} {K : Nat → Prop} (q : ax_al h a K) : ∃ t n f, h.2 a = some (.inl (t, n, f)) ∧ K n := by
  unfold ax_al at q
  split at q
  · rename_i t n f e
    exact ⟨t, n, f, e, q⟩
  · exact q.elim
theorem ax_io_of {h : ax_H} {a ci : Nat} (q : ax_io h a ci) : ∃ fs, h.2 a = some (.inr (ci, fs)) := by
  unfold ax_io at q
  split at q
  · rename_i c' fs e
    subst q
    exact ⟨fs, e⟩
  · exact q.elim
theorem ax_cp_of {h : ax_H} {st : List Value} {K : List Value → ax_H → Prop} (q : ax_cp h st K) : ∃ (n dp : Int32) (a : Nat) (sp : Int32) (b : Nat) (r : List Value) (t1 : FieldType) (n0 : Nat) (f : Nat → Int32) (n1 : Nat) (g : Nat → Int32), st = .int n :: .int dp :: .ref a :: .int sp :: .ref b :: r ∧ h.2 b = some (.inl (t1, n0, .inl f)) ∧ h.2 a = some (.inl (t1, n1, .inl g)) ∧ refKind t1 = false ∧ ¬ sp < 0 ∧ ¬ dp < 0 ∧ ¬ n < 0 ∧ sp.toNatClampNeg + n.toNatClampNeg ≤ n0 ∧ dp.toNatClampNeg + n.toNatClampNeg ≤ n1 ∧ (∀ i, i < n.toNatClampNeg → fits t1 (.int (f (sp.toNatClampNeg + i))) = true) ∧ ax_w8 r ∧ K r (ax_up h a (.inl (t1, n1, .inl (va_cpy f g sp.toNatClampNeg dp.toNatClampNeg n.toNatClampNeg)))) := by
  unfold ax_cp at q
  split at q
  · rename_i n dp a sp b r
    split at q
    · rename_i t0 n0 f t1 n1 g e1 e2
      obtain ⟨rfl, q⟩ := q
      exact ⟨n, dp, a, sp, b, r, t0, n0, f, n1, g, rfl, e1, e2, q⟩
    · exact q.elim
  · exact q.elim
theorem ax_ft_n {ad rc : Nat → Nat} {ty : FieldType} {v : Value} (h : ax_ft ty v) : narrow ty (ax_v ad rc v) = ax_v ad rc v := by
  unfold ax_ft at h
  split at h
  all_goals first
    | rfl
    | (rcases h with rfl | rfl <;> rfl)
    | exact h.elim
theorem ax_ft_f {ad rc : Nat → Nat} {ty : FieldType} {v : Value} (h : ax_ft ty v) : fits ty (ax_v ad rc v) = true := by
  unfold ax_ft at h
  split at h
  all_goals first
    | rfl
    | (rcases h with rfl | rfl <;> rfl)
    | exact h.elim
theorem ax_e_arr (ad rc : Nat → Nat) (cT : FieldType → ClassId) (t : FieldType) (n : Nat) (f : (Nat → Int32) ⊕ (Nat → Int64) ⊕ (Nat → UInt32) ⊕ (Nat → UInt64) ⊕ (Nat → Option Nat)) : ∃ g, ax_e ad rc cT (.inl (t, n, f)) = .inl (cT t, n, g) := by
  rcases f with f | f | f | f | f
  · exact ⟨_, rfl⟩
  · exact ⟨_, rfl⟩
  · exact ⟨_, rfl⟩
  · exact ⟨_, rfl⟩
  · exact ⟨_, rfl⟩
/-! what the tables must say -/
def ax_ak (h : ax_H) : Prop := ∀ i t a, h.2 i = some (.inl (t, a)) → ax_kt t = true
def ax_nr : Value → Bool
  | .ref _ => false
  | .retAddr _ => false
  | _ => true
theorem ax_nr_v {ad rc : Nat → Nat} {v : Value} (h : ax_nr v = true) : ax_v ad rc v = v := by cases v <;> first | rfl | (simp [ax_nr] at h)
theorem ax_nr_vs {ad rc : Nat → Nat} {fs : List Value} (h : ∀ v ∈ fs, ax_nr v = true) : fs.map (ax_v ad rc) = fs := by
  have : fs.map (ax_v ad rc) = fs.map id := List.map_congr_left fun v hv => ax_nr_v (h v hv)
  rw [this, List.map_id]
theorem ax_nr_w {n : Nat} {v : Value} (h : ax_nr v = true) : ax_vw n v := fun i e => by subst e; simp [ax_nr] at h
theorem ax_ak_up {h : ax_H} {i : Nat} {e : ax_E} (hak : ax_ak h) (he : ∀ t a, e = .inl (t, a) → ax_kt t = true) : ax_ak (ax_up h i e) := by
  intro j t a hj
  by_cases q : j = i
  · subst q
    have : e = .inl (t, a) := by simpa [ax_up] using hj
    exact he t a this
  · exact hak j t a (by simpa [ax_up, q] using hj)
theorem ax_ak_nw {h : ax_H} {e : ax_E} (hak : ax_ak h) (he : ∀ t a, e = .inl (t, a) → ax_kt t = true) : ax_ak (ax_nw h e) := by
  intro j t a hj
  by_cases q : j = h.1
  · subst q
    have : e = .inl (t, a) := by simpa [ax_nw] using hj
    exact he t a this
  · exact hak j t a (by simpa [ax_nw, q] using hj)
theorem ax_zero_of {ty : FieldType} {n : Nat} {a : vp_A} (h : ax_zero ty n = some a) : ax_kt ty = true ∧ (ty = .int ∨ ty = .char ∨ ty = .boolean ∨ ty = .long) ∧ (∀ cA : ClassId, vp_cell cA a = arrV cA n (fun _ => defaultValue ty)) ∧ componentBytes ty ≤ 8 ∧ ∀ (rc : Nat → Nat) (cT : FieldType → ClassId) (ad : Nat → Nat), (.inl (cT ty, a) : va_E) = ax_e ad rc cT (.inl (ty, a)) := by
  unfold ax_zero at h
  split at h
  · cases h; exact ⟨rfl, Or.inl rfl, fun _ => rfl, by decide, fun _ _ _ => rfl⟩
  · cases h; exact ⟨rfl, Or.inr (Or.inl rfl), fun _ => rfl, by decide, fun _ _ _ => rfl⟩
  · cases h; exact ⟨rfl, Or.inr (Or.inr (Or.inl rfl)), fun _ => rfl, by decide, fun _ _ _ => rfl⟩
  · cases h; exact ⟨rfl, Or.inr (Or.inr (Or.inr rfl)), fun _ => rfl, by decide, fun _ _ _ => rfl⟩
  · cases h
theorem ax_zero_ew {ty : FieldType} {n m : Nat} {a : vp_A} (h : ax_zero ty n = some a) : ax_ew m (.inl (ty, a)) := by
  unfold ax_zero at h
  split at h
  · cases h; trivial
  · cases h; trivial
  · cases h; trivial
  · cases h; trivial
  · cases h
def ax_okF (cl : List vw_C) (Tb : List Cond) (cn : Nat → String) (tb : ax_Tb) : Prop := ∀ co idx q, tb.1 co idx = some q → ∃ (C : String) (T : u_T) (N : Nat) (t0 : Nat → FieldType), cl[q.1]? = some (C, T, N) ∧ q.2.1 < N ∧ (∀ w ∈ u_ws C T N, w ∈ Tb) ∧ (∀ k, k < N → parseFieldDescriptor (T k).2.2.1 = some (t0 k)) ∧ (∀ a, a < N → ∀ b, b < N → a ≠ b → (T a).2.1 ≠ (T b).2.1) ∧ Cond.fieldLink (cn co) idx (T q.2.1).1 (T q.2.1).2.1 (T q.2.1).2.2.1 ∈ Tb ∧ (T q.2.1).2.2.2 = q.2.2.2 ∧ t0 q.2.1 = q.2.2.1 ∧ (q.2.2.2 = true → (T q.2.1).1 = cn q.1)
def ax_okN (cl : List vw_C) (Tb : List Cond) (cn : Nat → String) (tb : ax_Tb) (G : State → Prop) : Prop := (∀ co idx ci fs C, tb.2.2.2 co idx = some (ci, fs, C) → ∃ (T : u_T) (N : Nat) (t0 : Nat → FieldType), cl[ci]? = some (C, T, N) ∧ (∀ w ∈ u_ws C T N, w ∈ Tb) ∧ (∀ k, k < N → parseFieldDescriptor (T k).2.2.1 = some (t0 k)) ∧ fs.length = N ∧ (∀ j, j < N → defaultValue (t0 j) = vp_V fs j) ∧ (∀ v ∈ fs, ax_nr v = true) ∧ Cond.classLink (cn co) idx C ∈ Tb ∧ Cond.instantiable C N ∈ Tb ∧ Cond.initialized C ∈ Tb) ∧ ∀ s, G s → va_AO "NoteSheet$Cell" s
def ax_okK (Tb : List Cond) (cn : Nat → String) (tb : ax_Tb) (rc : Nat → Nat) (G : State → Prop) : Prop := ∀ co idx, (∀ x, tb.2.2.1 co idx = some (.int x) → Cond.constant (cn co) idx x ∈ Tb) ∧ (∀ x, tb.2.2.1 co idx = some (.long x) → Cond.constantLong (cn co) idx x ∈ Tb) ∧ (tb.2.2.1 co idx = some (.retAddr 1) → ∃ tx, ∀ s, G s → vk_R (cn co) idx tx (rc 1) s)
def ax_okP (Tb : List Cond) (own : String) (idx q : Nat) : Prop := match q with
  | 0 => Cond.methodLink own idx Lib.objectInit ∈ Tb ∧ Cond.instanceMethod Lib.objectInit ∈ Tb ∧ Cond.code Lib.objectInit ⟨#[0xb1]⟩ 1 none ∈ Tb
  | 1 => Cond.methodLink own idx Lib.Math.max.name ∈ Tb ∧ Cond.static Lib.Math.max.name ∈ Tb ∧ Cond.initialized "java/lang/Math" ∈ Tb ∧ Cond.code Lib.Math.max.name Lib.Math.max.code 2 (some .int) ∈ Tb
  | 2 => Cond.methodLink own idx Lib.Math.min.name ∈ Tb ∧ Cond.static Lib.Math.min.name ∈ Tb ∧ Cond.initialized "java/lang/Math" ∈ Tb ∧ Cond.code Lib.Math.min.name Lib.Math.min.code 2 (some .int) ∈ Tb
  | 4 => True
  | 5 => Cond.methodLink own idx arraycopyName ∈ Tb ∧ Cond.native arraycopyName ∈ Tb ∧ Cond.static arraycopyName ∈ Tb ∧ Cond.initialized "java/lang/System" ∈ Tb
  | _ => False
def ax_okC (Tb : List Cond) (cn : Nat → String) (nm : Nat → MethodName) (tb : ax_Tb) (mt : Nat → Option ax_MI) : Prop := (∀ co idx y np mc ms ci kd, tb.2.1 co idx = some (.inl y, np, mc, ms, ci, kd) → ∃ I : ax_MI, mt y = some I ∧ I.2.2.2.2.2.1 = mc ∧ I.2.2.2.2.2.2 = ms ∧ I.2.1 = ci ∧ (nm y).cls = cn ci ∧ Cond.code (nm y) I.1 I.2.2.2.1 I.2.2.2.2.1 ∈ Tb ∧ Cond.initialized (nm y).cls ∈ Tb ∧ Cond.methodLink (cn co) idx (nm y) ∈ Tb ∧ ((nm y).cls ≠ "java/lang/invoke/MethodHandle" ∧ (nm y).cls ≠ "java/lang/invoke/VarHandle" ∧ (parseMethodDescriptor (nm y).desc).map (fun d => d.parameters.length) = some np) ∧ (kd = 0 → Cond.static (nm y) ∈ Tb) ∧ (kd = 1 → Cond.instanceMethod (nm y) ∈ Tb ∧ Cond.selects (cn ci) (nm y) (nm y) ∈ Tb) ∧ (kd = 2 → (nm y).name = "<init>" ∧ I.2.2.2.2.1 = none ∧ Cond.instanceMethod (nm y) ∈ Tb)) ∧
  ∀ co idx q np mc ms ci kd, tb.2.1 co idx = some (.inr q, np, mc, ms, ci, kd) → ax_okP Tb (cn co) idx q ∧ (kd = 0 → q = 1 ∨ q = 2 ∨ q = 5) ∧ (kd = 1 → q = 4) ∧ (kd = 2 → q = 0)
/-- each method's own name: plain, its class, its constructors -/
def ax_okM (cn : Nat → String) (nm : Nat → MethodName) (mt : Nat → Option ax_MI) : Prop := ∀ y I, mt y = some I → plainFor (nm y) = true ∧ (nm y).cls = cn I.2.1 ∧ (I.2.2.1 = true → (nm y).name = "<init>") ∧ I.2.2.2.1 ≤ 21
def ax_okA (Tb : List Cond) (cT : FieldType → ClassId) (tys : List (ClassId × FieldType)) : Prop := (∀ ty, ax_kt ty = true → ∃ t0 : Nat, tys[t0]? = some (cT ty, ty)) ∧ ∀ ty, ty = .int ∨ ty = .char ∨ ty = .boolean ∨ ty = .long → Cond.arrayClass ty ∈ Tb
/-- what stays true of the state: the script, constants, what lies in no table -/
def ax_okG (A : Nat → Prop) (G : State → Prop) (rc : Nat → Nat) (L : Nat) (xs : Nat → Int32) : Prop := (∀ s U : State, G s → s.WarmedH U.vm → s.heap.size ≤ U.heap.size → (∀ q, q < s.heap.size → ¬ A q → U.heap[q]? = s.heap[q]?) → G U) ∧ (∀ U V : State, G U → V.vm = U.vm → V.heap = U.heap → G V) ∧ ∀ s, G s → va_X (rc 0) L xs s s.heap ∧ rc 0 < s.heap.size ∧ ¬ A (rc 0)
theorem ax_RA {s : State} {cA cB : ClassId} {ty : FieldType} (h1 : va_RA s cA ty) (h2 : va_RA s cB ty) : cA = cB := by
  cases ty with
  | object C =>
    obtain ⟨_, _, _, _, _, a⟩ := h1
    obtain ⟨_, _, _, _, _, b⟩ := h2
    exact Option.some.inj (a.symm.trans b)
  | _ => exact Option.some.inj (Eq.trans (Eq.symm h1) h2)
def ax_rm (d mc ms : Nat) : Room := { frames := d, cells := mc, slots := ms, locals := 40 * d }
def ax_Pc (cl : List vw_C) (D : va_G) (cT : FieldType → ClassId) (tys : List (ClassId × FieldType)) (rc : Nat → Nat) (A : Nat → Prop) (G : State → Prop) (ad : Nat → Nat) (av : List Value) (h : ax_H) : Array Value → State → Prop := fun a U =>
  a = (av.map (ax_v ad rc)).toArray ∧ (∀ q, U.heap.size ≤ q → A q) ∧ va_P D cl (ax_w ad rc cT h) U.heap ∧ va_K D cl tys U ∧ va_D A (ax_w ad rc cT h) ∧ G U
def ax_Qc (cl : List vw_C) (D : va_G) (cT : FieldType → ClassId) (rc : Nat → Nat) (A : Nat → Prop) (ad : Nat → Nat) (h : ax_H) (Q : ax_Q) : Array Value → State → Outcome → State → Prop := fun _ st oc t =>
  (∃ (v : Option Value) (h' : ax_H) (ad' : Nat → Nat), oc = .returned (v.map (ax_v ad' rc)) ∧ Q v h' ∧ h.1 ≤ h'.1 ∧ (∀ i, i < h.1 → ad' i = ad i) ∧ ax_hw h' ∧ ax_ak h' ∧ (∀ x, v = some x → ax_vw h'.1 x) ∧ va_P D cl (ax_w ad' rc cT h') t.heap ∧ va_D A (ax_w ad' rc cT h')) ∧ va_F A st t
theorem ax_Pc.blind {cl : List vw_C} {D : va_G} {cT : FieldType → ClassId} {tys : List (ClassId × FieldType)} {rc : Nat → Nat} {A : Nat → Prop} {G : State → Prop} {L : Nat} {xs : Nat → Int32} {ad : Nat → Nat} {av : List Value} {h : ax_H} (hG : ax_okG A G rc L xs) : FrameBlind (ax_Pc cl D cT tys rc A G ad av h) := by
  intro a U g mk q
  obtain ⟨q1, q2, q3, q4, q5, q6⟩ := q
  exact ⟨q1, q2, q3, va_K.moved (u := U) (U := U.calling g mk a) (Vm.Alike.refl U.vm) q4, q5, hG.2.1 U _ q6 rfl rfl⟩
section AXS
variable {p : Program} {l : Launch} {e : Env} {R : Room} {s : State} {m : MethodId} {args : Array Value} {below : List Frame} {meth : Method} {c : Code} {H : Heap} {locs : List Loc} {cells slots : Nat} {Qs : State → Prop}
variable {cl : List vw_C} {D : va_G} {cT : FieldType → ClassId} {tys : List (ClassId × FieldType)} {rc : Nat → Nat} {A : Nat → Prop} {G : State → Prop} {L : Nat} {xs : Nat → Int32} {tb : ax_Tb} {Tb : List Cond} {cn : Nat → String} {nm : Nat → MethodName} {mt : Nat → Option ax_MI}
/-- a call comes back: what it answers, and the world behind it -/
theorem ax_ret {mc ms : Nat} {pc : Nat} {ls : Array Slot} {st0 rest : List Value} {ad : Nat → Nat} {h : ax_H} {Q : ax_Q} {a : Array Value}
    (hr : va_Run p l e R s m args below meth c H locs cells slots mc ms (F0 m pc ls st0) rest (ax_Qc cl D cT rc A ad h Q a) A) (hS : va_S A s.heap H locs)
    (kk : ∀ (v : Option Value) (h' : ax_H) (ad' : Nat → Nat) (H1 : Heap) (locs1 : List Loc), Q v h' → h.1 ≤ h'.1 → (∀ i, i < h.1 → ad' i = ad i) → ax_hw h' → ax_ak h' → (∀ x, v = some x → ax_vw h'.1 x) → va_P D cl (ax_w ad' rc cT h') H1 → va_D A (ax_w ad' rc cT h') → va_S A s.heap H1 locs1 → W p l e R s m args below meth c H1 locs1 (cells + mc) (slots + ms) Qs (F0 m (pc + 3) ls ((v.map (ax_v ad' rc)).toList ++ rest))) : W p l e R s m args below meth c H locs cells slots Qs (F0 m pc ls st0) := by
  intro T hT X
  obtain ⟨v, st₀, t, T', L, h0, X', hL, e1, e2, ⟨⟨w, h', ad', hv, hq, g1, g2, g3, g4, g5, g6, g7⟩, hz, hk⟩, st⟩ := hr T hT X
  have hv : v = w.map (ax_v ad' rc) := Outcome.returned.inj hv
  subst hv
  rw [h0] at hz hk
  obtain ⟨t2, a1, b1⟩ := kk w h' ad' T'.heap (locs ++ L) hq g1 g2 g3 g4 g5 (by rw [e1]; exact g6) g7
    ⟨Nat.le_trans hS.1 (by rw [e1]; exact hz), fun q h1 h2 => by rw [e1, hk q (Nat.lt_of_lt_of_le h1 hS.1) h2]; exact hS.2.1 q h1 h2, fun q hq => by
      rcases List.mem_append.mp hq with h | h
      · exact hS.2.2 q h
      · exact hL q h⟩ T' rfl X'
  exact ⟨t2, st t2 a1, b1⟩

/-- one step of the abstract machine is one of the machine -/
theorem ax_one {d : Nat} {I : ax_MI} {Q : ax_Q} {P : ax_P} {h0 : ax_H} {ad0 : Nat → Nat}
    (hcn : ∀ (ci : Nat) (r : vw_C), cl[ci]? = some r → r.1 = cn ci) (hF : ax_okF cl Tb cn tb) (hN : ax_okN cl Tb cn tb G) (hKo : ax_okK Tb cn tb rc G) (hC : ax_okC Tb cn nm tb mt) (hM : ax_okM cn nm mt) (hAr : ax_okA Tb cT tys) (hG : ax_okG A G rc L xs) (hgood : GoodIn Tb Tb)
    (hx : p.tables.exec = Jvm.exec) (hb : c.code = I.1) (hml : c.maxLocals = I.2.2.2.1) (hown : s.vm.findClass (cn I.2.1) = some m.cls) (hin0 : I.2.2.1 = true → meth.name = "<init>") (hts : ∀ w ∈ Tb, w.before args s = true) (hK : va_K D cl tys s) (hGs : G s) (hA : ∀ q, s.heap.size ≤ q → A q)
    (hRf : d + 1 ≤ R.frames) (hRl : 40 * (d + 1) ≤ R.locals) (hRc : I.2.2.2.2.2.1 ≤ R.cells) (hRs : I.2.2.2.2.2.2 ≤ R.slots)
    (hIx : ∀ (idx pc : Nat) (ls : Array Slot) (rest : List Value) (ch : Int32) (H : Heap) (locs : List Loc) (cells slots : Nat), 8 ≤ d + 1 → decode I.1 pc = .ok (.invokevirtual idx, 3) → (∃ np mc ms ci, tb.2.1 I.2.1 idx = some (.inr 4, np, mc, ms, ci, 1)) → (rest.map fun v => v.category).sum ≤ 8 → ls.size = I.2.2.2.1 → va_S A s.heap H locs → cells ≤ R.cells → slots ≤ R.slots → (∀ (H1 : Heap) (locs1 : List Loc), H1 = H → locs1 = locs → W p l e R s m args below meth c H1 locs1 cells slots Qs (F0 m (pc + 3) ls (.int (ax_ix ch) :: rest))) → W p l e R s m args below meth c H locs cells slots Qs (F0 m pc ls (.int ch :: .ref (rc 1) :: rest)))
    (IH : ∀ y I av h Q, mt y = some I → ax_M cl L xs tb mt d y av h Q → ax_hw h → ax_ak h → (∀ v ∈ av, ax_vw h.1 v) → ∀ ad, Met l (nm y) (Cond.code (nm y) I.1 I.2.2.2.1 I.2.2.2.2.1 :: Tb) (ax_rm d I.2.2.2.2.2.1 I.2.2.2.2.2.2) (ax_Pc cl D cT tys rc A G ad av h) (ax_Qc cl D cT rc A ad h Q) I.2.2.2.2.2.1 I.2.2.2.2.2.2 A)
    (hexit : ∀ (i : Instr) pc lsA ad h H locs k n v, decode I.1 pc = .ok (i, 1) → ((i = .ireturn ∧ ∃ x ty, v = some (.int x) ∧ I.2.2.2.2.1 = some ty ∧ narrow ty (.int x) = .int x) ∨ (i = .lreturn ∧ (∃ x, v = some (.long x)) ∧ I.2.2.2.2.1 = some .long) ∨ (i = .return_ ∧ v = none ∧ I.2.2.2.2.1 = none)) → Q v h → h0.1 ≤ h.1 → (∀ i, i < h0.1 → ad i = ad0 i) → ax_hw h → ax_ak h → (∀ x, v = some x → ax_vw h.1 x) → va_P D cl (ax_w ad rc cT h) H → va_D A (ax_w ad rc cT h) → va_S A s.heap H locs → k ≤ I.2.2.2.2.2.1 → n ≤ I.2.2.2.2.2.2 → W p l e R s m args below meth c H locs k n Qs (F0 m pc lsA (v.toList.map (ax_v ad rc))))
    (hWP : ∀ pc ls st k n h, (∀ ad lsA H locs, h0.1 ≤ h.1 → (∀ i, i < h0.1 → ad i = ad0 i) → k ≤ I.2.2.2.2.2.1 → n ≤ I.2.2.2.2.2.2 → ax_hw h → ax_ak h → (∀ v ∈ st, ax_vw h.1 v) → ax_lw h.1 ls → ax_lm ad rc lsA I.2.2.2.1 ls → va_P D cl (ax_w ad rc cT h) H → va_D A (ax_w ad rc cT h) → va_S A s.heap H locs → W p l e R s m args below meth c H locs k n Qs (F0 m pc lsA (st.map (ax_v ad rc)))) → P pc ls st k n h)
    (hPW : ∀ {pc ls st k n h}, P pc ls st k n h → ∀ ad lsA H locs, h0.1 ≤ h.1 → (∀ i, i < h0.1 → ad i = ad0 i) → k ≤ I.2.2.2.2.2.1 → n ≤ I.2.2.2.2.2.2 → ax_hw h → ax_ak h → (∀ v ∈ st, ax_vw h.1 v) → ax_lw h.1 ls → ax_lm ad rc lsA I.2.2.2.1 ls → va_P D cl (ax_w ad rc cT h) H → va_D A (ax_w ad rc cT h) → va_S A s.heap H locs → W p l e R s m args below meth c H locs k n Qs (F0 m pc lsA (st.map (ax_v ad rc)))) :
    ∀ pc ls st k n h, ax_step cl L xs tb (d + 1) I (ax_M cl L xs tb mt d) Q P P pc ls st k n h → P pc ls st k n h := by
  intro pc ls st k n h hs
  refine hWP _ _ _ _ _ _ ?_
  intro ad lsA H locs h1 h2 hk hn hw hak hst hls hlm hP hD hS
  have hsz : lsA.size = I.2.2.2.1 := hlm.1
  unfold ax_step at hs
  cases hd : decode I.1 pc with
  | error e => rw [hd] at hs; exact hs.elim
  | ok q =>
  obtain ⟨i, len⟩ := q
  rw [hd] at hs
  obtain ⟨hlen, hi⟩ := hs
  cases i with
  | iconst v =>
    obtain rfl : len = 1 := by simpa [ax_len] using hlen
    replace hi : P (pc + 1) ls (.int (Int32.ofInt v) :: st) k n h := hi
    exact lv_iconst hx hb hd rfl (hPW hi ad lsA H locs h1 h2 hk hn hw hak (List.forall_mem_cons.mpr ⟨ax_vw_int, hst⟩) hls hlm hP hD hS)
  | bipush v =>
    obtain rfl : len = 2 := by simpa [ax_len] using hlen
    replace hi : P (pc + 2) ls (.int (Int8.ofInt v).toInt32 :: st) k n h := hi
    exact lv_bipush hx hb hd rfl (hPW hi ad lsA H locs h1 h2 hk hn hw hak (List.forall_mem_cons.mpr ⟨ax_vw_int, hst⟩) hls hlm hP hD hS)
  | sipush v =>
    obtain rfl : len = 3 := by simpa [ax_len] using hlen
    replace hi : P (pc + 3) ls (.int (Int16.ofInt v).toInt32 :: st) k n h := hi
    exact lv_sipush hx hb hd rfl (hPW hi ad lsA H locs h1 h2 hk hn hw hak (List.forall_mem_cons.mpr ⟨ax_vw_int, hst⟩) hls hlm hP hD hS)
  | lconst v =>
    obtain rfl : len = 1 := by simpa [ax_len] using hlen
    replace hi : P (pc + 1) ls (.long (Int64.ofNat (v : Nat)) :: st) k n h := hi
    exact lv_lconst hx hb hd rfl (hPW hi ad lsA H locs h1 h2 hk hn hw hak (List.forall_mem_cons.mpr ⟨ax_vw_long, hst⟩) hls hlm hP hD hS)
  | aconst_null  =>
    obtain rfl : len = 1 := by simpa [ax_len] using hlen
    replace hi : P (pc + 1) ls (.null :: st) k n h := hi
    exact lv_null hx hb hd (hPW hi ad lsA H locs h1 h2 hk hn hw hak (List.forall_mem_cons.mpr ⟨ax_vw_null, hst⟩) hls hlm hP hD hS)
  | ldc idx =>
    obtain rfl : len = 2 := by simpa [ax_len] using hlen
    replace hi : ax_op (tb.2.2.1 I.2.1 idx) (fun v => ax_ki v = true ∧ P (pc + 2) ls (v :: st) k n h) := hi
    cases hq : tb.2.2.1 I.2.1 idx with
    | none => rw [hq] at hi; exact hi.elim
    | some v =>
    rw [hq] at hi
    obtain ⟨hv, hi⟩ := hi
    rcases v with x | x | x | x | _ | x | x
    · exact lv_ldc hx hb hown (hts _ ((hKo I.2.1 idx).1 x hq)) hd (hPW hi ad lsA H locs h1 h2 hk hn hw hak (List.forall_mem_cons.mpr ⟨ax_vw_int, hst⟩) hls hlm hP hD hS)
    · cases hv
    · cases hv
    · cases hv
    · cases hv
    · cases hv
    · obtain rfl : x = 1 := by
        rcases x with _ | _ | x
        · cases hv
        · rfl
        · cases hv
      obtain ⟨tx, htx⟩ := (hKo I.2.1 idx).2.2 hq
      exact va_ldcS hx hb hown (htx s hGs) hd (hPW hi ad lsA H locs h1 h2 hk hn hw hak (List.forall_mem_cons.mpr ⟨ax_vw_con, hst⟩) hls hlm hP hD hS)
  | ldc2_w idx =>
    obtain rfl : len = 3 := by simpa [ax_len] using hlen
    replace hi : ax_op (tb.2.2.1 I.2.1 idx) (fun v => ax_vl v fun x => P (pc + 3) ls (.long x :: st) k n h) := hi
    cases hq : tb.2.2.1 I.2.1 idx with
    | none => rw [hq] at hi; exact hi.elim
    | some v =>
    rw [hq] at hi
    rcases v with x | x | x | x | _ | x | x
    · exact hi.elim
    · replace hi : P (pc + 3) ls (.long x :: st) k n h := hi
      exact lv_ldc2 hx hb hown (hts _ ((hKo I.2.1 idx).2.1 x hq)) hd (hPW hi ad lsA H locs h1 h2 hk hn hw hak (List.forall_mem_cons.mpr ⟨ax_vw_long, hst⟩) hls hlm hP hD hS)
    · exact hi.elim
    · exact hi.elim
    · exact hi.elim
    · exact hi.elim
    · exact hi.elim
  | iload j =>
    obtain rfl : len = 2 := by simpa [ax_len] using hlen
    replace hi : ax_ld ls j (fun v => ax_vi v fun x => P (pc + 2) ls (.int x :: st) k n h) := hi
    replace hi := ax_ld_of hi
    obtain ⟨v, hv, hi⟩ := hi
    replace hi := ax_vi_of hi
    obtain ⟨x, rfl, hi⟩ := hi
    exact lv_iload hx hb hd (hlm.2.2.2 _ _ hv) (hPW hi ad lsA H locs h1 h2 hk hn hw hak (List.forall_mem_cons.mpr ⟨ax_vw_int, hst⟩) hls hlm hP hD hS)
  | iload_n j =>
    obtain rfl : len = 1 := by simpa [ax_len] using hlen
    replace hi : ax_ld ls j (fun v => ax_vi v fun x => P (pc + 1) ls (.int x :: st) k n h) := hi
    replace hi := ax_ld_of hi
    obtain ⟨v, hv, hi⟩ := hi
    replace hi := ax_vi_of hi
    obtain ⟨x, rfl, hi⟩ := hi
    exact lv_iload_n hx hb hd rfl (hlm.2.2.2 _ _ hv) (hPW hi ad lsA H locs h1 h2 hk hn hw hak (List.forall_mem_cons.mpr ⟨ax_vw_int, hst⟩) hls hlm hP hD hS)
  | lload j =>
    obtain rfl : len = 2 := by simpa [ax_len] using hlen
    replace hi : ax_ld ls j (fun v => ax_vl v fun x => P (pc + 2) ls (.long x :: st) k n h) := hi
    replace hi := ax_ld_of hi
    obtain ⟨v, hv, hi⟩ := hi
    replace hi := ax_vl_of hi
    obtain ⟨x, rfl, hi⟩ := hi
    exact lv_lload hx hb hd (hlm.2.2.2 _ _ hv) (hPW hi ad lsA H locs h1 h2 hk hn hw hak (List.forall_mem_cons.mpr ⟨ax_vw_long, hst⟩) hls hlm hP hD hS)
  | lload_n j =>
    obtain rfl : len = 1 := by simpa [ax_len] using hlen
    replace hi : ax_ld ls j (fun v => ax_vl v fun x => P (pc + 1) ls (.long x :: st) k n h) := hi
    replace hi := ax_ld_of hi
    obtain ⟨v, hv, hi⟩ := hi
    replace hi := ax_vl_of hi
    obtain ⟨x, rfl, hi⟩ := hi
    exact lv_lload_n hx hb hd rfl (hlm.2.2.2 _ _ hv) (hPW hi ad lsA H locs h1 h2 hk hn hw hak (List.forall_mem_cons.mpr ⟨ax_vw_long, hst⟩) hls hlm hP hD hS)
  | aload j =>
    obtain rfl : len = 2 := by simpa [ax_len] using hlen
    replace hi : ax_ld ls j (fun v => ax_isa v = true ∧ P (pc + 2) ls (v :: st) k n h) := hi
    replace hi := ax_ld_of hi
    obtain ⟨v, hv, hisa, hi⟩ := hi
    have hvl := hlm.2.2.2 _ _ hv
    have hvw := hls _ _ hv
    rcases v with x | x | x | x | _ | x | x
    · cases hisa
    · cases hisa
    · cases hisa
    · cases hisa
    · exact lv_aloadN hx hb hd hvl (hPW hi ad lsA H locs h1 h2 hk hn hw hak (List.forall_mem_cons.mpr ⟨hvw, hst⟩) hls hlm hP hD hS)
    · exact lv_aload hx hb hd hvl (hPW hi ad lsA H locs h1 h2 hk hn hw hak (List.forall_mem_cons.mpr ⟨hvw, hst⟩) hls hlm hP hD hS)
    · exact lv_aload hx hb hd hvl (hPW hi ad lsA H locs h1 h2 hk hn hw hak (List.forall_mem_cons.mpr ⟨hvw, hst⟩) hls hlm hP hD hS)
  | aload_n j =>
    obtain rfl : len = 1 := by simpa [ax_len] using hlen
    replace hi : ax_ld ls j (fun v => ax_isa v = true ∧ P (pc + 1) ls (v :: st) k n h) := hi
    replace hi := ax_ld_of hi
    obtain ⟨v, hv, hisa, hi⟩ := hi
    have hvl := hlm.2.2.2 _ _ hv
    have hvw := hls _ _ hv
    rcases v with x | x | x | x | _ | x | x
    · cases hisa
    · cases hisa
    · cases hisa
    · cases hisa
    · exact lv_aload_nN hx hb hd rfl hvl (hPW hi ad lsA H locs h1 h2 hk hn hw hak (List.forall_mem_cons.mpr ⟨hvw, hst⟩) hls hlm hP hD hS)
    · exact lv_aload_n hx hb hd rfl hvl (hPW hi ad lsA H locs h1 h2 hk hn hw hak (List.forall_mem_cons.mpr ⟨hvw, hst⟩) hls hlm hP hD hS)
    · exact lv_aload_n hx hb hd rfl hvl (hPW hi ad lsA H locs h1 h2 hk hn hw hak (List.forall_mem_cons.mpr ⟨hvw, hst⟩) hls hlm hP hD hS)
  | istore j =>
    obtain rfl : len = 2 := by simpa [ax_len] using hlen
    replace hi : ax_i st (fun x st => j < ls.length ∧ P (pc + 2) (ax_s1 ls j (.int x)) st k n h) := hi
    replace hi := ax_i_of hi
    obtain ⟨x, st, rfl, hj, hi⟩ := hi
    replace hst := (List.forall_mem_cons.mp hst).2
    exact lv_istore hx hb hd hlm.has (by rw [← hlm.2.1]; exact hj) rfl (fun ls1 hl1 => hPW hi ad ls1 H locs h1 h2 hk hn hw hak hst (hls.st1 ax_vw_int) (hlm.st1 (v := .int x) hl1) hP hD hS)
  | istore_n j =>
    obtain rfl : len = 1 := by simpa [ax_len] using hlen
    replace hi : ax_i st (fun x st => (j : Nat) < ls.length ∧ P (pc + 1) (ax_s1 ls j (.int x)) st k n h) := hi
    replace hi := ax_i_of hi
    obtain ⟨x, st, rfl, hj, hi⟩ := hi
    replace hst := (List.forall_mem_cons.mp hst).2
    exact lv_istore_n hx hb hd rfl hlm.has (by rw [← hlm.2.1]; exact hj) rfl (fun ls1 hl1 => hPW hi ad ls1 H locs h1 h2 hk hn hw hak hst (hls.st1 ax_vw_int) (hlm.st1 (v := .int x) hl1) hP hD hS)
  | lstore j =>
    obtain rfl : len = 2 := by simpa [ax_len] using hlen
    replace hi : ax_l st (fun x st => j + 1 < ls.length ∧ P (pc + 2) (ax_s2 ls j (.long x)) st k n h) := hi
    replace hi := ax_l_of hi
    obtain ⟨x, st, rfl, hj, hi⟩ := hi
    replace hst := (List.forall_mem_cons.mp hst).2
    exact lv_lstore hx hb hd hlm.has (by rw [← hlm.2.1]; exact hj) rfl (fun ls1 hl1 => hPW hi ad ls1 H locs h1 h2 hk hn hw hak hst (hls.st2 ax_vw_long) (hlm.st2 (v := .long x) hl1) hP hD hS)
  | lstore_n j =>
    obtain rfl : len = 1 := by simpa [ax_len] using hlen
    replace hi : ax_l st (fun x st => (j : Nat) + 1 < ls.length ∧ P (pc + 1) (ax_s2 ls j (.long x)) st k n h) := hi
    replace hi := ax_l_of hi
    obtain ⟨x, st, rfl, hj, hi⟩ := hi
    replace hst := (List.forall_mem_cons.mp hst).2
    exact lv_lstore_n hx hb hd rfl hlm.has (by rw [← hlm.2.1]; exact hj) rfl (fun ls1 hl1 => hPW hi ad ls1 H locs h1 h2 hk hn hw hak hst (hls.st2 ax_vw_long) (hlm.st2 (v := .long x) hl1) hP hD hS)
  | astore j =>
    obtain rfl : len = 2 := by simpa [ax_len] using hlen
    replace hi : ax_1 st (fun v st => ax_isa v = true ∧ j < ls.length ∧ P (pc + 2) (ax_s1 ls j v) st k n h) := hi
    replace hi := ax_1_of hi
    obtain ⟨v, st, rfl, hc1, hisa, hj, hi⟩ := hi
    have hvw := (List.forall_mem_cons.mp hst).1
    replace hst := (List.forall_mem_cons.mp hst).2
    rcases v with x | x | x | x | _ | x | x
    · cases hisa
    · cases hisa
    · cases hisa
    · cases hisa
    · exact lv_astoreN hx hb hd hlm.has (by rw [← hlm.2.1]; exact hj) rfl (fun ls1 hl1 => hPW hi ad ls1 H locs h1 h2 hk hn hw hak hst (hls.st1 hvw) (hlm.st1 (v := .null) hl1) hP hD hS)
    · exact lv_astore hx hb hd hlm.has (by rw [← hlm.2.1]; exact hj) rfl (fun ls1 hl1 => hPW hi ad ls1 H locs h1 h2 hk hn hw hak hst (hls.st1 hvw) (hlm.st1 (v := .ref x) hl1) hP hD hS)
    · exact lv_astore hx hb hd hlm.has (by rw [← hlm.2.1]; exact hj) rfl (fun ls1 hl1 => hPW hi ad ls1 H locs h1 h2 hk hn hw hak hst (hls.st1 hvw) (hlm.st1 (v := .retAddr x) hl1) hP hD hS)
  | astore_n j =>
    obtain rfl : len = 1 := by simpa [ax_len] using hlen
    replace hi : ax_1 st (fun v st => ax_isa v = true ∧ (j : Nat) < ls.length ∧ P (pc + 1) (ax_s1 ls j v) st k n h) := hi
    replace hi := ax_1_of hi
    obtain ⟨v, st, rfl, hc1, hisa, hj, hi⟩ := hi
    have hvw := (List.forall_mem_cons.mp hst).1
    replace hst := (List.forall_mem_cons.mp hst).2
    rcases v with x | x | x | x | _ | x | x
    · cases hisa
    · cases hisa
    · cases hisa
    · cases hisa
    · exact lv_astore_nN hx hb hd rfl hlm.has (by rw [← hlm.2.1]; exact hj) rfl (fun ls1 hl1 => hPW hi ad ls1 H locs h1 h2 hk hn hw hak hst (hls.st1 hvw) (hlm.st1 (v := .null) hl1) hP hD hS)
    · exact lv_astore_n hx hb hd rfl hlm.has (by rw [← hlm.2.1]; exact hj) rfl (fun ls1 hl1 => hPW hi ad ls1 H locs h1 h2 hk hn hw hak hst (hls.st1 hvw) (hlm.st1 (v := .ref x) hl1) hP hD hS)
    · exact lv_astore_n hx hb hd rfl hlm.has (by rw [← hlm.2.1]; exact hj) rfl (fun ls1 hl1 => hPW hi ad ls1 H locs h1 h2 hk hn hw hak hst (hls.st1 hvw) (hlm.st1 (v := .retAddr x) hl1) hP hD hS)
  | iinc j v =>
    obtain rfl : len = 3 := by simpa [ax_len] using hlen
    replace hi : ax_ld ls j (fun w => ax_vi w fun x => P (pc + 3) (ax_s1 ls j (.int (x + Int32.ofInt v))) st k n h) := hi
    replace hi := ax_ld_of hi
    obtain ⟨w, hv, hi⟩ := hi
    replace hi := ax_vi_of hi
    obtain ⟨x, rfl, hi⟩ := hi
    obtain ⟨kk, hkk⟩ := List.getElem?_of_mem (ax_as_in (ad := ad) (rc := rc) hv)
    have hj : j < I.2.2.2.1 := by rw [← hlm.2.1]; exact (List.getElem?_eq_some_iff.mp hv).1
    exact lv_iinc hx hb hd hlm.has hkk rfl hj rfl (fun ls1 hl1 => hPW hi ad ls1 H locs h1 h2 hk hn hw hak hst (hls.st1 ax_vw_int) (hlm.st1 (v := .int (x + Int32.ofInt v)) hl1) hP hD hS)
  | iadd  =>
    obtain rfl : len = 1 := by simpa [ax_len] using hlen
    replace hi : ax_i st (fun y st => ax_i st fun x st => P (pc + 1) ls (.int (x + y) :: st) k n h) := hi
    replace hi := ax_i_of hi
    obtain ⟨y, st, rfl, hi⟩ := hi
    replace hi := ax_i_of hi
    obtain ⟨x, st, rfl, hi⟩ := hi
    replace hst := (List.forall_mem_cons.mp (List.forall_mem_cons.mp hst).2).2
    exact lv_iadd hx hb hd (hPW hi ad lsA H locs h1 h2 hk hn hw hak (List.forall_mem_cons.mpr ⟨ax_vw_int, hst⟩) hls hlm hP hD hS)
  | isub  =>
    obtain rfl : len = 1 := by simpa [ax_len] using hlen
    replace hi : ax_i st (fun y st => ax_i st fun x st => P (pc + 1) ls (.int (x - y) :: st) k n h) := hi
    replace hi := ax_i_of hi
    obtain ⟨y, st, rfl, hi⟩ := hi
    replace hi := ax_i_of hi
    obtain ⟨x, st, rfl, hi⟩ := hi
    replace hst := (List.forall_mem_cons.mp (List.forall_mem_cons.mp hst).2).2
    exact lv_isub hx hb hd (hPW hi ad lsA H locs h1 h2 hk hn hw hak (List.forall_mem_cons.mpr ⟨ax_vw_int, hst⟩) hls hlm hP hD hS)
  | imul  =>
    obtain rfl : len = 1 := by simpa [ax_len] using hlen
    replace hi : ax_i st (fun y st => ax_i st fun x st => P (pc + 1) ls (.int (x * y) :: st) k n h) := hi
    replace hi := ax_i_of hi
    obtain ⟨y, st, rfl, hi⟩ := hi
    replace hi := ax_i_of hi
    obtain ⟨x, st, rfl, hi⟩ := hi
    replace hst := (List.forall_mem_cons.mp (List.forall_mem_cons.mp hst).2).2
    exact lv_imul hx hb hd (hPW hi ad lsA H locs h1 h2 hk hn hw hak (List.forall_mem_cons.mpr ⟨ax_vw_int, hst⟩) hls hlm hP hD hS)
  | iand  =>
    obtain rfl : len = 1 := by simpa [ax_len] using hlen
    replace hi : ax_i st (fun y st => ax_i st fun x st => P (pc + 1) ls (.int (x &&& y) :: st) k n h) := hi
    replace hi := ax_i_of hi
    obtain ⟨y, st, rfl, hi⟩ := hi
    replace hi := ax_i_of hi
    obtain ⟨x, st, rfl, hi⟩ := hi
    replace hst := (List.forall_mem_cons.mp (List.forall_mem_cons.mp hst).2).2
    exact lv_iand hx hb hd (hPW hi ad lsA H locs h1 h2 hk hn hw hak (List.forall_mem_cons.mpr ⟨ax_vw_int, hst⟩) hls hlm hP hD hS)
  | ixor  =>
    obtain rfl : len = 1 := by simpa [ax_len] using hlen
    replace hi : ax_i st (fun y st => ax_i st fun x st => P (pc + 1) ls (.int (x ^^^ y) :: st) k n h) := hi
    replace hi := ax_i_of hi
    obtain ⟨y, st, rfl, hi⟩ := hi
    replace hi := ax_i_of hi
    obtain ⟨x, st, rfl, hi⟩ := hi
    replace hst := (List.forall_mem_cons.mp (List.forall_mem_cons.mp hst).2).2
    exact lv_ixor hx hb hd (hPW hi ad lsA H locs h1 h2 hk hn hw hak (List.forall_mem_cons.mpr ⟨ax_vw_int, hst⟩) hls hlm hP hD hS)
  | idiv  =>
    obtain rfl : len = 1 := by simpa [ax_len] using hlen
    replace hi : ax_i st (fun y st => ax_i st fun x st => ¬ y = 0 ∧ P (pc + 1) ls (.int (x / y) :: st) k n h) := hi
    replace hi := ax_i_of hi
    obtain ⟨y, st, rfl, hi⟩ := hi
    replace hi := ax_i_of hi
    obtain ⟨x, st, rfl, hy, hi⟩ := hi
    replace hst := (List.forall_mem_cons.mp (List.forall_mem_cons.mp hst).2).2
    exact lv_idiv hx hb hd hy (hPW hi ad lsA H locs h1 h2 hk hn hw hak (List.forall_mem_cons.mpr ⟨ax_vw_int, hst⟩) hls hlm hP hD hS)
  | irem  =>
    obtain rfl : len = 1 := by simpa [ax_len] using hlen
    replace hi : ax_i st (fun y st => ax_i st fun x st => ¬ y = 0 ∧ P (pc + 1) ls (.int (x - x / y * y) :: st) k n h) := hi
    replace hi := ax_i_of hi
    obtain ⟨y, st, rfl, hi⟩ := hi
    replace hi := ax_i_of hi
    obtain ⟨x, st, rfl, hy, hi⟩ := hi
    replace hst := (List.forall_mem_cons.mp (List.forall_mem_cons.mp hst).2).2
    exact lv_irem hx hb hd hy (hPW hi ad lsA H locs h1 h2 hk hn hw hak (List.forall_mem_cons.mpr ⟨ax_vw_int, hst⟩) hls hlm hP hD hS)
  | ineg  =>
    obtain rfl : len = 1 := by simpa [ax_len] using hlen
    replace hi : ax_i st (fun x st => P (pc + 1) ls (.int (-x) :: st) k n h) := hi
    obtain ⟨x, st, rfl, hi⟩ := ax_i_of hi
    replace hst := (List.forall_mem_cons.mp hst).2
    exact lv_ineg hx hb hd (hPW hi ad lsA H locs h1 h2 hk hn hw hak (List.forall_mem_cons.mpr ⟨ax_vw_int, hst⟩) hls hlm hP hD hS)
  | i2l  =>
    obtain rfl : len = 1 := by simpa [ax_len] using hlen
    replace hi : ax_i st (fun x st => P (pc + 1) ls (.long x.toInt64 :: st) k n h) := hi
    obtain ⟨x, st, rfl, hi⟩ := ax_i_of hi
    replace hst := (List.forall_mem_cons.mp hst).2
    exact lv_i2l hx hb hd rfl (hPW hi ad lsA H locs h1 h2 hk hn hw hak (List.forall_mem_cons.mpr ⟨ax_vw_long, hst⟩) hls hlm hP hD hS)
  | l2i  =>
    obtain rfl : len = 1 := by simpa [ax_len] using hlen
    replace hi : ax_l st (fun x st => P (pc + 1) ls (.int x.toInt32 :: st) k n h) := hi
    obtain ⟨x, st, rfl, hi⟩ := ax_l_of hi
    replace hst := (List.forall_mem_cons.mp hst).2
    exact lv_l2i hx hb hd rfl (hPW hi ad lsA H locs h1 h2 hk hn hw hak (List.forall_mem_cons.mpr ⟨ax_vw_int, hst⟩) hls hlm hP hD hS)
  | i2c  =>
    obtain rfl : len = 1 := by simpa [ax_len] using hlen
    replace hi : ax_i st (fun x st => P (pc + 1) ls (.int (x.toUInt32 % 65536).toInt32 :: st) k n h) := hi
    obtain ⟨x, st, rfl, hi⟩ := ax_i_of hi
    replace hst := (List.forall_mem_cons.mp hst).2
    exact lv_i2c hx hb hd rfl (hPW hi ad lsA H locs h1 h2 hk hn hw hak (List.forall_mem_cons.mpr ⟨ax_vw_int, hst⟩) hls hlm hP hD hS)
  | lcmp  =>
    obtain rfl : len = 1 := by simpa [ax_len] using hlen
    replace hi : ax_l st (fun y st => ax_l st fun x st => P (pc + 1) ls (.int (lg_cmp x y) :: st) k n h) := hi
    replace hi := ax_l_of hi
    obtain ⟨y, st, rfl, hi⟩ := hi
    replace hi := ax_l_of hi
    obtain ⟨x, st, rfl, hi⟩ := hi
    replace hst := (List.forall_mem_cons.mp (List.forall_mem_cons.mp hst).2).2
    exact W.lcmp hx hb hd (hPW hi ad lsA H locs h1 h2 hk hn hw hak (List.forall_mem_cons.mpr ⟨ax_vw_int, hst⟩) hls hlm hP hD hS)
  | dup  =>
    obtain rfl : len = 1 := by simpa [ax_len] using hlen
    replace hi : ax_1 st (fun v st => P (pc + 1) ls (v :: v :: st) k n h) := hi
    replace hi := ax_1_of hi
    obtain ⟨v, st, rfl, hc1, hi⟩ := hi
    obtain ⟨hv, hst⟩ := List.forall_mem_cons.mp hst
    exact lv_dup hx hb hd (by rw [ax_v_cat]; exact ax_c1_cat hc1) (hPW hi ad lsA H locs h1 h2 hk hn hw hak (List.forall_mem_cons.mpr ⟨hv, List.forall_mem_cons.mpr ⟨hv, hst⟩⟩) hls hlm hP hD hS)
  | pop  =>
    obtain rfl : len = 1 := by simpa [ax_len] using hlen
    replace hi : ax_1 st (fun v st => P (pc + 1) ls st k n h) := hi
    replace hi := ax_1_of hi
    obtain ⟨v, st, rfl, hc1, hi⟩ := hi
    obtain ⟨hv, hst⟩ := List.forall_mem_cons.mp hst
    exact lv_pop hx hb hd (by rw [ax_v_cat]; exact ax_c1_cat hc1) (hPW hi ad lsA H locs h1 h2 hk hn hw hak hst hls hlm hP hD hS)
  | dup_x1  =>
    obtain rfl : len = 1 := by simpa [ax_len] using hlen
    replace hi : ax_1 st (fun v st => ax_1 st fun w st => P (pc + 1) ls (v :: w :: v :: st) k n h) := hi
    replace hi := ax_1_of hi
    obtain ⟨v, st, rfl, hc1, hi⟩ := hi
    replace hi := ax_1_of hi
    obtain ⟨w, st, rfl, hc2, hi⟩ := hi
    obtain ⟨hv, hst⟩ := List.forall_mem_cons.mp hst
    obtain ⟨hw2, hst⟩ := List.forall_mem_cons.mp hst
    exact lv_dup_x1 hx hb hd (by rw [ax_v_cat]; exact ax_c1_cat hc1) (by rw [ax_v_cat]; exact ax_c1_cat hc2) (hPW hi ad lsA H locs h1 h2 hk hn hw hak (List.forall_mem_cons.mpr ⟨hv, List.forall_mem_cons.mpr ⟨hw2, List.forall_mem_cons.mpr ⟨hv, hst⟩⟩⟩) hls hlm hP hD hS)
  | dup_x2  =>
    obtain rfl : len = 1 := by simpa [ax_len] using hlen
    replace hi : ax_1 st (fun v st => ax_1 st fun w st => ax_1 st fun u st => P (pc + 1) ls (v :: w :: u :: v :: st) k n h) := hi
    replace hi := ax_1_of hi
    obtain ⟨v, st, rfl, hc1, hi⟩ := hi
    replace hi := ax_1_of hi
    obtain ⟨w, st, rfl, hc2, hi⟩ := hi
    replace hi := ax_1_of hi
    obtain ⟨u, st, rfl, hc3, hi⟩ := hi
    obtain ⟨hv, hst⟩ := List.forall_mem_cons.mp hst
    obtain ⟨hw2, hst⟩ := List.forall_mem_cons.mp hst
    obtain ⟨hu, hst⟩ := List.forall_mem_cons.mp hst
    exact lv_dup_x2 hx hb hd (by rw [ax_v_cat]; exact ax_c1_cat hc1) (by rw [ax_v_cat]; exact ax_c1_cat hc2) (by rw [ax_v_cat]; exact ax_c1_cat hc3) (hPW hi ad lsA H locs h1 h2 hk hn hw hak (List.forall_mem_cons.mpr ⟨hv, List.forall_mem_cons.mpr ⟨hw2, List.forall_mem_cons.mpr ⟨hu, List.forall_mem_cons.mpr ⟨hv, hst⟩⟩⟩⟩) hls hlm hP hD hS)
  | dup2  =>
    obtain rfl : len = 1 := by simpa [ax_len] using hlen
    replace hi : ax_1 st (fun v st => ax_1 st fun w st => P (pc + 1) ls (v :: w :: v :: w :: st) k n h) := hi
    replace hi := ax_1_of hi
    obtain ⟨v, st, rfl, hc1, hi⟩ := hi
    replace hi := ax_1_of hi
    obtain ⟨w, st, rfl, hc2, hi⟩ := hi
    obtain ⟨hv, hst⟩ := List.forall_mem_cons.mp hst
    obtain ⟨hw2, hst⟩ := List.forall_mem_cons.mp hst
    exact lv_dup2_11 hx hb hd (by rw [ax_v_cat]; exact ax_c1_cat hc1) (by rw [ax_v_cat]; exact ax_c1_cat hc2) (hPW hi ad lsA H locs h1 h2 hk hn hw hak (List.forall_mem_cons.mpr ⟨hv, List.forall_mem_cons.mpr ⟨hw2, List.forall_mem_cons.mpr ⟨hv, List.forall_mem_cons.mpr ⟨hw2, hst⟩⟩⟩⟩) hls hlm hP hD hS)
  | goto off =>
    obtain rfl : len = 3 := by simpa [ax_len] using hlen
    replace hi : ax_t pc off (fun t => P t ls st k n h) := hi
    obtain ⟨ht, hi⟩ := hi
    exact lv_goto hx hb hd (by rw [Int.toNat_of_nonneg ht]) (hPW hi ad lsA H locs h1 h2 hk hn hw hak hst hls hlm hP hD hS)
  | if_icmp cd off =>
    obtain rfl : len = 3 := by simpa [ax_len] using hlen
    replace hi : ax_i st (fun y st => ax_i st fun x st => ax_t pc off fun t => ax_br (ax_c cd x y) (P t ls st k n h) (P (pc + 3) ls st k n h)) := hi
    replace hi := ax_i_of hi
    obtain ⟨y, st, rfl, hi⟩ := hi
    replace hi := ax_i_of hi
    obtain ⟨x, st, rfl, ht, hi⟩ := hi
    replace hst := (List.forall_mem_cons.mp (List.forall_mem_cons.mp hst).2).2
    cases cd with
    | eq => exact lv_icmp_eq hx hb hd (by rw [Int.toNat_of_nonneg ht]) (fun z => (hPW (hi.1 z) ad lsA H locs h1 h2 hk hn hw hak hst hls hlm hP hD hS)) (fun z => (hPW (hi.2 z) ad lsA H locs h1 h2 hk hn hw hak hst hls hlm hP hD hS))
    | ne => exact lv_icmp_ne hx hb hd (by rw [Int.toNat_of_nonneg ht]) (fun z => (hPW (hi.1 z) ad lsA H locs h1 h2 hk hn hw hak hst hls hlm hP hD hS)) (fun z => (hPW (hi.2 (fun q => q z)) ad lsA H locs h1 h2 hk hn hw hak hst hls hlm hP hD hS))
    | lt => exact lv_icmp_lt hx hb hd (by rw [Int.toNat_of_nonneg ht]) (fun z => (hPW (hi.1 z) ad lsA H locs h1 h2 hk hn hw hak hst hls hlm hP hD hS)) (fun z => (hPW (hi.2 z) ad lsA H locs h1 h2 hk hn hw hak hst hls hlm hP hD hS))
    | ge => exact lv_icmp_ge hx hb hd (by rw [Int.toNat_of_nonneg ht]) (fun z => (hPW (hi.1 z) ad lsA H locs h1 h2 hk hn hw hak hst hls hlm hP hD hS)) (fun z => (hPW (hi.2 z) ad lsA H locs h1 h2 hk hn hw hak hst hls hlm hP hD hS))
    | gt => exact lv_icmp_gt hx hb hd (by rw [Int.toNat_of_nonneg ht]) (fun z => (hPW (hi.1 z) ad lsA H locs h1 h2 hk hn hw hak hst hls hlm hP hD hS)) (fun z => (hPW (hi.2 z) ad lsA H locs h1 h2 hk hn hw hak hst hls hlm hP hD hS))
    | le => exact lv_icmp_le hx hb hd (by rw [Int.toNat_of_nonneg ht]) (fun z => (hPW (hi.1 z) ad lsA H locs h1 h2 hk hn hw hak hst hls hlm hP hD hS)) (fun z => (hPW (hi.2 z) ad lsA H locs h1 h2 hk hn hw hak hst hls hlm hP hD hS))
  | ifCond cd off =>
    obtain rfl : len = 3 := by simpa [ax_len] using hlen
    replace hi : ax_i st (fun x st => ax_t pc off fun t => ax_br (ax_c cd x 0) (P t ls st k n h) (P (pc + 3) ls st k n h)) := hi
    replace hi := ax_i_of hi
    obtain ⟨x, st, rfl, ht, hi⟩ := hi
    replace hst := (List.forall_mem_cons.mp hst).2
    cases cd with
    | eq => exact lv_if_eq hx hb hd (by rw [Int.toNat_of_nonneg ht]) (fun z => (hPW (hi.1 z) ad lsA H locs h1 h2 hk hn hw hak hst hls hlm hP hD hS)) (fun z => (hPW (hi.2 z) ad lsA H locs h1 h2 hk hn hw hak hst hls hlm hP hD hS))
    | ne => exact lv_if_ne hx hb hd (by rw [Int.toNat_of_nonneg ht]) (fun z => (hPW (hi.1 z) ad lsA H locs h1 h2 hk hn hw hak hst hls hlm hP hD hS)) (fun z => (hPW (hi.2 (fun q => q z)) ad lsA H locs h1 h2 hk hn hw hak hst hls hlm hP hD hS))
    | lt => exact lv_if_lt hx hb hd (by rw [Int.toNat_of_nonneg ht]) (fun z => (hPW (hi.1 z) ad lsA H locs h1 h2 hk hn hw hak hst hls hlm hP hD hS)) (fun z => (hPW (hi.2 z) ad lsA H locs h1 h2 hk hn hw hak hst hls hlm hP hD hS))
    | ge => exact lv_if_ge hx hb hd (by rw [Int.toNat_of_nonneg ht]) (fun z => (hPW (hi.1 z) ad lsA H locs h1 h2 hk hn hw hak hst hls hlm hP hD hS)) (fun z => (hPW (hi.2 z) ad lsA H locs h1 h2 hk hn hw hak hst hls hlm hP hD hS))
    | gt => exact lv_if_gt hx hb hd (by rw [Int.toNat_of_nonneg ht]) (fun z => (hPW (hi.1 z) ad lsA H locs h1 h2 hk hn hw hak hst hls hlm hP hD hS)) (fun z => (hPW (hi.2 z) ad lsA H locs h1 h2 hk hn hw hak hst hls hlm hP hD hS))
    | le => exact lv_if_le hx hb hd (by rw [Int.toNat_of_nonneg ht]) (fun z => (hPW (hi.1 z) ad lsA H locs h1 h2 hk hn hw hak hst hls hlm hP hD hS)) (fun z => (hPW (hi.2 z) ad lsA H locs h1 h2 hk hn hw hak hst hls hlm hP hD hS))
  | ifnull off =>
    obtain rfl : len = 3 := by simpa [ax_len] using hlen
    replace hi : ax_t pc off (fun t => ax_nu st (fun st => P t ls st k n h) (fun st => P (pc + 3) ls st k n h)) := hi
    obtain ⟨ht, hi⟩ := hi
    replace hi := ax_nu_of hi
    rcases hi with ⟨r, rfl, hi⟩ | ⟨x, r, rfl, hi⟩
    · replace hst := (List.forall_mem_cons.mp hst).2
      exact lv_ifnullN hx hb hd (by rw [Int.toNat_of_nonneg ht]) (hPW hi ad lsA H locs h1 h2 hk hn hw hak hst hls hlm hP hD hS)
    · replace hst := (List.forall_mem_cons.mp hst).2
      exact lv_ifnull hx hb hd (hPW hi ad lsA H locs h1 h2 hk hn hw hak hst hls hlm hP hD hS)
  | ifnonnull off =>
    obtain rfl : len = 3 := by simpa [ax_len] using hlen
    replace hi : ax_t pc off (fun t => ax_nu st (fun st => P (pc + 3) ls st k n h) (fun st => P t ls st k n h)) := hi
    obtain ⟨ht, hi⟩ := hi
    replace hi := ax_nu_of hi
    rcases hi with ⟨r, rfl, hi⟩ | ⟨x, r, rfl, hi⟩
    · replace hst := (List.forall_mem_cons.mp hst).2
      exact lv_ifnonnullN hx hb hd (hPW hi ad lsA H locs h1 h2 hk hn hw hak hst hls hlm hP hD hS)
    · replace hst := (List.forall_mem_cons.mp hst).2
      exact lv_ifnonnull hx hb hd (by rw [Int.toNat_of_nonneg ht]) (hPW hi ad lsA H locs h1 h2 hk hn hw hak hst hls hlm hP hD hS)
  | tableswitch df lo hi2 offs =>
    replace hi : ax_i st (fun x st => ax_br (x.toInt < lo ∨ hi2 < x.toInt) (ax_t pc df fun t => P t ls st k n h) (ax_op offs[(x.toInt - lo).toNat]? fun off => ax_t pc off fun t => P t ls st k n h)) := hi
    replace hi := ax_i_of hi
    obtain ⟨x, st, rfl, hi⟩ := hi
    replace hst := (List.forall_mem_cons.mp hst).2
    by_cases hb2 : x.toInt < lo ∨ hi2 < x.toInt
    · obtain ⟨ht, hi⟩ := hi.1 hb2
      exact lv_tableOut hx hb hd hb2 (by rw [Int.toNat_of_nonneg ht]) (hPW hi ad lsA H locs h1 h2 hk hn hw hak hst hls hlm hP hD hS)
    · obtain ⟨off, ho, ht, hi⟩ := ax_op_of (hi.2 hb2)
      exact lv_tableIn hx hb hd (fun q => hb2 (Or.inl q)) (fun q => hb2 (Or.inr q)) ho (by rw [Int.toNat_of_nonneg ht]) (hPW hi ad lsA H locs h1 h2 hk hn hw hak hst hls hlm hP hD hS)
  | lookupswitch df ps =>
    replace hi : ax_i st (fun x st => (ps.toList.zip (ps.toList.drop 1)).all (fun (a, next) => a.1 < next.1) = true ∧ ax_t pc (Op.lookupswitch.offset ps.toList df x.toInt) fun t => P t ls st k n h) := hi
    replace hi := ax_i_of hi
    obtain ⟨x, st, rfl, hp, ht, hi⟩ := hi
    replace hst := (List.forall_mem_cons.mp hst).2
    exact lv_lookup hx hb hd hp rfl (by rw [Int.toNat_of_nonneg ht]) (hPW hi ad lsA H locs h1 h2 hk hn hw hak hst hls hlm hP hD hS)
  | getfield idx =>
    obtain rfl : len = 3 := by simpa [ax_len] using hlen
    replace hi : ax_op (tb.1 I.2.1 idx) (fun q => ax_r st fun a st => ax_gf h a q.1 q.2.1 fun v => P (pc + 3) ls (v :: st) k n h) := hi
    replace hi := ax_op_of hi
    obtain ⟨q, hq, hi⟩ := hi
    replace hi := ax_r_of hi
    obtain ⟨a, st, rfl, hi⟩ := hi
    replace hi := ax_gf_of hi
    obtain ⟨fs, v, ho, hv, hi⟩ := hi
    replace hst := (List.forall_mem_cons.mp hst).2
    obtain ⟨C, T, N, t0, g1, g2, g3, g4, g5, g6, g7, g8, g9⟩ := hF _ _ _ hq
    exact va_get hx hb hts g3 hown hK hP a (ax_w_at hw ho) g1 q.2.1 g2 (hts _ g6) (fun _ z => z) (by rw [List.getElem?_map, hv]; rfl) hd (hPW hi ad lsA H locs h1 h2 hk hn hw hak (List.forall_mem_cons.mpr ⟨(((hw a).2 _ ho).2 v (List.mem_of_getElem? hv)), hst⟩) hls hlm hP hD hS)
  | putfield idx =>
    obtain rfl : len = 3 := by simpa [ax_len] using hlen
    replace hi : ax_op (tb.1 I.2.1 idx) (fun q => ax_1' st fun v st => ax_ft q.2.2.1 v ∧ (q.2.2.2 = true → I.2.2.1 = true ∧ q.1 = I.2.1) ∧ ax_r st fun a st => ax_pf h a q.1 q.2.1 v fun h => P (pc + 3) ls st k n h) := hi
    replace hi := ax_op_of hi
    obtain ⟨q, hq, hi⟩ := hi
    replace hi := ax_1'_of hi
    obtain ⟨v, st, rfl, hft, hfin, hi⟩ := hi
    replace hi := ax_r_of hi
    obtain ⟨a, st, rfl, hi⟩ := hi
    replace hi := ax_pf_of hi
    obtain ⟨fs, ho, hlt, hi⟩ := hi
    have hvw := (List.forall_mem_cons.mp hst).1
    replace hst := (List.forall_mem_cons.mp (List.forall_mem_cons.mp hst).2).2
    obtain ⟨C, T, N, t0, g1, g2, g3, g4, g5, g6, g7, g8, g9⟩ := hF _ _ _ hq
    have hty : parseFieldDescriptor (T q.2.1).2.2.1 = some q.2.2.1 := by rw [g4 _ g2, g8]
    have hnar : narrow q.2.2.1 (ax_v ad rc v) = ax_v ad rc v := ax_ft_n hft
    have hfit : fits q.2.2.1 (ax_v ad rc v) = true := ax_ft_f hft
    have hset : ∀ x, (fs.map (ax_v ad rc)).set q.2.1 (ax_v ad rc x) = (fs.set q.2.1 x).map (ax_v ad rc) := fun x => by rw [List.map_set]
    have hew : ax_ew h.1 (.inr (q.1, fs.set q.2.1 v)) := fun z hz => by
      rcases List.mem_or_eq_of_mem_set hz with hz | rfl
      · exact ((hw a).2 _ ho).2 z hz
      · exact hvw
    have kk : ∀ (H1 : Heap) (locs1 : List Loc), va_P D cl ((ax_w ad rc cT h).set a (ad a, .inr (q.1, (fs.map (ax_v ad rc)).set q.2.1 (ax_v ad rc v)))) H1 → va_D A ((ax_w ad rc cT h).set a (ad a, .inr (q.1, (fs.map (ax_v ad rc)).set q.2.1 (ax_v ad rc v)))) → va_S A s.heap H1 locs1 → W p l e R s m args below meth c H1 locs1 k n Qs (F0 m (pc + 3) lsA (st.map (ax_v ad rc))) := by
      intro H1 locs1 hP1 hD1 hS1
      rw [hset] at hP1 hD1
      have e1 : (ax_w ad rc cT h).set a (ad a, .inr (q.1, (fs.set q.2.1 v).map (ax_v ad rc))) = ax_w ad rc cT (ax_up h a (.inr (q.1, fs.set q.2.1 v))) := ax_w_set (e := .inr (q.1, fs.set q.2.1 v)) hw ho
      rw [e1] at hP1 hD1
      exact hPW hi ad lsA H1 locs1 h1 h2 hk hn (ax_up_hw hw ho hew) (ax_ak_up hak (fun t a2 z => by cases z)) hst hls hlm hP1 hD1 hS1
    cases hf : q.2.2.2 with
    | false => exact va_put hx hb hts g3 t0 g4 g5 hown hK hP hD hS a (ax_w_at hw ho) g1 q.2.1 g2 (hts _ g6) (fun _ z => z) (by rw [g7]; exact hf) hty hnar hfit (by rw [List.length_map]; exact hlt) hd kk
    | true => exact va_putF hx hb hts g3 t0 g4 g5 hown hK hP hD hS a (ax_w_at hw ho) g1 q.2.1 g2 (hts _ g6) (fun _ z => z) (by rw [g7]; exact hf) (hin0 (hfin hf).1) (by rw [g9 hf, (hfin hf).2]) hty hnar hfit (by rw [List.length_map]; exact hlt) hd kk
  | iaload  =>
    obtain rfl : len = 1 := by simpa [ax_len] using hlen
    replace hi : ax_i st (fun i st => ax_sc st (fun st => vp_in i L ∧ P (pc + 1) ls (.int (xs i.toNatClampNeg) :: st) k n h) fun a st => ax_ga h a .int i fun v => P (pc + 1) ls (.int v :: st) k n h) := hi
    replace hi := ax_i_of hi
    obtain ⟨i, st, rfl, hi⟩ := hi
    replace hi := ax_sc_of hi
    rcases hi with ⟨r, rfl, hin, hi⟩ | ⟨a, r, rfl, hi⟩
    · replace hst := (List.forall_mem_cons.mp (List.forall_mem_cons.mp hst).2).2
      obtain ⟨x1, x2, x3⟩ := hG.2.2 s hGs
      exact va_sld hx hb x1 x2 x3 hS hin hd (hPW hi ad lsA H locs h1 h2 hk hn hw hak (List.forall_mem_cons.mpr ⟨ax_vw_int, hst⟩) hls hlm hP hD hS)
    · replace hst := (List.forall_mem_cons.mp (List.forall_mem_cons.mp hst).2).2
      replace hi := ax_ga_of hi
      obtain ⟨z, f, ho, hin, hi⟩ := hi
      obtain ⟨t0, ht0⟩ := hAr.1 _ (hak _ _ _ ho)
      exact va_iald hx hb hK hP a t0 (ax_w_at hw ho) ht0 hin hd (hPW hi ad lsA H locs h1 h2 hk hn hw hak (List.forall_mem_cons.mpr ⟨ax_vw_int, hst⟩) hls hlm hP hD hS)
  | caload  =>
    obtain rfl : len = 1 := by simpa [ax_len] using hlen
    replace hi : ax_i st (fun i st => ax_r st fun a st => ax_ga h a .char i fun v => P (pc + 1) ls (.int v :: st) k n h) := hi
    replace hi := ax_i_of hi
    obtain ⟨i, st, rfl, hi⟩ := hi
    replace hi := ax_r_of hi
    obtain ⟨a, st, rfl, hi⟩ := hi
    replace hst := (List.forall_mem_cons.mp (List.forall_mem_cons.mp hst).2).2
    replace hi := ax_ga_of hi
    obtain ⟨z, f, ho, hin, hi⟩ := hi
    obtain ⟨t0, ht0⟩ := hAr.1 _ (hak _ _ _ ho)
    exact va_cald hx hb hK hP a t0 (ax_w_at hw ho) ht0 hin hd (hPW hi ad lsA H locs h1 h2 hk hn hw hak (List.forall_mem_cons.mpr ⟨ax_vw_int, hst⟩) hls hlm hP hD hS)
  | baload  =>
    obtain rfl : len = 1 := by simpa [ax_len] using hlen
    replace hi : ax_i st (fun i st => ax_r st fun a st => ax_ga h a .boolean i fun v => P (pc + 1) ls (.int v :: st) k n h) := hi
    replace hi := ax_i_of hi
    obtain ⟨i, st, rfl, hi⟩ := hi
    replace hi := ax_r_of hi
    obtain ⟨a, st, rfl, hi⟩ := hi
    replace hst := (List.forall_mem_cons.mp (List.forall_mem_cons.mp hst).2).2
    replace hi := ax_ga_of hi
    obtain ⟨z, f, ho, hin, hi⟩ := hi
    obtain ⟨t0, ht0⟩ := hAr.1 _ (hak _ _ _ ho)
    exact va_zald hx hb hK hP a t0 (ax_w_at hw ho) ht0 hin hd (hPW hi ad lsA H locs h1 h2 hk hn hw hak (List.forall_mem_cons.mpr ⟨ax_vw_int, hst⟩) hls hlm hP hD hS)
  | laload  =>
    obtain rfl : len = 1 := by simpa [ax_len] using hlen
    replace hi : ax_i st (fun i st => ax_r st fun a st => ax_gl h a i fun v => P (pc + 1) ls (.long v :: st) k n h) := hi
    replace hi := ax_i_of hi
    obtain ⟨i, st, rfl, hi⟩ := hi
    replace hi := ax_r_of hi
    obtain ⟨a, st, rfl, hi⟩ := hi
    replace hst := (List.forall_mem_cons.mp (List.forall_mem_cons.mp hst).2).2
    replace hi := ax_gl_of hi
    obtain ⟨z, f, ho, hin, hi⟩ := hi
    obtain ⟨t0, ht0⟩ := hAr.1 _ (hak _ _ _ ho)
    exact va_lald hx hb hK hP a t0 (ax_w_at hw ho) ht0 hin hd (hPW hi ad lsA H locs h1 h2 hk hn hw hak (List.forall_mem_cons.mpr ⟨ax_vw_long, hst⟩) hls hlm hP hD hS)
  | aaload  =>
    obtain rfl : len = 1 := by simpa [ax_len] using hlen
    replace hi : ax_i st (fun i st => ax_r st fun a st => ax_gq h a i fun v => P (pc + 1) ls (va_rf v :: st) k n h) := hi
    replace hi := ax_i_of hi
    obtain ⟨i, st, rfl, hi⟩ := hi
    replace hi := ax_r_of hi
    obtain ⟨a, st, rfl, hi⟩ := hi
    replace hst := (List.forall_mem_cons.mp (List.forall_mem_cons.mp hst).2).2
    replace hi := ax_gq_of hi
    obtain ⟨C, z, f, ho, hin, hi⟩ := hi
    obtain ⟨t0, ht0⟩ := hAr.1 _ (hak _ _ _ ho)
    refine va_aldq hx hb hK hP a t0 (ax_w_at hw ho) ht0 hin hd ?_
    have hew := ((hw a).2 _ ho).2
    have hvw : ax_vw h.1 (va_rf (f i.toNatClampNeg)) := fun j e => hew _ j (by cases hf : f i.toNatClampNeg with | none => rw [hf] at e; cases e | some z => rw [hf] at e; cases e; rfl)
    have hv : va_rf ((f i.toNatClampNeg).map ad) = ax_v ad rc (va_rf (f i.toNatClampNeg)) := by cases f i.toNatClampNeg <;> rfl
    have kk := (hPW hi ad lsA H locs h1 h2 hk hn hw hak (List.forall_mem_cons.mpr ⟨hvw, hst⟩) hls hlm hP hD hS)
    rw [List.map_cons, ← hv] at kk
    exact kk
  | iastore  =>
    obtain rfl : len = 1 := by simpa [ax_len] using hlen
    replace hi : ax_i st (fun x st => ax_i st fun i st => ax_r st fun a st => ax_pa h a .int i x fun h => P (pc + 1) ls st k n h) := hi
    replace hi := ax_i_of hi
    obtain ⟨x, st, rfl, hi⟩ := hi
    replace hi := ax_i_of hi
    obtain ⟨i, st, rfl, hi⟩ := hi
    replace hi := ax_r_of hi
    obtain ⟨a, st, rfl, hi⟩ := hi
    replace hst := (List.forall_mem_cons.mp (List.forall_mem_cons.mp hst).2).2
    replace hst := (List.forall_mem_cons.mp hst).2
    replace hi := ax_pa_of hi
    obtain ⟨z, f, ho, hin, hi⟩ := hi
    obtain ⟨t0, ht0⟩ := hAr.1 _ (hak _ _ _ ho)
    refine va_iast hx hb hK hP hD hS a t0 (ax_w_at hw ho) ht0 hin hd ?_
    intro H1 locs1 hP1 hD1 hS1
    have e1 : (ax_w ad rc cT h).set a (ad a, .inl (cT .int, z, .inl (upd f i.toNatClampNeg x))) = ax_w ad rc cT (ax_up h a (.inl (.int, z, .inl (upd f i.toNatClampNeg x)))) := ax_w_set (e := .inl (.int, z, .inl (upd f i.toNatClampNeg x))) hw ho
    rw [e1] at hP1 hD1
    exact hPW hi ad lsA H1 locs1 h1 h2 hk hn (ax_up_hw hw ho trivial) (ax_ak_up hak (fun t a2 z => by cases z; rfl)) hst hls hlm hP1 hD1 hS1
  | castore  =>
    obtain rfl : len = 1 := by simpa [ax_len] using hlen
    replace hi : ax_i st (fun x st => ax_i st fun i st => ax_r st fun a st => ax_pa h a .char i (vp_nar .char x) fun h => P (pc + 1) ls st k n h) := hi
    replace hi := ax_i_of hi
    obtain ⟨x, st, rfl, hi⟩ := hi
    replace hi := ax_i_of hi
    obtain ⟨i, st, rfl, hi⟩ := hi
    replace hi := ax_r_of hi
    obtain ⟨a, st, rfl, hi⟩ := hi
    replace hst := (List.forall_mem_cons.mp (List.forall_mem_cons.mp hst).2).2
    replace hst := (List.forall_mem_cons.mp hst).2
    replace hi := ax_pa_of hi
    obtain ⟨z, f, ho, hin, hi⟩ := hi
    obtain ⟨t0, ht0⟩ := hAr.1 _ (hak _ _ _ ho)
    refine va_cast hx hb hK hP hD hS a t0 (ax_w_at hw ho) ht0 hin hd ?_
    intro H1 locs1 hP1 hD1 hS1
    have e1 : (ax_w ad rc cT h).set a (ad a, .inl (cT .char, z, .inl (upd f i.toNatClampNeg (vp_nar .char x)))) = ax_w ad rc cT (ax_up h a (.inl (.char, z, .inl (upd f i.toNatClampNeg (vp_nar .char x))))) := ax_w_set (e := .inl (.char, z, .inl (upd f i.toNatClampNeg (vp_nar .char x)))) hw ho
    rw [e1] at hP1 hD1
    exact hPW hi ad lsA H1 locs1 h1 h2 hk hn (ax_up_hw hw ho trivial) (ax_ak_up hak (fun t a2 z => by cases z; rfl)) hst hls hlm hP1 hD1 hS1
  | bastore  =>
    obtain rfl : len = 1 := by simpa [ax_len] using hlen
    replace hi : ax_i st (fun x st => ax_i st fun i st => ax_r st fun a st => ax_pa h a .boolean i (vp_nar .boolean x) fun h => P (pc + 1) ls st k n h) := hi
    replace hi := ax_i_of hi
    obtain ⟨x, st, rfl, hi⟩ := hi
    replace hi := ax_i_of hi
    obtain ⟨i, st, rfl, hi⟩ := hi
    replace hi := ax_r_of hi
    obtain ⟨a, st, rfl, hi⟩ := hi
    replace hst := (List.forall_mem_cons.mp (List.forall_mem_cons.mp hst).2).2
    replace hst := (List.forall_mem_cons.mp hst).2
    replace hi := ax_pa_of hi
    obtain ⟨z, f, ho, hin, hi⟩ := hi
    obtain ⟨t0, ht0⟩ := hAr.1 _ (hak _ _ _ ho)
    refine va_zast hx hb hK hP hD hS a t0 (ax_w_at hw ho) ht0 hin hd ?_
    intro H1 locs1 hP1 hD1 hS1
    have e1 : (ax_w ad rc cT h).set a (ad a, .inl (cT .boolean, z, .inl (upd f i.toNatClampNeg (vp_nar .boolean x)))) = ax_w ad rc cT (ax_up h a (.inl (.boolean, z, .inl (upd f i.toNatClampNeg (vp_nar .boolean x))))) := ax_w_set (e := .inl (.boolean, z, .inl (upd f i.toNatClampNeg (vp_nar .boolean x)))) hw ho
    rw [e1] at hP1 hD1
    exact hPW hi ad lsA H1 locs1 h1 h2 hk hn (ax_up_hw hw ho trivial) (ax_ak_up hak (fun t a2 z => by cases z; rfl)) hst hls hlm hP1 hD1 hS1
  | lastore  =>
    obtain rfl : len = 1 := by simpa [ax_len] using hlen
    replace hi : ax_l st (fun x st => ax_i st fun i st => ax_r st fun a st => ax_pl h a i x fun h => P (pc + 1) ls st k n h) := hi
    replace hi := ax_l_of hi
    obtain ⟨x, st, rfl, hi⟩ := hi
    replace hi := ax_i_of hi
    obtain ⟨i, st, rfl, hi⟩ := hi
    replace hi := ax_r_of hi
    obtain ⟨a, st, rfl, hi⟩ := hi
    replace hst := (List.forall_mem_cons.mp (List.forall_mem_cons.mp hst).2).2
    replace hst := (List.forall_mem_cons.mp hst).2
    replace hi := ax_pl_of hi
    obtain ⟨z, f, ho, hin, hi⟩ := hi
    obtain ⟨t0, ht0⟩ := hAr.1 _ (hak _ _ _ ho)
    refine va_last hx hb hK hP hD hS a t0 (ax_w_at hw ho) ht0 hin hd ?_
    intro H1 locs1 hP1 hD1 hS1
    have e1 : (ax_w ad rc cT h).set a (ad a, .inl (cT .long, z, .inr (.inl (vp_updL f i.toNatClampNeg x)))) = ax_w ad rc cT (ax_up h a (.inl (.long, z, .inr (.inl (vp_updL f i.toNatClampNeg x))))) := ax_w_set (e := .inl (.long, z, .inr (.inl (vp_updL f i.toNatClampNeg x)))) hw ho
    rw [e1] at hP1 hD1
    exact hPW hi ad lsA H1 locs1 h1 h2 hk hn (ax_up_hw hw ho trivial) (ax_ak_up hak (fun t a2 z => by cases z; rfl)) hst hls hlm hP1 hD1 hS1
  | aastore  =>
    obtain rfl : len = 1 := by simpa [ax_len] using hlen
    replace hi : ax_r st (fun v st => ax_i st fun i st => ax_r st fun a st => ax_pq cl h a i v fun h => P (pc + 1) ls st k n h) := hi
    replace hi := ax_r_of hi
    obtain ⟨v, st, rfl, hi⟩ := hi
    replace hi := ax_i_of hi
    obtain ⟨i, st, rfl, hi⟩ := hi
    replace hi := ax_r_of hi
    obtain ⟨a, st, rfl, hi⟩ := hi
    replace hst := (List.forall_mem_cons.mp (List.forall_mem_cons.mp hst).2).2
    replace hst := (List.forall_mem_cons.mp hst).2
    replace hi := ax_pq_of hi
    obtain ⟨q, z, f, ci, vs, ho, hv, hcl, hin, hi⟩ := hi
    obtain ⟨t0, ht0⟩ := hAr.1 _ (hak _ _ _ ho)
    refine va_astq (r := q) hx hb hK hP hD hS a t0 v ci (ax_w_at hw ho) ht0 (ax_w_at hw hv) hcl hin hd ?_
    intro H1 locs1 hP1 hD1 hS1
    have hf : va_up (fun j => (f j).map ad) i.toNatClampNeg (some (ad v)) = fun j => (va_up f i.toNatClampNeg (some v) j).map ad := by
      funext j
      unfold va_up
      split <;> rfl
    rw [hf] at hP1 hD1
    have e1 : (ax_w ad rc cT h).set a (ad a, .inl (cT (.object q.1), z, .inr (.inr (.inr (.inr (fun j => (va_up f i.toNatClampNeg (some v) j).map ad)))))) = ax_w ad rc cT (ax_up h a (.inl (.object q.1, z, .inr (.inr (.inr (.inr (va_up f i.toNatClampNeg (some v)))))))) := ax_w_set (e := .inl (.object q.1, z, .inr (.inr (.inr (.inr (va_up f i.toNatClampNeg (some v))))))) hw ho
    rw [e1] at hP1 hD1
    have hew : ax_ew h.1 (.inl (.object q.1, z, .inr (.inr (.inr (.inr (va_up f i.toNatClampNeg (some v))))))) := by
      intro k2 j hj
      unfold va_up at hj
      split at hj
      · cases hj
        exact ((hw v).2 _ hv).1
      · exact ((hw a).2 _ ho).2 k2 j hj
    exact hPW hi ad lsA H1 locs1 h1 h2 hk hn (ax_up_hw hw ho hew) (ax_ak_up hak (fun t a2 z => by cases z; exact hak _ _ _ ho)) hst hls hlm hP1 hD1 hS1
  | arraylength  =>
    obtain rfl : len = 1 := by simpa [ax_len] using hlen
    replace hi : ax_sc st (fun st => P (pc + 1) ls (.int (Int32.ofNat L) :: st) k n h) (fun a st => ax_al h a fun z => P (pc + 1) ls (.int (Int32.ofNat z) :: st) k n h) := hi
    replace hi := ax_sc_of hi
    rcases hi with ⟨r, rfl, hi⟩ | ⟨a, r, rfl, hi⟩
    · replace hst := (List.forall_mem_cons.mp hst).2
      obtain ⟨x1, x2, x3⟩ := hG.2.2 s hGs
      exact va_slen hx hb x1 x2 x3 hS hd (hPW hi ad lsA H locs h1 h2 hk hn hw hak (List.forall_mem_cons.mpr ⟨ax_vw_int, hst⟩) hls hlm hP hD hS)
    · replace hst := (List.forall_mem_cons.mp hst).2
      replace hi := ax_al_of hi
      obtain ⟨t, z, f, ho, hi⟩ := hi
      obtain ⟨t0, ht0⟩ := hAr.1 _ (hak _ _ _ ho)
      obtain ⟨g, hg⟩ := ax_e_arr ad rc cT t z f
      have hat := ax_w_at (ad := ad) (rc := rc) (cT := cT) hw ho
      rw [hg] at hat
      exact va_alen hx hb hK hP a t0 hat ht0 rfl hd (hPW hi ad lsA H locs h1 h2 hk hn hw hak (List.forall_mem_cons.mpr ⟨ax_vw_int, hst⟩) hls hlm hP hD hS)
  | newarray ty =>
    obtain rfl : len = 2 := by simpa [ax_len] using hlen
    replace hi : ax_i st (fun x st => ¬ x < 0 ∧ x.toNatClampNeg ≤ 1000 ∧ k + 1 ≤ I.2.2.2.2.2.1 ∧ n + x.toNatClampNeg ≤ I.2.2.2.2.2.2 ∧ ax_op (ax_zero (newarray.typeOf ty) x.toNatClampNeg) fun a => P (pc + 2) ls (.ref h.1 :: st) (k + 1) (n + x.toNatClampNeg) (ax_nw h (.inl (newarray.typeOf ty, a)))) := hi
    replace hi := ax_i_of hi
    obtain ⟨x, st, rfl, hx0, hx1, hk1, hn1, hi⟩ := hi
    replace hst := (List.forall_mem_cons.mp hst).2
    replace hi := ax_op_of hi
    obtain ⟨a0, ha0, hi⟩ := hi
    obtain ⟨z1, z2, z3, z4, z5⟩ := ax_zero_of ha0
    obtain ⟨t0, ht0⟩ := hAr.1 _ z1
    refine va_newa hx hb (hts _ (hAr.2 _ z2)) rfl hK hP hD hS hA (a0 := a0) z3 hx0 rfl (Nat.le_trans (Nat.mul_le_mul hx1 z4) (by decide)) (Nat.le_trans hk1 hRc) (Nat.le_trans hn1 hRs) hd ?_
    intro q cA H1 hK1 hP1 hD1 hS1
    have ecA : cA = cT (newarray.typeOf ty) := ax_RA (hK1.2 tys.length (cA, newarray.typeOf ty) (by simp)).2 (hK.2 t0 _ ht0).2
    subst ecA
    have e0 : ∀ ad2, (.inl (cT (newarray.typeOf ty), a0) : va_E) = ax_e ad2 rc cT (.inl (newarray.typeOf ty, a0)) := z5 rc cT
    rw [e0 (fun i => if i = h.1 then q else ad i), ax_w_nw hw] at hP1 hD1
    have hst2 : (Value.ref q :: st.map (ax_v ad rc)) = (Value.ref h.1 :: st).map (ax_v (fun i => if i = h.1 then q else ad i) rc) := by
      rw [List.map_cons, ax_vs_ag (ad := ad) (n := h.1) (fun j hj => if_neg (by omega)) hst]
      simp [ax_v]
    have kk := hPW hi (fun i => if i = h.1 then q else ad i) lsA H1 locs (Nat.le_succ_of_le h1) (fun i hi => by rw [← h2 i hi]; exact if_neg (by omega)) hk1 hn1 (ax_nw_hw hw (ax_zero_ew ha0)) (ax_ak_nw hak (fun t a2 z => by cases z; exact z1)) (List.forall_mem_cons.mpr ⟨ax_vw_ref (Nat.lt_succ_self _), fun v hv => (hst v hv).le (Nat.le_succ _)⟩) (hls.le (Nat.le_succ _)) (hlm.ag hls (fun j hj => if_neg (by omega))) hP1 hD1 hS1
    rw [← hst2] at kk
    exact kk
  | anewarray idx =>
    obtain rfl : len = 3 := by simpa [ax_len] using hlen
    replace hi : ax_i st (fun x st => ¬ x < 0 ∧ x.toNatClampNeg ≤ 1000 ∧ k + 1 ≤ I.2.2.2.2.2.1 ∧ n + x.toNatClampNeg ≤ I.2.2.2.2.2.2 ∧ ax_op (tb.2.2.2 I.2.1 idx) fun q => ax_kt (.object q.2.2) = true ∧ P (pc + 3) ls (.ref h.1 :: st) (k + 1) (n + x.toNatClampNeg) (ax_nw h (.inl (.object q.2.2, x.toNatClampNeg, .inr (.inr (.inr (.inr (fun _ => none)))))))) := hi
    replace hi := ax_i_of hi
    obtain ⟨x, st, rfl, hx0, hx1, hk1, hn1, hi⟩ := hi
    replace hst := (List.forall_mem_cons.mp hst).2
    replace hi := ax_op_of hi
    obtain ⟨⟨ci, fs, C⟩, hq0, g2, hi⟩ := hi
    have g2 : ax_kt (.object C) = true := g2
    obtain ⟨T, N, ty0, -, -, -, -, -, -, g1, -, -⟩ := hN.1 _ _ _ _ _ hq0
    have g3 : ∀ s, G s → va_AO C s := by
      have : C = "NoteSheet$Cell" := by simpa [ax_kt] using g2
      rw [this]
      exact hN.2
    obtain ⟨t0, ht0⟩ := hAr.1 _ g2
    refine va_newq hx hb hown (hts _ g1) (g3 s hGs) hK hP hD hS hA hx0 rfl (Nat.le_trans (Nat.mul_le_mul hx1 (Nat.le_refl 4)) (by decide)) (Nat.le_trans hk1 hRc) (Nat.le_trans hn1 hRs) hd ?_
    intro q cA H1 hK1 hP1 hD1 hS1
    have ecA : cA = cT (.object C) := ax_RA (hK1.2 tys.length (cA, .object C) (by simp)).2 (hK.2 t0 _ ht0).2
    subst ecA
    have e0 : ∀ ad2, (.inl (cT (.object C), x.toNatClampNeg, .inr (.inr (.inr (.inr (fun _ => none))))) : va_E) = ax_e ad2 rc cT (.inl (.object C, x.toNatClampNeg, .inr (.inr (.inr (.inr (fun _ => none)))))) := fun _ => rfl
    rw [e0 (fun i => if i = h.1 then q else ad i), ax_w_nw hw] at hP1 hD1
    have hst2 : (Value.ref q :: st.map (ax_v ad rc)) = (Value.ref h.1 :: st).map (ax_v (fun i => if i = h.1 then q else ad i) rc) := by
      rw [List.map_cons, ax_vs_ag (ad := ad) (n := h.1) (fun j hj => if_neg (by omega)) hst]
      simp [ax_v]
    have kk := hPW hi (fun i => if i = h.1 then q else ad i) lsA H1 locs (Nat.le_succ_of_le h1) (fun i hi => by rw [← h2 i hi]; exact if_neg (by omega)) hk1 hn1 (ax_nw_hw hw (fun k2 j z => by cases z)) (ax_ak_nw hak (fun t a2 z => by cases z; exact g2)) (List.forall_mem_cons.mpr ⟨ax_vw_ref (Nat.lt_succ_self _), fun v hv => (hst v hv).le (Nat.le_succ _)⟩) (hls.le (Nat.le_succ _)) (hlm.ag hls (fun j hj => if_neg (by omega))) hP1 hD1 hS1
    rw [← hst2] at kk
    exact kk
  | new idx =>
    obtain rfl : len = 3 := by simpa [ax_len] using hlen
    replace hi : ax_op (tb.2.2.2 I.2.1 idx) (fun q => k + 1 ≤ I.2.2.2.2.2.1 ∧ n + q.2.1.length ≤ I.2.2.2.2.2.2 ∧ P (pc + 3) ls (.ref h.1 :: st) (k + 1) (n + q.2.1.length) (ax_nw h (.inr (q.1, q.2.1)))) := hi
    replace hi := ax_op_of hi
    obtain ⟨⟨ci, fs, C⟩, hq0, hk1, hn1, hi⟩ := hi
    obtain ⟨T, N, ty0, g1, g2, g3, g4, g5, g6, g7, g8, g9⟩ := hN.1 _ _ _ _ _ hq0
    have g4 : fs.length = N := g4
    subst g4
    refine va_new hx hb hts g2 ty0 g3 hown (hts _ g7) (hts _ g8) (hts _ g9) hK hP hD hS hA g1 g5 (Nat.le_trans hk1 hRc) (Nat.le_trans hn1 hRs) hd ?_
    intro q H1 hP1 hD1 hS1
    have e0 : ∀ ad2, (.inr (ci, fs) : va_E) = ax_e ad2 rc cT (.inr (ci, fs)) := fun ad2 => by
      show _ = (.inr (ci, fs.map (ax_v ad2 rc)) : va_E)
      rw [ax_nr_vs g6]
    rw [e0 (fun i => if i = h.1 then q else ad i), ax_w_nw hw] at hP1 hD1
    have hst2 : (Value.ref q :: st.map (ax_v ad rc)) = (Value.ref h.1 :: st).map (ax_v (fun i => if i = h.1 then q else ad i) rc) := by
      rw [List.map_cons, ax_vs_ag (ad := ad) (n := h.1) (fun j hj => if_neg (by omega)) hst]
      simp [ax_v]
    have kk := hPW hi (fun i => if i = h.1 then q else ad i) lsA H1 locs (Nat.le_succ_of_le h1) (fun i hi => by rw [← h2 i hi]; exact if_neg (by omega)) hk1 hn1 (ax_nw_hw hw (fun v hv => ax_nr_w (g6 v hv))) (ax_ak_nw hak (fun t a2 z => by cases z)) (List.forall_mem_cons.mpr ⟨ax_vw_ref (Nat.lt_succ_self _), fun v hv => (hst v hv).le (Nat.le_succ _)⟩) (hls.le (Nat.le_succ _)) (hlm.ag hls (fun j hj => if_neg (by omega))) hP1 hD1 hS1
    rw [← hst2] at kk
    exact kk
  | invokevirtual idx =>
    obtain rfl : len = 3 := by simpa [ax_len] using hlen
    replace hi : ax_op (tb.2.1 I.2.1 idx) (fun q => ax_sm q.1 (fun y => q.2.2.2.2.2 = 1 ∧ ax_tk q.2.1 st fun as st => ax_r st fun a st => ax_io h a q.2.2.2.2.1 ∧ ax_w8 st ∧ k + q.2.2.1 ≤ I.2.2.2.2.2.1 ∧ n + q.2.2.2.1 ≤ I.2.2.2.2.2.2 ∧ ax_M cl L xs tb mt d y (.ref a :: as) h fun v h => P (pc + 3) ls (v.toList ++ st) (k + q.2.2.1) (n + q.2.2.2.1) h) fun y => q.2.2.2.2.2 = 1 ∧ ax_prim (d + 1) h y st fun st h => P (pc + 3) ls st k n h) := hi
    replace hi := ax_op_of hi
    obtain ⟨⟨tg, np, mc', ms', ci, kd⟩, hq0, hi⟩ := hi
    rcases tg with y | y
    · obtain ⟨hkd, hi⟩ := hi
      have hkd : kd = 1 := hkd
      subst hkd
      obtain ⟨hnp, hi⟩ := hi
      obtain ⟨J, c1, c2, c3, c4, c5, c6, c7, c8, c9, c10, c11, c12⟩ := hC.1 _ _ _ _ _ _ _ _ hq0
      subst c2; subst c3; subst c4
      have hnp : np ≤ st.length := hnp
      have hsp : st = (st.take np).reverse.reverse ++ st.drop np := by rw [List.reverse_reverse, List.take_append_drop]
      have hal : ((st.take np).reverse).length = np := by rw [List.length_reverse, List.length_take]; omega
      dsimp only at hi
      generalize (st.take np).reverse = as at hi hsp hal
      generalize st.drop np = st1 at hi hsp
      subst hsp
      replace hi := ax_r_of hi
      obtain ⟨a, st, rfl, hio, hw8, hk1, hn1, hi⟩ := hi
      have has : ∀ v ∈ as, ax_vw h.1 v := fun v hv => hst v (List.mem_append_left _ (List.mem_reverse.mpr hv))
      replace hst := fun v hv => hst v (List.mem_append_right _ hv)
      have ha := (List.forall_mem_cons.mp hst).1
      replace hst := (List.forall_mem_cons.mp hst).2
      obtain ⟨fs, ho⟩ := ax_io_of hio
      have hgd : GoodIn Tb (Cond.code (nm y) J.1 J.2.2.2.1 J.2.2.2.2.1 :: Tb) := fun w hw2 => by
        rcases List.mem_cons.mp hw2 with rfl | hw2
        · exact hgood _ c6
        · exact hgood w hw2
      have hR2 : (ax_rm d J.2.2.2.2.2.1 J.2.2.2.2.2.2).frames + 1 ≤ R.frames ∧ 8 + (J.2.2.2.1 + 11) + (ax_rm d J.2.2.2.2.2.1 J.2.2.2.2.2.2).locals ≤ R.locals := ⟨hRf, by have := (hM y J c1).2.2.2; show 8 + (J.2.2.2.1 + 11) + 40 * d ≤ R.locals; omega⟩
      have hcb := callB_of (R := R) np hts hgd rfl rfl rfl (hts _ c7) (hts _ c8) c9 hR2
      obtain ⟨c11a, c11b⟩ := c11 rfl
      obtain ⟨cq, hcq⟩ : ∃ r : vw_C, cl[J.2.1]? = some r := by
        obtain ⟨r, hr, -⟩ := hP a _ (ax_w_at hw ho)
        exact ⟨r, hr⟩
      have hrec : ∃ cellB : Cell, H[ad a]? = some cellB ∧ cellB.vm.isStatics = false ∧ s.vm.findClass (cn J.2.1) = some cellB.cls := by
        obtain ⟨cell, r1, r2, r3⟩ := va_recv hK hP hcq (ax_w_at hw ho)
        exact ⟨cell, r1, r2, by rw [← hcn _ _ hcq]; exact r3⟩
      have hmet := IH y J (.ref a :: as) h _ c1 hi hw hak (List.forall_mem_cons.mpr ⟨ha, has⟩) ad
      have hrun := va_runV (R := R) (H := H) (locs := locs) (cells := k) (slots := n) (meth := meth) (below := below) (e := e) (C := cn J.2.1) (b := ad a) (As := as.map (ax_v ad rc)) (rest := st.map (ax_v ad rc)) (g := F0 m pc lsA ((as.reverse ++ .ref a :: st).map (ax_v ad rc))) ⟨hx, hb, hml, hown, hts⟩ hmet ⟨hcb, hts _ c11a, hts _ c11b⟩ ⟨ax_Pc.blind hG, hrec, fun U hU hW => ⟨rfl, fun q hq2 => hA q (Nat.le_trans hS.1 (by rw [← hU]; exact hq2)), by rw [hU]; exact hP, va_K.moved hW.alike hK, hD, hG.1 s U hGs hW (by rw [hU]; exact hS.1) (fun q h3 h4 => by rw [hU]; exact hS.2.1 q h3 h4)⟩⟩ rfl (by rw [List.length_map]; exact hal) hsz (by simp [ax_v]) (lv_room (by rw [ax_v_sum]; exact hw8)) hd ⟨Nat.le_trans hk1 hRc, Nat.le_trans hn1 hRs⟩
      refine ax_ret hrun hS ?_
      intro v h' ad' H1 locs1 hq b1 b2 b3 b4 b5 hP1 hD1 hS1
      have hst2 : (v.map (ax_v ad' rc)).toList ++ st.map (ax_v ad rc) = (v.toList ++ st).map (ax_v ad' rc) := by
        rw [List.map_append, ax_vs_ag b2 hst]
        cases v <;> rfl
      rw [hst2]
      exact hPW hq ad' lsA H1 locs1 (Nat.le_trans h1 b1) (fun i hi => by rw [b2 i (Nat.lt_of_lt_of_le hi h1), h2 i hi]) hk1 hn1 b3 b4 (fun z hz => by
        rcases List.mem_append.mp hz with hz | hz
        · cases v with
          | none => cases hz
          | some v => rw [List.mem_singleton.mp hz]; exact b5 v rfl
        · exact (hst z hz).le b1) (hls.le b1) (hlm.ag hls b2) hP1 hD1 hS1
    · obtain ⟨hkd, hi⟩ := hi
      have hkd : kd = 1 := hkd
      subst hkd
      obtain ⟨c1, c2, c3, c4⟩ := hC.2 _ _ _ _ _ _ _ _ hq0
      obtain rfl : y = 4 := c3 rfl
      replace hi : ax_i st (fun ch st => match st with
        | .retAddr 1 :: st => 8 ≤ d + 1 ∧ ax_w8 st ∧ P (pc + 3) ls (.int (ax_ix ch) :: st) k n h
        | _ => False) := hi
      replace hi := ax_i_of hi
      obtain ⟨ch, st, rfl, hi⟩ := hi
      split at hi
      · rename_i st
        obtain ⟨h8, hw8, hi⟩ := hi
        replace hst := (List.forall_mem_cons.mp (List.forall_mem_cons.mp hst).2).2
        exact hIx idx pc lsA (st.map (ax_v ad rc)) ch H locs k n h8 hd ⟨np, mc', ms', ci, hq0⟩ (by rw [ax_v_sum]; exact hw8) hsz hS (Nat.le_trans hk hRc) (Nat.le_trans hn hRs) (fun H1 locs1 e1 e2 => by rw [e1, e2]; exact (hPW hi ad lsA H locs h1 h2 hk hn hw hak (List.forall_mem_cons.mpr ⟨ax_vw_int, hst⟩) hls hlm hP hD hS))
      · exact hi.elim
  | invokespecial idx =>
    obtain rfl : len = 3 := by simpa [ax_len] using hlen
    replace hi : ax_op (tb.2.1 I.2.1 idx) (fun q => ax_sm q.1 (fun y => q.2.2.2.2.2 = 2 ∧ ax_tk q.2.1 st fun as st => ax_r st fun a st => ax_w8 st ∧ k + q.2.2.1 ≤ I.2.2.2.2.2.1 ∧ n + q.2.2.2.1 ≤ I.2.2.2.2.2.2 ∧ ax_M cl L xs tb mt d y (.ref a :: as) h fun v h => P (pc + 3) ls (v.toList ++ st) (k + q.2.2.1) (n + q.2.2.2.1) h) fun y => q.2.2.2.2.2 = 2 ∧ ax_prim (d + 1) h y st fun st h => P (pc + 3) ls st k n h) := hi
    replace hi := ax_op_of hi
    obtain ⟨⟨tg, np, mc', ms', ci, kd⟩, hq0, hi⟩ := hi
    rcases tg with y | y
    · obtain ⟨hkd, hi⟩ := hi
      have hkd : kd = 2 := hkd
      subst hkd
      obtain ⟨hnp, hi⟩ := hi
      obtain ⟨J, c1, c2, c3, c4, c5, c6, c7, c8, c9, c10, c11, c12⟩ := hC.1 _ _ _ _ _ _ _ _ hq0
      subst c2; subst c3; subst c4
      have hnp : np ≤ st.length := hnp
      have hsp : st = (st.take np).reverse.reverse ++ st.drop np := by rw [List.reverse_reverse, List.take_append_drop]
      have hal : ((st.take np).reverse).length = np := by rw [List.length_reverse, List.length_take]; omega
      dsimp only at hi
      generalize (st.take np).reverse = as at hi hsp hal
      generalize st.drop np = st1 at hi hsp
      subst hsp
      replace hi := ax_r_of hi
      obtain ⟨a, st, rfl, hw8, hk1, hn1, hi⟩ := hi
      have has : ∀ v ∈ as, ax_vw h.1 v := fun v hv => hst v (List.mem_append_left _ (List.mem_reverse.mpr hv))
      replace hst := fun v hv => hst v (List.mem_append_right _ hv)
      have ha := (List.forall_mem_cons.mp hst).1
      replace hst := (List.forall_mem_cons.mp hst).2
      have hgd : GoodIn Tb (Cond.code (nm y) J.1 J.2.2.2.1 J.2.2.2.2.1 :: Tb) := fun w hw2 => by
        rcases List.mem_cons.mp hw2 with rfl | hw2
        · exact hgood _ c6
        · exact hgood w hw2
      have hR2 : (ax_rm d J.2.2.2.2.2.1 J.2.2.2.2.2.2).frames + 1 ≤ R.frames ∧ 8 + (J.2.2.2.1 + 11) + (ax_rm d J.2.2.2.2.2.1 J.2.2.2.2.2.2).locals ≤ R.locals := ⟨hRf, by have := (hM y J c1).2.2.2; show 8 + (J.2.2.2.1 + 11) + 40 * d ≤ R.locals; omega⟩
      have hcb := callB_of (R := R) np hts hgd rfl rfl rfl (hts _ c7) (hts _ c8) c9 hR2
      obtain ⟨c12a, c12b, c12c⟩ := c12 rfl
      have hmet := IH y J (.ref a :: as) h _ c1 hi hw hak (List.forall_mem_cons.mpr ⟨ha, has⟩) ad
      rw [c12b] at hmet hcb
      have hrun := va_runI (R := R) (H := H) (locs := locs) (cells := k) (slots := n) (meth := meth) (below := below) (e := e) (b := ad a) (As := as.map (ax_v ad rc)) (rest := st.map (ax_v ad rc)) (g := F0 m pc lsA ((as.reverse ++ .ref a :: st).map (ax_v ad rc))) ⟨hx, hb, hml, hown, hts⟩ hmet ⟨hcb, c12a, hts _ c12c⟩ ⟨ax_Pc.blind hG, fun U hU hW => ⟨rfl, fun q hq2 => hA q (Nat.le_trans hS.1 (by rw [← hU]; exact hq2)), by rw [hU]; exact hP, va_K.moved hW.alike hK, hD, hG.1 s U hGs hW (by rw [hU]; exact hS.1) (fun q h3 h4 => by rw [hU]; exact hS.2.1 q h3 h4)⟩⟩ rfl (by rw [List.length_map]; exact hal) hsz (by simp [ax_v]) (lv_room (by rw [ax_v_sum]; exact hw8)) hd ⟨Nat.le_trans hk1 hRc, Nat.le_trans hn1 hRs⟩
      refine ax_ret hrun hS ?_
      intro v h' ad' H1 locs1 hq b1 b2 b3 b4 b5 hP1 hD1 hS1
      have hst2 : (v.map (ax_v ad' rc)).toList ++ st.map (ax_v ad rc) = (v.toList ++ st).map (ax_v ad' rc) := by
        rw [List.map_append, ax_vs_ag b2 hst]
        cases v <;> rfl
      rw [hst2]
      exact hPW hq ad' lsA H1 locs1 (Nat.le_trans h1 b1) (fun i hi => by rw [b2 i (Nat.lt_of_lt_of_le hi h1), h2 i hi]) hk1 hn1 b3 b4 (fun z hz => by
        rcases List.mem_append.mp hz with hz | hz
        · cases v with
          | none => cases hz
          | some v => rw [List.mem_singleton.mp hz]; exact b5 v rfl
        · exact (hst z hz).le b1) (hls.le b1) (hlm.ag hls b2) hP1 hD1 hS1
    · obtain ⟨hkd, hi⟩ := hi
      have hkd : kd = 2 := hkd
      subst hkd
      obtain ⟨c1, c2, c3, c4⟩ := hC.2 _ _ _ _ _ _ _ _ hq0
      obtain rfl : y = 0 := c4 rfl
      obtain ⟨w1, w2, w3⟩ := c1
      replace hi : ax_r st (fun _ st => ax_w8 st ∧ P (pc + 3) ls st k n h) := hi
      replace hi := ax_r_of hi
      obtain ⟨a, st, rfl, hw8, hi⟩ := hi
      replace hst := (List.forall_mem_cons.mp hst).2
      exact W.objInit hx hb hown (hts _ w1) (hts _ w2) (hts _ w3) rfl (by rw [hml]; exact hsz) rfl hd (by omega) (by show 2 * 0 + _ + 12 ≤ _; rw [ax_v_sum]; have : (st.map fun v => v.category).sum ≤ 8 := hw8; omega) (hPW hi ad lsA H locs h1 h2 hk hn hw hak hst hls hlm hP hD hS)
  | invokestatic idx =>
    obtain rfl : len = 3 := by simpa [ax_len] using hlen
    replace hi : ax_op (tb.2.1 I.2.1 idx) (fun q => ax_sm q.1 (fun y => q.2.2.2.2.2 = 0 ∧ ax_tk q.2.1 st fun as st => ax_w8 st ∧ k + q.2.2.1 ≤ I.2.2.2.2.2.1 ∧ n + q.2.2.2.1 ≤ I.2.2.2.2.2.2 ∧ ax_M cl L xs tb mt d y as h fun v h => P (pc + 3) ls (v.toList ++ st) (k + q.2.2.1) (n + q.2.2.2.1) h) fun y => q.2.2.2.2.2 = 0 ∧ ax_prim (d + 1) h y st fun st h => P (pc + 3) ls st k n h) := hi
    replace hi := ax_op_of hi
    obtain ⟨⟨tg, np, mc', ms', ci, kd⟩, hq0, hi⟩ := hi
    rcases tg with y | y
    · obtain ⟨hkd, hi⟩ := hi
      have hkd : kd = 0 := hkd
      subst hkd
      obtain ⟨hnp, hi⟩ := hi
      obtain ⟨J, c1, c2, c3, c4, c5, c6, c7, c8, c9, c10, c11, c12⟩ := hC.1 _ _ _ _ _ _ _ _ hq0
      subst c2; subst c3; subst c4
      have hnp : np ≤ st.length := hnp
      have hsp : st = (st.take np).reverse.reverse ++ st.drop np := by rw [List.reverse_reverse, List.take_append_drop]
      have hal : ((st.take np).reverse).length = np := by rw [List.length_reverse, List.length_take]; omega
      dsimp only at hi
      generalize (st.take np).reverse = as at hi hsp hal
      generalize st.drop np = st1 at hi hsp
      subst hsp
      have hst0 := hst
      obtain ⟨hw8, hk1, hn1, hi⟩ := hi
      have has : ∀ v ∈ as, ax_vw h.1 v := fun v hv => hst v (List.mem_append_left _ (List.mem_reverse.mpr hv))
      replace hst := fun v hv => hst0 v (List.mem_append_right _ hv)
      have hgd : GoodIn Tb (Cond.code (nm y) J.1 J.2.2.2.1 J.2.2.2.2.1 :: Tb) := fun w hw2 => by
        rcases List.mem_cons.mp hw2 with rfl | hw2
        · exact hgood _ c6
        · exact hgood w hw2
      have hR2 : (ax_rm d J.2.2.2.2.2.1 J.2.2.2.2.2.2).frames + 1 ≤ R.frames ∧ 8 + (J.2.2.2.1 + 11) + (ax_rm d J.2.2.2.2.2.1 J.2.2.2.2.2.2).locals ≤ R.locals := ⟨hRf, by have := (hM y J c1).2.2.2; show 8 + (J.2.2.2.1 + 11) + 40 * d ≤ R.locals; omega⟩
      have hcb := callB_of (R := R) np hts hgd rfl rfl rfl (hts _ c7) (hts _ c8) c9 hR2
      have hmet := IH y J as h _ c1 hi hw hak has ad
      have hrun := va_runS (R := R) (H := H) (locs := locs) (cells := k) (slots := n) (meth := meth) (below := below) (e := e) (As := as.map (ax_v ad rc)) (rest := st1.map (ax_v ad rc)) (g := F0 m pc lsA ((as.reverse ++ st1).map (ax_v ad rc))) ⟨hx, hb, hml, hown, hts⟩ hmet ⟨hcb, hts _ (c10 rfl)⟩ ⟨ax_Pc.blind hG, fun U hU hW => ⟨rfl, fun q hq2 => hA q (Nat.le_trans hS.1 (by rw [← hU]; exact hq2)), by rw [hU]; exact hP, va_K.moved hW.alike hK, hD, hG.1 s U hGs hW (by rw [hU]; exact hS.1) (fun q h3 h4 => by rw [hU]; exact hS.2.1 q h3 h4)⟩⟩ rfl (by rw [List.length_map]; exact hal) hsz (by simp) (lv_room (by rw [ax_v_sum]; exact hw8)) hd ⟨Nat.le_trans hk1 hRc, Nat.le_trans hn1 hRs⟩
      refine ax_ret hrun hS ?_
      intro v h' ad' H1 locs1 hq b1 b2 b3 b4 b5 hP1 hD1 hS1
      have hst2 : (v.map (ax_v ad' rc)).toList ++ st1.map (ax_v ad rc) = (v.toList ++ st1).map (ax_v ad' rc) := by
        rw [List.map_append, ax_vs_ag b2 hst]
        cases v <;> rfl
      rw [hst2]
      exact hPW hq ad' lsA H1 locs1 (Nat.le_trans h1 b1) (fun i hi => by rw [b2 i (Nat.lt_of_lt_of_le hi h1), h2 i hi]) hk1 hn1 b3 b4 (fun z hz => by
        rcases List.mem_append.mp hz with hz | hz
        · cases v with
          | none => cases hz
          | some v => rw [List.mem_singleton.mp hz]; exact b5 v rfl
        · exact (hst z hz).le b1) (hls.le b1) (hlm.ag hls b2) hP1 hD1 hS1
    · obtain ⟨hkd, hi⟩ := hi
      have hkd : kd = 0 := hkd
      subst hkd
      obtain ⟨c1, c2, c3, c4⟩ := hC.2 _ _ _ _ _ _ _ _ hq0
      rcases c2 rfl with rfl | rfl | rfl
      · obtain ⟨w1, w2, w3, w4⟩ := c1
        replace hi : ax_i st (fun b st => ax_i st fun a st => ax_w8 st ∧ P (pc + 3) ls (.int (if a < b then b else a) :: st) k n h) := hi
        replace hi := ax_i_of hi
        obtain ⟨y2, st, rfl, hi⟩ := hi
        replace hi := ax_i_of hi
        obtain ⟨x2, st, rfl, hw8, hi⟩ := hi
        replace hst := (List.forall_mem_cons.mp (List.forall_mem_cons.mp hst).2).2
        exact va_mmax hx hb (by rw [hml]; exact hsz.symm) hown (hts _ w1) (hts _ w2) (hts _ w3) (hts _ w4) (by omega) (by rw [ax_v_sum]; have : (st.map fun v => v.category).sum ≤ 8 := hw8; omega) (Nat.le_trans hk hRc) (Nat.le_trans hn hRs) hd (hPW hi ad lsA H locs h1 h2 hk hn hw hak (List.forall_mem_cons.mpr ⟨ax_vw_int, hst⟩) hls hlm hP hD hS)
      · obtain ⟨w1, w2, w3, w4⟩ := c1
        replace hi : ax_i st (fun b st => ax_i st fun a st => ax_w8 st ∧ P (pc + 3) ls (.int (if b < a then b else a) :: st) k n h) := hi
        replace hi := ax_i_of hi
        obtain ⟨y2, st, rfl, hi⟩ := hi
        replace hi := ax_i_of hi
        obtain ⟨x2, st, rfl, hw8, hi⟩ := hi
        replace hst := (List.forall_mem_cons.mp (List.forall_mem_cons.mp hst).2).2
        exact va_mmin hx hb (by rw [hml]; exact hsz.symm) hown (hts _ w1) (hts _ w2) (hts _ w3) (hts _ w4) (by omega) (by rw [ax_v_sum]; have : (st.map fun v => v.category).sum ≤ 8 := hw8; omega) (Nat.le_trans hk hRc) (Nat.le_trans hn hRs) hd (hPW hi ad lsA H locs h1 h2 hk hn hw hak (List.forall_mem_cons.mpr ⟨ax_vw_int, hst⟩) hls hlm hP hD hS)
      · obtain ⟨w1, w2, w3, w4⟩ := c1
        replace hi : ax_cp h st (fun st h => P (pc + 3) ls st k n h) := hi
        replace hi := ax_cp_of hi
        obtain ⟨n2, dp, a, sp, b, r, t1, n0, f, n1, g, rfl, ho0, ho1, p2, p3, p4, p5, p6, p7, p8, p9, hi⟩ := hi
        replace hst := (List.forall_mem_cons.mp (List.forall_mem_cons.mp (List.forall_mem_cons.mp (List.forall_mem_cons.mp (List.forall_mem_cons.mp hst).2).2).2).2).2
        obtain ⟨t0, ht0⟩ := hAr.1 _ (hak _ _ _ ho0)
        refine va_copyi hx hb (by rw [hml]; exact hsz.symm) hown (hts _ w1) (hts _ w2) (hts _ w3) (hts _ w4) hK hP hD hS b a t0 t0 (ax_w_at hw ho0) (ax_w_at hw ho1) ht0 ht0 p2 p3 p4 p5 p6 p7 p8 (by omega) (by rw [ax_v_sum]; have : (r.map fun v => v.category).sum ≤ 8 := p9; have e7 : nativeFrameWords "java/lang/System" "arraycopy" 5 = 7 := (by decide +kernel); rw [e7]; omega) hd ?_
        intro H1 locs1 hP1 hD1 hS1
        have e1 : (ax_w ad rc cT h).set a (ad a, .inl (cT t1, n1, .inl (va_cpy f g sp.toNatClampNeg dp.toNatClampNeg n2.toNatClampNeg))) = ax_w ad rc cT (ax_up h a (.inl (t1, n1, .inl (va_cpy f g sp.toNatClampNeg dp.toNatClampNeg n2.toNatClampNeg)))) := ax_w_set (e := .inl (t1, n1, .inl (va_cpy f g sp.toNatClampNeg dp.toNatClampNeg n2.toNatClampNeg))) hw ho1
        rw [e1] at hP1 hD1
        exact hPW hi ad lsA H1 locs1 h1 h2 hk hn (ax_up_hw hw ho1 trivial) (ax_ak_up hak (fun t a2 z => by cases z; exact hak _ _ _ ho0)) hst hls hlm hP1 hD1 hS1
  | ireturn  =>
    obtain rfl : len = 1 := by simpa [ax_len] using hlen
    replace hi : ax_i st (fun v r => r = [] ∧ ax_op I.2.2.2.2.1 fun ty => narrow ty (.int v) = .int v ∧ k ≤ I.2.2.2.2.2.1 ∧ n ≤ I.2.2.2.2.2.2 ∧ Q (some (.int v)) h) := hi
    replace hi := ax_i_of hi
    obtain ⟨v, st, rfl, rfl, hi⟩ := hi
    replace hi := ax_op_of hi
    obtain ⟨ty, hty, hnar, -, -, hq⟩ := hi
    exact hexit .ireturn pc lsA ad h H locs k n (some (.int v)) hd (Or.inl ⟨rfl, v, ty, rfl, hty, hnar⟩) hq h1 h2 hw hak (fun x hx2 => by cases hx2; exact ax_vw_int) hP hD hS hk hn
  | lreturn  =>
    obtain rfl : len = 1 := by simpa [ax_len] using hlen
    replace hi : ax_l st (fun v r => r = [] ∧ I.2.2.2.2.1 = some .long ∧ k ≤ I.2.2.2.2.2.1 ∧ n ≤ I.2.2.2.2.2.2 ∧ Q (some (.long v)) h) := hi
    replace hi := ax_l_of hi
    obtain ⟨v, st, rfl, rfl, hty, -, -, hq⟩ := hi
    exact hexit .lreturn pc lsA ad h H locs k n (some (.long v)) hd (Or.inr (Or.inl ⟨rfl, ⟨v, rfl⟩, hty⟩)) hq h1 h2 hw hak (fun x hx2 => by cases hx2; exact ax_vw_long) hP hD hS hk hn
  | return_  =>
    obtain rfl : len = 1 := by simpa [ax_len] using hlen
    replace hi : st = [] ∧ I.2.2.2.2.1 = none ∧ k ≤ I.2.2.2.2.2.1 ∧ n ≤ I.2.2.2.2.2.2 ∧ Q none h := hi
    obtain ⟨rfl, hty, -, -, hq⟩ := hi
    exact hexit .return_ pc lsA ad h H locs k n none hd (Or.inr (Or.inr ⟨rfl, rfl, hty⟩)) hq h1 h2 hw hak (fun x hx2 => by cases hx2) hP hD hS hk hn
  | _ => exact hi.elim
end AXS