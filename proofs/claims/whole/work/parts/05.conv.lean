/-! cells by number and the heap's cells -/
def ax_v (ad rc : Nat → Nat) : Value → Value
  | .ref i => .ref (ad i)
  | .retAddr i => .ref (rc i)
  | v => v
def ax_e (ad rc : Nat → Nat) (cT : FieldType → ClassId) (e : ax_E) : va_E := match e with
  | .inl (t, n, .inl f) => .inl (cT t, n, .inl f)
  | .inl (t, n, .inr (.inl f)) => .inl (cT t, n, .inr (.inl f))
  | .inl (t, n, .inr (.inr (.inl f))) => .inl (cT t, n, .inr (.inr (.inl f)))
  | .inl (t, n, .inr (.inr (.inr (.inl f)))) => .inl (cT t, n, .inr (.inr (.inr (.inl f))))
  | .inl (t, n, .inr (.inr (.inr (.inr f)))) => .inl (cT t, n, .inr (.inr (.inr (.inr (fun j => (f j).map ad)))))
  | .inr (c, fs) => .inr (c, fs.map (ax_v ad rc))
def ax_w (ad rc : Nat → Nat) (cT : FieldType → ClassId) (h : ax_H) : va_W := (List.range h.1).map fun i => (ad i, ax_e ad rc cT ((h.2 i).getD (.inr (0, []))))
def ax_vw (n : Nat) (v : Value) : Prop := ∀ i, v = .ref i → i < n
def ax_ew (n : Nat) (e : ax_E) : Prop := match e with
  | .inl (_, _, .inr (.inr (.inr (.inr f)))) => ∀ k j, f k = some j → j < n
  | .inl _ => True
  | .inr (_, fs) => ∀ v ∈ fs, ax_vw n v
def ax_hw (h : ax_H) : Prop := ∀ i, (i < h.1 → ∃ e, h.2 i = some e) ∧ ∀ e, h.2 i = some e → i < h.1 ∧ ax_ew h.1 e
theorem ax_v_cat (ad rc : Nat → Nat) (v : Value) : (ax_v ad rc v).category = v.category := by cases v <;> rfl
theorem ax_v_sum (ad rc : Nat → Nat) (st : List Value) : ((st.map (ax_v ad rc)).map fun v => v.category) = st.map fun v => v.category := by
  rw [List.map_map]
  exact List.map_congr_left fun v _ => ax_v_cat ad rc v
theorem ax_c1_cat {v : Value} (h : ax_c1 v = true) : v.category = 1 := by cases v <;> first | rfl | (simp [ax_c1] at h)
theorem ax_c1_cat2 {v : Value} (h : ¬ ax_c1 v = true) : v.category = 2 := by cases v <;> first | rfl | (simp [ax_c1] at h)
theorem ax_vw_int {n : Nat} {x : Int32} : ax_vw n (.int x) := fun _ h => by cases h
theorem ax_vw_long {n : Nat} {x : Int64} : ax_vw n (.long x) := fun _ h => by cases h
theorem ax_vw_null {n : Nat} : ax_vw n .null := fun _ h => by cases h
theorem ax_vw_con {n i : Nat} : ax_vw n (.retAddr i) := fun _ h => by cases h
theorem ax_vw_ref {n i : Nat} (h : i < n) : ax_vw n (.ref i) := fun j e => by cases e; exact h
theorem ax_vw.le {n m : Nat} {v : Value} (h : ax_vw n v) (hn : n ≤ m) : ax_vw m v := fun i e => Nat.lt_of_lt_of_le (h i e) hn
theorem ax_v_ag {ad ad' rc : Nat → Nat} {n : Nat} {v : Value} (hag : ∀ i, i < n → ad' i = ad i) (hv : ax_vw n v) : ax_v ad' rc v = ax_v ad rc v := by
  cases v with
  | ref i => exact congrArg Value.ref (hag i (hv i rfl))
  | _ => rfl
theorem ax_vs_ag {ad ad' rc : Nat → Nat} {n : Nat} {st : List Value} (hag : ∀ i, i < n → ad' i = ad i) (hv : ∀ v ∈ st, ax_vw n v) : st.map (ax_v ad' rc) = st.map (ax_v ad rc) :=
  List.map_congr_left fun v h => ax_v_ag hag (hv v h)
theorem ax_e_ag {ad ad' rc : Nat → Nat} {cT : FieldType → ClassId} {n : Nat} {e : ax_E} (hag : ∀ i, i < n → ad' i = ad i) (he : ax_ew n e) : ax_e ad' rc cT e = ax_e ad rc cT e := by
  rcases e with ⟨t, m, (f | (f | (f | (f | f))))⟩ | ⟨c, fs⟩
  · rfl
  · rfl
  · rfl
  · rfl
  · have hf : (fun j => (f j).map ad') = fun j => (f j).map ad := by
      funext j
      cases hj : f j with
      | none => rfl
      | some k => exact congrArg some (hag k (he j k hj))
    show (Sum.inl (cT t, m, .inr (.inr (.inr (.inr (fun j => (f j).map ad'))))) : va_E) = _
    rw [hf]
    rfl
  · show (Sum.inr (c, fs.map (ax_v ad' rc)) : va_E) = _
    rw [ax_vs_ag hag he]
    rfl
theorem ax_ew.le {n m : Nat} {e : ax_E} (he : ax_ew n e) (hn : n ≤ m) : ax_ew m e := by
  rcases e with ⟨t, z, (f | (f | (f | (f | f))))⟩ | ⟨c, fs⟩
  · trivial
  · trivial
  · trivial
  · trivial
  · exact fun k j h => Nat.lt_of_lt_of_le (he k j h) hn
  · exact fun v h => (he v h).le hn
theorem ax_w_len (ad rc : Nat → Nat) (cT : FieldType → ClassId) (h : ax_H) : (ax_w ad rc cT h).length = h.1 := by simp [ax_w]
theorem ax_w_at {ad rc : Nat → Nat} {cT : FieldType → ClassId} {h : ax_H} {i : Nat} {e : ax_E} (hw : ax_hw h) (he : h.2 i = some e) : (ax_w ad rc cT h)[i]? = some (ad i, ax_e ad rc cT e) := by
  have hi := ((hw i).2 e he).1
  rw [ax_w, List.getElem?_map, List.getElem?_range hi]
  simp [he]
theorem ax_w_set {ad rc : Nat → Nat} {cT : FieldType → ClassId} {h : ax_H} {i : Nat} {e0 e : ax_E} (hw : ax_hw h) (he : h.2 i = some e0) : (ax_w ad rc cT h).set i (ad i, ax_e ad rc cT e) = ax_w ad rc cT (ax_up h i e) := by
  have hi := ((hw i).2 e0 he).1
  apply List.ext_getElem?
  intro j
  by_cases hj : j < h.1
  · rw [List.getElem?_set]
    by_cases e' : i = j
    · subst e'
      rw [if_pos rfl, if_pos (by rw [ax_w_len]; exact hi), ax_w, List.getElem?_map]
      show _ = ((List.range h.1)[i]?).map _
      rw [List.getElem?_range hi]
      simp [ax_up]
    · have e'' : ¬ j = i := fun z => e' z.symm
      rw [if_neg e', ax_w, ax_w, List.getElem?_map, List.getElem?_map]
      show ((List.range h.1)[j]?).map _ = ((List.range h.1)[j]?).map _
      rw [List.getElem?_range hj]
      simp [ax_up, e'']
  · rw [List.getElem?_eq_none (by rw [List.length_set, ax_w_len]; omega), List.getElem?_eq_none (by rw [ax_w_len]; show h.1 ≤ j; omega)]
theorem ax_up_hw {h : ax_H} {i : Nat} {e0 e : ax_E} (hw : ax_hw h) (he : h.2 i = some e0) (hn : ax_ew h.1 e) : ax_hw (ax_up h i e) := by
  have hi := ((hw i).2 e0 he).1
  intro j
  by_cases hj : j = i
  · subst hj
    refine ⟨fun _ => ⟨e, by simp [ax_up]⟩, fun e' h' => ?_⟩
    have : e = e' := by simpa [ax_up] using h'
    subst this
    exact ⟨hi, hn⟩
  · have q : (ax_up h i e).2 j = h.2 j := by simp [ax_up, hj]
    rw [q]
    exact hw j
theorem ax_w_nw {ad rc : Nat → Nat} {cT : FieldType → ClassId} {h : ax_H} {e : ax_E} {q : Nat} (hw : ax_hw h) : ax_w ad rc cT h ++ [(q, ax_e (fun i => if i = h.1 then q else ad i) rc cT e)] = ax_w (fun i => if i = h.1 then q else ad i) rc cT (ax_nw h e) := by
  have hr : (ax_nw h e).1 = h.1 + 1 := rfl
  unfold ax_w
  rw [hr, List.range_succ, List.map_append]
  congr 1
  · refine List.map_congr_left fun i hi => ?_
    have hi : i < h.1 := List.mem_range.mp hi
    have hne : ¬ i = h.1 := by omega
    obtain ⟨e', he'⟩ := (hw i).1 hi
    have hx := ((hw i).2 e' he').2
    have h1 : (ax_nw h e).2 i = some e' := by simp [ax_nw, hne, he']
    rw [h1, he']
    show (ad i, ax_e ad rc cT e') = ((if i = h.1 then q else ad i), ax_e _ rc cT e')
    rw [if_neg hne, ax_e_ag (ad := ad) (n := h.1) (fun j hj => if_neg (by omega)) hx]
  · simp [ax_nw]
theorem ax_nw_hw {h : ax_H} {e : ax_E} (hw : ax_hw h) (hn : ax_ew h.1 e) : ax_hw (ax_nw h e) := by
  intro j
  by_cases hj : j = h.1
  · subst hj
    refine ⟨fun _ => ⟨e, by simp [ax_nw]⟩, fun e' h' => ?_⟩
    have : e = e' := by simpa [ax_nw] using h'
    subst this
    exact ⟨Nat.lt_succ_self _, hn.le (Nat.le_succ _)⟩
  · have q : (ax_nw h e).2 j = h.2 j := by simp [ax_nw, hj]
    rw [q]
    refine ⟨fun z => (hw j).1 (by have : j < h.1 + 1 := z; omega), fun e' h' => ?_⟩
    obtain ⟨a, b⟩ := (hw j).2 e' h'
    exact ⟨Nat.lt_succ_of_lt a, b.le (Nat.le_succ _)⟩
/-! locals -/
def ax_lm (ad rc : Nat → Nat) (lsA : Array Slot) (ml : Nat) (ls : List (Option Value)) : Prop := lsA.size = ml ∧ ls.length = ml ∧ lv_wf lsA ∧ ∀ (i : Nat) (v : Value), ls[i]? = some (some v) → lsA[i]? = some (Slot.val (ax_v ad rc v))
def ax_lw (n : Nat) (ls : List (Option Value)) : Prop := ∀ (i : Nat) (v : Value), ls[i]? = some (some v) → ax_vw n v
def ax_as (ad rc : Nat → Nat) (ls : List (Option Value)) : List (Nat × Value) := (List.range ls.length).filterMap fun i => match ls[i]? with
  | some (some v) => some (i, ax_v ad rc v)
  | _ => none
theorem ax_as_in {ad rc : Nat → Nat} {ls : List (Option Value)} {i : Nat} {v : Value} (h : ls[i]? = some (some v)) : (i, ax_v ad rc v) ∈ ax_as ad rc ls := by
  refine List.mem_filterMap.mpr ⟨i, List.mem_range.mpr (List.getElem?_eq_some_iff.mp h).1, ?_⟩
  rw [h]
theorem ax_lm.has {ad rc : Nat → Nat} {lsA : Array Slot} {ml : Nat} {ls : List (Option Value)} (h : ax_lm ad rc lsA ml ls) : lv_has lsA ml (ax_as ad rc ls) := by
  refine ⟨h.1, h.2.2.1, fun q hq => ?_⟩
  obtain ⟨i, -, hi⟩ := List.mem_filterMap.mp hq
  split at hi
  · rename_i v hv
    cases hi
    exact h.2.2.2 i v hv
  · cases hi
theorem ax_s1_len (ls : List (Option Value)) (i : Nat) (v : Value) : (ax_s1 ls i v).length = ls.length := by
  cases i with
  | zero => simp [ax_s1]
  | succ j => simp [ax_s1]
theorem ax_kl_some {o : Option Value} {w : Value} (h : ax_kl o = some w) : o = some w ∧ w.category = 1 := by
  rcases o with _ | v
  · cases h
  · cases v <;> first | (cases h; exact ⟨rfl, rfl⟩) | (cases h; done)
theorem ax_s1_at {ls : List (Option Value)} {i j : Nat} {v w : Value} (h : (ax_s1 ls i v)[j]? = some (some w)) : (j = i ∧ w = v) ∨ (¬ j = i ∧ ls[j]? = some (some w) ∧ (j + 1 = i → w.category = 1)) := by
  by_cases hj : j = i
  · subst hj
    refine Or.inl ⟨rfl, ?_⟩
    cases j with
    | zero =>
      rw [ax_s1, List.getElem?_set] at h
      split at h
      · split at h
        · exact (Option.some.inj (Option.some.inj h)).symm
        · cases h
      · rename_i z; exact absurd rfl z
    | succ m =>
      rw [ax_s1, List.getElem?_set] at h
      split at h
      · split at h
        · exact (Option.some.inj (Option.some.inj h)).symm
        · cases h
      · rename_i z; exact absurd rfl z
  · refine Or.inr ⟨hj, ?_⟩
    cases i with
    | zero =>
      rw [ax_s1, List.getElem?_set, if_neg (fun z => hj z.symm)] at h
      exact ⟨h, fun z => by omega⟩
    | succ m =>
      rw [ax_s1, List.getElem?_set, if_neg (fun z => hj z.symm), List.getElem?_modify] at h
      by_cases hm : m = j
      · subst hm
        simp only [if_true] at h
        cases ho : ls[m]? with
        | none => rw [ho] at h; cases h
        | some o =>
          rw [ho] at h
          have h2 : ax_kl o = some w := Option.some.inj h
          obtain ⟨a, b⟩ := ax_kl_some h2
          exact ⟨by rw [a], fun _ => b⟩
      · have e : (ls[j]?).map (if m = j then ax_kl else id) = ls[j]? := by
          rw [if_neg hm]; simp
        first
          | (rw [if_neg hm] at h; simp at h; exact ⟨h, fun z => by omega⟩)
          | (simp [hm] at h; exact ⟨h, fun z => by omega⟩)
theorem ax_lm.st1 {ad rc : Nat → Nat} {lsA ls' : Array Slot} {ml : Nat} {ls : List (Option Value)} {i : Nat} {v : Value} (h : ax_lm ad rc lsA ml ls) (h' : lv_has ls' ml ((i, ax_v ad rc v) :: (ax_as ad rc ls).filter (fun q => !(q.1 == i) && !(q.1 + 1 == i && q.2.category == 2)))) : ax_lm ad rc ls' ml (ax_s1 ls i v) := by
  refine ⟨h'.1, by rw [ax_s1_len]; exact h.2.1, h'.2.1, fun j w hj => ?_⟩
  rcases ax_s1_at hj with ⟨rfl, rfl⟩ | ⟨h1, h2, h3⟩
  · exact h'.2.2 _ List.mem_cons_self
  · refine h'.2.2 (j, ax_v ad rc w) (List.mem_cons_of_mem _ (List.mem_filter.mpr ⟨ax_as_in h2, ?_⟩))
    by_cases hc : j + 1 = i
    · have := h3 hc
      simp [h1, ax_v_cat, this]
    · simp [h1, hc]
theorem ax_lw.st1 {n : Nat} {ls : List (Option Value)} {i : Nat} {v : Value} (h : ax_lw n ls) (hv : ax_vw n v) : ax_lw n (ax_s1 ls i v) := by
  intro j w hj
  rcases ax_s1_at hj with ⟨rfl, rfl⟩ | ⟨h1, h2, h3⟩
  · exact hv
  · exact h j w h2
theorem ax_s2_at {ls : List (Option Value)} {i j : Nat} {v w : Value} (h : (ax_s2 ls i v)[j]? = some (some w)) : (j = i ∧ w = v) ∨ (¬ j = i ∧ ¬ j = i + 1 ∧ ls[j]? = some (some w) ∧ (j + 1 = i → w.category = 1)) := by
  unfold ax_s2 at h
  rw [List.getElem?_set] at h
  split at h
  · split at h
    · cases h
    · cases h
  · rename_i hne
    rcases ax_s1_at h with h | ⟨h1, h2, h3⟩
    · exact Or.inl h
    · exact Or.inr ⟨h1, fun z => hne z.symm, h2, h3⟩
theorem ax_lm.st2 {ad rc : Nat → Nat} {lsA ls' : Array Slot} {ml : Nat} {ls : List (Option Value)} {i : Nat} {v : Value} (h : ax_lm ad rc lsA ml ls) (h' : lv_has ls' ml ((i, ax_v ad rc v) :: (ax_as ad rc ls).filter (fun q => !(q.1 == i) && (!(q.1 == i + 1) && !(q.1 + 1 == i && q.2.category == 2))))) : ax_lm ad rc ls' ml (ax_s2 ls i v) := by
  refine ⟨h'.1, by unfold ax_s2; rw [List.length_set, ax_s1_len]; exact h.2.1, h'.2.1, fun j w hj => ?_⟩
  rcases ax_s2_at hj with ⟨rfl, rfl⟩ | ⟨h1, h1', h2, h3⟩
  · exact h'.2.2 _ List.mem_cons_self
  · refine h'.2.2 (j, ax_v ad rc w) (List.mem_cons_of_mem _ (List.mem_filter.mpr ⟨ax_as_in h2, ?_⟩))
    by_cases hc : j + 1 = i
    · have := h3 hc
      simp [h1, h1', ax_v_cat, this]
    · simp [h1, h1', hc]
theorem ax_lw.st2 {n : Nat} {ls : List (Option Value)} {i : Nat} {v : Value} (h : ax_lw n ls) (hv : ax_vw n v) : ax_lw n (ax_s2 ls i v) := by
  intro j w hj
  rcases ax_s2_at hj with ⟨rfl, rfl⟩ | ⟨h1, h1', h2, h3⟩
  · exact hv
  · exact h j w h2
theorem ax_lm.ag {ad ad' rc : Nat → Nat} {lsA : Array Slot} {ml n : Nat} {ls : List (Option Value)} (h : ax_lm ad rc lsA ml ls) (hw : ax_lw n ls) (hag : ∀ i, i < n → ad' i = ad i) : ax_lm ad' rc lsA ml ls :=
  ⟨h.1, h.2.1, h.2.2.1, fun i v hv => by rw [ax_v_ag hag (hw i v hv)]; exact h.2.2.2 i v hv⟩
theorem ax_lw.le {n m : Nat} {ls : List (Option Value)} (h : ax_lw n ls) (hn : n ≤ m) : ax_lw m ls := fun i v hv => (h i v hv).le hn
/-! the locals with which a method begins -/
theorem ax_el_sl (ad rc : Nat → Nat) (args : List Value) : (lg_sl (args.map (ax_v ad rc))).length = (ax_el args).length := by
  induction args with
  | nil => rfl
  | cons v vs ih =>
    have e : lg_sl ((v :: vs).map (ax_v ad rc)) = (if (ax_v ad rc v).category = 2 then [Slot.val (ax_v ad rc v), .second] else [.val (ax_v ad rc v)]) ++ lg_sl (vs.map (ax_v ad rc)) := by simp [lg_sl]
    rw [e, List.length_append, ih, ax_v_cat]
    by_cases hc : ax_c1 v = true
    · rw [ax_c1_cat hc]
      simp [ax_el, hc]
      omega
    · rw [ax_c1_cat2 hc]
      simp [ax_el, hc]
      omega
theorem ax_el_at (ad rc : Nat → Nat) (args : List Value) : ∀ (b j : Nat) (w : Value), (ax_el args)[j]? = some (some w) → (b + j, ax_v ad rc w) ∈ lv_args b (args.map (ax_v ad rc)) ∧ w ∈ args := by
  induction args with
  | nil => intro b j w h; simp [ax_el] at h
  | cons v vs ih =>
    intro b j w h
    by_cases hc : ax_c1 v = true
    · have e : ax_el (v :: vs) = some v :: ax_el vs := by simp [ax_el, hc]
      rw [e] at h
      have e2 : lv_args b ((v :: vs).map (ax_v ad rc)) = (b, ax_v ad rc v) :: lv_args (b + 1) (vs.map (ax_v ad rc)) := by
        show (b, ax_v ad rc v) :: lv_args (if (ax_v ad rc v).category = 2 then b + 2 else b + 1) _ = _
        rw [ax_v_cat, ax_c1_cat hc]; rfl
      rw [e2]
      cases j with
      | zero =>
        have : v = w := by simpa using h
        subst this
        exact ⟨List.mem_cons_self, List.mem_cons_self⟩
      | succ j =>
        obtain ⟨a, c⟩ := ih (b + 1) j w (by simpa using h)
        exact ⟨List.mem_cons_of_mem _ (by rw [show b + (j + 1) = b + 1 + j by omega]; exact a), List.mem_cons_of_mem _ c⟩
    · have e : ax_el (v :: vs) = some v :: none :: ax_el vs := by simp [ax_el, hc]
      rw [e] at h
      have e2 : lv_args b ((v :: vs).map (ax_v ad rc)) = (b, ax_v ad rc v) :: lv_args (b + 2) (vs.map (ax_v ad rc)) := by
        show (b, ax_v ad rc v) :: lv_args (if (ax_v ad rc v).category = 2 then b + 2 else b + 1) _ = _
        rw [ax_v_cat, ax_c1_cat2 hc]; rfl
      rw [e2]
      rcases j with _ | _ | j
      · have : v = w := by simpa using h
        subst this
        exact ⟨List.mem_cons_self, List.mem_cons_self⟩
      · simp at h
      · obtain ⟨a, c⟩ := ih (b + 2) j w (by simpa using h)
        exact ⟨List.mem_cons_of_mem _ (by rw [show b + (j + 1 + 1) = b + 2 + j by omega]; exact a), List.mem_cons_of_mem _ c⟩
theorem ax_en_at {ml : Nat} {args : List Value} {j : Nat} {w : Value} (h : (ax_en ml args)[j]? = some (some w)) : (ax_el args)[j]? = some (some w) := by
  unfold ax_en at h
  by_cases hj : j < (ax_el args).length
  · rwa [List.getElem?_append_left hj] at h
  · rw [List.getElem?_append_right (by omega)] at h
    have := List.eq_of_mem_replicate (List.mem_of_getElem? h)
    cases this
theorem ax_en_lm (ad rc : Nat → Nat) {ml : Nat} {args : List Value} (h : (ax_el args).length ≤ ml) : ax_lm ad rc ((lg_sl (args.map (ax_v ad rc)) ++ List.replicate (ml - (lg_sl (args.map (ax_v ad rc))).length) Slot.unset).toArray) ml (ax_en ml args) := by
  have hl := lv_entry (args.map (ax_v ad rc)) (n := ml) (by rw [ax_el_sl]; exact h)
  refine ⟨hl.1, by simp [ax_en]; omega, hl.2.1, fun i v hv => ?_⟩
  have := (ax_el_at ad rc args 0 i v (ax_en_at hv)).1
  rw [Nat.zero_add] at this
  exact hl.2.2 _ this
theorem ax_en_lw {n ml : Nat} {args : List Value} (h : ∀ v ∈ args, ax_vw n v) : ax_lw n (ax_en ml args) := fun i v hv => h v (ax_el_at id id args 0 i v (ax_en_at hv)).2
